set_option maxRecDepth 20000 in
set_option maxHeartbeats 20000000 in
theorem xh_lkL {l : Launch} {p : Program} {e : Env} {s : State} {m : MethodId} {args : Array Value} {below : List Frame} {meth : Method} {c : Code} {Q : State → Prop} {D : va_G} {dA : Nat → ClassId} {A : Nat → Prop} {al : List (Nat × Nat)} (C0 : sa_C p s m args c D dA A 7 vwCl sa_Ts cX11_look yX11_look.cls) (hU : sa_U D vwCl dA s) (hO : tb_Ou A s s.heap) (hKL : al.map Prod.snd = tc_KL) {v nm : Nat → Int} {v9 : Int} {w : Nat} {μ : xw_M} (hG : xw_G xw_GL μ) (hr9 : -2147483648 ≤ v9 ∧ v9 ≤ 2147483647) (hK : hp_ok v nm) (hE : hx_E v 4 μ) (eS : v9 = ((hx_bs (fun j => w.testBit j) (v 1).toNat : Nat) : Int)) (kx : xw_W p l e { frames := 5, cells := 0, slots := 0, locals := 190 } s m args below meth c Q D dA A 7 vwCl tb_KT0 al 0 0 μ 80 [(0, .ref (xw_ad al 0)), (3, .int (Int32.ofInt ((hx_bb v (fun j => w.testBit j) (v 1).toNat (v 0).toNat : Nat) : Int))), (4, .int (Int32.ofInt (hx_ml v (fun j => w.testBit j) (hx_bb v (fun j => w.testBit j) (v 1).toNat (v 0).toNat) (v 1).toNat (v 1).toNat)))] []) : ∀ (fu9 : Nat) (k : Nat), ((v 0).toNat : Int) - (k : Int) < (fu9 : Int) → 1 ≤ k → k ≤ (v 0).toNat → xw_W p l e { frames := 5, cells := 0, slots := 0, locals := 190 } s m args below meth c Q D dA A 7 vwCl tb_KT0 al 0 0 μ 42 [(0, .ref (xw_ad al 0)), (1, .int (Int32.ofInt v9)), (2, .ref (xw_ad al 4)), (3, .int (Int32.ofInt ((hx_bb v (fun j => w.testBit j) (v 1).toNat k : Nat) : Int))), (4, .int (Int32.ofInt (hx_ml v (fun j => w.testBit j) (hx_bb v (fun j => w.testBit j) (v 1).toNat k) (v 1).toNat (v 1).toNat))), (5, .int (Int32.ofInt (k : Int)))] [] := by
  intro fu9
  induction fu9 with
  | zero => intro k hm hk1 hk; exfalso; omega
  | succ fu9 ih =>
    intro k hm hk1 hk
    have k0 := hK.1
    have k1 := hK.2.1
    have c0 : μ 4 13 = v 0 := hE.1.1
    have c1 : μ 4 14 = v 1 := hE.1.2.1
    have b8 := hx_mlB (v := v) (p := (fun j => w.testBit j)) (T := hx_bb v (fun j => w.testBit j) (v 1).toNat k) (M := (v 1).toNat) (v 1).toNat
    have b7 := hx_bbB (v := v) (p := (fun j => w.testBit j)) (M := (v 1).toNat) k
    refine xw_iload (pc := 42) C0 5 dX11_look_42 rfl ?_
    refine xw_aload_n (pc := 44) C0 2 dX11_look_44 rfl rfl ?_
    refine xw_getI (pc := 45) (f := 13) (z := μ 4 13) C0 kcX2 dX11_look_45 (by decide +kernel) tv_100 (xj_4 hKL) xk_28 rfl (rfl) (fun g1 k1 => ?_)
    refine xw_icmp_ge (pc := 48) (tgt := 80) C0 (by omega) (by omega) dX11_look_48 rfl (fun b2 => ?_) (fun b2 => ?_)
    · have e9 : k = (v 0).toNat := by omega
      subst e9
      refine xw_pk [0, 3, 4] (L' := [(0, .ref (xw_ad al 0)), (3, .int (Int32.ofInt ((hx_bb v (fun j => w.testBit j) (v 1).toNat (v 0).toNat : Nat) : Int))), (4, .int (Int32.ofInt (hx_ml v (fun j => w.testBit j) (hx_bb v (fun j => w.testBit j) (v 1).toNat (v 0).toNat) (v 1).toNat (v 1).toNat)))]) rfl ?_
      exact kx
    · refine xw_aload_n (pc := 51) C0 2 dX11_look_51 rfl rfl ?_
      refine xw_iload (pc := 52) C0 5 dX11_look_52 rfl ?_
      refine xw_iload_n (pc := 54) C0 1 dX11_look_54 rfl rfl ?_
      refine xw_nI (congrArg Int32.ofInt eS) ?_
      refine xw_callVI (pc := 55) (μ := μ) (ci := 2) (rest := []) (As := [.int (Int32.ofInt (k : Int)), .int (Int32.ofInt ((hx_bs (fun j => w.testBit j) (v 1).toNat : Nat) : Int))]) C0 hU hO sa_Tg hKL (xq_mostLeft (l := l) (v := v) (nm := nm) (ps := (fun j => w.testBit j)) (T := k) hG hK hE (by omega)) tv_832 dX11_look_55 tv_829 tv_830 tv_831 tv_4 rfl yb_X2_mostLeft (by decide +kernel) rfl rfl rfl (by decide +kernel) (Nat.le_of_ble_eq_true rfl) (xj_4 hKL) xk_28 (fun r3 m3 w3 => ?_)
      obtain ⟨rfl, rfl⟩ := w3
      have o3 := hx_mlB (v := v) (p := (fun j => w.testBit j)) (T := k) (M := (v 1).toNat) (v 1).toNat
      refine xw_istore (pc := 58) (L' := [(6, .int (Int32.ofInt (hx_ml v (fun j => w.testBit j) k (v 1).toNat (v 1).toNat))), (0, .ref (xw_ad al 0)), (1, .int (Int32.ofInt v9)), (2, .ref (xw_ad al 4)), (3, .int (Int32.ofInt ((hx_bb v (fun j => w.testBit j) (v 1).toNat k : Nat) : Int))), (4, .int (Int32.ofInt (hx_ml v (fun j => w.testBit j) (hx_bb v (fun j => w.testBit j) (v 1).toNat k) (v 1).toNat (v 1).toNat))), (5, .int (Int32.ofInt (k : Int)))]) C0 dX11_look_58 (by decide +kernel) rfl ?_
      refine xw_iload (pc := 60) C0 0 dX11_look_60 rfl ?_
      refine xw_iload (pc := 62) C0 5 dX11_look_62 rfl ?_
      refine xw_icmp_ge (pc := 64) (tgt := 74) C0 (by omega) (by omega) dX11_look_64 rfl (fun b4 => ?_) (fun b4 => ?_)
      · refine xw_iinc (pc := 74) (L' := [(5, .int (Int32.ofInt ((k : Int) + 1))), (6, .int (Int32.ofInt (hx_ml v (fun j => w.testBit j) k (v 1).toNat (v 1).toNat))), (0, .ref (xw_ad al 0)), (1, .int (Int32.ofInt v9)), (2, .ref (xw_ad al 4)), (3, .int (Int32.ofInt ((hx_bb v (fun j => w.testBit j) (v 1).toNat k : Nat) : Int))), (4, .int (Int32.ofInt (hx_ml v (fun j => w.testBit j) (hx_bb v (fun j => w.testBit j) (v 1).toNat k) (v 1).toNat (v 1).toNat)))]) C0 6 dX11_look_74 rfl (by decide +kernel) rfl ?_
        refine xw_goto (pc := 77) (tgt := 42) C0 dX11_look_77 rfl ?_
        have e3 : hx_bb v (fun j => w.testBit j) (v 1).toNat (k + 1) = hx_bb v (fun j => w.testBit j) (v 1).toNat k := by
          rw [hx_bbe]
          exact if_neg (by omega)
        have e1 : (k : Int) + 1 = ((k + 1 : Nat) : Int) := by omega
        refine xw_pk [2, 3, 4, 5, 6, 0] (L' := [(0, .ref (xw_ad al 0)), (1, .int (Int32.ofInt v9)), (2, .ref (xw_ad al 4)), (3, .int (Int32.ofInt ((hx_bb v (fun j => w.testBit j) (v 1).toNat k : Nat) : Int))), (4, .int (Int32.ofInt (hx_ml v (fun j => w.testBit j) (hx_bb v (fun j => w.testBit j) (v 1).toNat k) (v 1).toNat (v 1).toNat))), (5, .int (Int32.ofInt ((k : Int) + 1)))]) rfl ?_
        rw [e1]
        have z9 := ih (k + 1) (by omega) (by omega) (by omega)
        rw [e3] at z9
        exact z9
      · refine xw_iload (pc := 67) C0 6 dX11_look_67 rfl ?_
        refine xw_istore_n (pc := 69) (L' := [(3, .int (Int32.ofInt (k : Int))), (6, .int (Int32.ofInt (hx_ml v (fun j => w.testBit j) k (v 1).toNat (v 1).toNat))), (0, .ref (xw_ad al 0)), (1, .int (Int32.ofInt v9)), (2, .ref (xw_ad al 4)), (4, .int (Int32.ofInt (hx_ml v (fun j => w.testBit j) (hx_bb v (fun j => w.testBit j) (v 1).toNat k) (v 1).toNat (v 1).toNat))), (5, .int (Int32.ofInt (k : Int)))]) C0 dX11_look_69 rfl (by decide +kernel) rfl ?_
        refine xw_iload (pc := 70) C0 1 dX11_look_70 rfl ?_
        refine xw_istore (pc := 72) (L' := [(4, .int (Int32.ofInt (hx_ml v (fun j => w.testBit j) k (v 1).toNat (v 1).toNat))), (3, .int (Int32.ofInt (k : Int))), (6, .int (Int32.ofInt (hx_ml v (fun j => w.testBit j) k (v 1).toNat (v 1).toNat))), (0, .ref (xw_ad al 0)), (1, .int (Int32.ofInt v9)), (2, .ref (xw_ad al 4)), (5, .int (Int32.ofInt (k : Int)))]) C0 dX11_look_72 (by decide +kernel) rfl ?_
        refine xw_iinc (pc := 74) (L' := [(5, .int (Int32.ofInt ((k : Int) + 1))), (4, .int (Int32.ofInt (hx_ml v (fun j => w.testBit j) k (v 1).toNat (v 1).toNat))), (3, .int (Int32.ofInt (k : Int))), (6, .int (Int32.ofInt (hx_ml v (fun j => w.testBit j) k (v 1).toNat (v 1).toNat))), (0, .ref (xw_ad al 0)), (1, .int (Int32.ofInt v9)), (2, .ref (xw_ad al 4))]) C0 6 dX11_look_74 rfl (by decide +kernel) rfl ?_
        refine xw_goto (pc := 77) (tgt := 42) C0 dX11_look_77 rfl ?_
        have e3 : hx_bb v (fun j => w.testBit j) (v 1).toNat (k + 1) = k := by
          rw [hx_bbe]
          exact if_pos (by omega)
        have e1 : (k : Int) + 1 = ((k + 1 : Nat) : Int) := by omega
        refine xw_pk [4, 5, 6, 2, 1, 0] (L' := [(0, .ref (xw_ad al 0)), (1, .int (Int32.ofInt v9)), (2, .ref (xw_ad al 4)), (3, .int (Int32.ofInt (k : Int))), (4, .int (Int32.ofInt (hx_ml v (fun j => w.testBit j) k (v 1).toNat (v 1).toNat))), (5, .int (Int32.ofInt ((k : Int) + 1)))]) rfl ?_
        rw [e1]
        have z9 := ih (k + 1) (by omega) (by omega) (by omega)
        rw [e3] at z9
        exact z9
set_option maxRecDepth 20000 in
set_option maxHeartbeats 20000000 in
theorem xh_lookV {l : Launch} {v nm : Nat → Int} {v9 : Int} {μ : xw_M} (hG : xw_G xw_GL μ) (hr9 : -2147483648 ≤ v9 ∧ v9 ≤ 2147483647) (hK : hp_ok v nm) (hE : hx_E v 4 μ) : xw_MetI l vwCl sa_Ts tb_KT0 tc_KL yX11_look cX11_look 7 (some .int) 5 190 (fun ad => [.ref (ad 0), .int (Int32.ofInt v9)]) μ (fun r μ' => (((1 ≤ v9 ∧ v9 < 2 ^ (v 1).toNat) ∧ r = ((hx_lk v v9.toNat : Nat) : Int) ∧ μ' 0 15 = hx_lf v v9.toNat) ∨ (¬ (1 ≤ v9 ∧ v9 < 2 ^ (v 1).toNat) ∧ r = -1 ∧ μ' 0 15 = μ 0 15)) ∧ xw_F [(0, 15, 15)] μ μ') :=
  xw_of (by decide +kernel) (fun _ => Nat.le_of_ble_eq_true rfl) (fun p e s m args below meth c D dA A al w0 sz C0 hU hO hKL hr hlk hA => by
    have k0 := hK.1
    have k1 := hK.2.1
    have c0 : μ 4 13 = v 0 := hE.1.1
    have c1 : μ 4 14 = v 1 := hE.1.2.1
    refine xw_aload_n (pc := 0) C0 0 dX11_look_0 rfl rfl ?_
    refine xw_getR (pc := 1) (f := 1) C0 3 kcX11 dX11_look_1 (by decide +kernel) tv_423 (xj_0 hKL) xk_27 rfl ((rfl).trans (xe_0_1 hG)) ?_
    refine xw_getR (pc := 4) (f := 0) C0 4 kcX10 dX11_look_4 (by decide +kernel) tv_234 (xj_3 hKL) xk_24 rfl ((rfl).trans (xe_3_0 hG)) ?_
    refine xw_astore_n (pc := 7) (L' := [(2, .ref (xw_ad al 4)), (0, .ref (xw_ad al 0)), (1, .int (Int32.ofInt v9))]) C0 dX11_look_7 rfl (by decide +kernel) rfl ?_
    refine xw_iload_n (pc := 8) C0 2 dX11_look_8 rfl rfl ?_
    refine xw_if_eq (pc := 9) (tgt := 27) C0 (by omega) dX11_look_9 rfl (fun b1 => ?_) (fun b1 => ?_)
    · refine xw_iconst (pc := 27) C0 dX11_look_27 ?_
      refine xw_iret C0 hA hr hlk rfl dX11_look_28 ?_
      exact ⟨_, rfl, Or.inr ⟨fun q => by first | omega | exact absurd (z9.mpr ⟨by omega, q.2⟩) (by omega), rfl, rfl⟩, (xw_F.rf (ML := [(0, 15, 15)]))⟩
    · refine xw_iload_n (pc := 12) C0 2 dX11_look_12 rfl rfl ?_
      refine xw_iconst (pc := 13) C0 dX11_look_13 ?_
      refine xw_aload_n (pc := 14) C0 0 dX11_look_14 rfl rfl ?_
      refine xw_getI (pc := 15) (f := 14) (z := μ 4 14) C0 kcX2 dX11_look_15 (by decide +kernel) tv_104 (xj_4 hKL) xk_28 rfl (rfl) (fun g2 k2 => ?_)
      refine xw_nI (pc := 18) (congrArg Int32.ofInt (show μ 4 14 = (((v 1).toNat : Nat) : Int) by omega)) ?_
      refine xw_ishl (pc := 18) C0 dX11_look_18 (xb_shM (f := (v 1).toNat) (by omega)) ?_
      refine xw_iconst (pc := 19) C0 dX11_look_19 ?_
      refine xw_isub (pc := 20) C0 dX11_look_20 ?_
      refine xw_iconst (pc := 21) C0 dX11_look_21 ?_
      obtain ⟨y9, hy9, iy9⟩ := xb_wi (Int32.ofInt (2 ^ (v 1).toNat - 1) ^^^ Int32.ofInt (-1))
      refine xw_ixor (pc := 22) C0 dX11_look_22 iy9 ?_
      obtain ⟨y8, hy8, iy8⟩ := xb_wi (Int32.ofInt v9 &&& Int32.ofInt y9)
      have z9 := xb_msk (x := v9) (y := y8) (k := (v 1).toNat) hr9 (by omega) (by omega) (by rw [iy9]; exact iy8)
      refine xw_iand (pc := 23) C0 dX11_look_23 iy8 ?_
      refine xw_if_eq (pc := 24) (tgt := 29) C0 (by omega) dX11_look_24 rfl (fun b3 => ?_) (fun b3 => ?_)
      · refine xw_iconst (pc := 29) C0 dX11_look_29 ?_
        refine xw_istore_n (pc := 30) (L' := [(3, .int (Int32.ofInt 0)), (2, .ref (xw_ad al 4)), (0, .ref (xw_ad al 0)), (1, .int (Int32.ofInt v9))]) C0 dX11_look_30 rfl (by decide +kernel) rfl ?_
        refine xw_aload_n (pc := 31) C0 1 dX11_look_31 rfl rfl ?_
        refine xw_iconst (pc := 32) C0 dX11_look_32 ?_
        refine xw_iload_n (pc := 33) C0 3 dX11_look_33 rfl rfl ?_
        have hlt := (z9.mp (by omega)).2
        have hge := (z9.mp (by omega)).1
        obtain ⟨w, hw⟩ : ∃ w : Nat, v9 = (w : Int) := ⟨v9.toNat, by omega⟩
        have e2p : ((2 ^ (v 1).toNat : Nat) : Int) = (2 : Int) ^ (v 1).toNat := by push_cast; rfl
        have eS : v9 = ((hx_bs (fun j => w.testBit j) (v 1).toNat : Nat) : Int) := by
          rw [hx_wB (w := w) (m := (v 1).toNat) (by omega)]
          exact hw
        have e8 : v9.toNat = w := by omega
        have h2p : (1 : Int) ≤ v 1 := by
          rcases (show v 1 = 0 ∨ 1 ≤ v 1 by omega) with q | q
          · rw [show (v 1).toNat = 0 by omega] at hlt
            have z9 : (2 : Int) ^ 0 = 1 := rfl
            omega
          · exact q
        have hTh := hx_okT hK h2p
        refine xw_nI (congrArg Int32.ofInt eS) ?_
        refine xw_callVI (pc := 34) (μ := μ) (ci := 2) (rest := []) (As := [.int (Int32.ofInt 0), .int (Int32.ofInt ((hx_bs (fun j => w.testBit j) (v 1).toNat : Nat) : Int))]) C0 hU hO sa_Tg hKL (xq_mostLeft (l := l) (v := v) (nm := nm) (ps := (fun j => w.testBit j)) (T := 0) hG hK hE (by omega)) tv_832 dX11_look_34 tv_829 tv_830 tv_831 tv_4 rfl yb_X2_mostLeft (by decide +kernel) rfl rfl rfl (by decide +kernel) (Nat.le_of_ble_eq_true rfl) (xj_4 hKL) xk_28 (fun r4 m4 w4 => ?_)
        obtain ⟨rfl, rfl⟩ := w4
        have o4 := hx_mlB (v := v) (p := (fun j => w.testBit j)) (T := 0) (M := (v 1).toNat) (v 1).toNat
        refine xw_istore (pc := 37) (L' := [(4, .int (Int32.ofInt (hx_ml v (fun j => w.testBit j) 0 (v 1).toNat (v 1).toNat))), (3, .int (Int32.ofInt 0)), (2, .ref (xw_ad al 4)), (0, .ref (xw_ad al 0)), (1, .int (Int32.ofInt v9))]) C0 dX11_look_37 (by decide +kernel) rfl ?_
        refine xw_iconst (pc := 39) C0 dX11_look_39 ?_
        refine xw_istore (pc := 40) (L' := [(5, .int (Int32.ofInt 1)), (4, .int (Int32.ofInt (hx_ml v (fun j => w.testBit j) 0 (v 1).toNat (v 1).toNat))), (3, .int (Int32.ofInt 0)), (2, .ref (xw_ad al 4)), (0, .ref (xw_ad al 0)), (1, .int (Int32.ofInt v9))]) C0 dX11_look_40 (by decide +kernel) rfl ?_
        have y1 := hx_bb1 v (fun j => w.testBit j) (v 1).toNat
        have b6 := hx_mlB (v := v) (p := (fun j => w.testBit j)) (T := hx_bb v (fun j => w.testBit j) (v 1).toNat (v 0).toNat) (M := (v 1).toNat) (v 1).toNat
        have y2 : ((hx_bb v (fun j => w.testBit j) (v 1).toNat 1 : Nat) : Int) = 0 := by rw [y1]; rfl
        have y3 : hx_ml v (fun j => w.testBit j) 0 (v 1).toNat (v 1).toNat = hx_ml v (fun j => w.testBit j) (hx_bb v (fun j => w.testBit j) (v 1).toNat 1) (v 1).toNat (v 1).toNat := by rw [y1]
        refine xw_pk [4, 5, 3, 2, 1, 0] (L' := [(0, .ref (xw_ad al 0)), (1, .int (Int32.ofInt v9)), (2, .ref (xw_ad al 4)), (3, .int (Int32.ofInt ((hx_bb v (fun j => w.testBit j) (v 1).toNat 1 : Nat) : Int))), (4, .int (Int32.ofInt (hx_ml v (fun j => w.testBit j) (hx_bb v (fun j => w.testBit j) (v 1).toNat 1) (v 1).toNat (v 1).toNat))), (5, .int (Int32.ofInt ((1 : Nat) : Int)))]) (by rw [y2, ← y3]; try rfl) ?_
        refine xh_lkL (v := v) (nm := nm) (v9 := v9) (w := w) (μ := μ) C0 hU hO hKL hG hr9 hK hE eS ?_ 9 1 (by omega) (Nat.le_refl 1) (by omega)
        refine xw_aload_n (pc := 80) C0 0 dX11_look_80 rfl rfl ?_
        refine xw_iload (pc := 81) C0 2 dX11_look_81 rfl ?_
        refine xw_putI (pc := 83) (f := 15) C0 kcX11 dX11_look_83 (by decide +kernel) tv_437 rfl rfl (xj_0 hKL) xk_27 rfl (by omega) (by omega) ?_
        refine xw_iload_n (pc := 86) C0 1 dX11_look_86 rfl rfl ?_
        refine xw_iret C0 hA hr hlk rfl dX11_look_87 ?_
        exact ⟨_, rfl, Or.inl ⟨⟨by omega, hlt⟩, by rw [e8]; rfl, by rw [e8]; exact xw_ug⟩, ((xw_F.rf (ML := [(0, 15, 15)])).u (show (0, 15, 15) ∈ _ by decide) ⟨by decide, by decide⟩)⟩
      · refine xw_iconst (pc := 27) C0 dX11_look_27 ?_
        refine xw_iret C0 hA hr hlk rfl dX11_look_28 ?_
        exact ⟨_, rfl, Or.inr ⟨fun q => by first | omega | exact absurd (z9.mpr ⟨by omega, q.2⟩) (by omega), rfl, rfl⟩, (xw_F.rf (ML := [(0, 15, 15)]))⟩)
set_option maxRecDepth 20000 in
set_option maxHeartbeats 20000000 in
theorem xr_lkL {l : Launch} {p : Program} {e : Env} {s : State} {m : MethodId} {args : Array Value} {below : List Frame} {meth : Method} {c : Code} {Q : State → Prop} {D : va_G} {dA : Nat → ClassId} {A : Nat → Prop} {al : List (Nat × Nat)} (C0 : sa_C p s m args c D dA A 4 vwCl sa_Ts cX12_look yX12_look.cls) (hU : sa_U D vwCl dA s) (hO : tb_Ou A s s.heap) (hKL : al.map Prod.snd = tc_KL) {v nm : Nat → Int} {v9 : Int} {w : Nat} {μ : xw_M} (hG : xw_G xw_GL μ) (hr9 : -2147483648 ≤ v9 ∧ v9 ≤ 2147483647) (hK : hp_ok v nm) (hN : ∀ k : Nat, k < 77 → μ 202 k = v k) (eS : v9 = ((hx_bs (fun j => w.testBit j) (v 1).toNat : Nat) : Int)) (kx : xw_W p l e { frames := 4, cells := 0, slots := 0, locals := 168 } s m args below meth c Q D dA A 4 vwCl tb_KT0 al 0 0 μ 66 [(0, .ref (xw_ad al 200)), (1, .int (Int32.ofInt v9)), (2, .int (Int32.ofInt (hx_b0 v (fun j => w.testBit j) (v 1).toNat (v 0).toNat)))] []) : ∀ (fu9 : Nat) (k : Nat), ((v 0).toNat : Int) - (k : Int) < (fu9 : Int) → k ≤ (v 0).toNat → xw_W p l e { frames := 4, cells := 0, slots := 0, locals := 168 } s m args below meth c Q D dA A 4 vwCl tb_KT0 al 0 0 μ 28 [(0, .ref (xw_ad al 200)), (1, .int (Int32.ofInt v9)), (2, .int (Int32.ofInt (hx_b0 v (fun j => w.testBit j) (v 1).toNat k))), (3, .int (Int32.ofInt (k : Int)))] [] := by
  intro fu9
  induction fu9 with
  | zero => intro k hm hk; exfalso; omega
  | succ fu9 ih =>
    intro k hm hk
    have k0 := hK.1
    have k1 := hK.2.1
    have s9 := hx_b0S v (fun j => w.testBit j) (v 1).toNat k
    have b7 := hx_bbB (v := v) (p := (fun j => w.testBit j)) (M := (v 1).toNat) k
    refine xw_iload_n (pc := 28) C0 3 dX12_look_28 rfl rfl ?_
    refine xw_aload_n (pc := 29) C0 0 dX12_look_29 rfl rfl ?_
    refine xw_getR (pc := 30) (f := 14) C0 202 kcX12 dX12_look_30 (by decide +kernel) tv_1275 (xj_200 hKL) xk_0 rfl ((rfl).trans (xe_200_14 hG)) ?_
    refine xw_iconst (pc := 33) C0 dX12_look_33 ?_
    refine xw_iald (pc := 34) (z := v 0) C0 dX12_look_34 (xj_202 hKL) xk_1 (by omega) (by decide +kernel) rfl (hN 0 (by decide +kernel)) (fun g1 k1 => ?_)
    refine xw_icmp_ge (pc := 35) (tgt := 66) C0 (by omega) (by omega) dX12_look_35 rfl (fun b2 => ?_) (fun b2 => ?_)
    · have e9 : k = (v 0).toNat := by omega
      subst e9
      refine xw_pk [0, 1, 2] (L' := [(0, .ref (xw_ad al 200)), (1, .int (Int32.ofInt v9)), (2, .int (Int32.ofInt (hx_b0 v (fun j => w.testBit j) (v 1).toNat (v 0).toNat)))]) rfl ?_
      exact kx
    · refine xw_iload_n (pc := 38) C0 2 dX12_look_38 rfl rfl ?_
      refine xw_iconst (pc := 39) C0 dX12_look_39 ?_
      refine xw_icmp_eq (pc := 40) (tgt := 58) C0 (by omega) (by omega) dX12_look_40 rfl (fun b3 => ?_) (fun b3 => ?_)
      · refine xw_iload_n (pc := 58) C0 3 dX12_look_58 rfl rfl ?_
        refine xw_istore_n (pc := 59) (L' := [(2, .int (Int32.ofInt (k : Int))), (0, .ref (xw_ad al 200)), (1, .int (Int32.ofInt v9)), (3, .int (Int32.ofInt (k : Int)))]) C0 dX12_look_59 rfl (by decide +kernel) rfl ?_
        refine xw_iinc (pc := 60) (L' := [(3, .int (Int32.ofInt ((k : Int) + 1))), (2, .int (Int32.ofInt (k : Int))), (0, .ref (xw_ad al 200)), (1, .int (Int32.ofInt v9))]) C0 3 dX12_look_60 rfl (by decide +kernel) rfl ?_
        refine xw_goto (pc := 63) (tgt := 28) C0 dX12_look_63 rfl ?_
        have e4 : hx_b0 v (fun j => w.testBit j) (v 1).toNat (k + 1) = (k : Int) := by
          show ((hx_bb v (fun j => w.testBit j) (v 1).toNat (k + 1) : Nat) : Int) = _
          rw [hx_bbe]
          rcases s9 with ⟨q1, q2⟩ | ⟨q1, q2⟩
          · subst q1
            split <;> rfl
          · rw [if_pos (by omega)]
        have e1 : (k : Int) + 1 = ((k + 1 : Nat) : Int) := by omega
        rw [e1, ← e4]
        refine xw_pk [2, 3, 1, 0] (L' := [(0, .ref (xw_ad al 200)), (1, .int (Int32.ofInt v9)), (2, .int (Int32.ofInt (hx_b0 v (fun j => w.testBit j) (v 1).toNat (k + 1)))), (3, .int (Int32.ofInt ((k + 1 : Nat) : Int)))]) rfl ?_
        exact ih (k + 1) (by omega) (by omega)
      · refine xw_aload_n (pc := 43) C0 0 dX12_look_43 rfl rfl ?_
        refine xw_iload_n (pc := 44) C0 3 dX12_look_44 rfl rfl ?_
        refine xw_iload_n (pc := 45) C0 1 dX12_look_45 rfl rfl ?_
        refine xw_nI (congrArg Int32.ofInt eS) ?_
        refine xw_callVI (pc := 46) (μ := μ) (ci := 12) (rest := []) (As := [.int (Int32.ofInt (k : Int)), .int (Int32.ofInt ((hx_bs (fun j => w.testBit j) (v 1).toNat : Nat) : Int))]) C0 hU hO sa_Tg hKL (xr_groupAt (l := l) (v := v) (nm := nm) (ps := (fun j => w.testBit j)) (T := k) (μ := μ) hG hK hN (by omega)) tv_1731 dX12_look_46 tv_1728 tv_1730 tq_X12_groupAt tv_13 rfl yb_X12_groupAt (by decide +kernel) rfl rfl rfl (by decide +kernel) (Nat.le_of_ble_eq_true rfl) (xj_200 hKL) xk_0 (fun r4 m4 w4 => ?_)
        obtain ⟨rfl, rfl⟩ := w4
        have o4 := hx_mlB (v := v) (p := (fun j => w.testBit j)) (T := k) (M := (v 1).toNat) (v 1).toNat
        refine xw_aload_n (pc := 49) C0 0 dX12_look_49 rfl rfl ?_
        refine xw_iload_n (pc := 50) C0 2 dX12_look_50 rfl rfl ?_
        refine xw_nI (congrArg Int32.ofInt (show hx_b0 v (fun j => w.testBit j) (v 1).toNat k = ((hx_bb v (fun j => w.testBit j) (v 1).toNat k : Nat) : Int) by omega)) ?_
        refine xw_iload_n (pc := 51) C0 1 dX12_look_51 rfl rfl ?_
        refine xw_nI (congrArg Int32.ofInt eS) ?_
        refine xw_callVI (pc := 52) (μ := μ) (ci := 12) (rest := [.int (Int32.ofInt (hx_ml v (fun j => w.testBit j) k (v 1).toNat (v 1).toNat))]) (As := [.int (Int32.ofInt ((hx_bb v (fun j => w.testBit j) (v 1).toNat k : Nat) : Int)), .int (Int32.ofInt ((hx_bs (fun j => w.testBit j) (v 1).toNat : Nat) : Int))]) C0 hU hO sa_Tg hKL (xr_groupAt (l := l) (v := v) (nm := nm) (ps := (fun j => w.testBit j)) (T := (hx_bb v (fun j => w.testBit j) (v 1).toNat k)) (μ := μ) hG hK hN (by omega)) tv_1731 dX12_look_52 tv_1728 tv_1730 tq_X12_groupAt tv_13 rfl yb_X12_groupAt (by decide +kernel) rfl rfl rfl (by decide +kernel) (Nat.le_of_ble_eq_true rfl) (xj_200 hKL) xk_0 (fun r5 m5 w5 => ?_)
        obtain ⟨rfl, rfl⟩ := w5
        have o5 := hx_mlB (v := v) (p := (fun j => w.testBit j)) (T := (hx_bb v (fun j => w.testBit j) (v 1).toNat k)) (M := (v 1).toNat) (v 1).toNat
        refine xw_icmp_ge (pc := 55) (tgt := 60) C0 (by omega) (by omega) dX12_look_55 rfl (fun b6 => ?_) (fun b6 => ?_)
        · refine xw_iinc (pc := 60) (L' := [(3, .int (Int32.ofInt ((k : Int) + 1))), (0, .ref (xw_ad al 200)), (1, .int (Int32.ofInt v9)), (2, .int (Int32.ofInt (hx_b0 v (fun j => w.testBit j) (v 1).toNat k)))]) C0 3 dX12_look_60 rfl (by decide +kernel) rfl ?_
          refine xw_goto (pc := 63) (tgt := 28) C0 dX12_look_63 rfl ?_
          have e4 : hx_b0 v (fun j => w.testBit j) (v 1).toNat (k + 1) = hx_b0 v (fun j => w.testBit j) (v 1).toNat k := by
            show ((hx_bb v (fun j => w.testBit j) (v 1).toNat (k + 1) : Nat) : Int) = _
            rw [hx_bbe]
            rw [if_neg (by omega)]
            omega
          have e1 : (k : Int) + 1 = ((k + 1 : Nat) : Int) := by omega
          rw [e1, ← e4]
          refine xw_pk [1, 2, 3, 0] (L' := [(0, .ref (xw_ad al 200)), (1, .int (Int32.ofInt v9)), (2, .int (Int32.ofInt (hx_b0 v (fun j => w.testBit j) (v 1).toNat (k + 1)))), (3, .int (Int32.ofInt ((k + 1 : Nat) : Int)))]) rfl ?_
          exact ih (k + 1) (by omega) (by omega)
        · refine xw_iload_n (pc := 58) C0 3 dX12_look_58 rfl rfl ?_
          refine xw_istore_n (pc := 59) (L' := [(2, .int (Int32.ofInt (k : Int))), (0, .ref (xw_ad al 200)), (1, .int (Int32.ofInt v9)), (3, .int (Int32.ofInt (k : Int)))]) C0 dX12_look_59 rfl (by decide +kernel) rfl ?_
          refine xw_iinc (pc := 60) (L' := [(3, .int (Int32.ofInt ((k : Int) + 1))), (2, .int (Int32.ofInt (k : Int))), (0, .ref (xw_ad al 200)), (1, .int (Int32.ofInt v9))]) C0 3 dX12_look_60 rfl (by decide +kernel) rfl ?_
          refine xw_goto (pc := 63) (tgt := 28) C0 dX12_look_63 rfl ?_
          have e4 : hx_b0 v (fun j => w.testBit j) (v 1).toNat (k + 1) = (k : Int) := by
            show ((hx_bb v (fun j => w.testBit j) (v 1).toNat (k + 1) : Nat) : Int) = _
            rw [hx_bbe]
            rcases s9 with ⟨q1, q2⟩ | ⟨q1, q2⟩
            · subst q1
              split <;> rfl
            · rw [if_pos (by omega)]
          have e1 : (k : Int) + 1 = ((k + 1 : Nat) : Int) := by omega
          rw [e1, ← e4]
          refine xw_pk [2, 3, 1, 0] (L' := [(0, .ref (xw_ad al 200)), (1, .int (Int32.ofInt v9)), (2, .int (Int32.ofInt (hx_b0 v (fun j => w.testBit j) (v 1).toNat (k + 1)))), (3, .int (Int32.ofInt ((k + 1 : Nat) : Int)))]) rfl ?_
          exact ih (k + 1) (by omega) (by omega)
set_option maxRecDepth 20000 in
set_option maxHeartbeats 20000000 in
theorem xr_lookV {l : Launch} {v nm : Nat → Int} {v9 : Int} {μ : xw_M} (hG : xw_G xw_GL μ) (hr9 : -2147483648 ≤ v9 ∧ v9 ≤ 2147483647) (hK : hp_ok v nm) (hN : ∀ k : Nat, k < 77 → μ 202 k = v k) : xw_MetI l vwCl sa_Ts tb_KT0 tc_KL yX12_look cX12_look 4 (some .int) 4 168 (fun ad => [.ref (ad 200), .int (Int32.ofInt v9)]) μ (fun r μ' => (((1 ≤ v9 ∧ v9 < 2 ^ (v 1).toNat) ∧ r = ((hx_lk v v9.toNat : Nat) : Int) ∧ μ' 200 33 = hx_lf v v9.toNat) ∨ (¬ (1 ≤ v9 ∧ v9 < 2 ^ (v 1).toNat) ∧ r = -1 ∧ μ' 200 33 = μ 200 33)) ∧ xw_F [(200, 0, 0), (200, 33, 33)] μ μ') :=
  xw_of (by decide +kernel) (fun _ => Nat.le_of_ble_eq_true rfl) (fun p e s m args below meth c D dA A al w0 sz C0 hU hO hKL hr hlk hA => by
    have k0 := hK.1
    have k1 := hK.2.1
    refine xw_aload_n (pc := 0) C0 0 dX12_look_0 rfl rfl ?_
    refine xw_iconst (pc := 1) C0 dX12_look_1 ?_
    refine xw_putI (pc := 2) (f := 0) C0 kcX12 dX12_look_2 (by decide +kernel) tv_1261 rfl rfl (xj_200 hKL) xk_0 rfl (by omega) (by omega) ?_
    have Ft1 : xw_F [(200, 0, 0)] μ (xw_u μ 200 0 0) := ((xw_F.rf (ML := [(200, 0, 0)])).u (show (200, 0, 0) ∈ _ by decide) ⟨by decide, by decide⟩)
    have vt1_200_0 : (xw_u μ 200 0 0) 200 0 = 0 := xw_ug
    generalize (xw_u μ 200 0 0) = t1 at Ft1 vt1_200_0 ⊢
    have hG_t1 := xw_GF hG Ft1 (by decide +kernel)
    have hN9 : ∀ k : Nat, k < 77 → t1 202 k = v k := fun k hk => (Ft1 202 k (xw_oj (by decide +kernel) k)).trans (hN k hk)
    refine xw_iload_n (pc := 5) C0 1 dX12_look_5 rfl rfl ?_
    refine xw_iconst (pc := 6) C0 dX12_look_6 ?_
    refine xw_icmp_lt (pc := 7) (tgt := 22) C0 (by omega) (by omega) dX12_look_7 rfl (fun b1 => ?_) (fun b1 => ?_)
    · refine xw_iconst (pc := 22) C0 dX12_look_22 ?_
      refine xw_iret C0 hA hr hlk rfl dX12_look_23 ?_
      exact ⟨_, rfl, Or.inr ⟨fun q => by omega, rfl, Ft1 200 33 (by decide +kernel)⟩, ((xw_F.rf (ML := [(200, 0, 0), (200, 33, 33)])).tr Ft1 (fun j i h => xw_o_sub (by decide +kernel) j i h))⟩
    · refine xw_iload_n (pc := 10) C0 1 dX12_look_10 rfl rfl ?_
      refine xw_iconst (pc := 11) C0 dX12_look_11 ?_
      refine xw_aload_n (pc := 12) C0 0 dX12_look_12 rfl rfl ?_
      refine xw_getR (pc := 13) (f := 14) C0 202 kcX12 dX12_look_13 (by decide +kernel) tv_1275 (xj_200 hKL) xk_0 rfl (((Ft1 200 14 rfl).trans rfl).trans (xe_200_14 hG)) ?_
      refine xw_iconst (pc := 16) C0 dX12_look_16 ?_
      refine xw_iald (pc := 17) (z := v 1) C0 dX12_look_17 (xj_202 hKL) xk_1 (by omega) (by decide +kernel) rfl (hN9 1 (by decide +kernel)) (fun g2 k2 => ?_)
      refine xw_nI (pc := 18) (congrArg Int32.ofInt (show v 1 = (((v 1).toNat : Nat) : Int) by omega)) ?_
      refine xw_ishl (pc := 18) C0 dX12_look_18 (xb_shM (f := (v 1).toNat) (by omega)) ?_
      have e2q : ((2 ^ (v 1).toNat : Nat) : Int) = (2 : Int) ^ (v 1).toNat := by push_cast; rfl
      have e2r : 2 ^ (v 1).toNat ≤ 2 ^ 8 := Nat.pow_le_pow_right (by decide +kernel) (by omega)
      have e2s : (2 : Nat) ^ 8 = 256 := by decide
      have e2t := hx_p2 (v 1).toNat 8 (by omega)
      refine xw_icmp_lt (pc := 19) (tgt := 24) C0 (by omega) (by omega) dX12_look_19 rfl (fun b3 => ?_) (fun b3 => ?_)
      · refine xw_iconst (pc := 24) C0 dX12_look_24 ?_
        refine xw_istore_n (pc := 25) (L' := [(2, .int (Int32.ofInt (-1))), (0, .ref (xw_ad al 200)), (1, .int (Int32.ofInt v9))]) C0 dX12_look_25 rfl (by decide +kernel) rfl ?_
        refine xw_iconst (pc := 26) C0 dX12_look_26 ?_
        refine xw_istore_n (pc := 27) (L' := [(3, .int (Int32.ofInt 0)), (2, .int (Int32.ofInt (-1))), (0, .ref (xw_ad al 200)), (1, .int (Int32.ofInt v9))]) C0 dX12_look_27 rfl (by decide +kernel) rfl ?_
        have hlt : v9 < 2 ^ (v 1).toNat := by omega
        obtain ⟨w, hw⟩ : ∃ w : Nat, v9 = (w : Int) := ⟨v9.toNat, by omega⟩
        have e2p : ((2 ^ (v 1).toNat : Nat) : Int) = (2 : Int) ^ (v 1).toNat := by push_cast; rfl
        have eS : v9 = ((hx_bs (fun j => w.testBit j) (v 1).toNat : Nat) : Int) := by
          rw [hx_wB (w := w) (m := (v 1).toNat) (by omega)]
          exact hw
        have e8 : v9.toNat = w := by omega
        have h2p : (1 : Int) ≤ v 1 := by
          rcases (show v 1 = 0 ∨ 1 ≤ v 1 by omega) with q | q
          · rw [show (v 1).toNat = 0 by omega] at hlt
            have z9 : (2 : Int) ^ 0 = 1 := rfl
            omega
          · exact q
        have hTh := hx_okT hK h2p
        have s9 := hx_b0S v (fun j => w.testBit j) (v 1).toNat (v 0).toNat
        have b7 := hx_bbB (v := v) (p := (fun j => w.testBit j)) (M := (v 1).toNat) (v 0).toNat
        refine xw_pk [2, 3, 1, 0] (L' := [(0, .ref (xw_ad al 200)), (1, .int (Int32.ofInt v9)), (2, .int (Int32.ofInt (hx_b0 v (fun j => w.testBit j) (v 1).toNat 0))), (3, .int (Int32.ofInt ((0 : Nat) : Int)))]) rfl ?_
        refine xr_lkL (v := v) (nm := nm) (v9 := v9) (w := w) (μ := t1) C0 hU hO hKL hG_t1 hr9 hK hN9 eS ?_ 9 0 (by omega) (Nat.zero_le _)
        refine xw_aload_n (pc := 66) C0 0 dX12_look_66 rfl rfl ?_
        refine xw_aload_n (pc := 67) C0 0 dX12_look_67 rfl rfl ?_
        refine xw_iload_n (pc := 68) C0 2 dX12_look_68 rfl rfl ?_
        refine xw_nI (congrArg Int32.ofInt (show hx_b0 v (fun j => w.testBit j) (v 1).toNat (v 0).toNat = ((hx_bb v (fun j => w.testBit j) (v 1).toNat (v 0).toNat : Nat) : Int) by omega)) ?_
        refine xw_iload_n (pc := 69) C0 1 dX12_look_69 rfl rfl ?_
        refine xw_nI (congrArg Int32.ofInt eS) ?_
        refine xw_callVI (pc := 70) (μ := t1) (ci := 12) (rest := [.ref (xw_ad al 200)]) (As := [.int (Int32.ofInt ((hx_bb v (fun j => w.testBit j) (v 1).toNat (v 0).toNat : Nat) : Int)), .int (Int32.ofInt ((hx_bs (fun j => w.testBit j) (v 1).toNat : Nat) : Int))]) C0 hU hO sa_Tg hKL (xr_groupAt (l := l) (v := v) (nm := nm) (ps := (fun j => w.testBit j)) (T := (hx_bb v (fun j => w.testBit j) (v 1).toNat (v 0).toNat)) (μ := t1) hG_t1 hK hN9 (by omega)) tv_1731 dX12_look_70 tv_1728 tv_1730 tq_X12_groupAt tv_13 rfl yb_X12_groupAt (by decide +kernel) rfl rfl rfl (by decide +kernel) (Nat.le_of_ble_eq_true rfl) (xj_200 hKL) xk_0 (fun r51 m51 w51 => ?_)
        obtain ⟨rfl, rfl⟩ := w51
        have o51 := hx_mlB (v := v) (p := (fun j => w.testBit j)) (T := (hx_bb v (fun j => w.testBit j) (v 1).toNat (v 0).toNat)) (M := (v 1).toNat) (v 1).toNat
        refine xw_putI (pc := 73) (f := 33) C0 kcX12 dX12_look_73 (by decide +kernel) tv_1294 rfl rfl (xj_200 hKL) xk_0 rfl (by omega) (by omega) ?_
        refine xw_iload_n (pc := 76) C0 2 dX12_look_76 rfl rfl ?_
        refine xw_iret C0 hA hr hlk rfl dX12_look_77 ?_
        exact ⟨_, rfl, Or.inl ⟨⟨by omega, hlt⟩, by rw [e8]; unfold hx_lk; omega, by rw [e8]; exact xw_ug⟩, (((xw_F.rf (ML := [(200, 0, 0), (200, 33, 33)])).tr Ft1 (fun j i h => xw_o_sub (by decide +kernel) j i h)).u (show (200, 33, 33) ∈ _ by decide) ⟨by decide, by decide⟩)⟩
      · refine xw_iconst (pc := 22) C0 dX12_look_22 ?_
        refine xw_iret C0 hA hr hlk rfl dX12_look_23 ?_
        exact ⟨_, rfl, Or.inr ⟨fun q => by omega, rfl, Ft1 200 33 (by decide +kernel)⟩, ((xw_F.rf (ML := [(200, 0, 0), (200, 33, 33)])).tr Ft1 (fun j i h => xw_o_sub (by decide +kernel) j i h))⟩)
set_option maxRecDepth 20000 in
set_option maxHeartbeats 20000000 in
theorem xh_left {l : Launch} {μ : xw_M} (hG : xw_G xw_GL μ) : xw_MetI l vwCl sa_Ts tb_KT0 tc_KL yX11_left cX11_left 1 (some .int) 2 120 (fun ad => [.ref (ad 0)]) μ (fun r μ' => μ = μ' ∧ r = μ 0 15) :=
  xw_of (by decide +kernel) (fun _ => Nat.le_of_ble_eq_true rfl) (fun p e s m args below meth c D dA A al w0 sz C0 hU hO hKL hr hlk hA => by
    refine xw_aload_n (pc := 0) C0 0 dX11_left_0 rfl rfl ?_
    refine xw_getI (pc := 1) (f := 15) (z := μ 0 15) C0 kcX11 dX11_left_1 (by decide +kernel) tv_437 (xj_0 hKL) xk_27 rfl (rfl) (fun g1 k1 => ?_)
    refine xw_iret C0 hA hr hlk rfl dX11_left_4 ?_
    exact ⟨_, rfl, rfl, rfl⟩)
set_option maxRecDepth 20000 in
set_option maxHeartbeats 20000000 in
theorem xr_left {l : Launch} {μ : xw_M} (hG : xw_G xw_GL μ) : xw_MetI l vwCl sa_Ts tb_KT0 tc_KL yX12_left cX12_left 1 (some .int) 2 120 (fun ad => [.ref (ad 200)]) μ (fun r μ' => r = μ 200 33 ∧ xw_F [(200, 0, 0)] μ μ') :=
  xw_of (by decide +kernel) (fun _ => Nat.le_of_ble_eq_true rfl) (fun p e s m args below meth c D dA A al w0 sz C0 hU hO hKL hr hlk hA => by
    refine xw_aload_n (pc := 0) C0 0 dX12_left_0 rfl rfl ?_
    refine xw_iconst (pc := 1) C0 dX12_left_1 ?_
    refine xw_putI (pc := 2) (f := 0) C0 kcX12 dX12_left_2 (by decide +kernel) tv_1261 rfl rfl (xj_200 hKL) xk_0 rfl (by omega) (by omega) ?_
    refine xw_aload_n (pc := 5) C0 0 dX12_left_5 rfl rfl ?_
    refine xw_getI (pc := 6) (f := 33) (z := μ 200 33) C0 kcX12 dX12_left_6 (by decide +kernel) tv_1294 (xj_200 hKL) xk_0 rfl ((xw_un (by decide +kernel)).trans rfl) (fun g1 k1 => ?_)
    refine xw_iret C0 hA hr hlk rfl dX12_left_9 ?_
    have Ft1 : xw_F [(200, 0, 0)] μ (xw_u μ 200 0 0) := ((xw_F.rf (ML := [(200, 0, 0)])).u (show (200, 0, 0) ∈ _ by decide) ⟨by decide, by decide⟩)
    have vt1_200_0 : (xw_u μ 200 0 0) 200 0 = 0 := xw_ug
    generalize (xw_u μ 200 0 0) = t1 at Ft1 vt1_200_0 ⊢
    exact ⟨_, rfl, rfl, ((xw_F.rf (ML := [(200, 0, 0)])).tr Ft1 (fun j i h => xw_o_sub (by decide +kernel) j i h))⟩)
