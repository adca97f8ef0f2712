set_option maxRecDepth 20000 in
set_option maxHeartbeats 20000000 in
theorem xh_startsV {l : Launch} {v nm : Nat → Int} {v9 : Int} {μ : xw_M} (hG : xw_G xw_GL μ) (hr9 : -2147483648 ≤ v9 ∧ v9 ≤ 2147483647) (hK : hp_ok v nm) (hE : hx_E v 4 μ) : xw_MetI l vwCl sa_Ts tb_KT0 tc_KL yX11_starts cX11_starts 2 (some .int) 4 164 (fun ad => [.ref (ad 0), .int (Int32.ofInt v9)]) μ (fun r μ' => μ = μ' ∧ (((0 ≤ v9 ∧ v9 < v 0) ∧ r = hx_rt v v9.toNat - v (3 + v9.toNat)) ∨ (¬ (0 ≤ v9 ∧ v9 < v 0) ∧ r = -1))) :=
  xw_of (by decide +kernel) (fun _ => Nat.le_of_ble_eq_true rfl) (fun p e s m args below meth c D dA A al w0 sz C0 hU hO hKL hr hlk hA => by
    have k0 := hK.1
    have c1 : μ 4 13 = v 0 := hE.1.1
    refine xw_aload_n (pc := 0) C0 0 dX11_starts_0 rfl rfl ?_
    refine xw_iload_n (pc := 1) C0 1 dX11_starts_1 rfl rfl ?_
    refine xw_callVI (pc := 2) (μ := μ) (ci := 11) (rest := []) (As := [.int (Int32.ofInt v9)]) C0 hU hO sa_Tg hKL (xh_isThing (l := l) (v := v9) hG (by omega)) tv_675 dX11_starts_2 tv_672 tv_674 tq_X11_isThing tv_1 rfl yb_X11_isThing (by decide +kernel) rfl rfl rfl (by decide +kernel) (Nat.le_of_ble_eq_true rfl) (xj_0 hKL) xk_27 (fun r1 m1 w1 => ?_)
    obtain ⟨rfl, w1⟩ := w1
    rcases w1 with ⟨w1, rfl⟩ | ⟨w1, rfl⟩
    · refine xw_if_eq (pc := 5) (tgt := 35) C0 (by omega) dX11_starts_5 rfl (fun b2 => ?_) (fun b2 => ?_)
      · exfalso
        omega
      · refine xw_aload_n (pc := 8) C0 0 dX11_starts_8 rfl rfl ?_
        refine xw_getR (pc := 9) (f := 1) C0 3 kcX11 dX11_starts_9 (by decide +kernel) tv_423 (xj_0 hKL) xk_27 rfl ((rfl).trans (xe_0_1 hG)) ?_
        refine xw_getR (pc := 12) (f := 0) C0 4 kcX10 dX11_starts_12 (by decide +kernel) tv_234 (xj_3 hKL) xk_24 rfl ((rfl).trans (xe_3_0 hG)) ?_
        refine xw_iload_n (pc := 15) C0 1 dX11_starts_15 rfl rfl ?_
        obtain ⟨T, hT9⟩ : ∃ T : Nat, v9 = (T : Int) := ⟨v9.toNat, by omega⟩
        have hT : (T : Int) < v 0 := by omega
        have e8 : v9.toNat = T := by omega
        have k9 := hx_rtB hK hT
        have q6 := hK.2.2.2.2.1 T (by omega) hT
        have q5 := q6.1
        clear q6
        refine xw_nI (congrArg Int32.ofInt hT9) ?_
        refine xw_callVI (pc := 16) (μ := μ) (ci := 2) (rest := []) (As := [.int (Int32.ofInt (T : Int))]) C0 hU hO sa_Tg hKL (xq_minutesTillUp (l := l) (v := v) (nm := nm) (T := T) hG hK hE hT) tv_800 dX11_starts_16 tv_797 tv_798 tv_799 tv_4 rfl yb_X2_minutesTillUp (by decide +kernel) rfl rfl rfl (by decide +kernel) (Nat.le_of_ble_eq_true rfl) (xj_4 hKL) xk_28 (fun r3 m3 w3 => ?_)
        obtain ⟨rfl, rfl⟩ := w3
        refine xw_aload_n (pc := 19) C0 0 dX11_starts_19 rfl rfl ?_
        refine xw_getR (pc := 20) (f := 1) C0 3 kcX11 dX11_starts_20 (by decide +kernel) tv_423 (xj_0 hKL) xk_27 rfl ((rfl).trans (xe_0_1 hG)) ?_
        refine xw_getR (pc := 23) (f := 0) C0 4 kcX10 dX11_starts_23 (by decide +kernel) tv_234 (xj_3 hKL) xk_24 rfl ((rfl).trans (xe_3_0 hG)) ?_
        refine xw_getR (pc := 26) (f := 1) C0 6 kcX2 dX11_starts_26 (by decide +kernel) tv_65 (xj_4 hKL) xk_28 rfl ((rfl).trans (xe_4_1 hG)) ?_
        refine xw_iload_n (pc := 29) C0 1 dX11_starts_29 rfl rfl ?_
        refine xw_nI (pc := 30) (congrArg Int32.ofInt hT9) ?_
        have a4 : μ 6 ((T : Int)).toNat = v (3 + T) := (hE.2.1 T (by omega) hT).1
        refine xw_iald (pc := 30) (z := v (3 + T)) C0 dX11_starts_30 (xj_6 hKL) xk_30 (by omega) (by decide +kernel) (xw_rl (by omega)) a4 (fun g4 k4 => ?_)
        refine xw_isub (pc := 31) C0 dX11_starts_31 ?_
        refine xw_goto (pc := 32) (tgt := 36) C0 dX11_starts_32 rfl ?_
        refine xw_iret C0 hA hr hlk rfl dX11_starts_36 ?_
        exact ⟨_, rfl, rfl, Or.inl ⟨by omega, by rw [e8]⟩⟩
    · refine xw_if_eq (pc := 5) (tgt := 35) C0 (by omega) dX11_starts_5 rfl (fun b5 => ?_) (fun b5 => ?_)
      · refine xw_iconst (pc := 35) C0 dX11_starts_35 ?_
        refine xw_iret C0 hA hr hlk rfl dX11_starts_36 ?_
        exact ⟨_, rfl, rfl, Or.inr ⟨by omega, rfl⟩⟩
      · exfalso
        omega)
set_option maxRecDepth 20000 in
set_option maxHeartbeats 20000000 in
theorem xr_startsV {l : Launch} {v nm : Nat → Int} {v9 : Int} {μ : xw_M} (hG : xw_G xw_GL μ) (hr9 : -2147483648 ≤ v9 ∧ v9 ≤ 2147483647) (hK : hp_ok v nm) (hN : ∀ k : Nat, k < 77 → μ 202 k = v k) : xw_MetI l vwCl sa_Ts tb_KT0 tc_KL yX12_starts cX12_starts 2 (some .int) 8 264 (fun ad => [.ref (ad 200), .int (Int32.ofInt v9)]) μ (fun r μ' => (((0 ≤ v9 ∧ v9 < v 0) ∧ r = hx_rt v v9.toNat - v (3 + v9.toNat)) ∨ (¬ (0 ≤ v9 ∧ v9 < v 0) ∧ r = -1)) ∧ xw_F [(200, 0, 0)] μ μ') :=
  xw_of (by decide +kernel) (fun _ => Nat.le_of_ble_eq_true rfl) (fun p e s m args below meth c D dA A al w0 sz C0 hU hO hKL hr hlk hA => by
    have k0 := hK.1
    refine xw_aload_n (pc := 0) C0 0 dX12_starts_0 rfl rfl ?_
    refine xw_iconst (pc := 1) C0 dX12_starts_1 ?_
    refine xw_putI (pc := 2) (f := 0) C0 kcX12 dX12_starts_2 (by decide +kernel) tv_1261 rfl rfl (xj_200 hKL) xk_0 rfl (by omega) (by omega) ?_
    refine xw_aload_n (pc := 5) C0 0 dX12_starts_5 rfl rfl ?_
    refine xw_iload_n (pc := 6) C0 1 dX12_starts_6 rfl rfl ?_
    have Ft1 : xw_F [(200, 0, 0)] μ (xw_u μ 200 0 0) := ((xw_F.rf (ML := [(200, 0, 0)])).u (show (200, 0, 0) ∈ _ by decide) ⟨by decide, by decide⟩)
    have vt1_200_0 : (xw_u μ 200 0 0) 200 0 = 0 := xw_ug
    generalize (xw_u μ 200 0 0) = t1 at Ft1 vt1_200_0 ⊢
    have hG_t1 := xw_GF hG Ft1 (by decide +kernel)
    have hN9 : ∀ k : Nat, k < 77 → t1 202 k = v k := fun k hk => (Ft1 202 k (xw_oj (by decide +kernel) k)).trans (hN k hk)
    have y9 : t1 202 0 = v 0 := hN9 0 (by decide +kernel)
    refine xw_callVI (pc := 7) (μ := t1) (ci := 12) (rest := []) (As := [.int (Int32.ofInt v9)]) C0 hU hO sa_Tg hKL (xr_isThing (l := l) (v := v9) hG_t1 (by omega)) tv_1521 dX12_starts_7 tv_1518 tv_1520 tq_X12_isThing tv_13 rfl yb_X12_isThing (by decide +kernel) rfl rfl rfl (by decide +kernel) (Nat.le_of_ble_eq_true rfl) (xj_200 hKL) xk_0 (fun r1 m1 w1 => ?_)
    obtain ⟨rfl, w1⟩ := w1
    rcases w1 with ⟨w1, rfl⟩ | ⟨w1, rfl⟩
    · refine xw_if_eq (pc := 10) (tgt := 21) C0 (by omega) dX12_starts_10 rfl (fun b2 => ?_) (fun b2 => ?_)
      · exfalso
        omega
      · refine xw_aload_n (pc := 13) C0 0 dX12_starts_13 rfl rfl ?_
        refine xw_iload_n (pc := 14) C0 1 dX12_starts_14 rfl rfl ?_
        obtain ⟨T, hT9⟩ : ∃ T : Nat, v9 = (T : Int) := ⟨v9.toNat, by omega⟩
        have hT : (T : Int) < v 0 := by omega
        have e8 : v9.toNat = T := by omega
        have k9 := hx_rtB hK hT
        have q6 := hK.2.2.2.2.1 T (by omega) hT
        have q5 := q6.1
        clear q6
        refine xw_nI (congrArg Int32.ofInt hT9) ?_
        refine xw_callVI (pc := 15) (μ := t1) (ci := 12) (rest := []) (As := [.int (Int32.ofInt (T : Int))]) C0 hU hO sa_Tg hKL (xr_so5 (l := l) (v := v) (nm := nm) (T := T) (μ := t1) hG_t1 hK hN9 hT (by omega)) tv_1696 dX12_starts_15 tv_1693 tv_1695 tq_X12_startOf tv_13 rfl yb_X12_startOf (by decide +kernel) rfl rfl rfl (by decide +kernel) (Nat.le_of_ble_eq_true rfl) (xj_200 hKL) xk_0 (fun r3 m3 w3 => ?_)
        obtain ⟨rfl, rfl⟩ := w3
        refine xw_goto (pc := 18) (tgt := 22) C0 dX12_starts_18 rfl ?_
        refine xw_iret C0 hA hr hlk rfl dX12_starts_22 ?_
        exact ⟨_, rfl, Or.inl ⟨by omega, by rw [e8]; try omega⟩, ((xw_F.rf (ML := [(200, 0, 0)])).tr Ft1 (fun j i h => xw_o_sub (by decide +kernel) j i h))⟩
    · refine xw_if_eq (pc := 10) (tgt := 21) C0 (by omega) dX12_starts_10 rfl (fun b4 => ?_) (fun b4 => ?_)
      · refine xw_iconst (pc := 21) C0 dX12_starts_21 ?_
        refine xw_iret C0 hA hr hlk rfl dX12_starts_22 ?_
        exact ⟨_, rfl, Or.inr ⟨by omega, rfl⟩, ((xw_F.rf (ML := [(200, 0, 0)])).tr Ft1 (fun j i h => xw_o_sub (by decide +kernel) j i h))⟩
      · exfalso
        omega)
set_option maxRecDepth 20000 in
set_option maxHeartbeats 20000000 in
theorem xq_mlL {l : Launch} {p : Program} {e : Env} {s : State} {m : MethodId} {args : Array Value} {below : List Frame} {meth : Method} {c : Code} {Q : State → Prop} {D : va_G} {dA : Nat → ClassId} {A : Nat → Prop} {al : List (Nat × Nat)} (C0 : sa_C p s m args c D dA A 5 vwCl sa_Ts cX2_mostLeft yX2_mostLeft.cls) (hU : sa_U D vwCl dA s) (hO : tb_Ou A s s.heap) (hKL : al.map Prod.snd = tc_KL) {v nm : Nat → Int} {ps : Nat → Bool} {T : Nat} {μ : xw_M} (hG : xw_G xw_GL μ) (hK : hp_ok v nm) (hE : hx_E v 4 μ) (hT : (T : Int) < v 0) (kx : xw_W p l e { frames := 4, cells := 0, slots := 0, locals := 166 } s m args below meth c Q D dA A 5 vwCl tb_KT0 al 0 0 μ 65 [(3, .int (Int32.ofInt (hx_ml v ps T (v 1).toNat (v 1).toNat)))] []) : ∀ (fu9 : Nat) (k : Nat), ((v 1).toNat : Int) - (k : Int) < (fu9 : Int) → k ≤ (v 1).toNat → xw_W p l e { frames := 4, cells := 0, slots := 0, locals := 166 } s m args below meth c Q D dA A 5 vwCl tb_KT0 al 0 0 μ 17 [(0, .ref (xw_ad al 4)), (1, .int (Int32.ofInt (T : Int))), (2, .int (Int32.ofInt ((hx_bs ps (v 1).toNat : Nat) : Int))), (3, .int (Int32.ofInt (hx_ml v ps T (v 1).toNat k))), (4, .int (Int32.ofInt (k : Int)))] [] := by
  intro fu9
  induction fu9 with
  | zero => intro k hm hk; exfalso; omega
  | succ fu9 ih =>
    intro k hm hk
    have k0 := hK.1
    have k1 := hK.2.1
    have c1 : μ 4 14 = v 1 := hE.1.2.1
    have b9 := hx_mlB (v := v) (p := ps) (T := T) (M := (v 1).toNat) k
    refine xw_iload (pc := 17) C0 4 dX2_mostLeft_17 rfl ?_
    refine xw_aload_n (pc := 19) C0 0 dX2_mostLeft_19 rfl rfl ?_
    refine xw_getI (pc := 20) (f := 14) (z := μ 4 14) C0 kcX2 dX2_mostLeft_20 (by decide +kernel) tv_101 (xj_4 hKL) xk_28 rfl (rfl) (fun g1 k1 => ?_)
    refine xw_icmp_ge (pc := 23) (tgt := 65) C0 (by omega) (by omega) dX2_mostLeft_23 rfl (fun b2 => ?_) (fun b2 => ?_)
    · have e9 : k = (v 1).toNat := by omega
      subst e9
      refine xw_pk [3] (L' := [(3, .int (Int32.ofInt (hx_ml v ps T (v 1).toNat (v 1).toNat)))]) rfl ?_
      exact kx
    · refine xw_iload_n (pc := 26) C0 2 dX2_mostLeft_26 rfl rfl ?_
      refine xw_aload_n (pc := 27) C0 0 dX2_mostLeft_27 rfl rfl ?_
      refine xw_getR (pc := 28) (f := 6) C0 11 kcX2 dX2_mostLeft_28 (by decide +kernel) tv_78 (xj_4 hKL) xk_28 rfl ((rfl).trans (xe_4_6 hG)) ?_
      refine xw_iload_n (pc := 31) C0 1 dX2_mostLeft_31 rfl rfl ?_
      have a3 : μ 11 ((T : Int)).toNat = ((hx_bs (hx_hm v T) (v 1).toNat : Nat) : Int) := ((hE.2.2.2.2 T (by omega) hT).2).trans (hx_fob _)
      refine xw_iald (pc := 32) (z := ((hx_bs (hx_hm v T) (v 1).toNat : Nat) : Int)) C0 dX2_mostLeft_32 (xj_11 hKL) xk_35 (by omega) (by decide +kernel) (xw_rl (by omega)) a3 (fun g3 k3 => ?_)
      have n4 : Int32.ofInt ((hx_bs ps (v 1).toNat : Nat) : Int) &&& Int32.ofInt ((hx_bs (hx_hm v T) (v 1).toNat : Nat) : Int) = Int32.ofInt ((hx_bs (hx_ph v ps T) (v 1).toNat : Nat) : Int) := by
        rw [xb_anN (hx_b8 (by omega)) (hx_b8 (by omega)), hx_bsA]
        rfl
      refine xw_iand (pc := 33) C0 dX2_mostLeft_33 n4 ?_
      refine xw_iload (pc := 34) C0 4 dX2_mostLeft_34 rfl ?_
      rcases hx_tf (hx_ph v ps T k) with c9 | c9
      · have n9 : tb_hb (Int32.ofInt ((hx_bs (hx_ph v ps T) (v 1).toNat : Nat) : Int)) (Int32.ofInt (k : Int)) = Int32.ofInt 1 := by
          rw [xb_b8 (by omega) (by omega), c9]
          rfl
        refine xw_bitN (pc := 36) (host := "OffThenOn") (rest := []) C0 hU sa_Tg (pu_X11_bit (l := l)) tv_589 dX2_mostLeft_36 (by decide +kernel) tv_588 tv_1 yb_X11_bit (by decide +kernel) (by decide +kernel) (Nat.le_of_ble_eq_true rfl) n9 ?_
        refine xw_iconst (pc := 39) C0 dX2_mostLeft_39 ?_
        refine xw_icmp_ne (pc := 40) (tgt := 59) C0 (by omega) (by omega) dX2_mostLeft_40 rfl (fun b5 => ?_) (fun b5 => ?_)
        · exfalso
          omega
        · refine xw_iload_n (pc := 43) C0 3 dX2_mostLeft_43 rfl rfl ?_
          refine xw_iload_n (pc := 44) C0 2 dX2_mostLeft_44 rfl rfl ?_
          refine xw_aload_n (pc := 45) C0 0 dX2_mostLeft_45 rfl rfl ?_
          refine xw_iload (pc := 46) C0 4 dX2_mostLeft_46 rfl ?_
          refine xw_callVI (pc := 48) (μ := μ) (ci := 2) (rest := [.int (Int32.ofInt ((hx_bs ps (v 1).toNat : Nat) : Int)), .int (Int32.ofInt (hx_ml v ps T (v 1).toNat k))]) (As := [.int (Int32.ofInt (k : Int))]) C0 hU hO sa_Tg hKL (xq_lookingLike (l := l) (v := v) (nm := nm) (F := k) hG hK hE (by omega)) tv_819 dX2_mostLeft_48 tv_839 tv_817 tv_818 tv_4 rfl yb_X2_lookingLike (by decide +kernel) rfl rfl rfl (by decide +kernel) (Nat.le_of_ble_eq_true rfl) (xj_4 hKL) xk_28 (fun r6 m6 w6 => ?_)
          obtain ⟨rfl, rfl⟩ := w6
          have n7 : Int32.ofInt ((hx_bs ps (v 1).toNat : Nat) : Int) &&& Int32.ofInt ((hx_bs (hx_al v k) (v 1).toNat : Nat) : Int) = Int32.ofInt ((hx_bs (hx_pa v ps k) (v 1).toNat : Nat) : Int) := by
            rw [xb_anN (hx_b8 (by omega)) (hx_b8 (by omega)), hx_bsA]
            rfl
          refine xw_iand (pc := 51) C0 dX2_mostLeft_51 n7 ?_
          refine xw_callP1 (pc := 52) (rest := [.int (Int32.ofInt (hx_ml v ps T (v 1).toNat k))]) (r := ((hx_pc (hx_pa v ps k) (v 1).toNat : Nat) : Int)) C0 sa_Tg (fun x => xm_bitCount x) tv_835 dX2_mostLeft_52 tv_833 tv_834 tv_20 yb_J_bitCount (by decide +kernel) (by decide +kernel) (Nat.le_of_ble_eq_true rfl) (hx_bcN (by omega)) ?_
          have o52 := hx_pcB (p := (hx_pa v ps k)) (v 1).toNat
          refine xw_max (pc := 55) (rest := []) (a := hx_ml v ps T (v 1).toNat k) (b := ((hx_pc (hx_pa v ps k) (v 1).toNat : Nat) : Int)) C0 (by omega) (by omega) dX2_mostLeft_55 tv_801 tv_802 tv_19 tv_803 (Nat.le_of_ble_eq_true rfl) (Nat.le_of_ble_eq_true rfl) (by decide +kernel) (by decide +kernel) ?_
          refine xw_istore_n (pc := 58) (L' := [(3, .int (Int32.ofInt (hx_m (hx_ml v ps T (v 1).toNat k) ((hx_pc (hx_pa v ps k) (v 1).toNat : Nat) : Int)))), (0, .ref (xw_ad al 4)), (1, .int (Int32.ofInt (T : Int))), (2, .int (Int32.ofInt ((hx_bs ps (v 1).toNat : Nat) : Int))), (4, .int (Int32.ofInt (k : Int)))]) C0 dX2_mostLeft_58 rfl (by decide +kernel) rfl ?_
          refine xw_iinc (pc := 59) (L' := [(4, .int (Int32.ofInt ((k : Int) + 1))), (3, .int (Int32.ofInt (hx_m (hx_ml v ps T (v 1).toNat k) ((hx_pc (hx_pa v ps k) (v 1).toNat : Nat) : Int)))), (0, .ref (xw_ad al 4)), (1, .int (Int32.ofInt (T : Int))), (2, .int (Int32.ofInt ((hx_bs ps (v 1).toNat : Nat) : Int)))]) C0 4 dX2_mostLeft_59 rfl (by decide +kernel) rfl ?_
          refine xw_goto (pc := 62) (tgt := 17) C0 dX2_mostLeft_62 rfl ?_
          have e3 : hx_ml v ps T (v 1).toNat (k + 1) = hx_m (hx_ml v ps T (v 1).toNat k) ((hx_pc (hx_pa v ps k) (v 1).toNat : Nat) : Int) := by
            rw [hx_mle]
            exact if_pos (hx_phT c9)
          have e1 : (k : Int) + 1 = ((k + 1 : Nat) : Int) := by omega
          rw [e1, ← e3]
          refine xw_pk [2, 3, 4, 1, 0] (L' := [(0, .ref (xw_ad al 4)), (1, .int (Int32.ofInt (T : Int))), (2, .int (Int32.ofInt ((hx_bs ps (v 1).toNat : Nat) : Int))), (3, .int (Int32.ofInt (hx_ml v ps T (v 1).toNat (k + 1)))), (4, .int (Int32.ofInt ((k + 1 : Nat) : Int)))]) rfl ?_
          exact ih (k + 1) (by omega) (by omega)
      · have n9 : tb_hb (Int32.ofInt ((hx_bs (hx_ph v ps T) (v 1).toNat : Nat) : Int)) (Int32.ofInt (k : Int)) = Int32.ofInt 0 := by
          rw [xb_b8 (by omega) (by omega), c9]
          rfl
        refine xw_bitN (pc := 36) (host := "OffThenOn") (rest := []) C0 hU sa_Tg (pu_X11_bit (l := l)) tv_589 dX2_mostLeft_36 (by decide +kernel) tv_588 tv_1 yb_X11_bit (by decide +kernel) (by decide +kernel) (Nat.le_of_ble_eq_true rfl) n9 ?_
        refine xw_iconst (pc := 39) C0 dX2_mostLeft_39 ?_
        refine xw_icmp_ne (pc := 40) (tgt := 59) C0 (by omega) (by omega) dX2_mostLeft_40 rfl (fun b8 => ?_) (fun b8 => ?_)
        · refine xw_iinc (pc := 59) (L' := [(4, .int (Int32.ofInt ((k : Int) + 1))), (0, .ref (xw_ad al 4)), (1, .int (Int32.ofInt (T : Int))), (2, .int (Int32.ofInt ((hx_bs ps (v 1).toNat : Nat) : Int))), (3, .int (Int32.ofInt (hx_ml v ps T (v 1).toNat k)))]) C0 4 dX2_mostLeft_59 rfl (by decide +kernel) rfl ?_
          refine xw_goto (pc := 62) (tgt := 17) C0 dX2_mostLeft_62 rfl ?_
          have e3 : hx_ml v ps T (v 1).toNat (k + 1) = hx_ml v ps T (v 1).toNat k := by
            rw [hx_mle]
            exact if_neg (hx_phF c9)
          have e1 : (k : Int) + 1 = ((k + 1 : Nat) : Int) := by omega
          rw [e1, ← e3]
          refine xw_pk [1, 2, 3, 4, 0] (L' := [(0, .ref (xw_ad al 4)), (1, .int (Int32.ofInt (T : Int))), (2, .int (Int32.ofInt ((hx_bs ps (v 1).toNat : Nat) : Int))), (3, .int (Int32.ofInt (hx_ml v ps T (v 1).toNat (k + 1)))), (4, .int (Int32.ofInt ((k + 1 : Nat) : Int)))]) rfl ?_
          exact ih (k + 1) (by omega) (by omega)
        · exfalso
          omega
set_option maxRecDepth 20000 in
set_option maxHeartbeats 20000000 in
theorem xq_mostLeft {l : Launch} {v nm : Nat → Int} {ps : Nat → Bool} {T : Nat} {μ : xw_M} (hG : xw_G xw_GL μ) (hK : hp_ok v nm) (hE : hx_E v 4 μ) (hT : (T : Int) < v 0) : xw_MetI l vwCl sa_Ts tb_KT0 tc_KL yX2_mostLeft cX2_mostLeft 5 (some .int) 4 166 (fun ad => [.ref (ad 4), .int (Int32.ofInt (T : Int)), .int (Int32.ofInt ((hx_bs ps (v 1).toNat : Nat) : Int))]) μ (fun r μ' => μ = μ' ∧ r = hx_ml v ps T (v 1).toNat (v 1).toNat) :=
  xw_of (by decide +kernel) (fun _ => Nat.le_of_ble_eq_true rfl) (fun p e s m args below meth c D dA A al w0 sz C0 hU hO hKL hr hlk hA => by
    have k0 := hK.1
    have k1 := hK.2.1
    have c1 : μ 4 14 = v 1 := hE.1.2.1
    refine xw_iload_n (pc := 0) C0 2 dX2_mostLeft_0 rfl rfl ?_
    refine xw_aload_n (pc := 1) C0 0 dX2_mostLeft_1 rfl rfl ?_
    refine xw_getR (pc := 2) (f := 6) C0 11 kcX2 dX2_mostLeft_2 (by decide +kernel) tv_78 (xj_4 hKL) xk_28 rfl ((rfl).trans (xe_4_6 hG)) ?_
    refine xw_iload_n (pc := 5) C0 1 dX2_mostLeft_5 rfl rfl ?_
    have a1 : μ 11 ((T : Int)).toNat = ((hx_bs (hx_hm v T) (v 1).toNat : Nat) : Int) := ((hE.2.2.2.2 T (by omega) hT).2).trans (hx_fob _)
    refine xw_iald (pc := 6) (z := ((hx_bs (hx_hm v T) (v 1).toNat : Nat) : Int)) C0 dX2_mostLeft_6 (xj_11 hKL) xk_35 (by omega) (by decide +kernel) (xw_rl (by omega)) a1 (fun g1 k1 => ?_)
    refine xw_iconst (pc := 7) C0 dX2_mostLeft_7 ?_
    obtain ⟨y9, hy9, iy9⟩ := xb_wi (Int32.ofInt ((hx_bs (hx_hm v T) (v 1).toNat : Nat) : Int) ^^^ Int32.ofInt (-1))
    refine xw_ixor (pc := 8) C0 dX2_mostLeft_8 iy9 ?_
    have n9 : Int32.ofInt ((hx_bs ps (v 1).toNat : Nat) : Int) &&& Int32.ofInt y9 = Int32.ofInt ((hx_bs (hx_nt v ps T) (v 1).toNat : Nat) : Int) := by
      rw [← iy9]
      exact xb_ntG (by omega)
    refine xw_iand (pc := 9) C0 dX2_mostLeft_9 n9 ?_
    refine xw_callP1 (pc := 10) (rest := []) (r := ((hx_pc (hx_nt v ps T) (v 1).toNat : Nat) : Int)) C0 sa_Tg (fun x => xm_bitCount x) tv_835 dX2_mostLeft_10 tv_833 tv_834 tv_20 yb_J_bitCount (by decide +kernel) (by decide +kernel) (Nat.le_of_ble_eq_true rfl) (hx_bcN (by omega)) ?_
    have o10 := hx_pcB (p := (hx_nt v ps T)) (v 1).toNat
    refine xw_istore_n (pc := 13) (L' := [(3, .int (Int32.ofInt ((hx_pc (hx_nt v ps T) (v 1).toNat : Nat) : Int))), (0, .ref (xw_ad al 4)), (1, .int (Int32.ofInt (T : Int))), (2, .int (Int32.ofInt ((hx_bs ps (v 1).toNat : Nat) : Int)))]) C0 dX2_mostLeft_13 rfl (by decide +kernel) rfl ?_
    refine xw_iconst (pc := 14) C0 dX2_mostLeft_14 ?_
    refine xw_istore (pc := 15) (L' := [(4, .int (Int32.ofInt 0)), (3, .int (Int32.ofInt ((hx_pc (hx_nt v ps T) (v 1).toNat : Nat) : Int))), (0, .ref (xw_ad al 4)), (1, .int (Int32.ofInt (T : Int))), (2, .int (Int32.ofInt ((hx_bs ps (v 1).toNat : Nat) : Int)))]) C0 dX2_mostLeft_15 (by decide +kernel) rfl ?_
    refine xw_pk [2, 3, 4, 1, 0] (L' := [(0, .ref (xw_ad al 4)), (1, .int (Int32.ofInt (T : Int))), (2, .int (Int32.ofInt ((hx_bs ps (v 1).toNat : Nat) : Int))), (3, .int (Int32.ofInt (hx_ml v ps T (v 1).toNat 0))), (4, .int (Int32.ofInt ((0 : Nat) : Int)))]) rfl ?_
    refine xq_mlL (v := v) (nm := nm) (ps := ps) (T := T) (μ := μ) C0 hU hO hKL hG hK hE hT ?_ 9 0 (by omega) (Nat.zero_le _)
    refine xw_iload_n (pc := 65) C0 0 dX2_mostLeft_65 rfl rfl ?_
    refine xw_iret C0 hA hr hlk rfl dX2_mostLeft_66 ?_
    exact ⟨_, rfl, rfl, rfl⟩)
