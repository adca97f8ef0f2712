set_option maxRecDepth 20000 in
set_option maxHeartbeats 20000000 in
theorem xq_fbL {l : Launch} {p : Program} {e : Env} {s : State} {m : MethodId} {args : Array Value} {below : List Frame} {meth : Method} {c : Code} {Q : State → Prop} {D : va_G} {dA : Nat → ClassId} {A : Nat → Prop} {al : List (Nat × Nat)} (C0 : sa_C p s m args c D dA A 5 vwCl sa_Ts cX11_faultsByLamps yX11_faultsByLamps.cls) (hU : sa_U D vwCl dA s) (hO : tb_Ou A s s.heap) (hKL : al.map Prod.snd = tc_KL) {v nm : Nat → Int} {μ : xw_M} (hG : xw_G xw_GL μ) (hK : hp_ok v nm) (hE : hx_E v 4 μ) (hn : μ 1 1 % 2 = 0 ∧ 2 ≤ μ 1 1 ∧ μ 1 1 ≤ 12) (kx : ∀ k : Nat, 2 * (k : Int) = μ 1 1 → hx_wt v (fun i => μ 2 i % 256) k = true → xw_W p l e { frames := 3, cells := 0, slots := 0, locals := 145 } s m args below meth c Q D dA A 5 vwCl tb_KT0 al 0 0 μ 113 [(2, .int (Int32.ofInt ((hx_bs (fun f => hx_wo v (fun i => μ 2 i % 256) f k) (v 1).toNat : Nat) : Int)))] []) (kw : ∀ k : Nat, 2 * (k : Int) < μ 1 1 → ¬ (0 ≤ (fun i => μ 2 i % 256) (2 * k) ∧ (fun i => μ 2 i % 256) (2 * k) < v 0) → xw_W p l e { frames := 3, cells := 0, slots := 0, locals := 145 } s m args below meth c Q D dA A 5 vwCl tb_KT0 al 0 0 μ 86 [(0, .ref (xw_ad al 0))] []) : ∀ (fu9 : Nat) (k : Nat), μ 1 1 - 2 * (k : Int) < (fu9 : Int) → 2 * (k : Int) ≤ μ 1 1 → hx_wt v (fun i => μ 2 i % 256) k = true → xw_W p l e { frames := 3, cells := 0, slots := 0, locals := 145 } s m args below meth c Q D dA A 5 vwCl tb_KT0 al 0 0 μ 56 [(0, .ref (xw_ad al 0)), (1, .ref (xw_ad al 4)), (2, .int (Int32.ofInt ((hx_bs (fun f => hx_wo v (fun i => μ 2 i % 256) f k) (v 1).toNat : Nat) : Int))), (3, .int (Int32.ofInt (2 * (k : Int))))] [] := by
  intro fu9
  induction fu9 with
  | zero => intro k hm hk h1; exfalso; omega
  | succ fu9 ih =>
    intro k hm hk h1
    have k0 := hK.1
    have k1 := hK.2.1
    have c0 : μ 4 13 = v 0 := hE.1.1
    have c1 : μ 4 14 = v 1 := hE.1.2.1
    refine xw_iload_n (pc := 56) C0 3 dX11_faultsByLamps_56 rfl rfl ?_
    refine xw_aload_n (pc := 57) C0 0 dX11_faultsByLamps_57 rfl rfl ?_
    refine xw_getR (pc := 58) (f := 0) C0 1 kcX11 dX11_faultsByLamps_58 (by decide +kernel) tv_422 (xj_0 hKL) xk_27 rfl ((rfl).trans (xe_0_0 hG)) ?_
    refine xw_getI (pc := 61) (f := 1) (z := μ 1 1) C0 kcX0 dX11_faultsByLamps_61 (by decide +kernel) tv_40 (xj_1 hKL) xk_19 rfl (rfl) (fun g1 k1 => ?_)
    refine xw_icmp_ge (pc := 64) (tgt := 113) C0 (by omega) (by omega) dX11_faultsByLamps_64 rfl (fun b2 => ?_) (fun b2 => ?_)
    · refine xw_pk [2] (L' := [(2, .int (Int32.ofInt ((hx_bs (fun f => hx_wo v (fun i => μ 2 i % 256) f k) (v 1).toNat : Nat) : Int)))]) rfl ?_
      exact kx k (by omega) h1
    · refine xw_aload_n (pc := 67) C0 0 dX11_faultsByLamps_67 rfl rfl ?_
      refine xw_getR (pc := 68) (f := 0) C0 1 kcX11 dX11_faultsByLamps_68 (by decide +kernel) tv_422 (xj_0 hKL) xk_27 rfl ((rfl).trans (xe_0_0 hG)) ?_
      refine xw_iload_n (pc := 71) C0 3 dX11_faultsByLamps_71 rfl rfl ?_
      refine xw_callVI (pc := 72) (μ := μ) (ci := 0) (rest := []) (As := [.int (Int32.ofInt (2 * (k : Int)))]) C0 hU hO sa_Tg hKL (xm_at (l := l) (i := 2 * (k : Int)) (by omega) hG) tv_513 dX11_faultsByLamps_72 tv_783 tv_511 tv_512 tv_2 rfl yb_X0_at (by decide +kernel) rfl rfl rfl (by decide +kernel) (Nat.le_of_ble_eq_true rfl) (xj_1 hKL) xk_19 (fun r3 m3 w3 => ?_)
      obtain ⟨rfl, w3⟩ := w3
      have v3 : r3 = μ 2 (2 * (k : Int)).toNat % 256 := w3.elim (fun q => q.2.2) (fun q => absurd ⟨(by omega), (by omega)⟩ q.1)
      have u3 : 0 ≤ r3 ∧ r3 ≤ 255 := by omega
      refine xw_istore (pc := 75) (L' := [(4, .int (Int32.ofInt r3)), (0, .ref (xw_ad al 0)), (1, .ref (xw_ad al 4)), (2, .int (Int32.ofInt ((hx_bs (fun f => hx_wo v (fun i => μ 2 i % 256) f k) (v 1).toNat : Nat) : Int))), (3, .int (Int32.ofInt (2 * (k : Int))))]) C0 dX11_faultsByLamps_75 (by decide +kernel) rfl ?_
      refine xw_aload_n (pc := 77) C0 1 dX11_faultsByLamps_77 rfl rfl ?_
      refine xw_iload (pc := 78) C0 0 dX11_faultsByLamps_78 rfl ?_
      refine xw_callVI (pc := 80) (μ := μ) (ci := 11) (rest := []) (As := [.int (Int32.ofInt r3)]) C0 hU hO sa_Tg hKL (xh_isThing (l := l) (v := r3) hG (by omega)) tv_675 dX11_faultsByLamps_80 tv_672 tv_674 tq_X11_isThing tv_1 rfl yb_X11_isThing (by decide +kernel) rfl rfl rfl (by decide +kernel) (Nat.le_of_ble_eq_true rfl) (xj_0 hKL) xk_27 (fun r4 m4 w4 => ?_)
      obtain ⟨rfl, w4⟩ := w4
      rcases w4 with ⟨w4, rfl⟩ | ⟨w4, rfl⟩
      · refine xw_if_ne (pc := 83) (tgt := 88) C0 (by omega) dX11_faultsByLamps_83 rfl (fun b5 => ?_) (fun b5 => ?_)
        · refine xw_iload_n (pc := 88) C0 3 dX11_faultsByLamps_88 rfl rfl ?_
          refine xw_aload_n (pc := 89) C0 2 dX11_faultsByLamps_89 rfl rfl ?_
          refine xw_iload (pc := 90) C0 0 dX11_faultsByLamps_90 rfl ?_
          refine xw_aload_n (pc := 92) C0 1 dX11_faultsByLamps_92 rfl rfl ?_
          refine xw_getR (pc := 93) (f := 0) C0 1 kcX11 dX11_faultsByLamps_93 (by decide +kernel) tv_422 (xj_0 hKL) xk_27 rfl ((rfl).trans (xe_0_0 hG)) ?_
          refine xw_iload_n (pc := 96) C0 4 dX11_faultsByLamps_96 rfl rfl ?_
          refine xw_iconst (pc := 97) C0 dX11_faultsByLamps_97 ?_
          refine xw_iadd (pc := 98) C0 dX11_faultsByLamps_98 ?_
          refine xw_callVI (pc := 99) (μ := μ) (ci := 0) (rest := [.int (Int32.ofInt r3), .ref (xw_ad al 4), .int (Int32.ofInt ((hx_bs (fun f => hx_wo v (fun i => μ 2 i % 256) f k) (v 1).toNat : Nat) : Int))]) (As := [.int (Int32.ofInt ((2 * (k : Int)) + 1))]) C0 hU hO sa_Tg hKL (xm_at (l := l) (i := (2 * (k : Int)) + 1) (by omega) hG) tv_513 dX11_faultsByLamps_99 tv_783 tv_511 tv_512 tv_2 rfl yb_X0_at (by decide +kernel) rfl rfl rfl (by decide +kernel) (Nat.le_of_ble_eq_true rfl) (xj_1 hKL) xk_19 (fun r6 m6 w6 => ?_)
          obtain ⟨rfl, w6⟩ := w6
          have v6 : r6 = μ 2 ((2 * (k : Int)) + 1).toNat % 256 := w6.elim (fun q => q.2.2) (fun q => absurd ⟨(by omega), (by omega)⟩ q.1)
          have u6 : 0 ≤ r6 ∧ r6 ≤ 255 := by omega
          refine xw_callVI (pc := 102) (μ := μ) (ci := 2) (rest := [.int (Int32.ofInt ((hx_bs (fun f => hx_wo v (fun i => μ 2 i % 256) f k) (v 1).toNat : Nat) : Int))]) (As := [.int (Int32.ofInt r3), .int (Int32.ofInt r6)]) C0 hU hO sa_Tg hKL (xq_faultsShowing (l := l) (v := v) (nm := nm) (t9 := r3) (l9 := r6) hG hK hE (by omega) (by omega)) tv_787 dX11_faultsByLamps_102 tv_784 tv_785 tv_786 tv_4 rfl yb_X2_faultsShowing (by decide +kernel) rfl rfl rfl (by decide +kernel) (Nat.le_of_ble_eq_true rfl) (xj_4 hKL) xk_28 (fun r7 m7 w7 => ?_)
          obtain ⟨rfl, rfl⟩ := w7
          have n9 : Int32.ofInt ((hx_bs (fun f => hx_wo v (fun i => μ 2 i % 256) f k) (v 1).toNat : Nat) : Int) &&& Int32.ofInt ((hx_bs (hx_sp v r3 r6) (v 1).toNat : Nat) : Int) = Int32.ofInt ((hx_bs (fun f => hx_wo v (fun i => μ 2 i % 256) f k && hx_sp v r3 r6 f) (v 1).toNat : Nat) : Int) := by
            rw [xb_anN (hx_b8 (by omega)) (hx_b8 (by omega)), hx_bsA]
          refine xw_iand (pc := 105) C0 dX11_faultsByLamps_105 n9 ?_
          refine xw_istore_n (pc := 106) (L' := [(2, .int (Int32.ofInt ((hx_bs (fun f => hx_wo v (fun i => μ 2 i % 256) f k && hx_sp v r3 r6 f) (v 1).toNat : Nat) : Int))), (4, .int (Int32.ofInt r3)), (0, .ref (xw_ad al 0)), (1, .ref (xw_ad al 4)), (3, .int (Int32.ofInt (2 * (k : Int))))]) C0 dX11_faultsByLamps_106 rfl (by decide +kernel) rfl ?_
          refine xw_iinc (pc := 107) (L' := [(3, .int (Int32.ofInt ((2 * (k : Int)) + 2))), (2, .int (Int32.ofInt ((hx_bs (fun f => hx_wo v (fun i => μ 2 i % 256) f k && hx_sp v r3 r6 f) (v 1).toNat : Nat) : Int))), (4, .int (Int32.ofInt r3)), (0, .ref (xw_ad al 0)), (1, .ref (xw_ad al 4))]) C0 4 dX11_faultsByLamps_107 rfl (by decide +kernel) rfl ?_
          refine xw_goto (pc := 110) (tgt := 56) C0 dX11_faultsByLamps_110 rfl ?_
          have e2 : (2 * (k : Int)).toNat = 2 * k := by omega
          rw [e2] at v3
          have v9 : r3 = (fun i => μ 2 i % 256) (2 * k) := v3
          have e5 : (2 * (k : Int) + 1).toNat = 2 * k + 1 := by omega
          rw [e5] at v6
          have v8 : r6 = (fun i => μ 2 i % 256) (2 * k + 1) := v6
          have e3 : ((hx_bs (fun f => hx_wo v (fun i => μ 2 i % 256) f k && hx_sp v r3 r6 f) (v 1).toNat : Nat) : Int) = ((hx_bs (fun f => hx_wo v (fun i => μ 2 i % 256) f (k + 1)) (v 1).toNat : Nat) : Int) := by
            rw [v9, v8]
            rfl
          have e1 : 2 * (k : Int) + 2 = 2 * ((k + 1 : Nat) : Int) := by omega
          rw [e1, e3]
          refine xw_pk [3, 4, 1, 0] (L' := [(0, .ref (xw_ad al 0)), (1, .ref (xw_ad al 4)), (2, .int (Int32.ofInt ((hx_bs (fun f => hx_wo v (fun i => μ 2 i % 256) f (k + 1)) (v 1).toNat : Nat) : Int))), (3, .int (Int32.ofInt (2 * ((k + 1 : Nat) : Int))))]) rfl ?_
          exact ih (k + 1) (by omega) (by omega) (hx_wtS h1 (by have v7 : r3 = μ 2 (2 * k) % 256 := v9; omega))
        · exfalso
          omega
      · refine xw_if_ne (pc := 83) (tgt := 88) C0 (by omega) dX11_faultsByLamps_83 rfl (fun b8 => ?_) (fun b8 => ?_)
        · exfalso
          omega
        · have e2 : (2 * (k : Int)).toNat = 2 * k := by omega
          rw [e2] at v3
          have v9 : r3 = (fun i => μ 2 i % 256) (2 * k) := v3
          refine xw_pk [1] (L' := [(0, .ref (xw_ad al 0))]) rfl ?_
          exact kw k (by omega) (by rw [← v9]; omega)
set_option maxRecDepth 20000 in
set_option maxHeartbeats 20000000 in
theorem xq_faultsByLamps {l : Launch} {v nm : Nat → Int} {μ : xw_M} (hG : xw_G xw_GL μ) (hK : hp_ok v nm) (hE : hx_E v 4 μ) : xw_MetI l vwCl sa_Ts tb_KT0 tc_KL yX11_faultsByLamps cX11_faultsByLamps 5 (some .int) 3 145 (fun ad => [.ref (ad 0)]) μ (fun r μ' => μ = μ' ∧ ((hx_wa v (fun i => μ 2 i % 256) (μ 1 1) ∧ r = ((hx_wr v (fun i => μ 2 i % 256) (μ 1 1) : Nat) : Int)) ∨ (¬ hx_wa v (fun i => μ 2 i % 256) (μ 1 1) ∧ r = -1))) :=
  xw_of (by decide +kernel) (fun _ => Nat.le_of_ble_eq_true rfl) (fun p e s m args below meth c D dA A al w0 sz C0 hU hO hKL hr hlk hA => by
    have k0 := hK.1
    have k1 := hK.2.1
    have c0 : μ 4 13 = v 0 := hE.1.1
    have c1 : μ 4 14 = v 1 := hE.1.2.1
    refine xw_aload_n (pc := 0) C0 0 dX11_faultsByLamps_0 rfl rfl ?_
    refine xw_getR (pc := 1) (f := 1) C0 3 kcX11 dX11_faultsByLamps_1 (by decide +kernel) tv_423 (xj_0 hKL) xk_27 rfl ((rfl).trans (xe_0_1 hG)) ?_
    refine xw_getR (pc := 4) (f := 0) C0 4 kcX10 dX11_faultsByLamps_4 (by decide +kernel) tv_234 (xj_3 hKL) xk_24 rfl ((rfl).trans (xe_3_0 hG)) ?_
    refine xw_astore_n (pc := 7) (L' := [(1, .ref (xw_ad al 4)), (0, .ref (xw_ad al 0))]) C0 dX11_faultsByLamps_7 rfl (by decide +kernel) rfl ?_
    refine xw_aload_n (pc := 8) C0 1 dX11_faultsByLamps_8 rfl rfl ?_
    refine xw_getR (pc := 9) (f := 0) C0 1 kcX11 dX11_faultsByLamps_9 (by decide +kernel) tv_422 (xj_0 hKL) xk_27 rfl ((rfl).trans (xe_0_0 hG)) ?_
    refine xw_getI (pc := 12) (f := 1) (z := μ 1 1) C0 kcX0 dX11_faultsByLamps_12 (by decide +kernel) tv_40 (xj_1 hKL) xk_19 rfl (rfl) (fun g1 k1 => ?_)
    refine xw_iconst (pc := 15) C0 dX11_faultsByLamps_15 ?_
    refine xw_icmp_lt (pc := 16) (tgt := 43) C0 (by omega) (by omega) dX11_faultsByLamps_16 rfl (fun b2 => ?_) (fun b2 => ?_)
    · refine xw_iconst (pc := 43) C0 dX11_faultsByLamps_43 ?_
      refine xw_iret C0 hA hr hlk rfl dX11_faultsByLamps_44 ?_
      exact ⟨_, rfl, rfl, Or.inr ⟨fun q => by obtain ⟨q1, q2, q3, -⟩ := q; omega, rfl⟩⟩
    · refine xw_aload_n (pc := 19) C0 1 dX11_faultsByLamps_19 rfl rfl ?_
      refine xw_getR (pc := 20) (f := 0) C0 1 kcX11 dX11_faultsByLamps_20 (by decide +kernel) tv_422 (xj_0 hKL) xk_27 rfl ((rfl).trans (xe_0_0 hG)) ?_
      refine xw_getI (pc := 23) (f := 1) (z := μ 1 1) C0 kcX0 dX11_faultsByLamps_23 (by decide +kernel) tv_40 (xj_1 hKL) xk_19 rfl (rfl) (fun g3 k3 => ?_)
      refine xw_bipush (pc := 26) C0 dX11_faultsByLamps_26 (by decide +kernel) ?_
      refine xw_icmp_gt (pc := 28) (tgt := 43) C0 (by omega) (by omega) dX11_faultsByLamps_28 rfl (fun b4 => ?_) (fun b4 => ?_)
      · refine xw_iconst (pc := 43) C0 dX11_faultsByLamps_43 ?_
        refine xw_iret C0 hA hr hlk rfl dX11_faultsByLamps_44 ?_
        exact ⟨_, rfl, rfl, Or.inr ⟨fun q => by obtain ⟨q1, q2, q3, -⟩ := q; omega, rfl⟩⟩
      · refine xw_aload_n (pc := 31) C0 1 dX11_faultsByLamps_31 rfl rfl ?_
        refine xw_getR (pc := 32) (f := 0) C0 1 kcX11 dX11_faultsByLamps_32 (by decide +kernel) tv_422 (xj_0 hKL) xk_27 rfl ((rfl).trans (xe_0_0 hG)) ?_
        refine xw_getI (pc := 35) (f := 1) (z := μ 1 1) C0 kcX0 dX11_faultsByLamps_35 (by decide +kernel) tv_40 (xj_1 hKL) xk_19 rfl (rfl) (fun g5 k5 => ?_)
        refine xw_iconst (pc := 38) C0 dX11_faultsByLamps_38 ?_
        refine xw_irem (pc := 39) C0 (by omega) (by omega) dX11_faultsByLamps_39 ?_
        refine xw_if_eq (pc := 40) (tgt := 45) C0 (by omega) dX11_faultsByLamps_40 rfl (fun b6 => ?_) (fun b6 => ?_)
        · refine xw_iconst (pc := 45) C0 dX11_faultsByLamps_45 ?_
          refine xw_aload_n (pc := 46) C0 0 dX11_faultsByLamps_46 rfl rfl ?_
          refine xw_getI (pc := 47) (f := 14) (z := μ 4 14) C0 kcX2 dX11_faultsByLamps_47 (by decide +kernel) tv_104 (xj_4 hKL) xk_28 rfl (rfl) (fun g7 k7 => ?_)
          refine xw_nI (pc := 50) (congrArg Int32.ofInt (show μ 4 14 = (((v 1).toNat : Nat) : Int) by omega)) ?_
          refine xw_ishl (pc := 50) C0 dX11_faultsByLamps_50 (xb_shM (f := (v 1).toNat) (by omega)) ?_
          refine xw_iconst (pc := 51) C0 dX11_faultsByLamps_51 ?_
          refine xw_isub (pc := 52) C0 dX11_faultsByLamps_52 ?_
          refine xw_nI (congrArg Int32.ofInt (show (2 ^ (v 1).toNat) - 1 = ((hx_bs (fun f => hx_wo v (fun i => μ 2 i % 256) f 0) (v 1).toNat : Nat) : Int) from (hx_bs1 (v 1).toNat).symm)) ?_
          refine xw_istore_n (pc := 53) (L' := [(2, .int (Int32.ofInt ((hx_bs (fun f => hx_wo v (fun i => μ 2 i % 256) f 0) (v 1).toNat : Nat) : Int))), (1, .ref (xw_ad al 4)), (0, .ref (xw_ad al 0))]) C0 dX11_faultsByLamps_53 rfl (by decide +kernel) rfl ?_
          refine xw_iconst (pc := 54) C0 dX11_faultsByLamps_54 ?_
          refine xw_istore_n (pc := 55) (L' := [(3, .int (Int32.ofInt 0)), (2, .int (Int32.ofInt ((hx_bs (fun f => hx_wo v (fun i => μ 2 i % 256) f 0) (v 1).toNat : Nat) : Int))), (1, .ref (xw_ad al 4)), (0, .ref (xw_ad al 0))]) C0 dX11_faultsByLamps_55 rfl (by decide +kernel) rfl ?_
          refine xw_pk [3, 2, 1, 0] (L' := [(0, .ref (xw_ad al 0)), (1, .ref (xw_ad al 4)), (2, .int (Int32.ofInt ((hx_bs (fun f => hx_wo v (fun i => μ 2 i % 256) f 0) (v 1).toNat : Nat) : Int))), (3, .int (Int32.ofInt (2 * ((0 : Nat) : Int))))]) rfl ?_
          refine xq_fbL (v := v) (nm := nm) (μ := μ) C0 hU hO hKL hG hK hE ⟨by omega, by omega, by omega⟩ (fun k hk ht => ?_) (fun k hk hw => ?_) 99 0 (by omega) (by omega) rfl
          · have ek : (μ 1 1 / 2).toNat = k := by omega
            refine xw_iload_n (pc := 113) C0 0 dX11_faultsByLamps_113 rfl rfl ?_
            refine xw_iret C0 hA hr hlk rfl dX11_faultsByLamps_114 ?_
            exact ⟨_, rfl, rfl, Or.inl ⟨⟨by omega, by omega, by omega, by rw [ek]; exact ht⟩, by unfold hx_wr; rw [ek]⟩⟩
          · refine xw_iconst (pc := 86) C0 dX11_faultsByLamps_86 ?_
            refine xw_iret C0 hA hr hlk rfl dX11_faultsByLamps_87 ?_
            exact ⟨_, rfl, rfl, Or.inr ⟨fun q => absurd q.2.2.2 (by rw [hx_wtN (t := (fun i => μ 2 i % 256)) hw (μ 1 1 / 2).toNat (by omega)]; exact Bool.false_ne_true), rfl⟩⟩
        · refine xw_iconst (pc := 43) C0 dX11_faultsByLamps_43 ?_
          refine xw_iret C0 hA hr hlk rfl dX11_faultsByLamps_44 ?_
          exact ⟨_, rfl, rfl, Or.inr ⟨fun q => by obtain ⟨q1, q2, q3, -⟩ := q; omega, rfl⟩⟩)
set_option maxRecDepth 20000 in
set_option maxHeartbeats 20000000 in
theorem xh_whatV {l : Launch} {v nm : Nat → Int} {μ : xw_M} (hG : xw_G xw_GL μ) (hK : hp_ok v nm) (hE : hx_E v 4 μ) : xw_MetI l vwCl sa_Ts tb_KT0 tc_KL yX11_what cX11_what 2 (some .int) 4 169 (fun ad => [.ref (ad 0)]) μ (fun r μ' => ((hx_wa v (fun i => μ 2 i % 256) (μ 1 1) ∧ r = ((hx_wr v (fun i => μ 2 i % 256) (μ 1 1) : Nat) : Int)) ∨ (¬ hx_wa v (fun i => μ 2 i % 256) (μ 1 1) ∧ r = -1)) ∧ μ' 1 1 = 0 ∧ xw_F [(1, 1, 1), (0, 12, 12), (144, 0, 7)] μ μ') :=
  xw_of (by decide +kernel) (fun _ => Nat.le_of_ble_eq_true rfl) (fun p e s m args below meth c D dA A al w0 sz C0 hU hO hKL hr hlk hA => by
    have k1 := hK.2.1
    refine xw_aload_n (pc := 0) C0 0 dX11_what_0 rfl rfl ?_
    refine xw_callVI (pc := 1) (μ := μ) (ci := 11) (rest := []) (As := []) C0 hU hO sa_Tg hKL (xq_faultsByLamps (l := l) (v := v) (nm := nm) (μ := μ) hG hK hE) tv_782 dX11_what_1 tv_779 tv_781 tq_X11_faultsByLamps tv_1 rfl yb_X11_faultsByLamps (by decide +kernel) rfl rfl rfl (by decide +kernel) (Nat.le_of_ble_eq_true rfl) (xj_0 hKL) xk_27 (fun r1 m1 w1 => ?_)
    obtain ⟨rfl, w1⟩ := w1
    have u1 : -1 ≤ r1 ∧ r1 < 256 := by
      have z9 := hx_b8 (p := (fun f => hx_wo v (fun i => μ 2 i % 256) f (μ 1 1 / 2).toNat)) (m := (v 1).toNat) (by omega)
      rcases w1 with ⟨q1, q2⟩ | ⟨q1, q2⟩
      · unfold hx_wr at q2; omega
      · omega
    refine xw_istore_n (pc := 4) (L' := [(1, .int (Int32.ofInt r1)), (0, .ref (xw_ad al 0))]) C0 dX11_what_4 rfl (by decide +kernel) rfl ?_
    refine xw_aload_n (pc := 5) C0 1 dX11_what_5 rfl rfl ?_
    refine xw_getR (pc := 6) (f := 0) C0 1 kcX11 dX11_what_6 (by decide +kernel) tv_422 (xj_0 hKL) xk_27 rfl ((rfl).trans (xe_0_0 hG)) ?_
    refine xw_iconst (pc := 9) C0 dX11_what_9 ?_
    refine xw_putI (pc := 10) (f := 1) C0 kcX0 dX11_what_10 (by decide +kernel) tv_40 rfl rfl (xj_1 hKL) xk_19 rfl (by omega) (by omega) ?_
    refine xw_iload_n (pc := 13) C0 0 dX11_what_13 rfl rfl ?_
    refine xw_if_le (pc := 14) (tgt := 43) C0 (by omega) dX11_what_14 rfl (fun b2 => ?_) (fun b2 => ?_)
    · refine xw_iload_n (pc := 43) C0 0 dX11_what_43 rfl rfl ?_
      refine xw_iret C0 hA hr hlk rfl dX11_what_44 ?_
      exact ⟨_, rfl, w1, xw_ug, ((xw_F.rf (ML := [(1, 1, 1), (0, 12, 12), (144, 0, 7)])).u (show (1, 1, 1) ∈ _ by decide) ⟨by decide, by decide⟩)⟩
    · refine xw_aload_n (pc := 17) C0 1 dX11_what_17 rfl rfl ?_
      refine xw_iload_n (pc := 18) C0 0 dX11_what_18 rfl rfl ?_
      refine xw_putI (pc := 19) (f := 12) C0 kcX11 dX11_what_19 (by decide +kernel) tv_434 rfl rfl (xj_0 hKL) xk_27 rfl (by omega) (by omega) ?_
      refine xw_aload_n (pc := 22) C0 1 dX11_what_22 rfl rfl ?_
      refine xw_getR (pc := 23) (f := 1) C0 3 kcX11 dX11_what_23 (by decide +kernel) tv_423 (xj_0 hKL) xk_27 rfl (((xw_un (by decide +kernel)).trans ((xw_un (fun q => absurd q.1 (by decide +kernel))).trans rfl)).trans (xe_0_1 hG)) ?_
      refine xw_getR (pc := 26) (f := 0) C0 4 kcX10 dX11_what_26 (by decide +kernel) tv_234 (xj_3 hKL) xk_24 rfl (((xw_un (fun q => absurd q.1 (by decide +kernel))).trans ((xw_un (fun q => absurd q.1 (by decide +kernel))).trans rfl)).trans (xe_3_0 hG)) ?_
      refine xw_getR (pc := 29) (f := 10) C0 15 kcX2 dX11_what_29 (by decide +kernel) tv_91 (xj_4 hKL) xk_28 rfl (((xw_un (fun q => absurd q.1 (by decide +kernel))).trans ((xw_un (fun q => absurd q.1 (by decide +kernel))).trans rfl)).trans (xe_4_10 hG)) ?_
      refine xw_iconst (pc := 32) C0 dX11_what_32 ?_
      refine xw_aload_n (pc := 33) C0 1 dX11_what_33 rfl rfl ?_
      refine xw_getR (pc := 34) (f := 10) C0 144 kcX11 dX11_what_34 (by decide +kernel) tv_432 (xj_0 hKL) xk_27 rfl (((xw_un (by decide +kernel)).trans ((xw_un (fun q => absurd q.1 (by decide +kernel))).trans rfl)).trans (xe_0_10 hG)) ?_
      refine xw_iconst (pc := 37) C0 dX11_what_37 ?_
      refine xw_bipush (pc := 38) C0 dX11_what_38 (by decide +kernel) ?_
      have Ft1 : xw_F [(0, 12, 12), (1, 1, 1)] μ (xw_u (xw_u μ 1 1 0) 0 12 r1) := (((xw_F.rf (ML := [(0, 12, 12), (1, 1, 1)])).u (show (1, 1, 1) ∈ _ by decide) ⟨by decide, by decide⟩).u (show (0, 12, 12) ∈ _ by decide) ⟨by decide, by decide⟩)
      have vt1_0_12 : (xw_u (xw_u μ 1 1 0) 0 12 r1) 0 12 = r1 := xw_ug
      have vt1_1_1 : (xw_u (xw_u μ 1 1 0) 0 12 r1) 1 1 = 0 := (xw_un (fun q => absurd q.1 (by decide +kernel))).trans xw_ug
      generalize (xw_u (xw_u μ 1 1 0) 0 12 r1) = t1 at Ft1 vt1_0_12 vt1_1_1 ⊢
      have hG_t1 := xw_GF hG Ft1 (by decide +kernel)
      refine xw_acI (pc := 40) (μ := t1) (n := 8) C0 dX11_what_40 tv_788 tv_629 tv_628 tv_14 (by decide +kernel) (by decide +kernel) (Nat.le_of_ble_eq_true rfl) (xj_15 hKL) (xj_144 hKL) xk_39 xk_74 (by decide +kernel) (fun _ _ _ h9 => h9) ?_
      have G3 : xw_F [(144, 0, 7)] t1 (fun j i => if j = 144 ∧ i < 8 then t1 15 i else t1 j i) := fun j i h9 => if_neg (fun q => by obtain ⟨q1, q2⟩ := q; subst q1; exact xw_o_in h9 List.mem_cons_self ⟨Nat.zero_le _, by omega⟩)
      have P3 : ∀ i : Nat, i < 8 → (fun j i => if j = 144 ∧ i < 8 then t1 15 i else t1 j i) 144 i = t1 15 i := fun i hi => if_pos ⟨rfl, hi⟩
      generalize (fun j i => if j = 144 ∧ i < 8 then t1 15 i else t1 j i) = c3 at G3 P3 ⊢
      have hG_c3 := xw_GF hG_t1 G3 (by decide +kernel)
      refine xw_iload_n (pc := 43) C0 0 dX11_what_43 rfl rfl ?_
      refine xw_iret C0 hA hr hlk rfl dX11_what_44 ?_
      exact ⟨_, rfl, w1, (G3 1 1 (by decide +kernel)).trans vt1_1_1, (((xw_F.rf (ML := [(1, 1, 1), (0, 12, 12), (144, 0, 7)])).tr Ft1 (fun j i h => xw_o_sub (by decide +kernel) j i h)).tr G3 (fun j i h => xw_o_sub (by decide +kernel) j i h))⟩)
set_option maxRecDepth 20000 in
set_option maxHeartbeats 20000000 in
theorem xr_soL {l : Launch} {p : Program} {e : Env} {s : State} {m : MethodId} {args : Array Value} {below : List Frame} {meth : Method} {c : Code} {Q : State → Prop} {D : va_G} {dA : Nat → ClassId} {A : Nat → Prop} {al : List (Nat × Nat)} (C0 : sa_C p s m args c D dA A 4 vwCl sa_Ts cX12_showsSo yX12_showsSo.cls) (hU : sa_U D vwCl dA s) (hO : tb_Ou A s s.heap) (hKL : al.map Prod.snd = tc_KL) {v nm t : Nat → Int} {n : Int} {F : Nat} {μ : xw_M} (hG : xw_G xw_GL μ) (hK : hp_ok v nm) (hN : ∀ k : Nat, k < 77 → μ 202 k = v k) (hT : ∀ i : Nat, i < 940 → μ 201 i = t i) (hn : n % 2 = 0 ∧ 2 ≤ n ∧ n ≤ 12) (hF : F < 8) (kx : ∀ k : Nat, 2 * (k : Int) = n → hx_wo v t F k = true → xw_W p l e { frames := 2, cells := 0, slots := 0, locals := 120 } s m args below meth c Q D dA A 4 vwCl tb_KT0 al 0 0 μ 58 [(0, .ref (xw_ad al 200))] []) (kw : ∀ k : Nat, 2 * (k : Int) < n → hx_sp v (t (2 * k)) (t (2 * k + 1)) F = false → xw_W p l e { frames := 2, cells := 0, slots := 0, locals := 120 } s m args below meth c Q D dA A 4 vwCl tb_KT0 al 0 0 μ 50 [(0, .ref (xw_ad al 200))] []) : ∀ (fu9 : Nat) (k : Nat), n - 2 * (k : Int) < (fu9 : Int) → 2 * (k : Int) ≤ n → hx_wo v t F k = true → xw_W p l e { frames := 2, cells := 0, slots := 0, locals := 120 } s m args below meth c Q D dA A 4 vwCl tb_KT0 al 0 0 μ 2 [(0, .ref (xw_ad al 200)), (1, .int (Int32.ofInt n)), (2, .int (Int32.ofInt (F : Int))), (3, .int (Int32.ofInt (2 * (k : Int))))] [] := by
  intro fu9
  induction fu9 with
  | zero => intro k hm hk h1; exfalso; omega
  | succ fu9 ih =>
    intro k hm hk h1
    have k1 := hK.2.1
    refine xw_iload_n (pc := 2) C0 3 dX12_showsSo_2 rfl rfl ?_
    refine xw_iload_n (pc := 3) C0 1 dX12_showsSo_3 rfl rfl ?_
    refine xw_icmp_ge (pc := 4) (tgt := 58) C0 (by omega) (by omega) dX12_showsSo_4 rfl (fun b1 => ?_) (fun b1 => ?_)
    · refine xw_pk [0] (L' := [(0, .ref (xw_ad al 200))]) rfl ?_
      exact kx k (by omega) h1
    · refine xw_aload_n (pc := 7) C0 0 dX12_showsSo_7 rfl rfl ?_
      refine xw_getR (pc := 8) (f := 1) C0 201 kcX12 dX12_showsSo_8 (by decide +kernel) tv_1262 (xj_200 hKL) xk_0 rfl ((rfl).trans (xe_200_1 hG)) ?_
      refine xw_iload_n (pc := 11) C0 3 dX12_showsSo_11 rfl rfl ?_
      refine xw_iconst (pc := 12) C0 dX12_showsSo_12 ?_
      refine xw_iadd (pc := 13) C0 dX12_showsSo_13 ?_
      refine xw_nI (pc := 14) (congrArg Int32.ofInt (show (2 * (k : Int)) + 1 = ((2 * k + 1 : Nat) : Int) by omega)) ?_
      refine xw_iald (pc := 14) (z := t (2 * k + 1)) C0 dX12_showsSo_14 (xj_201 hKL) xk_2 (by omega) (by decide +kernel) (xw_rl (by omega)) (hT (2 * k + 1) (by omega)) (fun g2 k2 => ?_)
      refine xw_aload_n (pc := 15) C0 0 dX12_showsSo_15 rfl rfl ?_
      refine xw_getR (pc := 16) (f := 1) C0 201 kcX12 dX12_showsSo_16 (by decide +kernel) tv_1262 (xj_200 hKL) xk_0 rfl ((rfl).trans (xe_200_1 hG)) ?_
      refine xw_iload_n (pc := 19) C0 3 dX12_showsSo_19 rfl rfl ?_
      refine xw_nI (pc := 20) (congrArg Int32.ofInt (show 2 * (k : Int) = ((2 * k : Nat) : Int) by omega)) ?_
      refine xw_iald (pc := 20) (z := t (2 * k)) C0 dX12_showsSo_20 (xj_201 hKL) xk_2 (by omega) (by decide +kernel) (xw_rl (by omega)) (hT (2 * k) (by omega)) (fun g3 k3 => ?_)
      refine xw_aload_n (pc := 21) C0 0 dX12_showsSo_21 rfl rfl ?_
      refine xw_getR (pc := 22) (f := 14) C0 202 kcX12 dX12_showsSo_22 (by decide +kernel) tv_1275 (xj_200 hKL) xk_0 rfl ((rfl).trans (xe_200_14 hG)) ?_
      refine xw_bipush (pc := 25) C0 dX12_showsSo_25 (by decide +kernel) ?_
      refine xw_iload_n (pc := 27) C0 2 dX12_showsSo_27 rfl rfl ?_
      refine xw_iadd (pc := 28) C0 dX12_showsSo_28 ?_
      refine xw_nI (pc := 29) (congrArg Int32.ofInt (show 21 + (F : Int) = ((21 + F : Nat) : Int) by omega)) ?_
      obtain ⟨lo4, hi4, rl4, bl4, bh4⟩ := hx_n379 ⟨21 + F, by omega⟩
      refine xw_iald (pc := 29) (z := v (21 + F)) C0 dX12_showsSo_29 (xj_202 hKL) xk_1 (by omega) (by decide +kernel) rl4 (hN (21 + F) (by omega)) (fun g4 k4 => ?_)
      refine xw_icmp_ne (pc := 30) (tgt := 45) C0 (by omega) (by omega) dX12_showsSo_30 rfl (fun b5 => ?_) (fun b5 => ?_)
      · refine xw_bipush (pc := 45) C0 dX12_showsSo_45 (by decide +kernel) ?_
        refine xw_icmp_eq (pc := 47) (tgt := 52) C0 (by omega) (by omega) dX12_showsSo_47 rfl (fun b6 => ?_) (fun b6 => ?_)
        · refine xw_iinc (pc := 52) (L' := [(3, .int (Int32.ofInt ((2 * (k : Int)) + 2))), (0, .ref (xw_ad al 200)), (1, .int (Int32.ofInt n)), (2, .int (Int32.ofInt (F : Int)))]) C0 3 dX12_showsSo_52 rfl (by decide +kernel) rfl ?_
          refine xw_goto (pc := 55) (tgt := 2) C0 dX12_showsSo_55 rfl ?_
          have e9 : hx_sp v (t (2 * k)) (t (2 * k + 1)) F = true := by
            first
              | rw [hx_sp1 (by omega)]; exact decide_eq_true (by omega)
              | rw [hx_sp2 (by omega)]; exact decide_eq_true (by omega)
          have e1 : 2 * (k : Int) + 2 = 2 * ((k + 1 : Nat) : Int) := by omega
          rw [e1]
          refine xw_pk [1, 2, 3, 0] (L' := [(0, .ref (xw_ad al 200)), (1, .int (Int32.ofInt n)), (2, .int (Int32.ofInt (F : Int))), (3, .int (Int32.ofInt (2 * ((k + 1 : Nat) : Int))))]) rfl ?_
          exact ih (k + 1) (by omega) (by omega) (hx_woS h1 e9)
        · have e9 : hx_sp v (t (2 * k)) (t (2 * k + 1)) F = false := by
            first
              | rw [hx_sp1 (by omega)]; exact decide_eq_false (by omega)
              | rw [hx_sp2 (by omega)]; exact decide_eq_false (by omega)
          refine xw_pk [0] (L' := [(0, .ref (xw_ad al 200))]) rfl ?_
          exact kw k (by omega) e9
      · refine xw_aload_n (pc := 33) C0 0 dX12_showsSo_33 rfl rfl ?_
        refine xw_getR (pc := 34) (f := 14) C0 202 kcX12 dX12_showsSo_34 (by decide +kernel) tv_1275 (xj_200 hKL) xk_0 rfl ((rfl).trans (xe_200_14 hG)) ?_
        refine xw_bipush (pc := 37) C0 dX12_showsSo_37 (by decide +kernel) ?_
        refine xw_iload_n (pc := 39) C0 2 dX12_showsSo_39 rfl rfl ?_
        refine xw_iadd (pc := 40) C0 dX12_showsSo_40 ?_
        refine xw_nI (pc := 41) (congrArg Int32.ofInt (show 45 + (F : Int) = ((45 + F : Nat) : Int) by omega)) ?_
        obtain ⟨lo7, hi7, rl7, bl7, bh7⟩ := hx_n379 ⟨45 + F, by omega⟩
        refine xw_iald (pc := 41) (z := v (45 + F)) C0 dX12_showsSo_41 (xj_202 hKL) xk_1 (by omega) (by decide +kernel) rl7 (hN (45 + F) (by omega)) (fun g7 k7 => ?_)
        refine xw_goto (pc := 42) (tgt := 47) C0 dX12_showsSo_42 rfl ?_
        refine xw_icmp_eq (pc := 47) (tgt := 52) C0 (by omega) (by omega) dX12_showsSo_47 rfl (fun b8 => ?_) (fun b8 => ?_)
        · refine xw_iinc (pc := 52) (L' := [(3, .int (Int32.ofInt ((2 * (k : Int)) + 2))), (0, .ref (xw_ad al 200)), (1, .int (Int32.ofInt n)), (2, .int (Int32.ofInt (F : Int)))]) C0 3 dX12_showsSo_52 rfl (by decide +kernel) rfl ?_
          refine xw_goto (pc := 55) (tgt := 2) C0 dX12_showsSo_55 rfl ?_
          have e9 : hx_sp v (t (2 * k)) (t (2 * k + 1)) F = true := by
            first
              | rw [hx_sp1 (by omega)]; exact decide_eq_true (by omega)
              | rw [hx_sp2 (by omega)]; exact decide_eq_true (by omega)
          have e1 : 2 * (k : Int) + 2 = 2 * ((k + 1 : Nat) : Int) := by omega
          rw [e1]
          refine xw_pk [1, 2, 3, 0] (L' := [(0, .ref (xw_ad al 200)), (1, .int (Int32.ofInt n)), (2, .int (Int32.ofInt (F : Int))), (3, .int (Int32.ofInt (2 * ((k + 1 : Nat) : Int))))]) rfl ?_
          exact ih (k + 1) (by omega) (by omega) (hx_woS h1 e9)
        · have e9 : hx_sp v (t (2 * k)) (t (2 * k + 1)) F = false := by
            first
              | rw [hx_sp1 (by omega)]; exact decide_eq_false (by omega)
              | rw [hx_sp2 (by omega)]; exact decide_eq_false (by omega)
          refine xw_pk [0] (L' := [(0, .ref (xw_ad al 200))]) rfl ?_
          exact kw k (by omega) e9
set_option maxRecDepth 20000 in
set_option maxHeartbeats 20000000 in
theorem xr_showsSo {l : Launch} {v nm t : Nat → Int} {n : Int} {F : Nat} {μ : xw_M} (hG : xw_G xw_GL μ) (hK : hp_ok v nm) (hN : ∀ k : Nat, k < 77 → μ 202 k = v k) (hT : ∀ i : Nat, i < 940 → μ 201 i = t i) (hn : n % 2 = 0 ∧ 2 ≤ n ∧ n ≤ 12) (hF : F < 8) : xw_MetI l vwCl sa_Ts tb_KT0 tc_KL yX12_showsSo cX12_showsSo 4 (some .boolean) 2 120 (fun ad => [.ref (ad 200), .int (Int32.ofInt n), .int (Int32.ofInt (F : Int))]) μ (fun r μ' => μ = μ' ∧ ((hx_wo v t F (n / 2).toNat = true ∧ r = 1) ∨ (hx_wo v t F (n / 2).toNat = false ∧ r = 0))) :=
  xw_of (by decide +kernel) (fun _ => Nat.le_of_ble_eq_true rfl) (fun p e s m args below meth c D dA A al w0 sz C0 hU hO hKL hr hlk hA => by
    refine xw_iconst (pc := 0) C0 dX12_showsSo_0 ?_
    refine xw_istore_n (pc := 1) (L' := [(3, .int (Int32.ofInt 0)), (0, .ref (xw_ad al 200)), (1, .int (Int32.ofInt n)), (2, .int (Int32.ofInt (F : Int)))]) C0 dX12_showsSo_1 rfl (by decide +kernel) rfl ?_
    refine xw_pk [1, 2, 3, 0] (L' := [(0, .ref (xw_ad al 200)), (1, .int (Int32.ofInt n)), (2, .int (Int32.ofInt (F : Int))), (3, .int (Int32.ofInt (2 * ((0 : Nat) : Int))))]) rfl ?_
    refine xr_soL (v := v) (nm := nm) (t := t) (n := n) (F := F) (μ := μ) C0 hU hO hKL hG hK hN hT hn hF (fun k hk ht => ?_) (fun k hk hw => ?_) 99 0 (by omega) (by omega) rfl
    · have ek : (n / 2).toNat = k := by omega
      refine xw_iconst (pc := 58) C0 dX12_showsSo_58 ?_
      refine xw_iret C0 hA hr hlk rfl dX12_showsSo_59 ?_
      exact ⟨_, rfl, rfl, Or.inl ⟨by rw [ek]; exact ht, rfl⟩⟩
    · refine xw_iconst (pc := 50) C0 dX12_showsSo_50 ?_
      refine xw_iret C0 hA hr hlk rfl dX12_showsSo_51 ?_
      exact ⟨_, rfl, rfl, Or.inr ⟨hx_woN hw (n / 2).toNat (by omega), rfl⟩⟩)
set_option maxRecDepth 20000 in
set_option maxHeartbeats 20000000 in
theorem xr_waL {l : Launch} {p : Program} {e : Env} {s : State} {m : MethodId} {args : Array Value} {below : List Frame} {meth : Method} {c : Code} {Q : State → Prop} {D : va_G} {dA : Nat → ClassId} {A : Nat → Prop} {al : List (Nat × Nat)} (C0 : sa_C p s m args c D dA A 4 vwCl sa_Ts cX12_what yX12_what.cls) (hU : sa_U D vwCl dA s) (hO : tb_Ou A s s.heap) (hKL : al.map Prod.snd = tc_KL) {v nm t : Nat → Int} {n : Int} {μ : xw_M} (hG : xw_G xw_GL μ) (hK : hp_ok v nm) (hN : ∀ k : Nat, k < 77 → μ 202 k = v k) (hT : ∀ i : Nat, i < 940 → μ 201 i = t i) (hn : n % 2 = 0 ∧ 2 ≤ n ∧ n ≤ 12) (kx : ∀ k : Nat, 2 * (k : Int) = n → hx_wt v t k = true → xw_W p l e { frames := 4, cells := 0, slots := 0, locals := 163 } s m args below meth c Q D dA A 4 vwCl tb_KT0 al 0 0 μ 58 [(0, .ref (xw_ad al 200)), (1, .int (Int32.ofInt n))] []) (kw : ∀ k : Nat, 2 * (k : Int) < n → ¬ (0 ≤ t (2 * k) ∧ t (2 * k) < v 0) → xw_W p l e { frames := 4, cells := 0, slots := 0, locals := 163 } s m args below meth c Q D dA A 4 vwCl tb_KT0 al 0 0 μ 50 [(0, .ref (xw_ad al 200))] []) : ∀ (fu9 : Nat) (k : Nat), n - 2 * (k : Int) < (fu9 : Int) → 2 * (k : Int) ≤ n → hx_wt v t k = true → xw_W p l e { frames := 4, cells := 0, slots := 0, locals := 163 } s m args below meth c Q D dA A 4 vwCl tb_KT0 al 0 0 μ 32 [(0, .ref (xw_ad al 200)), (1, .int (Int32.ofInt n)), (2, .int (Int32.ofInt (2 * (k : Int))))] [] := by
  intro fu9
  induction fu9 with
  | zero => intro k hm hk h1; exfalso; omega
  | succ fu9 ih =>
    intro k hm hk h1
    have k0 := hK.1
    have k1 := hK.2.1
    have hn0 : μ 202 0 = v 0 := hN 0 (by decide +kernel)
    refine xw_iload_n (pc := 32) C0 2 dX12_what_32 rfl rfl ?_
    refine xw_iload_n (pc := 33) C0 1 dX12_what_33 rfl rfl ?_
    refine xw_icmp_ge (pc := 34) (tgt := 58) C0 (by omega) (by omega) dX12_what_34 rfl (fun b1 => ?_) (fun b1 => ?_)
    · refine xw_pk [0, 1] (L' := [(0, .ref (xw_ad al 200)), (1, .int (Int32.ofInt n))]) rfl ?_
      exact kx k (by omega) h1
    · refine xw_aload_n (pc := 37) C0 0 dX12_what_37 rfl rfl ?_
      refine xw_aload_n (pc := 38) C0 0 dX12_what_38 rfl rfl ?_
      refine xw_getR (pc := 39) (f := 1) C0 201 kcX12 dX12_what_39 (by decide +kernel) tv_1262 (xj_200 hKL) xk_0 rfl ((rfl).trans (xe_200_1 hG)) ?_
      refine xw_iload_n (pc := 42) C0 2 dX12_what_42 rfl rfl ?_
      refine xw_nI (pc := 43) (congrArg Int32.ofInt (show 2 * (k : Int) = ((2 * k : Nat) : Int) by omega)) ?_
      refine xw_iald (pc := 43) (z := t (2 * k)) C0 dX12_what_43 (xj_201 hKL) xk_2 (by omega) (by decide +kernel) (xw_rl (by omega)) (hT (2 * k) (by omega)) (fun g2 k2 => ?_)
      refine xw_callVI (pc := 44) (μ := μ) (ci := 12) (rest := []) (As := [.int (Int32.ofInt (t (2 * k)))]) C0 hU hO sa_Tg hKL (xr_isThing (l := l) (v := t (2 * k)) hG (by omega)) tv_1521 dX12_what_44 tv_1518 tv_1520 tq_X12_isThing tv_13 rfl yb_X12_isThing (by decide +kernel) rfl rfl rfl (by decide +kernel) (Nat.le_of_ble_eq_true rfl) (xj_200 hKL) xk_0 (fun r3 m3 w3 => ?_)
      obtain ⟨rfl, w3⟩ := w3
      rcases w3 with ⟨w3, rfl⟩ | ⟨w3, rfl⟩
      · refine xw_if_ne (pc := 47) (tgt := 52) C0 (by omega) dX12_what_47 rfl (fun b4 => ?_) (fun b4 => ?_)
        · refine xw_iinc (pc := 52) (L' := [(2, .int (Int32.ofInt ((2 * (k : Int)) + 2))), (0, .ref (xw_ad al 200)), (1, .int (Int32.ofInt n))]) C0 2 dX12_what_52 rfl (by decide +kernel) rfl ?_
          refine xw_goto (pc := 55) (tgt := 32) C0 dX12_what_55 rfl ?_
          have e1 : 2 * (k : Int) + 2 = 2 * ((k + 1 : Nat) : Int) := by omega
          rw [e1]
          refine xw_pk [1, 2, 0] (L' := [(0, .ref (xw_ad al 200)), (1, .int (Int32.ofInt n)), (2, .int (Int32.ofInt (2 * ((k + 1 : Nat) : Int))))]) rfl ?_
          exact ih (k + 1) (by omega) (by omega) (hx_wtS h1 (by omega))
        · exfalso
          omega
      · refine xw_if_ne (pc := 47) (tgt := 52) C0 (by omega) dX12_what_47 rfl (fun b5 => ?_) (fun b5 => ?_)
        · exfalso
          omega
        · refine xw_pk [0] (L' := [(0, .ref (xw_ad al 200))]) rfl ?_
          exact kw k (by omega) (by omega)
set_option maxRecDepth 20000 in
set_option maxHeartbeats 20000000 in
theorem xr_wbL {l : Launch} {p : Program} {e : Env} {s : State} {m : MethodId} {args : Array Value} {below : List Frame} {meth : Method} {c : Code} {Q : State → Prop} {D : va_G} {dA : Nat → ClassId} {A : Nat → Prop} {al : List (Nat × Nat)} (C0 : sa_C p s m args c D dA A 4 vwCl sa_Ts cX12_what yX12_what.cls) (hU : sa_U D vwCl dA s) (hO : tb_Ou A s s.heap) (hKL : al.map Prod.snd = tc_KL) {v nm t : Nat → Int} {n : Int} {μ : xw_M} (hG : xw_G xw_GL μ) (hK : hp_ok v nm) (hN : ∀ k : Nat, k < 77 → μ 202 k = v k) (hT : ∀ i : Nat, i < 940 → μ 201 i = t i) (hn : n % 2 = 0 ∧ 2 ≤ n ∧ n ≤ 12) (kx : xw_W p l e { frames := 4, cells := 0, slots := 0, locals := 163 } s m args below meth c Q D dA A 4 vwCl tb_KT0 al 0 0 μ 93 [(0, .ref (xw_ad al 200)), (2, .int (Int32.ofInt ((hx_bs (fun f => hx_wo v t f (n / 2).toNat) (v 1).toNat : Nat) : Int)))] []) : ∀ (fu9 : Nat) (k : Nat), ((v 1).toNat : Int) - (k : Int) < (fu9 : Int) → k ≤ (v 1).toNat → xw_W p l e { frames := 4, cells := 0, slots := 0, locals := 163 } s m args below meth c Q D dA A 4 vwCl tb_KT0 al 0 0 μ 62 [(0, .ref (xw_ad al 200)), (1, .int (Int32.ofInt n)), (2, .int (Int32.ofInt ((hx_bs (fun f => hx_wo v t f (n / 2).toNat) k : Nat) : Int))), (3, .int (Int32.ofInt (k : Int)))] [] := by
  intro fu9
  induction fu9 with
  | zero => intro k hm hk; exfalso; omega
  | succ fu9 ih =>
    intro k hm hk
    have k1 := hK.2.1
    have hn1 : μ 202 1 = v 1 := hN 1 (by decide +kernel)
    refine xw_iload_n (pc := 62) C0 3 dX12_what_62 rfl rfl ?_
    refine xw_aload_n (pc := 63) C0 0 dX12_what_63 rfl rfl ?_
    refine xw_getR (pc := 64) (f := 14) C0 202 kcX12 dX12_what_64 (by decide +kernel) tv_1275 (xj_200 hKL) xk_0 rfl ((rfl).trans (xe_200_14 hG)) ?_
    refine xw_iconst (pc := 67) C0 dX12_what_67 ?_
    refine xw_iald (pc := 68) (z := v 1) C0 dX12_what_68 (xj_202 hKL) xk_1 (by omega) (by decide +kernel) rfl hn1 (fun g1 k1 => ?_)
    refine xw_icmp_ge (pc := 69) (tgt := 93) C0 (by omega) (by omega) dX12_what_69 rfl (fun b2 => ?_) (fun b2 => ?_)
    · have e9 : k = (v 1).toNat := by omega
      subst e9
      refine xw_pk [0, 2] (L' := [(0, .ref (xw_ad al 200)), (2, .int (Int32.ofInt ((hx_bs (fun f => hx_wo v t f (n / 2).toNat) (v 1).toNat : Nat) : Int)))]) rfl ?_
      exact kx
    · refine xw_aload_n (pc := 72) C0 0 dX12_what_72 rfl rfl ?_
      refine xw_iload_n (pc := 73) C0 1 dX12_what_73 rfl rfl ?_
      refine xw_iload_n (pc := 74) C0 3 dX12_what_74 rfl rfl ?_
      refine xw_callVI (pc := 75) (μ := μ) (ci := 12) (rest := []) (As := [.int (Int32.ofInt n), .int (Int32.ofInt (k : Int))]) C0 hU hO sa_Tg hKL (xr_showsSo (l := l) (v := v) (nm := nm) (t := t) (n := n) (F := k) (μ := μ) hG hK hN hT hn (by omega)) tv_1653 dX12_what_75 tv_1650 tv_1652 tq_X12_showsSo tv_13 rfl yb_X12_showsSo (by decide +kernel) rfl rfl rfl (by decide +kernel) (Nat.le_of_ble_eq_true rfl) (xj_200 hKL) xk_0 (fun r3 m3 w3 => ?_)
      obtain ⟨rfl, w3⟩ := w3
      rcases w3 with ⟨c9, rfl⟩ | ⟨c9, rfl⟩
      · refine xw_if_eq (pc := 78) (tgt := 87) C0 (by omega) dX12_what_78 rfl (fun b4 => ?_) (fun b4 => ?_)
        · exfalso
          omega
        · refine xw_iload_n (pc := 81) C0 2 dX12_what_81 rfl rfl ?_
          refine xw_iconst (pc := 82) C0 dX12_what_82 ?_
          refine xw_iload_n (pc := 83) C0 3 dX12_what_83 rfl rfl ?_
          refine xw_ishl (pc := 84) C0 dX12_what_84 (xb_shN (f := k) (by omega)) ?_
          refine xw_ior (pc := 85) C0 dX12_what_85 (xb_orB (p := (fun f => hx_wo v t f (n / 2).toNat)) (by omega)) ?_
          refine xw_istore_n (pc := 86) (L' := [(2, .int (Int32.ofInt ((hx_bs (fun f => hx_wo v t f (n / 2).toNat) k + 2 ^ k : Nat) : Int))), (0, .ref (xw_ad al 200)), (1, .int (Int32.ofInt n)), (3, .int (Int32.ofInt (k : Int)))]) C0 dX12_what_86 rfl (by decide +kernel) rfl ?_
          refine xw_iinc (pc := 87) (L' := [(3, .int (Int32.ofInt ((k : Int) + 1))), (2, .int (Int32.ofInt ((hx_bs (fun f => hx_wo v t f (n / 2).toNat) k + 2 ^ k : Nat) : Int))), (0, .ref (xw_ad al 200)), (1, .int (Int32.ofInt n))]) C0 3 dX12_what_87 rfl (by decide +kernel) rfl ?_
          refine xw_goto (pc := 90) (tgt := 62) C0 dX12_what_90 rfl ?_
          have e3 : hx_bs (fun f => hx_wo v t f (n / 2).toNat) (k + 1) = hx_bs (fun f => hx_wo v t f (n / 2).toNat) k + 2 ^ k := by
            rw [hx_bse]
            rw [if_pos c9]
          have e1 : (k : Int) + 1 = ((k + 1 : Nat) : Int) := by omega
          rw [e1, ← e3]
          refine xw_pk [2, 3, 1, 0] (L' := [(0, .ref (xw_ad al 200)), (1, .int (Int32.ofInt n)), (2, .int (Int32.ofInt ((hx_bs (fun f => hx_wo v t f (n / 2).toNat) (k + 1) : Nat) : Int))), (3, .int (Int32.ofInt ((k + 1 : Nat) : Int)))]) rfl ?_
          exact ih (k + 1) (by omega) (by omega)
      · refine xw_if_eq (pc := 78) (tgt := 87) C0 (by omega) dX12_what_78 rfl (fun b5 => ?_) (fun b5 => ?_)
        · refine xw_iinc (pc := 87) (L' := [(3, .int (Int32.ofInt ((k : Int) + 1))), (0, .ref (xw_ad al 200)), (1, .int (Int32.ofInt n)), (2, .int (Int32.ofInt ((hx_bs (fun f => hx_wo v t f (n / 2).toNat) k : Nat) : Int)))]) C0 3 dX12_what_87 rfl (by decide +kernel) rfl ?_
          refine xw_goto (pc := 90) (tgt := 62) C0 dX12_what_90 rfl ?_
          have e3 : hx_bs (fun f => hx_wo v t f (n / 2).toNat) (k + 1) = hx_bs (fun f => hx_wo v t f (n / 2).toNat) k := by
            rw [hx_bse]
            rw [if_neg (by rw [c9]; exact Bool.false_ne_true), Nat.add_zero]
          have e1 : (k : Int) + 1 = ((k + 1 : Nat) : Int) := by omega
          rw [e1, ← e3]
          refine xw_pk [1, 2, 3, 0] (L' := [(0, .ref (xw_ad al 200)), (1, .int (Int32.ofInt n)), (2, .int (Int32.ofInt ((hx_bs (fun f => hx_wo v t f (n / 2).toNat) (k + 1) : Nat) : Int))), (3, .int (Int32.ofInt ((k + 1 : Nat) : Int)))]) rfl ?_
          exact ih (k + 1) (by omega) (by omega)
        · exfalso
          omega
