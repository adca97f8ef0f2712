set_option maxRecDepth 20000 in
set_option maxHeartbeats 20000000 in
theorem xs_is {l : Launch} {t : Nat → Int} {n lim pz : Nat} {μ : xw_M} (hS : hd_S t n lim μ) (hT : hd_T t n lim pz μ) : xw_MetI l vwCl sa_Ts tb_KT0 tc_KL yX8_isOneHere cX8_isOneHere 1 (some .boolean) 3 141 (fun ad => [.ref (ad 128)]) μ (fun r μ' => μ = μ' ∧ ((((hp_k t n lim pz = 2 ∧ (hp_kw (hp_w t n pz) = 1 ∨ 12 ≤ hp_kw (hp_w t n pz))) ∨ (hp_k t n lim pz = 4 ∧ hp_s t n pz = 40)) ∧ r = 1) ∨ (¬ ((hp_k t n lim pz = 2 ∧ (hp_kw (hp_w t n pz) = 1 ∨ 12 ≤ hp_kw (hp_w t n pz))) ∨ (hp_k t n lim pz = 4 ∧ hp_s t n pz = 40)) ∧ r = 0))) :=
  xw_of (by decide +kernel) (fun _ => Nat.le_of_ble_eq_true rfl) (fun p e s m args below meth c D dA A al w0 sz C0 hU hO hKL hr hlk hA => by
    have b_μ := hS.2.2.2.2.2.1
    have hp9_μ := hT.1
    have c2_μ := hT.2.1
    have c3_μ := hT.2.2.1
    have hpl_μ := hp_plb (t := t) (lim := lim) hp9_μ
    have hkb_μ := hp_kb t n lim pz
    have kk_μ := hd_kk hT
    have hkw_μ := hp_kwb (hp_w t n pz)
    refine xw_aload_n (pc := 0) C0 0 dX8_isOneHere_0 rfl rfl ?_
    refine xw_getR (pc := 1) (f := 0) C0 129 kcX8 dX8_isOneHere_1 (by decide +kernel) tv_381 (xj_128 hKL) xk_68 rfl ((rfl).trans (xe_128_0 hS.1)) ?_
    refine xw_getI (pc := 4) (f := 6) (z := μ 129 6) C0 kcX6 dX8_isOneHere_4 (by decide +kernel) tv_298 (xj_129 hKL) xk_17 rfl (rfl) (fun g1 k1 => ?_)
    rcases (show μ 129 6 = 1 ∨ μ 129 6 = 2 ∨ μ 129 6 = 3 ∨ μ 129 6 = 4 ∨ μ 129 6 = 5 ∨ μ 129 6 = 6 ∨ μ 129 6 = 7 ∨ μ 129 6 = 8 ∨ μ 129 6 = 9 ∨ μ 129 6 = 10 ∨ μ 129 6 = 11 ∨ μ 129 6 = 12 ∨ μ 129 6 = 13 ∨ μ 129 6 = 14 ∨ μ 129 6 = 15 ∨ μ 129 6 = 16 ∨ μ 129 6 = 17 ∨ μ 129 6 = 18 ∨ μ 129 6 = 19 ∨ (μ 129 6 < 1 ∨ 19 < μ 129 6) by omega) with sw | sw | sw | sw | sw | sw | sw | sw | sw | sw | sw | sw | sw | sw | sw | sw | sw | sw | sw | sw
    · refine xw_tabI (pc := 7) (tgt := 96) (off := 89) C0 (by omega) dX8_isOneHere_7 (by omega) (by omega) (by rw [sw]; rfl) rfl ?_
      refine xw_iconst (pc := 96) C0 dX8_isOneHere_96 ?_
      refine xw_iret C0 hA hr hlk rfl dX8_isOneHere_97 ?_
      exact ⟨_, rfl, rfl, Or.inl ⟨by omega, rfl⟩⟩
    · refine xw_tabI (pc := 7) (tgt := 98) (off := 91) C0 (by omega) dX8_isOneHere_7 (by omega) (by omega) (by rw [sw]; rfl) rfl ?_
      refine xw_aload_n (pc := 98) C0 0 dX8_isOneHere_98 rfl rfl ?_
      refine xw_getR (pc := 99) (f := 0) C0 129 kcX8 dX8_isOneHere_99 (by decide +kernel) tv_381 (xj_128 hKL) xk_68 rfl ((rfl).trans (xe_128_0 hS.1)) ?_
      refine xw_bipush (pc := 102) C0 dX8_isOneHere_102 (by decide +kernel) ?_
      refine xw_callVI (pc := 104) (μ := μ) (ci := 6) (rest := []) (As := [.int (Int32.ofInt 40)]) C0 hU hO sa_Tg hKL (xd_isSignNow (l := l) (v := 40) hS hT (by decide +kernel)) tv_582 dX8_isOneHere_104 tv_1040 tv_580 tv_581 tv_9 rfl yb_X6_isSignNow (by decide +kernel) rfl rfl rfl (by decide +kernel) (Nat.le_of_ble_eq_true rfl) (xj_129 hKL) xk_17 (fun r2 m2 w2 => ?_)
      obtain ⟨rfl, w2⟩ := w2
      rcases w2 with ⟨w2, rfl⟩ | ⟨w2, rfl⟩
      · refine xw_iret C0 hA hr hlk rfl dX8_isOneHere_107 ?_
        exact ⟨_, rfl, rfl, Or.inl ⟨by omega, rfl⟩⟩
      · refine xw_iret C0 hA hr hlk rfl dX8_isOneHere_107 ?_
        exact ⟨_, rfl, rfl, Or.inr ⟨by omega, rfl⟩⟩
    · refine xw_tabI (pc := 7) (tgt := 98) (off := 91) C0 (by omega) dX8_isOneHere_7 (by omega) (by omega) (by rw [sw]; rfl) rfl ?_
      refine xw_aload_n (pc := 98) C0 0 dX8_isOneHere_98 rfl rfl ?_
      refine xw_getR (pc := 99) (f := 0) C0 129 kcX8 dX8_isOneHere_99 (by decide +kernel) tv_381 (xj_128 hKL) xk_68 rfl ((rfl).trans (xe_128_0 hS.1)) ?_
      refine xw_bipush (pc := 102) C0 dX8_isOneHere_102 (by decide +kernel) ?_
      refine xw_callVI (pc := 104) (μ := μ) (ci := 6) (rest := []) (As := [.int (Int32.ofInt 40)]) C0 hU hO sa_Tg hKL (xd_isSignNow (l := l) (v := 40) hS hT (by decide +kernel)) tv_582 dX8_isOneHere_104 tv_1040 tv_580 tv_581 tv_9 rfl yb_X6_isSignNow (by decide +kernel) rfl rfl rfl (by decide +kernel) (Nat.le_of_ble_eq_true rfl) (xj_129 hKL) xk_17 (fun r3 m3 w3 => ?_)
      obtain ⟨rfl, w3⟩ := w3
      rcases w3 with ⟨w3, rfl⟩ | ⟨w3, rfl⟩
      · refine xw_iret C0 hA hr hlk rfl dX8_isOneHere_107 ?_
        exact ⟨_, rfl, rfl, Or.inl ⟨by omega, rfl⟩⟩
      · refine xw_iret C0 hA hr hlk rfl dX8_isOneHere_107 ?_
        exact ⟨_, rfl, rfl, Or.inr ⟨by omega, rfl⟩⟩
    · refine xw_tabI (pc := 7) (tgt := 98) (off := 91) C0 (by omega) dX8_isOneHere_7 (by omega) (by omega) (by rw [sw]; rfl) rfl ?_
      refine xw_aload_n (pc := 98) C0 0 dX8_isOneHere_98 rfl rfl ?_
      refine xw_getR (pc := 99) (f := 0) C0 129 kcX8 dX8_isOneHere_99 (by decide +kernel) tv_381 (xj_128 hKL) xk_68 rfl ((rfl).trans (xe_128_0 hS.1)) ?_
      refine xw_bipush (pc := 102) C0 dX8_isOneHere_102 (by decide +kernel) ?_
      refine xw_callVI (pc := 104) (μ := μ) (ci := 6) (rest := []) (As := [.int (Int32.ofInt 40)]) C0 hU hO sa_Tg hKL (xd_isSignNow (l := l) (v := 40) hS hT (by decide +kernel)) tv_582 dX8_isOneHere_104 tv_1040 tv_580 tv_581 tv_9 rfl yb_X6_isSignNow (by decide +kernel) rfl rfl rfl (by decide +kernel) (Nat.le_of_ble_eq_true rfl) (xj_129 hKL) xk_17 (fun r4 m4 w4 => ?_)
      obtain ⟨rfl, w4⟩ := w4
      rcases w4 with ⟨w4, rfl⟩ | ⟨w4, rfl⟩
      · refine xw_iret C0 hA hr hlk rfl dX8_isOneHere_107 ?_
        exact ⟨_, rfl, rfl, Or.inl ⟨by omega, rfl⟩⟩
      · refine xw_iret C0 hA hr hlk rfl dX8_isOneHere_107 ?_
        exact ⟨_, rfl, rfl, Or.inr ⟨by omega, rfl⟩⟩
    · refine xw_tabI (pc := 7) (tgt := 98) (off := 91) C0 (by omega) dX8_isOneHere_7 (by omega) (by omega) (by rw [sw]; rfl) rfl ?_
      refine xw_aload_n (pc := 98) C0 0 dX8_isOneHere_98 rfl rfl ?_
      refine xw_getR (pc := 99) (f := 0) C0 129 kcX8 dX8_isOneHere_99 (by decide +kernel) tv_381 (xj_128 hKL) xk_68 rfl ((rfl).trans (xe_128_0 hS.1)) ?_
      refine xw_bipush (pc := 102) C0 dX8_isOneHere_102 (by decide +kernel) ?_
      refine xw_callVI (pc := 104) (μ := μ) (ci := 6) (rest := []) (As := [.int (Int32.ofInt 40)]) C0 hU hO sa_Tg hKL (xd_isSignNow (l := l) (v := 40) hS hT (by decide +kernel)) tv_582 dX8_isOneHere_104 tv_1040 tv_580 tv_581 tv_9 rfl yb_X6_isSignNow (by decide +kernel) rfl rfl rfl (by decide +kernel) (Nat.le_of_ble_eq_true rfl) (xj_129 hKL) xk_17 (fun r5 m5 w5 => ?_)
      obtain ⟨rfl, w5⟩ := w5
      rcases w5 with ⟨w5, rfl⟩ | ⟨w5, rfl⟩
      · refine xw_iret C0 hA hr hlk rfl dX8_isOneHere_107 ?_
        exact ⟨_, rfl, rfl, Or.inl ⟨by omega, rfl⟩⟩
      · refine xw_iret C0 hA hr hlk rfl dX8_isOneHere_107 ?_
        exact ⟨_, rfl, rfl, Or.inr ⟨by omega, rfl⟩⟩
    · refine xw_tabI (pc := 7) (tgt := 98) (off := 91) C0 (by omega) dX8_isOneHere_7 (by omega) (by omega) (by rw [sw]; rfl) rfl ?_
      refine xw_aload_n (pc := 98) C0 0 dX8_isOneHere_98 rfl rfl ?_
      refine xw_getR (pc := 99) (f := 0) C0 129 kcX8 dX8_isOneHere_99 (by decide +kernel) tv_381 (xj_128 hKL) xk_68 rfl ((rfl).trans (xe_128_0 hS.1)) ?_
      refine xw_bipush (pc := 102) C0 dX8_isOneHere_102 (by decide +kernel) ?_
      refine xw_callVI (pc := 104) (μ := μ) (ci := 6) (rest := []) (As := [.int (Int32.ofInt 40)]) C0 hU hO sa_Tg hKL (xd_isSignNow (l := l) (v := 40) hS hT (by decide +kernel)) tv_582 dX8_isOneHere_104 tv_1040 tv_580 tv_581 tv_9 rfl yb_X6_isSignNow (by decide +kernel) rfl rfl rfl (by decide +kernel) (Nat.le_of_ble_eq_true rfl) (xj_129 hKL) xk_17 (fun r6 m6 w6 => ?_)
      obtain ⟨rfl, w6⟩ := w6
      rcases w6 with ⟨w6, rfl⟩ | ⟨w6, rfl⟩
      · refine xw_iret C0 hA hr hlk rfl dX8_isOneHere_107 ?_
        exact ⟨_, rfl, rfl, Or.inl ⟨by omega, rfl⟩⟩
      · refine xw_iret C0 hA hr hlk rfl dX8_isOneHere_107 ?_
        exact ⟨_, rfl, rfl, Or.inr ⟨by omega, rfl⟩⟩
    · refine xw_tabI (pc := 7) (tgt := 98) (off := 91) C0 (by omega) dX8_isOneHere_7 (by omega) (by omega) (by rw [sw]; rfl) rfl ?_
      refine xw_aload_n (pc := 98) C0 0 dX8_isOneHere_98 rfl rfl ?_
      refine xw_getR (pc := 99) (f := 0) C0 129 kcX8 dX8_isOneHere_99 (by decide +kernel) tv_381 (xj_128 hKL) xk_68 rfl ((rfl).trans (xe_128_0 hS.1)) ?_
      refine xw_bipush (pc := 102) C0 dX8_isOneHere_102 (by decide +kernel) ?_
      refine xw_callVI (pc := 104) (μ := μ) (ci := 6) (rest := []) (As := [.int (Int32.ofInt 40)]) C0 hU hO sa_Tg hKL (xd_isSignNow (l := l) (v := 40) hS hT (by decide +kernel)) tv_582 dX8_isOneHere_104 tv_1040 tv_580 tv_581 tv_9 rfl yb_X6_isSignNow (by decide +kernel) rfl rfl rfl (by decide +kernel) (Nat.le_of_ble_eq_true rfl) (xj_129 hKL) xk_17 (fun r7 m7 w7 => ?_)
      obtain ⟨rfl, w7⟩ := w7
      rcases w7 with ⟨w7, rfl⟩ | ⟨w7, rfl⟩
      · refine xw_iret C0 hA hr hlk rfl dX8_isOneHere_107 ?_
        exact ⟨_, rfl, rfl, Or.inl ⟨by omega, rfl⟩⟩
      · refine xw_iret C0 hA hr hlk rfl dX8_isOneHere_107 ?_
        exact ⟨_, rfl, rfl, Or.inr ⟨by omega, rfl⟩⟩
    · refine xw_tabI (pc := 7) (tgt := 98) (off := 91) C0 (by omega) dX8_isOneHere_7 (by omega) (by omega) (by rw [sw]; rfl) rfl ?_
      refine xw_aload_n (pc := 98) C0 0 dX8_isOneHere_98 rfl rfl ?_
      refine xw_getR (pc := 99) (f := 0) C0 129 kcX8 dX8_isOneHere_99 (by decide +kernel) tv_381 (xj_128 hKL) xk_68 rfl ((rfl).trans (xe_128_0 hS.1)) ?_
      refine xw_bipush (pc := 102) C0 dX8_isOneHere_102 (by decide +kernel) ?_
      refine xw_callVI (pc := 104) (μ := μ) (ci := 6) (rest := []) (As := [.int (Int32.ofInt 40)]) C0 hU hO sa_Tg hKL (xd_isSignNow (l := l) (v := 40) hS hT (by decide +kernel)) tv_582 dX8_isOneHere_104 tv_1040 tv_580 tv_581 tv_9 rfl yb_X6_isSignNow (by decide +kernel) rfl rfl rfl (by decide +kernel) (Nat.le_of_ble_eq_true rfl) (xj_129 hKL) xk_17 (fun r8 m8 w8 => ?_)
      obtain ⟨rfl, w8⟩ := w8
      rcases w8 with ⟨w8, rfl⟩ | ⟨w8, rfl⟩
      · refine xw_iret C0 hA hr hlk rfl dX8_isOneHere_107 ?_
        exact ⟨_, rfl, rfl, Or.inl ⟨by omega, rfl⟩⟩
      · refine xw_iret C0 hA hr hlk rfl dX8_isOneHere_107 ?_
        exact ⟨_, rfl, rfl, Or.inr ⟨by omega, rfl⟩⟩
    · refine xw_tabI (pc := 7) (tgt := 98) (off := 91) C0 (by omega) dX8_isOneHere_7 (by omega) (by omega) (by rw [sw]; rfl) rfl ?_
      refine xw_aload_n (pc := 98) C0 0 dX8_isOneHere_98 rfl rfl ?_
      refine xw_getR (pc := 99) (f := 0) C0 129 kcX8 dX8_isOneHere_99 (by decide +kernel) tv_381 (xj_128 hKL) xk_68 rfl ((rfl).trans (xe_128_0 hS.1)) ?_
      refine xw_bipush (pc := 102) C0 dX8_isOneHere_102 (by decide +kernel) ?_
      refine xw_callVI (pc := 104) (μ := μ) (ci := 6) (rest := []) (As := [.int (Int32.ofInt 40)]) C0 hU hO sa_Tg hKL (xd_isSignNow (l := l) (v := 40) hS hT (by decide +kernel)) tv_582 dX8_isOneHere_104 tv_1040 tv_580 tv_581 tv_9 rfl yb_X6_isSignNow (by decide +kernel) rfl rfl rfl (by decide +kernel) (Nat.le_of_ble_eq_true rfl) (xj_129 hKL) xk_17 (fun r10 m10 w10 => ?_)
      obtain ⟨rfl, w10⟩ := w10
      rcases w10 with ⟨w10, rfl⟩ | ⟨w10, rfl⟩
      · refine xw_iret C0 hA hr hlk rfl dX8_isOneHere_107 ?_
        exact ⟨_, rfl, rfl, Or.inl ⟨by omega, rfl⟩⟩
      · refine xw_iret C0 hA hr hlk rfl dX8_isOneHere_107 ?_
        exact ⟨_, rfl, rfl, Or.inr ⟨by omega, rfl⟩⟩
    · refine xw_tabI (pc := 7) (tgt := 98) (off := 91) C0 (by omega) dX8_isOneHere_7 (by omega) (by omega) (by rw [sw]; rfl) rfl ?_
      refine xw_aload_n (pc := 98) C0 0 dX8_isOneHere_98 rfl rfl ?_
      refine xw_getR (pc := 99) (f := 0) C0 129 kcX8 dX8_isOneHere_99 (by decide +kernel) tv_381 (xj_128 hKL) xk_68 rfl ((rfl).trans (xe_128_0 hS.1)) ?_
      refine xw_bipush (pc := 102) C0 dX8_isOneHere_102 (by decide +kernel) ?_
      refine xw_callVI (pc := 104) (μ := μ) (ci := 6) (rest := []) (As := [.int (Int32.ofInt 40)]) C0 hU hO sa_Tg hKL (xd_isSignNow (l := l) (v := 40) hS hT (by decide +kernel)) tv_582 dX8_isOneHere_104 tv_1040 tv_580 tv_581 tv_9 rfl yb_X6_isSignNow (by decide +kernel) rfl rfl rfl (by decide +kernel) (Nat.le_of_ble_eq_true rfl) (xj_129 hKL) xk_17 (fun r11 m11 w11 => ?_)
      obtain ⟨rfl, w11⟩ := w11
      rcases w11 with ⟨w11, rfl⟩ | ⟨w11, rfl⟩
      · refine xw_iret C0 hA hr hlk rfl dX8_isOneHere_107 ?_
        exact ⟨_, rfl, rfl, Or.inl ⟨by omega, rfl⟩⟩
      · refine xw_iret C0 hA hr hlk rfl dX8_isOneHere_107 ?_
        exact ⟨_, rfl, rfl, Or.inr ⟨by omega, rfl⟩⟩
    · refine xw_tabI (pc := 7) (tgt := 98) (off := 91) C0 (by omega) dX8_isOneHere_7 (by omega) (by omega) (by rw [sw]; rfl) rfl ?_
      refine xw_aload_n (pc := 98) C0 0 dX8_isOneHere_98 rfl rfl ?_
      refine xw_getR (pc := 99) (f := 0) C0 129 kcX8 dX8_isOneHere_99 (by decide +kernel) tv_381 (xj_128 hKL) xk_68 rfl ((rfl).trans (xe_128_0 hS.1)) ?_
      refine xw_bipush (pc := 102) C0 dX8_isOneHere_102 (by decide +kernel) ?_
      refine xw_callVI (pc := 104) (μ := μ) (ci := 6) (rest := []) (As := [.int (Int32.ofInt 40)]) C0 hU hO sa_Tg hKL (xd_isSignNow (l := l) (v := 40) hS hT (by decide +kernel)) tv_582 dX8_isOneHere_104 tv_1040 tv_580 tv_581 tv_9 rfl yb_X6_isSignNow (by decide +kernel) rfl rfl rfl (by decide +kernel) (Nat.le_of_ble_eq_true rfl) (xj_129 hKL) xk_17 (fun r12 m12 w12 => ?_)
      obtain ⟨rfl, w12⟩ := w12
      rcases w12 with ⟨w12, rfl⟩ | ⟨w12, rfl⟩
      · refine xw_iret C0 hA hr hlk rfl dX8_isOneHere_107 ?_
        exact ⟨_, rfl, rfl, Or.inl ⟨by omega, rfl⟩⟩
      · refine xw_iret C0 hA hr hlk rfl dX8_isOneHere_107 ?_
        exact ⟨_, rfl, rfl, Or.inr ⟨by omega, rfl⟩⟩
    · refine xw_tabI (pc := 7) (tgt := 96) (off := 89) C0 (by omega) dX8_isOneHere_7 (by omega) (by omega) (by rw [sw]; rfl) rfl ?_
      refine xw_iconst (pc := 96) C0 dX8_isOneHere_96 ?_
      refine xw_iret C0 hA hr hlk rfl dX8_isOneHere_97 ?_
      exact ⟨_, rfl, rfl, Or.inl ⟨by omega, rfl⟩⟩
    · refine xw_tabI (pc := 7) (tgt := 96) (off := 89) C0 (by omega) dX8_isOneHere_7 (by omega) (by omega) (by rw [sw]; rfl) rfl ?_
      refine xw_iconst (pc := 96) C0 dX8_isOneHere_96 ?_
      refine xw_iret C0 hA hr hlk rfl dX8_isOneHere_97 ?_
      exact ⟨_, rfl, rfl, Or.inl ⟨by omega, rfl⟩⟩
    · refine xw_tabI (pc := 7) (tgt := 96) (off := 89) C0 (by omega) dX8_isOneHere_7 (by omega) (by omega) (by rw [sw]; rfl) rfl ?_
      refine xw_iconst (pc := 96) C0 dX8_isOneHere_96 ?_
      refine xw_iret C0 hA hr hlk rfl dX8_isOneHere_97 ?_
      exact ⟨_, rfl, rfl, Or.inl ⟨by omega, rfl⟩⟩
    · refine xw_tabI (pc := 7) (tgt := 96) (off := 89) C0 (by omega) dX8_isOneHere_7 (by omega) (by omega) (by rw [sw]; rfl) rfl ?_
      refine xw_iconst (pc := 96) C0 dX8_isOneHere_96 ?_
      refine xw_iret C0 hA hr hlk rfl dX8_isOneHere_97 ?_
      exact ⟨_, rfl, rfl, Or.inl ⟨by omega, rfl⟩⟩
    · refine xw_tabI (pc := 7) (tgt := 96) (off := 89) C0 (by omega) dX8_isOneHere_7 (by omega) (by omega) (by rw [sw]; rfl) rfl ?_
      refine xw_iconst (pc := 96) C0 dX8_isOneHere_96 ?_
      refine xw_iret C0 hA hr hlk rfl dX8_isOneHere_97 ?_
      exact ⟨_, rfl, rfl, Or.inl ⟨by omega, rfl⟩⟩
    · refine xw_tabI (pc := 7) (tgt := 96) (off := 89) C0 (by omega) dX8_isOneHere_7 (by omega) (by omega) (by rw [sw]; rfl) rfl ?_
      refine xw_iconst (pc := 96) C0 dX8_isOneHere_96 ?_
      refine xw_iret C0 hA hr hlk rfl dX8_isOneHere_97 ?_
      exact ⟨_, rfl, rfl, Or.inl ⟨by omega, rfl⟩⟩
    · refine xw_tabI (pc := 7) (tgt := 96) (off := 89) C0 (by omega) dX8_isOneHere_7 (by omega) (by omega) (by rw [sw]; rfl) rfl ?_
      refine xw_iconst (pc := 96) C0 dX8_isOneHere_96 ?_
      refine xw_iret C0 hA hr hlk rfl dX8_isOneHere_97 ?_
      exact ⟨_, rfl, rfl, Or.inl ⟨by omega, rfl⟩⟩
    · refine xw_tabI (pc := 7) (tgt := 96) (off := 89) C0 (by omega) dX8_isOneHere_7 (by omega) (by omega) (by rw [sw]; rfl) rfl ?_
      refine xw_iconst (pc := 96) C0 dX8_isOneHere_96 ?_
      refine xw_iret C0 hA hr hlk rfl dX8_isOneHere_97 ?_
      exact ⟨_, rfl, rfl, Or.inl ⟨by omega, rfl⟩⟩
    · refine xw_tabO (pc := 7) (tgt := 98) C0 (by omega) dX8_isOneHere_7 (by omega) rfl ?_
      refine xw_aload_n (pc := 98) C0 0 dX8_isOneHere_98 rfl rfl ?_
      refine xw_getR (pc := 99) (f := 0) C0 129 kcX8 dX8_isOneHere_99 (by decide +kernel) tv_381 (xj_128 hKL) xk_68 rfl ((rfl).trans (xe_128_0 hS.1)) ?_
      refine xw_bipush (pc := 102) C0 dX8_isOneHere_102 (by decide +kernel) ?_
      refine xw_callVI (pc := 104) (μ := μ) (ci := 6) (rest := []) (As := [.int (Int32.ofInt 40)]) C0 hU hO sa_Tg hKL (xd_isSignNow (l := l) (v := 40) hS hT (by decide +kernel)) tv_582 dX8_isOneHere_104 tv_1040 tv_580 tv_581 tv_9 rfl yb_X6_isSignNow (by decide +kernel) rfl rfl rfl (by decide +kernel) (Nat.le_of_ble_eq_true rfl) (xj_129 hKL) xk_17 (fun r13 m13 w13 => ?_)
      obtain ⟨rfl, w13⟩ := w13
      rcases w13 with ⟨w13, rfl⟩ | ⟨w13, rfl⟩
      · refine xw_iret C0 hA hr hlk rfl dX8_isOneHere_107 ?_
        exact ⟨_, rfl, rfl, Or.inl ⟨by omega, rfl⟩⟩
      · refine xw_iret C0 hA hr hlk rfl dX8_isOneHere_107 ?_
        exact ⟨_, rfl, rfl, Or.inr ⟨by omega, rfl⟩⟩)
set_option maxRecDepth 20000 in
set_option maxHeartbeats 20000000 in
theorem xs_cmp {l : Launch} {t rd nm : Nat → Int} {n lim pz o : Nat} {μ : xw_M} {w9 : Int} (hS : hd_S t n lim μ) (hT : hd_T t n lim pz μ) (hw : μ 129 8 = 0) (hH : hd_H rd nm μ) (hK : hp_ok rd nm) (hN : μ 132 5 = (o : Int)) (ho : o ≤ 20) (hR : hd_R μ) (hw9 : 17 ≤ w9 ∧ w9 ≤ 19) : xw_MetI l vwCl sa_Ts tb_KT0 tc_KL yX8_readCompared cX8_readCompared 3 (some .boolean) 6 210 (fun ad => [.ref (ad 128), .int (Int32.ofInt w9)]) μ (fun r μ' => hd_Q t n lim (hq_cp t n lim pz o) r μ' ∧ hd_R μ' ∧ xw_F [(129, 2, 9), (132, 4, 5), (133, 0, 39), (134, 0, 39), (135, 0, 39)] μ μ') :=
  xw_of (by decide +kernel) (fun _ => Nat.le_of_ble_eq_true rfl) (fun p e s m args below meth c D dA A al w0 sz C0 hU hO hKL hr hlk hA => by
    have b_μ := hS.2.2.2.2.2.1
    have hp9_μ := hT.1
    have c2_μ := hT.2.1
    have c3_μ := hT.2.2.1
    have hpl_μ := hp_plb (t := t) (lim := lim) hp9_μ
    have hkb_μ := hp_kb t n lim pz
    have kk_μ := hd_kk hT
    have hkw_μ := hp_kwb (hp_w t n pz)
    have k0 := hK.1
    have k1 := hK.2.1
    refine xw_aload_n (pc := 0) C0 0 dX8_readCompared_0 rfl rfl ?_
    refine xw_getR (pc := 1) (f := 0) C0 129 kcX8 dX8_readCompared_1 (by decide +kernel) tv_381 (xj_128 hKL) xk_68 rfl ((rfl).trans (xe_128_0 hS.1)) ?_
    refine xw_getI (pc := 4) (f := 7) (z := μ 129 7) C0 kcX6 dX8_readCompared_4 (by decide +kernel) tv_301 (xj_129 hKL) xk_17 rfl (rfl) (fun g1 k1 => ?_)
    refine xw_istore_n (pc := 7) (L' := [(2, .int (Int32.ofInt (μ 129 7))), (0, .ref (xw_ad al 128)), (1, .int (Int32.ofInt w9))]) C0 dX8_readCompared_7 rfl (by decide +kernel) rfl ?_
    refine xw_aload_n (pc := 8) C0 1 dX8_readCompared_8 rfl rfl ?_
    refine xw_getR (pc := 9) (f := 0) C0 129 kcX8 dX8_readCompared_9 (by decide +kernel) tv_381 (xj_128 hKL) xk_68 rfl ((rfl).trans (xe_128_0 hS.1)) ?_
    refine xw_bipush (pc := 12) C0 dX8_readCompared_12 (by decide +kernel) ?_
    refine xw_callVI (pc := 14) (μ := μ) (ci := 6) (rest := []) (As := [.int (Int32.ofInt 60)]) C0 hU hO sa_Tg hKL (xd_isSignNow (l := l) (v := 60) hS hT (by decide +kernel)) tv_582 dX8_readCompared_14 tv_1040 tv_580 tv_581 tv_9 rfl yb_X6_isSignNow (by decide +kernel) rfl rfl rfl (by decide +kernel) (Nat.le_of_ble_eq_true rfl) (xj_129 hKL) xk_17 (fun r2 m2 w2 => ?_)
    obtain ⟨rfl, w2⟩ := w2
    rcases w2 with ⟨w2, rfl⟩ | ⟨w2, rfl⟩
    · refine xw_if_ne (pc := 17) (tgt := 53) C0 (by omega) dX8_readCompared_17 rfl (fun b3 => ?_) (fun b3 => ?_)
      · refine xw_aload_n (pc := 53) C0 1 dX8_readCompared_53 rfl rfl ?_
        refine xw_getR (pc := 54) (f := 0) C0 129 kcX8 dX8_readCompared_54 (by decide +kernel) tv_381 (xj_128 hKL) xk_68 rfl ((rfl).trans (xe_128_0 hS.1)) ?_
        refine xw_callVV (pc := 57) (μ := μ) (ci := 6) (rest := []) (As := []) C0 hU hO sa_Tg hKL (xd_step (l := l) (t := t) (n := n) (lim := lim) (pz := hp_x t n pz) hS (hT.2.2.2.2.2.2.2 (by omega)) (hp_xb (lim := lim) hT.1 (by omega))) tv_509 dX8_readCompared_57 tv_1042 tv_507 tv_508 tv_9 rfl yb_X6_step (by decide +kernel) rfl rfl rfl (by decide +kernel) (Nat.le_of_ble_eq_true rfl) (xj_129 hKL) xk_17 (fun m4 w4 => ?_)
        obtain ⟨hT_m4, F4⟩ := w4
        have hS_m4 := hd_SF hS F4 (by decide +kernel)
        have hw_m4 : m4 129 8 = 0 := (F4 129 8 rfl).trans hw
        have hH_m4 := hd_HF hH F4 (by decide +kernel)
        have hN_m4 : m4 132 5 = ((o : Nat) : Int) := (F4 132 5 rfl).trans hN
        have hR_m4 := hd_RF hR F4 (by decide +kernel)
        refine xw_aload_n (pc := 60) C0 1 dX8_readCompared_60 rfl rfl ?_
        refine xw_iload_n (pc := 61) C0 2 dX8_readCompared_61 rfl rfl ?_
        refine xw_iload_n (pc := 62) C0 0 dX8_readCompared_62 rfl rfl ?_
        refine xw_aload_n (pc := 63) C0 1 dX8_readCompared_63 rfl rfl ?_
        refine xw_getR (pc := 64) (f := 0) C0 129 kcX8 dX8_readCompared_64 (by decide +kernel) tv_381 (xj_128 hKL) xk_68 rfl (((F4 128 0 rfl).trans rfl).trans (xe_128_0 hS.1)) ?_
        refine xw_iconst (pc := 67) C0 dX8_readCompared_67 ?_
        refine xw_sipush (pc := 68) C0 dX8_readCompared_68 (by decide +kernel) ?_
        refine xw_callVI (pc := 71) (μ := m4) (ci := 6) (rest := [.int (Int32.ofInt (μ 129 7)), .int (Int32.ofInt w9), .ref (xw_ad al 128)]) (As := [.int (Int32.ofInt 0), .int (Int32.ofInt 999)]) C0 hU hO sa_Tg hKL (xd_takeNumber (l := l) (a := 0) (b := 999) hS_m4 hT_m4 hw_m4 (by decide +kernel) (by decide +kernel)) tv_568 dX8_readCompared_71 tv_1062 tv_566 tv_567 tv_9 rfl yb_X6_takeNumber (by decide +kernel) rfl rfl rfl (by decide +kernel) (Nat.le_of_ble_eq_true rfl) (xj_129 hKL) xk_17 (fun r5 m5 w5 => ?_)
        obtain ⟨w5, F5⟩ := w5
        rcases w5 with ⟨v5, p5, eo5, rfl, u5, hT_m5, hw_m5⟩ | ⟨e5, eo5, rfl, W5⟩
        · have nb5 := hp_numR eo5
          have hS_m5 := hd_SF hS_m4 F5 (by decide +kernel)
          have hH_m5 := hd_HF hH_m4 F5 (by decide +kernel)
          have hN_m5 : m5 132 5 = ((o : Nat) : Int) := (F5 132 5 rfl).trans hN_m4
          have hR_m5 := hd_RF hR_m4 F5 (by decide +kernel)
          refine xw_callVI (pc := 74) (μ := m5) (ci := 8) (rest := []) (As := [.int (Int32.ofInt w9), .int (Int32.ofInt (μ 129 7)), .int (Int32.ofInt r5)]) C0 hU hO sa_Tg hKL (xs_num (l := l) (w9 := w9) (g9 := μ 129 7) (v9 := r5) (μ := m5) hS_m5.1 hR_m5 (by omega) (by omega) (by omega) (fun _ q => by omega) (fun _ q => by omega)) tv_1056 dX8_readCompared_74 tv_1053 tv_1055 tq_X8_addNumbered tv_11 rfl yb_X8_addNumbered (by decide +kernel) rfl rfl rfl (by decide +kernel) (Nat.le_of_ble_eq_true rfl) (xj_128 hKL) xk_68 (fun r6 m6 w6 => ?_)
          rcases w6.symm with ⟨-, rfl, hR_m6, F6⟩ | ⟨w6, -, -⟩
          rotate_left
          · exfalso
            omega
          have hS_m6 := hd_SF hS_m5 F6 (by decide +kernel)
          have hT_m6 := hd_TF hT_m5 F6 (by decide +kernel)
          have hw_m6 : m6 129 8 = 0 := (F6 129 8 rfl).trans hw_m5
          have hH_m6 := hd_HF hH_m5 F6 (by decide +kernel)
          have hN_m6 : m6 132 5 = ((o : Nat) : Int) := (F6 132 5 rfl).trans hN_m5
          refine xw_iret C0 hA hr hlk rfl dX8_readCompared_77 ?_
          have eq : hq_cp t n lim pz o = .inr (p5, o) := by
            rw [hq_cpY (by omega), eo5]
            rfl
          exact ⟨_, rfl, Or.inl ⟨_, _, eq, rfl, hT_m6, hw_m6, hN_m6, ho⟩, hR_m6, ((((xw_F.rf (ML := [(129, 2, 9), (132, 4, 5), (133, 0, 39), (134, 0, 39), (135, 0, 39)])).tr F4 (fun j i h => xw_o_sub (by decide +kernel) j i h)).tr F5 (fun j i h => xw_o_sub (by decide +kernel) j i h)).tr F6 (fun j i h => xw_o_sub (by decide +kernel) j i h))⟩
        · have hS_m5 := hd_SF hS_m4 F5 (by decide +kernel)
          have hH_m5 := hd_HF hH_m4 F5 (by decide +kernel)
          have hN_m5 : m5 132 5 = ((o : Nat) : Int) := (F5 132 5 rfl).trans hN_m4
          have hR_m5 := hd_RF hR_m4 F5 (by decide +kernel)
          refine xw_callVI (pc := 74) (μ := m5) (ci := 8) (rest := []) (As := [.int (Int32.ofInt w9), .int (Int32.ofInt (μ 129 7)), .int (Int32.ofInt (-1))]) C0 hU hO sa_Tg hKL (xs_num (l := l) (w9 := w9) (g9 := μ 129 7) (v9 := -1) (μ := m5) hS_m5.1 hR_m5 (by omega) (by omega) (by omega) (fun _ q => by omega) (fun _ q => by omega)) tv_1056 dX8_readCompared_74 tv_1053 tv_1055 tq_X8_addNumbered tv_11 rfl yb_X8_addNumbered (by decide +kernel) rfl rfl rfl (by decide +kernel) (Nat.le_of_ble_eq_true rfl) (xj_128 hKL) xk_68 (fun r7 m7 w7 => ?_)
          rcases w7 with ⟨-, rfl, rfl⟩ | ⟨w7, -, -, -⟩
          rotate_left
          · exfalso
            omega
          refine xw_iret C0 hA hr hlk rfl dX8_readCompared_77 ?_
          have eq : hq_cp t n lim pz o = .inl e5 := by
            rw [hq_cpY (by omega), eo5]
            rfl
          exact ⟨_, rfl, Or.inr ⟨_, eq, rfl, W5⟩, hR_m5, (((xw_F.rf (ML := [(129, 2, 9), (132, 4, 5), (133, 0, 39), (134, 0, 39), (135, 0, 39)])).tr F4 (fun j i h => xw_o_sub (by decide +kernel) j i h)).tr F5 (fun j i h => xw_o_sub (by decide +kernel) j i h))⟩
      · exfalso
        omega
    · refine xw_if_ne (pc := 17) (tgt := 53) C0 (by omega) dX8_readCompared_17 rfl (fun b8 => ?_) (fun b8 => ?_)
      · exfalso
        omega
      · refine xw_aload_n (pc := 20) C0 1 dX8_readCompared_20 rfl rfl ?_
        refine xw_getR (pc := 21) (f := 0) C0 129 kcX8 dX8_readCompared_21 (by decide +kernel) tv_381 (xj_128 hKL) xk_68 rfl ((rfl).trans (xe_128_0 hS.1)) ?_
        refine xw_bipush (pc := 24) C0 dX8_readCompared_24 (by decide +kernel) ?_
        refine xw_callVI (pc := 26) (μ := μ) (ci := 6) (rest := []) (As := [.int (Int32.ofInt 61)]) C0 hU hO sa_Tg hKL (xd_isSignNow (l := l) (v := 61) hS hT (by decide +kernel)) tv_582 dX8_readCompared_26 tv_1040 tv_580 tv_581 tv_9 rfl yb_X6_isSignNow (by decide +kernel) rfl rfl rfl (by decide +kernel) (Nat.le_of_ble_eq_true rfl) (xj_129 hKL) xk_17 (fun r10 m10 w10 => ?_)
        obtain ⟨rfl, w10⟩ := w10
        rcases w10 with ⟨w10, rfl⟩ | ⟨w10, rfl⟩
        · refine xw_if_ne (pc := 29) (tgt := 53) C0 (by omega) dX8_readCompared_29 rfl (fun b11 => ?_) (fun b11 => ?_)
          · refine xw_aload_n (pc := 53) C0 1 dX8_readCompared_53 rfl rfl ?_
            refine xw_getR (pc := 54) (f := 0) C0 129 kcX8 dX8_readCompared_54 (by decide +kernel) tv_381 (xj_128 hKL) xk_68 rfl ((rfl).trans (xe_128_0 hS.1)) ?_
            refine xw_callVV (pc := 57) (μ := μ) (ci := 6) (rest := []) (As := []) C0 hU hO sa_Tg hKL (xd_step (l := l) (t := t) (n := n) (lim := lim) (pz := hp_x t n pz) hS (hT.2.2.2.2.2.2.2 (by omega)) (hp_xb (lim := lim) hT.1 (by omega))) tv_509 dX8_readCompared_57 tv_1042 tv_507 tv_508 tv_9 rfl yb_X6_step (by decide +kernel) rfl rfl rfl (by decide +kernel) (Nat.le_of_ble_eq_true rfl) (xj_129 hKL) xk_17 (fun m12 w12 => ?_)
            obtain ⟨hT_m12, F12⟩ := w12
            have hS_m12 := hd_SF hS F12 (by decide +kernel)
            have hw_m12 : m12 129 8 = 0 := (F12 129 8 rfl).trans hw
            have hH_m12 := hd_HF hH F12 (by decide +kernel)
            have hN_m12 : m12 132 5 = ((o : Nat) : Int) := (F12 132 5 rfl).trans hN
            have hR_m12 := hd_RF hR F12 (by decide +kernel)
            refine xw_aload_n (pc := 60) C0 1 dX8_readCompared_60 rfl rfl ?_
            refine xw_iload_n (pc := 61) C0 2 dX8_readCompared_61 rfl rfl ?_
            refine xw_iload_n (pc := 62) C0 0 dX8_readCompared_62 rfl rfl ?_
            refine xw_aload_n (pc := 63) C0 1 dX8_readCompared_63 rfl rfl ?_
            refine xw_getR (pc := 64) (f := 0) C0 129 kcX8 dX8_readCompared_64 (by decide +kernel) tv_381 (xj_128 hKL) xk_68 rfl (((F12 128 0 rfl).trans rfl).trans (xe_128_0 hS.1)) ?_
            refine xw_iconst (pc := 67) C0 dX8_readCompared_67 ?_
            refine xw_sipush (pc := 68) C0 dX8_readCompared_68 (by decide +kernel) ?_
            refine xw_callVI (pc := 71) (μ := m12) (ci := 6) (rest := [.int (Int32.ofInt (μ 129 7)), .int (Int32.ofInt w9), .ref (xw_ad al 128)]) (As := [.int (Int32.ofInt 0), .int (Int32.ofInt 999)]) C0 hU hO sa_Tg hKL (xd_takeNumber (l := l) (a := 0) (b := 999) hS_m12 hT_m12 hw_m12 (by decide +kernel) (by decide +kernel)) tv_568 dX8_readCompared_71 tv_1062 tv_566 tv_567 tv_9 rfl yb_X6_takeNumber (by decide +kernel) rfl rfl rfl (by decide +kernel) (Nat.le_of_ble_eq_true rfl) (xj_129 hKL) xk_17 (fun r13 m13 w13 => ?_)
            obtain ⟨w13, F13⟩ := w13
            rcases w13 with ⟨v13, p13, eo13, rfl, u13, hT_m13, hw_m13⟩ | ⟨e13, eo13, rfl, W13⟩
            · have nb13 := hp_numR eo13
              have hS_m13 := hd_SF hS_m12 F13 (by decide +kernel)
              have hH_m13 := hd_HF hH_m12 F13 (by decide +kernel)
              have hN_m13 : m13 132 5 = ((o : Nat) : Int) := (F13 132 5 rfl).trans hN_m12
              have hR_m13 := hd_RF hR_m12 F13 (by decide +kernel)
              refine xw_callVI (pc := 74) (μ := m13) (ci := 8) (rest := []) (As := [.int (Int32.ofInt w9), .int (Int32.ofInt (μ 129 7)), .int (Int32.ofInt r13)]) C0 hU hO sa_Tg hKL (xs_num (l := l) (w9 := w9) (g9 := μ 129 7) (v9 := r13) (μ := m13) hS_m13.1 hR_m13 (by omega) (by omega) (by omega) (fun _ q => by omega) (fun _ q => by omega)) tv_1056 dX8_readCompared_74 tv_1053 tv_1055 tq_X8_addNumbered tv_11 rfl yb_X8_addNumbered (by decide +kernel) rfl rfl rfl (by decide +kernel) (Nat.le_of_ble_eq_true rfl) (xj_128 hKL) xk_68 (fun r14 m14 w14 => ?_)
              rcases w14.symm with ⟨-, rfl, hR_m14, F14⟩ | ⟨w14, -, -⟩
              rotate_left
              · exfalso
                omega
              have hS_m14 := hd_SF hS_m13 F14 (by decide +kernel)
              have hT_m14 := hd_TF hT_m13 F14 (by decide +kernel)
              have hw_m14 : m14 129 8 = 0 := (F14 129 8 rfl).trans hw_m13
              have hH_m14 := hd_HF hH_m13 F14 (by decide +kernel)
              have hN_m14 : m14 132 5 = ((o : Nat) : Int) := (F14 132 5 rfl).trans hN_m13
              refine xw_iret C0 hA hr hlk rfl dX8_readCompared_77 ?_
              have eq : hq_cp t n lim pz o = .inr (p13, o) := by
                rw [hq_cpY (by omega), eo13]
                rfl
              exact ⟨_, rfl, Or.inl ⟨_, _, eq, rfl, hT_m14, hw_m14, hN_m14, ho⟩, hR_m14, ((((xw_F.rf (ML := [(129, 2, 9), (132, 4, 5), (133, 0, 39), (134, 0, 39), (135, 0, 39)])).tr F12 (fun j i h => xw_o_sub (by decide +kernel) j i h)).tr F13 (fun j i h => xw_o_sub (by decide +kernel) j i h)).tr F14 (fun j i h => xw_o_sub (by decide +kernel) j i h))⟩
            · have hS_m13 := hd_SF hS_m12 F13 (by decide +kernel)
              have hH_m13 := hd_HF hH_m12 F13 (by decide +kernel)
              have hN_m13 : m13 132 5 = ((o : Nat) : Int) := (F13 132 5 rfl).trans hN_m12
              have hR_m13 := hd_RF hR_m12 F13 (by decide +kernel)
              refine xw_callVI (pc := 74) (μ := m13) (ci := 8) (rest := []) (As := [.int (Int32.ofInt w9), .int (Int32.ofInt (μ 129 7)), .int (Int32.ofInt (-1))]) C0 hU hO sa_Tg hKL (xs_num (l := l) (w9 := w9) (g9 := μ 129 7) (v9 := -1) (μ := m13) hS_m13.1 hR_m13 (by omega) (by omega) (by omega) (fun _ q => by omega) (fun _ q => by omega)) tv_1056 dX8_readCompared_74 tv_1053 tv_1055 tq_X8_addNumbered tv_11 rfl yb_X8_addNumbered (by decide +kernel) rfl rfl rfl (by decide +kernel) (Nat.le_of_ble_eq_true rfl) (xj_128 hKL) xk_68 (fun r15 m15 w15 => ?_)
              rcases w15 with ⟨-, rfl, rfl⟩ | ⟨w15, -, -, -⟩
              rotate_left
              · exfalso
                omega
              refine xw_iret C0 hA hr hlk rfl dX8_readCompared_77 ?_
              have eq : hq_cp t n lim pz o = .inl e13 := by
                rw [hq_cpY (by omega), eo13]
                rfl
              exact ⟨_, rfl, Or.inr ⟨_, eq, rfl, W13⟩, hR_m13, (((xw_F.rf (ML := [(129, 2, 9), (132, 4, 5), (133, 0, 39), (134, 0, 39), (135, 0, 39)])).tr F12 (fun j i h => xw_o_sub (by decide +kernel) j i h)).tr F13 (fun j i h => xw_o_sub (by decide +kernel) j i h))⟩
          · exfalso
            omega
        · refine xw_if_ne (pc := 29) (tgt := 53) C0 (by omega) dX8_readCompared_29 rfl (fun b16 => ?_) (fun b16 => ?_)
          · exfalso
            omega
          · refine xw_aload_n (pc := 32) C0 1 dX8_readCompared_32 rfl rfl ?_
            refine xw_getR (pc := 33) (f := 0) C0 129 kcX8 dX8_readCompared_33 (by decide +kernel) tv_381 (xj_128 hKL) xk_68 rfl ((rfl).trans (xe_128_0 hS.1)) ?_
            refine xw_bipush (pc := 36) C0 dX8_readCompared_36 (by decide +kernel) ?_
            refine xw_callVI (pc := 38) (μ := μ) (ci := 6) (rest := []) (As := [.int (Int32.ofInt 62)]) C0 hU hO sa_Tg hKL (xd_isSignNow (l := l) (v := 62) hS hT (by decide +kernel)) tv_582 dX8_readCompared_38 tv_1040 tv_580 tv_581 tv_9 rfl yb_X6_isSignNow (by decide +kernel) rfl rfl rfl (by decide +kernel) (Nat.le_of_ble_eq_true rfl) (xj_129 hKL) xk_17 (fun r17 m17 w17 => ?_)
            obtain ⟨rfl, w17⟩ := w17
            rcases w17 with ⟨w17, rfl⟩ | ⟨w17, rfl⟩
            · refine xw_if_ne (pc := 41) (tgt := 53) C0 (by omega) dX8_readCompared_41 rfl (fun b18 => ?_) (fun b18 => ?_)
              · refine xw_aload_n (pc := 53) C0 1 dX8_readCompared_53 rfl rfl ?_
                refine xw_getR (pc := 54) (f := 0) C0 129 kcX8 dX8_readCompared_54 (by decide +kernel) tv_381 (xj_128 hKL) xk_68 rfl ((rfl).trans (xe_128_0 hS.1)) ?_
                refine xw_callVV (pc := 57) (μ := μ) (ci := 6) (rest := []) (As := []) C0 hU hO sa_Tg hKL (xd_step (l := l) (t := t) (n := n) (lim := lim) (pz := hp_x t n pz) hS (hT.2.2.2.2.2.2.2 (by omega)) (hp_xb (lim := lim) hT.1 (by omega))) tv_509 dX8_readCompared_57 tv_1042 tv_507 tv_508 tv_9 rfl yb_X6_step (by decide +kernel) rfl rfl rfl (by decide +kernel) (Nat.le_of_ble_eq_true rfl) (xj_129 hKL) xk_17 (fun m19 w19 => ?_)
                obtain ⟨hT_m19, F19⟩ := w19
                have hS_m19 := hd_SF hS F19 (by decide +kernel)
                have hw_m19 : m19 129 8 = 0 := (F19 129 8 rfl).trans hw
                have hH_m19 := hd_HF hH F19 (by decide +kernel)
                have hN_m19 : m19 132 5 = ((o : Nat) : Int) := (F19 132 5 rfl).trans hN
                have hR_m19 := hd_RF hR F19 (by decide +kernel)
                refine xw_aload_n (pc := 60) C0 1 dX8_readCompared_60 rfl rfl ?_
                refine xw_iload_n (pc := 61) C0 2 dX8_readCompared_61 rfl rfl ?_
                refine xw_iload_n (pc := 62) C0 0 dX8_readCompared_62 rfl rfl ?_
                refine xw_aload_n (pc := 63) C0 1 dX8_readCompared_63 rfl rfl ?_
                refine xw_getR (pc := 64) (f := 0) C0 129 kcX8 dX8_readCompared_64 (by decide +kernel) tv_381 (xj_128 hKL) xk_68 rfl (((F19 128 0 rfl).trans rfl).trans (xe_128_0 hS.1)) ?_
                refine xw_iconst (pc := 67) C0 dX8_readCompared_67 ?_
                refine xw_sipush (pc := 68) C0 dX8_readCompared_68 (by decide +kernel) ?_
                refine xw_callVI (pc := 71) (μ := m19) (ci := 6) (rest := [.int (Int32.ofInt (μ 129 7)), .int (Int32.ofInt w9), .ref (xw_ad al 128)]) (As := [.int (Int32.ofInt 0), .int (Int32.ofInt 999)]) C0 hU hO sa_Tg hKL (xd_takeNumber (l := l) (a := 0) (b := 999) hS_m19 hT_m19 hw_m19 (by decide +kernel) (by decide +kernel)) tv_568 dX8_readCompared_71 tv_1062 tv_566 tv_567 tv_9 rfl yb_X6_takeNumber (by decide +kernel) rfl rfl rfl (by decide +kernel) (Nat.le_of_ble_eq_true rfl) (xj_129 hKL) xk_17 (fun r20 m20 w20 => ?_)
                obtain ⟨w20, F20⟩ := w20
                rcases w20 with ⟨v20, p20, eo20, rfl, u20, hT_m20, hw_m20⟩ | ⟨e20, eo20, rfl, W20⟩
                · have nb20 := hp_numR eo20
                  have hS_m20 := hd_SF hS_m19 F20 (by decide +kernel)
                  have hH_m20 := hd_HF hH_m19 F20 (by decide +kernel)
                  have hN_m20 : m20 132 5 = ((o : Nat) : Int) := (F20 132 5 rfl).trans hN_m19
                  have hR_m20 := hd_RF hR_m19 F20 (by decide +kernel)
                  refine xw_callVI (pc := 74) (μ := m20) (ci := 8) (rest := []) (As := [.int (Int32.ofInt w9), .int (Int32.ofInt (μ 129 7)), .int (Int32.ofInt r20)]) C0 hU hO sa_Tg hKL (xs_num (l := l) (w9 := w9) (g9 := μ 129 7) (v9 := r20) (μ := m20) hS_m20.1 hR_m20 (by omega) (by omega) (by omega) (fun _ q => by omega) (fun _ q => by omega)) tv_1056 dX8_readCompared_74 tv_1053 tv_1055 tq_X8_addNumbered tv_11 rfl yb_X8_addNumbered (by decide +kernel) rfl rfl rfl (by decide +kernel) (Nat.le_of_ble_eq_true rfl) (xj_128 hKL) xk_68 (fun r21 m21 w21 => ?_)
                  rcases w21.symm with ⟨-, rfl, hR_m21, F21⟩ | ⟨w21, -, -⟩
                  rotate_left
                  · exfalso
                    omega
                  have hS_m21 := hd_SF hS_m20 F21 (by decide +kernel)
                  have hT_m21 := hd_TF hT_m20 F21 (by decide +kernel)
                  have hw_m21 : m21 129 8 = 0 := (F21 129 8 rfl).trans hw_m20
                  have hH_m21 := hd_HF hH_m20 F21 (by decide +kernel)
                  have hN_m21 : m21 132 5 = ((o : Nat) : Int) := (F21 132 5 rfl).trans hN_m20
                  refine xw_iret C0 hA hr hlk rfl dX8_readCompared_77 ?_
                  have eq : hq_cp t n lim pz o = .inr (p20, o) := by
                    rw [hq_cpY (by omega), eo20]
                    rfl
                  exact ⟨_, rfl, Or.inl ⟨_, _, eq, rfl, hT_m21, hw_m21, hN_m21, ho⟩, hR_m21, ((((xw_F.rf (ML := [(129, 2, 9), (132, 4, 5), (133, 0, 39), (134, 0, 39), (135, 0, 39)])).tr F19 (fun j i h => xw_o_sub (by decide +kernel) j i h)).tr F20 (fun j i h => xw_o_sub (by decide +kernel) j i h)).tr F21 (fun j i h => xw_o_sub (by decide +kernel) j i h))⟩
                · have hS_m20 := hd_SF hS_m19 F20 (by decide +kernel)
                  have hH_m20 := hd_HF hH_m19 F20 (by decide +kernel)
                  have hN_m20 : m20 132 5 = ((o : Nat) : Int) := (F20 132 5 rfl).trans hN_m19
                  have hR_m20 := hd_RF hR_m19 F20 (by decide +kernel)
                  refine xw_callVI (pc := 74) (μ := m20) (ci := 8) (rest := []) (As := [.int (Int32.ofInt w9), .int (Int32.ofInt (μ 129 7)), .int (Int32.ofInt (-1))]) C0 hU hO sa_Tg hKL (xs_num (l := l) (w9 := w9) (g9 := μ 129 7) (v9 := -1) (μ := m20) hS_m20.1 hR_m20 (by omega) (by omega) (by omega) (fun _ q => by omega) (fun _ q => by omega)) tv_1056 dX8_readCompared_74 tv_1053 tv_1055 tq_X8_addNumbered tv_11 rfl yb_X8_addNumbered (by decide +kernel) rfl rfl rfl (by decide +kernel) (Nat.le_of_ble_eq_true rfl) (xj_128 hKL) xk_68 (fun r22 m22 w22 => ?_)
                  rcases w22 with ⟨-, rfl, rfl⟩ | ⟨w22, -, -, -⟩
                  rotate_left
                  · exfalso
                    omega
                  refine xw_iret C0 hA hr hlk rfl dX8_readCompared_77 ?_
                  have eq : hq_cp t n lim pz o = .inl e20 := by
                    rw [hq_cpY (by omega), eo20]
                    rfl
                  exact ⟨_, rfl, Or.inr ⟨_, eq, rfl, W20⟩, hR_m20, (((xw_F.rf (ML := [(129, 2, 9), (132, 4, 5), (133, 0, 39), (134, 0, 39), (135, 0, 39)])).tr F19 (fun j i h => xw_o_sub (by decide +kernel) j i h)).tr F20 (fun j i h => xw_o_sub (by decide +kernel) j i h))⟩
              · exfalso
                omega
            · refine xw_if_ne (pc := 41) (tgt := 53) C0 (by omega) dX8_readCompared_41 rfl (fun b23 => ?_) (fun b23 => ?_)
              · exfalso
                omega
              · refine xw_aload_n (pc := 44) C0 1 dX8_readCompared_44 rfl rfl ?_
                refine xw_getR (pc := 45) (f := 0) C0 129 kcX8 dX8_readCompared_45 (by decide +kernel) tv_381 (xj_128 hKL) xk_68 rfl ((rfl).trans (xe_128_0 hS.1)) ?_
                refine xw_iconst (pc := 48) C0 dX8_readCompared_48 ?_
                refine xw_callVI (pc := 49) (μ := μ) (ci := 6) (rest := []) (As := [.int (Int32.ofInt 1)]) C0 hU hO sa_Tg hKL (xd_refuse (l := l) (μ := μ) (v := 1) (by decide +kernel) (by have q3 := hT.2.2.1; have q1 := hp_plb (t := t) (lim := lim) hT.1; have q2 := hS.2.2.2.2.2.1; omega)) tv_546 dX8_readCompared_49 tv_1041 tv_544 tv_545 tv_9 rfl yb_X6_refuse (by decide +kernel) rfl rfl rfl (by decide +kernel) (Nat.le_of_ble_eq_true rfl) (xj_129 hKL) xk_17 (fun r24 m24 w24 => ?_)
                obtain ⟨rfl, w24⟩ := w24
                rcases w24.symm with ⟨w24, -⟩ | ⟨-, x24, y24, F24⟩
                · exfalso
                  omega
                have W24 : hd_W (hp_bad t n lim 1 pz) m24 := hd_Wb ⟨by decide, by decide⟩ x24 (y24.trans hT.2.2.1)
                have hR_m24 := hd_RF hR F24 (by decide +kernel)
                refine xw_iret C0 hA hr hlk rfl dX8_readCompared_52 ?_
                exact ⟨_, rfl, Or.inr ⟨_, hq_cpN (by omega), rfl, W24⟩, hR_m24, ((xw_F.rf (ML := [(129, 2, 9), (132, 4, 5), (133, 0, 39), (134, 0, 39), (135, 0, 39)])).tr F24 (fun j i h => xw_o_sub (by decide +kernel) j i h))⟩)
