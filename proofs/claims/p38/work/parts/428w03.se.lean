set_option maxRecDepth 20000 in
set_option maxHeartbeats 20000000 in
theorem xd_takeFault {l : Launch} {t rd nm : Nat → Int} {n lim pz : Nat} {μ : xw_M} (hS : hd_S t n lim μ) (hT : hd_T t n lim pz μ) (hw : μ 129 8 = 0) (hH : hd_H rd nm μ) (hK : hp_ok rd nm) : xw_MetI l vwCl sa_Ts tb_KT0 tc_KL yX6_takeFault cX6_takeFault 3 (some .int) 5 187 (fun ad => [.ref (ad 129), .ref (ad 4)]) μ (fun r μ' => hd_V t n lim (hp_one t n lim nm 6 (rd 1).toNat pz) r μ' ∧ xw_F [(129, 2, 9)] μ μ') :=
  xw_of (by decide +kernel) (fun _ => Nat.le_of_ble_eq_true rfl) (fun p e s m args below meth c D dA A al w0 sz C0 hU hO hKL hr hlk hA => by
    have n_μ := hS.2.2.1
    have l_μ := hS.2.2.2.2.1
    have b_μ := hS.2.2.2.2.2
    obtain ⟨hp9, c2, c3, c4, c5, c6, c7, c8⟩ := id hT
    have hpl := hp_plb (t := t) (lim := lim) hp9
    have hkb := hp_kb t n lim pz
    have k1 := hK.2.1
    refine xw_aload_n (pc := 0) C0 0 dX6_takeFault_0 rfl rfl ?_
    refine xw_callVI (pc := 1) (μ := μ) (ci := 6) (rest := []) (As := []) C0 hU hO sa_Tg hKL (xd_isName (l := l) hS hT hw) tv_555 dX6_takeFault_1 tv_573 tv_553 tv_554 tv_9 rfl yb_X6_isName (by decide +kernel) rfl rfl rfl (by decide +kernel) (Nat.le_of_ble_eq_true rfl) (xj_129 hKL) xk_17 (fun r1 m1 w1 => ?_)
    rcases w1 with ⟨w1, rfl, rfl⟩ | ⟨w1, rfl, W1, F1⟩
    · refine xw_if_eq (pc := 4) (tgt := 18) C0 (by omega) dX6_takeFault_4 rfl (fun b2 => ?_) (fun b2 => ?_)
      · exfalso
        omega
      · refine xw_aload_n (pc := 7) C0 1 dX6_takeFault_7 rfl rfl ?_
        refine xw_aload_n (pc := 8) C0 0 dX6_takeFault_8 rfl rfl ?_
        refine xw_getL (pc := 9) (f := 5) (z := μ 129 5) C0 kcX6 dX6_takeFault_9 (by decide +kernel) tv_294 (xj_129 hKL) xk_17 rfl (rfl) (fun g3 k3 => ?_)
        have hv9 := hp_wb (t := t) (n := n) (lim := lim) (p := pz) (by omega)
        refine xw_nL (congrArg Int64.ofInt (c4 (by omega)).1) ?_
        refine xw_callVI (pc := 12) (μ := μ) (ci := 2) (rest := []) (As := [.long (Int64.ofInt (hp_cv (hp_w t n pz)))]) C0 hU hO sa_Tg hKL (xd_findFault (l := l) (rd := rd) (nm := nm) (v := hp_w t n pz) hS.1 hH hK hv9) tv_564 dX6_takeFault_12 tv_606 tv_562 tv_563 tv_4 rfl yb_X2_findFault (by decide +kernel) rfl rfl rfl (by decide +kernel) (Nat.le_of_ble_eq_true rfl) (xj_4 hKL) xk_28 (fun r4 m4 w4 => ?_)
        obtain ⟨rfl, w4⟩ := w4
        have u4 := hp_fb nm 6 (rd 1).toNat (hp_w t n pz)
        have z4 := hK.2.1
        refine xw_goto (pc := 15) (tgt := 19) C0 dX6_takeFault_15 rfl ?_
        refine xw_istore_n (pc := 19) (L' := [(2, .int (Int32.ofInt r4)), (0, .ref (xw_ad al 129)), (1, .ref (xw_ad al 4))]) C0 dX6_takeFault_19 rfl (by decide +kernel) rfl ?_
        refine xw_iload_n (pc := 20) C0 0 dX6_takeFault_20 rfl rfl ?_
        refine xw_iconst (pc := 21) C0 dX6_takeFault_21 ?_
        refine xw_icmp_ne (pc := 22) (tgt := 34) C0 (by omega) (by omega) dX6_takeFault_22 rfl (fun b5 => ?_) (fun b5 => ?_)
        · refine xw_aload_n (pc := 34) C0 1 dX6_takeFault_34 rfl rfl ?_
          refine xw_callVV (pc := 35) (μ := μ) (ci := 6) (rest := []) (As := []) C0 hU hO sa_Tg hKL (xd_step (l := l) (pz := hp_x t n pz) hS (c8 (by omega)) (hp_xb (lim := lim) hp9 (by omega))) tv_509 dX6_takeFault_35 tv_506 tv_507 tv_508 tv_9 rfl yb_X6_step (by decide +kernel) rfl rfl rfl (by decide +kernel) (Nat.le_of_ble_eq_true rfl) (xj_129 hKL) xk_17 (fun m6 w6 => ?_)
          obtain ⟨T6, F6⟩ := w6
          have hS_m6 := hd_SF hS F6 (by decide +kernel)
          have n_m6 := hS_m6.2.2.1
          have l_m6 := hS_m6.2.2.2.2.1
          have b_m6 := hS_m6.2.2.2.2.2
          have a6 := T6
          refine xw_iload_n (pc := 38) C0 0 dX6_takeFault_38 rfl rfl ?_
          refine xw_iret C0 hA hr hlk rfl dX6_takeFault_39 ?_
          have eo : hp_one t n lim nm 6 (rd 1).toNat pz = .inr (hp_f nm 6 (rd 1).toNat (hp_w t n pz), hp_x t n pz) := by
            unfold hp_one
            rw [if_pos (by omega), if_neg (by omega)]
          exact ⟨_, rfl, Or.inl ⟨_, _, eo, by omega, by omega, T6, (F6 129 8 rfl).trans hw⟩, ((xw_F.rf (ML := [(129, 2, 9)])).tr F6 (fun j i h => xw_o_sub (by decide +kernel) j i h))⟩
        · refine xw_aload_n (pc := 25) C0 1 dX6_takeFault_25 rfl rfl ?_
          refine xw_iconst (pc := 26) C0 dX6_takeFault_26 ?_
          refine xw_callVI (pc := 27) (μ := μ) (ci := 6) (rest := []) (As := [.int (Int32.ofInt 3)]) C0 hU hO sa_Tg hKL (xd_refuse (l := l) (v := 3) (by omega) (by omega)) tv_546 dX6_takeFault_27 tv_556 tv_544 tv_545 tv_9 rfl yb_X6_refuse (by decide +kernel) rfl rfl rfl (by decide +kernel) (Nat.le_of_ble_eq_true rfl) (xj_129 hKL) xk_17 (fun r7 m7 w7 => ?_)
          obtain ⟨rfl, w7⟩ := w7
          rcases w7.symm with ⟨w7, -⟩ | ⟨-, x7, y7, F7⟩
          · exfalso
            omega
          have hS_m7 := hd_SF hS F7 (by decide +kernel)
          have n_m7 := hS_m7.2.2.1
          have l_m7 := hS_m7.2.2.2.2.1
          have b_m7 := hS_m7.2.2.2.2.2
          refine xw_pop (pc := 30) C0 dX6_takeFault_30 rfl ?_
          refine xw_goto (pc := 31) (tgt := 38) C0 dX6_takeFault_31 rfl ?_
          refine xw_iload_n (pc := 38) C0 0 dX6_takeFault_38 rfl rfl ?_
          refine xw_iret C0 hA hr hlk rfl dX6_takeFault_39 ?_
          have eo : hp_one t n lim nm 6 (rd 1).toNat pz = .inl (hp_bad t n lim 3 pz) := by
            unfold hp_one
            rw [if_pos (by omega), if_pos (by omega)]
          exact ⟨_, rfl, Or.inr ⟨_, eo, by omega, hd_Wb ⟨by decide, by decide⟩ x7 (y7.trans c3)⟩, ((xw_F.rf (ML := [(129, 2, 9)])).tr F7 (fun j i h => xw_o_sub (by decide +kernel) j i h))⟩
    · have hS_m1 := hd_SF hS F1 (by decide +kernel)
      have n_m1 := hS_m1.2.2.1
      have l_m1 := hS_m1.2.2.2.2.1
      have b_m1 := hS_m1.2.2.2.2.2
      have q1 : m1 129 8 = 1 := W1.2.1
      have pl1 : m1 129 3 = μ 129 3 := F1 129 3 rfl
      refine xw_if_eq (pc := 4) (tgt := 18) C0 (by omega) dX6_takeFault_4 rfl (fun b8 => ?_) (fun b8 => ?_)
      · refine xw_iconst (pc := 18) C0 dX6_takeFault_18 ?_
        refine xw_istore_n (pc := 19) (L' := [(2, .int (Int32.ofInt (-1))), (0, .ref (xw_ad al 129)), (1, .ref (xw_ad al 4))]) C0 dX6_takeFault_19 rfl (by decide +kernel) rfl ?_
        refine xw_iload_n (pc := 20) C0 0 dX6_takeFault_20 rfl rfl ?_
        refine xw_iconst (pc := 21) C0 dX6_takeFault_21 ?_
        refine xw_icmp_ne (pc := 22) (tgt := 34) C0 (by omega) (by omega) dX6_takeFault_22 rfl (fun b10 => ?_) (fun b10 => ?_)
        · exfalso
          omega
        · refine xw_aload_n (pc := 25) C0 1 dX6_takeFault_25 rfl rfl ?_
          refine xw_iconst (pc := 26) C0 dX6_takeFault_26 ?_
          refine xw_callVI (pc := 27) (μ := m1) (ci := 6) (rest := []) (As := [.int (Int32.ofInt 3)]) C0 hU hO sa_Tg hKL (xd_refuse (l := l) (v := 3) (by omega) (by omega)) tv_546 dX6_takeFault_27 tv_556 tv_544 tv_545 tv_9 rfl yb_X6_refuse (by decide +kernel) rfl rfl rfl (by decide +kernel) (Nat.le_of_ble_eq_true rfl) (xj_129 hKL) xk_17 (fun r11 m11 w11 => ?_)
          obtain ⟨rfl, w11⟩ := w11
          rcases w11 with ⟨w11, -⟩ | ⟨-, rfl⟩
          · exfalso
            omega
          refine xw_pop (pc := 30) C0 dX6_takeFault_30 rfl ?_
          refine xw_goto (pc := 31) (tgt := 38) C0 dX6_takeFault_31 rfl ?_
          refine xw_iload_n (pc := 38) C0 0 dX6_takeFault_38 rfl rfl ?_
          refine xw_iret C0 hA hr hlk rfl dX6_takeFault_39 ?_
          have eo : hp_one t n lim nm 6 (rd 1).toNat pz = .inl (hp_bad t n lim 1 pz) := if_neg (by omega)
          exact ⟨_, rfl, Or.inr ⟨_, eo, rfl, W1⟩, ((xw_F.rf (ML := [(129, 2, 9)])).tr F1 (fun j i h => xw_o_sub (by decide +kernel) j i h))⟩
      · exfalso
        omega)
set_option maxRecDepth 20000 in
set_option maxHeartbeats 20000000 in
theorem xd_start {l : Launch} {t : Nat → Int} {n lim : Nat} {μ : xw_M} (hG : xw_G xw_GL μ) (ht : ∀ i : Nat, μ 2 i % 256 = t i) (hn : μ 1 1 = (n : Int)) (hn9 : n ≤ 940) (hl9 : lim ≤ 900) : xw_MetV l vwCl sa_Ts tb_KT0 tc_KL yX6_start cX6_start 3 none 5 187 (fun ad => [.ref (ad 129), .ref (ad 1), .int (Int32.ofInt (lim : Int))]) μ (fun μ' => hd_S t n lim μ' ∧ hd_T t n lim 0 μ' ∧ μ' 129 8 = 0 ∧ xw_F [(129, 0, 9)] μ μ') :=
  xw_of (by decide +kernel) (fun _ => Nat.le_of_ble_eq_true rfl) (fun p e s m args below meth c D dA A al w0 sz C0 hU hO hKL hr hlk hA => by
    refine xw_aload_n (pc := 0) C0 0 dX6_start_0 rfl rfl ?_
    refine xw_aload_n (pc := 1) C0 1 dX6_start_1 rfl rfl ?_
    refine xw_putR (pc := 2) (f := 0) C0 kcX6 dX6_start_2 (by decide +kernel) tv_285 rfl rfl (xj_129 hKL) xk_17 rfl (xj_1 hKL) (by decide +kernel) ?_
    refine xw_aload_n (pc := 5) C0 0 dX6_start_5 rfl rfl ?_
    refine xw_iload_n (pc := 6) C0 2 dX6_start_6 rfl rfl ?_
    refine xw_putI (pc := 7) (f := 1) C0 kcX6 dX6_start_7 (by decide +kernel) tv_286 rfl rfl (xj_129 hKL) xk_17 rfl (by omega) (by omega) ?_
    refine xw_aload_n (pc := 10) C0 0 dX6_start_10 rfl rfl ?_
    refine xw_iconst (pc := 11) C0 dX6_start_11 ?_
    refine xw_putI (pc := 12) (f := 4) C0 kcX6 dX6_start_12 (by decide +kernel) tv_292 rfl rfl (xj_129 hKL) xk_17 rfl (by omega) (by omega) ?_
    refine xw_aload_n (pc := 15) C0 0 dX6_start_15 rfl rfl ?_
    refine xw_iconst (pc := 16) C0 dX6_start_16 ?_
    refine xw_putI (pc := 17) (f := 8) C0 kcX6 dX6_start_17 (by decide +kernel) tv_302 rfl rfl (xj_129 hKL) xk_17 rfl (by omega) (by omega) ?_
    refine xw_aload_n (pc := 20) C0 0 dX6_start_20 rfl rfl ?_
    refine xw_iconst (pc := 21) C0 dX6_start_21 ?_
    refine xw_putI (pc := 22) (f := 9) C0 kcX6 dX6_start_22 (by decide +kernel) tv_304 rfl rfl (xj_129 hKL) xk_17 rfl (by omega) (by omega) ?_
    refine xw_aload_n (pc := 25) C0 0 dX6_start_25 rfl rfl ?_
    have Ft1 : xw_F [(129, 0, 0), (129, 1, 1), (129, 4, 4), (129, 8, 8), (129, 9, 9)] μ (xw_u (xw_u (xw_u (xw_u (xw_u μ 129 0 ((1 : Nat) : Int)) 129 1 (lim : Int)) 129 4 0) 129 8 0) 129 9 0) := ((((((xw_F.rf (ML := [(129, 0, 0), (129, 1, 1), (129, 4, 4), (129, 8, 8), (129, 9, 9)])).u (show (129, 0, 0) ∈ _ by decide) ⟨by decide, by decide⟩).u (show (129, 1, 1) ∈ _ by decide) ⟨by decide, by decide⟩).u (show (129, 4, 4) ∈ _ by decide) ⟨by decide, by decide⟩).u (show (129, 8, 8) ∈ _ by decide) ⟨by decide, by decide⟩).u (show (129, 9, 9) ∈ _ by decide) ⟨by decide, by decide⟩)
    have vt1_104_9 : (xw_u (xw_u (xw_u (xw_u (xw_u μ 129 0 ((1 : Nat) : Int)) 129 1 (lim : Int)) 129 4 0) 129 8 0) 129 9 0) 129 9 = 0 := xw_ug
    have vt1_104_8 : (xw_u (xw_u (xw_u (xw_u (xw_u μ 129 0 ((1 : Nat) : Int)) 129 1 (lim : Int)) 129 4 0) 129 8 0) 129 9 0) 129 8 = 0 := (xw_un (by decide +kernel)).trans xw_ug
    have vt1_104_4 : (xw_u (xw_u (xw_u (xw_u (xw_u μ 129 0 ((1 : Nat) : Int)) 129 1 (lim : Int)) 129 4 0) 129 8 0) 129 9 0) 129 4 = 0 := (xw_un (by decide +kernel)).trans ((xw_un (by decide +kernel)).trans xw_ug)
    have vt1_104_1 : (xw_u (xw_u (xw_u (xw_u (xw_u μ 129 0 ((1 : Nat) : Int)) 129 1 (lim : Int)) 129 4 0) 129 8 0) 129 9 0) 129 1 = (lim : Int) := (xw_un (by decide +kernel)).trans ((xw_un (by decide +kernel)).trans ((xw_un (by decide +kernel)).trans xw_ug))
    have vt1_104_0 : (xw_u (xw_u (xw_u (xw_u (xw_u μ 129 0 ((1 : Nat) : Int)) 129 1 (lim : Int)) 129 4 0) 129 8 0) 129 9 0) 129 0 = ((1 : Nat) : Int) := (xw_un (by decide +kernel)).trans ((xw_un (by decide +kernel)).trans ((xw_un (by decide +kernel)).trans ((xw_un (by decide +kernel)).trans xw_ug)))
    generalize (xw_u (xw_u (xw_u (xw_u (xw_u μ 129 0 ((1 : Nat) : Int)) 129 1 (lim : Int)) 129 4 0) 129 8 0) 129 9 0) = t1 at Ft1 vt1_104_9 vt1_104_8 vt1_104_4 vt1_104_1 vt1_104_0 ⊢
    have hS_t1 : hd_S t n lim t1 := ⟨xw_GF hG Ft1 (by decide +kernel), fun i => by rw [Ft1 2 i (xw_oj (by decide +kernel) i)]; exact ht i, (Ft1 1 1 rfl).trans hn, vt1_104_0, vt1_104_1, hn9, hl9⟩
    refine xw_callVV (pc := 26) (μ := t1) (ci := 6) (rest := []) (As := []) C0 hU hO sa_Tg hKL (xd_step (l := l) (pz := 0) hS_t1 vt1_104_4 (Nat.zero_le _)) tv_509 dX6_start_26 tv_506 tv_507 tv_508 tv_9 rfl yb_X6_step (by decide +kernel) rfl rfl rfl (by decide +kernel) (Nat.le_of_ble_eq_true rfl) (xj_129 hKL) xk_17 (fun m1 w1 => ?_)
    obtain ⟨T1, F1⟩ := w1
    refine xw_vret C0 hA hr hlk dX6_start_29 ?_
    exact ⟨rfl, hd_SF hS_t1 F1 (by decide +kernel), T1, (F1 129 8 rfl).trans vt1_104_8, (((xw_F.rf (ML := [(129, 0, 9)])).tr Ft1 (fun j i h => xw_o_sub (by decide +kernel) j i h)).tr F1 (fun j i h => xw_o_sub (by decide +kernel) j i h))⟩)
theorem hd_kk {t : Nat → Int} {n lim pz : Nat} {μ : xw_M} (h : hd_T t n lim pz μ) : (hp_k t n lim pz = 2 ∧ μ 129 6 = hp_kw (hp_w t n pz)) ∨ (¬ hp_k t n lim pz = 2 ∧ μ 129 6 = -1) := by
  obtain ⟨-, -, -, h4, h5, -⟩ := h
  by_cases q : hp_k t n lim pz = 2
  · exact Or.inl ⟨q, (h4 q).2⟩
  · exact Or.inr ⟨q, h5 q⟩
set_option maxRecDepth 20000 in
set_option maxHeartbeats 20000000 in
theorem xd_takeText {l : Launch} {μ : xw_M} (hG : xw_G xw_GL μ) : xw_MetV l vwCl sa_Ts tb_KT0 tc_KL yX11_takeText cX11_takeText 2 none 2 120 (fun ad => [.ref (ad 0), .ref (ad 129)]) μ (fun μ' => μ' 1 1 = 0 ∧ xw_F [(0, 13, 13), (1, 1, 1)] μ μ') :=
  xw_of (by decide +kernel) (fun _ => Nat.le_of_ble_eq_true rfl) (fun p e s m args below meth c D dA A al w0 sz C0 hU hO hKL hr hlk hA => by
    refine xw_aload_n (pc := 0) C0 0 dX11_takeText_0 rfl rfl ?_
    refine xw_getR (pc := 1) (f := 0) C0 1 kcX11 dX11_takeText_1 (by decide +kernel) tv_422 (xj_0 hKL) xk_27 rfl ((rfl).trans (xe_0_0 hG)) ?_
    refine xw_iconst (pc := 4) C0 dX11_takeText_4 ?_
    refine xw_putI (pc := 5) (f := 1) C0 kcX0 dX11_takeText_5 (by decide +kernel) tv_40 rfl rfl (xj_1 hKL) xk_19 rfl (by omega) (by omega) ?_
    refine xw_aload_n (pc := 8) C0 0 dX11_takeText_8 rfl rfl ?_
    refine xw_aload_n (pc := 9) C0 1 dX11_takeText_9 rfl rfl ?_
    refine xw_getI (pc := 10) (f := 8) (z := μ 129 8) C0 kcX6 dX11_takeText_10 (by decide +kernel) tv_303 (xj_129 hKL) xk_17 rfl ((xw_un (fun q => absurd q.1 (by decide +kernel))).trans rfl) (fun g1 k1 => ?_)
    refine xw_putI (pc := 13) (f := 13) C0 kcX11 dX11_takeText_13 (by decide +kernel) tv_435 rfl rfl (xj_0 hKL) xk_27 rfl (by omega) (by omega) ?_
    refine xw_vret C0 hA hr hlk dX11_takeText_16 ?_
    have Ft1 : xw_F [(0, 13, 13), (1, 1, 1)] μ (xw_u (xw_u μ 1 1 0) 0 13 (μ 129 8)) := (((xw_F.rf (ML := [(0, 13, 13), (1, 1, 1)])).u (show (1, 1, 1) ∈ _ by decide) ⟨by decide, by decide⟩).u (show (0, 13, 13) ∈ _ by decide) ⟨by decide, by decide⟩)
    have vt1_0_13 : (xw_u (xw_u μ 1 1 0) 0 13 (μ 129 8)) 0 13 = μ 129 8 := xw_ug
    have vt1_1_1 : (xw_u (xw_u μ 1 1 0) 0 13 (μ 129 8)) 1 1 = 0 := (xw_un (fun q => absurd q.1 (by decide +kernel))).trans xw_ug
    generalize (xw_u (xw_u μ 1 1 0) 0 13 (μ 129 8)) = t1 at Ft1 vt1_0_13 vt1_1_1 ⊢
    exact ⟨rfl, vt1_1_1, ((xw_F.rf (ML := [(0, 13, 13), (1, 1, 1)])).tr Ft1 (fun j i h => xw_o_sub (by decide +kernel) j i h))⟩)
set_option maxRecDepth 20000 in
set_option maxHeartbeats 20000000 in
theorem xd_takeSign {l : Launch} {t : Nat → Int} {n lim pz : Nat} {μ : xw_M} (hS : hd_S t n lim μ) (hT : hd_T t n lim pz μ) (hw : μ 129 8 = 0) : xw_MetI l vwCl sa_Ts tb_KT0 tc_KL yX6_takeSign cX6_takeSign 2 (some .boolean) 5 187 (fun ad => [.ref (ad 129), .int (Int32.ofInt 41)]) μ (fun r μ' => hd_B t n lim (hq_en t n lim pz) r μ' ∧ xw_F [(129, 2, 9)] μ μ') :=
  xw_of (by decide +kernel) (fun _ => Nat.le_of_ble_eq_true rfl) (fun p e s m args below meth c D dA A al w0 sz C0 hU hO hKL hr hlk hA => by
    have n_μ := hS.2.2.1
    have l_μ := hS.2.2.2.2.1
    have b_μ := hS.2.2.2.2.2
    obtain ⟨hp9, c2, c3, c4, c5, c6, c7, c8⟩ := id hT
    have hpl := hp_plb (t := t) (lim := lim) hp9
    have hkb := hp_kb t n lim pz
    refine xw_aload_n (pc := 0) C0 0 dX6_takeSign_0 rfl rfl ?_
    refine xw_iload_n (pc := 1) C0 1 dX6_takeSign_1 rfl rfl ?_
    refine xw_callVI (pc := 2) (μ := μ) (ci := 6) (rest := []) (As := [.int (Int32.ofInt 41)]) C0 hU hO sa_Tg hKL (xd_isSignNow (l := l) hS hT (by omega)) tv_582 dX6_takeSign_2 tv_579 tv_580 tv_581 tv_9 rfl yb_X6_isSignNow (by decide +kernel) rfl rfl rfl (by decide +kernel) (Nat.le_of_ble_eq_true rfl) (xj_129 hKL) xk_17 (fun r1 m1 w1 => ?_)
    obtain ⟨rfl, w1⟩ := w1
    rcases w1 with ⟨w1, rfl⟩ | ⟨w1, rfl⟩
    · refine xw_if_ne (pc := 5) (tgt := 14) C0 (by omega) dX6_takeSign_5 rfl (fun b2 => ?_) (fun b2 => ?_)
      · refine xw_aload_n (pc := 14) C0 0 dX6_takeSign_14 rfl rfl ?_
        refine xw_callVV (pc := 15) (μ := μ) (ci := 6) (rest := []) (As := []) C0 hU hO sa_Tg hKL (xd_step (l := l) (pz := hp_x t n pz) hS (c8 (by omega)) (hp_xb (lim := lim) hp9 (by omega))) tv_509 dX6_takeSign_15 tv_506 tv_507 tv_508 tv_9 rfl yb_X6_step (by decide +kernel) rfl rfl rfl (by decide +kernel) (Nat.le_of_ble_eq_true rfl) (xj_129 hKL) xk_17 (fun m3 w3 => ?_)
        obtain ⟨T3, F3⟩ := w3
        have hS_m3 := hd_SF hS F3 (by decide +kernel)
        have n_m3 := hS_m3.2.2.1
        have l_m3 := hS_m3.2.2.2.2.1
        have b_m3 := hS_m3.2.2.2.2.2
        have a3 := T3
        refine xw_iconst (pc := 18) C0 dX6_takeSign_18 ?_
        refine xw_iret C0 hA hr hlk rfl dX6_takeSign_19 ?_
        exact ⟨_, rfl, Or.inl ⟨0, hp_x t n pz, if_pos ⟨by omega, by omega⟩, rfl, T3, (F3 129 8 rfl).trans hw⟩, ((xw_F.rf (ML := [(129, 2, 9)])).tr F3 (fun j i h => xw_o_sub (by decide +kernel) j i h))⟩
      · exfalso
        omega
    · refine xw_if_ne (pc := 5) (tgt := 14) C0 (by omega) dX6_takeSign_5 rfl (fun b4 => ?_) (fun b4 => ?_)
      · exfalso
        omega
      · refine xw_aload_n (pc := 8) C0 0 dX6_takeSign_8 rfl rfl ?_
        refine xw_iconst (pc := 9) C0 dX6_takeSign_9 ?_
        refine xw_callVI (pc := 10) (μ := μ) (ci := 6) (rest := []) (As := [.int (Int32.ofInt 1)]) C0 hU hO sa_Tg hKL (xd_refuse (l := l) (v := 1) (by omega) (by omega)) tv_546 dX6_takeSign_10 tv_556 tv_544 tv_545 tv_9 rfl yb_X6_refuse (by decide +kernel) rfl rfl rfl (by decide +kernel) (Nat.le_of_ble_eq_true rfl) (xj_129 hKL) xk_17 (fun r5 m5 w5 => ?_)
        obtain ⟨rfl, w5⟩ := w5
        rcases w5.symm with ⟨w5, -⟩ | ⟨-, x5, y5, F5⟩
        · exfalso
          omega
        have hS_m5 := hd_SF hS F5 (by decide +kernel)
        have n_m5 := hS_m5.2.2.1
        have l_m5 := hS_m5.2.2.2.2.1
        have b_m5 := hS_m5.2.2.2.2.2
        refine xw_iret C0 hA hr hlk rfl dX6_takeSign_13 ?_
        exact ⟨_, rfl, Or.inr ⟨hp_bad t n lim 1 pz, if_neg (by omega), rfl, hd_Wb ⟨by decide, by decide⟩ x5 (y5.trans c3)⟩, ((xw_F.rf (ML := [(129, 2, 9)])).tr F5 (fun j i h => xw_o_sub (by decide +kernel) j i h))⟩)
/-! what is read of a SENTENCE: its words and their numbers -/
noncomputable def hd_R (μ : xw_M) : Prop := ∀ i : Nat, i < 40 → (μ 133 i = 16 → 0 ≤ μ 135 i ∧ μ 135 i ≤ 7) ∧ (μ 133 i = 1 → 0 ≤ μ 135 i ∧ μ 135 i ≤ 5)
theorem hd_RF {ML : List (Nat × Nat × Nat)} {μ μ' : xw_M} (h : hd_R μ) (hF : xw_F ML μ μ') (hd : (ML.all (fun q => !(Nat.beq q.1 133)) && ML.all (fun q => !(Nat.beq q.1 135))) = true) : hd_R μ' := by
  rw [Bool.and_eq_true] at hd
  intro i hi
  rw [hF 133 i (xw_oj hd.1 i), hF 135 i (xw_oj hd.2 i)]
  exact h i hi
theorem hd_Ru {μ : xw_M} {I : Nat} {w g v z : Int} (h : hd_R μ) (h16 : w = 16 → 0 ≤ v ∧ v ≤ 7) (h1 : w = 1 → 0 ≤ v ∧ v ≤ 5) : hd_R (xw_u (xw_u (xw_u (xw_u μ 133 I w) 134 I g) 135 I v) 132 4 z) := by
  intro i hi
  have e1 : xw_u (xw_u (xw_u (xw_u μ 133 I w) 134 I g) 135 I v) 132 4 z 133 i = if i = I then w else μ 133 i := by
    rw [xw_un (fun q => absurd q.1 (by decide +kernel)), xw_un (fun q => absurd q.1 (by decide +kernel)), xw_un (fun q => absurd q.1 (by decide +kernel))]
    exact xw_ui (fun _ => rfl)
  have e2 : xw_u (xw_u (xw_u (xw_u μ 133 I w) 134 I g) 135 I v) 132 4 z 135 i = if i = I then v else μ 135 i := by
    rw [xw_un (fun q => absurd q.1 (by decide +kernel))]
    exact xw_ui (fun i => by rw [xw_un (fun q => absurd q.1 (by decide +kernel)), xw_un (fun q => absurd q.1 (by decide +kernel))])
  rw [e1, e2]
  by_cases e : i = I
  · rw [if_pos e, if_pos e]
    exact ⟨h16, h1⟩
  · rw [if_neg e, if_neg e]
    exact h i hi
/-- how a piece of it ends -/
noncomputable def hd_Q (t : Nat → Int) (n lim : Nat) (a : hq_R) (r : Int) (μ : xw_M) : Prop := (∃ p o : Nat, a = .inr (p, o) ∧ r = 1 ∧ hd_T t n lim p μ ∧ μ 129 8 = 0 ∧ μ 132 5 = (o : Int) ∧ o ≤ 20) ∨ (∃ e : hp_E, a = .inl e ∧ r = 0 ∧ hd_W e μ)
theorem hd_Qn {t : Nat → Int} {n lim : Nat} {a : hq_R} {r : Int} {μ : xw_M} (h : hd_Q t n lim a r μ) : narrow .boolean (.int (Int32.ofInt r)) = .int (Int32.ofInt r) := by
  rcases h with ⟨p, o, -, e, -⟩ | ⟨e9, -, e, -⟩
  · rw [e]
    rfl
  · rw [e]
    rfl
set_option maxRecDepth 20000 in
set_option maxHeartbeats 20000000 in
theorem xs_add {l : Launch} {w9 g9 v9 : Int} {μ : xw_M} (hG : xw_G xw_GL μ) (hR : hd_R μ) (hw9 : -2147483648 ≤ w9 ∧ w9 ≤ 2147483647) (hg9 : -2147483648 ≤ g9 ∧ g9 ≤ 2147483647) (hv9 : -2147483648 ≤ v9 ∧ v9 ≤ 2147483647) (h16 : w9 = 16 → 0 ≤ v9 ∧ v9 ≤ 7) (h1 : w9 = 1 → 0 ≤ v9 ∧ v9 ≤ 5) : xw_MetI l vwCl sa_Ts tb_KT0 tc_KL yX7_addStep cX7_addStep 4 (some .boolean) 2 120 (fun ad => [.ref (ad 132), .int (Int32.ofInt w9), .int (Int32.ofInt g9), .int (Int32.ofInt v9)]) μ (fun r μ' => r = 1 ∧ hd_R μ' ∧ xw_F [(132, 4, 4), (133, 0, 39), (134, 0, 39), (135, 0, 39)] μ μ') :=
  xw_of (by decide +kernel) (fun _ => Nat.le_of_ble_eq_true rfl) (fun p e s m args below meth c D dA A al w0 sz C0 hU hO hKL hr hlk hA => by
    refine xw_aload_n (pc := 0) C0 0 dX7_addStep_0 rfl rfl ?_
    refine xw_getI (pc := 1) (f := 4) (z := μ 132 4) C0 kcX7 dX7_addStep_1 (by decide +kernel) tv_216 (xj_132 hKL) xk_3 rfl (rfl) (fun g1 k1 => ?_)
    refine xw_bipush (pc := 4) C0 dX7_addStep_4 (by decide +kernel) ?_
    refine xw_icmp_ge (pc := 6) (tgt := 49) C0 (by omega) (by omega) dX7_addStep_6 rfl (fun b2 => ?_) (fun b2 => ?_)
    · refine xw_iconst (pc := 49) C0 dX7_addStep_49 ?_
      refine xw_iret C0 hA hr hlk rfl dX7_addStep_50 ?_
      exact ⟨_, rfl, rfl, hR, xw_F.rf⟩
    · refine xw_aload_n (pc := 9) C0 0 dX7_addStep_9 rfl rfl ?_
      refine xw_getR (pc := 10) (f := 0) C0 133 kcX7 dX7_addStep_10 (by decide +kernel) tv_212 (xj_132 hKL) xk_3 rfl ((rfl).trans (xe_132_0 hG)) ?_
      refine xw_aload_n (pc := 13) C0 0 dX7_addStep_13 rfl rfl ?_
      refine xw_getI (pc := 14) (f := 4) (z := μ 132 4) C0 kcX7 dX7_addStep_14 (by decide +kernel) tv_216 (xj_132 hKL) xk_3 rfl (rfl) (fun g3 k3 => ?_)
      refine xw_iload_n (pc := 17) C0 1 dX7_addStep_17 rfl rfl ?_
      refine xw_iast (pc := 18) C0 dX7_addStep_18 (xj_133 hKL) xk_4 (by omega) (by decide +kernel) (xw_rl (by omega)) (by omega) (by omega) ?_
      refine xw_aload_n (pc := 19) C0 0 dX7_addStep_19 rfl rfl ?_
      refine xw_getR (pc := 20) (f := 1) C0 134 kcX7 dX7_addStep_20 (by decide +kernel) tv_213 (xj_132 hKL) xk_3 rfl (((xw_un (fun q => absurd q.1 (by decide +kernel))).trans rfl).trans (xe_132_1 hG)) ?_
      refine xw_aload_n (pc := 23) C0 0 dX7_addStep_23 rfl rfl ?_
      refine xw_getI (pc := 24) (f := 4) (z := μ 132 4) C0 kcX7 dX7_addStep_24 (by decide +kernel) tv_216 (xj_132 hKL) xk_3 rfl ((xw_un (fun q => absurd q.1 (by decide +kernel))).trans rfl) (fun g4 k4 => ?_)
      refine xw_iload_n (pc := 27) C0 2 dX7_addStep_27 rfl rfl ?_
      refine xw_iast (pc := 28) C0 dX7_addStep_28 (xj_134 hKL) xk_15 (by omega) (by decide +kernel) (xw_rl (by omega)) (by omega) (by omega) ?_
      refine xw_aload_n (pc := 29) C0 0 dX7_addStep_29 rfl rfl ?_
      refine xw_getR (pc := 30) (f := 2) C0 135 kcX7 dX7_addStep_30 (by decide +kernel) tv_214 (xj_132 hKL) xk_3 rfl (((xw_un (fun q => absurd q.1 (by decide +kernel))).trans ((xw_un (fun q => absurd q.1 (by decide +kernel))).trans rfl)).trans (xe_132_2 hG)) ?_
      refine xw_aload_n (pc := 33) C0 0 dX7_addStep_33 rfl rfl ?_
      refine xw_getI (pc := 34) (f := 4) (z := μ 132 4) C0 kcX7 dX7_addStep_34 (by decide +kernel) tv_216 (xj_132 hKL) xk_3 rfl ((xw_un (fun q => absurd q.1 (by decide +kernel))).trans ((xw_un (fun q => absurd q.1 (by decide +kernel))).trans rfl)) (fun g5 k5 => ?_)
      refine xw_iload_n (pc := 37) C0 3 dX7_addStep_37 rfl rfl ?_
      refine xw_iast (pc := 38) C0 dX7_addStep_38 (xj_135 hKL) xk_5 (by omega) (by decide +kernel) (xw_rl (by omega)) (by omega) (by omega) ?_
      refine xw_aload_n (pc := 39) C0 0 dX7_addStep_39 rfl rfl ?_
      refine xw_dup (pc := 40) C0 dX7_addStep_40 rfl ?_
      refine xw_getI (pc := 41) (f := 4) (z := μ 132 4) C0 kcX7 dX7_addStep_41 (by decide +kernel) tv_216 (xj_132 hKL) xk_3 rfl ((xw_un (fun q => absurd q.1 (by decide +kernel))).trans ((xw_un (fun q => absurd q.1 (by decide +kernel))).trans ((xw_un (fun q => absurd q.1 (by decide +kernel))).trans rfl))) (fun g6 k6 => ?_)
      refine xw_iconst (pc := 44) C0 dX7_addStep_44 ?_
      refine xw_iadd (pc := 45) C0 dX7_addStep_45 ?_
      refine xw_putI (pc := 46) (f := 4) C0 kcX7 dX7_addStep_46 (by decide +kernel) tv_216 rfl rfl (xj_132 hKL) xk_3 rfl (by omega) (by omega) ?_
      refine xw_iconst (pc := 49) C0 dX7_addStep_49 ?_
      refine xw_iret C0 hA hr hlk rfl dX7_addStep_50 ?_
      have R9 : hd_R (xw_u (xw_u (xw_u (xw_u μ 133 (μ 132 4).toNat w9) 134 (μ 132 4).toNat g9) 135 (μ 132 4).toNat v9) 132 4 ((μ 132 4) + 1)) := hd_Ru hR h16 h1
      exact ⟨_, rfl, rfl, R9, (((((xw_F.rf (ML := [(132, 4, 4), (133, 0, 39), (134, 0, 39), (135, 0, 39)])).u (show (133, 0, 39) ∈ _ by decide) ⟨by omega, by omega⟩).u (show (134, 0, 39) ∈ _ by decide) ⟨by omega, by omega⟩).u (show (135, 0, 39) ∈ _ by decide) ⟨by omega, by omega⟩).u (show (132, 4, 4) ∈ _ by decide) ⟨by decide, by decide⟩)⟩)
set_option maxRecDepth 20000 in
set_option maxHeartbeats 20000000 in
theorem xs_num {l : Launch} {w9 g9 v9 : Int} {μ : xw_M} (hG : xw_G xw_GL μ) (hR : hd_R μ) (hw9 : -2147483648 ≤ w9 ∧ w9 ≤ 2147483647) (hg9 : -2147483648 ≤ g9 ∧ g9 ≤ 2147483647) (hv9 : -2147483648 ≤ v9 ∧ v9 ≤ 2147483647) (h16 : ¬ v9 = -1 → w9 = 16 → 0 ≤ v9 ∧ v9 ≤ 7) (h1 : ¬ v9 = -1 → w9 = 1 → 0 ≤ v9 ∧ v9 ≤ 5) : xw_MetI l vwCl sa_Ts tb_KT0 tc_KL yX8_addNumbered cX8_addNumbered 4 (some .boolean) 3 143 (fun ad => [.ref (ad 128), .int (Int32.ofInt w9), .int (Int32.ofInt g9), .int (Int32.ofInt v9)]) μ (fun r μ' => (v9 = -1 ∧ r = 0 ∧ μ = μ') ∨ (¬ v9 = -1 ∧ r = 1 ∧ hd_R μ' ∧ xw_F [(132, 4, 4), (133, 0, 39), (134, 0, 39), (135, 0, 39)] μ μ')) :=
  xw_of (by decide +kernel) (fun _ => Nat.le_of_ble_eq_true rfl) (fun p e s m args below meth c D dA A al w0 sz C0 hU hO hKL hr hlk hA => by
    refine xw_iload_n (pc := 0) C0 3 dX8_addNumbered_0 rfl rfl ?_
    refine xw_iconst (pc := 1) C0 dX8_addNumbered_1 ?_
    refine xw_icmp_eq (pc := 2) (tgt := 22) C0 (by omega) (by omega) dX8_addNumbered_2 rfl (fun b1 => ?_) (fun b1 => ?_)
    · refine xw_iconst (pc := 22) C0 dX8_addNumbered_22 ?_
      refine xw_iret C0 hA hr hlk rfl dX8_addNumbered_23 ?_
      exact ⟨_, rfl, Or.inl ⟨by omega, rfl, rfl⟩⟩
    · refine xw_aload_n (pc := 5) C0 0 dX8_addNumbered_5 rfl rfl ?_
      refine xw_getR (pc := 6) (f := 1) C0 132 kcX8 dX8_addNumbered_6 (by decide +kernel) tv_383 (xj_128 hKL) xk_68 rfl ((rfl).trans (xe_128_1 hG)) ?_
      refine xw_iload_n (pc := 9) C0 1 dX8_addNumbered_9 rfl rfl ?_
      refine xw_iload_n (pc := 10) C0 2 dX8_addNumbered_10 rfl rfl ?_
      refine xw_iload_n (pc := 11) C0 3 dX8_addNumbered_11 rfl rfl ?_
      refine xw_callVI (pc := 12) (μ := μ) (ci := 7) (rest := []) (As := [.int (Int32.ofInt w9), .int (Int32.ofInt g9), .int (Int32.ofInt v9)]) C0 hU hO sa_Tg hKL (xs_add (l := l) (w9 := w9) (g9 := g9) (v9 := v9) (μ := μ) hG hR hw9 hg9 hv9 (h16 (by omega)) (h1 (by omega))) tv_1051 dX8_addNumbered_12 tv_1048 tv_1049 tv_1050 tv_6 rfl yb_X7_addStep (by decide +kernel) rfl rfl rfl (by decide +kernel) (Nat.le_of_ble_eq_true rfl) (xj_132 hKL) xk_3 (fun r2 m2 w2 => ?_)
      obtain ⟨rfl, R2, F2⟩ := w2
      refine xw_if_eq (pc := 15) (tgt := 22) C0 (by omega) dX8_addNumbered_15 rfl (fun b3 => ?_) (fun b3 => ?_)
      · exfalso
        omega
      · refine xw_iconst (pc := 18) C0 dX8_addNumbered_18 ?_
        refine xw_goto (pc := 19) (tgt := 23) C0 dX8_addNumbered_19 rfl ?_
        refine xw_iret C0 hA hr hlk rfl dX8_addNumbered_23 ?_
        exact ⟨_, rfl, Or.inr ⟨by omega, rfl, R2, F2⟩⟩)
