set_option maxRecDepth 20000 in
set_option maxHeartbeats 20000000 in
theorem xh_takeFault {l : Launch} {t rd nm : Nat → Int} {n lim pz : Nat} {μ : xw_M} (hS : hc_S t n lim μ) (hT : hc_T t n lim pz μ) (hw : μ 104 8 = 0) (hH : hc_H rd nm μ) (hK : hp_ok rd nm) : xw_MetI l vwCl sa_Ts tb_KT0 tc_KL yX6_takeFault cX6_takeFault 3 (some .int) 5 187 (fun ad => [.ref (ad 104), .ref (ad 107)]) μ (fun r μ' => hc_V t n lim (hp_one t n lim nm 6 (rd 1).toNat pz) r μ' ∧ xw_F [(104, 2, 9)] μ μ') :=
  xw_of (by decide) (fun _ => Nat.le_of_ble_eq_true rfl) (fun p e s m args below meth c D dA A al w0 sz C0 hU hO hKL hr hlk hA => by
    have n_μ := hS.2.2.1
    have l_μ := hS.2.2.2.2.1
    have b_μ := hS.2.2.2.2.2
    obtain ⟨hp9, c2, c3, c4, c5, c6, c7, c8⟩ := id hT
    have hpl := hp_plb (t := t) (lim := lim) hp9
    have hkb := hp_kb t n lim pz
    have k1 := hK.2.1
    refine xw_aload_n (pc := 0) C0 0 dX6_takeFault_0 rfl rfl ?_
    refine xw_callVI (pc := 1) (μ := μ) (ci := 6) (rest := []) (As := []) C0 hU hO sa_Tg hKL (xh_isName (l := l) hS hT hw) tv_555 dX6_takeFault_1 tv_573 tv_553 tv_554 tv_9 rfl yb_X6_isName (by decide) rfl rfl rfl (by decide) (Nat.le_of_ble_eq_true rfl) (xj_104 hKL) xk_17 (fun r1 m1 w1 => ?_)
    rcases w1 with ⟨w1, rfl, rfl⟩ | ⟨w1, rfl, W1, F1⟩
    · refine xw_if_eq (pc := 4) (tgt := 18) C0 (by omega) dX6_takeFault_4 rfl (fun b2 => ?_) (fun b2 => ?_)
      · exfalso
        omega
      · refine xw_aload_n (pc := 7) C0 1 dX6_takeFault_7 rfl rfl ?_
        refine xw_aload_n (pc := 8) C0 0 dX6_takeFault_8 rfl rfl ?_
        refine xw_getL (pc := 9) (f := 5) (z := μ 104 5) C0 kcX6 dX6_takeFault_9 (by decide) tv_294 (xj_104 hKL) xk_17 rfl (rfl) (fun g3 k3 => ?_)
        have hv9 := hp_wb (t := t) (n := n) (lim := lim) (p := pz) (by omega)
        refine xw_nL (congrArg Int64.ofInt (c4 (by omega)).1) ?_
        refine xw_callVI (pc := 12) (μ := μ) (ci := 2) (rest := []) (As := [.long (Int64.ofInt (hp_cv (hp_w t n pz)))]) C0 hU hO sa_Tg hKL (xh_findFault (l := l) (rd := rd) (nm := nm) (v := hp_w t n pz) hS.1 hH hK hv9) tv_564 dX6_takeFault_12 tv_606 tv_562 tv_563 tv_4 rfl yb_X2_findFault (by decide) rfl rfl rfl (by decide) (Nat.le_of_ble_eq_true rfl) (xj_107 hKL) xk_28 (fun r4 m4 w4 => ?_)
        obtain ⟨rfl, w4⟩ := w4
        have u4 := hp_fb nm 6 (rd 1).toNat (hp_w t n pz)
        have z4 := hK.2.1
        refine xw_goto (pc := 15) (tgt := 19) C0 dX6_takeFault_15 rfl ?_
        refine xw_istore_n (pc := 19) (L' := [(2, .int (Int32.ofInt r4)), (0, .ref (xw_ad al 104)), (1, .ref (xw_ad al 107))]) C0 dX6_takeFault_19 rfl (by decide) rfl ?_
        refine xw_iload_n (pc := 20) C0 0 dX6_takeFault_20 rfl rfl ?_
        refine xw_iconst (pc := 21) C0 dX6_takeFault_21 ?_
        refine xw_icmp_ne (pc := 22) (tgt := 34) C0 (by omega) (by omega) dX6_takeFault_22 rfl (fun b5 => ?_) (fun b5 => ?_)
        · refine xw_aload_n (pc := 34) C0 1 dX6_takeFault_34 rfl rfl ?_
          refine xw_callVV (pc := 35) (μ := μ) (ci := 6) (rest := []) (As := []) C0 hU hO sa_Tg hKL (xh_step (l := l) (pz := hp_x t n pz) hS (c8 (by omega)) (hp_xb (lim := lim) hp9 (by omega))) tv_509 dX6_takeFault_35 tv_506 tv_507 tv_508 tv_9 rfl yb_X6_step (by decide) rfl rfl rfl (by decide) (Nat.le_of_ble_eq_true rfl) (xj_104 hKL) xk_17 (fun m6 w6 => ?_)
          obtain ⟨T6, F6⟩ := w6
          have hS_m6 := hc_SF hS F6 (by decide)
          have n_m6 := hS_m6.2.2.1
          have l_m6 := hS_m6.2.2.2.2.1
          have b_m6 := hS_m6.2.2.2.2.2
          have a6 := T6
          refine xw_iload_n (pc := 38) C0 0 dX6_takeFault_38 rfl rfl ?_
          refine xw_iret C0 hA hr hlk rfl dX6_takeFault_39 ?_
          have eo : hp_one t n lim nm 6 (rd 1).toNat pz = .inr (hp_f nm 6 (rd 1).toNat (hp_w t n pz), hp_x t n pz) := by
            unfold hp_one
            rw [if_pos (by omega), if_neg (by omega)]
          exact ⟨_, rfl, Or.inl ⟨_, _, eo, by omega, by omega, T6, (F6 104 8 rfl).trans hw⟩, ((xw_F.rf (ML := [(104, 2, 9)])).tr F6 (fun j i h => xw_o_sub (by decide) j i h))⟩
        · refine xw_aload_n (pc := 25) C0 1 dX6_takeFault_25 rfl rfl ?_
          refine xw_iconst (pc := 26) C0 dX6_takeFault_26 ?_
          refine xw_callVI (pc := 27) (μ := μ) (ci := 6) (rest := []) (As := [.int (Int32.ofInt 3)]) C0 hU hO sa_Tg hKL (xh_refuse (l := l) (v := 3) (by omega) (by omega)) tv_546 dX6_takeFault_27 tv_556 tv_544 tv_545 tv_9 rfl yb_X6_refuse (by decide) rfl rfl rfl (by decide) (Nat.le_of_ble_eq_true rfl) (xj_104 hKL) xk_17 (fun r7 m7 w7 => ?_)
          obtain ⟨rfl, w7⟩ := w7
          rcases w7.symm with ⟨w7, -⟩ | ⟨-, x7, y7, F7⟩
          · exfalso
            omega
          have hS_m7 := hc_SF hS F7 (by decide)
          have n_m7 := hS_m7.2.2.1
          have l_m7 := hS_m7.2.2.2.2.1
          have b_m7 := hS_m7.2.2.2.2.2
          refine xw_pop (pc := 30) C0 dX6_takeFault_30 rfl ?_
          refine xw_goto (pc := 31) (tgt := 38) C0 dX6_takeFault_31 rfl ?_
          refine xw_iload_n (pc := 38) C0 0 dX6_takeFault_38 rfl rfl ?_
          refine xw_iret C0 hA hr hlk rfl dX6_takeFault_39 ?_
          have eo : hp_one t n lim nm 6 (rd 1).toNat pz = .inl (hp_bad t n lim 3 pz) := by
            unfold hp_one
            rw [if_pos (by omega), if_pos (by omega)]
          exact ⟨_, rfl, Or.inr ⟨_, eo, by omega, hc_Wb ⟨by decide, by decide⟩ x7 (y7.trans c3)⟩, ((xw_F.rf (ML := [(104, 2, 9)])).tr F7 (fun j i h => xw_o_sub (by decide) j i h))⟩
    · have hS_m1 := hc_SF hS F1 (by decide)
      have n_m1 := hS_m1.2.2.1
      have l_m1 := hS_m1.2.2.2.2.1
      have b_m1 := hS_m1.2.2.2.2.2
      have q1 : m1 104 8 = 1 := W1.2.1
      have pl1 : m1 104 3 = μ 104 3 := F1 104 3 rfl
      refine xw_if_eq (pc := 4) (tgt := 18) C0 (by omega) dX6_takeFault_4 rfl (fun b8 => ?_) (fun b8 => ?_)
      · refine xw_iconst (pc := 18) C0 dX6_takeFault_18 ?_
        refine xw_istore_n (pc := 19) (L' := [(2, .int (Int32.ofInt (-1))), (0, .ref (xw_ad al 104)), (1, .ref (xw_ad al 107))]) C0 dX6_takeFault_19 rfl (by decide) rfl ?_
        refine xw_iload_n (pc := 20) C0 0 dX6_takeFault_20 rfl rfl ?_
        refine xw_iconst (pc := 21) C0 dX6_takeFault_21 ?_
        refine xw_icmp_ne (pc := 22) (tgt := 34) C0 (by omega) (by omega) dX6_takeFault_22 rfl (fun b10 => ?_) (fun b10 => ?_)
        · exfalso
          omega
        · refine xw_aload_n (pc := 25) C0 1 dX6_takeFault_25 rfl rfl ?_
          refine xw_iconst (pc := 26) C0 dX6_takeFault_26 ?_
          refine xw_callVI (pc := 27) (μ := m1) (ci := 6) (rest := []) (As := [.int (Int32.ofInt 3)]) C0 hU hO sa_Tg hKL (xh_refuse (l := l) (v := 3) (by omega) (by omega)) tv_546 dX6_takeFault_27 tv_556 tv_544 tv_545 tv_9 rfl yb_X6_refuse (by decide) rfl rfl rfl (by decide) (Nat.le_of_ble_eq_true rfl) (xj_104 hKL) xk_17 (fun r11 m11 w11 => ?_)
          obtain ⟨rfl, w11⟩ := w11
          rcases w11 with ⟨w11, -⟩ | ⟨-, rfl⟩
          · exfalso
            omega
          refine xw_pop (pc := 30) C0 dX6_takeFault_30 rfl ?_
          refine xw_goto (pc := 31) (tgt := 38) C0 dX6_takeFault_31 rfl ?_
          refine xw_iload_n (pc := 38) C0 0 dX6_takeFault_38 rfl rfl ?_
          refine xw_iret C0 hA hr hlk rfl dX6_takeFault_39 ?_
          have eo : hp_one t n lim nm 6 (rd 1).toNat pz = .inl (hp_bad t n lim 1 pz) := if_neg (by omega)
          exact ⟨_, rfl, Or.inr ⟨_, eo, rfl, W1⟩, ((xw_F.rf (ML := [(104, 2, 9)])).tr F1 (fun j i h => xw_o_sub (by decide) j i h))⟩
      · exfalso
        omega)
set_option maxRecDepth 20000 in
set_option maxHeartbeats 20000000 in
theorem xh_isNewName {l : Launch} {t rd nm : Nat → Int} {n lim pz : Nat} {μ : xw_M} (hS : hc_S t n lim μ) (hT : hc_T t n lim pz μ) (hw : μ 104 8 = 0) (hH : hc_H rd nm μ) (hK : hp_ok rd nm) : xw_MetI l vwCl sa_Ts tb_KT0 tc_KL yX3_isNewName cX3_isNewName 1 (some .boolean) 4 161 (fun ad => [.ref (ad 103)]) μ (fun r μ' => (hp_new t n lim rd nm pz = .inr (hp_w t n pz, hp_x t n pz) ∧ r = 1 ∧ μ = μ') ∨ (∃ e : hp_E, hp_new t n lim rd nm pz = .inl e ∧ r = 0 ∧ hc_W e μ' ∧ xw_F [(104, 8, 9)] μ μ')) :=
  xw_of (by decide) (fun _ => Nat.le_of_ble_eq_true rfl) (fun p e s m args below meth c D dA A al w0 sz C0 hU hO hKL hr hlk hA => by
    have n_μ := hS.2.2.1
    have l_μ := hS.2.2.2.2.1
    have b_μ := hS.2.2.2.2.2
    obtain ⟨hp9, c2, c3, c4, c5, c6, c7, c8⟩ := id hT
    have hpl := hp_plb (t := t) (lim := lim) hp9
    have hkb := hp_kb t n lim pz
    refine xw_aload_n (pc := 0) C0 0 dX3_isNewName_0 rfl rfl ?_
    refine xw_getR (pc := 1) (f := 0) C0 104 kcX3 dX3_isNewName_1 (by decide) tv_329 (xj_103 hKL) xk_67 rfl ((rfl).trans (xe_103_0 hS.1)) ?_
    refine xw_callVI (pc := 4) (μ := μ) (ci := 6) (rest := []) (As := []) C0 hU hO sa_Tg hKL (xh_isName (l := l) hS hT hw) tv_555 dX3_isNewName_4 tv_552 tv_553 tv_554 tv_9 rfl yb_X6_isName (by decide) rfl rfl rfl (by decide) (Nat.le_of_ble_eq_true rfl) (xj_104 hKL) xk_17 (fun r1 m1 w1 => ?_)
    rcases w1 with ⟨w1, rfl, rfl⟩ | ⟨w1, rfl, W1, F1⟩
    · refine xw_if_ne (pc := 7) (tgt := 12) C0 (by omega) dX3_isNewName_7 rfl (fun b2 => ?_) (fun b2 => ?_)
      · refine xw_aload_n (pc := 12) C0 0 dX3_isNewName_12 rfl rfl ?_
        refine xw_getR (pc := 13) (f := 1) C0 107 kcX3 dX3_isNewName_13 (by decide) tv_331 (xj_103 hKL) xk_67 rfl ((rfl).trans (xe_103_1 hS.1)) ?_
        refine xw_aload_n (pc := 16) C0 0 dX3_isNewName_16 rfl rfl ?_
        refine xw_getR (pc := 17) (f := 0) C0 104 kcX3 dX3_isNewName_17 (by decide) tv_329 (xj_103 hKL) xk_67 rfl ((rfl).trans (xe_103_0 hS.1)) ?_
        refine xw_getL (pc := 20) (f := 5) (z := μ 104 5) C0 kcX6 dX3_isNewName_20 (by decide) tv_295 (xj_104 hKL) xk_17 rfl (rfl) (fun g3 k3 => ?_)
        have hv9 := hp_wb (t := t) (n := n) (lim := lim) (p := pz) (by omega)
        refine xw_nL (congrArg Int64.ofInt (c4 (by omega)).1) ?_
        refine xw_callVI (pc := 23) (μ := μ) (ci := 2) (rest := []) (As := [.long (Int64.ofInt (hp_cv (hp_w t n pz)))]) C0 hU hO sa_Tg hKL (xh_findThing (l := l) (rd := rd) (nm := nm) (v := hp_w t n pz) hS.1 hH hK hv9) tv_560 dX3_isNewName_23 tv_557 tv_558 tv_559 tv_4 rfl yb_X2_findThing (by decide) rfl rfl rfl (by decide) (Nat.le_of_ble_eq_true rfl) (xj_107 hKL) xk_28 (fun r4 m4 w4 => ?_)
        obtain ⟨rfl, w4⟩ := w4
        have u4 := hp_fb nm 0 (rd 0).toNat (hp_w t n pz)
        have z4 := hK.1
        refine xw_iconst (pc := 26) C0 dX3_isNewName_26 ?_
        refine xw_icmp_ne (pc := 27) (tgt := 48) C0 (by omega) (by omega) dX3_isNewName_27 rfl (fun b5 => ?_) (fun b5 => ?_)
        · refine xw_aload_n (pc := 48) C0 0 dX3_isNewName_48 rfl rfl ?_
          refine xw_getR (pc := 49) (f := 0) C0 104 kcX3 dX3_isNewName_49 (by decide) tv_329 (xj_103 hKL) xk_67 rfl ((rfl).trans (xe_103_0 hS.1)) ?_
          refine xw_iconst (pc := 52) C0 dX3_isNewName_52 ?_
          refine xw_callVI (pc := 53) (μ := μ) (ci := 6) (rest := []) (As := [.int (Int32.ofInt 3)]) C0 hU hO sa_Tg hKL (xh_refuse (l := l) (v := 3) (by omega) (by omega)) tv_546 dX3_isNewName_53 tv_543 tv_544 tv_545 tv_9 rfl yb_X6_refuse (by decide) rfl rfl rfl (by decide) (Nat.le_of_ble_eq_true rfl) (xj_104 hKL) xk_17 (fun r6 m6 w6 => ?_)
          obtain ⟨rfl, w6⟩ := w6
          rcases w6.symm with ⟨w6, -⟩ | ⟨-, x6, y6, F6⟩
          · exfalso
            omega
          have hS_m6 := hc_SF hS F6 (by decide)
          have n_m6 := hS_m6.2.2.1
          have l_m6 := hS_m6.2.2.2.2.1
          have b_m6 := hS_m6.2.2.2.2.2
          refine xw_iret C0 hA hr hlk rfl dX3_isNewName_56 ?_
          have eo : hp_new t n lim rd nm pz = .inl (hp_bad t n lim 3 pz) := by
            unfold hp_new
            rw [if_pos (by omega), if_neg (by omega)]
          exact ⟨_, rfl, Or.inr ⟨_, eo, rfl, hc_Wb ⟨by decide, by decide⟩ x6 (y6.trans c3), ((xw_F.rf (ML := [(104, 8, 9)])).tr F6 (fun j i h => xw_o_sub (by decide) j i h))⟩⟩
        · refine xw_aload_n (pc := 30) C0 0 dX3_isNewName_30 rfl rfl ?_
          refine xw_getR (pc := 31) (f := 1) C0 107 kcX3 dX3_isNewName_31 (by decide) tv_331 (xj_103 hKL) xk_67 rfl ((rfl).trans (xe_103_1 hS.1)) ?_
          refine xw_aload_n (pc := 34) C0 0 dX3_isNewName_34 rfl rfl ?_
          refine xw_getR (pc := 35) (f := 0) C0 104 kcX3 dX3_isNewName_35 (by decide) tv_329 (xj_103 hKL) xk_67 rfl ((rfl).trans (xe_103_0 hS.1)) ?_
          refine xw_getL (pc := 38) (f := 5) (z := μ 104 5) C0 kcX6 dX3_isNewName_38 (by decide) tv_295 (xj_104 hKL) xk_17 rfl (rfl) (fun g7 k7 => ?_)
          refine xw_nL (congrArg Int64.ofInt (c4 (by omega)).1) ?_
          refine xw_callVI (pc := 41) (μ := μ) (ci := 2) (rest := []) (As := [.long (Int64.ofInt (hp_cv (hp_w t n pz)))]) C0 hU hO sa_Tg hKL (xh_findFault (l := l) (rd := rd) (nm := nm) (v := hp_w t n pz) hS.1 hH hK hv9) tv_564 dX3_isNewName_41 tv_561 tv_562 tv_563 tv_4 rfl yb_X2_findFault (by decide) rfl rfl rfl (by decide) (Nat.le_of_ble_eq_true rfl) (xj_107 hKL) xk_28 (fun r8 m8 w8 => ?_)
          obtain ⟨rfl, w8⟩ := w8
          have u8 := hp_fb nm 6 (rd 1).toNat (hp_w t n pz)
          have z8 := hK.2.1
          refine xw_iconst (pc := 44) C0 dX3_isNewName_44 ?_
          refine xw_icmp_eq (pc := 45) (tgt := 57) C0 (by omega) (by omega) dX3_isNewName_45 rfl (fun b10 => ?_) (fun b10 => ?_)
          · refine xw_iconst (pc := 57) C0 dX3_isNewName_57 ?_
            refine xw_iret C0 hA hr hlk rfl dX3_isNewName_58 ?_
            have eo : hp_new t n lim rd nm pz = .inr (hp_w t n pz, hp_x t n pz) := by
              unfold hp_new
              rw [if_pos (by omega), if_pos ⟨by omega, by omega⟩]
            exact ⟨_, rfl, Or.inl ⟨eo, rfl, rfl⟩⟩
          · refine xw_aload_n (pc := 48) C0 0 dX3_isNewName_48 rfl rfl ?_
            refine xw_getR (pc := 49) (f := 0) C0 104 kcX3 dX3_isNewName_49 (by decide) tv_329 (xj_103 hKL) xk_67 rfl ((rfl).trans (xe_103_0 hS.1)) ?_
            refine xw_iconst (pc := 52) C0 dX3_isNewName_52 ?_
            refine xw_callVI (pc := 53) (μ := μ) (ci := 6) (rest := []) (As := [.int (Int32.ofInt 3)]) C0 hU hO sa_Tg hKL (xh_refuse (l := l) (v := 3) (by omega) (by omega)) tv_546 dX3_isNewName_53 tv_543 tv_544 tv_545 tv_9 rfl yb_X6_refuse (by decide) rfl rfl rfl (by decide) (Nat.le_of_ble_eq_true rfl) (xj_104 hKL) xk_17 (fun r11 m11 w11 => ?_)
            obtain ⟨rfl, w11⟩ := w11
            rcases w11.symm with ⟨w11, -⟩ | ⟨-, x11, y11, F11⟩
            · exfalso
              omega
            have hS_m11 := hc_SF hS F11 (by decide)
            have n_m11 := hS_m11.2.2.1
            have l_m11 := hS_m11.2.2.2.2.1
            have b_m11 := hS_m11.2.2.2.2.2
            refine xw_iret C0 hA hr hlk rfl dX3_isNewName_56 ?_
            have eo : hp_new t n lim rd nm pz = .inl (hp_bad t n lim 3 pz) := by
              unfold hp_new
              rw [if_pos (by omega), if_neg (by omega)]
            exact ⟨_, rfl, Or.inr ⟨_, eo, rfl, hc_Wb ⟨by decide, by decide⟩ x11 (y11.trans c3), ((xw_F.rf (ML := [(104, 8, 9)])).tr F11 (fun j i h => xw_o_sub (by decide) j i h))⟩⟩
      · exfalso
        omega
    · have hS_m1 := hc_SF hS F1 (by decide)
      have n_m1 := hS_m1.2.2.1
      have l_m1 := hS_m1.2.2.2.2.1
      have b_m1 := hS_m1.2.2.2.2.2
      have q1 : m1 104 8 = 1 := W1.2.1
      have pl1 : m1 104 3 = μ 104 3 := F1 104 3 rfl
      refine xw_if_ne (pc := 7) (tgt := 12) C0 (by omega) dX3_isNewName_7 rfl (fun b12 => ?_) (fun b12 => ?_)
      · exfalso
        omega
      · refine xw_iconst (pc := 10) C0 dX3_isNewName_10 ?_
        refine xw_iret C0 hA hr hlk rfl dX3_isNewName_11 ?_
        have eo : hp_new t n lim rd nm pz = .inl (hp_bad t n lim 1 pz) := if_neg (by omega)
        exact ⟨_, rfl, Or.inr ⟨_, eo, rfl, W1, ((xw_F.rf (ML := [(104, 8, 9)])).tr F1 (fun j i h => xw_o_sub (by decide) j i h))⟩⟩)
set_option maxRecDepth 20000 in
set_option maxHeartbeats 20000000 in
theorem xh_cureOf {l : Launch} {rd nm : Nat → Int} {μ : xw_M} {f9 d : Int} (hG : xw_G xw_GL μ) (hH : hc_H rd nm μ) (hf : 0 ≤ f9 ∧ f9 ≤ 7) (hd9 : 0 ≤ d ∧ d ≤ 2) : xw_MetI l vwCl sa_Ts tb_KT0 tc_KL yX2_cureOf cX2_cureOf 3 (some .int) 2 120 (fun ad => [.ref (ad 107), .int (Int32.ofInt f9), .int (Int32.ofInt d)]) μ (fun r μ' => μ = μ' ∧ r = rd (53 + 3 * f9 + d).toNat) :=
  xw_of (by decide) (fun _ => Nat.le_of_ble_eq_true rfl) (fun p e s m args below meth c D dA A al w0 sz C0 hU hO hKL hr hlk hA => by
    refine xw_aload_n (pc := 0) C0 0 dX2_cureOf_0 rfl rfl ?_
    refine xw_getR (pc := 1) (f := 12) C0 120 kcX2 dX2_cureOf_1 (by decide) tv_95 (xj_107 hKL) xk_28 rfl ((rfl).trans (xe_107_12 hG)) ?_
    refine xw_iload_n (pc := 4) C0 1 dX2_cureOf_4 rfl rfl ?_
    refine xw_iconst (pc := 5) C0 dX2_cureOf_5 ?_
    refine xw_imul (pc := 6) C0 dX2_cureOf_6 ?_
    refine xw_iload_n (pc := 7) C0 2 dX2_cureOf_7 rfl rfl ?_
    refine xw_iadd (pc := 8) C0 dX2_cureOf_8 ?_
    obtain ⟨J, hJ, hJ2⟩ : ∃ J : Nat, f9 * 3 + d = (J : Int) ∧ J < 24 := ⟨(f9 * 3 + d).toNat, by omega, by omega⟩
    rw [hJ]
    have a9 : μ 120 ((J : Int)).toNat = rd (53 + J) := hH.2.2.2 J hJ2
    refine xw_iald (pc := 9) (z := rd (53 + J)) C0 dX2_cureOf_9 (xj_120 hKL) xk_41 (by omega) (by decide) (xw_rl (by omega)) a9 (fun g1 k1 => ?_)
    have e9 : (53 + 3 * f9 + d).toNat = 53 + J := by omega
    refine xw_iret C0 hA hr hlk rfl dX2_cureOf_10 ?_
    exact ⟨_, rfl, rfl, by rw [e9]⟩)
set_option maxRecDepth 20000 in
set_option maxHeartbeats 20000000 in
theorem xh_deedHere {l : Launch} {t : Nat → Int} {n lim pz : Nat} {μ : xw_M} (hS : hc_S t n lim μ) (hT : hc_T t n lim pz μ) : xw_MetI l vwCl sa_Ts tb_KT0 tc_KL yX3_deedHere cX3_deedHere 1 (some .int) 2 120 (fun ad => [.ref (ad 103)]) μ (fun r μ' => μ = μ' ∧ r = hp_dd t n lim pz) :=
  xw_of (by decide) (fun _ => Nat.le_of_ble_eq_true rfl) (fun p e s m args below meth c D dA A al w0 sz C0 hU hO hKL hr hlk hA => by
    have n_μ := hS.2.2.1
    have l_μ := hS.2.2.2.2.1
    have b_μ := hS.2.2.2.2.2
    obtain ⟨hp9, c2, c3, c4, c5, c6, c7, c8⟩ := id hT
    have hpl := hp_plb (t := t) (lim := lim) hp9
    have hkb := hp_kb t n lim pz
    have hkw := hp_kwb (hp_w t n pz)
    refine xw_aload_n (pc := 0) C0 0 dX3_deedHere_0 rfl rfl ?_
    refine xw_getR (pc := 1) (f := 0) C0 104 kcX3 dX3_deedHere_1 (by decide) tv_329 (xj_103 hKL) xk_67 rfl ((rfl).trans (xe_103_0 hS.1)) ?_
    refine xw_getI (pc := 4) (f := 6) (z := μ 104 6) C0 kcX6 dX3_deedHere_4 (by decide) tv_296 (xj_104 hKL) xk_17 rfl (rfl) (fun g1 k1 => ?_)
    rcases (show μ 104 6 = 4 ∨ μ 104 6 = 5 ∨ μ 104 6 = 6 ∨ (μ 104 6 < 4 ∨ 6 < μ 104 6) by omega) with sw | sw | sw | sw
    · refine xw_tabI (pc := 7) (tgt := 32) (off := 25) C0 (by omega) dX3_deedHere_7 (by omega) (by omega) (by rw [sw]; rfl) rfl ?_
      refine xw_iconst (pc := 32) C0 dX3_deedHere_32 ?_
      refine xw_iret C0 hA hr hlk rfl dX3_deedHere_33 ?_
      exact ⟨_, rfl, rfl, ((if_pos (by omega)).trans (by omega)).symm⟩
    · refine xw_tabI (pc := 7) (tgt := 34) (off := 27) C0 (by omega) dX3_deedHere_7 (by omega) (by omega) (by rw [sw]; rfl) rfl ?_
      refine xw_iconst (pc := 34) C0 dX3_deedHere_34 ?_
      refine xw_iret C0 hA hr hlk rfl dX3_deedHere_35 ?_
      exact ⟨_, rfl, rfl, ((if_pos (by omega)).trans (by omega)).symm⟩
    · refine xw_tabI (pc := 7) (tgt := 36) (off := 29) C0 (by omega) dX3_deedHere_7 (by omega) (by omega) (by rw [sw]; rfl) rfl ?_
      refine xw_iconst (pc := 36) C0 dX3_deedHere_36 ?_
      refine xw_iret C0 hA hr hlk rfl dX3_deedHere_37 ?_
      exact ⟨_, rfl, rfl, ((if_pos (by omega)).trans (by omega)).symm⟩
    · refine xw_tabO (pc := 7) (tgt := 38) C0 (by omega) dX3_deedHere_7 (by omega) rfl ?_
      refine xw_iconst (pc := 38) C0 dX3_deedHere_38 ?_
      refine xw_iret C0 hA hr hlk rfl dX3_deedHere_39 ?_
      exact ⟨_, rfl, rfl, (if_neg (by omega)).symm⟩)
set_option maxRecDepth 20000 in
set_option maxHeartbeats 20000000 in
theorem xh_clL {l : Launch} {p : Program} {e : Env} {s : State} {m : MethodId} {args : Array Value} {below : List Frame} {meth : Method} {c : Code} {Q : State → Prop} {D : va_G} {dA : Nat → ClassId} {A : Nat → Prop} {al : List (Nat × Nat)} (C0 : sa_C p s m args c D dA A 2 vwCl sa_Ts cX2_clear yX2_clear.cls) (hU : sa_U D vwCl dA s) (hO : tb_Ou A s s.heap) (hKL : al.map Prod.snd = tc_KL) {μ : xw_M} (kx : ∀ ν : xw_M, (∀ i : Nat, i < 24 → ν 120 i = 0) → xw_F [(120, 0, 23)] μ ν → xw_W p l e { frames := 2, cells := 0, slots := 0, locals := 120 } s m args below meth c Q D dA A 2 vwCl tb_KT0 al 0 0 ν 39 [(0, .ref (xw_ad al 107))] []) : ∀ (fu9 : Nat) (k : Nat) (ν : xw_M), 24 - (k : Int) < (fu9 : Int) → k ≤ 24 → (∀ i : Nat, i < k → ν 120 i = 0) → xw_F [(120, 0, 23)] μ ν → xw_G xw_GL ν → xw_W p l e { frames := 2, cells := 0, slots := 0, locals := 120 } s m args below meth c Q D dA A 2 vwCl tb_KT0 al 0 0 ν 17 [(1, .int (Int32.ofInt (k : Int))), (0, .ref (xw_ad al 107))] [] := by
  intro fu9
  induction fu9 with
  | zero => intro k ν hm hk hz hF hG_ν; exfalso; omega
  | succ fu9 ih =>
    intro k ν hm hk hz hF hG_ν
    refine xw_iload_n (pc := 17) C0 0 dX2_clear_17 rfl rfl ?_
    refine xw_aload_n (pc := 18) C0 1 dX2_clear_18 rfl rfl ?_
    refine xw_getR (pc := 19) (f := 12) C0 120 kcX2 dX2_clear_19 (by decide) tv_95 (xj_107 hKL) xk_28 rfl ((rfl).trans (xe_107_12 hG_ν)) ?_
    refine xw_alen (pc := 22) C0 dX2_clear_22 (xj_120 hKL) xk_41 (by decide) ?_
    refine xw_icmp_ge (pc := 23) (tgt := 39) C0 (by omega) (by omega) dX2_clear_23 rfl (fun b1 => ?_) (fun b1 => ?_)
    · have e9 : k = 24 := by omega
      subst e9
      refine xw_pk [1] (L' := [(0, .ref (xw_ad al 107))]) rfl ?_
      exact kx ν hz hF
    · refine xw_aload_n (pc := 26) C0 1 dX2_clear_26 rfl rfl ?_
      refine xw_getR (pc := 27) (f := 12) C0 120 kcX2 dX2_clear_27 (by decide) tv_95 (xj_107 hKL) xk_28 rfl ((rfl).trans (xe_107_12 hG_ν)) ?_
      refine xw_iload_n (pc := 30) C0 0 dX2_clear_30 rfl rfl ?_
      refine xw_iconst (pc := 31) C0 dX2_clear_31 ?_
      refine xw_iast (pc := 32) C0 dX2_clear_32 (xj_120 hKL) xk_41 (by omega) (by decide) (xw_rl (by omega)) (by omega) (by omega) ?_
      refine xw_iinc (pc := 33) (L' := [(1, .int (Int32.ofInt ((k : Int) + 1))), (0, .ref (xw_ad al 107))]) C0 0 dX2_clear_33 rfl (by decide) rfl ?_
      refine xw_goto (pc := 36) (tgt := 17) C0 dX2_clear_36 rfl ?_
      have hz9 : ∀ i : Nat, i < k + 1 → (xw_u ν 120 ((k : Int)).toNat 0) 120 i = 0 := fun i hi => by
        by_cases e9 : i = k
        · subst e9; exact xw_ug
        · exact (xw_un (fun q => e9 q.2)).trans (hz i (by omega))
      have Fz9 : xw_F [(120, 0, 23)] ν (xw_u ν 120 ((k : Int)).toNat 0) := ((xw_F.rf (ML := [(120, 0, 23)])).u (show (120, 0, 23) ∈ _ by decide) ⟨by omega, by omega⟩)
      generalize (xw_u ν 120 ((k : Int)).toNat 0) = z9 at Fz9 hz9 ⊢
      have e1 : (k : Int) + 1 = ((k + 1 : Nat) : Int) := by omega
      rw [e1]
      refine xw_pk [0, 1] (L' := [(1, .int (Int32.ofInt ((k + 1 : Nat) : Int))), (0, .ref (xw_ad al 107))]) rfl ?_
      exact ih (k + 1) z9 (by omega) (by omega) hz9 (hF.tr Fz9 (fun j i h => h)) (xw_GF hG_ν Fz9 (by decide))
set_option maxRecDepth 20000 in
set_option maxHeartbeats 20000000 in
theorem xh_clear {l : Launch} {μ : xw_M} (hG : xw_G xw_GL μ) : xw_MetV l vwCl sa_Ts tb_KT0 tc_KL yX2_clear cX2_clear 2 none 2 120 (fun ad => [.ref (ad 107)]) μ (fun μ' => hc_H (fun _ => 0) (fun _ => 0) μ' ∧ xw_F [(107, 13, 15), (120, 0, 23)] μ μ') :=
  xw_of (by decide) (fun _ => Nat.le_of_ble_eq_true rfl) (fun p e s m args below meth c D dA A al w0 sz C0 hU hO hKL hr hlk hA => by
    refine xw_aload_n (pc := 0) C0 0 dX2_clear_0 rfl rfl ?_
    refine xw_iconst (pc := 1) C0 dX2_clear_1 ?_
    refine xw_putI (pc := 2) (f := 13) C0 kcX2 dX2_clear_2 (by decide) tv_96 rfl rfl (xj_107 hKL) xk_28 rfl (by omega) (by omega) ?_
    refine xw_aload_n (pc := 5) C0 0 dX2_clear_5 rfl rfl ?_
    refine xw_iconst (pc := 6) C0 dX2_clear_6 ?_
    refine xw_putI (pc := 7) (f := 14) C0 kcX2 dX2_clear_7 (by decide) tv_101 rfl rfl (xj_107 hKL) xk_28 rfl (by omega) (by omega) ?_
    refine xw_aload_n (pc := 10) C0 0 dX2_clear_10 rfl rfl ?_
    refine xw_iconst (pc := 11) C0 dX2_clear_11 ?_
    refine xw_putI (pc := 12) (f := 15) C0 kcX2 dX2_clear_12 (by decide) tv_105 rfl rfl (xj_107 hKL) xk_28 rfl (by omega) (by omega) ?_
    refine xw_iconst (pc := 15) C0 dX2_clear_15 ?_
    refine xw_istore_n (pc := 16) (L' := [(1, .int (Int32.ofInt 0)), (0, .ref (xw_ad al 107))]) C0 dX2_clear_16 rfl (by decide) rfl ?_
    have Fz1 : xw_F [(107, 13, 15)] μ (xw_u (xw_u (xw_u μ 107 13 0) 107 14 0) 107 15 0) := ((((xw_F.rf (ML := [(107, 13, 15)])).u (show (107, 13, 15) ∈ _ by decide) ⟨by decide, by decide⟩).u (show (107, 13, 15) ∈ _ by decide) ⟨by decide, by decide⟩).u (show (107, 13, 15) ∈ _ by decide) ⟨by decide, by decide⟩)
    have vz1_107_13 : (xw_u (xw_u (xw_u μ 107 13 0) 107 14 0) 107 15 0) 107 13 = 0 := (xw_un (by decide)).trans ((xw_un (by decide)).trans xw_ug)
    have vz1_107_14 : (xw_u (xw_u (xw_u μ 107 13 0) 107 14 0) 107 15 0) 107 14 = 0 := (xw_un (by decide)).trans xw_ug
    have vz1_107_15 : (xw_u (xw_u (xw_u μ 107 13 0) 107 14 0) 107 15 0) 107 15 = 0 := xw_ug
    generalize (xw_u (xw_u (xw_u μ 107 13 0) 107 14 0) 107 15 0) = z1 at Fz1 vz1_107_13 vz1_107_14 vz1_107_15 ⊢
    refine xw_pk [0, 1] (L' := [(1, .int (Int32.ofInt ((0 : Nat) : Int))), (0, .ref (xw_ad al 107))]) rfl ?_
    refine xh_clL (μ := z1) C0 hU hO hKL (fun ν hz hF => ?_) 25 0 z1 (by omega) (by omega) (fun i hi => absurd hi (Nat.not_lt_zero i)) xw_F.rf (xw_GF hG Fz1 (by decide))
    refine xw_vret C0 hA hr hlk dX2_clear_39 ?_
    exact ⟨rfl, ⟨⟨(hF 107 13 rfl).trans vz1_107_13, (hF 107 14 rfl).trans vz1_107_14, (hF 107 15 rfl).trans vz1_107_15⟩, fun k _ (h : (k : Int) < 0) => absurd h (by omega), fun k _ (h : (k : Int) < 0) => absurd h (by omega), hz⟩, ((Fz1.mono (fun j i h => xw_o_sub (by decide) j i h)).tr hF (fun j i h => xw_o_sub (by decide) j i h))⟩)
set_option maxRecDepth 20000 in
set_option maxHeartbeats 20000000 in
theorem xh_start {l : Launch} {t : Nat → Int} {n lim : Nat} {μ : xw_M} (hG : xw_G xw_GL μ) (ht : ∀ i : Nat, μ 2 i % 256 = t i) (hn : μ 1 1 = (n : Int)) (hn9 : n ≤ 940) (hl9 : lim ≤ 900) : xw_MetV l vwCl sa_Ts tb_KT0 tc_KL yX6_start cX6_start 3 none 5 187 (fun ad => [.ref (ad 104), .ref (ad 1), .int (Int32.ofInt (lim : Int))]) μ (fun μ' => hc_S t n lim μ' ∧ hc_T t n lim 0 μ' ∧ μ' 104 8 = 0 ∧ xw_F [(104, 0, 9)] μ μ') :=
  xw_of (by decide) (fun _ => Nat.le_of_ble_eq_true rfl) (fun p e s m args below meth c D dA A al w0 sz C0 hU hO hKL hr hlk hA => by
    refine xw_aload_n (pc := 0) C0 0 dX6_start_0 rfl rfl ?_
    refine xw_aload_n (pc := 1) C0 1 dX6_start_1 rfl rfl ?_
    refine xw_putR (pc := 2) (f := 0) C0 kcX6 dX6_start_2 (by decide) tv_285 rfl rfl (xj_104 hKL) xk_17 rfl (xj_1 hKL) (by decide) ?_
    refine xw_aload_n (pc := 5) C0 0 dX6_start_5 rfl rfl ?_
    refine xw_iload_n (pc := 6) C0 2 dX6_start_6 rfl rfl ?_
    refine xw_putI (pc := 7) (f := 1) C0 kcX6 dX6_start_7 (by decide) tv_286 rfl rfl (xj_104 hKL) xk_17 rfl (by omega) (by omega) ?_
    refine xw_aload_n (pc := 10) C0 0 dX6_start_10 rfl rfl ?_
    refine xw_iconst (pc := 11) C0 dX6_start_11 ?_
    refine xw_putI (pc := 12) (f := 4) C0 kcX6 dX6_start_12 (by decide) tv_292 rfl rfl (xj_104 hKL) xk_17 rfl (by omega) (by omega) ?_
    refine xw_aload_n (pc := 15) C0 0 dX6_start_15 rfl rfl ?_
    refine xw_iconst (pc := 16) C0 dX6_start_16 ?_
    refine xw_putI (pc := 17) (f := 8) C0 kcX6 dX6_start_17 (by decide) tv_302 rfl rfl (xj_104 hKL) xk_17 rfl (by omega) (by omega) ?_
    refine xw_aload_n (pc := 20) C0 0 dX6_start_20 rfl rfl ?_
    refine xw_iconst (pc := 21) C0 dX6_start_21 ?_
    refine xw_putI (pc := 22) (f := 9) C0 kcX6 dX6_start_22 (by decide) tv_304 rfl rfl (xj_104 hKL) xk_17 rfl (by omega) (by omega) ?_
    refine xw_aload_n (pc := 25) C0 0 dX6_start_25 rfl rfl ?_
    have Ft1 : xw_F [(104, 0, 0), (104, 1, 1), (104, 4, 4), (104, 8, 8), (104, 9, 9)] μ (xw_u (xw_u (xw_u (xw_u (xw_u μ 104 0 ((1 : Nat) : Int)) 104 1 (lim : Int)) 104 4 0) 104 8 0) 104 9 0) := ((((((xw_F.rf (ML := [(104, 0, 0), (104, 1, 1), (104, 4, 4), (104, 8, 8), (104, 9, 9)])).u (show (104, 0, 0) ∈ _ by decide) ⟨by decide, by decide⟩).u (show (104, 1, 1) ∈ _ by decide) ⟨by decide, by decide⟩).u (show (104, 4, 4) ∈ _ by decide) ⟨by decide, by decide⟩).u (show (104, 8, 8) ∈ _ by decide) ⟨by decide, by decide⟩).u (show (104, 9, 9) ∈ _ by decide) ⟨by decide, by decide⟩)
    have vt1_104_9 : (xw_u (xw_u (xw_u (xw_u (xw_u μ 104 0 ((1 : Nat) : Int)) 104 1 (lim : Int)) 104 4 0) 104 8 0) 104 9 0) 104 9 = 0 := xw_ug
    have vt1_104_8 : (xw_u (xw_u (xw_u (xw_u (xw_u μ 104 0 ((1 : Nat) : Int)) 104 1 (lim : Int)) 104 4 0) 104 8 0) 104 9 0) 104 8 = 0 := (xw_un (by decide)).trans xw_ug
    have vt1_104_4 : (xw_u (xw_u (xw_u (xw_u (xw_u μ 104 0 ((1 : Nat) : Int)) 104 1 (lim : Int)) 104 4 0) 104 8 0) 104 9 0) 104 4 = 0 := (xw_un (by decide)).trans ((xw_un (by decide)).trans xw_ug)
    have vt1_104_1 : (xw_u (xw_u (xw_u (xw_u (xw_u μ 104 0 ((1 : Nat) : Int)) 104 1 (lim : Int)) 104 4 0) 104 8 0) 104 9 0) 104 1 = (lim : Int) := (xw_un (by decide)).trans ((xw_un (by decide)).trans ((xw_un (by decide)).trans xw_ug))
    have vt1_104_0 : (xw_u (xw_u (xw_u (xw_u (xw_u μ 104 0 ((1 : Nat) : Int)) 104 1 (lim : Int)) 104 4 0) 104 8 0) 104 9 0) 104 0 = ((1 : Nat) : Int) := (xw_un (by decide)).trans ((xw_un (by decide)).trans ((xw_un (by decide)).trans ((xw_un (by decide)).trans xw_ug)))
    generalize (xw_u (xw_u (xw_u (xw_u (xw_u μ 104 0 ((1 : Nat) : Int)) 104 1 (lim : Int)) 104 4 0) 104 8 0) 104 9 0) = t1 at Ft1 vt1_104_9 vt1_104_8 vt1_104_4 vt1_104_1 vt1_104_0 ⊢
    have hS_t1 : hc_S t n lim t1 := ⟨xw_GF hG Ft1 (by decide), fun i => by rw [Ft1 2 i (xw_oj (by decide) i)]; exact ht i, (Ft1 1 1 rfl).trans hn, vt1_104_0, vt1_104_1, hn9, hl9⟩
    refine xw_callVV (pc := 26) (μ := t1) (ci := 6) (rest := []) (As := []) C0 hU hO sa_Tg hKL (xh_step (l := l) (pz := 0) hS_t1 vt1_104_4 (Nat.zero_le _)) tv_509 dX6_start_26 tv_506 tv_507 tv_508 tv_9 rfl yb_X6_step (by decide) rfl rfl rfl (by decide) (Nat.le_of_ble_eq_true rfl) (xj_104 hKL) xk_17 (fun m1 w1 => ?_)
    obtain ⟨T1, F1⟩ := w1
    refine xw_vret C0 hA hr hlk dX6_start_29 ?_
    exact ⟨rfl, hc_SF hS_t1 F1 (by decide), T1, (F1 104 8 rfl).trans vt1_104_8, (((xw_F.rf (ML := [(104, 0, 9)])).tr Ft1 (fun j i h => xw_o_sub (by decide) j i h)).tr F1 (fun j i h => xw_o_sub (by decide) j i h))⟩)
theorem hc_HT {rd nm : Nat → Int} {v b w h : Int} {T pz : Nat} {μ μ' : xw_M} (hH : hc_H rd nm μ) (hT : rd 0 = (T : Int)) (h6 : T < 6) (e13 : μ' 107 13 = (T : Int) + 1) (e14 : μ' 107 14 = μ 107 14) (e15 : μ' 107 15 = μ 107 15) (a0 : ∀ i : Nat, μ' 108 i = if i = T then hp_cv v else μ 108 i) (a1 : ∀ i : Nat, μ' 109 i = if i = T then b else μ 109 i) (a2 : ∀ i : Nat, μ' 110 i = if i = T then w else μ 110 i) (a3 : ∀ i : Nat, μ' 111 i = if i = T then h else μ 111 i) (f : ∀ j i : Nat, 115 ≤ j → j ≤ 120 → μ' j i = μ j i) : hc_H (hp_T rd nm v b w h pz).2.1 (hp_T rd nm v b w h pz).2.2 μ' := by
  obtain ⟨⟨b1, b2, b3⟩, b4, b5, b6⟩ := hH
  unfold hp_T hc_H
  simp only [hT, Int.toNat_natCast]
  refine ⟨⟨?_, ?_, ?_⟩, fun k hk hl => ?_, fun k hk hl => ?_, fun k hk => ?_⟩
  · rw [hp_upg]; exact e13
  · rw [hp_upn (by omega), hp_upn (by omega), hp_upn (by omega), hp_upn (by omega), e14]; exact b2
  · rw [hp_upn (by omega), hp_upn (by omega), hp_upn (by omega), hp_upn (by omega), e15]; exact b3
  · rw [hp_upg] at hl
    rw [a0, a1, a2, a3]
    by_cases e : k = T
    · subst e
      rw [if_pos rfl, if_pos rfl, if_pos rfl, if_pos rfl]
      refine ⟨?_, ?_, ?_, ?_⟩
      · rw [hp_upg]
      · rw [hp_upn (by omega), hp_upn (by omega), hp_upn (by omega), hp_upg]
      · rw [hp_upn (by omega), hp_upn (by omega), hp_upg]
      · rw [hp_upn (by omega), hp_upg]
    · rw [if_neg e, if_neg e, if_neg e, if_neg e]
      have h9 := b4 k hk (by omega)
      refine ⟨?_, ?_, ?_, ?_⟩
      · rw [hp_upn e]; exact h9.1
      · rw [hp_upn (by omega), hp_upn (by omega), hp_upn (by omega), hp_upn (by omega)]; exact h9.2.1
      · rw [hp_upn (by omega), hp_upn (by omega), hp_upn (by omega), hp_upn (by omega)]; exact h9.2.2.1
      · rw [hp_upn (by omega), hp_upn (by omega), hp_upn (by omega), hp_upn (by omega)]; exact h9.2.2.2
  · rw [hp_upn (k := 1) (by omega), hp_upn (k := 1) (by omega), hp_upn (k := 1) (by omega), hp_upn (k := 1) (by omega)] at hl
    have h9 := b5 k hk hl
    rw [f 115 k (by decide) (by decide), f 116 k (by decide) (by decide), f 117 k (by decide) (by decide), f 118 k (by decide) (by decide), f 119 k (by decide) (by decide)]
    refine ⟨?_, ?_, ?_, ?_, ?_⟩
    · rw [hp_upn (by omega)]; exact h9.1
    · rw [hp_upn (by omega), hp_upn (by omega), hp_upn (by omega), hp_upn (by omega)]; exact h9.2.1
    · rw [hp_upn (by omega), hp_upn (by omega), hp_upn (by omega), hp_upn (by omega)]; exact h9.2.2.1
    · rw [hp_upn (by omega), hp_upn (by omega), hp_upn (by omega), hp_upn (by omega)]; exact h9.2.2.2.1
    · rw [hp_upn (by omega), hp_upn (by omega), hp_upn (by omega), hp_upn (by omega)]; exact h9.2.2.2.2
  · rw [f 120 k (by decide) (by decide), hp_upn (by omega), hp_upn (by omega), hp_upn (by omega), hp_upn (by omega)]
    exact b6 k hk
theorem hc_HFa {rd nm : Nat → Int} {v h a b c : Int} {T pz : Nat} {μ μ' : xw_M} (hH : hc_H rd nm μ) (hT : rd 1 = (T : Int)) (h8 : T < 8) (e13 : μ' 107 13 = μ 107 13) (e14 : μ' 107 14 = (T : Int) + 1) (e15 : μ' 107 15 = μ 107 15) (a0 : ∀ i : Nat, μ' 115 i = if i = T then hp_cv v else μ 115 i) (a1 : ∀ i : Nat, μ' 116 i = if i = T then h else μ 116 i) (a2 : ∀ i : Nat, μ' 117 i = if i = T then a else μ 117 i) (a3 : ∀ i : Nat, μ' 118 i = if i = T then b else μ 118 i) (a4 : ∀ i : Nat, μ' 119 i = if i = T then c else μ 119 i) (f : ∀ j i : Nat, 108 ≤ j → j ≤ 111 → μ' j i = μ j i) (f2 : ∀ i : Nat, μ' 120 i = μ 120 i) : hc_H (hp_F rd nm v h a b c pz).2.1 (hp_F rd nm v h a b c pz).2.2 μ' := by
  obtain ⟨⟨b1, b2, b3⟩, b4, b5, b6⟩ := hH
  unfold hp_F hc_H
  simp only [hT, Int.toNat_natCast]
  refine ⟨⟨?_, ?_, ?_⟩, fun k hk hl => ?_, fun k hk hl => ?_, fun k hk => ?_⟩
  · rw [hp_upn (by omega), hp_upn (by omega), hp_upn (by omega), hp_upn (by omega), hp_upn (by omega), e13]; exact b1
  · rw [hp_upg]; exact e14
  · rw [hp_upn (by omega), hp_upn (by omega), hp_upn (by omega), hp_upn (by omega), hp_upn (by omega), e15]; exact b3
  · rw [hp_upn (k := 0) (by omega), hp_upn (k := 0) (by omega), hp_upn (k := 0) (by omega), hp_upn (k := 0) (by omega), hp_upn (k := 0) (by omega)] at hl
    have h9 := b4 k hk hl
    rw [f 108 k (by decide) (by decide), f 109 k (by decide) (by decide), f 110 k (by decide) (by decide), f 111 k (by decide) (by decide)]
    refine ⟨?_, ?_, ?_, ?_⟩
    · rw [hp_upn (by omega)]; exact h9.1
    · rw [hp_upn (by omega), hp_upn (by omega), hp_upn (by omega), hp_upn (by omega), hp_upn (by omega)]; exact h9.2.1
    · rw [hp_upn (by omega), hp_upn (by omega), hp_upn (by omega), hp_upn (by omega), hp_upn (by omega)]; exact h9.2.2.1
    · rw [hp_upn (by omega), hp_upn (by omega), hp_upn (by omega), hp_upn (by omega), hp_upn (by omega)]; exact h9.2.2.2
  · rw [hp_upg] at hl
    rw [a0, a1, a2, a3, a4]
    by_cases e : k = T
    · subst e
      rw [if_pos rfl, if_pos rfl, if_pos rfl, if_pos rfl, if_pos rfl]
      refine ⟨?_, ?_, ?_, ?_, ?_⟩
      · rw [hp_upg]
      · rw [hp_upn (by omega), hp_upn (by omega), hp_upn (by omega), hp_upn (by omega), hp_upg]
      · rw [hp_upn (by omega), hp_upn (by omega), hp_upn (by omega), hp_upg]
      · rw [hp_upn (by omega), hp_upn (by omega), hp_upg]
      · rw [hp_upn (by omega), hp_upg]
    · rw [if_neg e, if_neg e, if_neg e, if_neg e, if_neg e]
      have h9 := b5 k hk (by omega)
      refine ⟨?_, ?_, ?_, ?_, ?_⟩
      · rw [hp_upn (by omega)]; exact h9.1
      · rw [hp_upn (by omega), hp_upn (by omega), hp_upn (by omega), hp_upn (by omega), hp_upn (by omega)]; exact h9.2.1
      · rw [hp_upn (by omega), hp_upn (by omega), hp_upn (by omega), hp_upn (by omega), hp_upn (by omega)]; exact h9.2.2.1
      · rw [hp_upn (by omega), hp_upn (by omega), hp_upn (by omega), hp_upn (by omega), hp_upn (by omega)]; exact h9.2.2.2.1
      · rw [hp_upn (by omega), hp_upn (by omega), hp_upn (by omega), hp_upn (by omega), hp_upn (by omega)]; exact h9.2.2.2.2
  · rw [f2, hp_upn (by omega), hp_upn (by omega), hp_upn (by omega), hp_upn (by omega), hp_upn (by omega)]
    exact b6 k hk
theorem hc_HC {rd nm : Nat → Int} {f9 d c : Int} {J pz : Nat} {μ μ' : xw_M} (hH : hc_H rd nm μ) (hJ : (53 + 3 * f9 + d).toNat = 53 + J) (hJ2 : J < 24) (e13 : μ' 107 13 = μ 107 13) (e14 : μ' 107 14 = μ 107 14) (e15 : μ' 107 15 = rd 2 + 1) (a0 : ∀ i : Nat, μ' 120 i = if i = J then c else μ 120 i) (f : ∀ j i : Nat, 108 ≤ j → j ≤ 119 → μ' j i = μ j i) : hc_H (hp_C rd nm f9 d c pz).2.1 (hp_C rd nm f9 d c pz).2.2 μ' := by
  obtain ⟨⟨b1, b2, b3⟩, b4, b5, b6⟩ := hH
  unfold hp_C hc_H
  simp only [hJ]
  have q : ∀ k : Nat, ¬ k = 2 → ¬ k = 53 + J → hp_up (hp_up rd (53 + J) c) 2 (rd 2 + 1) k = rd k := fun k h1 h2 => by rw [hp_upn h1, hp_upn h2]
  refine ⟨⟨?_, ?_, ?_⟩, fun k hk hl => ?_, fun k hk hl => ?_, fun k hk => ?_⟩
  · rw [q 0 (by omega) (by omega), e13]; exact b1
  · rw [q 1 (by omega) (by omega), e14]; exact b2
  · rw [hp_upg]; exact e15
  · rw [q 0 (by omega) (by omega)] at hl
    rw [q (3 + k) (by omega) (by omega), q (9 + k) (by omega) (by omega), q (15 + k) (by omega) (by omega), f 108 k (by decide) (by decide), f 109 k (by decide) (by decide), f 110 k (by decide) (by decide), f 111 k (by decide) (by decide)]
    exact b4 k hk hl
  · rw [q 1 (by omega) (by omega)] at hl
    rw [q (21 + k) (by omega) (by omega), q (29 + k) (by omega) (by omega), q (37 + k) (by omega) (by omega), q (45 + k) (by omega) (by omega), f 115 k (by decide) (by decide), f 116 k (by decide) (by decide), f 117 k (by decide) (by decide), f 118 k (by decide) (by decide), f 119 k (by decide) (by decide)]
    exact b5 k hk hl
  · rw [a0]
    by_cases e : k = J
    · subst e
      rw [if_pos rfl, hp_upn (by omega), hp_upg]
    · rw [if_neg e, q (53 + k) (by omega) (by omega)]
      exact b6 k hk
