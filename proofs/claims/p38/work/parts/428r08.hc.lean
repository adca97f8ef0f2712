set_option maxRecDepth 20000 in
set_option maxHeartbeats 20000000 in
theorem xh_readCure {l : Launch} {t rd nm : Nat → Int} {n lim pz : Nat} {μ : xw_M} (hS : hc_S t n lim μ) (hT : hc_T t n lim pz μ) (hw : μ 104 8 = 0) (hH : hc_H rd nm μ) (hK : hp_ok rd nm) (hk : hp_k t n lim pz = 2) : xw_MetI l vwCl sa_Ts tb_KT0 tc_KL yX3_readCure cX3_readCure 4 (some .boolean) 6 210 (fun ad => [.ref (ad 103)]) μ (fun r μ' => hc_L t n lim (hp_cure t n lim rd nm pz) r μ' ∧ xw_F [(104, 2, 9), (107, 13, 15), (108, 0, 5), (109, 0, 5), (110, 0, 5), (111, 0, 5), (112, 0, 5), (113, 0, 5), (114, 0, 5), (115, 0, 7), (116, 0, 7), (117, 0, 7), (118, 0, 7), (119, 0, 7), (120, 0, 23)] μ μ') :=
  xw_of (by decide) (fun _ => Nat.le_of_ble_eq_true rfl) (fun p e s m args below meth c D dA A al w0 sz C0 hU hO hKL hr hlk hA => by
    have n_μ := hS.2.2.1
    have l_μ := hS.2.2.2.2.1
    have b_μ := hS.2.2.2.2.2
    have hp9 := hT.1
    have c2 := hT.2.1
    have c3 := hT.2.2.1
    have kk := hc_kk hT
    have hpl := hp_plb (t := t) (lim := lim) hp9
    have hkb := hp_kb t n lim pz
    have k0 := hK.1
    have k1 := hK.2.1
    have k2 := hK.2.2.1
    have h13 := hH.1.1
    have h14 := hH.1.2.1
    have h15 := hH.1.2.2
    refine xw_aload_n (pc := 0) C0 0 dX3_readCure_0 rfl rfl ?_
    refine xw_getR (pc := 1) (f := 1) C0 107 kcX3 dX3_readCure_1 (by decide) tv_331 (xj_103 hKL) xk_67 rfl ((rfl).trans (xe_103_1 hS.1)) ?_
    refine xw_getI (pc := 4) (f := 15) (z := μ 107 15) C0 kcX2 dX3_readCure_4 (by decide) tv_106 (xj_107 hKL) xk_28 rfl (rfl) (fun g1 k1 => ?_)
    refine xw_bipush (pc := 7) C0 dX3_readCure_7 (by decide) ?_
    refine xw_icmp_lt (pc := 9) (tgt := 21) C0 (by omega) (by omega) dX3_readCure_9 rfl (fun b2 => ?_) (fun b2 => ?_)
    · refine xw_aload_n (pc := 21) C0 0 dX3_readCure_21 rfl rfl ?_
      refine xw_getR (pc := 22) (f := 0) C0 104 kcX3 dX3_readCure_22 (by decide) tv_329 (xj_103 hKL) xk_67 rfl ((rfl).trans (xe_103_0 hS.1)) ?_
      refine xw_callVV (pc := 25) (μ := μ) (ci := 6) (rest := []) (As := []) C0 hU hO sa_Tg hKL (xh_step (l := l) (pz := hp_x t n pz) hS (hT.2.2.2.2.2.2.2 (by omega)) (hp_xb (lim := lim) hp9 (by omega))) tv_509 dX3_readCure_25 tv_547 tv_507 tv_508 tv_9 rfl yb_X6_step (by decide) rfl rfl rfl (by decide) (Nat.le_of_ble_eq_true rfl) (xj_104 hKL) xk_17 (fun m3 w3 => ?_)
      obtain ⟨hT_m3, F3⟩ := w3
      generalize hq3 : hp_x t n pz = p3 at hT_m3 
      have hS_m3 := hc_SF hS F3 (by decide)
      have n_m3 := hS_m3.2.2.1
      have l_m3 := hS_m3.2.2.2.2.1
      have b_m3 := hS_m3.2.2.2.2.2
      have hp9_m3 := hT_m3.1
      have c2_m3 := hT_m3.2.1
      have c3_m3 := hT_m3.2.2.1
      have kk_m3 := hc_kk hT_m3
      have hkb_m3 := hp_kb t n lim p3
      have hpl_m3 := hp_plb (t := t) (lim := lim) hp9_m3
      have hw_m3 : m3 104 8 = 0 := (F3 104 8 rfl).trans hw
      have hH_m3 := hc_HF hH F3 (by decide)
      refine xw_aload_n (pc := 28) C0 0 dX3_readCure_28 rfl rfl ?_
      refine xw_getR (pc := 29) (f := 0) C0 104 kcX3 dX3_readCure_29 (by decide) tv_329 (xj_103 hKL) xk_67 rfl (((F3 103 0 rfl).trans rfl).trans (xe_103_0 hS.1)) ?_
      refine xw_aload_n (pc := 32) C0 0 dX3_readCure_32 rfl rfl ?_
      refine xw_getR (pc := 33) (f := 1) C0 107 kcX3 dX3_readCure_33 (by decide) tv_331 (xj_103 hKL) xk_67 rfl (((F3 103 1 rfl).trans rfl).trans (xe_103_1 hS.1)) ?_
      refine xw_callVI (pc := 36) (μ := m3) (ci := 6) (rest := []) (As := [.ref (xw_ad al 107)]) C0 hU hO sa_Tg hKL (xh_takeFault (l := l) (rd := rd) (nm := nm) hS_m3 hT_m3 hw_m3 hH_m3 hK) tv_605 dX3_readCure_36 tv_602 tv_603 tv_604 tv_9 rfl yb_X6_takeFault (by decide) rfl rfl rfl (by decide) (Nat.le_of_ble_eq_true rfl) (xj_104 hKL) xk_17 (fun r4 m4 w4 => ?_)
      obtain ⟨w4, F4⟩ := w4
      rcases w4 with ⟨v4, p4, eo4, rfl, vn4, hT_m4, x4⟩ | ⟨er4, eo4, rfl, W4⟩
      · have vbr4 := (hp_oneR eo4).1
        have hS_m4 := hc_SF hS_m3 F4 (by decide)
        have n_m4 := hS_m4.2.2.1
        have l_m4 := hS_m4.2.2.2.2.1
        have b_m4 := hS_m4.2.2.2.2.2
        have hp9_m4 := hT_m4.1
        have c2_m4 := hT_m4.2.1
        have c3_m4 := hT_m4.2.2.1
        have kk_m4 := hc_kk hT_m4
        have hkb_m4 := hp_kb t n lim p4
        have hpl_m4 := hp_plb (t := t) (lim := lim) hp9_m4
        have hw_m4 : m4 104 8 = 0 := x4
        have hH_m4 := hc_HF hH_m3 F4 (by decide)
        refine xw_istore_n (pc := 39) (L' := [(1, .int (Int32.ofInt r4)), (0, .ref (xw_ad al 103))]) C0 dX3_readCure_39 rfl (by decide) rfl ?_
        refine xw_iload_n (pc := 40) C0 0 dX3_readCure_40 rfl rfl ?_
        refine xw_iconst (pc := 41) C0 dX3_readCure_41 ?_
        refine xw_icmp_ne (pc := 42) (tgt := 47) C0 (by omega) (by omega) dX3_readCure_42 rfl (fun b5 => ?_) (fun b5 => ?_)
        · refine xw_aload_n (pc := 47) C0 1 dX3_readCure_47 rfl rfl ?_
          refine xw_callVI (pc := 48) (μ := m4) (ci := 3) (rest := []) (As := []) C0 hU hO sa_Tg hKL (xh_deedHere (l := l) hS_m4 hT_m4) tv_610 dX3_readCure_48 tv_607 tv_609 tq_X3_deedHere tv_8 rfl yb_X3_deedHere (by decide) rfl rfl rfl (by decide) (Nat.le_of_ble_eq_true rfl) (xj_103 hKL) xk_67 (fun r6 m6 w6 => ?_)
          obtain ⟨rfl, w6⟩ := w6
          subst w6
          have hd6 := hp_ddb t n lim p4
          rcases hd6 with hd6 | hd6
          · refine xw_nI (congrArg Int32.ofInt hd6) ?_
            refine xw_istore_n (pc := 51) (L' := [(2, .int (Int32.ofInt (-1))), (1, .int (Int32.ofInt r4)), (0, .ref (xw_ad al 103))]) C0 dX3_readCure_51 rfl (by decide) rfl ?_
            refine xw_iload_n (pc := 52) C0 0 dX3_readCure_52 rfl rfl ?_
            refine xw_iconst (pc := 53) C0 dX3_readCure_53 ?_
            refine xw_icmp_ne (pc := 54) (tgt := 66) C0 (by omega) (by omega) dX3_readCure_54 rfl (fun b7 => ?_) (fun b7 => ?_)
            · exfalso
              omega
            · refine xw_aload_n (pc := 57) C0 2 dX3_readCure_57 rfl rfl ?_
              refine xw_getR (pc := 58) (f := 0) C0 104 kcX3 dX3_readCure_58 (by decide) tv_329 (xj_103 hKL) xk_67 rfl (((F4 103 0 rfl).trans ((F3 103 0 rfl).trans rfl)).trans (xe_103_0 hS.1)) ?_
              refine xw_iconst (pc := 61) C0 dX3_readCure_61 ?_
              refine xw_callVI (pc := 62) (μ := m4) (ci := 6) (rest := []) (As := [.int (Int32.ofInt 1)]) C0 hU hO sa_Tg hKL (xh_refuse (l := l) (v := 1) (by omega) (by omega)) tv_546 dX3_readCure_62 tv_543 tv_544 tv_545 tv_9 rfl yb_X6_refuse (by decide) rfl rfl rfl (by decide) (Nat.le_of_ble_eq_true rfl) (xj_104 hKL) xk_17 (fun r8 m8 w8 => ?_)
              obtain ⟨rfl, w8⟩ := w8
              rcases w8.symm with ⟨w8, -⟩ | ⟨-, x8, y8, F8⟩
              · exfalso
                omega
              have hS_m8 := hc_SF hS_m4 F8 (by decide)
              have n_m8 := hS_m8.2.2.1
              have l_m8 := hS_m8.2.2.2.2.1
              have b_m8 := hS_m8.2.2.2.2.2
              refine xw_iret C0 hA hr hlk rfl dX3_readCure_65 ?_
              have eo : hp_cure t n lim rd nm pz = .inl (hp_bad t n lim 1 p4) := by
                unfold hp_cure
                rw [if_neg (by omega), hq3, eo4, hp_bdr, if_pos hd6]
              exact ⟨_, rfl, Or.inr ⟨_, eo, rfl, hc_Wb ⟨by decide, by decide⟩ x8 (y8.trans c3_m4)⟩, ((((xw_F.rf (ML := [(104, 2, 9), (107, 13, 15), (108, 0, 5), (109, 0, 5), (110, 0, 5), (111, 0, 5), (112, 0, 5), (113, 0, 5), (114, 0, 5), (115, 0, 7), (116, 0, 7), (117, 0, 7), (118, 0, 7), (119, 0, 7), (120, 0, 23)])).tr F3 (fun j i h => xw_o_sub (by decide) j i h)).tr F4 (fun j i h => xw_o_sub (by decide) j i h)).tr F8 (fun j i h => xw_o_sub (by decide) j i h))⟩
          · refine xw_istore_n (pc := 51) (L' := [(2, .int (Int32.ofInt (hp_dd t n lim p4))), (1, .int (Int32.ofInt r4)), (0, .ref (xw_ad al 103))]) C0 dX3_readCure_51 rfl (by decide) rfl ?_
            refine xw_iload_n (pc := 52) C0 0 dX3_readCure_52 rfl rfl ?_
            refine xw_iconst (pc := 53) C0 dX3_readCure_53 ?_
            refine xw_icmp_ne (pc := 54) (tgt := 66) C0 (by omega) (by omega) dX3_readCure_54 rfl (fun b10 => ?_) (fun b10 => ?_)
            · refine xw_aload_n (pc := 66) C0 2 dX3_readCure_66 rfl rfl ?_
              refine xw_getR (pc := 67) (f := 1) C0 107 kcX3 dX3_readCure_67 (by decide) tv_331 (xj_103 hKL) xk_67 rfl (((F4 103 1 rfl).trans ((F3 103 1 rfl).trans rfl)).trans (xe_103_1 hS.1)) ?_
              refine xw_iload_n (pc := 70) C0 1 dX3_readCure_70 rfl rfl ?_
              refine xw_iload_n (pc := 71) C0 0 dX3_readCure_71 rfl rfl ?_
              refine xw_callVI (pc := 72) (μ := m4) (ci := 2) (rest := []) (As := [.int (Int32.ofInt r4), .int (Int32.ofInt (hp_dd t n lim p4))]) C0 hU hO sa_Tg hKL (xh_cureOf (l := l) (rd := rd) (nm := nm) (f9 := r4) (d := hp_dd t n lim p4) hS_m4.1 hH_m4 (by omega) (by omega)) tv_614 dX3_readCure_72 tv_611 tv_612 tv_613 tv_4 rfl yb_X2_cureOf (by decide) rfl rfl rfl (by decide) (Nat.le_of_ble_eq_true rfl) (xj_107 hKL) xk_28 (fun r11 m11 w11 => ?_)
              obtain ⟨rfl, w11⟩ := w11
              have wb11 : 0 ≤ r11 ∧ r11 ≤ 12 := by
                rw [w11]
                have q9 := hK.2.2.2.1 ((3 * r4 + hp_dd t n lim p4).toNat) (by omega)
                rw [show 53 + (3 * r4 + hp_dd t n lim p4).toNat = (53 + 3 * r4 + hp_dd t n lim p4).toNat by omega] at q9
                exact q9
              refine xw_if_eq (pc := 75) (tgt := 87) C0 (by omega) dX3_readCure_75 rfl (fun b12 => ?_) (fun b12 => ?_)
              · refine xw_aload_n (pc := 87) C0 2 dX3_readCure_87 rfl rfl ?_
                refine xw_getR (pc := 88) (f := 0) C0 104 kcX3 dX3_readCure_88 (by decide) tv_329 (xj_103 hKL) xk_67 rfl (((F4 103 0 rfl).trans ((F3 103 0 rfl).trans rfl)).trans (xe_103_0 hS.1)) ?_
                refine xw_callVV (pc := 91) (μ := m4) (ci := 6) (rest := []) (As := []) C0 hU hO sa_Tg hKL (xh_step (l := l) (pz := hp_x t n p4) hS_m4 (hT_m4.2.2.2.2.2.2.2 (by omega)) (hp_xb (lim := lim) hp9_m4 (by omega))) tv_509 dX3_readCure_91 tv_547 tv_507 tv_508 tv_9 rfl yb_X6_step (by decide) rfl rfl rfl (by decide) (Nat.le_of_ble_eq_true rfl) (xj_104 hKL) xk_17 (fun m13 w13 => ?_)
                obtain ⟨hT_m13, F13⟩ := w13
                generalize hq13 : hp_x t n p4 = p13 at hT_m13 
                have hS_m13 := hc_SF hS_m4 F13 (by decide)
                have n_m13 := hS_m13.2.2.1
                have l_m13 := hS_m13.2.2.2.2.1
                have b_m13 := hS_m13.2.2.2.2.2
                have hp9_m13 := hT_m13.1
                have c2_m13 := hT_m13.2.1
                have c3_m13 := hT_m13.2.2.1
                have kk_m13 := hc_kk hT_m13
                have hkb_m13 := hp_kb t n lim p13
                have hpl_m13 := hp_plb (t := t) (lim := lim) hp9_m13
                have hw_m13 : m13 104 8 = 0 := (F13 104 8 rfl).trans hw_m4
                have hH_m13 := hc_HF hH_m4 F13 (by decide)
                refine xw_aload_n (pc := 94) C0 2 dX3_readCure_94 rfl rfl ?_
                refine xw_getR (pc := 95) (f := 0) C0 104 kcX3 dX3_readCure_95 (by decide) tv_329 (xj_103 hKL) xk_67 rfl (((F13 103 0 rfl).trans ((F4 103 0 rfl).trans ((F3 103 0 rfl).trans rfl))).trans (xe_103_0 hS.1)) ?_
                refine xw_iconst (pc := 98) C0 dX3_readCure_98 ?_
                refine xw_bipush (pc := 99) C0 dX3_readCure_99 (by decide) ?_
                refine xw_callVI (pc := 101) (μ := m13) (ci := 6) (rest := []) (As := [.int (Int32.ofInt 1), .int (Int32.ofInt 12)]) C0 hU hO sa_Tg hKL (xh_takeNumber (l := l) (a := 1) (b := 12) hS_m13 hT_m13 hw_m13 (by omega) (by omega)) tv_568 dX3_readCure_101 tv_565 tv_566 tv_567 tv_9 rfl yb_X6_takeNumber (by decide) rfl rfl rfl (by decide) (Nat.le_of_ble_eq_true rfl) (xj_104 hKL) xk_17 (fun r14 m14 w14 => ?_)
                obtain ⟨w14, F14⟩ := w14
                rcases w14 with ⟨v14, p14, eo14, rfl, vn14, hT_m14, x14⟩ | ⟨er14, eo14, rfl, W14⟩
                · have vbr14 := (hp_numR eo14).1
                  have hS_m14 := hc_SF hS_m13 F14 (by decide)
                  have n_m14 := hS_m14.2.2.1
                  have l_m14 := hS_m14.2.2.2.2.1
                  have b_m14 := hS_m14.2.2.2.2.2
                  have hp9_m14 := hT_m14.1
                  have c2_m14 := hT_m14.2.1
                  have c3_m14 := hT_m14.2.2.1
                  have kk_m14 := hc_kk hT_m14
                  have hkb_m14 := hp_kb t n lim p14
                  have hpl_m14 := hp_plb (t := t) (lim := lim) hp9_m14
                  have hw_m14 : m14 104 8 = 0 := x14
                  have hH_m14 := hc_HF hH_m13 F14 (by decide)
                  refine xw_istore_n (pc := 104) (L' := [(3, .int (Int32.ofInt r14)), (2, .int (Int32.ofInt (hp_dd t n lim p4))), (1, .int (Int32.ofInt r4)), (0, .ref (xw_ad al 103))]) C0 dX3_readCure_104 rfl (by decide) rfl ?_
                  refine xw_iload_n (pc := 105) C0 0 dX3_readCure_105 rfl rfl ?_
                  refine xw_iconst (pc := 106) C0 dX3_readCure_106 ?_
                  refine xw_icmp_eq (pc := 107) (tgt := 122) C0 (by omega) (by omega) dX3_readCure_107 rfl (fun b15 => ?_) (fun b15 => ?_)
                  · exfalso
                    omega
                  · refine xw_aload_n (pc := 110) C0 3 dX3_readCure_110 rfl rfl ?_
                    refine xw_getR (pc := 111) (f := 0) C0 104 kcX3 dX3_readCure_111 (by decide) tv_329 (xj_103 hKL) xk_67 rfl (((F14 103 0 rfl).trans ((F13 103 0 rfl).trans ((F4 103 0 rfl).trans ((F3 103 0 rfl).trans rfl)))).trans (xe_103_0 hS.1)) ?_
                    refine xw_bipush (pc := 114) C0 dX3_readCure_114 (by decide) ?_
                    refine xw_callVI (pc := 116) (μ := m14) (ci := 6) (rest := []) (As := [.int (Int32.ofInt 59)]) C0 hU hO sa_Tg hKL (xh_takeSign (l := l) hS_m14 hT_m14 hw_m14) tv_578 dX3_readCure_116 tv_575 tv_576 tv_577 tv_9 rfl yb_X6_takeSign (by decide) rfl rfl rfl (by decide) (Nat.le_of_ble_eq_true rfl) (xj_104 hKL) xk_17 (fun r16 m16 w16 => ?_)
                    obtain ⟨w16, F16⟩ := w16
                    rcases w16 with ⟨v16, p16, eo16, rfl, hT_m16, x16⟩ | ⟨er16, eo16, rfl, W16⟩
                    · have hS_m16 := hc_SF hS_m14 F16 (by decide)
                      have n_m16 := hS_m16.2.2.1
                      have l_m16 := hS_m16.2.2.2.2.1
                      have b_m16 := hS_m16.2.2.2.2.2
                      have hp9_m16 := hT_m16.1
                      have c2_m16 := hT_m16.2.1
                      have c3_m16 := hT_m16.2.2.1
                      have kk_m16 := hc_kk hT_m16
                      have hkb_m16 := hp_kb t n lim p16
                      have hpl_m16 := hp_plb (t := t) (lim := lim) hp9_m16
                      have hw_m16 : m16 104 8 = 0 := x16
                      have hH_m16 := hc_HF hH_m14 F16 (by decide)
                      refine xw_if_ne (pc := 119) (tgt := 124) C0 (by omega) dX3_readCure_119 rfl (fun b17 => ?_) (fun b17 => ?_)
                      · refine xw_aload_n (pc := 124) C0 3 dX3_readCure_124 rfl rfl ?_
                        refine xw_getR (pc := 125) (f := 1) C0 107 kcX3 dX3_readCure_125 (by decide) tv_331 (xj_103 hKL) xk_67 rfl (((F16 103 1 rfl).trans ((F14 103 1 rfl).trans ((F13 103 1 rfl).trans ((F4 103 1 rfl).trans ((F3 103 1 rfl).trans rfl))))).trans (xe_103_1 hS.1)) ?_
                        refine xw_iload_n (pc := 128) C0 2 dX3_readCure_128 rfl rfl ?_
                        refine xw_iload_n (pc := 129) C0 1 dX3_readCure_129 rfl rfl ?_
                        refine xw_iload_n (pc := 130) C0 0 dX3_readCure_130 rfl rfl ?_
                        refine xw_callVV (pc := 131) (μ := m16) (ci := 2) (rest := []) (As := [.int (Int32.ofInt r4), .int (Int32.ofInt (hp_dd t n lim p4)), .int (Int32.ofInt r14)]) C0 hU hO sa_Tg hKL (xh_addCure (l := l) (rd := rd) (nm := nm) (f9 := r4) (d := hp_dd t n lim p4) (c9 := r14) (pz := p16) hS_m16.1 hH_m16 hK (by omega) (by omega) (by omega) (by omega)) tv_618 dX3_readCure_131 tv_615 tv_616 tv_617 tv_4 rfl yb_X2_addCure (by decide) rfl rfl rfl (by decide) (Nat.le_of_ble_eq_true rfl) (xj_107 hKL) xk_28 (fun m18 w18 => ?_)
                        obtain ⟨H18, F18⟩ := w18
                        refine xw_iconst (pc := 134) C0 dX3_readCure_134 ?_
                        refine xw_iret C0 hA hr hlk rfl dX3_readCure_135 ?_
                        have eo : hp_cure t n lim rd nm pz = .inr (hp_C rd nm r4 (hp_dd t n lim p4) r14 p16) := by
                          unfold hp_cure
                          rw [if_neg (by omega), hq3, eo4, hp_bdr, if_neg (by omega), if_neg (by omega), hq13, eo14, hp_bdr, eo16, hp_bdr]
                        exact ⟨_, rfl, Or.inl ⟨_, eo, rfl, hc_TF hT_m16 F18 (by decide), (F18 104 8 rfl).trans hw_m16, H18, hp_okC hK (by omega) (by omega) (by omega) (by omega)⟩, (((((((xw_F.rf (ML := [(104, 2, 9), (107, 13, 15), (108, 0, 5), (109, 0, 5), (110, 0, 5), (111, 0, 5), (112, 0, 5), (113, 0, 5), (114, 0, 5), (115, 0, 7), (116, 0, 7), (117, 0, 7), (118, 0, 7), (119, 0, 7), (120, 0, 23)])).tr F3 (fun j i h => xw_o_sub (by decide) j i h)).tr F4 (fun j i h => xw_o_sub (by decide) j i h)).tr F13 (fun j i h => xw_o_sub (by decide) j i h)).tr F14 (fun j i h => xw_o_sub (by decide) j i h)).tr F16 (fun j i h => xw_o_sub (by decide) j i h)).tr F18 (fun j i h => xw_o_sub (by decide) j i h))⟩
                      · exfalso
                        omega
                    · refine xw_if_ne (pc := 119) (tgt := 124) C0 (by omega) dX3_readCure_119 rfl (fun b19 => ?_) (fun b19 => ?_)
                      · exfalso
                        omega
                      · refine xw_iconst (pc := 122) C0 dX3_readCure_122 ?_
                        refine xw_iret C0 hA hr hlk rfl dX3_readCure_123 ?_
                        have eo : hp_cure t n lim rd nm pz = .inl er16 := by
                          unfold hp_cure
                          rw [if_neg (by omega), hq3, eo4, hp_bdr, if_neg (by omega), if_neg (by omega), hq13, eo14, hp_bdr, eo16, hp_bdl]
                        exact ⟨_, rfl, Or.inr ⟨_, eo, rfl, W16⟩, ((((((xw_F.rf (ML := [(104, 2, 9), (107, 13, 15), (108, 0, 5), (109, 0, 5), (110, 0, 5), (111, 0, 5), (112, 0, 5), (113, 0, 5), (114, 0, 5), (115, 0, 7), (116, 0, 7), (117, 0, 7), (118, 0, 7), (119, 0, 7), (120, 0, 23)])).tr F3 (fun j i h => xw_o_sub (by decide) j i h)).tr F4 (fun j i h => xw_o_sub (by decide) j i h)).tr F13 (fun j i h => xw_o_sub (by decide) j i h)).tr F14 (fun j i h => xw_o_sub (by decide) j i h)).tr F16 (fun j i h => xw_o_sub (by decide) j i h))⟩
                · refine xw_istore_n (pc := 104) (L' := [(3, .int (Int32.ofInt (-1))), (2, .int (Int32.ofInt (hp_dd t n lim p4))), (1, .int (Int32.ofInt r4)), (0, .ref (xw_ad al 103))]) C0 dX3_readCure_104 rfl (by decide) rfl ?_
                  refine xw_iload_n (pc := 105) C0 0 dX3_readCure_105 rfl rfl ?_
                  refine xw_iconst (pc := 106) C0 dX3_readCure_106 ?_
                  refine xw_icmp_eq (pc := 107) (tgt := 122) C0 (by omega) (by omega) dX3_readCure_107 rfl (fun b20 => ?_) (fun b20 => ?_)
                  · refine xw_iconst (pc := 122) C0 dX3_readCure_122 ?_
                    refine xw_iret C0 hA hr hlk rfl dX3_readCure_123 ?_
                    have eo : hp_cure t n lim rd nm pz = .inl er14 := by
                      unfold hp_cure
                      rw [if_neg (by omega), hq3, eo4, hp_bdr, if_neg (by omega), if_neg (by omega), hq13, eo14, hp_bdl]
                    exact ⟨_, rfl, Or.inr ⟨_, eo, rfl, W14⟩, (((((xw_F.rf (ML := [(104, 2, 9), (107, 13, 15), (108, 0, 5), (109, 0, 5), (110, 0, 5), (111, 0, 5), (112, 0, 5), (113, 0, 5), (114, 0, 5), (115, 0, 7), (116, 0, 7), (117, 0, 7), (118, 0, 7), (119, 0, 7), (120, 0, 23)])).tr F3 (fun j i h => xw_o_sub (by decide) j i h)).tr F4 (fun j i h => xw_o_sub (by decide) j i h)).tr F13 (fun j i h => xw_o_sub (by decide) j i h)).tr F14 (fun j i h => xw_o_sub (by decide) j i h))⟩
                  · exfalso
                    omega
              · refine xw_aload_n (pc := 78) C0 2 dX3_readCure_78 rfl rfl ?_
                refine xw_getR (pc := 79) (f := 0) C0 104 kcX3 dX3_readCure_79 (by decide) tv_329 (xj_103 hKL) xk_67 rfl (((F4 103 0 rfl).trans ((F3 103 0 rfl).trans rfl)).trans (xe_103_0 hS.1)) ?_
                refine xw_iconst (pc := 82) C0 dX3_readCure_82 ?_
                refine xw_callVI (pc := 83) (μ := m4) (ci := 6) (rest := []) (As := [.int (Int32.ofInt 3)]) C0 hU hO sa_Tg hKL (xh_refuse (l := l) (v := 3) (by omega) (by omega)) tv_546 dX3_readCure_83 tv_543 tv_544 tv_545 tv_9 rfl yb_X6_refuse (by decide) rfl rfl rfl (by decide) (Nat.le_of_ble_eq_true rfl) (xj_104 hKL) xk_17 (fun r21 m21 w21 => ?_)
                obtain ⟨rfl, w21⟩ := w21
                rcases w21.symm with ⟨w21, -⟩ | ⟨-, x21, y21, F21⟩
                · exfalso
                  omega
                have hS_m21 := hc_SF hS_m4 F21 (by decide)
                have n_m21 := hS_m21.2.2.1
                have l_m21 := hS_m21.2.2.2.2.1
                have b_m21 := hS_m21.2.2.2.2.2
                refine xw_iret C0 hA hr hlk rfl dX3_readCure_86 ?_
                have eo : hp_cure t n lim rd nm pz = .inl (hp_bad t n lim 3 p4) := by
                  unfold hp_cure
                  rw [if_neg (by omega), hq3, eo4, hp_bdr, if_neg (by omega), if_pos (by omega)]
                exact ⟨_, rfl, Or.inr ⟨_, eo, rfl, hc_Wb ⟨by decide, by decide⟩ x21 (y21.trans c3_m4)⟩, ((((xw_F.rf (ML := [(104, 2, 9), (107, 13, 15), (108, 0, 5), (109, 0, 5), (110, 0, 5), (111, 0, 5), (112, 0, 5), (113, 0, 5), (114, 0, 5), (115, 0, 7), (116, 0, 7), (117, 0, 7), (118, 0, 7), (119, 0, 7), (120, 0, 23)])).tr F3 (fun j i h => xw_o_sub (by decide) j i h)).tr F4 (fun j i h => xw_o_sub (by decide) j i h)).tr F21 (fun j i h => xw_o_sub (by decide) j i h))⟩
            · exfalso
              omega
        · exfalso
          omega
      · refine xw_istore_n (pc := 39) (L' := [(1, .int (Int32.ofInt (-1))), (0, .ref (xw_ad al 103))]) C0 dX3_readCure_39 rfl (by decide) rfl ?_
        refine xw_iload_n (pc := 40) C0 0 dX3_readCure_40 rfl rfl ?_
        refine xw_iconst (pc := 41) C0 dX3_readCure_41 ?_
        refine xw_icmp_ne (pc := 42) (tgt := 47) C0 (by omega) (by omega) dX3_readCure_42 rfl (fun b22 => ?_) (fun b22 => ?_)
        · exfalso
          omega
        · refine xw_iconst (pc := 45) C0 dX3_readCure_45 ?_
          refine xw_iret C0 hA hr hlk rfl dX3_readCure_46 ?_
          have eo : hp_cure t n lim rd nm pz = .inl er4 := by
            unfold hp_cure
            rw [if_neg (by omega), hq3, eo4, hp_bdl]
          exact ⟨_, rfl, Or.inr ⟨_, eo, rfl, W4⟩, (((xw_F.rf (ML := [(104, 2, 9), (107, 13, 15), (108, 0, 5), (109, 0, 5), (110, 0, 5), (111, 0, 5), (112, 0, 5), (113, 0, 5), (114, 0, 5), (115, 0, 7), (116, 0, 7), (117, 0, 7), (118, 0, 7), (119, 0, 7), (120, 0, 23)])).tr F3 (fun j i h => xw_o_sub (by decide) j i h)).tr F4 (fun j i h => xw_o_sub (by decide) j i h))⟩
    · refine xw_aload_n (pc := 12) C0 0 dX3_readCure_12 rfl rfl ?_
      refine xw_getR (pc := 13) (f := 0) C0 104 kcX3 dX3_readCure_13 (by decide) tv_329 (xj_103 hKL) xk_67 rfl ((rfl).trans (xe_103_0 hS.1)) ?_
      refine xw_iconst (pc := 16) C0 dX3_readCure_16 ?_
      refine xw_callVI (pc := 17) (μ := μ) (ci := 6) (rest := []) (As := [.int (Int32.ofInt 4)]) C0 hU hO sa_Tg hKL (xh_refuse (l := l) (v := 4) (by omega) (by omega)) tv_546 dX3_readCure_17 tv_543 tv_544 tv_545 tv_9 rfl yb_X6_refuse (by decide) rfl rfl rfl (by decide) (Nat.le_of_ble_eq_true rfl) (xj_104 hKL) xk_17 (fun r23 m23 w23 => ?_)
      obtain ⟨rfl, w23⟩ := w23
      rcases w23.symm with ⟨w23, -⟩ | ⟨-, x23, y23, F23⟩
      · exfalso
        omega
      have hS_m23 := hc_SF hS F23 (by decide)
      have n_m23 := hS_m23.2.2.1
      have l_m23 := hS_m23.2.2.2.2.1
      have b_m23 := hS_m23.2.2.2.2.2
      refine xw_iret C0 hA hr hlk rfl dX3_readCure_20 ?_
      have eo : hp_cure t n lim rd nm pz = .inl (hp_bad t n lim 4 pz) := if_pos (by omega)
      exact ⟨_, rfl, Or.inr ⟨_, eo, rfl, hc_Wb ⟨by decide, by decide⟩ x23 (y23.trans c3)⟩, ((xw_F.rf (ML := [(104, 2, 9), (107, 13, 15), (108, 0, 5), (109, 0, 5), (110, 0, 5), (111, 0, 5), (112, 0, 5), (113, 0, 5), (114, 0, 5), (115, 0, 7), (116, 0, 7), (117, 0, 7), (118, 0, 7), (119, 0, 7), (120, 0, 23)])).tr F23 (fun j i h => xw_o_sub (by decide) j i h))⟩)
theorem hc_Ln {t : Nat → Int} {n lim : Nat} {o : Sum hp_E hp_H} {r : Int} {μ : xw_M} (h : hc_L t n lim o r μ) : narrow .boolean (.int (Int32.ofInt r)) = .int (Int32.ofInt r) := by
  rcases h with ⟨q, -, rfl, -⟩ | ⟨e, -, rfl, -⟩ <;> rfl
set_option maxRecDepth 20000 in
set_option maxHeartbeats 20000000 in
theorem xh_readLine {l : Launch} {t rd nm : Nat → Int} {n lim pz : Nat} {μ : xw_M} (hS : hc_S t n lim μ) (hT : hc_T t n lim pz μ) (hw : μ 104 8 = 0) (hH : hc_H rd nm μ) (hK : hp_ok rd nm) : xw_MetI l vwCl sa_Ts tb_KT0 tc_KL yX3_readLine cX3_readLine 1 (some .boolean) 7 236 (fun ad => [.ref (ad 103)]) μ (fun r μ' => hc_L t n lim (hp_line t n lim rd nm pz) r μ' ∧ xw_F [(104, 2, 9), (107, 13, 15), (108, 0, 5), (109, 0, 5), (110, 0, 5), (111, 0, 5), (112, 0, 5), (113, 0, 5), (114, 0, 5), (115, 0, 7), (116, 0, 7), (117, 0, 7), (118, 0, 7), (119, 0, 7), (120, 0, 23)] μ μ') :=
  xw_of (by decide) (fun _ => Nat.le_of_ble_eq_true rfl) (fun p e s m args below meth c D dA A al w0 sz C0 hU hO hKL hr hlk hA => by
    have n_μ := hS.2.2.1
    have l_μ := hS.2.2.2.2.1
    have b_μ := hS.2.2.2.2.2
    have hp9 := hT.1
    have c2 := hT.2.1
    have c3 := hT.2.2.1
    have kk := hc_kk hT
    have hpl := hp_plb (t := t) (lim := lim) hp9
    have hkb := hp_kb t n lim pz
    have k0 := hK.1
    have k1 := hK.2.1
    have k2 := hK.2.2.1
    have h13 := hH.1.1
    have h14 := hH.1.2.1
    have h15 := hH.1.2.2
    have hkw := hp_kwb (hp_w t n pz)
    refine xw_aload_n (pc := 0) C0 0 dX3_readLine_0 rfl rfl ?_
    refine xw_getR (pc := 1) (f := 0) C0 104 kcX3 dX3_readLine_1 (by decide) tv_329 (xj_103 hKL) xk_67 rfl ((rfl).trans (xe_103_0 hS.1)) ?_
    refine xw_getI (pc := 4) (f := 6) (z := μ 104 6) C0 kcX6 dX3_readLine_4 (by decide) tv_296 (xj_104 hKL) xk_17 rfl (rfl) (fun g1 k1 => ?_)
    rcases (show μ 104 6 = 0 ∨ μ 104 6 = 2 ∨ μ 104 6 = 3 ∨ (μ 104 6 < 0 ∨ 3 < μ 104 6) ∨ μ 104 6 = 1 by omega) with sw | sw | sw | sw | sw
    · refine xw_tabI (pc := 7) (tgt := 36) (off := 29) C0 (by omega) dX3_readLine_7 (by omega) (by omega) (by rw [sw]; rfl) rfl ?_
      refine xw_aload_n (pc := 36) C0 0 dX3_readLine_36 rfl rfl ?_
      refine xw_callVI (pc := 37) (μ := μ) (ci := 3) (rest := []) (As := []) C0 hU hO sa_Tg hKL (xh_readThing (l := l) (rd := rd) (nm := nm) hS hT hw hH hK (by omega)) tv_542 dX3_readLine_37 tv_539 tv_541 tq_X3_readThing tv_8 rfl yb_X3_readThing (by decide) rfl rfl rfl (by decide) (Nat.le_of_ble_eq_true rfl) (xj_103 hKL) xk_67 (fun r2 m2 w2 => ?_)
      obtain ⟨w2, F2⟩ := w2
      refine xw_iret C0 hA hr hlk (hc_Ln w2) dX3_readLine_40 ?_
      refine ⟨_, rfl, ?_, ((xw_F.rf (ML := [(104, 2, 9), (107, 13, 15), (108, 0, 5), (109, 0, 5), (110, 0, 5), (111, 0, 5), (112, 0, 5), (113, 0, 5), (114, 0, 5), (115, 0, 7), (116, 0, 7), (117, 0, 7), (118, 0, 7), (119, 0, 7), (120, 0, 23)])).tr F2 (fun j i h => xw_o_sub (by decide) j i h))⟩
      unfold hp_line
      rw [if_pos ⟨by omega, by omega⟩]
      exact w2
    · refine xw_tabI (pc := 7) (tgt := 41) (off := 34) C0 (by omega) dX3_readLine_7 (by omega) (by omega) (by rw [sw]; rfl) rfl ?_
      refine xw_aload_n (pc := 41) C0 0 dX3_readLine_41 rfl rfl ?_
      refine xw_callVI (pc := 42) (μ := μ) (ci := 3) (rest := []) (As := []) C0 hU hO sa_Tg hKL (xh_readFault (l := l) (rd := rd) (nm := nm) hS hT hw hH hK (by omega)) tv_593 dX3_readLine_42 tv_590 tv_592 tq_X3_readFault tv_8 rfl yb_X3_readFault (by decide) rfl rfl rfl (by decide) (Nat.le_of_ble_eq_true rfl) (xj_103 hKL) xk_67 (fun r3 m3 w3 => ?_)
      obtain ⟨w3, F3⟩ := w3
      refine xw_iret C0 hA hr hlk (hc_Ln w3) dX3_readLine_45 ?_
      refine ⟨_, rfl, ?_, ((xw_F.rf (ML := [(104, 2, 9), (107, 13, 15), (108, 0, 5), (109, 0, 5), (110, 0, 5), (111, 0, 5), (112, 0, 5), (113, 0, 5), (114, 0, 5), (115, 0, 7), (116, 0, 7), (117, 0, 7), (118, 0, 7), (119, 0, 7), (120, 0, 23)])).tr F3 (fun j i h => xw_o_sub (by decide) j i h))⟩
      unfold hp_line
      rw [if_neg (by omega), if_pos ⟨by omega, by omega⟩]
      exact w3
    · refine xw_tabI (pc := 7) (tgt := 46) (off := 39) C0 (by omega) dX3_readLine_7 (by omega) (by omega) (by rw [sw]; rfl) rfl ?_
      refine xw_aload_n (pc := 46) C0 0 dX3_readLine_46 rfl rfl ?_
      refine xw_callVI (pc := 47) (μ := μ) (ci := 3) (rest := []) (As := []) C0 hU hO sa_Tg hKL (xh_readCure (l := l) (rd := rd) (nm := nm) hS hT hw hH hK (by omega)) tv_601 dX3_readLine_47 tv_598 tv_600 tq_X3_readCure tv_8 rfl yb_X3_readCure (by decide) rfl rfl rfl (by decide) (Nat.le_of_ble_eq_true rfl) (xj_103 hKL) xk_67 (fun r4 m4 w4 => ?_)
      obtain ⟨w4, F4⟩ := w4
      refine xw_iret C0 hA hr hlk (hc_Ln w4) dX3_readLine_50 ?_
      refine ⟨_, rfl, ?_, ((xw_F.rf (ML := [(104, 2, 9), (107, 13, 15), (108, 0, 5), (109, 0, 5), (110, 0, 5), (111, 0, 5), (112, 0, 5), (113, 0, 5), (114, 0, 5), (115, 0, 7), (116, 0, 7), (117, 0, 7), (118, 0, 7), (119, 0, 7), (120, 0, 23)])).tr F4 (fun j i h => xw_o_sub (by decide) j i h))⟩
      unfold hp_line
      rw [if_neg (by omega), if_neg (by omega), if_pos ⟨by omega, by omega⟩]
      exact w4
    · refine xw_tabO (pc := 7) (tgt := 51) C0 (by omega) dX3_readLine_7 (by omega) rfl ?_
      refine xw_aload_n (pc := 51) C0 0 dX3_readLine_51 rfl rfl ?_
      refine xw_getR (pc := 52) (f := 0) C0 104 kcX3 dX3_readLine_52 (by decide) tv_329 (xj_103 hKL) xk_67 rfl ((rfl).trans (xe_103_0 hS.1)) ?_
      refine xw_iconst (pc := 55) C0 dX3_readLine_55 ?_
      refine xw_callVI (pc := 56) (μ := μ) (ci := 6) (rest := []) (As := [.int (Int32.ofInt 1)]) C0 hU hO sa_Tg hKL (xh_refuse (l := l) (v := 1) (by omega) (by omega)) tv_546 dX3_readLine_56 tv_543 tv_544 tv_545 tv_9 rfl yb_X6_refuse (by decide) rfl rfl rfl (by decide) (Nat.le_of_ble_eq_true rfl) (xj_104 hKL) xk_17 (fun r5 m5 w5 => ?_)
      obtain ⟨rfl, w5⟩ := w5
      rcases w5.symm with ⟨w5, -⟩ | ⟨-, x5, y5, F5⟩
      · exfalso
        omega
      have hS_m5 := hc_SF hS F5 (by decide)
      have n_m5 := hS_m5.2.2.1
      have l_m5 := hS_m5.2.2.2.2.1
      have b_m5 := hS_m5.2.2.2.2.2
      refine xw_iret C0 hA hr hlk rfl dX3_readLine_59 ?_
      have eo : hp_line t n lim rd nm pz = .inl (hp_bad t n lim 1 pz) := by
        unfold hp_line
        rw [if_neg (by omega), if_neg (by omega), if_neg (by omega)]
      exact ⟨_, rfl, Or.inr ⟨_, eo, rfl, hc_Wb ⟨by decide, by decide⟩ x5 (y5.trans c3)⟩, ((xw_F.rf (ML := [(104, 2, 9), (107, 13, 15), (108, 0, 5), (109, 0, 5), (110, 0, 5), (111, 0, 5), (112, 0, 5), (113, 0, 5), (114, 0, 5), (115, 0, 7), (116, 0, 7), (117, 0, 7), (118, 0, 7), (119, 0, 7), (120, 0, 23)])).tr F5 (fun j i h => xw_o_sub (by decide) j i h))⟩
    · refine xw_tabI (pc := 7) (tgt := 51) (off := 44) C0 (by omega) dX3_readLine_7 (by omega) (by omega) (by rw [sw]; rfl) rfl ?_
      refine xw_aload_n (pc := 51) C0 0 dX3_readLine_51 rfl rfl ?_
      refine xw_getR (pc := 52) (f := 0) C0 104 kcX3 dX3_readLine_52 (by decide) tv_329 (xj_103 hKL) xk_67 rfl ((rfl).trans (xe_103_0 hS.1)) ?_
      refine xw_iconst (pc := 55) C0 dX3_readLine_55 ?_
      refine xw_callVI (pc := 56) (μ := μ) (ci := 6) (rest := []) (As := [.int (Int32.ofInt 1)]) C0 hU hO sa_Tg hKL (xh_refuse (l := l) (v := 1) (by omega) (by omega)) tv_546 dX3_readLine_56 tv_543 tv_544 tv_545 tv_9 rfl yb_X6_refuse (by decide) rfl rfl rfl (by decide) (Nat.le_of_ble_eq_true rfl) (xj_104 hKL) xk_17 (fun r6 m6 w6 => ?_)
      obtain ⟨rfl, w6⟩ := w6
      rcases w6.symm with ⟨w6, -⟩ | ⟨-, x6, y6, F6⟩
      · exfalso
        omega
      have hS_m6 := hc_SF hS F6 (by decide)
      have n_m6 := hS_m6.2.2.1
      have l_m6 := hS_m6.2.2.2.2.1
      have b_m6 := hS_m6.2.2.2.2.2
      refine xw_iret C0 hA hr hlk rfl dX3_readLine_59 ?_
      have eo : hp_line t n lim rd nm pz = .inl (hp_bad t n lim 1 pz) := by
        unfold hp_line
        rw [if_neg (by omega), if_neg (by omega), if_neg (by omega)]
      exact ⟨_, rfl, Or.inr ⟨_, eo, rfl, hc_Wb ⟨by decide, by decide⟩ x6 (y6.trans c3)⟩, ((xw_F.rf (ML := [(104, 2, 9), (107, 13, 15), (108, 0, 5), (109, 0, 5), (110, 0, 5), (111, 0, 5), (112, 0, 5), (113, 0, 5), (114, 0, 5), (115, 0, 7), (116, 0, 7), (117, 0, 7), (118, 0, 7), (119, 0, 7), (120, 0, 23)])).tr F6 (fun j i h => xw_o_sub (by decide) j i h))⟩)
theorem hp_lineS {t : Nat → Int} {n lim : Nat} {rd nm : Nat → Int} {p : Nat} {q : hp_H} (hK : hp_ok rd nm) (h : hp_line t n lim rd nm p = .inr q) : q.2.1 0 + q.2.1 1 + q.2.1 2 = rd 0 + rd 1 + rd 2 + 1 := by
  obtain ⟨k0, k1, k2, -⟩ := hK
  have bR : ∀ {τ : Type} {a : Sum hp_E (Int × Nat)} {f : Int → Nat → Sum hp_E τ} {x : τ}, hp_bd a f = .inr x → ∃ (v : Int) (p : Nat), a = .inr (v, p) ∧ f v p = .inr x := by
    intro τ a f x hx
    cases a with
    | inl e => cases hx
    | inr y => exact ⟨y.1, y.2, rfl, hx⟩
  unfold hp_line at h
  split at h
  · unfold hp_thing at h
    split at h
    · cases h
    · obtain ⟨v1, p1, -, h⟩ := bR h
      obtain ⟨v2, p2, -, h⟩ := bR h
      obtain ⟨v3, p3, -, h⟩ := bR h
      obtain ⟨v4, p4, -, h⟩ := bR h
      obtain ⟨v5, p5, -, h⟩ := bR h
      cases h
      unfold hp_T
      have q9 : ∀ z : Nat → Int, hp_up z 0 (rd 0 + 1) 0 + hp_up z 0 (rd 0 + 1) 1 + hp_up z 0 (rd 0 + 1) 2 = rd 0 + 1 + z 1 + z 2 := fun z => by rw [hp_upg, hp_upn (by omega), hp_upn (by omega)]
      refine (q9 (hp_up (hp_up (hp_up rd (3 + (rd 0).toNat) v2) (9 + (rd 0).toNat) v3) (15 + (rd 0).toNat) v4)).trans ?_
      rw [hp_upn (by omega), hp_upn (by omega), hp_upn (by omega), hp_upn (by omega), hp_upn (by omega), hp_upn (by omega)]
      omega
  · split at h
    · unfold hp_fault at h
      split at h
      · cases h
      · obtain ⟨v1, p1, -, h⟩ := bR h
        obtain ⟨v2, p2, -, h⟩ := bR h
        obtain ⟨v3, p3, -, h⟩ := bR h
        obtain ⟨v4, p4, -, h⟩ := bR h
        obtain ⟨v5, p5, -, h⟩ := bR h
        obtain ⟨v6, p6, -, h⟩ := bR h
        cases h
        unfold hp_F
        have q9 : ∀ z : Nat → Int, hp_up z 1 (rd 1 + 1) 0 + hp_up z 1 (rd 1 + 1) 1 + hp_up z 1 (rd 1 + 1) 2 = z 0 + (rd 1 + 1) + z 2 := fun z => by rw [hp_upn (by omega), hp_upg, hp_upn (by omega)]
        refine (q9 (hp_up (hp_up (hp_up (hp_up rd (21 + (rd 1).toNat) v2) (29 + (rd 1).toNat) v3) (37 + (rd 1).toNat) v4) (45 + (rd 1).toNat) v5)).trans ?_
        rw [hp_upn (by omega), hp_upn (by omega), hp_upn (by omega), hp_upn (by omega), hp_upn (by omega), hp_upn (by omega), hp_upn (by omega), hp_upn (by omega)]
        omega
    · split at h
      · unfold hp_cure at h
        split at h
        · cases h
        · obtain ⟨v1, p1, e1, h⟩ := bR h
          have o1 := (hp_oneR e1).1
          have o2 := hp_ddb t n lim p1
          split at h
          · cases h
          · rename_i n1
            split at h
            · cases h
            · obtain ⟨v2, p2, -, h⟩ := bR h
              obtain ⟨v3, p3, -, h⟩ := bR h
              cases h
              unfold hp_C
              have hd : ¬ (53 + 3 * v1 + hp_dd t n lim p1).toNat ≤ 2 := by omega
              have q9 : ∀ z : Nat → Int, hp_up z 2 (rd 2 + 1) 0 + hp_up z 2 (rd 2 + 1) 1 + hp_up z 2 (rd 2 + 1) 2 = z 0 + z 1 + (rd 2 + 1) := fun z => by rw [hp_upn (by omega), hp_upn (by omega), hp_upg]
              refine (q9 (hp_up rd (53 + 3 * v1 + hp_dd t n lim p1).toNat v2)).trans ?_
              rw [hp_upn (by omega), hp_upn (by omega)]
              omega
      · cases h
noncomputable def hc_R (o : Sum hp_E (Int × (Nat → Int) × (Nat → Int))) (r : Int) (μ : xw_M) : Prop := (∃ q : Int × (Nat → Int) × (Nat → Int), o = .inr q ∧ r = 1 ∧ hc_H q.2.1 q.2.2 μ ∧ hp_ok q.2.1 q.2.2 ∧ μ 103 2 = q.1 ∧ μ 104 8 = 0) ∨ (∃ e : hp_E, o = .inl e ∧ r = 0 ∧ hc_W e μ)
