set_option maxRecDepth 20000 in
set_option maxHeartbeats 20000000 in
theorem xh_readFault {l : Launch} {t rd nm : Nat → Int} {n lim pz : Nat} {μ : xw_M} (hS : hc_S t n lim μ) (hT : hc_T t n lim pz μ) (hw : μ 104 8 = 0) (hH : hc_H rd nm μ) (hK : hp_ok rd nm) (hk : hp_k t n lim pz = 2) : xw_MetI l vwCl sa_Ts tb_KT0 tc_KL yX3_readFault cX3_readFault 7 (some .boolean) 6 210 (fun ad => [.ref (ad 103)]) μ (fun r μ' => hc_L t n lim (hp_fault t n lim rd nm pz) r μ' ∧ xw_F [(104, 2, 9), (107, 13, 15), (108, 0, 5), (109, 0, 5), (110, 0, 5), (111, 0, 5), (112, 0, 5), (113, 0, 5), (114, 0, 5), (115, 0, 7), (116, 0, 7), (117, 0, 7), (118, 0, 7), (119, 0, 7), (120, 0, 23)] μ μ') :=
  xw_of (by decide) (fun _ => Nat.le_of_ble_eq_true rfl) (fun p e s m args below meth c D dA A al w0 sz C0 hU hO hKL hr hlk hA => by
    have n_μ := hS.2.2.1
    have l_μ := hS.2.2.2.2.1
    have b_μ := hS.2.2.2.2.2
    have hp9 := hT.1
    have c2 := hT.2.1
    have c3 := hT.2.2.1
    have kk := hc_kk hT
    have hpl := hp_plb (t := t) (lim := lim) hp9
    have hkb := hp_kb t n lim pz
    have k0 := hK.1
    have k1 := hK.2.1
    have k2 := hK.2.2.1
    have h13 := hH.1.1
    have h14 := hH.1.2.1
    have h15 := hH.1.2.2
    refine xw_aload_n (pc := 0) C0 0 dX3_readFault_0 rfl rfl ?_
    refine xw_getR (pc := 1) (f := 1) C0 107 kcX3 dX3_readFault_1 (by decide) tv_331 (xj_103 hKL) xk_67 rfl ((rfl).trans (xe_103_1 hS.1)) ?_
    refine xw_getI (pc := 4) (f := 14) (z := μ 107 14) C0 kcX2 dX3_readFault_4 (by decide) tv_103 (xj_107 hKL) xk_28 rfl (rfl) (fun g1 k1 => ?_)
    refine xw_bipush (pc := 7) C0 dX3_readFault_7 (by decide) ?_
    refine xw_icmp_lt (pc := 9) (tgt := 21) C0 (by omega) (by omega) dX3_readFault_9 rfl (fun b2 => ?_) (fun b2 => ?_)
    · refine xw_aload_n (pc := 21) C0 0 dX3_readFault_21 rfl rfl ?_
      refine xw_getR (pc := 22) (f := 0) C0 104 kcX3 dX3_readFault_22 (by decide) tv_329 (xj_103 hKL) xk_67 rfl ((rfl).trans (xe_103_0 hS.1)) ?_
      refine xw_callVV (pc := 25) (μ := μ) (ci := 6) (rest := []) (As := []) C0 hU hO sa_Tg hKL (xh_step (l := l) (pz := hp_x t n pz) hS (hT.2.2.2.2.2.2.2 (by omega)) (hp_xb (lim := lim) hp9 (by omega))) tv_509 dX3_readFault_25 tv_547 tv_507 tv_508 tv_9 rfl yb_X6_step (by decide) rfl rfl rfl (by decide) (Nat.le_of_ble_eq_true rfl) (xj_104 hKL) xk_17 (fun m3 w3 => ?_)
      obtain ⟨hT_m3, F3⟩ := w3
      generalize hq3 : hp_x t n pz = p3 at hT_m3 
      have hS_m3 := hc_SF hS F3 (by decide)
      have n_m3 := hS_m3.2.2.1
      have l_m3 := hS_m3.2.2.2.2.1
      have b_m3 := hS_m3.2.2.2.2.2
      have hp9_m3 := hT_m3.1
      have c2_m3 := hT_m3.2.1
      have c3_m3 := hT_m3.2.2.1
      have kk_m3 := hc_kk hT_m3
      have hkb_m3 := hp_kb t n lim p3
      have hpl_m3 := hp_plb (t := t) (lim := lim) hp9_m3
      have hw_m3 : m3 104 8 = 0 := (F3 104 8 rfl).trans hw
      have hH_m3 := hc_HF hH F3 (by decide)
      refine xw_aload_n (pc := 28) C0 0 dX3_readFault_28 rfl rfl ?_
      refine xw_callVI (pc := 29) (μ := m3) (ci := 3) (rest := []) (As := []) C0 hU hO sa_Tg hKL (xh_isNewName (l := l) (rd := rd) (nm := nm) hS_m3 hT_m3 hw_m3 hH_m3 hK) tv_551 dX3_readFault_29 tv_548 tv_550 tq_X3_isNewName tv_8 rfl yb_X3_isNewName (by decide) rfl rfl rfl (by decide) (Nat.le_of_ble_eq_true rfl) (xj_103 hKL) xk_67 (fun r4 m4 w4 => ?_)
      rcases w4 with ⟨eo4, rfl, rfl⟩ | ⟨er4, eo4, rfl, W4, F4⟩
      · obtain ⟨hv4, -, hk4⟩ := hp_newR eo4
        refine xw_if_ne (pc := 32) (tgt := 37) C0 (by omega) dX3_readFault_32 rfl (fun b5 => ?_) (fun b5 => ?_)
        · refine xw_aload_n (pc := 37) C0 0 dX3_readFault_37 rfl rfl ?_
          refine xw_getR (pc := 38) (f := 0) C0 104 kcX3 dX3_readFault_38 (by decide) tv_329 (xj_103 hKL) xk_67 rfl (((F3 103 0 rfl).trans rfl).trans (xe_103_0 hS.1)) ?_
          refine xw_getL (pc := 41) (f := 5) (z := m3 104 5) C0 kcX6 dX3_readFault_41 (by decide) tv_295 (xj_104 hKL) xk_17 rfl (rfl) (fun g6 k6 => ?_)
          refine xw_nL (congrArg Int64.ofInt (hT_m3.2.2.2.1 (by omega)).1) ?_
          refine xw_lstore_n (pc := 44) (L' := [(1, .long (Int64.ofInt (hp_cv (hp_w t n p3)))), (0, .ref (xw_ad al 103))]) C0 dX3_readFault_44 rfl (by decide) rfl ?_
          refine xw_aload_n (pc := 45) C0 1 dX3_readFault_45 rfl rfl ?_
          refine xw_getR (pc := 46) (f := 0) C0 104 kcX3 dX3_readFault_46 (by decide) tv_329 (xj_103 hKL) xk_67 rfl (((F3 103 0 rfl).trans rfl).trans (xe_103_0 hS.1)) ?_
          refine xw_callVV (pc := 49) (μ := m3) (ci := 6) (rest := []) (As := []) C0 hU hO sa_Tg hKL (xh_step (l := l) (pz := hp_x t n p3) hS_m3 (hT_m3.2.2.2.2.2.2.2 (by omega)) (hp_xb (lim := lim) hp9_m3 (by omega))) tv_509 dX3_readFault_49 tv_547 tv_507 tv_508 tv_9 rfl yb_X6_step (by decide) rfl rfl rfl (by decide) (Nat.le_of_ble_eq_true rfl) (xj_104 hKL) xk_17 (fun m7 w7 => ?_)
          obtain ⟨hT_m7, F7⟩ := w7
          generalize hq7 : hp_x t n p3 = p7 at hT_m7 eo4
          have hS_m7 := hc_SF hS_m3 F7 (by decide)
          have n_m7 := hS_m7.2.2.1
          have l_m7 := hS_m7.2.2.2.2.1
          have b_m7 := hS_m7.2.2.2.2.2
          have hp9_m7 := hT_m7.1
          have c2_m7 := hT_m7.2.1
          have c3_m7 := hT_m7.2.2.1
          have kk_m7 := hc_kk hT_m7
          have hkb_m7 := hp_kb t n lim p7
          have hpl_m7 := hp_plb (t := t) (lim := lim) hp9_m7
          have hw_m7 : m7 104 8 = 0 := (F7 104 8 rfl).trans hw_m3
          have hH_m7 := hc_HF hH_m3 F7 (by decide)
          refine xw_aload_n (pc := 52) C0 1 dX3_readFault_52 rfl rfl ?_
          refine xw_getR (pc := 53) (f := 0) C0 104 kcX3 dX3_readFault_53 (by decide) tv_329 (xj_103 hKL) xk_67 rfl (((F7 103 0 rfl).trans ((F3 103 0 rfl).trans rfl)).trans (xe_103_0 hS.1)) ?_
          refine xw_aload_n (pc := 56) C0 1 dX3_readFault_56 rfl rfl ?_
          refine xw_getR (pc := 57) (f := 1) C0 107 kcX3 dX3_readFault_57 (by decide) tv_331 (xj_103 hKL) xk_67 rfl (((F7 103 1 rfl).trans ((F3 103 1 rfl).trans rfl)).trans (xe_103_1 hS.1)) ?_
          refine xw_callVI (pc := 60) (μ := m7) (ci := 6) (rest := []) (As := [.ref (xw_ad al 107)]) C0 hU hO sa_Tg hKL (xh_takeThing (l := l) (rd := rd) (nm := nm) hS_m7 hT_m7 hw_m7 hH_m7 hK) tv_572 dX3_readFault_60 tv_569 tv_570 tv_571 tv_9 rfl yb_X6_takeThing (by decide) rfl rfl rfl (by decide) (Nat.le_of_ble_eq_true rfl) (xj_104 hKL) xk_17 (fun r8 m8 w8 => ?_)
          obtain ⟨w8, F8⟩ := w8
          rcases w8 with ⟨v8, p8, eo8, rfl, vn8, hT_m8, x8⟩ | ⟨er8, eo8, rfl, W8⟩
          · have vbr8 := (hp_oneR eo8).1
            have hS_m8 := hc_SF hS_m7 F8 (by decide)
            have n_m8 := hS_m8.2.2.1
            have l_m8 := hS_m8.2.2.2.2.1
            have b_m8 := hS_m8.2.2.2.2.2
            have hp9_m8 := hT_m8.1
            have c2_m8 := hT_m8.2.1
            have c3_m8 := hT_m8.2.2.1
            have kk_m8 := hc_kk hT_m8
            have hkb_m8 := hp_kb t n lim p8
            have hpl_m8 := hp_plb (t := t) (lim := lim) hp9_m8
            have hw_m8 : m8 104 8 = 0 := x8
            have hH_m8 := hc_HF hH_m7 F8 (by decide)
            refine xw_istore_n (pc := 63) (L' := [(3, .int (Int32.ofInt r8)), (1, .long (Int64.ofInt (hp_cv (hp_w t n p3)))), (0, .ref (xw_ad al 103))]) C0 dX3_readFault_63 rfl (by decide) rfl ?_
            refine xw_iload_n (pc := 64) C0 0 dX3_readFault_64 rfl rfl ?_
            refine xw_iconst (pc := 65) C0 dX3_readFault_65 ?_
            refine xw_icmp_ne (pc := 66) (tgt := 73) C0 (by omega) (by omega) dX3_readFault_66 rfl (fun b10 => ?_) (fun b10 => ?_)
            · refine xw_aload_n (pc := 73) C0 2 dX3_readFault_73 rfl rfl ?_
              refine xw_getR (pc := 74) (f := 0) C0 104 kcX3 dX3_readFault_74 (by decide) tv_329 (xj_103 hKL) xk_67 rfl (((F8 103 0 rfl).trans ((F7 103 0 rfl).trans ((F3 103 0 rfl).trans rfl))).trans (xe_103_0 hS.1)) ?_
              refine xw_iconst (pc := 77) C0 dX3_readFault_77 ?_
              refine xw_sipush (pc := 78) C0 dX3_readFault_78 (by decide) ?_
              refine xw_callVI (pc := 81) (μ := m8) (ci := 6) (rest := []) (As := [.int (Int32.ofInt 0), .int (Int32.ofInt 200)]) C0 hU hO sa_Tg hKL (xh_takeNumber (l := l) (a := 0) (b := 200) hS_m8 hT_m8 hw_m8 (by omega) (by omega)) tv_568 dX3_readFault_81 tv_565 tv_566 tv_567 tv_9 rfl yb_X6_takeNumber (by decide) rfl rfl rfl (by decide) (Nat.le_of_ble_eq_true rfl) (xj_104 hKL) xk_17 (fun r11 m11 w11 => ?_)
              obtain ⟨w11, F11⟩ := w11
              rcases w11 with ⟨v11, p11, eo11, rfl, vn11, hT_m11, x11⟩ | ⟨er11, eo11, rfl, W11⟩
              · have vbr11 := (hp_numR eo11).1
                have hS_m11 := hc_SF hS_m8 F11 (by decide)
                have n_m11 := hS_m11.2.2.1
                have l_m11 := hS_m11.2.2.2.2.1
                have b_m11 := hS_m11.2.2.2.2.2
                have hp9_m11 := hT_m11.1
                have c2_m11 := hT_m11.2.1
                have c3_m11 := hT_m11.2.2.1
                have kk_m11 := hc_kk hT_m11
                have hkb_m11 := hp_kb t n lim p11
                have hpl_m11 := hp_plb (t := t) (lim := lim) hp9_m11
                have hw_m11 : m11 104 8 = 0 := x11
                have hH_m11 := hc_HF hH_m8 F11 (by decide)
                refine xw_istore (pc := 84) (L' := [(4, .int (Int32.ofInt r11)), (3, .int (Int32.ofInt r8)), (1, .long (Int64.ofInt (hp_cv (hp_w t n p3)))), (0, .ref (xw_ad al 103))]) C0 dX3_readFault_84 (by decide) rfl ?_
                refine xw_iload (pc := 86) C0 0 dX3_readFault_86 rfl ?_
                refine xw_iconst (pc := 88) C0 dX3_readFault_88 ?_
                refine xw_icmp_ne (pc := 89) (tgt := 96) C0 (by omega) (by omega) dX3_readFault_89 rfl (fun b12 => ?_) (fun b12 => ?_)
                · refine xw_aload_n (pc := 96) C0 3 dX3_readFault_96 rfl rfl ?_
                  refine xw_getR (pc := 97) (f := 0) C0 104 kcX3 dX3_readFault_97 (by decide) tv_329 (xj_103 hKL) xk_67 rfl (((F11 103 0 rfl).trans ((F8 103 0 rfl).trans ((F7 103 0 rfl).trans ((F3 103 0 rfl).trans rfl)))).trans (xe_103_0 hS.1)) ?_
                  refine xw_iconst (pc := 100) C0 dX3_readFault_100 ?_
                  refine xw_bipush (pc := 101) C0 dX3_readFault_101 (by decide) ?_
                  refine xw_callVI (pc := 103) (μ := m11) (ci := 6) (rest := []) (As := [.int (Int32.ofInt 1), .int (Int32.ofInt 99)]) C0 hU hO sa_Tg hKL (xh_takeNumber (l := l) (a := 1) (b := 99) hS_m11 hT_m11 hw_m11 (by omega) (by omega)) tv_568 dX3_readFault_103 tv_565 tv_566 tv_567 tv_9 rfl yb_X6_takeNumber (by decide) rfl rfl rfl (by decide) (Nat.le_of_ble_eq_true rfl) (xj_104 hKL) xk_17 (fun r13 m13 w13 => ?_)
                  obtain ⟨w13, F13⟩ := w13
                  rcases w13 with ⟨v13, p13, eo13, rfl, vn13, hT_m13, x13⟩ | ⟨er13, eo13, rfl, W13⟩
                  · have vbr13 := (hp_numR eo13).1
                    have hS_m13 := hc_SF hS_m11 F13 (by decide)
                    have n_m13 := hS_m13.2.2.1
                    have l_m13 := hS_m13.2.2.2.2.1
                    have b_m13 := hS_m13.2.2.2.2.2
                    have hp9_m13 := hT_m13.1
                    have c2_m13 := hT_m13.2.1
                    have c3_m13 := hT_m13.2.2.1
                    have kk_m13 := hc_kk hT_m13
                    have hkb_m13 := hp_kb t n lim p13
                    have hpl_m13 := hp_plb (t := t) (lim := lim) hp9_m13
                    have hw_m13 : m13 104 8 = 0 := x13
                    have hH_m13 := hc_HF hH_m11 F13 (by decide)
                    refine xw_istore (pc := 106) (L' := [(5, .int (Int32.ofInt r13)), (4, .int (Int32.ofInt r11)), (3, .int (Int32.ofInt r8)), (1, .long (Int64.ofInt (hp_cv (hp_w t n p3)))), (0, .ref (xw_ad al 103))]) C0 dX3_readFault_106 (by decide) rfl ?_
                    refine xw_iload (pc := 108) C0 0 dX3_readFault_108 rfl ?_
                    refine xw_iconst (pc := 110) C0 dX3_readFault_110 ?_
                    refine xw_icmp_ne (pc := 111) (tgt := 118) C0 (by omega) (by omega) dX3_readFault_111 rfl (fun b14 => ?_) (fun b14 => ?_)
                    · refine xw_aload_n (pc := 118) C0 4 dX3_readFault_118 rfl rfl ?_
                      refine xw_getR (pc := 119) (f := 0) C0 104 kcX3 dX3_readFault_119 (by decide) tv_329 (xj_103 hKL) xk_67 rfl (((F13 103 0 rfl).trans ((F11 103 0 rfl).trans ((F8 103 0 rfl).trans ((F7 103 0 rfl).trans ((F3 103 0 rfl).trans rfl))))).trans (xe_103_0 hS.1)) ?_
                      refine xw_iconst (pc := 122) C0 dX3_readFault_122 ?_
                      refine xw_bipush (pc := 123) C0 dX3_readFault_123 (by decide) ?_
                      refine xw_callVI (pc := 125) (μ := m13) (ci := 6) (rest := []) (As := [.int (Int32.ofInt 1), .int (Int32.ofInt 15)]) C0 hU hO sa_Tg hKL (xh_takeNumber (l := l) (a := 1) (b := 15) hS_m13 hT_m13 hw_m13 (by omega) (by omega)) tv_568 dX3_readFault_125 tv_565 tv_566 tv_567 tv_9 rfl yb_X6_takeNumber (by decide) rfl rfl rfl (by decide) (Nat.le_of_ble_eq_true rfl) (xj_104 hKL) xk_17 (fun r15 m15 w15 => ?_)
                      obtain ⟨w15, F15⟩ := w15
                      rcases w15 with ⟨v15, p15, eo15, rfl, vn15, hT_m15, x15⟩ | ⟨er15, eo15, rfl, W15⟩
                      · have vbr15 := (hp_numR eo15).1
                        have hS_m15 := hc_SF hS_m13 F15 (by decide)
                        have n_m15 := hS_m15.2.2.1
                        have l_m15 := hS_m15.2.2.2.2.1
                        have b_m15 := hS_m15.2.2.2.2.2
                        have hp9_m15 := hT_m15.1
                        have c2_m15 := hT_m15.2.1
                        have c3_m15 := hT_m15.2.2.1
                        have kk_m15 := hc_kk hT_m15
                        have hkb_m15 := hp_kb t n lim p15
                        have hpl_m15 := hp_plb (t := t) (lim := lim) hp9_m15
                        have hw_m15 : m15 104 8 = 0 := x15
                        have hH_m15 := hc_HF hH_m13 F15 (by decide)
                        refine xw_istore (pc := 128) (L' := [(6, .int (Int32.ofInt r15)), (5, .int (Int32.ofInt r13)), (4, .int (Int32.ofInt r11)), (3, .int (Int32.ofInt r8)), (1, .long (Int64.ofInt (hp_cv (hp_w t n p3)))), (0, .ref (xw_ad al 103))]) C0 dX3_readFault_128 (by decide) rfl ?_
                        refine xw_iload (pc := 130) C0 0 dX3_readFault_130 rfl ?_
                        refine xw_iconst (pc := 132) C0 dX3_readFault_132 ?_
                        refine xw_icmp_eq (pc := 133) (tgt := 148) C0 (by omega) (by omega) dX3_readFault_133 rfl (fun b16 => ?_) (fun b16 => ?_)
                        · exfalso
                          omega
                        · refine xw_aload_n (pc := 136) C0 5 dX3_readFault_136 rfl rfl ?_
                          refine xw_getR (pc := 137) (f := 0) C0 104 kcX3 dX3_readFault_137 (by decide) tv_329 (xj_103 hKL) xk_67 rfl (((F15 103 0 rfl).trans ((F13 103 0 rfl).trans ((F11 103 0 rfl).trans ((F8 103 0 rfl).trans ((F7 103 0 rfl).trans ((F3 103 0 rfl).trans rfl)))))).trans (xe_103_0 hS.1)) ?_
                          refine xw_bipush (pc := 140) C0 dX3_readFault_140 (by decide) ?_
                          refine xw_callVI (pc := 142) (μ := m15) (ci := 6) (rest := []) (As := [.int (Int32.ofInt 59)]) C0 hU hO sa_Tg hKL (xh_takeSign (l := l) hS_m15 hT_m15 hw_m15) tv_578 dX3_readFault_142 tv_575 tv_576 tv_577 tv_9 rfl yb_X6_takeSign (by decide) rfl rfl rfl (by decide) (Nat.le_of_ble_eq_true rfl) (xj_104 hKL) xk_17 (fun r17 m17 w17 => ?_)
                          obtain ⟨w17, F17⟩ := w17
                          rcases w17 with ⟨v17, p17, eo17, rfl, hT_m17, x17⟩ | ⟨er17, eo17, rfl, W17⟩
                          · have hS_m17 := hc_SF hS_m15 F17 (by decide)
                            have n_m17 := hS_m17.2.2.1
                            have l_m17 := hS_m17.2.2.2.2.1
                            have b_m17 := hS_m17.2.2.2.2.2
                            have hp9_m17 := hT_m17.1
                            have c2_m17 := hT_m17.2.1
                            have c3_m17 := hT_m17.2.2.1
                            have kk_m17 := hc_kk hT_m17
                            have hkb_m17 := hp_kb t n lim p17
                            have hpl_m17 := hp_plb (t := t) (lim := lim) hp9_m17
                            have hw_m17 : m17 104 8 = 0 := x17
                            have hH_m17 := hc_HF hH_m15 F17 (by decide)
                            refine xw_if_ne (pc := 145) (tgt := 150) C0 (by omega) dX3_readFault_145 rfl (fun b18 => ?_) (fun b18 => ?_)
                            · refine xw_aload_n (pc := 150) C0 5 dX3_readFault_150 rfl rfl ?_
                              refine xw_getR (pc := 151) (f := 1) C0 107 kcX3 dX3_readFault_151 (by decide) tv_331 (xj_103 hKL) xk_67 rfl (((F17 103 1 rfl).trans ((F15 103 1 rfl).trans ((F13 103 1 rfl).trans ((F11 103 1 rfl).trans ((F8 103 1 rfl).trans ((F7 103 1 rfl).trans ((F3 103 1 rfl).trans rfl))))))).trans (xe_103_1 hS.1)) ?_
                              refine xw_lload_n (pc := 154) C0 4 dX3_readFault_154 rfl rfl ?_
                              refine xw_iload_n (pc := 155) C0 3 dX3_readFault_155 rfl rfl ?_
                              refine xw_iload (pc := 156) C0 2 dX3_readFault_156 rfl ?_
                              refine xw_iload (pc := 158) C0 1 dX3_readFault_158 rfl ?_
                              refine xw_iload (pc := 160) C0 0 dX3_readFault_160 rfl ?_
                              refine xw_callVV (pc := 162) (μ := m17) (ci := 2) (rest := []) (As := [.long (Int64.ofInt (hp_cv (hp_w t n p3))), .int (Int32.ofInt r8), .int (Int32.ofInt r11), .int (Int32.ofInt r13), .int (Int32.ofInt r15)]) C0 hU hO sa_Tg hKL (xh_addFault (l := l) (rd := rd) (nm := nm) (v := hp_w t n p3) (h := r8) (a := r11) (b := r13) (c9 := r15) (T := (rd 1).toNat) (pz := p17) hS_m17.1 hH_m17 (by omega) (by omega) (by omega) (by omega) (by omega) (by omega) (by omega)) tv_597 dX3_readFault_162 tv_594 tv_595 tv_596 tv_4 rfl yb_X2_addFault (by decide) rfl rfl rfl (by decide) (Nat.le_of_ble_eq_true rfl) (xj_107 hKL) xk_28 (fun m19 w19 => ?_)
                              obtain ⟨H19, F19⟩ := w19
                              refine xw_iconst (pc := 165) C0 dX3_readFault_165 ?_
                              refine xw_iret C0 hA hr hlk rfl dX3_readFault_166 ?_
                              have eo : hp_fault t n lim rd nm pz = .inr (hp_F rd nm (hp_w t n p3) r8 r11 r13 r15 p17) := by
                                unfold hp_fault
                                rw [if_neg (by omega), hq3, eo4, hp_bdr, eo8, hp_bdr, eo11, hp_bdr, eo13, hp_bdr, eo15, hp_bdr, eo17, hp_bdr]
                              exact ⟨_, rfl, Or.inl ⟨_, eo, rfl, hc_TF hT_m17 F19 (by decide), (F19 104 8 rfl).trans hw_m17, H19, hp_okF hK (by omega) (by omega) (by omega) (by omega) (by omega) (by omega)⟩, (((((((((xw_F.rf (ML := [(104, 2, 9), (107, 13, 15), (108, 0, 5), (109, 0, 5), (110, 0, 5), (111, 0, 5), (112, 0, 5), (113, 0, 5), (114, 0, 5), (115, 0, 7), (116, 0, 7), (117, 0, 7), (118, 0, 7), (119, 0, 7), (120, 0, 23)])).tr F3 (fun j i h => xw_o_sub (by decide) j i h)).tr F7 (fun j i h => xw_o_sub (by decide) j i h)).tr F8 (fun j i h => xw_o_sub (by decide) j i h)).tr F11 (fun j i h => xw_o_sub (by decide) j i h)).tr F13 (fun j i h => xw_o_sub (by decide) j i h)).tr F15 (fun j i h => xw_o_sub (by decide) j i h)).tr F17 (fun j i h => xw_o_sub (by decide) j i h)).tr F19 (fun j i h => xw_o_sub (by decide) j i h))⟩
                            · exfalso
                              omega
                          · refine xw_if_ne (pc := 145) (tgt := 150) C0 (by omega) dX3_readFault_145 rfl (fun b20 => ?_) (fun b20 => ?_)
                            · exfalso
                              omega
                            · refine xw_iconst (pc := 148) C0 dX3_readFault_148 ?_
                              refine xw_iret C0 hA hr hlk rfl dX3_readFault_149 ?_
                              have eo : hp_fault t n lim rd nm pz = .inl er17 := by
                                unfold hp_fault
                                rw [if_neg (by omega), hq3, eo4, hp_bdr, eo8, hp_bdr, eo11, hp_bdr, eo13, hp_bdr, eo15, hp_bdr, eo17, hp_bdl]
                              exact ⟨_, rfl, Or.inr ⟨_, eo, rfl, W17⟩, ((((((((xw_F.rf (ML := [(104, 2, 9), (107, 13, 15), (108, 0, 5), (109, 0, 5), (110, 0, 5), (111, 0, 5), (112, 0, 5), (113, 0, 5), (114, 0, 5), (115, 0, 7), (116, 0, 7), (117, 0, 7), (118, 0, 7), (119, 0, 7), (120, 0, 23)])).tr F3 (fun j i h => xw_o_sub (by decide) j i h)).tr F7 (fun j i h => xw_o_sub (by decide) j i h)).tr F8 (fun j i h => xw_o_sub (by decide) j i h)).tr F11 (fun j i h => xw_o_sub (by decide) j i h)).tr F13 (fun j i h => xw_o_sub (by decide) j i h)).tr F15 (fun j i h => xw_o_sub (by decide) j i h)).tr F17 (fun j i h => xw_o_sub (by decide) j i h))⟩
                      · refine xw_istore (pc := 128) (L' := [(6, .int (Int32.ofInt (-1))), (5, .int (Int32.ofInt r13)), (4, .int (Int32.ofInt r11)), (3, .int (Int32.ofInt r8)), (1, .long (Int64.ofInt (hp_cv (hp_w t n p3)))), (0, .ref (xw_ad al 103))]) C0 dX3_readFault_128 (by decide) rfl ?_
                        refine xw_iload (pc := 130) C0 0 dX3_readFault_130 rfl ?_
                        refine xw_iconst (pc := 132) C0 dX3_readFault_132 ?_
                        refine xw_icmp_eq (pc := 133) (tgt := 148) C0 (by omega) (by omega) dX3_readFault_133 rfl (fun b21 => ?_) (fun b21 => ?_)
                        · refine xw_iconst (pc := 148) C0 dX3_readFault_148 ?_
                          refine xw_iret C0 hA hr hlk rfl dX3_readFault_149 ?_
                          have eo : hp_fault t n lim rd nm pz = .inl er15 := by
                            unfold hp_fault
                            rw [if_neg (by omega), hq3, eo4, hp_bdr, eo8, hp_bdr, eo11, hp_bdr, eo13, hp_bdr, eo15, hp_bdl]
                          exact ⟨_, rfl, Or.inr ⟨_, eo, rfl, W15⟩, (((((((xw_F.rf (ML := [(104, 2, 9), (107, 13, 15), (108, 0, 5), (109, 0, 5), (110, 0, 5), (111, 0, 5), (112, 0, 5), (113, 0, 5), (114, 0, 5), (115, 0, 7), (116, 0, 7), (117, 0, 7), (118, 0, 7), (119, 0, 7), (120, 0, 23)])).tr F3 (fun j i h => xw_o_sub (by decide) j i h)).tr F7 (fun j i h => xw_o_sub (by decide) j i h)).tr F8 (fun j i h => xw_o_sub (by decide) j i h)).tr F11 (fun j i h => xw_o_sub (by decide) j i h)).tr F13 (fun j i h => xw_o_sub (by decide) j i h)).tr F15 (fun j i h => xw_o_sub (by decide) j i h))⟩
                        · exfalso
                          omega
                    · exfalso
                      omega
                  · refine xw_istore (pc := 106) (L' := [(5, .int (Int32.ofInt (-1))), (4, .int (Int32.ofInt r11)), (3, .int (Int32.ofInt r8)), (1, .long (Int64.ofInt (hp_cv (hp_w t n p3)))), (0, .ref (xw_ad al 103))]) C0 dX3_readFault_106 (by decide) rfl ?_
                    refine xw_iload (pc := 108) C0 0 dX3_readFault_108 rfl ?_
                    refine xw_iconst (pc := 110) C0 dX3_readFault_110 ?_
                    refine xw_icmp_ne (pc := 111) (tgt := 118) C0 (by omega) (by omega) dX3_readFault_111 rfl (fun b22 => ?_) (fun b22 => ?_)
                    · exfalso
                      omega
                    · refine xw_iconst (pc := 114) C0 dX3_readFault_114 ?_
                      refine xw_goto (pc := 115) (tgt := 128) C0 dX3_readFault_115 rfl ?_
                      refine xw_istore (pc := 128) (L' := [(6, .int (Int32.ofInt (-1))), (5, .int (Int32.ofInt (-1))), (4, .int (Int32.ofInt r11)), (3, .int (Int32.ofInt r8)), (1, .long (Int64.ofInt (hp_cv (hp_w t n p3)))), (0, .ref (xw_ad al 103))]) C0 dX3_readFault_128 (by decide) rfl ?_
                      refine xw_iload (pc := 130) C0 0 dX3_readFault_130 rfl ?_
                      refine xw_iconst (pc := 132) C0 dX3_readFault_132 ?_
                      refine xw_icmp_eq (pc := 133) (tgt := 148) C0 (by omega) (by omega) dX3_readFault_133 rfl (fun b23 => ?_) (fun b23 => ?_)
                      · refine xw_iconst (pc := 148) C0 dX3_readFault_148 ?_
                        refine xw_iret C0 hA hr hlk rfl dX3_readFault_149 ?_
                        have eo : hp_fault t n lim rd nm pz = .inl er13 := by
                          unfold hp_fault
                          rw [if_neg (by omega), hq3, eo4, hp_bdr, eo8, hp_bdr, eo11, hp_bdr, eo13, hp_bdl]
                        exact ⟨_, rfl, Or.inr ⟨_, eo, rfl, W13⟩, ((((((xw_F.rf (ML := [(104, 2, 9), (107, 13, 15), (108, 0, 5), (109, 0, 5), (110, 0, 5), (111, 0, 5), (112, 0, 5), (113, 0, 5), (114, 0, 5), (115, 0, 7), (116, 0, 7), (117, 0, 7), (118, 0, 7), (119, 0, 7), (120, 0, 23)])).tr F3 (fun j i h => xw_o_sub (by decide) j i h)).tr F7 (fun j i h => xw_o_sub (by decide) j i h)).tr F8 (fun j i h => xw_o_sub (by decide) j i h)).tr F11 (fun j i h => xw_o_sub (by decide) j i h)).tr F13 (fun j i h => xw_o_sub (by decide) j i h))⟩
                      · exfalso
                        omega
                · exfalso
                  omega
              · refine xw_istore (pc := 84) (L' := [(4, .int (Int32.ofInt (-1))), (3, .int (Int32.ofInt r8)), (1, .long (Int64.ofInt (hp_cv (hp_w t n p3)))), (0, .ref (xw_ad al 103))]) C0 dX3_readFault_84 (by decide) rfl ?_
                refine xw_iload (pc := 86) C0 0 dX3_readFault_86 rfl ?_
                refine xw_iconst (pc := 88) C0 dX3_readFault_88 ?_
                refine xw_icmp_ne (pc := 89) (tgt := 96) C0 (by omega) (by omega) dX3_readFault_89 rfl (fun b24 => ?_) (fun b24 => ?_)
                · exfalso
                  omega
                · refine xw_iconst (pc := 92) C0 dX3_readFault_92 ?_
                  refine xw_goto (pc := 93) (tgt := 106) C0 dX3_readFault_93 rfl ?_
                  refine xw_istore (pc := 106) (L' := [(5, .int (Int32.ofInt (-1))), (4, .int (Int32.ofInt (-1))), (3, .int (Int32.ofInt r8)), (1, .long (Int64.ofInt (hp_cv (hp_w t n p3)))), (0, .ref (xw_ad al 103))]) C0 dX3_readFault_106 (by decide) rfl ?_
                  refine xw_iload (pc := 108) C0 0 dX3_readFault_108 rfl ?_
                  refine xw_iconst (pc := 110) C0 dX3_readFault_110 ?_
                  refine xw_icmp_ne (pc := 111) (tgt := 118) C0 (by omega) (by omega) dX3_readFault_111 rfl (fun b25 => ?_) (fun b25 => ?_)
                  · exfalso
                    omega
                  · refine xw_iconst (pc := 114) C0 dX3_readFault_114 ?_
                    refine xw_goto (pc := 115) (tgt := 128) C0 dX3_readFault_115 rfl ?_
                    refine xw_istore (pc := 128) (L' := [(6, .int (Int32.ofInt (-1))), (5, .int (Int32.ofInt (-1))), (4, .int (Int32.ofInt (-1))), (3, .int (Int32.ofInt r8)), (1, .long (Int64.ofInt (hp_cv (hp_w t n p3)))), (0, .ref (xw_ad al 103))]) C0 dX3_readFault_128 (by decide) rfl ?_
                    refine xw_iload (pc := 130) C0 0 dX3_readFault_130 rfl ?_
                    refine xw_iconst (pc := 132) C0 dX3_readFault_132 ?_
                    refine xw_icmp_eq (pc := 133) (tgt := 148) C0 (by omega) (by omega) dX3_readFault_133 rfl (fun b26 => ?_) (fun b26 => ?_)
                    · refine xw_iconst (pc := 148) C0 dX3_readFault_148 ?_
                      refine xw_iret C0 hA hr hlk rfl dX3_readFault_149 ?_
                      have eo : hp_fault t n lim rd nm pz = .inl er11 := by
                        unfold hp_fault
                        rw [if_neg (by omega), hq3, eo4, hp_bdr, eo8, hp_bdr, eo11, hp_bdl]
                      exact ⟨_, rfl, Or.inr ⟨_, eo, rfl, W11⟩, (((((xw_F.rf (ML := [(104, 2, 9), (107, 13, 15), (108, 0, 5), (109, 0, 5), (110, 0, 5), (111, 0, 5), (112, 0, 5), (113, 0, 5), (114, 0, 5), (115, 0, 7), (116, 0, 7), (117, 0, 7), (118, 0, 7), (119, 0, 7), (120, 0, 23)])).tr F3 (fun j i h => xw_o_sub (by decide) j i h)).tr F7 (fun j i h => xw_o_sub (by decide) j i h)).tr F8 (fun j i h => xw_o_sub (by decide) j i h)).tr F11 (fun j i h => xw_o_sub (by decide) j i h))⟩
                    · exfalso
                      omega
            · exfalso
              omega
          · refine xw_istore_n (pc := 63) (L' := [(3, .int (Int32.ofInt (-1))), (1, .long (Int64.ofInt (hp_cv (hp_w t n p3)))), (0, .ref (xw_ad al 103))]) C0 dX3_readFault_63 rfl (by decide) rfl ?_
            refine xw_iload_n (pc := 64) C0 0 dX3_readFault_64 rfl rfl ?_
            refine xw_iconst (pc := 65) C0 dX3_readFault_65 ?_
            refine xw_icmp_ne (pc := 66) (tgt := 73) C0 (by omega) (by omega) dX3_readFault_66 rfl (fun b27 => ?_) (fun b27 => ?_)
            · exfalso
              omega
            · refine xw_iconst (pc := 69) C0 dX3_readFault_69 ?_
              refine xw_goto (pc := 70) (tgt := 84) C0 dX3_readFault_70 rfl ?_
              refine xw_istore (pc := 84) (L' := [(4, .int (Int32.ofInt (-1))), (3, .int (Int32.ofInt (-1))), (1, .long (Int64.ofInt (hp_cv (hp_w t n p3)))), (0, .ref (xw_ad al 103))]) C0 dX3_readFault_84 (by decide) rfl ?_
              refine xw_iload (pc := 86) C0 0 dX3_readFault_86 rfl ?_
              refine xw_iconst (pc := 88) C0 dX3_readFault_88 ?_
              refine xw_icmp_ne (pc := 89) (tgt := 96) C0 (by omega) (by omega) dX3_readFault_89 rfl (fun b28 => ?_) (fun b28 => ?_)
              · exfalso
                omega
              · refine xw_iconst (pc := 92) C0 dX3_readFault_92 ?_
                refine xw_goto (pc := 93) (tgt := 106) C0 dX3_readFault_93 rfl ?_
                refine xw_istore (pc := 106) (L' := [(5, .int (Int32.ofInt (-1))), (4, .int (Int32.ofInt (-1))), (3, .int (Int32.ofInt (-1))), (1, .long (Int64.ofInt (hp_cv (hp_w t n p3)))), (0, .ref (xw_ad al 103))]) C0 dX3_readFault_106 (by decide) rfl ?_
                refine xw_iload (pc := 108) C0 0 dX3_readFault_108 rfl ?_
                refine xw_iconst (pc := 110) C0 dX3_readFault_110 ?_
                refine xw_icmp_ne (pc := 111) (tgt := 118) C0 (by omega) (by omega) dX3_readFault_111 rfl (fun b29 => ?_) (fun b29 => ?_)
                · exfalso
                  omega
                · refine xw_iconst (pc := 114) C0 dX3_readFault_114 ?_
                  refine xw_goto (pc := 115) (tgt := 128) C0 dX3_readFault_115 rfl ?_
                  refine xw_istore (pc := 128) (L' := [(6, .int (Int32.ofInt (-1))), (5, .int (Int32.ofInt (-1))), (4, .int (Int32.ofInt (-1))), (3, .int (Int32.ofInt (-1))), (1, .long (Int64.ofInt (hp_cv (hp_w t n p3)))), (0, .ref (xw_ad al 103))]) C0 dX3_readFault_128 (by decide) rfl ?_
                  refine xw_iload (pc := 130) C0 0 dX3_readFault_130 rfl ?_
                  refine xw_iconst (pc := 132) C0 dX3_readFault_132 ?_
                  refine xw_icmp_eq (pc := 133) (tgt := 148) C0 (by omega) (by omega) dX3_readFault_133 rfl (fun b30 => ?_) (fun b30 => ?_)
                  · refine xw_iconst (pc := 148) C0 dX3_readFault_148 ?_
                    refine xw_iret C0 hA hr hlk rfl dX3_readFault_149 ?_
                    have eo : hp_fault t n lim rd nm pz = .inl er8 := by
                      unfold hp_fault
                      rw [if_neg (by omega), hq3, eo4, hp_bdr, eo8, hp_bdl]
                    exact ⟨_, rfl, Or.inr ⟨_, eo, rfl, W8⟩, ((((xw_F.rf (ML := [(104, 2, 9), (107, 13, 15), (108, 0, 5), (109, 0, 5), (110, 0, 5), (111, 0, 5), (112, 0, 5), (113, 0, 5), (114, 0, 5), (115, 0, 7), (116, 0, 7), (117, 0, 7), (118, 0, 7), (119, 0, 7), (120, 0, 23)])).tr F3 (fun j i h => xw_o_sub (by decide) j i h)).tr F7 (fun j i h => xw_o_sub (by decide) j i h)).tr F8 (fun j i h => xw_o_sub (by decide) j i h))⟩
                  · exfalso
                    omega
        · exfalso
          omega
      · refine xw_if_ne (pc := 32) (tgt := 37) C0 (by omega) dX3_readFault_32 rfl (fun b31 => ?_) (fun b31 => ?_)
        · exfalso
          omega
        · refine xw_iconst (pc := 35) C0 dX3_readFault_35 ?_
          refine xw_iret C0 hA hr hlk rfl dX3_readFault_36 ?_
          have eo : hp_fault t n lim rd nm pz = .inl er4 := by
            unfold hp_fault
            rw [if_neg (by omega), hq3, eo4, hp_bdl]
          exact ⟨_, rfl, Or.inr ⟨_, eo, rfl, W4⟩, (((xw_F.rf (ML := [(104, 2, 9), (107, 13, 15), (108, 0, 5), (109, 0, 5), (110, 0, 5), (111, 0, 5), (112, 0, 5), (113, 0, 5), (114, 0, 5), (115, 0, 7), (116, 0, 7), (117, 0, 7), (118, 0, 7), (119, 0, 7), (120, 0, 23)])).tr F3 (fun j i h => xw_o_sub (by decide) j i h)).tr F4 (fun j i h => xw_o_sub (by decide) j i h))⟩
    · refine xw_aload_n (pc := 12) C0 0 dX3_readFault_12 rfl rfl ?_
      refine xw_getR (pc := 13) (f := 0) C0 104 kcX3 dX3_readFault_13 (by decide) tv_329 (xj_103 hKL) xk_67 rfl ((rfl).trans (xe_103_0 hS.1)) ?_
      refine xw_iconst (pc := 16) C0 dX3_readFault_16 ?_
      refine xw_callVI (pc := 17) (μ := μ) (ci := 6) (rest := []) (As := [.int (Int32.ofInt 4)]) C0 hU hO sa_Tg hKL (xh_refuse (l := l) (v := 4) (by omega) (by omega)) tv_546 dX3_readFault_17 tv_543 tv_544 tv_545 tv_9 rfl yb_X6_refuse (by decide) rfl rfl rfl (by decide) (Nat.le_of_ble_eq_true rfl) (xj_104 hKL) xk_17 (fun r32 m32 w32 => ?_)
      obtain ⟨rfl, w32⟩ := w32
      rcases w32.symm with ⟨w32, -⟩ | ⟨-, x32, y32, F32⟩
      · exfalso
        omega
      have hS_m32 := hc_SF hS F32 (by decide)
      have n_m32 := hS_m32.2.2.1
      have l_m32 := hS_m32.2.2.2.2.1
      have b_m32 := hS_m32.2.2.2.2.2
      refine xw_iret C0 hA hr hlk rfl dX3_readFault_20 ?_
      have eo : hp_fault t n lim rd nm pz = .inl (hp_bad t n lim 4 pz) := if_pos (by omega)
      exact ⟨_, rfl, Or.inr ⟨_, eo, rfl, hc_Wb ⟨by decide, by decide⟩ x32 (y32.trans c3)⟩, ((xw_F.rf (ML := [(104, 2, 9), (107, 13, 15), (108, 0, 5), (109, 0, 5), (110, 0, 5), (111, 0, 5), (112, 0, 5), (113, 0, 5), (114, 0, 5), (115, 0, 7), (116, 0, 7), (117, 0, 7), (118, 0, 7), (119, 0, 7), (120, 0, 23)])).tr F32 (fun j i h => xw_o_sub (by decide) j i h))⟩)
theorem hp_ddb (t : Nat → Int) (n lim p : Nat) : hp_dd t n lim p = -1 ∨ ((0 ≤ hp_dd t n lim p ∧ hp_dd t n lim p ≤ 2) ∧ hp_k t n lim p = 2) := by
  unfold hp_dd
  by_cases h : hp_k t n lim p = 2 ∧ 4 ≤ hp_kw (hp_w t n p) ∧ hp_kw (hp_w t n p) ≤ 6
  · rw [if_pos h]
    exact Or.inr ⟨by omega, h.1⟩
  · rw [if_neg h]
    exact Or.inl rfl
