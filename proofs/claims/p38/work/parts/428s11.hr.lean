set_option maxRecDepth 20000 in
set_option maxHeartbeats 20000000 in
theorem xr_readCures {l : Launch} {t rd nm : Nat → Int} {n lim pz : Nat} {μ : xw_M} (hS : hr_S t n lim μ) (hT : hr_T t n lim pz μ) (hH : hr_H rd nm μ) (hK : hp_ok rd nm) (hk : hp_k t n lim pz = 2) : xw_MetI l vwCl sa_Ts tb_KT0 tc_KL yX12_readCures cX12_readCures 3 (some .boolean) 6 211 (fun ad => [.ref (ad 200)]) μ (fun r μ' => hr_L t n lim (hp_cure t n lim rd nm pz) r μ' ∧ xw_F [(200, 5, 13), (203, 0, 76), (208, 0, 13)] μ μ') :=
  xw_of (by decide +kernel) (fun _ => Nat.le_of_ble_eq_true rfl) (fun p e s m args below meth c D dA A al w0 sz C0 hU hO hKL hr hlk hA => by
    have n_μ := hS.2.2.1
    have l_μ := hS.2.2.2.1
    have b_μ := hS.2.2.2.2
    have hp9 := hT.1
    have c2 := hT.2.1
    have c3 := hT.2.2.1
    have hpl := hp_plb (t := t) (lim := lim) hp9
    have hkb := hp_kb t n lim pz
    have k0 := hK.1
    have k1 := hK.2.1
    have k2 := hK.2.2.1
    have h0 := hH.1 0 (by decide +kernel)
    have h1 := hH.1 1 (by decide +kernel)
    have h2 := hH.1 2 (by decide +kernel)
    have z := h2
    refine xw_aload_n (pc := 0) C0 0 dX12_readCures_0 rfl rfl ?_
    refine xw_iconst (pc := 1) C0 dX12_readCures_1 ?_
    refine xw_bipush (pc := 2) C0 dX12_readCures_2 (by decide +kernel) ?_
    refine xw_callVI (pc := 4) (μ := μ) (ci := 12) (rest := []) (As := [.int (Int32.ofInt 2), .int (Int32.ofInt 16)]) C0 hU hO sa_Tg hKL (xr_readFirst2 (l := l) (rd := rd) (nm := nm) hS hT hH hK hk) tv_1459 dX12_readCures_4 tv_1456 tv_1458 tq_X12_readFirst tv_13 rfl yb_X12_readFirst (by decide +kernel) rfl rfl rfl (by decide +kernel) (Nat.le_of_ble_eq_true rfl) (xj_200 hKL) xk_0 (fun r1 m1 w1 => ?_)
    obtain ⟨w1, F1⟩ := w1
    rcases w1 with ⟨w1, rfl, hT_m1⟩ | ⟨w1, rfl, W1⟩
    · generalize hq1 : hp_x t n pz = p1 at hT_m1
      have hp9_m1 := hT_m1.1
      have c2_m1 := hT_m1.2.1
      have c3_m1 := hT_m1.2.2.1
      have hkb_m1 := hp_kb t n lim p1
      have hpl_m1 := hp_plb (t := t) (lim := lim) hp9_m1
      have hS_m1 := hr_SF hS F1 (by decide +kernel)
      have n_m1 := hS_m1.2.2.1
      have l_m1 := hS_m1.2.2.2.1
      have b_m1 := hS_m1.2.2.2.2
      have hH_m1 := hr_HF hH F1 (by decide +kernel)
      have hK_m1 := hK
      have z_m1 : m1 203 2 = rd 2 := (F1 203 2 rfl).trans z
      have FF_m1 : xw_F [(200, 5, 13), (203, 0, 76), (208, 0, 13)] μ m1 := ((xw_F.rf (ML := [(200, 5, 13), (203, 0, 76), (208, 0, 13)])).tr F1 (fun j i h => xw_o_sub (by decide +kernel) j i h))
      try clear hp9 c2 c3 hkb hpl
      try clear n_μ l_μ b_μ
      refine xw_if_eq (pc := 7) (tgt := 25) C0 (by omega) dX12_readCures_7 rfl (fun b2 => ?_) (fun b2 => ?_)
      · exfalso
        omega
      · refine xw_aload_n (pc := 10) C0 0 dX12_readCures_10 rfl rfl ?_
        refine xw_bipush (pc := 11) C0 dX12_readCures_11 (by decide +kernel) ?_
        refine xw_aload_n (pc := 13) C0 0 dX12_readCures_13 rfl rfl ?_
        refine xw_getR (pc := 14) (f := 15) C0 203 kcX12 dX12_readCures_14 (by decide +kernel) tv_1276 (xj_200 hKL) xk_0 rfl (((F1 200 15 rfl).trans rfl).trans (xe_200_15 hS.1)) ?_
        refine xw_iconst (pc := 17) C0 dX12_readCures_17 ?_
        refine xw_iald (pc := 18) (z := rd 1) C0 dX12_readCures_18 (xj_203 hKL) xk_8 (by omega) (by decide +kernel) rfl (hH_m1.1 1 (by decide +kernel)) (fun g3 k3 => ?_)
        refine xw_nI (congrArg Int32.ofInt (show rd 1 = (((rd 1).toNat : Nat) : Int) by omega)) ?_
        refine xw_callVI (pc := 19) (μ := m1) (ci := 12) (rest := []) (As := [.int (Int32.ofInt 6), .int (Int32.ofInt (((rd 1).toNat : Nat) : Int))]) C0 hU hO sa_Tg hKL (xr_readOne (l := l) (nm := nm) (base := 6) (m9 := (rd 1).toNat) hS_m1 hT_m1 (fun i hi => hH_m1.2.2 i (by omega) (by omega)) (by omega)) tv_1489 dX12_readCures_19 tv_1486 tv_1488 tq_X12_readOne tv_13 rfl yb_X12_readOne (by decide +kernel) rfl rfl rfl (by decide +kernel) (Nat.le_of_ble_eq_true rfl) (xj_200 hKL) xk_0 (fun r4 m4 w4 => ?_)
        obtain ⟨w4, F4⟩ := w4
        rcases w4 with ⟨v4, p4, eo4, rfl, hT_m4, td4⟩ | ⟨er4, eo4, rfl, W4⟩
        · specialize td4 rfl
          have vb4 := (hp_oneR eo4).1
          have hp9_m4 := hT_m4.1
          have c2_m4 := hT_m4.2.1
          have c3_m4 := hT_m4.2.2.1
          have hkb_m4 := hp_kb t n lim p4
          have hpl_m4 := hp_plb (t := t) (lim := lim) hp9_m4
          have hS_m4 := hr_SF hS_m1 F4 (by decide +kernel)
          have n_m4 := hS_m4.2.2.1
          have l_m4 := hS_m4.2.2.2.1
          have b_m4 := hS_m4.2.2.2.2
          have hH_m4 := hr_HF hH_m1 F4 (by decide +kernel)
          have hK_m4 := hK_m1
          have z_m4 : m4 203 2 = rd 2 := (F4 203 2 rfl).trans z_m1
          have FF_m4 : xw_F [(200, 5, 13), (203, 0, 76), (208, 0, 13)] μ m4 := (FF_m1.tr F4 (fun j i h => xw_o_sub (by decide +kernel) j i h))
          try clear hp9_m1 c2_m1 c3_m1 hkb_m1 hpl_m1
          try clear n_m1 l_m1 b_m1
          refine xw_if_ne (pc := 22) (tgt := 27) C0 (by omega) dX12_readCures_22 rfl (fun b5 => ?_) (fun b5 => ?_)
          · refine xw_bipush (pc := 27) C0 dX12_readCures_27 (by decide +kernel) ?_
            refine xw_iconst (pc := 29) C0 dX12_readCures_29 ?_
            refine xw_aload_n (pc := 30) C0 0 dX12_readCures_30 rfl rfl ?_
            refine xw_getI (pc := 31) (f := 13) (z := m4 200 13) C0 kcX12 dX12_readCures_31 (by decide +kernel) tv_1274 (xj_200 hKL) xk_0 rfl (rfl) (fun g6 k6 => ?_)
            refine xw_nI (congrArg Int32.ofInt td4) ?_
            refine xw_imul (pc := 34) C0 dX12_readCures_34 ?_
            refine xw_iadd (pc := 35) C0 dX12_readCures_35 ?_
            refine xw_istore_n (pc := 36) (L' := [(1, .int (Int32.ofInt (53 + (3 * v4)))), (0, .ref (xw_ad al 200))]) C0 dX12_readCures_36 rfl (by decide +kernel) rfl ?_
            refine xw_iconst (pc := 37) C0 dX12_readCures_37 ?_
            refine xw_istore_n (pc := 38) (L' := [(2, .int (Int32.ofInt 3)), (1, .int (Int32.ofInt (53 + (3 * v4)))), (0, .ref (xw_ad al 200))]) C0 dX12_readCures_38 rfl (by decide +kernel) rfl ?_
            refine xw_iload_n (pc := 39) C0 0 dX12_readCures_39 rfl rfl ?_
            refine xw_iconst (pc := 40) C0 dX12_readCures_40 ?_
            refine xw_icmp_gt (pc := 41) (tgt := 58) C0 (by omega) (by omega) dX12_readCures_41 rfl (fun b7 => ?_) (fun b7 => ?_)
            · exfalso
              omega
            · refine xw_aload_n (pc := 44) C0 2 dX12_readCures_44 rfl rfl ?_
              refine xw_iload_n (pc := 45) C0 0 dX12_readCures_45 rfl rfl ?_
              refine xw_callVI (pc := 46) (μ := m4) (ci := 12) (rest := []) (As := [.int (Int32.ofInt 3)]) C0 hU hO sa_Tg hKL (xr_isWord (l := l) (c9 := 3) hS_m4 hT_m4 (by omega)) tv_1445 dX12_readCures_46 tv_1442 tv_1444 tq_X12_isWord tv_13 rfl yb_X12_isWord (by decide +kernel) rfl rfl rfl (by decide +kernel) (Nat.le_of_ble_eq_true rfl) (xj_200 hKL) xk_0 (fun r8 m8 w8 => ?_)
              obtain ⟨rfl, w8⟩ := w8
              rw [show hp_pm 3 = 4 from rfl] at w8
              rcases w8 with ⟨w8, rfl⟩ | ⟨w8, rfl⟩
              · refine xw_if_ne (pc := 49) (tgt := 58) C0 (by omega) dX12_readCures_49 rfl (fun b10 => ?_) (fun b10 => ?_)
                · refine xw_iload_n (pc := 58) C0 0 dX12_readCures_58 rfl rfl ?_
                  refine xw_iconst (pc := 59) C0 dX12_readCures_59 ?_
                  refine xw_icmp_le (pc := 60) (tgt := 69) C0 (by omega) (by omega) dX12_readCures_60 rfl (fun b11 => ?_) (fun b11 => ?_)
                  · refine xw_iload_n (pc := 69) C0 1 dX12_readCures_69 rfl rfl ?_
                    refine xw_iload_n (pc := 70) C0 0 dX12_readCures_70 rfl rfl ?_
                    refine xw_iconst (pc := 71) C0 dX12_readCures_71 ?_
                    refine xw_isub (pc := 72) C0 dX12_readCures_72 ?_
                    refine xw_iadd (pc := 73) C0 dX12_readCures_73 ?_
                    obtain ⟨J, hJ, hJ2⟩ : ∃ J : Nat, (53 + (3 * v4)) + (3 - 3) = ((53 + J : Nat) : Int) ∧ J < 24 := ⟨(3 * v4 + 0).toNat, by omega, by omega⟩
                    refine xw_nI (congrArg Int32.ofInt hJ) ?_
                    have eJ : (53 + 3 * v4 + 0 : Int).toNat = 53 + J := by omega
                    refine xw_istore_n (pc := 74) (L' := [(1, .int (Int32.ofInt ((53 + J : Nat) : Int))), (2, .int (Int32.ofInt 3)), (0, .ref (xw_ad al 200))]) C0 dX12_readCures_74 rfl (by decide +kernel) rfl ?_
                    refine xw_aload_n (pc := 75) C0 2 dX12_readCures_75 rfl rfl ?_
                    refine xw_getR (pc := 76) (f := 15) C0 203 kcX12 dX12_readCures_76 (by decide +kernel) tv_1276 (xj_200 hKL) xk_0 rfl (((F4 200 15 rfl).trans ((F1 200 15 rfl).trans rfl)).trans (xe_200_15 hS.1)) ?_
                    refine xw_iload_n (pc := 79) C0 0 dX12_readCures_79 rfl rfl ?_
                    refine xw_iald (pc := 80) (z := rd (53 + J)) C0 dX12_readCures_80 (xj_203 hKL) xk_8 (by omega) (by decide +kernel) (hr_r53 ⟨J, hJ2⟩) (hH_m4.1 (53 + J) (by omega)) (fun g12 k12 => ?_)
                    refine xw_if_le (pc := 81) (tgt := 90) C0 (by omega) dX12_readCures_81 rfl (fun b13 => ?_) (fun b13 => ?_)
                    · refine xw_aload_n (pc := 90) C0 2 dX12_readCures_90 rfl rfl ?_
                      refine xw_callVV (pc := 91) (μ := m4) (ci := 12) (rest := []) (As := []) C0 hU hO sa_Tg hKL (xr_go (l := l) (pz := hp_x t n p4) hS_m4 (hT_m4.2.2.2.2.2.2 (by omega)) (hp_xb (lim := lim) hp9_m4 (by omega))) tv_1425 dX12_readCures_91 tv_1422 tv_1424 tq_X12_go tv_13 rfl yb_X12_go (by decide +kernel) rfl rfl rfl (by decide +kernel) (Nat.le_of_ble_eq_true rfl) (xj_200 hKL) xk_0 (fun m14 w14 => ?_)
                      obtain ⟨hT_m14, F14⟩ := w14
                      generalize hq14 : hp_x t n p4 = p14 at hT_m14
                      have hp9_m14 := hT_m14.1
                      have c2_m14 := hT_m14.2.1
                      have c3_m14 := hT_m14.2.2.1
                      have hkb_m14 := hp_kb t n lim p14
                      have hpl_m14 := hp_plb (t := t) (lim := lim) hp9_m14
                      have hS_m14 := hr_SF hS_m4 F14 (by decide +kernel)
                      have n_m14 := hS_m14.2.2.1
                      have l_m14 := hS_m14.2.2.2.1
                      have b_m14 := hS_m14.2.2.2.2
                      have hH_m14 := hr_HF hH_m4 F14 (by decide +kernel)
                      have hK_m14 := hK_m4
                      have z_m14 : m14 203 2 = rd 2 := (F14 203 2 rfl).trans z_m4
                      have FF_m14 : xw_F [(200, 5, 13), (203, 0, 76), (208, 0, 13)] μ m14 := (FF_m4.tr F14 (fun j i h => xw_o_sub (by decide +kernel) j i h))
                      try clear hp9_m4 c2_m4 c3_m4 hkb_m4 hpl_m4
                      try clear n_m4 l_m4 b_m4
                      refine xw_aload_n (pc := 94) C0 2 dX12_readCures_94 rfl rfl ?_
                      refine xw_iload_n (pc := 95) C0 0 dX12_readCures_95 rfl rfl ?_
                      refine xw_aload_n (pc := 96) C0 2 dX12_readCures_96 rfl rfl ?_
                      refine xw_iconst (pc := 97) C0 dX12_readCures_97 ?_
                      refine xw_bipush (pc := 98) C0 dX12_readCures_98 (by decide +kernel) ?_
                      refine xw_callVI (pc := 100) (μ := m14) (ci := 12) (rest := [.int (Int32.ofInt ((53 + J : Nat) : Int)), .ref (xw_ad al 200)]) (As := [.int (Int32.ofInt 1), .int (Int32.ofInt 12)]) C0 hU hO sa_Tg hKL (xr_readNumber (l := l) (a := 1) (b := 12) hS_m14 hT_m14 (by omega) (by omega)) tv_1478 dX12_readCures_100 tv_1475 tv_1477 tq_X12_readNumber tv_13 rfl yb_X12_readNumber (by decide +kernel) rfl rfl rfl (by decide +kernel) (Nat.le_of_ble_eq_true rfl) (xj_200 hKL) xk_0 (fun r15 m15 w15 => ?_)
                      obtain ⟨w15, F15⟩ := w15
                      rcases w15 with ⟨v15, p15, eo15, rfl, hT_m15, td15⟩ | ⟨er15, eo15, rfl, W15⟩
                      · specialize td15 rfl
                        have vb15 := (hp_numR eo15).1
                        have hp9_m15 := hT_m15.1
                        have c2_m15 := hT_m15.2.1
                        have c3_m15 := hT_m15.2.2.1
                        have hkb_m15 := hp_kb t n lim p15
                        have hpl_m15 := hp_plb (t := t) (lim := lim) hp9_m15
                        have hS_m15 := hr_SF hS_m14 F15 (by decide +kernel)
                        have n_m15 := hS_m15.2.2.1
                        have l_m15 := hS_m15.2.2.2.1
                        have b_m15 := hS_m15.2.2.2.2
                        have hH_m15 := hr_HF hH_m14 F15 (by decide +kernel)
                        have hK_m15 := hK_m14
                        have z_m15 : m15 203 2 = rd 2 := (F15 203 2 rfl).trans z_m14
                        have FF_m15 : xw_F [(200, 5, 13), (203, 0, 76), (208, 0, 13)] μ m15 := (FF_m14.tr F15 (fun j i h => xw_o_sub (by decide +kernel) j i h))
                        try clear hp9_m14 c2_m14 c3_m14 hkb_m14 hpl_m14
                        try clear n_m14 l_m14 b_m14
                        refine xw_callVI (pc := 103) (μ := m15) (ci := 12) (rest := []) (As := [.int (Int32.ofInt ((53 + J : Nat) : Int)), .int (Int32.ofInt 1)]) C0 hU hO sa_Tg hKL (xr_put (l := l) (a9 := 53 + J) (g9 := 1) hS_m15.1 (by omega) (by omega) (hr_r53 ⟨J, hJ2⟩) (fun _ => by omega)) tv_1485 dX12_readCures_103 tv_1482 tv_1484 tq_X12_put tv_13 rfl yb_X12_put (by decide +kernel) rfl rfl rfl (by decide +kernel) (Nat.le_of_ble_eq_true rfl) (xj_200 hKL) xk_0 (fun r16 m16 w16 => ?_)
                        obtain ⟨-, rfl, A16, F16⟩ := w16.resolve_right (fun q9 => absurd q9.1 (by decide +kernel))
                        rw [td15] at A16
                        have hS_m16 := hr_SF hS_m15 F16 (by decide +kernel)
                        have n_m16 := hS_m16.2.2.1
                        have l_m16 := hS_m16.2.2.2.1
                        have b_m16 := hS_m16.2.2.2.2
                        have hH_m16 := hr_HU hH_m15 (i := 53 + J) (x := v15) (by omega) A16 (fun i => F16 208 i (xw_oj (by decide +kernel) i))
                        have hK_m16 : hp_ok (hp_up rd (53 + J) v15) nm := hp_okN hK_m15 hJ2 (by omega)
                        have z_m16 : m16 203 2 = rd 2 := (A16 2).trans ((if_neg (by omega)).trans z_m15)
                        have hT_m16 := hr_TF hT_m15 F16 (by decide +kernel)
                        have hp9_m16 := hT_m16.1
                        have c2_m16 := hT_m16.2.1
                        have c3_m16 := hT_m16.2.2.1
                        have hkb_m16 := hp_kb t n lim p15
                        have hpl_m16 := hp_plb (t := t) (lim := lim) hp9_m16
                        have FF_m16 : xw_F [(200, 5, 13), (203, 0, 76), (208, 0, 13)] μ m16 := (FF_m15.tr F16 (fun j i h => xw_o_sub (by decide +kernel) j i h))
                        try clear hp9_m15 c2_m15 c3_m15 hkb_m15 hpl_m15
                        try clear n_m15 l_m15 b_m15
                        refine xw_if_ne (pc := 106) (tgt := 111) C0 (by omega) dX12_readCures_106 rfl (fun b17 => ?_) (fun b17 => ?_)
                        · refine xw_aload_n (pc := 111) C0 2 dX12_readCures_111 rfl rfl ?_
                          refine xw_getR (pc := 112) (f := 15) C0 203 kcX12 dX12_readCures_112 (by decide +kernel) tv_1276 (xj_200 hKL) xk_0 rfl (((F16 200 15 rfl).trans ((F15 200 15 rfl).trans ((F14 200 15 rfl).trans ((F4 200 15 rfl).trans ((F1 200 15 rfl).trans rfl))))).trans (xe_200_15 hS.1)) ?_
                          refine xw_iconst (pc := 115) C0 dX12_readCures_115 ?_
                          refine xw_dup2 (pc := 116) C0 dX12_readCures_116 rfl rfl ?_
                          refine xw_iald (pc := 117) (z := rd 2) C0 dX12_readCures_117 (xj_203 hKL) xk_8 (by omega) (by decide +kernel) rfl z_m16 (fun g18 k18 => ?_)
                          refine xw_iconst (pc := 118) C0 dX12_readCures_118 ?_
                          refine xw_iadd (pc := 119) C0 dX12_readCures_119 ?_
                          refine xw_iast (pc := 120) C0 dX12_readCures_120 (xj_203 hKL) xk_8 (by omega) (by decide +kernel) rfl (by omega) (by omega) ?_
                          refine xw_mu (μ' := (xw_u m16 203 2 ((rd 2) + 1))) rfl ?_
                          refine xw_iconst (pc := 121) C0 dX12_readCures_121 ?_
                          refine xw_iret C0 hA hr hlk rfl dX12_readCures_122 ?_
                          have ed : hp_dd t n lim p4 = 0 := (if_pos (by omega)).trans (by omega)
                          have A203 : ∀ i : Nat, (xw_u m16 203 2 ((rd 2) + 1)) 203 i = if i = 2 then rd 2 + 1 else m16 203 i := fun i => xw_ui (fun i => rfl)
                          have Ft1 : xw_F [(203, 2, 2)] m16 (xw_u m16 203 2 ((rd 2) + 1)) := ((xw_F.rf (ML := [(203, 2, 2)])).u (show (203, 2, 2) ∈ _ by decide) ⟨by decide, by decide⟩)
                          have vt1_203_2 : (xw_u m16 203 2 ((rd 2) + 1)) 203 2 = (rd 2) + 1 := xw_ug
                          generalize (xw_u m16 203 2 ((rd 2) + 1)) = t1 at A203 Ft1 vt1_203_2 ⊢
                          have hS_t1 := hr_SF hS_m16 Ft1 (by decide +kernel)
                          have n_t1 := hS_t1.2.2.1
                          have l_t1 := hS_t1.2.2.2.1
                          have b_t1 := hS_t1.2.2.2.2
                          have eo : hp_cure t n lim rd nm pz = hp_bd (hp_end t n lim p15) (fun _ p5 => .inr (p5, (hp_C rd nm v4 0 v15 p15).2.1, (hp_C rd nm v4 0 v15 p15).2.2)) := by
                            unfold hp_cure
                            rw [if_neg (by omega), hq1, eo4, hp_bdr, ed, if_neg (by omega), if_neg (by rw [eJ]; omega), hq14, eo15, hp_bdr]
                            rfl
                          refine ⟨_, rfl, Or.inl ⟨hp_C rd nm v4 0 v15 p15, eo, rfl, hr_TF hT_m16 Ft1 (by decide +kernel), hr_HC hH_m16 eJ A203 (fun i => Ft1 208 i (xw_oj (by decide +kernel) i)), hp_okC hK (by omega) (by omega) (by omega) (by omega)⟩, (FF_m16.tr Ft1 (fun j i h => xw_o_sub (by decide +kernel) j i h))⟩
                        · exfalso
                          omega
                      · have Z15 := hr_ZF (hr_HZ hK_m14 hH_m14) F15 (by decide +kernel)
                        have hS_m15 := hr_SF hS_m14 F15 (by decide +kernel)
                        have n_m15 := hS_m15.2.2.1
                        have l_m15 := hS_m15.2.2.2.1
                        have b_m15 := hS_m15.2.2.2.2
                        have FF_m15 : xw_F [(200, 5, 13), (203, 0, 76), (208, 0, 13)] μ m15 := (FF_m14.tr F15 (fun j i h => xw_o_sub (by decide +kernel) j i h))
                        try clear hp9_m14 c2_m14 c3_m14 hkb_m14 hpl_m14
                        try clear n_m14 l_m14 b_m14
                        refine xw_callVI (pc := 103) (μ := m15) (ci := 12) (rest := []) (As := [.int (Int32.ofInt ((53 + J : Nat) : Int)), .int (Int32.ofInt 0)]) C0 hU hO sa_Tg hKL (xr_put (l := l) (a9 := 53 + J) (g9 := 0) hS_m15.1 (by omega) (by omega) (hr_r53 ⟨J, hJ2⟩) (fun q9 => absurd q9 (by decide +kernel))) tv_1485 dX12_readCures_103 tv_1482 tv_1484 tq_X12_put tv_13 rfl yb_X12_put (by decide +kernel) rfl rfl rfl (by decide +kernel) (Nat.le_of_ble_eq_true rfl) (xj_200 hKL) xk_0 (fun r19 m19 w19 => ?_)
                        obtain ⟨-, rfl, rfl⟩ := w19.resolve_left (fun q9 => absurd q9.1 (by decide +kernel))
                        refine xw_if_ne (pc := 106) (tgt := 111) C0 (by omega) dX12_readCures_106 rfl (fun b20 => ?_) (fun b20 => ?_)
                        · exfalso
                          omega
                        · refine xw_iconst (pc := 109) C0 dX12_readCures_109 ?_
                          refine xw_iret C0 hA hr hlk rfl dX12_readCures_110 ?_
                          have ed : hp_dd t n lim p4 = 0 := (if_pos (by omega)).trans (by omega)
                          have eo : hp_cure t n lim rd nm pz = .inl er15 := by
                            unfold hp_cure
                            rw [if_neg (by omega), hq1, eo4, hp_bdr, ed, if_neg (by omega), if_neg (by rw [eJ]; omega), hq14, eo15, hp_bdl]
                          exact ⟨_, rfl, Or.inr ⟨_, eo, rfl, W15, Z15⟩, FF_m15⟩
                    · refine xw_aload_n (pc := 84) C0 2 dX12_readCures_84 rfl rfl ?_
                      refine xw_iconst (pc := 85) C0 dX12_readCures_85 ?_
                      refine xw_callVI (pc := 86) (μ := m4) (ci := 12) (rest := []) (As := [.int (Int32.ofInt 3)]) C0 hU hO sa_Tg hKL (xr_bad (l := l) (v := 3) hS_m4 hT_m4 (by omega) (by omega)) tv_1463 dX12_readCures_86 tv_1460 tv_1462 tq_X12_bad tv_13 rfl yb_X12_bad (by decide +kernel) rfl rfl rfl (by decide +kernel) (Nat.le_of_ble_eq_true rfl) (xj_200 hKL) xk_0 (fun r21 m21 w21 => ?_)
                      obtain ⟨rfl, W21, F21⟩ := w21
                      have Z21 := hr_ZF (hr_HZ hK_m4 hH_m4) F21 (by decide +kernel)
                      have FF_m21 : xw_F [(200, 5, 13), (203, 0, 76), (208, 0, 13)] μ m21 := (FF_m4.tr F21 (fun j i h => xw_o_sub (by decide +kernel) j i h))
                      try clear hp9_m4 c2_m4 c3_m4 hkb_m4 hpl_m4
                      try clear n_m4 l_m4 b_m4
                      refine xw_iret C0 hA hr hlk rfl dX12_readCures_89 ?_
                      have ed : hp_dd t n lim p4 = 0 := (if_pos (by omega)).trans (by omega)
                      have eo : hp_cure t n lim rd nm pz = .inl (hp_bad t n lim 3 p4) := by
                        unfold hp_cure
                        rw [if_neg (by omega), hq1, eo4, hp_bdr, ed, if_neg (by omega), if_pos (by rw [eJ]; omega)]
                      exact ⟨_, rfl, Or.inr ⟨_, eo, rfl, W21, Z21⟩, FF_m21⟩
                  · exfalso
                    omega
                · exfalso
                  omega
              · refine xw_if_ne (pc := 49) (tgt := 58) C0 (by omega) dX12_readCures_49 rfl (fun b22 => ?_) (fun b22 => ?_)
                · exfalso
                  omega
                · refine xw_iinc (pc := 52) (L' := [(2, .int (Int32.ofInt 4)), (1, .int (Int32.ofInt (53 + (3 * v4)))), (0, .ref (xw_ad al 200))]) C0 0 dX12_readCures_52 rfl (by decide +kernel) rfl ?_
                  refine xw_goto (pc := 55) (tgt := 39) C0 dX12_readCures_55 rfl ?_
                  refine xw_iload_n (pc := 39) C0 0 dX12_readCures_39 rfl rfl ?_
                  refine xw_iconst (pc := 40) C0 dX12_readCures_40 ?_
                  refine xw_icmp_gt (pc := 41) (tgt := 58) C0 (by omega) (by omega) dX12_readCures_41 rfl (fun b23 => ?_) (fun b23 => ?_)
                  · exfalso
                    omega
                  · refine xw_aload_n (pc := 44) C0 2 dX12_readCures_44 rfl rfl ?_
                    refine xw_iload_n (pc := 45) C0 0 dX12_readCures_45 rfl rfl ?_
                    refine xw_callVI (pc := 46) (μ := m4) (ci := 12) (rest := []) (As := [.int (Int32.ofInt 4)]) C0 hU hO sa_Tg hKL (xr_isWord (l := l) (c9 := 4) hS_m4 hT_m4 (by omega)) tv_1445 dX12_readCures_46 tv_1442 tv_1444 tq_X12_isWord tv_13 rfl yb_X12_isWord (by decide +kernel) rfl rfl rfl (by decide +kernel) (Nat.le_of_ble_eq_true rfl) (xj_200 hKL) xk_0 (fun r24 m24 w24 => ?_)
                    obtain ⟨rfl, w24⟩ := w24
                    rw [show hp_pm 4 = 5 from rfl] at w24
                    rcases w24 with ⟨w24, rfl⟩ | ⟨w24, rfl⟩
                    · refine xw_if_ne (pc := 49) (tgt := 58) C0 (by omega) dX12_readCures_49 rfl (fun b25 => ?_) (fun b25 => ?_)
                      · refine xw_iload_n (pc := 58) C0 0 dX12_readCures_58 rfl rfl ?_
                        refine xw_iconst (pc := 59) C0 dX12_readCures_59 ?_
                        refine xw_icmp_le (pc := 60) (tgt := 69) C0 (by omega) (by omega) dX12_readCures_60 rfl (fun b26 => ?_) (fun b26 => ?_)
                        · refine xw_iload_n (pc := 69) C0 1 dX12_readCures_69 rfl rfl ?_
                          refine xw_iload_n (pc := 70) C0 0 dX12_readCures_70 rfl rfl ?_
                          refine xw_iconst (pc := 71) C0 dX12_readCures_71 ?_
                          refine xw_isub (pc := 72) C0 dX12_readCures_72 ?_
                          refine xw_iadd (pc := 73) C0 dX12_readCures_73 ?_
                          obtain ⟨J, hJ, hJ2⟩ : ∃ J : Nat, (53 + (3 * v4)) + (4 - 3) = ((53 + J : Nat) : Int) ∧ J < 24 := ⟨(3 * v4 + 1).toNat, by omega, by omega⟩
                          refine xw_nI (congrArg Int32.ofInt hJ) ?_
                          have eJ : (53 + 3 * v4 + 1 : Int).toNat = 53 + J := by omega
                          refine xw_istore_n (pc := 74) (L' := [(1, .int (Int32.ofInt ((53 + J : Nat) : Int))), (2, .int (Int32.ofInt 4)), (0, .ref (xw_ad al 200))]) C0 dX12_readCures_74 rfl (by decide +kernel) rfl ?_
                          refine xw_aload_n (pc := 75) C0 2 dX12_readCures_75 rfl rfl ?_
                          refine xw_getR (pc := 76) (f := 15) C0 203 kcX12 dX12_readCures_76 (by decide +kernel) tv_1276 (xj_200 hKL) xk_0 rfl (((F4 200 15 rfl).trans ((F1 200 15 rfl).trans rfl)).trans (xe_200_15 hS.1)) ?_
                          refine xw_iload_n (pc := 79) C0 0 dX12_readCures_79 rfl rfl ?_
                          refine xw_iald (pc := 80) (z := rd (53 + J)) C0 dX12_readCures_80 (xj_203 hKL) xk_8 (by omega) (by decide +kernel) (hr_r53 ⟨J, hJ2⟩) (hH_m4.1 (53 + J) (by omega)) (fun g27 k27 => ?_)
                          refine xw_if_le (pc := 81) (tgt := 90) C0 (by omega) dX12_readCures_81 rfl (fun b28 => ?_) (fun b28 => ?_)
                          · refine xw_aload_n (pc := 90) C0 2 dX12_readCures_90 rfl rfl ?_
                            refine xw_callVV (pc := 91) (μ := m4) (ci := 12) (rest := []) (As := []) C0 hU hO sa_Tg hKL (xr_go (l := l) (pz := hp_x t n p4) hS_m4 (hT_m4.2.2.2.2.2.2 (by omega)) (hp_xb (lim := lim) hp9_m4 (by omega))) tv_1425 dX12_readCures_91 tv_1422 tv_1424 tq_X12_go tv_13 rfl yb_X12_go (by decide +kernel) rfl rfl rfl (by decide +kernel) (Nat.le_of_ble_eq_true rfl) (xj_200 hKL) xk_0 (fun m29 w29 => ?_)
                            obtain ⟨hT_m29, F29⟩ := w29
                            generalize hq29 : hp_x t n p4 = p29 at hT_m29
                            have hp9_m29 := hT_m29.1
                            have c2_m29 := hT_m29.2.1
                            have c3_m29 := hT_m29.2.2.1
                            have hkb_m29 := hp_kb t n lim p29
                            have hpl_m29 := hp_plb (t := t) (lim := lim) hp9_m29
                            have hS_m29 := hr_SF hS_m4 F29 (by decide +kernel)
                            have n_m29 := hS_m29.2.2.1
                            have l_m29 := hS_m29.2.2.2.1
                            have b_m29 := hS_m29.2.2.2.2
                            have hH_m29 := hr_HF hH_m4 F29 (by decide +kernel)
                            have hK_m29 := hK_m4
                            have z_m29 : m29 203 2 = rd 2 := (F29 203 2 rfl).trans z_m4
                            have FF_m29 : xw_F [(200, 5, 13), (203, 0, 76), (208, 0, 13)] μ m29 := (FF_m4.tr F29 (fun j i h => xw_o_sub (by decide +kernel) j i h))
                            try clear hp9_m4 c2_m4 c3_m4 hkb_m4 hpl_m4
                            try clear n_m4 l_m4 b_m4
                            refine xw_aload_n (pc := 94) C0 2 dX12_readCures_94 rfl rfl ?_
                            refine xw_iload_n (pc := 95) C0 0 dX12_readCures_95 rfl rfl ?_
                            refine xw_aload_n (pc := 96) C0 2 dX12_readCures_96 rfl rfl ?_
                            refine xw_iconst (pc := 97) C0 dX12_readCures_97 ?_
                            refine xw_bipush (pc := 98) C0 dX12_readCures_98 (by decide +kernel) ?_
                            refine xw_callVI (pc := 100) (μ := m29) (ci := 12) (rest := [.int (Int32.ofInt ((53 + J : Nat) : Int)), .ref (xw_ad al 200)]) (As := [.int (Int32.ofInt 1), .int (Int32.ofInt 12)]) C0 hU hO sa_Tg hKL (xr_readNumber (l := l) (a := 1) (b := 12) hS_m29 hT_m29 (by omega) (by omega)) tv_1478 dX12_readCures_100 tv_1475 tv_1477 tq_X12_readNumber tv_13 rfl yb_X12_readNumber (by decide +kernel) rfl rfl rfl (by decide +kernel) (Nat.le_of_ble_eq_true rfl) (xj_200 hKL) xk_0 (fun r30 m30 w30 => ?_)
                            obtain ⟨w30, F30⟩ := w30
                            rcases w30 with ⟨v30, p30, eo30, rfl, hT_m30, td30⟩ | ⟨er30, eo30, rfl, W30⟩
                            · specialize td30 rfl
                              have vb30 := (hp_numR eo30).1
                              have hp9_m30 := hT_m30.1
                              have c2_m30 := hT_m30.2.1
                              have c3_m30 := hT_m30.2.2.1
                              have hkb_m30 := hp_kb t n lim p30
                              have hpl_m30 := hp_plb (t := t) (lim := lim) hp9_m30
                              have hS_m30 := hr_SF hS_m29 F30 (by decide +kernel)
                              have n_m30 := hS_m30.2.2.1
                              have l_m30 := hS_m30.2.2.2.1
                              have b_m30 := hS_m30.2.2.2.2
                              have hH_m30 := hr_HF hH_m29 F30 (by decide +kernel)
                              have hK_m30 := hK_m29
                              have z_m30 : m30 203 2 = rd 2 := (F30 203 2 rfl).trans z_m29
                              have FF_m30 : xw_F [(200, 5, 13), (203, 0, 76), (208, 0, 13)] μ m30 := (FF_m29.tr F30 (fun j i h => xw_o_sub (by decide +kernel) j i h))
                              try clear hp9_m29 c2_m29 c3_m29 hkb_m29 hpl_m29
                              try clear n_m29 l_m29 b_m29
                              refine xw_callVI (pc := 103) (μ := m30) (ci := 12) (rest := []) (As := [.int (Int32.ofInt ((53 + J : Nat) : Int)), .int (Int32.ofInt 1)]) C0 hU hO sa_Tg hKL (xr_put (l := l) (a9 := 53 + J) (g9 := 1) hS_m30.1 (by omega) (by omega) (hr_r53 ⟨J, hJ2⟩) (fun _ => by omega)) tv_1485 dX12_readCures_103 tv_1482 tv_1484 tq_X12_put tv_13 rfl yb_X12_put (by decide +kernel) rfl rfl rfl (by decide +kernel) (Nat.le_of_ble_eq_true rfl) (xj_200 hKL) xk_0 (fun r31 m31 w31 => ?_)
                              obtain ⟨-, rfl, A31, F31⟩ := w31.resolve_right (fun q9 => absurd q9.1 (by decide +kernel))
                              rw [td30] at A31
                              have hS_m31 := hr_SF hS_m30 F31 (by decide +kernel)
                              have n_m31 := hS_m31.2.2.1
                              have l_m31 := hS_m31.2.2.2.1
                              have b_m31 := hS_m31.2.2.2.2
                              have hH_m31 := hr_HU hH_m30 (i := 53 + J) (x := v30) (by omega) A31 (fun i => F31 208 i (xw_oj (by decide +kernel) i))
                              have hK_m31 : hp_ok (hp_up rd (53 + J) v30) nm := hp_okN hK_m30 hJ2 (by omega)
                              have z_m31 : m31 203 2 = rd 2 := (A31 2).trans ((if_neg (by omega)).trans z_m30)
                              have hT_m31 := hr_TF hT_m30 F31 (by decide +kernel)
                              have hp9_m31 := hT_m31.1
                              have c2_m31 := hT_m31.2.1
                              have c3_m31 := hT_m31.2.2.1
                              have hkb_m31 := hp_kb t n lim p30
                              have hpl_m31 := hp_plb (t := t) (lim := lim) hp9_m31
                              have FF_m31 : xw_F [(200, 5, 13), (203, 0, 76), (208, 0, 13)] μ m31 := (FF_m30.tr F31 (fun j i h => xw_o_sub (by decide +kernel) j i h))
                              try clear hp9_m30 c2_m30 c3_m30 hkb_m30 hpl_m30
                              try clear n_m30 l_m30 b_m30
                              refine xw_if_ne (pc := 106) (tgt := 111) C0 (by omega) dX12_readCures_106 rfl (fun b32 => ?_) (fun b32 => ?_)
                              · refine xw_aload_n (pc := 111) C0 2 dX12_readCures_111 rfl rfl ?_
                                refine xw_getR (pc := 112) (f := 15) C0 203 kcX12 dX12_readCures_112 (by decide +kernel) tv_1276 (xj_200 hKL) xk_0 rfl (((F31 200 15 rfl).trans ((F30 200 15 rfl).trans ((F29 200 15 rfl).trans ((F4 200 15 rfl).trans ((F1 200 15 rfl).trans rfl))))).trans (xe_200_15 hS.1)) ?_
                                refine xw_iconst (pc := 115) C0 dX12_readCures_115 ?_
                                refine xw_dup2 (pc := 116) C0 dX12_readCures_116 rfl rfl ?_
                                refine xw_iald (pc := 117) (z := rd 2) C0 dX12_readCures_117 (xj_203 hKL) xk_8 (by omega) (by decide +kernel) rfl z_m31 (fun g33 k33 => ?_)
                                refine xw_iconst (pc := 118) C0 dX12_readCures_118 ?_
                                refine xw_iadd (pc := 119) C0 dX12_readCures_119 ?_
                                refine xw_iast (pc := 120) C0 dX12_readCures_120 (xj_203 hKL) xk_8 (by omega) (by decide +kernel) rfl (by omega) (by omega) ?_
                                refine xw_mu (μ' := (xw_u m31 203 2 ((rd 2) + 1))) rfl ?_
                                refine xw_iconst (pc := 121) C0 dX12_readCures_121 ?_
                                refine xw_iret C0 hA hr hlk rfl dX12_readCures_122 ?_
                                have ed : hp_dd t n lim p4 = 1 := (if_pos (by omega)).trans (by omega)
                                have A203 : ∀ i : Nat, (xw_u m31 203 2 ((rd 2) + 1)) 203 i = if i = 2 then rd 2 + 1 else m31 203 i := fun i => xw_ui (fun i => rfl)
                                have Ft2 : xw_F [(203, 2, 2)] m31 (xw_u m31 203 2 ((rd 2) + 1)) := ((xw_F.rf (ML := [(203, 2, 2)])).u (show (203, 2, 2) ∈ _ by decide) ⟨by decide, by decide⟩)
                                have vt2_203_2 : (xw_u m31 203 2 ((rd 2) + 1)) 203 2 = (rd 2) + 1 := xw_ug
                                generalize (xw_u m31 203 2 ((rd 2) + 1)) = t2 at A203 Ft2 vt2_203_2 ⊢
                                have hS_t2 := hr_SF hS_m31 Ft2 (by decide +kernel)
                                have n_t2 := hS_t2.2.2.1
                                have l_t2 := hS_t2.2.2.2.1
                                have b_t2 := hS_t2.2.2.2.2
                                have eo : hp_cure t n lim rd nm pz = hp_bd (hp_end t n lim p30) (fun _ p5 => .inr (p5, (hp_C rd nm v4 1 v30 p30).2.1, (hp_C rd nm v4 1 v30 p30).2.2)) := by
                                  unfold hp_cure
                                  rw [if_neg (by omega), hq1, eo4, hp_bdr, ed, if_neg (by omega), if_neg (by rw [eJ]; omega), hq29, eo30, hp_bdr]
                                  rfl
                                refine ⟨_, rfl, Or.inl ⟨hp_C rd nm v4 1 v30 p30, eo, rfl, hr_TF hT_m31 Ft2 (by decide +kernel), hr_HC hH_m31 eJ A203 (fun i => Ft2 208 i (xw_oj (by decide +kernel) i)), hp_okC hK (by omega) (by omega) (by omega) (by omega)⟩, (FF_m31.tr Ft2 (fun j i h => xw_o_sub (by decide +kernel) j i h))⟩
                              · exfalso
                                omega
                            · have Z30 := hr_ZF (hr_HZ hK_m29 hH_m29) F30 (by decide +kernel)
                              have hS_m30 := hr_SF hS_m29 F30 (by decide +kernel)
                              have n_m30 := hS_m30.2.2.1
                              have l_m30 := hS_m30.2.2.2.1
                              have b_m30 := hS_m30.2.2.2.2
                              have FF_m30 : xw_F [(200, 5, 13), (203, 0, 76), (208, 0, 13)] μ m30 := (FF_m29.tr F30 (fun j i h => xw_o_sub (by decide +kernel) j i h))
                              try clear hp9_m29 c2_m29 c3_m29 hkb_m29 hpl_m29
                              try clear n_m29 l_m29 b_m29
                              refine xw_callVI (pc := 103) (μ := m30) (ci := 12) (rest := []) (As := [.int (Int32.ofInt ((53 + J : Nat) : Int)), .int (Int32.ofInt 0)]) C0 hU hO sa_Tg hKL (xr_put (l := l) (a9 := 53 + J) (g9 := 0) hS_m30.1 (by omega) (by omega) (hr_r53 ⟨J, hJ2⟩) (fun q9 => absurd q9 (by decide +kernel))) tv_1485 dX12_readCures_103 tv_1482 tv_1484 tq_X12_put tv_13 rfl yb_X12_put (by decide +kernel) rfl rfl rfl (by decide +kernel) (Nat.le_of_ble_eq_true rfl) (xj_200 hKL) xk_0 (fun r34 m34 w34 => ?_)
                              obtain ⟨-, rfl, rfl⟩ := w34.resolve_left (fun q9 => absurd q9.1 (by decide +kernel))
                              refine xw_if_ne (pc := 106) (tgt := 111) C0 (by omega) dX12_readCures_106 rfl (fun b35 => ?_) (fun b35 => ?_)
                              · exfalso
                                omega
                              · refine xw_iconst (pc := 109) C0 dX12_readCures_109 ?_
                                refine xw_iret C0 hA hr hlk rfl dX12_readCures_110 ?_
                                have ed : hp_dd t n lim p4 = 1 := (if_pos (by omega)).trans (by omega)
                                have eo : hp_cure t n lim rd nm pz = .inl er30 := by
                                  unfold hp_cure
                                  rw [if_neg (by omega), hq1, eo4, hp_bdr, ed, if_neg (by omega), if_neg (by rw [eJ]; omega), hq29, eo30, hp_bdl]
                                exact ⟨_, rfl, Or.inr ⟨_, eo, rfl, W30, Z30⟩, FF_m30⟩
                          · refine xw_aload_n (pc := 84) C0 2 dX12_readCures_84 rfl rfl ?_
                            refine xw_iconst (pc := 85) C0 dX12_readCures_85 ?_
                            refine xw_callVI (pc := 86) (μ := m4) (ci := 12) (rest := []) (As := [.int (Int32.ofInt 3)]) C0 hU hO sa_Tg hKL (xr_bad (l := l) (v := 3) hS_m4 hT_m4 (by omega) (by omega)) tv_1463 dX12_readCures_86 tv_1460 tv_1462 tq_X12_bad tv_13 rfl yb_X12_bad (by decide +kernel) rfl rfl rfl (by decide +kernel) (Nat.le_of_ble_eq_true rfl) (xj_200 hKL) xk_0 (fun r36 m36 w36 => ?_)
                            obtain ⟨rfl, W36, F36⟩ := w36
                            have Z36 := hr_ZF (hr_HZ hK_m4 hH_m4) F36 (by decide +kernel)
                            have FF_m36 : xw_F [(200, 5, 13), (203, 0, 76), (208, 0, 13)] μ m36 := (FF_m4.tr F36 (fun j i h => xw_o_sub (by decide +kernel) j i h))
                            try clear hp9_m4 c2_m4 c3_m4 hkb_m4 hpl_m4
                            try clear n_m4 l_m4 b_m4
                            refine xw_iret C0 hA hr hlk rfl dX12_readCures_89 ?_
                            have ed : hp_dd t n lim p4 = 1 := (if_pos (by omega)).trans (by omega)
                            have eo : hp_cure t n lim rd nm pz = .inl (hp_bad t n lim 3 p4) := by
                              unfold hp_cure
                              rw [if_neg (by omega), hq1, eo4, hp_bdr, ed, if_neg (by omega), if_pos (by rw [eJ]; omega)]
                            exact ⟨_, rfl, Or.inr ⟨_, eo, rfl, W36, Z36⟩, FF_m36⟩
                        · exfalso
                          omega
                      · exfalso
                        omega
                    · refine xw_if_ne (pc := 49) (tgt := 58) C0 (by omega) dX12_readCures_49 rfl (fun b37 => ?_) (fun b37 => ?_)
                      · exfalso
                        omega
                      · refine xw_iinc (pc := 52) (L' := [(2, .int (Int32.ofInt 5)), (1, .int (Int32.ofInt (53 + (3 * v4)))), (0, .ref (xw_ad al 200))]) C0 0 dX12_readCures_52 rfl (by decide +kernel) rfl ?_
                        refine xw_goto (pc := 55) (tgt := 39) C0 dX12_readCures_55 rfl ?_
                        refine xw_iload_n (pc := 39) C0 0 dX12_readCures_39 rfl rfl ?_
                        refine xw_iconst (pc := 40) C0 dX12_readCures_40 ?_
                        refine xw_icmp_gt (pc := 41) (tgt := 58) C0 (by omega) (by omega) dX12_readCures_41 rfl (fun b38 => ?_) (fun b38 => ?_)
                        · exfalso
                          omega
                        · refine xw_aload_n (pc := 44) C0 2 dX12_readCures_44 rfl rfl ?_
                          refine xw_iload_n (pc := 45) C0 0 dX12_readCures_45 rfl rfl ?_
                          refine xw_callVI (pc := 46) (μ := m4) (ci := 12) (rest := []) (As := [.int (Int32.ofInt 5)]) C0 hU hO sa_Tg hKL (xr_isWord (l := l) (c9 := 5) hS_m4 hT_m4 (by omega)) tv_1445 dX12_readCures_46 tv_1442 tv_1444 tq_X12_isWord tv_13 rfl yb_X12_isWord (by decide +kernel) rfl rfl rfl (by decide +kernel) (Nat.le_of_ble_eq_true rfl) (xj_200 hKL) xk_0 (fun r39 m39 w39 => ?_)
                          obtain ⟨rfl, w39⟩ := w39
                          rw [show hp_pm 5 = 6 from rfl] at w39
                          rcases w39 with ⟨w39, rfl⟩ | ⟨w39, rfl⟩
                          · refine xw_if_ne (pc := 49) (tgt := 58) C0 (by omega) dX12_readCures_49 rfl (fun b40 => ?_) (fun b40 => ?_)
                            · refine xw_iload_n (pc := 58) C0 0 dX12_readCures_58 rfl rfl ?_
                              refine xw_iconst (pc := 59) C0 dX12_readCures_59 ?_
                              refine xw_icmp_le (pc := 60) (tgt := 69) C0 (by omega) (by omega) dX12_readCures_60 rfl (fun b41 => ?_) (fun b41 => ?_)
                              · refine xw_iload_n (pc := 69) C0 1 dX12_readCures_69 rfl rfl ?_
                                refine xw_iload_n (pc := 70) C0 0 dX12_readCures_70 rfl rfl ?_
                                refine xw_iconst (pc := 71) C0 dX12_readCures_71 ?_
                                refine xw_isub (pc := 72) C0 dX12_readCures_72 ?_
                                refine xw_iadd (pc := 73) C0 dX12_readCures_73 ?_
                                obtain ⟨J, hJ, hJ2⟩ : ∃ J : Nat, (53 + (3 * v4)) + (5 - 3) = ((53 + J : Nat) : Int) ∧ J < 24 := ⟨(3 * v4 + 2).toNat, by omega, by omega⟩
                                refine xw_nI (congrArg Int32.ofInt hJ) ?_
                                have eJ : (53 + 3 * v4 + 2 : Int).toNat = 53 + J := by omega
                                refine xw_istore_n (pc := 74) (L' := [(1, .int (Int32.ofInt ((53 + J : Nat) : Int))), (2, .int (Int32.ofInt 5)), (0, .ref (xw_ad al 200))]) C0 dX12_readCures_74 rfl (by decide +kernel) rfl ?_
                                refine xw_aload_n (pc := 75) C0 2 dX12_readCures_75 rfl rfl ?_
                                refine xw_getR (pc := 76) (f := 15) C0 203 kcX12 dX12_readCures_76 (by decide +kernel) tv_1276 (xj_200 hKL) xk_0 rfl (((F4 200 15 rfl).trans ((F1 200 15 rfl).trans rfl)).trans (xe_200_15 hS.1)) ?_
                                refine xw_iload_n (pc := 79) C0 0 dX12_readCures_79 rfl rfl ?_
                                refine xw_iald (pc := 80) (z := rd (53 + J)) C0 dX12_readCures_80 (xj_203 hKL) xk_8 (by omega) (by decide +kernel) (hr_r53 ⟨J, hJ2⟩) (hH_m4.1 (53 + J) (by omega)) (fun g42 k42 => ?_)
                                refine xw_if_le (pc := 81) (tgt := 90) C0 (by omega) dX12_readCures_81 rfl (fun b43 => ?_) (fun b43 => ?_)
                                · refine xw_aload_n (pc := 90) C0 2 dX12_readCures_90 rfl rfl ?_
                                  refine xw_callVV (pc := 91) (μ := m4) (ci := 12) (rest := []) (As := []) C0 hU hO sa_Tg hKL (xr_go (l := l) (pz := hp_x t n p4) hS_m4 (hT_m4.2.2.2.2.2.2 (by omega)) (hp_xb (lim := lim) hp9_m4 (by omega))) tv_1425 dX12_readCures_91 tv_1422 tv_1424 tq_X12_go tv_13 rfl yb_X12_go (by decide +kernel) rfl rfl rfl (by decide +kernel) (Nat.le_of_ble_eq_true rfl) (xj_200 hKL) xk_0 (fun m44 w44 => ?_)
                                  obtain ⟨hT_m44, F44⟩ := w44
                                  generalize hq44 : hp_x t n p4 = p44 at hT_m44
                                  have hp9_m44 := hT_m44.1
                                  have c2_m44 := hT_m44.2.1
                                  have c3_m44 := hT_m44.2.2.1
                                  have hkb_m44 := hp_kb t n lim p44
                                  have hpl_m44 := hp_plb (t := t) (lim := lim) hp9_m44
                                  have hS_m44 := hr_SF hS_m4 F44 (by decide +kernel)
                                  have n_m44 := hS_m44.2.2.1
                                  have l_m44 := hS_m44.2.2.2.1
                                  have b_m44 := hS_m44.2.2.2.2
                                  have hH_m44 := hr_HF hH_m4 F44 (by decide +kernel)
                                  have hK_m44 := hK_m4
                                  have z_m44 : m44 203 2 = rd 2 := (F44 203 2 rfl).trans z_m4
                                  have FF_m44 : xw_F [(200, 5, 13), (203, 0, 76), (208, 0, 13)] μ m44 := (FF_m4.tr F44 (fun j i h => xw_o_sub (by decide +kernel) j i h))
                                  try clear hp9_m4 c2_m4 c3_m4 hkb_m4 hpl_m4
                                  try clear n_m4 l_m4 b_m4
                                  refine xw_aload_n (pc := 94) C0 2 dX12_readCures_94 rfl rfl ?_
                                  refine xw_iload_n (pc := 95) C0 0 dX12_readCures_95 rfl rfl ?_
                                  refine xw_aload_n (pc := 96) C0 2 dX12_readCures_96 rfl rfl ?_
                                  refine xw_iconst (pc := 97) C0 dX12_readCures_97 ?_
                                  refine xw_bipush (pc := 98) C0 dX12_readCures_98 (by decide +kernel) ?_
                                  refine xw_callVI (pc := 100) (μ := m44) (ci := 12) (rest := [.int (Int32.ofInt ((53 + J : Nat) : Int)), .ref (xw_ad al 200)]) (As := [.int (Int32.ofInt 1), .int (Int32.ofInt 12)]) C0 hU hO sa_Tg hKL (xr_readNumber (l := l) (a := 1) (b := 12) hS_m44 hT_m44 (by omega) (by omega)) tv_1478 dX12_readCures_100 tv_1475 tv_1477 tq_X12_readNumber tv_13 rfl yb_X12_readNumber (by decide +kernel) rfl rfl rfl (by decide +kernel) (Nat.le_of_ble_eq_true rfl) (xj_200 hKL) xk_0 (fun r45 m45 w45 => ?_)
                                  obtain ⟨w45, F45⟩ := w45
                                  rcases w45 with ⟨v45, p45, eo45, rfl, hT_m45, td45⟩ | ⟨er45, eo45, rfl, W45⟩
                                  · specialize td45 rfl
                                    have vb45 := (hp_numR eo45).1
                                    have hp9_m45 := hT_m45.1
                                    have c2_m45 := hT_m45.2.1
                                    have c3_m45 := hT_m45.2.2.1
                                    have hkb_m45 := hp_kb t n lim p45
                                    have hpl_m45 := hp_plb (t := t) (lim := lim) hp9_m45
                                    have hS_m45 := hr_SF hS_m44 F45 (by decide +kernel)
                                    have n_m45 := hS_m45.2.2.1
                                    have l_m45 := hS_m45.2.2.2.1
                                    have b_m45 := hS_m45.2.2.2.2
                                    have hH_m45 := hr_HF hH_m44 F45 (by decide +kernel)
                                    have hK_m45 := hK_m44
                                    have z_m45 : m45 203 2 = rd 2 := (F45 203 2 rfl).trans z_m44
                                    have FF_m45 : xw_F [(200, 5, 13), (203, 0, 76), (208, 0, 13)] μ m45 := (FF_m44.tr F45 (fun j i h => xw_o_sub (by decide +kernel) j i h))
                                    try clear hp9_m44 c2_m44 c3_m44 hkb_m44 hpl_m44
                                    try clear n_m44 l_m44 b_m44
                                    refine xw_callVI (pc := 103) (μ := m45) (ci := 12) (rest := []) (As := [.int (Int32.ofInt ((53 + J : Nat) : Int)), .int (Int32.ofInt 1)]) C0 hU hO sa_Tg hKL (xr_put (l := l) (a9 := 53 + J) (g9 := 1) hS_m45.1 (by omega) (by omega) (hr_r53 ⟨J, hJ2⟩) (fun _ => by omega)) tv_1485 dX12_readCures_103 tv_1482 tv_1484 tq_X12_put tv_13 rfl yb_X12_put (by decide +kernel) rfl rfl rfl (by decide +kernel) (Nat.le_of_ble_eq_true rfl) (xj_200 hKL) xk_0 (fun r46 m46 w46 => ?_)
                                    obtain ⟨-, rfl, A46, F46⟩ := w46.resolve_right (fun q9 => absurd q9.1 (by decide +kernel))
                                    rw [td45] at A46
                                    have hS_m46 := hr_SF hS_m45 F46 (by decide +kernel)
                                    have n_m46 := hS_m46.2.2.1
                                    have l_m46 := hS_m46.2.2.2.1
                                    have b_m46 := hS_m46.2.2.2.2
                                    have hH_m46 := hr_HU hH_m45 (i := 53 + J) (x := v45) (by omega) A46 (fun i => F46 208 i (xw_oj (by decide +kernel) i))
                                    have hK_m46 : hp_ok (hp_up rd (53 + J) v45) nm := hp_okN hK_m45 hJ2 (by omega)
                                    have z_m46 : m46 203 2 = rd 2 := (A46 2).trans ((if_neg (by omega)).trans z_m45)
                                    have hT_m46 := hr_TF hT_m45 F46 (by decide +kernel)
                                    have hp9_m46 := hT_m46.1
                                    have c2_m46 := hT_m46.2.1
                                    have c3_m46 := hT_m46.2.2.1
                                    have hkb_m46 := hp_kb t n lim p45
                                    have hpl_m46 := hp_plb (t := t) (lim := lim) hp9_m46
                                    have FF_m46 : xw_F [(200, 5, 13), (203, 0, 76), (208, 0, 13)] μ m46 := (FF_m45.tr F46 (fun j i h => xw_o_sub (by decide +kernel) j i h))
                                    try clear hp9_m45 c2_m45 c3_m45 hkb_m45 hpl_m45
                                    try clear n_m45 l_m45 b_m45
                                    refine xw_if_ne (pc := 106) (tgt := 111) C0 (by omega) dX12_readCures_106 rfl (fun b47 => ?_) (fun b47 => ?_)
                                    · refine xw_aload_n (pc := 111) C0 2 dX12_readCures_111 rfl rfl ?_
                                      refine xw_getR (pc := 112) (f := 15) C0 203 kcX12 dX12_readCures_112 (by decide +kernel) tv_1276 (xj_200 hKL) xk_0 rfl (((F46 200 15 rfl).trans ((F45 200 15 rfl).trans ((F44 200 15 rfl).trans ((F4 200 15 rfl).trans ((F1 200 15 rfl).trans rfl))))).trans (xe_200_15 hS.1)) ?_
                                      refine xw_iconst (pc := 115) C0 dX12_readCures_115 ?_
                                      refine xw_dup2 (pc := 116) C0 dX12_readCures_116 rfl rfl ?_
                                      refine xw_iald (pc := 117) (z := rd 2) C0 dX12_readCures_117 (xj_203 hKL) xk_8 (by omega) (by decide +kernel) rfl z_m46 (fun g48 k48 => ?_)
                                      refine xw_iconst (pc := 118) C0 dX12_readCures_118 ?_
                                      refine xw_iadd (pc := 119) C0 dX12_readCures_119 ?_
                                      refine xw_iast (pc := 120) C0 dX12_readCures_120 (xj_203 hKL) xk_8 (by omega) (by decide +kernel) rfl (by omega) (by omega) ?_
                                      refine xw_mu (μ' := (xw_u m46 203 2 ((rd 2) + 1))) rfl ?_
                                      refine xw_iconst (pc := 121) C0 dX12_readCures_121 ?_
                                      refine xw_iret C0 hA hr hlk rfl dX12_readCures_122 ?_
                                      have ed : hp_dd t n lim p4 = 2 := (if_pos (by omega)).trans (by omega)
                                      have A203 : ∀ i : Nat, (xw_u m46 203 2 ((rd 2) + 1)) 203 i = if i = 2 then rd 2 + 1 else m46 203 i := fun i => xw_ui (fun i => rfl)
                                      have Ft3 : xw_F [(203, 2, 2)] m46 (xw_u m46 203 2 ((rd 2) + 1)) := ((xw_F.rf (ML := [(203, 2, 2)])).u (show (203, 2, 2) ∈ _ by decide) ⟨by decide, by decide⟩)
                                      have vt3_203_2 : (xw_u m46 203 2 ((rd 2) + 1)) 203 2 = (rd 2) + 1 := xw_ug
                                      generalize (xw_u m46 203 2 ((rd 2) + 1)) = t3 at A203 Ft3 vt3_203_2 ⊢
                                      have hS_t3 := hr_SF hS_m46 Ft3 (by decide +kernel)
                                      have n_t3 := hS_t3.2.2.1
                                      have l_t3 := hS_t3.2.2.2.1
                                      have b_t3 := hS_t3.2.2.2.2
                                      have eo : hp_cure t n lim rd nm pz = hp_bd (hp_end t n lim p45) (fun _ p5 => .inr (p5, (hp_C rd nm v4 2 v45 p45).2.1, (hp_C rd nm v4 2 v45 p45).2.2)) := by
                                        unfold hp_cure
                                        rw [if_neg (by omega), hq1, eo4, hp_bdr, ed, if_neg (by omega), if_neg (by rw [eJ]; omega), hq44, eo45, hp_bdr]
                                        rfl
                                      refine ⟨_, rfl, Or.inl ⟨hp_C rd nm v4 2 v45 p45, eo, rfl, hr_TF hT_m46 Ft3 (by decide +kernel), hr_HC hH_m46 eJ A203 (fun i => Ft3 208 i (xw_oj (by decide +kernel) i)), hp_okC hK (by omega) (by omega) (by omega) (by omega)⟩, (FF_m46.tr Ft3 (fun j i h => xw_o_sub (by decide +kernel) j i h))⟩
                                    · exfalso
                                      omega
                                  · have Z45 := hr_ZF (hr_HZ hK_m44 hH_m44) F45 (by decide +kernel)
                                    have hS_m45 := hr_SF hS_m44 F45 (by decide +kernel)
                                    have n_m45 := hS_m45.2.2.1
                                    have l_m45 := hS_m45.2.2.2.1
                                    have b_m45 := hS_m45.2.2.2.2
                                    have FF_m45 : xw_F [(200, 5, 13), (203, 0, 76), (208, 0, 13)] μ m45 := (FF_m44.tr F45 (fun j i h => xw_o_sub (by decide +kernel) j i h))
                                    try clear hp9_m44 c2_m44 c3_m44 hkb_m44 hpl_m44
                                    try clear n_m44 l_m44 b_m44
                                    refine xw_callVI (pc := 103) (μ := m45) (ci := 12) (rest := []) (As := [.int (Int32.ofInt ((53 + J : Nat) : Int)), .int (Int32.ofInt 0)]) C0 hU hO sa_Tg hKL (xr_put (l := l) (a9 := 53 + J) (g9 := 0) hS_m45.1 (by omega) (by omega) (hr_r53 ⟨J, hJ2⟩) (fun q9 => absurd q9 (by decide +kernel))) tv_1485 dX12_readCures_103 tv_1482 tv_1484 tq_X12_put tv_13 rfl yb_X12_put (by decide +kernel) rfl rfl rfl (by decide +kernel) (Nat.le_of_ble_eq_true rfl) (xj_200 hKL) xk_0 (fun r49 m49 w49 => ?_)
                                    obtain ⟨-, rfl, rfl⟩ := w49.resolve_left (fun q9 => absurd q9.1 (by decide +kernel))
                                    refine xw_if_ne (pc := 106) (tgt := 111) C0 (by omega) dX12_readCures_106 rfl (fun b50 => ?_) (fun b50 => ?_)
                                    · exfalso
                                      omega
                                    · refine xw_iconst (pc := 109) C0 dX12_readCures_109 ?_
                                      refine xw_iret C0 hA hr hlk rfl dX12_readCures_110 ?_
                                      have ed : hp_dd t n lim p4 = 2 := (if_pos (by omega)).trans (by omega)
                                      have eo : hp_cure t n lim rd nm pz = .inl er45 := by
                                        unfold hp_cure
                                        rw [if_neg (by omega), hq1, eo4, hp_bdr, ed, if_neg (by omega), if_neg (by rw [eJ]; omega), hq44, eo45, hp_bdl]
                                      exact ⟨_, rfl, Or.inr ⟨_, eo, rfl, W45, Z45⟩, FF_m45⟩
                                · refine xw_aload_n (pc := 84) C0 2 dX12_readCures_84 rfl rfl ?_
                                  refine xw_iconst (pc := 85) C0 dX12_readCures_85 ?_
                                  refine xw_callVI (pc := 86) (μ := m4) (ci := 12) (rest := []) (As := [.int (Int32.ofInt 3)]) C0 hU hO sa_Tg hKL (xr_bad (l := l) (v := 3) hS_m4 hT_m4 (by omega) (by omega)) tv_1463 dX12_readCures_86 tv_1460 tv_1462 tq_X12_bad tv_13 rfl yb_X12_bad (by decide +kernel) rfl rfl rfl (by decide +kernel) (Nat.le_of_ble_eq_true rfl) (xj_200 hKL) xk_0 (fun r51 m51 w51 => ?_)
                                  obtain ⟨rfl, W51, F51⟩ := w51
                                  have Z51 := hr_ZF (hr_HZ hK_m4 hH_m4) F51 (by decide +kernel)
                                  have FF_m51 : xw_F [(200, 5, 13), (203, 0, 76), (208, 0, 13)] μ m51 := (FF_m4.tr F51 (fun j i h => xw_o_sub (by decide +kernel) j i h))
                                  try clear hp9_m4 c2_m4 c3_m4 hkb_m4 hpl_m4
                                  try clear n_m4 l_m4 b_m4
                                  refine xw_iret C0 hA hr hlk rfl dX12_readCures_89 ?_
                                  have ed : hp_dd t n lim p4 = 2 := (if_pos (by omega)).trans (by omega)
                                  have eo : hp_cure t n lim rd nm pz = .inl (hp_bad t n lim 3 p4) := by
                                    unfold hp_cure
                                    rw [if_neg (by omega), hq1, eo4, hp_bdr, ed, if_neg (by omega), if_pos (by rw [eJ]; omega)]
                                  exact ⟨_, rfl, Or.inr ⟨_, eo, rfl, W51, Z51⟩, FF_m51⟩
                              · exfalso
                                omega
                            · exfalso
                              omega
                          · refine xw_if_ne (pc := 49) (tgt := 58) C0 (by omega) dX12_readCures_49 rfl (fun b52 => ?_) (fun b52 => ?_)
                            · exfalso
                              omega
                            · refine xw_iinc (pc := 52) (L' := [(2, .int (Int32.ofInt 6)), (1, .int (Int32.ofInt (53 + (3 * v4)))), (0, .ref (xw_ad al 200))]) C0 0 dX12_readCures_52 rfl (by decide +kernel) rfl ?_
                              refine xw_goto (pc := 55) (tgt := 39) C0 dX12_readCures_55 rfl ?_
                              refine xw_iload_n (pc := 39) C0 0 dX12_readCures_39 rfl rfl ?_
                              refine xw_iconst (pc := 40) C0 dX12_readCures_40 ?_
                              refine xw_icmp_gt (pc := 41) (tgt := 58) C0 (by omega) (by omega) dX12_readCures_41 rfl (fun b53 => ?_) (fun b53 => ?_)
                              · refine xw_iload_n (pc := 58) C0 0 dX12_readCures_58 rfl rfl ?_
                                refine xw_iconst (pc := 59) C0 dX12_readCures_59 ?_
                                refine xw_icmp_le (pc := 60) (tgt := 69) C0 (by omega) (by omega) dX12_readCures_60 rfl (fun b54 => ?_) (fun b54 => ?_)
                                · exfalso
                                  omega
                                · refine xw_aload_n (pc := 63) C0 2 dX12_readCures_63 rfl rfl ?_
                                  refine xw_iconst (pc := 64) C0 dX12_readCures_64 ?_
                                  refine xw_callVI (pc := 65) (μ := m4) (ci := 12) (rest := []) (As := [.int (Int32.ofInt 1)]) C0 hU hO sa_Tg hKL (xr_bad (l := l) (v := 1) hS_m4 hT_m4 (by omega) (by omega)) tv_1463 dX12_readCures_65 tv_1460 tv_1462 tq_X12_bad tv_13 rfl yb_X12_bad (by decide +kernel) rfl rfl rfl (by decide +kernel) (Nat.le_of_ble_eq_true rfl) (xj_200 hKL) xk_0 (fun r55 m55 w55 => ?_)
                                  obtain ⟨rfl, W55, F55⟩ := w55
                                  have Z55 := hr_ZF (hr_HZ hK_m4 hH_m4) F55 (by decide +kernel)
                                  have FF_m55 : xw_F [(200, 5, 13), (203, 0, 76), (208, 0, 13)] μ m55 := (FF_m4.tr F55 (fun j i h => xw_o_sub (by decide +kernel) j i h))
                                  try clear hp9_m4 c2_m4 c3_m4 hkb_m4 hpl_m4
                                  try clear n_m4 l_m4 b_m4
                                  refine xw_iret C0 hA hr hlk rfl dX12_readCures_68 ?_
                                  have ed : hp_dd t n lim p4 = -1 := if_neg (by omega)
                                  have eo : hp_cure t n lim rd nm pz = .inl (hp_bad t n lim 1 p4) := by
                                    unfold hp_cure
                                    rw [if_neg (by omega), hq1, eo4, hp_bdr, if_pos ed]
                                  exact ⟨_, rfl, Or.inr ⟨_, eo, rfl, W55, Z55⟩, FF_m55⟩
                              · exfalso
                                omega
          · exfalso
            omega
        · have Z4 := hr_ZF (hr_HZ hK_m1 hH_m1) F4 (by decide +kernel)
          have hS_m4 := hr_SF hS_m1 F4 (by decide +kernel)
          have n_m4 := hS_m4.2.2.1
          have l_m4 := hS_m4.2.2.2.1
          have b_m4 := hS_m4.2.2.2.2
          have FF_m4 : xw_F [(200, 5, 13), (203, 0, 76), (208, 0, 13)] μ m4 := (FF_m1.tr F4 (fun j i h => xw_o_sub (by decide +kernel) j i h))
          try clear hp9_m1 c2_m1 c3_m1 hkb_m1 hpl_m1
          try clear n_m1 l_m1 b_m1
          refine xw_if_ne (pc := 22) (tgt := 27) C0 (by omega) dX12_readCures_22 rfl (fun b56 => ?_) (fun b56 => ?_)
          · exfalso
            omega
          · refine xw_iconst (pc := 25) C0 dX12_readCures_25 ?_
            refine xw_iret C0 hA hr hlk rfl dX12_readCures_26 ?_
            have eo : hp_cure t n lim rd nm pz = .inl er4 := by
              unfold hp_cure
              rw [if_neg (by omega), hq1, eo4, hp_bdl]
            exact ⟨_, rfl, Or.inr ⟨_, eo, rfl, W4, Z4⟩, FF_m4⟩
    · have FF_m1 : xw_F [(200, 5, 13), (203, 0, 76), (208, 0, 13)] μ m1 := ((xw_F.rf (ML := [(200, 5, 13), (203, 0, 76), (208, 0, 13)])).tr F1 (fun j i h => xw_o_sub (by decide +kernel) j i h))
      try clear hp9 c2 c3 hkb hpl
      try clear n_μ l_μ b_μ
      refine xw_if_eq (pc := 7) (tgt := 25) C0 (by omega) dX12_readCures_7 rfl (fun b57 => ?_) (fun b57 => ?_)
      · refine xw_iconst (pc := 25) C0 dX12_readCures_25 ?_
        refine xw_iret C0 hA hr hlk rfl dX12_readCures_26 ?_
        have eo : hp_cure t n lim rd nm pz = .inl (hp_bad t n lim 4 pz) := if_pos (by omega)
        exact ⟨_, rfl, Or.inr ⟨_, eo, rfl, W1, hr_ZF (hr_HZ hK hH) F1 (by decide +kernel)⟩, FF_m1⟩
      · exfalso
        omega)
