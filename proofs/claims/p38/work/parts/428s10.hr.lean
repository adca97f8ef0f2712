set_option maxRecDepth 20000 in
set_option maxHeartbeats 20000000 in
theorem xr_readFault {l : Launch} {t rd nm : Nat → Int} {n lim pz : Nat} {μ : xw_M} (hS : hr_S t n lim μ) (hT : hr_T t n lim pz μ) (hH : hr_H rd nm μ) (hK : hp_ok rd nm) (hk : hp_k t n lim pz = 2) : xw_MetI l vwCl sa_Ts tb_KT0 tc_KL yX12_readFault cX12_readFault 2 (some .boolean) 6 211 (fun ad => [.ref (ad 200)]) μ (fun r μ' => hr_L t n lim (hp_fault t n lim rd nm pz) r μ' ∧ xw_F [(200, 5, 13), (203, 0, 76), (208, 0, 13)] μ μ') :=
  xw_of (by decide +kernel) (fun _ => Nat.le_of_ble_eq_true rfl) (fun p e s m args below meth c D dA A al w0 sz C0 hU hO hKL hr hlk hA => by
    have n_μ := hS.2.2.1
    have l_μ := hS.2.2.2.1
    have b_μ := hS.2.2.2.2
    have hp9 := hT.1
    have c2 := hT.2.1
    have c3 := hT.2.2.1
    have hpl := hp_plb (t := t) (lim := lim) hp9
    have hkb := hp_kb t n lim pz
    have k0 := hK.1
    have k1 := hK.2.1
    have k2 := hK.2.2.1
    have h0 := hH.1 0 (by decide +kernel)
    have h1 := hH.1 1 (by decide +kernel)
    have h2 := hH.1 2 (by decide +kernel)
    have z := h1
    obtain ⟨T, hT1⟩ : ∃ T : Nat, rd 1 = (T : Int) := ⟨(rd 1).toNat, by omega⟩
    refine xw_aload_n (pc := 0) C0 0 dX12_readFault_0 rfl rfl ?_
    refine xw_iconst (pc := 1) C0 dX12_readFault_1 ?_
    refine xw_bipush (pc := 2) C0 dX12_readFault_2 (by decide +kernel) ?_
    refine xw_callVI (pc := 4) (μ := μ) (ci := 12) (rest := []) (As := [.int (Int32.ofInt 1), .int (Int32.ofInt 8)]) C0 hU hO sa_Tg hKL (xr_readFirst1 (l := l) (rd := rd) (nm := nm) hS hT hH hK hk) tv_1459 dX12_readFault_4 tv_1456 tv_1458 tq_X12_readFirst tv_13 rfl yb_X12_readFirst (by decide +kernel) rfl rfl rfl (by decide +kernel) (Nat.le_of_ble_eq_true rfl) (xj_200 hKL) xk_0 (fun r1 m1 w1 => ?_)
    obtain ⟨w1, F1⟩ := w1
    rcases w1 with ⟨w1, rfl, hT_m1⟩ | ⟨w1, rfl, W1⟩
    · generalize hq1 : hp_x t n pz = p1 at hT_m1
      have hp9_m1 := hT_m1.1
      have c2_m1 := hT_m1.2.1
      have c3_m1 := hT_m1.2.2.1
      have hkb_m1 := hp_kb t n lim p1
      have hpl_m1 := hp_plb (t := t) (lim := lim) hp9_m1
      have hS_m1 := hr_SF hS F1 (by decide +kernel)
      have n_m1 := hS_m1.2.2.1
      have l_m1 := hS_m1.2.2.2.1
      have b_m1 := hS_m1.2.2.2.2
      have hH_m1 := hr_HF hH F1 (by decide +kernel)
      have hK_m1 := hK
      have z_m1 : m1 203 1 = rd 1 := (F1 203 1 rfl).trans z
      have FF_m1 : xw_F [(200, 5, 13), (203, 0, 76), (208, 0, 13)] μ m1 := ((xw_F.rf (ML := [(200, 5, 13), (203, 0, 76), (208, 0, 13)])).tr F1 (fun j i h => xw_o_sub (by decide +kernel) j i h))
      try clear hp9 c2 c3 hkb hpl
      try clear n_μ l_μ b_μ
      refine xw_if_ne (pc := 7) (tgt := 12) C0 (by omega) dX12_readFault_7 rfl (fun b2 => ?_) (fun b2 => ?_)
      · refine xw_aload_n (pc := 12) C0 0 dX12_readFault_12 rfl rfl ?_
        refine xw_getR (pc := 13) (f := 15) C0 203 kcX12 dX12_readFault_13 (by decide +kernel) tv_1276 (xj_200 hKL) xk_0 rfl (((F1 200 15 rfl).trans rfl).trans (xe_200_15 hS.1)) ?_
        refine xw_iconst (pc := 16) C0 dX12_readFault_16 ?_
        refine xw_iald (pc := 17) (z := rd 1) C0 dX12_readFault_17 (xj_203 hKL) xk_8 (by omega) (by decide +kernel) rfl z_m1 (fun g3 k3 => ?_)
        refine xw_nI (congrArg Int32.ofInt hT1) ?_
        refine xw_istore_n (pc := 18) (L' := [(1, .int (Int32.ofInt (T : Int))), (0, .ref (xw_ad al 200))]) C0 dX12_readFault_18 rfl (by decide +kernel) rfl ?_
        refine xw_aload_n (pc := 19) C0 1 dX12_readFault_19 rfl rfl ?_
        refine xw_bipush (pc := 20) C0 dX12_readFault_20 (by decide +kernel) ?_
        refine xw_iload_n (pc := 22) C0 0 dX12_readFault_22 rfl rfl ?_
        refine xw_iadd (pc := 23) C0 dX12_readFault_23 ?_
        refine xw_nI (congrArg Int32.ofInt (show (6 : Int) + (T : Int) = ((6 + T : Nat) : Int) by omega)) ?_
        refine xw_callVI (pc := 24) (μ := m1) (ci := 12) (rest := []) (As := [.int (Int32.ofInt ((6 + T : Nat) : Int))]) C0 hU hO sa_Tg hKL (xr_readNew (l := l) (rd := rd) (nm := nm) (s9 := (6 + T)) hS_m1 hT_m1 hH_m1 hK_m1 (by omega)) tv_1467 dX12_readFault_24 tv_1464 tv_1466 tq_X12_readNew tv_13 rfl yb_X12_readNew (by decide +kernel) rfl rfl rfl (by decide +kernel) (Nat.le_of_ble_eq_true rfl) (xj_200 hKL) xk_0 (fun r4 m4 w4 => ?_)
        obtain ⟨w4, F4⟩ := w4
        rcases w4 with ⟨eo4, rfl, hT_m4, A4⟩ | ⟨er4, eo4, rfl, W4, A4⟩
        · obtain ⟨hv4, -, hk4⟩ := hp_newR eo4
          generalize hq4 : hp_x t n p1 = p4 at hT_m4 eo4
          have hp9_m4 := hT_m4.1
          have c2_m4 := hT_m4.2.1
          have c3_m4 := hT_m4.2.2.1
          have hkb_m4 := hp_kb t n lim p4
          have hpl_m4 := hp_plb (t := t) (lim := lim) hp9_m4
          have hS_m4 := hr_SF hS_m1 F4 (by decide +kernel)
          have n_m4 := hS_m4.2.2.1
          have l_m4 := hS_m4.2.2.2.1
          have b_m4 := hS_m4.2.2.2.2
          have hH_m4 := hr_HN hH_m1 (s9 := (6 + T)) (fun k => ⟨fun a b => by omega, fun a b => by omega⟩) A4 (fun i => F4 203 i (xw_oj (by decide +kernel) i))
          have hK_m4 := hK_m1
          have z_m4 : m4 203 1 = rd 1 := (F4 203 1 rfl).trans z_m1
          have n9_m4 : m4 208 (6 + T) = hp_w t n p1 := (A4 _).trans (if_pos rfl)
          have FF_m4 : xw_F [(200, 5, 13), (203, 0, 76), (208, 0, 13)] μ m4 := (FF_m1.tr F4 (fun j i h => xw_o_sub (by decide +kernel) j i h))
          try clear hp9_m1 c2_m1 c3_m1 hkb_m1 hpl_m1
          try clear n_m1 l_m1 b_m1
          refine xw_if_eq (pc := 27) (tgt := 52) C0 (by omega) dX12_readFault_27 rfl (fun b5 => ?_) (fun b5 => ?_)
          · exfalso
            omega
          · refine xw_aload_n (pc := 30) C0 1 dX12_readFault_30 rfl rfl ?_
            refine xw_bipush (pc := 31) C0 dX12_readFault_31 (by decide +kernel) ?_
            refine xw_iload_n (pc := 33) C0 0 dX12_readFault_33 rfl rfl ?_
            refine xw_iadd (pc := 34) C0 dX12_readFault_34 ?_
            refine xw_nI (congrArg Int32.ofInt (show (21 : Int) + (T : Int) = ((21 + T : Nat) : Int) by omega)) ?_
            refine xw_aload_n (pc := 35) C0 1 dX12_readFault_35 rfl rfl ?_
            refine xw_iconst (pc := 36) C0 dX12_readFault_36 ?_
            refine xw_aload_n (pc := 37) C0 1 dX12_readFault_37 rfl rfl ?_
            refine xw_getR (pc := 38) (f := 15) C0 203 kcX12 dX12_readFault_38 (by decide +kernel) tv_1276 (xj_200 hKL) xk_0 rfl (((F4 200 15 rfl).trans ((F1 200 15 rfl).trans rfl)).trans (xe_200_15 hS.1)) ?_
            refine xw_iconst (pc := 41) C0 dX12_readFault_41 ?_
            refine xw_iald (pc := 42) (z := rd 0) C0 dX12_readFault_42 (xj_203 hKL) xk_8 (by omega) (by decide +kernel) rfl (hH_m4.1 0 (by decide +kernel)) (fun g6 k6 => ?_)
            refine xw_nI (congrArg Int32.ofInt (show rd 0 = (((rd 0).toNat : Nat) : Int) by omega)) ?_
            refine xw_callVI (pc := 43) (μ := m4) (ci := 12) (rest := [.int (Int32.ofInt ((21 + T : Nat) : Int)), .ref (xw_ad al 200)]) (As := [.int (Int32.ofInt 0), .int (Int32.ofInt (((rd 0).toNat : Nat) : Int))]) C0 hU hO sa_Tg hKL (xr_readOne (l := l) (nm := nm) (base := 0) (m9 := (rd 0).toNat) hS_m4 hT_m4 (fun i hi => by rw [Nat.zero_add]; exact hH_m4.2.1 i (by omega) (by omega)) (by omega)) tv_1489 dX12_readFault_43 tv_1486 tv_1488 tq_X12_readOne tv_13 rfl yb_X12_readOne (by decide +kernel) rfl rfl rfl (by decide +kernel) (Nat.le_of_ble_eq_true rfl) (xj_200 hKL) xk_0 (fun r7 m7 w7 => ?_)
            obtain ⟨w7, F7⟩ := w7
            rcases w7 with ⟨v7, p7, eo7, rfl, hT_m7, td7⟩ | ⟨er7, eo7, rfl, W7⟩
            · specialize td7 rfl
              have vb7 := (hp_oneR eo7).1
              have hp9_m7 := hT_m7.1
              have c2_m7 := hT_m7.2.1
              have c3_m7 := hT_m7.2.2.1
              have hkb_m7 := hp_kb t n lim p7
              have hpl_m7 := hp_plb (t := t) (lim := lim) hp9_m7
              have hS_m7 := hr_SF hS_m4 F7 (by decide +kernel)
              have n_m7 := hS_m7.2.2.1
              have l_m7 := hS_m7.2.2.2.1
              have b_m7 := hS_m7.2.2.2.2
              have hH_m7 := hr_HF hH_m4 F7 (by decide +kernel)
              have hK_m7 := hK_m4
              have z_m7 : m7 203 1 = rd 1 := (F7 203 1 rfl).trans z_m4
              have n9_m7 : m7 208 (6 + T) = hp_w t n p1 := (F7 208 _ (xw_oj (by decide +kernel) _)).trans n9_m4
              have FF_m7 : xw_F [(200, 5, 13), (203, 0, 76), (208, 0, 13)] μ m7 := (FF_m4.tr F7 (fun j i h => xw_o_sub (by decide +kernel) j i h))
              try clear hp9_m4 c2_m4 c3_m4 hkb_m4 hpl_m4
              try clear n_m4 l_m4 b_m4
              refine xw_callVI (pc := 46) (μ := m7) (ci := 12) (rest := []) (As := [.int (Int32.ofInt ((21 + T : Nat) : Int)), .int (Int32.ofInt 1)]) C0 hU hO sa_Tg hKL (xr_put (l := l) (a9 := 21 + T) (g9 := 1) hS_m7.1 (by omega) (by omega) (hr_r21 ⟨T, by omega⟩) (fun _ => by omega)) tv_1485 dX12_readFault_46 tv_1482 tv_1484 tq_X12_put tv_13 rfl yb_X12_put (by decide +kernel) rfl rfl rfl (by decide +kernel) (Nat.le_of_ble_eq_true rfl) (xj_200 hKL) xk_0 (fun r8 m8 w8 => ?_)
              obtain ⟨-, rfl, A8, F8⟩ := w8.resolve_right (fun q9 => absurd q9.1 (by decide +kernel))
              rw [td7] at A8
              have hS_m8 := hr_SF hS_m7 F8 (by decide +kernel)
              have n_m8 := hS_m8.2.2.1
              have l_m8 := hS_m8.2.2.2.1
              have b_m8 := hS_m8.2.2.2.2
              have hH_m8 := hr_HU hH_m7 (i := 21 + T) (x := v7) (by omega) A8 (fun i => F8 208 i (xw_oj (by decide +kernel) i))
              have hK_m8 : hp_ok (hp_up rd (21 + T) v7) nm := hp_okU hK_m7 (by omega) (by omega) (fun k => ⟨fun a b => by omega, fun a b => by omega⟩)
              have z_m8 : m8 203 1 = rd 1 := (A8 1).trans ((if_neg (by omega)).trans z_m7)
              have n9_m8 : m8 208 (6 + T) = hp_w t n p1 := (F8 208 _ (xw_oj (by decide +kernel) _)).trans n9_m7
              have hT_m8 := hr_TF hT_m7 F8 (by decide +kernel)
              have hp9_m8 := hT_m8.1
              have c2_m8 := hT_m8.2.1
              have c3_m8 := hT_m8.2.2.1
              have hkb_m8 := hp_kb t n lim p7
              have hpl_m8 := hp_plb (t := t) (lim := lim) hp9_m8
              have FF_m8 : xw_F [(200, 5, 13), (203, 0, 76), (208, 0, 13)] μ m8 := (FF_m7.tr F8 (fun j i h => xw_o_sub (by decide +kernel) j i h))
              try clear hp9_m7 c2_m7 c3_m7 hkb_m7 hpl_m7
              try clear n_m7 l_m7 b_m7
              refine xw_if_ne (pc := 49) (tgt := 54) C0 (by omega) dX12_readFault_49 rfl (fun b10 => ?_) (fun b10 => ?_)
              · refine xw_aload_n (pc := 54) C0 1 dX12_readFault_54 rfl rfl ?_
                refine xw_bipush (pc := 55) C0 dX12_readFault_55 (by decide +kernel) ?_
                refine xw_iload_n (pc := 57) C0 0 dX12_readFault_57 rfl rfl ?_
                refine xw_iadd (pc := 58) C0 dX12_readFault_58 ?_
                refine xw_nI (congrArg Int32.ofInt (show (29 : Int) + (T : Int) = ((29 + T : Nat) : Int) by omega)) ?_
                refine xw_aload_n (pc := 59) C0 1 dX12_readFault_59 rfl rfl ?_
                refine xw_iconst (pc := 60) C0 dX12_readFault_60 ?_
                refine xw_sipush (pc := 61) C0 dX12_readFault_61 (by decide +kernel) ?_
                refine xw_callVI (pc := 64) (μ := m8) (ci := 12) (rest := [.int (Int32.ofInt ((29 + T : Nat) : Int)), .ref (xw_ad al 200)]) (As := [.int (Int32.ofInt 0), .int (Int32.ofInt 200)]) C0 hU hO sa_Tg hKL (xr_readNumber (l := l) (a := 0) (b := 200) hS_m8 hT_m8 (by omega) (by omega)) tv_1478 dX12_readFault_64 tv_1475 tv_1477 tq_X12_readNumber tv_13 rfl yb_X12_readNumber (by decide +kernel) rfl rfl rfl (by decide +kernel) (Nat.le_of_ble_eq_true rfl) (xj_200 hKL) xk_0 (fun r11 m11 w11 => ?_)
                obtain ⟨w11, F11⟩ := w11
                rcases w11 with ⟨v11, p11, eo11, rfl, hT_m11, td11⟩ | ⟨er11, eo11, rfl, W11⟩
                · specialize td11 rfl
                  have vb11 := (hp_numR eo11).1
                  have hp9_m11 := hT_m11.1
                  have c2_m11 := hT_m11.2.1
                  have c3_m11 := hT_m11.2.2.1
                  have hkb_m11 := hp_kb t n lim p11
                  have hpl_m11 := hp_plb (t := t) (lim := lim) hp9_m11
                  have hS_m11 := hr_SF hS_m8 F11 (by decide +kernel)
                  have n_m11 := hS_m11.2.2.1
                  have l_m11 := hS_m11.2.2.2.1
                  have b_m11 := hS_m11.2.2.2.2
                  have hH_m11 := hr_HF hH_m8 F11 (by decide +kernel)
                  have hK_m11 := hK_m8
                  have z_m11 : m11 203 1 = rd 1 := (F11 203 1 rfl).trans z_m8
                  have n9_m11 : m11 208 (6 + T) = hp_w t n p1 := (F11 208 _ (xw_oj (by decide +kernel) _)).trans n9_m8
                  have FF_m11 : xw_F [(200, 5, 13), (203, 0, 76), (208, 0, 13)] μ m11 := (FF_m8.tr F11 (fun j i h => xw_o_sub (by decide +kernel) j i h))
                  try clear hp9_m8 c2_m8 c3_m8 hkb_m8 hpl_m8
                  try clear n_m8 l_m8 b_m8
                  refine xw_callVI (pc := 67) (μ := m11) (ci := 12) (rest := []) (As := [.int (Int32.ofInt ((29 + T : Nat) : Int)), .int (Int32.ofInt 1)]) C0 hU hO sa_Tg hKL (xr_put (l := l) (a9 := 29 + T) (g9 := 1) hS_m11.1 (by omega) (by omega) (hr_r29 ⟨T, by omega⟩) (fun _ => by omega)) tv_1485 dX12_readFault_67 tv_1482 tv_1484 tq_X12_put tv_13 rfl yb_X12_put (by decide +kernel) rfl rfl rfl (by decide +kernel) (Nat.le_of_ble_eq_true rfl) (xj_200 hKL) xk_0 (fun r12 m12 w12 => ?_)
                  obtain ⟨-, rfl, A12, F12⟩ := w12.resolve_right (fun q9 => absurd q9.1 (by decide +kernel))
                  rw [td11] at A12
                  have hS_m12 := hr_SF hS_m11 F12 (by decide +kernel)
                  have n_m12 := hS_m12.2.2.1
                  have l_m12 := hS_m12.2.2.2.1
                  have b_m12 := hS_m12.2.2.2.2
                  have hH_m12 := hr_HU hH_m11 (i := 29 + T) (x := v11) (by omega) A12 (fun i => F12 208 i (xw_oj (by decide +kernel) i))
                  have hK_m12 : hp_ok (hp_up (hp_up rd (21 + T) v7) (29 + T) v11) nm := hp_okU hK_m11 (by omega) (by omega) (fun k => ⟨fun a b => by omega, fun a b => by rw [show (hp_up rd (21 + T) v7) 1 = rd 1 from by rw [hp_upn (by omega)]] at b; omega⟩)
                  have z_m12 : m12 203 1 = rd 1 := (A12 1).trans ((if_neg (by omega)).trans z_m11)
                  have n9_m12 : m12 208 (6 + T) = hp_w t n p1 := (F12 208 _ (xw_oj (by decide +kernel) _)).trans n9_m11
                  have hT_m12 := hr_TF hT_m11 F12 (by decide +kernel)
                  have hp9_m12 := hT_m12.1
                  have c2_m12 := hT_m12.2.1
                  have c3_m12 := hT_m12.2.2.1
                  have hkb_m12 := hp_kb t n lim p11
                  have hpl_m12 := hp_plb (t := t) (lim := lim) hp9_m12
                  have FF_m12 : xw_F [(200, 5, 13), (203, 0, 76), (208, 0, 13)] μ m12 := (FF_m11.tr F12 (fun j i h => xw_o_sub (by decide +kernel) j i h))
                  try clear hp9_m11 c2_m11 c3_m11 hkb_m11 hpl_m11
                  try clear n_m11 l_m11 b_m11
                  refine xw_if_eq (pc := 70) (tgt := 109) C0 (by omega) dX12_readFault_70 rfl (fun b13 => ?_) (fun b13 => ?_)
                  · exfalso
                    omega
                  · refine xw_aload_n (pc := 73) C0 1 dX12_readFault_73 rfl rfl ?_
                    refine xw_bipush (pc := 74) C0 dX12_readFault_74 (by decide +kernel) ?_
                    refine xw_iload_n (pc := 76) C0 0 dX12_readFault_76 rfl rfl ?_
                    refine xw_iadd (pc := 77) C0 dX12_readFault_77 ?_
                    refine xw_nI (congrArg Int32.ofInt (show (37 : Int) + (T : Int) = ((37 + T : Nat) : Int) by omega)) ?_
                    refine xw_aload_n (pc := 78) C0 1 dX12_readFault_78 rfl rfl ?_
                    refine xw_iconst (pc := 79) C0 dX12_readFault_79 ?_
                    refine xw_bipush (pc := 80) C0 dX12_readFault_80 (by decide +kernel) ?_
                    refine xw_callVI (pc := 82) (μ := m12) (ci := 12) (rest := [.int (Int32.ofInt ((37 + T : Nat) : Int)), .ref (xw_ad al 200)]) (As := [.int (Int32.ofInt 1), .int (Int32.ofInt 99)]) C0 hU hO sa_Tg hKL (xr_readNumber (l := l) (a := 1) (b := 99) hS_m12 hT_m12 (by omega) (by omega)) tv_1478 dX12_readFault_82 tv_1475 tv_1477 tq_X12_readNumber tv_13 rfl yb_X12_readNumber (by decide +kernel) rfl rfl rfl (by decide +kernel) (Nat.le_of_ble_eq_true rfl) (xj_200 hKL) xk_0 (fun r14 m14 w14 => ?_)
                    obtain ⟨w14, F14⟩ := w14
                    rcases w14 with ⟨v14, p14, eo14, rfl, hT_m14, td14⟩ | ⟨er14, eo14, rfl, W14⟩
                    · specialize td14 rfl
                      have vb14 := (hp_numR eo14).1
                      have hp9_m14 := hT_m14.1
                      have c2_m14 := hT_m14.2.1
                      have c3_m14 := hT_m14.2.2.1
                      have hkb_m14 := hp_kb t n lim p14
                      have hpl_m14 := hp_plb (t := t) (lim := lim) hp9_m14
                      have hS_m14 := hr_SF hS_m12 F14 (by decide +kernel)
                      have n_m14 := hS_m14.2.2.1
                      have l_m14 := hS_m14.2.2.2.1
                      have b_m14 := hS_m14.2.2.2.2
                      have hH_m14 := hr_HF hH_m12 F14 (by decide +kernel)
                      have hK_m14 := hK_m12
                      have z_m14 : m14 203 1 = rd 1 := (F14 203 1 rfl).trans z_m12
                      have n9_m14 : m14 208 (6 + T) = hp_w t n p1 := (F14 208 _ (xw_oj (by decide +kernel) _)).trans n9_m12
                      have FF_m14 : xw_F [(200, 5, 13), (203, 0, 76), (208, 0, 13)] μ m14 := (FF_m12.tr F14 (fun j i h => xw_o_sub (by decide +kernel) j i h))
                      try clear hp9_m12 c2_m12 c3_m12 hkb_m12 hpl_m12
                      try clear n_m12 l_m12 b_m12
                      refine xw_callVI (pc := 85) (μ := m14) (ci := 12) (rest := []) (As := [.int (Int32.ofInt ((37 + T : Nat) : Int)), .int (Int32.ofInt 1)]) C0 hU hO sa_Tg hKL (xr_put (l := l) (a9 := 37 + T) (g9 := 1) hS_m14.1 (by omega) (by omega) (hr_r37 ⟨T, by omega⟩) (fun _ => by omega)) tv_1485 dX12_readFault_85 tv_1482 tv_1484 tq_X12_put tv_13 rfl yb_X12_put (by decide +kernel) rfl rfl rfl (by decide +kernel) (Nat.le_of_ble_eq_true rfl) (xj_200 hKL) xk_0 (fun r15 m15 w15 => ?_)
                      obtain ⟨-, rfl, A15, F15⟩ := w15.resolve_right (fun q9 => absurd q9.1 (by decide +kernel))
                      rw [td14] at A15
                      have hS_m15 := hr_SF hS_m14 F15 (by decide +kernel)
                      have n_m15 := hS_m15.2.2.1
                      have l_m15 := hS_m15.2.2.2.1
                      have b_m15 := hS_m15.2.2.2.2
                      have hH_m15 := hr_HU hH_m14 (i := 37 + T) (x := v14) (by omega) A15 (fun i => F15 208 i (xw_oj (by decide +kernel) i))
                      have hK_m15 : hp_ok (hp_up (hp_up (hp_up rd (21 + T) v7) (29 + T) v11) (37 + T) v14) nm := hp_okU hK_m14 (by omega) (by omega) (fun k => ⟨fun a b => by omega, fun a b => by rw [show (hp_up (hp_up rd (21 + T) v7) (29 + T) v11) 1 = rd 1 from by rw [hp_upn (by omega), hp_upn (by omega)]] at b; omega⟩)
                      have z_m15 : m15 203 1 = rd 1 := (A15 1).trans ((if_neg (by omega)).trans z_m14)
                      have n9_m15 : m15 208 (6 + T) = hp_w t n p1 := (F15 208 _ (xw_oj (by decide +kernel) _)).trans n9_m14
                      have hT_m15 := hr_TF hT_m14 F15 (by decide +kernel)
                      have hp9_m15 := hT_m15.1
                      have c2_m15 := hT_m15.2.1
                      have c3_m15 := hT_m15.2.2.1
                      have hkb_m15 := hp_kb t n lim p14
                      have hpl_m15 := hp_plb (t := t) (lim := lim) hp9_m15
                      have FF_m15 : xw_F [(200, 5, 13), (203, 0, 76), (208, 0, 13)] μ m15 := (FF_m14.tr F15 (fun j i h => xw_o_sub (by decide +kernel) j i h))
                      try clear hp9_m14 c2_m14 c3_m14 hkb_m14 hpl_m14
                      try clear n_m14 l_m14 b_m14
                      refine xw_if_eq (pc := 88) (tgt := 109) C0 (by omega) dX12_readFault_88 rfl (fun b16 => ?_) (fun b16 => ?_)
                      · exfalso
                        omega
                      · refine xw_aload_n (pc := 91) C0 1 dX12_readFault_91 rfl rfl ?_
                        refine xw_bipush (pc := 92) C0 dX12_readFault_92 (by decide +kernel) ?_
                        refine xw_iload_n (pc := 94) C0 0 dX12_readFault_94 rfl rfl ?_
                        refine xw_iadd (pc := 95) C0 dX12_readFault_95 ?_
                        refine xw_nI (congrArg Int32.ofInt (show (45 : Int) + (T : Int) = ((45 + T : Nat) : Int) by omega)) ?_
                        refine xw_aload_n (pc := 96) C0 1 dX12_readFault_96 rfl rfl ?_
                        refine xw_iconst (pc := 97) C0 dX12_readFault_97 ?_
                        refine xw_bipush (pc := 98) C0 dX12_readFault_98 (by decide +kernel) ?_
                        refine xw_callVI (pc := 100) (μ := m15) (ci := 12) (rest := [.int (Int32.ofInt ((45 + T : Nat) : Int)), .ref (xw_ad al 200)]) (As := [.int (Int32.ofInt 1), .int (Int32.ofInt 15)]) C0 hU hO sa_Tg hKL (xr_readNumber (l := l) (a := 1) (b := 15) hS_m15 hT_m15 (by omega) (by omega)) tv_1478 dX12_readFault_100 tv_1475 tv_1477 tq_X12_readNumber tv_13 rfl yb_X12_readNumber (by decide +kernel) rfl rfl rfl (by decide +kernel) (Nat.le_of_ble_eq_true rfl) (xj_200 hKL) xk_0 (fun r17 m17 w17 => ?_)
                        obtain ⟨w17, F17⟩ := w17
                        rcases w17 with ⟨v17, p17, eo17, rfl, hT_m17, td17⟩ | ⟨er17, eo17, rfl, W17⟩
                        · specialize td17 rfl
                          have vb17 := (hp_numR eo17).1
                          have hp9_m17 := hT_m17.1
                          have c2_m17 := hT_m17.2.1
                          have c3_m17 := hT_m17.2.2.1
                          have hkb_m17 := hp_kb t n lim p17
                          have hpl_m17 := hp_plb (t := t) (lim := lim) hp9_m17
                          have hS_m17 := hr_SF hS_m15 F17 (by decide +kernel)
                          have n_m17 := hS_m17.2.2.1
                          have l_m17 := hS_m17.2.2.2.1
                          have b_m17 := hS_m17.2.2.2.2
                          have hH_m17 := hr_HF hH_m15 F17 (by decide +kernel)
                          have hK_m17 := hK_m15
                          have z_m17 : m17 203 1 = rd 1 := (F17 203 1 rfl).trans z_m15
                          have n9_m17 : m17 208 (6 + T) = hp_w t n p1 := (F17 208 _ (xw_oj (by decide +kernel) _)).trans n9_m15
                          have FF_m17 : xw_F [(200, 5, 13), (203, 0, 76), (208, 0, 13)] μ m17 := (FF_m15.tr F17 (fun j i h => xw_o_sub (by decide +kernel) j i h))
                          try clear hp9_m15 c2_m15 c3_m15 hkb_m15 hpl_m15
                          try clear n_m15 l_m15 b_m15
                          refine xw_callVI (pc := 103) (μ := m17) (ci := 12) (rest := []) (As := [.int (Int32.ofInt ((45 + T : Nat) : Int)), .int (Int32.ofInt 1)]) C0 hU hO sa_Tg hKL (xr_put (l := l) (a9 := 45 + T) (g9 := 1) hS_m17.1 (by omega) (by omega) (hr_r45 ⟨T, by omega⟩) (fun _ => by omega)) tv_1485 dX12_readFault_103 tv_1482 tv_1484 tq_X12_put tv_13 rfl yb_X12_put (by decide +kernel) rfl rfl rfl (by decide +kernel) (Nat.le_of_ble_eq_true rfl) (xj_200 hKL) xk_0 (fun r18 m18 w18 => ?_)
                          obtain ⟨-, rfl, A18, F18⟩ := w18.resolve_right (fun q9 => absurd q9.1 (by decide +kernel))
                          rw [td17] at A18
                          have hS_m18 := hr_SF hS_m17 F18 (by decide +kernel)
                          have n_m18 := hS_m18.2.2.1
                          have l_m18 := hS_m18.2.2.2.1
                          have b_m18 := hS_m18.2.2.2.2
                          have hH_m18 := hr_HU hH_m17 (i := 45 + T) (x := v17) (by omega) A18 (fun i => F18 208 i (xw_oj (by decide +kernel) i))
                          have hK_m18 : hp_ok (hp_up (hp_up (hp_up (hp_up rd (21 + T) v7) (29 + T) v11) (37 + T) v14) (45 + T) v17) nm := hp_okU hK_m17 (by omega) (by omega) (fun k => ⟨fun a b => by omega, fun a b => by rw [show (hp_up (hp_up (hp_up rd (21 + T) v7) (29 + T) v11) (37 + T) v14) 1 = rd 1 from by rw [hp_upn (by omega), hp_upn (by omega), hp_upn (by omega)]] at b; omega⟩)
                          have z_m18 : m18 203 1 = rd 1 := (A18 1).trans ((if_neg (by omega)).trans z_m17)
                          have n9_m18 : m18 208 (6 + T) = hp_w t n p1 := (F18 208 _ (xw_oj (by decide +kernel) _)).trans n9_m17
                          have hT_m18 := hr_TF hT_m17 F18 (by decide +kernel)
                          have hp9_m18 := hT_m18.1
                          have c2_m18 := hT_m18.2.1
                          have c3_m18 := hT_m18.2.2.1
                          have hkb_m18 := hp_kb t n lim p17
                          have hpl_m18 := hp_plb (t := t) (lim := lim) hp9_m18
                          have FF_m18 : xw_F [(200, 5, 13), (203, 0, 76), (208, 0, 13)] μ m18 := (FF_m17.tr F18 (fun j i h => xw_o_sub (by decide +kernel) j i h))
                          try clear hp9_m17 c2_m17 c3_m17 hkb_m17 hpl_m17
                          try clear n_m17 l_m17 b_m17
                          refine xw_if_ne (pc := 106) (tgt := 111) C0 (by omega) dX12_readFault_106 rfl (fun b19 => ?_) (fun b19 => ?_)
                          · refine xw_aload_n (pc := 111) C0 1 dX12_readFault_111 rfl rfl ?_
                            refine xw_getR (pc := 112) (f := 15) C0 203 kcX12 dX12_readFault_112 (by decide +kernel) tv_1276 (xj_200 hKL) xk_0 rfl (((F18 200 15 rfl).trans ((F17 200 15 rfl).trans ((F15 200 15 rfl).trans ((F14 200 15 rfl).trans ((F12 200 15 rfl).trans ((F11 200 15 rfl).trans ((F8 200 15 rfl).trans ((F7 200 15 rfl).trans ((F4 200 15 rfl).trans ((F1 200 15 rfl).trans rfl)))))))))).trans (xe_200_15 hS.1)) ?_
                            refine xw_iconst (pc := 115) C0 dX12_readFault_115 ?_
                            refine xw_dup2 (pc := 116) C0 dX12_readFault_116 rfl rfl ?_
                            refine xw_iald (pc := 117) (z := rd 1) C0 dX12_readFault_117 (xj_203 hKL) xk_8 (by omega) (by decide +kernel) rfl z_m18 (fun g20 k20 => ?_)
                            refine xw_iconst (pc := 118) C0 dX12_readFault_118 ?_
                            refine xw_iadd (pc := 119) C0 dX12_readFault_119 ?_
                            refine xw_iast (pc := 120) C0 dX12_readFault_120 (xj_203 hKL) xk_8 (by omega) (by decide +kernel) rfl (by omega) (by omega) ?_
                            refine xw_mu (μ' := (xw_u m18 203 1 ((rd 1) + 1))) rfl ?_
                            refine xw_iconst (pc := 121) C0 dX12_readFault_121 ?_
                            refine xw_iret C0 hA hr hlk rfl dX12_readFault_122 ?_
                            have A203 : ∀ i : Nat, (xw_u m18 203 1 ((rd 1) + 1)) 203 i = if i = 1 then rd 1 + 1 else m18 203 i := fun i => xw_ui (fun i => rfl)
                            have Ft1 : xw_F [(203, 1, 1)] m18 (xw_u m18 203 1 ((rd 1) + 1)) := ((xw_F.rf (ML := [(203, 1, 1)])).u (show (203, 1, 1) ∈ _ by decide) ⟨by decide, by decide⟩)
                            have vt1_203_1 : (xw_u m18 203 1 ((rd 1) + 1)) 203 1 = (rd 1) + 1 := xw_ug
                            generalize (xw_u m18 203 1 ((rd 1) + 1)) = t1 at A203 Ft1 vt1_203_1 ⊢
                            have hS_t1 := hr_SF hS_m18 Ft1 (by decide +kernel)
                            have n_t1 := hS_t1.2.2.1
                            have l_t1 := hS_t1.2.2.2.1
                            have b_t1 := hS_t1.2.2.2.2
                            have eo : hp_fault t n lim rd nm pz = hp_bd (hp_end t n lim p17) (fun _ p5 => .inr (p5, (hp_F rd nm (hp_w t n p1) v7 v11 v14 v17 p17).2.1, (hp_F rd nm (hp_w t n p1) v7 v11 v14 v17 p17).2.2)) := by
                              unfold hp_fault
                              rw [if_neg (by omega), hq1, eo4, hp_bdr, eo7, hp_bdr, eo11, hp_bdr, eo14, hp_bdr, eo17, hp_bdr]
                              rfl
                            refine ⟨_, rfl, Or.inl ⟨hp_F rd nm (hp_w t n p1) v7 v11 v14 v17 p17, eo, rfl, hr_TF hT_m18 Ft1 (by decide +kernel), hr_HFa hH_m18 hT1 (by omega) n9_m18 A203 (fun i => Ft1 208 i (xw_oj (by decide +kernel) i)), hp_okF hK (by omega) (by omega) (by omega) (by omega) (by omega) (by omega)⟩, (FF_m18.tr Ft1 (fun j i h => xw_o_sub (by decide +kernel) j i h))⟩
                          · exfalso
                            omega
                        · have Z17 := hr_ZF (hr_HZ hK_m15 hH_m15) F17 (by decide +kernel)
                          have hS_m17 := hr_SF hS_m15 F17 (by decide +kernel)
                          have n_m17 := hS_m17.2.2.1
                          have l_m17 := hS_m17.2.2.2.1
                          have b_m17 := hS_m17.2.2.2.2
                          have FF_m17 : xw_F [(200, 5, 13), (203, 0, 76), (208, 0, 13)] μ m17 := (FF_m15.tr F17 (fun j i h => xw_o_sub (by decide +kernel) j i h))
                          try clear hp9_m15 c2_m15 c3_m15 hkb_m15 hpl_m15
                          try clear n_m15 l_m15 b_m15
                          refine xw_callVI (pc := 103) (μ := m17) (ci := 12) (rest := []) (As := [.int (Int32.ofInt ((45 + T : Nat) : Int)), .int (Int32.ofInt 0)]) C0 hU hO sa_Tg hKL (xr_put (l := l) (a9 := 45 + T) (g9 := 0) hS_m17.1 (by omega) (by omega) (hr_r45 ⟨T, by omega⟩) (fun q9 => absurd q9 (by decide +kernel))) tv_1485 dX12_readFault_103 tv_1482 tv_1484 tq_X12_put tv_13 rfl yb_X12_put (by decide +kernel) rfl rfl rfl (by decide +kernel) (Nat.le_of_ble_eq_true rfl) (xj_200 hKL) xk_0 (fun r21 m21 w21 => ?_)
                          obtain ⟨-, rfl, rfl⟩ := w21.resolve_left (fun q9 => absurd q9.1 (by decide +kernel))
                          refine xw_if_ne (pc := 106) (tgt := 111) C0 (by omega) dX12_readFault_106 rfl (fun b22 => ?_) (fun b22 => ?_)
                          · exfalso
                            omega
                          · refine xw_iconst (pc := 109) C0 dX12_readFault_109 ?_
                            refine xw_iret C0 hA hr hlk rfl dX12_readFault_110 ?_
                            have eo : hp_fault t n lim rd nm pz = .inl er17 := by
                              unfold hp_fault
                              rw [if_neg (by omega), hq1, eo4, hp_bdr, eo7, hp_bdr, eo11, hp_bdr, eo14, hp_bdr, eo17, hp_bdl]
                            exact ⟨_, rfl, Or.inr ⟨_, eo, rfl, W17, Z17⟩, FF_m17⟩
                    · have Z14 := hr_ZF (hr_HZ hK_m12 hH_m12) F14 (by decide +kernel)
                      have hS_m14 := hr_SF hS_m12 F14 (by decide +kernel)
                      have n_m14 := hS_m14.2.2.1
                      have l_m14 := hS_m14.2.2.2.1
                      have b_m14 := hS_m14.2.2.2.2
                      have FF_m14 : xw_F [(200, 5, 13), (203, 0, 76), (208, 0, 13)] μ m14 := (FF_m12.tr F14 (fun j i h => xw_o_sub (by decide +kernel) j i h))
                      try clear hp9_m12 c2_m12 c3_m12 hkb_m12 hpl_m12
                      try clear n_m12 l_m12 b_m12
                      refine xw_callVI (pc := 85) (μ := m14) (ci := 12) (rest := []) (As := [.int (Int32.ofInt ((37 + T : Nat) : Int)), .int (Int32.ofInt 0)]) C0 hU hO sa_Tg hKL (xr_put (l := l) (a9 := 37 + T) (g9 := 0) hS_m14.1 (by omega) (by omega) (hr_r37 ⟨T, by omega⟩) (fun q9 => absurd q9 (by decide +kernel))) tv_1485 dX12_readFault_85 tv_1482 tv_1484 tq_X12_put tv_13 rfl yb_X12_put (by decide +kernel) rfl rfl rfl (by decide +kernel) (Nat.le_of_ble_eq_true rfl) (xj_200 hKL) xk_0 (fun r23 m23 w23 => ?_)
                      obtain ⟨-, rfl, rfl⟩ := w23.resolve_left (fun q9 => absurd q9.1 (by decide +kernel))
                      refine xw_if_eq (pc := 88) (tgt := 109) C0 (by omega) dX12_readFault_88 rfl (fun b24 => ?_) (fun b24 => ?_)
                      · refine xw_iconst (pc := 109) C0 dX12_readFault_109 ?_
                        refine xw_iret C0 hA hr hlk rfl dX12_readFault_110 ?_
                        have eo : hp_fault t n lim rd nm pz = .inl er14 := by
                          unfold hp_fault
                          rw [if_neg (by omega), hq1, eo4, hp_bdr, eo7, hp_bdr, eo11, hp_bdr, eo14, hp_bdl]
                        exact ⟨_, rfl, Or.inr ⟨_, eo, rfl, W14, Z14⟩, FF_m14⟩
                      · exfalso
                        omega
                · have Z11 := hr_ZF (hr_HZ hK_m8 hH_m8) F11 (by decide +kernel)
                  have hS_m11 := hr_SF hS_m8 F11 (by decide +kernel)
                  have n_m11 := hS_m11.2.2.1
                  have l_m11 := hS_m11.2.2.2.1
                  have b_m11 := hS_m11.2.2.2.2
                  have FF_m11 : xw_F [(200, 5, 13), (203, 0, 76), (208, 0, 13)] μ m11 := (FF_m8.tr F11 (fun j i h => xw_o_sub (by decide +kernel) j i h))
                  try clear hp9_m8 c2_m8 c3_m8 hkb_m8 hpl_m8
                  try clear n_m8 l_m8 b_m8
                  refine xw_callVI (pc := 67) (μ := m11) (ci := 12) (rest := []) (As := [.int (Int32.ofInt ((29 + T : Nat) : Int)), .int (Int32.ofInt 0)]) C0 hU hO sa_Tg hKL (xr_put (l := l) (a9 := 29 + T) (g9 := 0) hS_m11.1 (by omega) (by omega) (hr_r29 ⟨T, by omega⟩) (fun q9 => absurd q9 (by decide +kernel))) tv_1485 dX12_readFault_67 tv_1482 tv_1484 tq_X12_put tv_13 rfl yb_X12_put (by decide +kernel) rfl rfl rfl (by decide +kernel) (Nat.le_of_ble_eq_true rfl) (xj_200 hKL) xk_0 (fun r25 m25 w25 => ?_)
                  obtain ⟨-, rfl, rfl⟩ := w25.resolve_left (fun q9 => absurd q9.1 (by decide +kernel))
                  refine xw_if_eq (pc := 70) (tgt := 109) C0 (by omega) dX12_readFault_70 rfl (fun b26 => ?_) (fun b26 => ?_)
                  · refine xw_iconst (pc := 109) C0 dX12_readFault_109 ?_
                    refine xw_iret C0 hA hr hlk rfl dX12_readFault_110 ?_
                    have eo : hp_fault t n lim rd nm pz = .inl er11 := by
                      unfold hp_fault
                      rw [if_neg (by omega), hq1, eo4, hp_bdr, eo7, hp_bdr, eo11, hp_bdl]
                    exact ⟨_, rfl, Or.inr ⟨_, eo, rfl, W11, Z11⟩, FF_m11⟩
                  · exfalso
                    omega
              · exfalso
                omega
            · have Z7 := hr_ZF (hr_HZ hK_m4 hH_m4) F7 (by decide +kernel)
              have hS_m7 := hr_SF hS_m4 F7 (by decide +kernel)
              have n_m7 := hS_m7.2.2.1
              have l_m7 := hS_m7.2.2.2.1
              have b_m7 := hS_m7.2.2.2.2
              have FF_m7 : xw_F [(200, 5, 13), (203, 0, 76), (208, 0, 13)] μ m7 := (FF_m4.tr F7 (fun j i h => xw_o_sub (by decide +kernel) j i h))
              try clear hp9_m4 c2_m4 c3_m4 hkb_m4 hpl_m4
              try clear n_m4 l_m4 b_m4
              refine xw_callVI (pc := 46) (μ := m7) (ci := 12) (rest := []) (As := [.int (Int32.ofInt ((21 + T : Nat) : Int)), .int (Int32.ofInt 0)]) C0 hU hO sa_Tg hKL (xr_put (l := l) (a9 := 21 + T) (g9 := 0) hS_m7.1 (by omega) (by omega) (hr_r21 ⟨T, by omega⟩) (fun q9 => absurd q9 (by decide +kernel))) tv_1485 dX12_readFault_46 tv_1482 tv_1484 tq_X12_put tv_13 rfl yb_X12_put (by decide +kernel) rfl rfl rfl (by decide +kernel) (Nat.le_of_ble_eq_true rfl) (xj_200 hKL) xk_0 (fun r27 m27 w27 => ?_)
              obtain ⟨-, rfl, rfl⟩ := w27.resolve_left (fun q9 => absurd q9.1 (by decide +kernel))
              refine xw_if_ne (pc := 49) (tgt := 54) C0 (by omega) dX12_readFault_49 rfl (fun b28 => ?_) (fun b28 => ?_)
              · exfalso
                omega
              · refine xw_iconst (pc := 52) C0 dX12_readFault_52 ?_
                refine xw_iret C0 hA hr hlk rfl dX12_readFault_53 ?_
                have eo : hp_fault t n lim rd nm pz = .inl er7 := by
                  unfold hp_fault
                  rw [if_neg (by omega), hq1, eo4, hp_bdr, eo7, hp_bdl]
                exact ⟨_, rfl, Or.inr ⟨_, eo, rfl, W7, Z7⟩, FF_m7⟩
        · have Z4 := hr_ZF (hr_HZ hK_m1 hH_m1) F4 (by decide +kernel)
          have FF_m4 : xw_F [(200, 5, 13), (203, 0, 76), (208, 0, 13)] μ m4 := (FF_m1.tr F4 (fun j i h => xw_o_sub (by decide +kernel) j i h))
          try clear hp9_m1 c2_m1 c3_m1 hkb_m1 hpl_m1
          try clear n_m1 l_m1 b_m1
          refine xw_if_eq (pc := 27) (tgt := 52) C0 (by omega) dX12_readFault_27 rfl (fun b29 => ?_) (fun b29 => ?_)
          · refine xw_iconst (pc := 52) C0 dX12_readFault_52 ?_
            refine xw_iret C0 hA hr hlk rfl dX12_readFault_53 ?_
            have eo : hp_fault t n lim rd nm pz = .inl er4 := by
              unfold hp_fault
              rw [if_neg (by omega), hq1, eo4, hp_bdl]
            exact ⟨_, rfl, Or.inr ⟨_, eo, rfl, W4, Z4⟩, FF_m4⟩
          · exfalso
            omega
      · exfalso
        omega
    · have FF_m1 : xw_F [(200, 5, 13), (203, 0, 76), (208, 0, 13)] μ m1 := ((xw_F.rf (ML := [(200, 5, 13), (203, 0, 76), (208, 0, 13)])).tr F1 (fun j i h => xw_o_sub (by decide +kernel) j i h))
      try clear hp9 c2 c3 hkb hpl
      try clear n_μ l_μ b_μ
      refine xw_if_ne (pc := 7) (tgt := 12) C0 (by omega) dX12_readFault_7 rfl (fun b30 => ?_) (fun b30 => ?_)
      · exfalso
        omega
      · refine xw_iconst (pc := 10) C0 dX12_readFault_10 ?_
        refine xw_iret C0 hA hr hlk rfl dX12_readFault_11 ?_
        have eo : hp_fault t n lim rd nm pz = .inl (hp_bad t n lim 4 pz) := if_pos (by omega)
        exact ⟨_, rfl, Or.inr ⟨_, eo, rfl, W1, hr_ZF (hr_HZ hK hH) F1 (by decide +kernel)⟩, FF_m1⟩)
theorem hp_okN {rd nm : Nat → Int} {J : Nat} {x : Int} (hK : hp_ok rd nm) (hJ : J < 24) (hx : 0 ≤ x ∧ x ≤ 12) : hp_ok (hp_up rd (53 + J) x) nm := by
  obtain ⟨k0, k1, k2, k3, k4, k5⟩ := hK
  have e : ∀ k : Nat, ¬ k = 53 + J → hp_up rd (53 + J) x k = rd k := fun k hk => hp_upn hk
  refine ⟨?_, ?_, ?_, fun k hk => ?_, fun k hk hl => ?_, fun k hk hl => ?_⟩
  · rw [e 0 (by omega)]; exact k0
  · rw [e 1 (by omega)]; exact k1
  · rw [e 2 (by omega)]; exact k2
  · by_cases z : k = J
    · rw [z, hp_upg]; exact hx
    · rw [e (53 + k) (by omega)]; exact k3 k hk
  · rw [e 0 (by omega)] at hl
    rw [e (3 + k) (by omega), e (9 + k) (by omega), e (15 + k) (by omega)]
    exact k4 k hk hl
  · rw [e 1 (by omega)] at hl
    rw [e 0 (by omega), e (21 + k) (by omega), e (29 + k) (by omega), e (37 + k) (by omega), e (45 + k) (by omega)]
    exact k5 k hk hl
