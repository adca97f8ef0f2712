set_option maxRecDepth 20000 in
set_option maxHeartbeats 20000000 in
theorem xt_cp17 {l : Launch} {t rd nm : Nat → Int} {n lim pz cn o : Nat} {μ : xw_M} {wi : Int} (hS : hr_S t n lim μ) (hT : hr_T t n lim pz μ) (hM : hr_M rd nm μ) (hK : hp_ok rd nm) (hN : μ 200 42 = ((o + 1 : Nat) : Int)) (ho : o ≤ 19) (hI : μ 200 43 = wi) (hC : μ 200 41 = (cn : Int)) (hc : cn ≤ 2 * o) (hR : hr_R μ) : xw_MetI l vwCl sa_Ts tb_KT0 tc_KL yX12_readCompare cX12_readCompare 3 (some .boolean) 5 187 (fun ad => [.ref (ad 200), .int (Int32.ofInt 17)]) μ (fun r μ' => hr_Q t n lim (hq_cp t n lim pz (o + 1)) cn o wi r μ' ∧ hr_R μ' ∧ xw_F [(200, 5, 13), (200, 41, 44), (218, 0, 239)] μ μ') :=
  xw_of (by decide +kernel) (fun _ => Nat.le_of_ble_eq_true rfl) (fun p e s m args below meth c D dA A al w0 sz C0 hU hO hKL hr hlk hA => by
    have hp9_μ := hT.1
    have c2_μ := hT.2.1
    have hkb_μ := hp_kb t n lim pz
    have hkw_μ := hp_kwb (hp_w t n pz)
    have k0 := hK.1
    have k1 := hK.2.1
    refine xw_aload_n (pc := 0) C0 0 dX12_readCompare_0 rfl rfl ?_
    refine xw_bipush (pc := 1) C0 dX12_readCompare_1 (by decide +kernel) ?_
    refine xw_callVI (pc := 3) (μ := μ) (ci := 12) (rest := []) (As := [.int (Int32.ofInt 60)]) C0 hU hO sa_Tg hKL (xr_isSign (l := l) (v := 60) hS hT (by decide +kernel)) tv_1505 dX12_readCompare_3 tv_1502 tv_1504 tq_X12_isSign tv_13 rfl yb_X12_isSign (by decide +kernel) rfl rfl rfl (by decide +kernel) (Nat.le_of_ble_eq_true rfl) (xj_200 hKL) xk_0 (fun r1 m1 w1 => ?_)
    obtain ⟨rfl, w1⟩ := w1
    rcases w1 with ⟨w1, rfl⟩ | ⟨w1, rfl⟩
    · refine xw_if_ne (pc := 6) (tgt := 33) C0 (by omega) dX12_readCompare_6 rfl (fun b2 => ?_) (fun b2 => ?_)
      · refine xw_aload_n (pc := 33) C0 0 dX12_readCompare_33 rfl rfl ?_
        refine xw_getI (pc := 34) (f := 9) (z := μ 200 9) C0 kcX12 dX12_readCompare_34 (by decide +kernel) tv_1270 (xj_200 hKL) xk_0 rfl (rfl) (fun g3 k3 => ?_)
        refine xw_istore_n (pc := 37) (L' := [(2, .int (Int32.ofInt (μ 200 9))), (0, .ref (xw_ad al 200)), (1, .int (Int32.ofInt 17))]) C0 dX12_readCompare_37 rfl (by decide +kernel) rfl ?_
        refine xw_aload_n (pc := 38) C0 1 dX12_readCompare_38 rfl rfl ?_
        refine xw_callVV (pc := 39) (μ := μ) (ci := 12) (rest := []) (As := []) C0 hU hO sa_Tg hKL (xr_go (l := l) (t := t) (n := n) (lim := lim) (pz := hp_x t n pz) hS (hT.2.2.2.2.2.2 (by omega)) (hp_xb (lim := lim) hT.1 (by omega))) tv_1425 dX12_readCompare_39 tv_1422 tv_1424 tq_X12_go tv_13 rfl yb_X12_go (by decide +kernel) rfl rfl rfl (by decide +kernel) (Nat.le_of_ble_eq_true rfl) (xj_200 hKL) xk_0 (fun m4 w4 => ?_)
        obtain ⟨hT_m4, F4⟩ := w4
        have hS_m4 := hr_SF hS F4 (by decide +kernel)
        have hM_m4 := hr_MF hM F4 (by decide +kernel)
        have hN_m4 : m4 200 42 = (((o + 1) : Nat) : Int) := (F4 200 42 rfl).trans hN
        have hI_m4 : m4 200 43 = wi := (F4 200 43 rfl).trans hI
        have hC_m4 : m4 200 41 = ((cn : Nat) : Int) := (F4 200 41 rfl).trans hC
        have hR_m4 := hr_RF hR F4 (by decide +kernel)
        refine xw_aload_n (pc := 42) C0 1 dX12_readCompare_42 rfl rfl ?_
        refine xw_iconst (pc := 43) C0 dX12_readCompare_43 ?_
        refine xw_sipush (pc := 44) C0 dX12_readCompare_44 (by decide +kernel) ?_
        refine xw_callVI (pc := 47) (μ := m4) (ci := 12) (rest := []) (As := [.int (Int32.ofInt 0), .int (Int32.ofInt 999)]) C0 hU hO sa_Tg hKL (xr_readNumber (l := l) (a := 0) (b := 999) hS_m4 hT_m4 (by decide +kernel) (by decide +kernel)) tv_1478 dX12_readCompare_47 tv_1475 tv_1477 tq_X12_readNumber tv_13 rfl yb_X12_readNumber (by decide +kernel) rfl rfl rfl (by decide +kernel) (Nat.le_of_ble_eq_true rfl) (xj_200 hKL) xk_0 (fun r5 m5 w5 => ?_)
        obtain ⟨w5, F5⟩ := w5
        rcases w5 with ⟨v5, p5, eo5, rfl, hT_m5, td5⟩ | ⟨e5, eo5, rfl, W5⟩
        · have nb5 := (hp_numR eo5).1
          have td5 := td5 rfl
          have hS_m5 := hr_SF hS_m4 F5 (by decide +kernel)
          have hM_m5 := hr_MF hM_m4 F5 (by decide +kernel)
          have hN_m5 : m5 200 42 = (((o + 1) : Nat) : Int) := (F5 200 42 rfl).trans hN_m4
          have hI_m5 : m5 200 43 = wi := (F5 200 43 rfl).trans hI_m4
          have hC_m5 : m5 200 41 = ((cn : Nat) : Int) := (F5 200 41 rfl).trans hC_m4
          have hR_m5 := hr_RF hR_m4 F5 (by decide +kernel)
          refine xw_if_ne (pc := 50) (tgt := 55) C0 (by omega) dX12_readCompare_50 rfl (fun b6 => ?_) (fun b6 => ?_)
          · refine xw_aload_n (pc := 55) C0 1 dX12_readCompare_55 rfl rfl ?_
            refine xw_aload_n (pc := 56) C0 1 dX12_readCompare_56 rfl rfl ?_
            refine xw_bipush (pc := 57) C0 dX12_readCompare_57 (by decide +kernel) ?_
            refine xw_iload_n (pc := 59) C0 2 dX12_readCompare_59 rfl rfl ?_
            refine xw_iadd (pc := 60) C0 dX12_readCompare_60 ?_
            refine  xw_nI (congrArg Int32.ofInt (show 50 + 17 = (67 : Int) by decide)) ?_
            refine xw_iconst (pc := 61) C0 dX12_readCompare_61 ?_
            refine xw_aload_n (pc := 62) C0 1 dX12_readCompare_62 rfl rfl ?_
            refine xw_getI (pc := 63) (f := 13) (z := m5 200 13) C0 kcX12 dX12_readCompare_63 (by decide +kernel) tv_1274 (xj_200 hKL) xk_0 rfl (rfl) (fun g7 k7 => ?_)
            refine xw_iload_n (pc := 66) C0 0 dX12_readCompare_66 rfl rfl ?_
            refine xw_callVI (pc := 67) (μ := m5) (ci := 12) (rest := [.ref (xw_ad al 200)]) (As := [.int (Int32.ofInt 67), .int (Int32.ofInt 0), .int (Int32.ofInt (m5 200 13)), .int (Int32.ofInt (μ 200 9))]) C0 hU hO sa_Tg hKL (xt_says (l := l) (cn := cn) (w9 := 67) (a9 := 0) (b9 := m5 200 13) (g9 := μ 200 9) (μ := m5) hS_m5.1 hC_m5 (by omega) hR_m5 (by omega) (by omega) (by omega) (by omega) (by omega) (by omega)) tv_1855 dX12_readCompare_67 tv_1852 tv_1854 tq_X12_saysOne tv_13 rfl yb_X12_saysOne (by decide +kernel) rfl rfl rfl (by decide +kernel) (Nat.le_of_ble_eq_true rfl) (xj_200 hKL) xk_0 (fun r8 m8 w8 => ?_)
            obtain ⟨rfl, w8, hR_m8, F8⟩ := w8
            have hC_m8 : m8 200 41 = ((cn + 1 : Nat) : Int) := by omega
            have hS_m8 := hr_SF hS_m5 F8 (by decide +kernel)
            have hT_m8 := hr_TF hT_m5 F8 (by decide +kernel)
            have hM_m8 := hr_MF hM_m5 F8 (by decide +kernel)
            have hN_m8 : m8 200 42 = (((o + 1) : Nat) : Int) := (F8 200 42 rfl).trans hN_m5
            have hI_m8 : m8 200 43 = wi := (F8 200 43 rfl).trans hI_m5
            refine xw_putI (pc := 70) (f := 44) C0 kcX12 dX12_readCompare_70 (by decide +kernel) tv_1305 rfl rfl (xj_200 hKL) xk_0 rfl (by omega) (by omega) ?_
            refine xw_iconst (pc := 73) C0 dX12_readCompare_73 ?_
            refine xw_iret C0 hA hr hlk rfl dX12_readCompare_74 ?_
            have eq : hq_cp t n lim pz (o + 1) = .inr (p5, o + 1) := by
              rw [hq_cpY (by omega), eo5]
              rfl
            have Ft1 : xw_F [(200, 44, 44)] m8 (xw_u m8 200 44 ((cn : Nat) : Int)) := ((xw_F.rf (ML := [(200, 44, 44)])).u (show (200, 44, 44) ∈ _ by decide) ⟨by decide, by decide⟩)
            have vt1_200_44 : (xw_u m8 200 44 ((cn : Nat) : Int)) 200 44 = ((cn : Nat) : Int) := xw_ug
            generalize (xw_u m8 200 44 ((cn : Nat) : Int)) = t1 at Ft1 vt1_200_44 ⊢
            exact ⟨_, rfl, Or.inl ⟨p5, o + 1, cn + 1, eq, rfl, hr_TF hT_m8 Ft1 (by decide +kernel), (Ft1 200 42 rfl).trans hN_m8, by omega, (Ft1 200 41 rfl).trans hC_m8, by omega, by omega, (Ft1 200 43 rfl).trans hI_m8⟩, hr_RF hR_m8 Ft1 (by decide +kernel), (((((xw_F.rf (ML := [(200, 5, 13), (200, 41, 44), (218, 0, 239)])).tr F4 (fun j i h => xw_o_sub (by decide +kernel) j i h)).tr F5 (fun j i h => xw_o_sub (by decide +kernel) j i h)).tr F8 (fun j i h => xw_o_sub (by decide +kernel) j i h)).tr Ft1 (fun j i h => xw_o_sub (by decide +kernel) j i h))⟩
          · exfalso
            omega
        · have hI_m5 : m5 200 43 = wi := (F5 200 43 rfl).trans hI_m4
          have hR_m5 := hr_RF hR_m4 F5 (by decide +kernel)
          refine xw_if_ne (pc := 50) (tgt := 55) C0 (by omega) dX12_readCompare_50 rfl (fun b10 => ?_) (fun b10 => ?_)
          · exfalso
            omega
          · refine xw_iconst (pc := 53) C0 dX12_readCompare_53 ?_
            refine xw_iret C0 hA hr hlk rfl dX12_readCompare_54 ?_
            have eq : hq_cp t n lim pz (o + 1) = .inl e5 := by
              rw [hq_cpY (by omega), eo5]
              rfl
            exact ⟨_, rfl, Or.inr ⟨_, eq, rfl, W5, hI_m5⟩, hR_m5, (((xw_F.rf (ML := [(200, 5, 13), (200, 41, 44), (218, 0, 239)])).tr F4 (fun j i h => xw_o_sub (by decide +kernel) j i h)).tr F5 (fun j i h => xw_o_sub (by decide +kernel) j i h))⟩
      · exfalso
        omega
    · refine xw_if_ne (pc := 6) (tgt := 33) C0 (by omega) dX12_readCompare_6 rfl (fun b11 => ?_) (fun b11 => ?_)
      · exfalso
        omega
      · refine xw_aload_n (pc := 9) C0 0 dX12_readCompare_9 rfl rfl ?_
        refine xw_bipush (pc := 10) C0 dX12_readCompare_10 (by decide +kernel) ?_
        refine xw_callVI (pc := 12) (μ := μ) (ci := 12) (rest := []) (As := [.int (Int32.ofInt 61)]) C0 hU hO sa_Tg hKL (xr_isSign (l := l) (v := 61) hS hT (by decide +kernel)) tv_1505 dX12_readCompare_12 tv_1502 tv_1504 tq_X12_isSign tv_13 rfl yb_X12_isSign (by decide +kernel) rfl rfl rfl (by decide +kernel) (Nat.le_of_ble_eq_true rfl) (xj_200 hKL) xk_0 (fun r12 m12 w12 => ?_)
        obtain ⟨rfl, w12⟩ := w12
        rcases w12 with ⟨w12, rfl⟩ | ⟨w12, rfl⟩
        · refine xw_if_ne (pc := 15) (tgt := 33) C0 (by omega) dX12_readCompare_15 rfl (fun b13 => ?_) (fun b13 => ?_)
          · refine xw_aload_n (pc := 33) C0 0 dX12_readCompare_33 rfl rfl ?_
            refine xw_getI (pc := 34) (f := 9) (z := μ 200 9) C0 kcX12 dX12_readCompare_34 (by decide +kernel) tv_1270 (xj_200 hKL) xk_0 rfl (rfl) (fun g14 k14 => ?_)
            refine xw_istore_n (pc := 37) (L' := [(2, .int (Int32.ofInt (μ 200 9))), (0, .ref (xw_ad al 200)), (1, .int (Int32.ofInt 17))]) C0 dX12_readCompare_37 rfl (by decide +kernel) rfl ?_
            refine xw_aload_n (pc := 38) C0 1 dX12_readCompare_38 rfl rfl ?_
            refine xw_callVV (pc := 39) (μ := μ) (ci := 12) (rest := []) (As := []) C0 hU hO sa_Tg hKL (xr_go (l := l) (t := t) (n := n) (lim := lim) (pz := hp_x t n pz) hS (hT.2.2.2.2.2.2 (by omega)) (hp_xb (lim := lim) hT.1 (by omega))) tv_1425 dX12_readCompare_39 tv_1422 tv_1424 tq_X12_go tv_13 rfl yb_X12_go (by decide +kernel) rfl rfl rfl (by decide +kernel) (Nat.le_of_ble_eq_true rfl) (xj_200 hKL) xk_0 (fun m15 w15 => ?_)
            obtain ⟨hT_m15, F15⟩ := w15
            have hS_m15 := hr_SF hS F15 (by decide +kernel)
            have hM_m15 := hr_MF hM F15 (by decide +kernel)
            have hN_m15 : m15 200 42 = (((o + 1) : Nat) : Int) := (F15 200 42 rfl).trans hN
            have hI_m15 : m15 200 43 = wi := (F15 200 43 rfl).trans hI
            have hC_m15 : m15 200 41 = ((cn : Nat) : Int) := (F15 200 41 rfl).trans hC
            have hR_m15 := hr_RF hR F15 (by decide +kernel)
            refine xw_aload_n (pc := 42) C0 1 dX12_readCompare_42 rfl rfl ?_
            refine xw_iconst (pc := 43) C0 dX12_readCompare_43 ?_
            refine xw_sipush (pc := 44) C0 dX12_readCompare_44 (by decide +kernel) ?_
            refine xw_callVI (pc := 47) (μ := m15) (ci := 12) (rest := []) (As := [.int (Int32.ofInt 0), .int (Int32.ofInt 999)]) C0 hU hO sa_Tg hKL (xr_readNumber (l := l) (a := 0) (b := 999) hS_m15 hT_m15 (by decide +kernel) (by decide +kernel)) tv_1478 dX12_readCompare_47 tv_1475 tv_1477 tq_X12_readNumber tv_13 rfl yb_X12_readNumber (by decide +kernel) rfl rfl rfl (by decide +kernel) (Nat.le_of_ble_eq_true rfl) (xj_200 hKL) xk_0 (fun r16 m16 w16 => ?_)
            obtain ⟨w16, F16⟩ := w16
            rcases w16 with ⟨v16, p16, eo16, rfl, hT_m16, td16⟩ | ⟨e16, eo16, rfl, W16⟩
            · have nb16 := (hp_numR eo16).1
              have td16 := td16 rfl
              have hS_m16 := hr_SF hS_m15 F16 (by decide +kernel)
              have hM_m16 := hr_MF hM_m15 F16 (by decide +kernel)
              have hN_m16 : m16 200 42 = (((o + 1) : Nat) : Int) := (F16 200 42 rfl).trans hN_m15
              have hI_m16 : m16 200 43 = wi := (F16 200 43 rfl).trans hI_m15
              have hC_m16 : m16 200 41 = ((cn : Nat) : Int) := (F16 200 41 rfl).trans hC_m15
              have hR_m16 := hr_RF hR_m15 F16 (by decide +kernel)
              refine xw_if_ne (pc := 50) (tgt := 55) C0 (by omega) dX12_readCompare_50 rfl (fun b17 => ?_) (fun b17 => ?_)
              · refine xw_aload_n (pc := 55) C0 1 dX12_readCompare_55 rfl rfl ?_
                refine xw_aload_n (pc := 56) C0 1 dX12_readCompare_56 rfl rfl ?_
                refine xw_bipush (pc := 57) C0 dX12_readCompare_57 (by decide +kernel) ?_
                refine xw_iload_n (pc := 59) C0 2 dX12_readCompare_59 rfl rfl ?_
                refine xw_iadd (pc := 60) C0 dX12_readCompare_60 ?_
                refine  xw_nI (congrArg Int32.ofInt (show 50 + 17 = (67 : Int) by decide)) ?_
                refine xw_iconst (pc := 61) C0 dX12_readCompare_61 ?_
                refine xw_aload_n (pc := 62) C0 1 dX12_readCompare_62 rfl rfl ?_
                refine xw_getI (pc := 63) (f := 13) (z := m16 200 13) C0 kcX12 dX12_readCompare_63 (by decide +kernel) tv_1274 (xj_200 hKL) xk_0 rfl (rfl) (fun g18 k18 => ?_)
                refine xw_iload_n (pc := 66) C0 0 dX12_readCompare_66 rfl rfl ?_
                refine xw_callVI (pc := 67) (μ := m16) (ci := 12) (rest := [.ref (xw_ad al 200)]) (As := [.int (Int32.ofInt 67), .int (Int32.ofInt 0), .int (Int32.ofInt (m16 200 13)), .int (Int32.ofInt (μ 200 9))]) C0 hU hO sa_Tg hKL (xt_says (l := l) (cn := cn) (w9 := 67) (a9 := 0) (b9 := m16 200 13) (g9 := μ 200 9) (μ := m16) hS_m16.1 hC_m16 (by omega) hR_m16 (by omega) (by omega) (by omega) (by omega) (by omega) (by omega)) tv_1855 dX12_readCompare_67 tv_1852 tv_1854 tq_X12_saysOne tv_13 rfl yb_X12_saysOne (by decide +kernel) rfl rfl rfl (by decide +kernel) (Nat.le_of_ble_eq_true rfl) (xj_200 hKL) xk_0 (fun r19 m19 w19 => ?_)
                obtain ⟨rfl, w19, hR_m19, F19⟩ := w19
                have hC_m19 : m19 200 41 = ((cn + 1 : Nat) : Int) := by omega
                have hS_m19 := hr_SF hS_m16 F19 (by decide +kernel)
                have hT_m19 := hr_TF hT_m16 F19 (by decide +kernel)
                have hM_m19 := hr_MF hM_m16 F19 (by decide +kernel)
                have hN_m19 : m19 200 42 = (((o + 1) : Nat) : Int) := (F19 200 42 rfl).trans hN_m16
                have hI_m19 : m19 200 43 = wi := (F19 200 43 rfl).trans hI_m16
                refine xw_putI (pc := 70) (f := 44) C0 kcX12 dX12_readCompare_70 (by decide +kernel) tv_1305 rfl rfl (xj_200 hKL) xk_0 rfl (by omega) (by omega) ?_
                refine xw_iconst (pc := 73) C0 dX12_readCompare_73 ?_
                refine xw_iret C0 hA hr hlk rfl dX12_readCompare_74 ?_
                have eq : hq_cp t n lim pz (o + 1) = .inr (p16, o + 1) := by
                  rw [hq_cpY (by omega), eo16]
                  rfl
                have Ft2 : xw_F [(200, 44, 44)] m19 (xw_u m19 200 44 ((cn : Nat) : Int)) := ((xw_F.rf (ML := [(200, 44, 44)])).u (show (200, 44, 44) ∈ _ by decide) ⟨by decide, by decide⟩)
                have vt2_200_44 : (xw_u m19 200 44 ((cn : Nat) : Int)) 200 44 = ((cn : Nat) : Int) := xw_ug
                generalize (xw_u m19 200 44 ((cn : Nat) : Int)) = t2 at Ft2 vt2_200_44 ⊢
                exact ⟨_, rfl, Or.inl ⟨p16, o + 1, cn + 1, eq, rfl, hr_TF hT_m19 Ft2 (by decide +kernel), (Ft2 200 42 rfl).trans hN_m19, by omega, (Ft2 200 41 rfl).trans hC_m19, by omega, by omega, (Ft2 200 43 rfl).trans hI_m19⟩, hr_RF hR_m19 Ft2 (by decide +kernel), (((((xw_F.rf (ML := [(200, 5, 13), (200, 41, 44), (218, 0, 239)])).tr F15 (fun j i h => xw_o_sub (by decide +kernel) j i h)).tr F16 (fun j i h => xw_o_sub (by decide +kernel) j i h)).tr F19 (fun j i h => xw_o_sub (by decide +kernel) j i h)).tr Ft2 (fun j i h => xw_o_sub (by decide +kernel) j i h))⟩
              · exfalso
                omega
            · have hI_m16 : m16 200 43 = wi := (F16 200 43 rfl).trans hI_m15
              have hR_m16 := hr_RF hR_m15 F16 (by decide +kernel)
              refine xw_if_ne (pc := 50) (tgt := 55) C0 (by omega) dX12_readCompare_50 rfl (fun b20 => ?_) (fun b20 => ?_)
              · exfalso
                omega
              · refine xw_iconst (pc := 53) C0 dX12_readCompare_53 ?_
                refine xw_iret C0 hA hr hlk rfl dX12_readCompare_54 ?_
                have eq : hq_cp t n lim pz (o + 1) = .inl e16 := by
                  rw [hq_cpY (by omega), eo16]
                  rfl
                exact ⟨_, rfl, Or.inr ⟨_, eq, rfl, W16, hI_m16⟩, hR_m16, (((xw_F.rf (ML := [(200, 5, 13), (200, 41, 44), (218, 0, 239)])).tr F15 (fun j i h => xw_o_sub (by decide +kernel) j i h)).tr F16 (fun j i h => xw_o_sub (by decide +kernel) j i h))⟩
          · exfalso
            omega
        · refine xw_if_ne (pc := 15) (tgt := 33) C0 (by omega) dX12_readCompare_15 rfl (fun b21 => ?_) (fun b21 => ?_)
          · exfalso
            omega
          · refine xw_aload_n (pc := 18) C0 0 dX12_readCompare_18 rfl rfl ?_
            refine xw_bipush (pc := 19) C0 dX12_readCompare_19 (by decide +kernel) ?_
            refine xw_callVI (pc := 21) (μ := μ) (ci := 12) (rest := []) (As := [.int (Int32.ofInt 62)]) C0 hU hO sa_Tg hKL (xr_isSign (l := l) (v := 62) hS hT (by decide +kernel)) tv_1505 dX12_readCompare_21 tv_1502 tv_1504 tq_X12_isSign tv_13 rfl yb_X12_isSign (by decide +kernel) rfl rfl rfl (by decide +kernel) (Nat.le_of_ble_eq_true rfl) (xj_200 hKL) xk_0 (fun r22 m22 w22 => ?_)
            obtain ⟨rfl, w22⟩ := w22
            rcases w22 with ⟨w22, rfl⟩ | ⟨w22, rfl⟩
            · refine xw_if_ne (pc := 24) (tgt := 33) C0 (by omega) dX12_readCompare_24 rfl (fun b23 => ?_) (fun b23 => ?_)
              · refine xw_aload_n (pc := 33) C0 0 dX12_readCompare_33 rfl rfl ?_
                refine xw_getI (pc := 34) (f := 9) (z := μ 200 9) C0 kcX12 dX12_readCompare_34 (by decide +kernel) tv_1270 (xj_200 hKL) xk_0 rfl (rfl) (fun g24 k24 => ?_)
                refine xw_istore_n (pc := 37) (L' := [(2, .int (Int32.ofInt (μ 200 9))), (0, .ref (xw_ad al 200)), (1, .int (Int32.ofInt 17))]) C0 dX12_readCompare_37 rfl (by decide +kernel) rfl ?_
                refine xw_aload_n (pc := 38) C0 1 dX12_readCompare_38 rfl rfl ?_
                refine xw_callVV (pc := 39) (μ := μ) (ci := 12) (rest := []) (As := []) C0 hU hO sa_Tg hKL (xr_go (l := l) (t := t) (n := n) (lim := lim) (pz := hp_x t n pz) hS (hT.2.2.2.2.2.2 (by omega)) (hp_xb (lim := lim) hT.1 (by omega))) tv_1425 dX12_readCompare_39 tv_1422 tv_1424 tq_X12_go tv_13 rfl yb_X12_go (by decide +kernel) rfl rfl rfl (by decide +kernel) (Nat.le_of_ble_eq_true rfl) (xj_200 hKL) xk_0 (fun m25 w25 => ?_)
                obtain ⟨hT_m25, F25⟩ := w25
                have hS_m25 := hr_SF hS F25 (by decide +kernel)
                have hM_m25 := hr_MF hM F25 (by decide +kernel)
                have hN_m25 : m25 200 42 = (((o + 1) : Nat) : Int) := (F25 200 42 rfl).trans hN
                have hI_m25 : m25 200 43 = wi := (F25 200 43 rfl).trans hI
                have hC_m25 : m25 200 41 = ((cn : Nat) : Int) := (F25 200 41 rfl).trans hC
                have hR_m25 := hr_RF hR F25 (by decide +kernel)
                refine xw_aload_n (pc := 42) C0 1 dX12_readCompare_42 rfl rfl ?_
                refine xw_iconst (pc := 43) C0 dX12_readCompare_43 ?_
                refine xw_sipush (pc := 44) C0 dX12_readCompare_44 (by decide +kernel) ?_
                refine xw_callVI (pc := 47) (μ := m25) (ci := 12) (rest := []) (As := [.int (Int32.ofInt 0), .int (Int32.ofInt 999)]) C0 hU hO sa_Tg hKL (xr_readNumber (l := l) (a := 0) (b := 999) hS_m25 hT_m25 (by decide +kernel) (by decide +kernel)) tv_1478 dX12_readCompare_47 tv_1475 tv_1477 tq_X12_readNumber tv_13 rfl yb_X12_readNumber (by decide +kernel) rfl rfl rfl (by decide +kernel) (Nat.le_of_ble_eq_true rfl) (xj_200 hKL) xk_0 (fun r26 m26 w26 => ?_)
                obtain ⟨w26, F26⟩ := w26
                rcases w26 with ⟨v26, p26, eo26, rfl, hT_m26, td26⟩ | ⟨e26, eo26, rfl, W26⟩
                · have nb26 := (hp_numR eo26).1
                  have td26 := td26 rfl
                  have hS_m26 := hr_SF hS_m25 F26 (by decide +kernel)
                  have hM_m26 := hr_MF hM_m25 F26 (by decide +kernel)
                  have hN_m26 : m26 200 42 = (((o + 1) : Nat) : Int) := (F26 200 42 rfl).trans hN_m25
                  have hI_m26 : m26 200 43 = wi := (F26 200 43 rfl).trans hI_m25
                  have hC_m26 : m26 200 41 = ((cn : Nat) : Int) := (F26 200 41 rfl).trans hC_m25
                  have hR_m26 := hr_RF hR_m25 F26 (by decide +kernel)
                  refine xw_if_ne (pc := 50) (tgt := 55) C0 (by omega) dX12_readCompare_50 rfl (fun b27 => ?_) (fun b27 => ?_)
                  · refine xw_aload_n (pc := 55) C0 1 dX12_readCompare_55 rfl rfl ?_
                    refine xw_aload_n (pc := 56) C0 1 dX12_readCompare_56 rfl rfl ?_
                    refine xw_bipush (pc := 57) C0 dX12_readCompare_57 (by decide +kernel) ?_
                    refine xw_iload_n (pc := 59) C0 2 dX12_readCompare_59 rfl rfl ?_
                    refine xw_iadd (pc := 60) C0 dX12_readCompare_60 ?_
                    refine  xw_nI (congrArg Int32.ofInt (show 50 + 17 = (67 : Int) by decide)) ?_
                    refine xw_iconst (pc := 61) C0 dX12_readCompare_61 ?_
                    refine xw_aload_n (pc := 62) C0 1 dX12_readCompare_62 rfl rfl ?_
                    refine xw_getI (pc := 63) (f := 13) (z := m26 200 13) C0 kcX12 dX12_readCompare_63 (by decide +kernel) tv_1274 (xj_200 hKL) xk_0 rfl (rfl) (fun g28 k28 => ?_)
                    refine xw_iload_n (pc := 66) C0 0 dX12_readCompare_66 rfl rfl ?_
                    refine xw_callVI (pc := 67) (μ := m26) (ci := 12) (rest := [.ref (xw_ad al 200)]) (As := [.int (Int32.ofInt 67), .int (Int32.ofInt 0), .int (Int32.ofInt (m26 200 13)), .int (Int32.ofInt (μ 200 9))]) C0 hU hO sa_Tg hKL (xt_says (l := l) (cn := cn) (w9 := 67) (a9 := 0) (b9 := m26 200 13) (g9 := μ 200 9) (μ := m26) hS_m26.1 hC_m26 (by omega) hR_m26 (by omega) (by omega) (by omega) (by omega) (by omega) (by omega)) tv_1855 dX12_readCompare_67 tv_1852 tv_1854 tq_X12_saysOne tv_13 rfl yb_X12_saysOne (by decide +kernel) rfl rfl rfl (by decide +kernel) (Nat.le_of_ble_eq_true rfl) (xj_200 hKL) xk_0 (fun r29 m29 w29 => ?_)
                    obtain ⟨rfl, w29, hR_m29, F29⟩ := w29
                    have hC_m29 : m29 200 41 = ((cn + 1 : Nat) : Int) := by omega
                    have hS_m29 := hr_SF hS_m26 F29 (by decide +kernel)
                    have hT_m29 := hr_TF hT_m26 F29 (by decide +kernel)
                    have hM_m29 := hr_MF hM_m26 F29 (by decide +kernel)
                    have hN_m29 : m29 200 42 = (((o + 1) : Nat) : Int) := (F29 200 42 rfl).trans hN_m26
                    have hI_m29 : m29 200 43 = wi := (F29 200 43 rfl).trans hI_m26
                    refine xw_putI (pc := 70) (f := 44) C0 kcX12 dX12_readCompare_70 (by decide +kernel) tv_1305 rfl rfl (xj_200 hKL) xk_0 rfl (by omega) (by omega) ?_
                    refine xw_iconst (pc := 73) C0 dX12_readCompare_73 ?_
                    refine xw_iret C0 hA hr hlk rfl dX12_readCompare_74 ?_
                    have eq : hq_cp t n lim pz (o + 1) = .inr (p26, o + 1) := by
                      rw [hq_cpY (by omega), eo26]
                      rfl
                    have Ft3 : xw_F [(200, 44, 44)] m29 (xw_u m29 200 44 ((cn : Nat) : Int)) := ((xw_F.rf (ML := [(200, 44, 44)])).u (show (200, 44, 44) ∈ _ by decide) ⟨by decide, by decide⟩)
                    have vt3_200_44 : (xw_u m29 200 44 ((cn : Nat) : Int)) 200 44 = ((cn : Nat) : Int) := xw_ug
                    generalize (xw_u m29 200 44 ((cn : Nat) : Int)) = t3 at Ft3 vt3_200_44 ⊢
                    exact ⟨_, rfl, Or.inl ⟨p26, o + 1, cn + 1, eq, rfl, hr_TF hT_m29 Ft3 (by decide +kernel), (Ft3 200 42 rfl).trans hN_m29, by omega, (Ft3 200 41 rfl).trans hC_m29, by omega, by omega, (Ft3 200 43 rfl).trans hI_m29⟩, hr_RF hR_m29 Ft3 (by decide +kernel), (((((xw_F.rf (ML := [(200, 5, 13), (200, 41, 44), (218, 0, 239)])).tr F25 (fun j i h => xw_o_sub (by decide +kernel) j i h)).tr F26 (fun j i h => xw_o_sub (by decide +kernel) j i h)).tr F29 (fun j i h => xw_o_sub (by decide +kernel) j i h)).tr Ft3 (fun j i h => xw_o_sub (by decide +kernel) j i h))⟩
                  · exfalso
                    omega
                · have hI_m26 : m26 200 43 = wi := (F26 200 43 rfl).trans hI_m25
                  have hR_m26 := hr_RF hR_m25 F26 (by decide +kernel)
                  refine xw_if_ne (pc := 50) (tgt := 55) C0 (by omega) dX12_readCompare_50 rfl (fun b30 => ?_) (fun b30 => ?_)
                  · exfalso
                    omega
                  · refine xw_iconst (pc := 53) C0 dX12_readCompare_53 ?_
                    refine xw_iret C0 hA hr hlk rfl dX12_readCompare_54 ?_
                    have eq : hq_cp t n lim pz (o + 1) = .inl e26 := by
                      rw [hq_cpY (by omega), eo26]
                      rfl
                    exact ⟨_, rfl, Or.inr ⟨_, eq, rfl, W26, hI_m26⟩, hR_m26, (((xw_F.rf (ML := [(200, 5, 13), (200, 41, 44), (218, 0, 239)])).tr F25 (fun j i h => xw_o_sub (by decide +kernel) j i h)).tr F26 (fun j i h => xw_o_sub (by decide +kernel) j i h))⟩
              · exfalso
                omega
            · refine xw_if_ne (pc := 24) (tgt := 33) C0 (by omega) dX12_readCompare_24 rfl (fun b31 => ?_) (fun b31 => ?_)
              · exfalso
                omega
              · refine xw_aload_n (pc := 27) C0 0 dX12_readCompare_27 rfl rfl ?_
                refine xw_iconst (pc := 28) C0 dX12_readCompare_28 ?_
                refine xw_callVI (pc := 29) (μ := μ) (ci := 12) (rest := []) (As := [.int (Int32.ofInt 1)]) C0 hU hO sa_Tg hKL (xr_bad (l := l) (v := 1) hS hT (by decide +kernel) (by omega)) tv_1463 dX12_readCompare_29 tv_1460 tv_1462 tq_X12_bad tv_13 rfl yb_X12_bad (by decide +kernel) rfl rfl rfl (by decide +kernel) (Nat.le_of_ble_eq_true rfl) (xj_200 hKL) xk_0 (fun r32 m32 w32 => ?_)
                obtain ⟨rfl, W32, F32⟩ := w32
                have hI_m32 : m32 200 43 = wi := (F32 200 43 rfl).trans hI
                have hR_m32 := hr_RF hR F32 (by decide +kernel)
                refine xw_iret C0 hA hr hlk rfl dX12_readCompare_32 ?_
                exact ⟨_, rfl, Or.inr ⟨_, hq_cpN (by omega), rfl, W32, hI_m32⟩, hR_m32, ((xw_F.rf (ML := [(200, 5, 13), (200, 41, 44), (218, 0, 239)])).tr F32 (fun j i h => xw_o_sub (by decide +kernel) j i h))⟩)
