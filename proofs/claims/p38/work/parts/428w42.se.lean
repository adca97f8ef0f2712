set_option maxRecDepth 20000 in
set_option maxHeartbeats 20000000 in
theorem xt_sd5 {l : Launch} {t rd nm : Nat → Int} {n lim pz cn o : Nat} {μ : xw_M} (hS : hr_S t n lim μ) (hT : hr_T t n lim pz μ) (hM : hr_M rd nm μ) (hK : hp_ok rd nm) (hN : μ 200 42 = ((o : Nat) : Int)) (ho : o ≤ 20) (hI : μ 200 43 = 3) (hC : μ 200 41 = (cn : Int)) (hc : cn ≤ 2 * o) (hR : hr_R μ) : xw_MetI l vwCl sa_Ts tb_KT0 tc_KL yX12_readSaid cX12_readSaid 4 (some .boolean) 27 657 (fun ad => [.ref (ad 200)]) μ (fun r μ' => hr_Q t n lim ((hq_on t n lim nm (rd 0).toNat (rd 1).toNat 5) pz o) cn o 3 r μ' ∧ hr_R μ' ∧ xw_F [(200, 5, 13), (200, 41, 44), (218, 0, 239)] μ μ') :=
  xw_of (by decide +kernel) (fun _ => Nat.le_of_ble_eq_true rfl) (fun p e s m args below meth c D dA A al w0 sz C0 hU hO hKL hr hlk hA => by
    have hp9_μ := hT.1
    have c2_μ := hT.2.1
    have hkb_μ := hp_kb t n lim pz
    have hkw_μ := hp_kwb (hp_w t n pz)
    have k0 := hK.1
    have k1 := hK.2.1
    refine xw_aload_n (pc := 0) C0 0 dX12_readSaid_0 rfl rfl ?_
    refine xw_bipush (pc := 1) C0 dX12_readSaid_1 (by decide +kernel) ?_
    refine xw_callVI (pc := 3) (μ := μ) (ci := 12) (rest := []) (As := [.int (Int32.ofInt 40)]) C0 hU hO sa_Tg hKL (xr_isSign (l := l) (v := 40) hS hT (by decide +kernel)) tv_1505 dX12_readSaid_3 tv_1502 tv_1504 tq_X12_isSign tv_13 rfl yb_X12_isSign (by decide +kernel) rfl rfl rfl (by decide +kernel) (Nat.le_of_ble_eq_true rfl) (xj_200 hKL) xk_0 (fun r1 m1 w1 => ?_)
    obtain ⟨rfl, w1⟩ := w1
    rcases w1 with ⟨w1, rfl⟩ | ⟨w1, rfl⟩
    · refine xw_istore_n (pc := 6) (L' := [(1, .int (Int32.ofInt 1)), (0, .ref (xw_ad al 200))]) C0 dX12_readSaid_6 rfl (by decide +kernel) rfl ?_
      refine xw_bipush (pc := 7) C0 dX12_readSaid_7 (by decide +kernel) ?_
      refine xw_istore_n (pc := 9) (L' := [(2, .int (Int32.ofInt 11)), (1, .int (Int32.ofInt 1)), (0, .ref (xw_ad al 200))]) C0 dX12_readSaid_9 rfl (by decide +kernel) rfl ?_
      refine xw_pk [2, 1, 0] (L' := [(0, .ref (xw_ad al 200)), (1, .int (Int32.ofInt 1)), (2, .int (Int32.ofInt ((11 : Nat) : Int)))]) rfl ?_
      refine xt_wL5 (op9 := 1) (μ := μ) C0 hU hO hKL hS hT (fun j hj => ?_) 21 11 (by omega) (by decide +kernel) (by decide +kernel) (fun c8 h8 h9 => by omega)
      rcases hj with hj | hj
      · have e20 : j = 20 := hj.1
        have q11 := hj.2 11 (by decide +kernel) (by decide +kernel)
        rw [show hp_pm 11 = 12 from rfl] at q11
        have q12 := hj.2 12 (by decide +kernel) (by decide +kernel)
        rw [show hp_pm 12 = 13 from rfl] at q12
        have q13 := hj.2 13 (by decide +kernel) (by decide +kernel)
        rw [show hp_pm 13 = 14 from rfl] at q13
        have q14 := hj.2 14 (by decide +kernel) (by decide +kernel)
        rw [show hp_pm 14 = 15 from rfl] at q14
        have q15 := hj.2 15 (by decide +kernel) (by decide +kernel)
        rw [show hp_pm 15 = 16 from rfl] at q15
        have q16 := hj.2 16 (by decide +kernel) (by decide +kernel)
        rw [show hp_pm 16 = 1 from rfl] at q16
        have q17 := hj.2 17 (by decide +kernel) (by decide +kernel)
        rw [show hp_pm 17 = 17 from rfl] at q17
        have q18 := hj.2 18 (by decide +kernel) (by decide +kernel)
        rw [show hp_pm 18 = 18 from rfl] at q18
        have q19 := hj.2 19 (by decide +kernel) (by decide +kernel)
        rw [show hp_pm 19 = 19 from rfl] at q19
        have is9 : ((hp_k t n lim pz = 2 ∧ (hp_kw (hp_w t n pz) = 1 ∨ 12 ≤ hp_kw (hp_w t n pz))) ∨ (hp_k t n lim pz = 4 ∧ hp_s t n pz = 40)) := by omega
        subst e20
        refine xw_iload_n (pc := 30) C0 1 dX12_readSaid_30 rfl rfl ?_
        refine xw_if_ne (pc := 31) (tgt := 46) C0 (by omega) dX12_readSaid_31 rfl (fun b21 => ?_) (fun b21 => ?_)
        · refine xw_aload_n (pc := 46) C0 0 dX12_readSaid_46 rfl rfl ?_
          refine xw_getI (pc := 47) (f := 42) (z := μ 200 42) C0 kcX12 dX12_readSaid_47 (by decide +kernel) tv_1303 (xj_200 hKL) xk_0 rfl (rfl) (fun g22 k22 => ?_)
          refine xw_bipush (pc := 50) C0 dX12_readSaid_50 (by decide +kernel) ?_
          refine xw_icmp_eq (pc := 52) (tgt := 64) C0 (by omega) (by omega) dX12_readSaid_52 rfl (fun b23 => ?_) (fun b23 => ?_)
          · refine xw_aload_n (pc := 64) C0 0 dX12_readSaid_64 rfl rfl ?_
            refine xw_iconst (pc := 65) C0 dX12_readSaid_65 ?_
            refine xw_callVI (pc := 66) (μ := μ) (ci := 12) (rest := []) (As := [.int (Int32.ofInt 4)]) C0 hU hO sa_Tg hKL (xr_bad (l := l) (v := 4) hS hT (by decide +kernel) (by omega)) tv_1463 dX12_readSaid_66 tv_1460 tv_1462 tq_X12_bad tv_13 rfl yb_X12_bad (by decide +kernel) rfl rfl rfl (by decide +kernel) (Nat.le_of_ble_eq_true rfl) (xj_200 hKL) xk_0 (fun r24 m24 w24 => ?_)
            obtain ⟨rfl, W24, F24⟩ := w24
            have hI_m24 : m24 200 43 = 3 := (F24 200 43 rfl).trans hI
            have hR_m24 := hr_RF hR F24 (by decide +kernel)
            refine xw_iret C0 hA hr hlk rfl dX12_readSaid_69 ?_
            exact ⟨_, rfl, Or.inr ⟨_, hq_onM is9 (by omega), rfl, W24, hI_m24⟩, hR_m24, ((xw_F.rf (ML := [(200, 5, 13), (200, 41, 44), (218, 0, 239)])).tr F24 (fun j i h => xw_o_sub (by decide +kernel) j i h))⟩
          · refine xw_aload_n (pc := 55) C0 0 dX12_readSaid_55 rfl rfl ?_
            refine xw_getI (pc := 56) (f := 43) (z := μ 200 43) C0 kcX12 dX12_readSaid_56 (by decide +kernel) tv_1304 (xj_200 hKL) xk_0 rfl (rfl) (fun g25 k25 => ?_)
            refine xw_bipush (pc := 59) C0 dX12_readSaid_59 (by decide +kernel) ?_
            refine xw_icmp_ne (pc := 61) (tgt := 70) C0 (by omega) (by omega) dX12_readSaid_61 rfl (fun b26 => ?_) (fun b26 => ?_)
            · refine xw_aload_n (pc := 70) C0 0 dX12_readSaid_70 rfl rfl ?_
              refine xw_dup (pc := 71) C0 dX12_readSaid_71 rfl ?_
              refine xw_getI (pc := 72) (f := 42) (z := μ 200 42) C0 kcX12 dX12_readSaid_72 (by decide +kernel) tv_1303 (xj_200 hKL) xk_0 rfl (rfl) (fun g27 k27 => ?_)
              refine xw_iconst (pc := 75) C0 dX12_readSaid_75 ?_
              refine xw_iadd (pc := 76) C0 dX12_readSaid_76 ?_
              refine xw_putI (pc := 77) (f := 42) C0 kcX12 dX12_readSaid_77 (by decide +kernel) tv_1303 rfl rfl (xj_200 hKL) xk_0 rfl (by omega) (by omega) ?_
              refine xw_aload_n (pc := 80) C0 0 dX12_readSaid_80 rfl rfl ?_
              refine xw_dup (pc := 81) C0 dX12_readSaid_81 rfl ?_
              refine xw_getI (pc := 82) (f := 43) (z := μ 200 43) C0 kcX12 dX12_readSaid_82 (by decide +kernel) tv_1304 (xj_200 hKL) xk_0 rfl ((xw_un (by decide +kernel)).trans rfl) (fun g28 k28 => ?_)
              refine xw_iconst (pc := 85) C0 dX12_readSaid_85 ?_
              refine xw_iadd (pc := 86) C0 dX12_readSaid_86 ?_
              refine xw_putI (pc := 87) (f := 43) C0 kcX12 dX12_readSaid_87 (by decide +kernel) tv_1304 rfl rfl (xj_200 hKL) xk_0 rfl (by omega) (by omega) ?_
              refine xw_aload_n (pc := 90) C0 0 dX12_readSaid_90 rfl rfl ?_
              have Ft1 : xw_F [(200, 42, 42), (200, 43, 43)] μ (xw_u (xw_u μ 200 42 ((μ 200 42) + 1)) 200 43 ((μ 200 43) + 1)) := (((xw_F.rf (ML := [(200, 42, 42), (200, 43, 43)])).u (show (200, 42, 42) ∈ _ by decide) ⟨by decide, by decide⟩).u (show (200, 43, 43) ∈ _ by decide) ⟨by decide, by decide⟩)
              have vt1_200_43 : (xw_u (xw_u μ 200 42 ((μ 200 42) + 1)) 200 43 ((μ 200 43) + 1)) 200 43 = (μ 200 43) + 1 := xw_ug
              have vt1_200_42 : (xw_u (xw_u μ 200 42 ((μ 200 42) + 1)) 200 43 ((μ 200 43) + 1)) 200 42 = (μ 200 42) + 1 := (xw_un (by decide +kernel)).trans xw_ug
              generalize (xw_u (xw_u μ 200 42 ((μ 200 42) + 1)) 200 43 ((μ 200 43) + 1)) = t1 at Ft1 vt1_200_43 vt1_200_42 ⊢
              have hS_t1 := hr_SF hS Ft1 (by decide +kernel)
              have hT_t1 := hr_TF hT Ft1 (by decide +kernel)
              have hM_t1 := hr_MF hM Ft1 (by decide +kernel)
              have hC_t1 : t1 200 41 = ((cn : Nat) : Int) := (Ft1 200 41 rfl).trans hC
              have hR_t1 := hr_RF hR Ft1 (by decide +kernel)
              have hN_t1 : t1 200 42 = ((o + 1 : Nat) : Int) := by
                rw [vt1_200_42]
                omega
              have hI_t1 : t1 200 43 = 4 := by
                rw [vt1_200_43]
                omega
              refine xw_callVV (pc := 91) (μ := t1) (ci := 12) (rest := []) (As := []) C0 hU hO sa_Tg hKL (xr_go (l := l) (t := t) (n := n) (lim := lim) (pz := hp_x t n pz) hS_t1 (hT_t1.2.2.2.2.2.2 (by omega)) (hp_xb (lim := lim) hT_t1.1 (by omega))) tv_1425 dX12_readSaid_91 tv_1422 tv_1424 tq_X12_go tv_13 rfl yb_X12_go (by decide +kernel) rfl rfl rfl (by decide +kernel) (Nat.le_of_ble_eq_true rfl) (xj_200 hKL) xk_0 (fun m29 w29 => ?_)
              obtain ⟨hT_m29, F29⟩ := w29
              have hS_m29 := hr_SF hS_t1 F29 (by decide +kernel)
              have hM_m29 := hr_MF hM_t1 F29 (by decide +kernel)
              have hN_m29 : m29 200 42 = (((o + 1) : Nat) : Int) := (F29 200 42 rfl).trans hN_t1
              have hI_m29 : m29 200 43 = 4 := (F29 200 43 rfl).trans hI_t1
              have hC_m29 : m29 200 41 = ((cn : Nat) : Int) := (F29 200 41 rfl).trans hC_t1
              have hR_m29 := hr_RF hR_t1 F29 (by decide +kernel)
              refine xw_iconst (pc := 94) C0 dX12_readSaid_94 ?_
              refine xw_istore_n (pc := 95) (L' := [(3, .int (Int32.ofInt 1)), (0, .ref (xw_ad al 200)), (1, .int (Int32.ofInt 1)), (2, .int (Int32.ofInt 20))]) C0 dX12_readSaid_95 rfl (by decide +kernel) rfl ?_
              refine xw_iload_n (pc := 96) C0 2 dX12_readSaid_96 rfl rfl ?_
              refine xw_if_eq (pc := 97) (tgt := 108) C0 (by omega) dX12_readSaid_97 rfl (fun b30 => ?_) (fun b30 => ?_)
              · exfalso
                omega
              · refine xw_aload_n (pc := 100) C0 1 dX12_readSaid_100 rfl rfl ?_
                refine xw_callVI (pc := 101) (μ := m29) (ci := 12) (rest := []) (As := []) C0 hU hO sa_Tg hKL (xt_br4 (l := l) (rd := rd) (nm := nm) (cn := cn) hS_m29 hT_m29 hM_m29 hK hN_m29 (by omega) hI_m29 hC_m29 (by omega) hR_m29) tv_1847 dX12_readSaid_101 tv_1844 tv_1846 tq_X12_readBracket tv_13 rfl yb_X12_readBracket (by decide +kernel) rfl rfl rfl (by decide +kernel) (Nat.le_of_ble_eq_true rfl) (xj_200 hKL) xk_0 (fun r31 m31 w31 => ?_)
                obtain ⟨w31, hR_m31, F31⟩ := w31
                rcases w31 with ⟨p31, o31, c31, eo31, rfl, hT_m31, hN_m31, ho31, hC_m31, hc31, ht31, hI_m31⟩ | ⟨e31, eo31, rfl, W31, hI_m31⟩
                · have hS_m31 := hr_SF hS_m29 F31 (by decide +kernel)
                  have hM_m31 := hr_MF hM_m29 F31 (by decide +kernel)
                  refine xw_istore_n (pc := 104) (L' := [(3, .int (Int32.ofInt 1)), (0, .ref (xw_ad al 200)), (1, .int (Int32.ofInt 1)), (2, .int (Int32.ofInt 20))]) C0 dX12_readSaid_104 rfl (by decide +kernel) rfl ?_
                  refine xw_goto (pc := 105) (tgt := 166) C0 dX12_readSaid_105 rfl ?_
                  refine xw_aload_n (pc := 166) C0 1 dX12_readSaid_166 rfl rfl ?_
                  refine xw_dup (pc := 167) C0 dX12_readSaid_167 rfl ?_
                  refine xw_getI (pc := 168) (f := 43) (z := m31 200 43) C0 kcX12 dX12_readSaid_168 (by decide +kernel) tv_1304 (xj_200 hKL) xk_0 rfl (rfl) (fun g32 k32 => ?_)
                  refine xw_iconst (pc := 171) C0 dX12_readSaid_171 ?_
                  refine xw_isub (pc := 172) C0 dX12_readSaid_172 ?_
                  refine xw_putI (pc := 173) (f := 43) C0 kcX12 dX12_readSaid_173 (by decide +kernel) tv_1304 rfl rfl (xj_200 hKL) xk_0 rfl (by omega) (by omega) ?_
                  refine xw_iload_n (pc := 176) C0 0 dX12_readSaid_176 rfl rfl ?_
                  refine xw_iret C0 hA hr hlk rfl dX12_readSaid_177 ?_
                  have e0 := hq_onO (t := t) (n := n) (lim := lim) (nm := nm) (m0 := (rd 0).toNat) (m1 := (rd 1).toNat) (d := 4) (p := pz) (o := o) is9 (by omega)
                  rw [hq_boP (by omega)] at e0
                  rw [eo31] at e0
                  have Ft2 : xw_F [(200, 43, 43)] m31 (xw_u m31 200 43 ((m31 200 43) - 1)) := ((xw_F.rf (ML := [(200, 43, 43)])).u (show (200, 43, 43) ∈ _ by decide) ⟨by decide, by decide⟩)
                  have vt2_200_43 : (xw_u m31 200 43 ((m31 200 43) - 1)) 200 43 = (m31 200 43) - 1 := xw_ug
                  generalize (xw_u m31 200 43 ((m31 200 43) - 1)) = t2 at Ft2 vt2_200_43 ⊢
                  have tp9 : t2 200 44 = m31 200 44 := Ft2 200 44 rfl
                  exact ⟨_, rfl, Or.inl ⟨p31, o31, c31, e0, rfl, hr_TF hT_m31 Ft2 (by decide +kernel), (Ft2 200 42 rfl).trans hN_m31, by omega, (Ft2 200 41 rfl).trans hC_m31, by omega, by omega, by rw [vt2_200_43]; omega⟩, hr_RF hR_m31 Ft2 (by decide +kernel), (((((xw_F.rf (ML := [(200, 5, 13), (200, 41, 44), (218, 0, 239)])).tr Ft1 (fun j i h => xw_o_sub (by decide +kernel) j i h)).tr F29 (fun j i h => xw_o_sub (by decide +kernel) j i h)).tr F31 (fun j i h => xw_o_sub (by decide +kernel) j i h)).tr Ft2 (fun j i h => xw_o_sub (by decide +kernel) j i h))⟩
                · refine xw_istore_n (pc := 104) (L' := [(3, .int (Int32.ofInt 0)), (0, .ref (xw_ad al 200)), (1, .int (Int32.ofInt 1)), (2, .int (Int32.ofInt 20))]) C0 dX12_readSaid_104 rfl (by decide +kernel) rfl ?_
                  refine xw_goto (pc := 105) (tgt := 166) C0 dX12_readSaid_105 rfl ?_
                  refine xw_aload_n (pc := 166) C0 1 dX12_readSaid_166 rfl rfl ?_
                  refine xw_dup (pc := 167) C0 dX12_readSaid_167 rfl ?_
                  refine xw_getI (pc := 168) (f := 43) (z := m31 200 43) C0 kcX12 dX12_readSaid_168 (by decide +kernel) tv_1304 (xj_200 hKL) xk_0 rfl (rfl) (fun g33 k33 => ?_)
                  refine xw_iconst (pc := 171) C0 dX12_readSaid_171 ?_
                  refine xw_isub (pc := 172) C0 dX12_readSaid_172 ?_
                  refine xw_putI (pc := 173) (f := 43) C0 kcX12 dX12_readSaid_173 (by decide +kernel) tv_1304 rfl rfl (xj_200 hKL) xk_0 rfl (by omega) (by omega) ?_
                  refine xw_iload_n (pc := 176) C0 0 dX12_readSaid_176 rfl rfl ?_
                  refine xw_iret C0 hA hr hlk rfl dX12_readSaid_177 ?_
                  have e0 := hq_onO (t := t) (n := n) (lim := lim) (nm := nm) (m0 := (rd 0).toNat) (m1 := (rd 1).toNat) (d := 4) (p := pz) (o := o) is9 (by omega)
                  rw [hq_boP (by omega)] at e0
                  rw [eo31] at e0
                  have Ft3 : xw_F [(200, 43, 43)] m31 (xw_u m31 200 43 ((m31 200 43) - 1)) := ((xw_F.rf (ML := [(200, 43, 43)])).u (show (200, 43, 43) ∈ _ by decide) ⟨by decide, by decide⟩)
                  have vt3_200_43 : (xw_u m31 200 43 ((m31 200 43) - 1)) 200 43 = (m31 200 43) - 1 := xw_ug
                  generalize (xw_u m31 200 43 ((m31 200 43) - 1)) = t3 at Ft3 vt3_200_43 ⊢
                  exact ⟨_, rfl, Or.inr ⟨_, e0, rfl, ⟨(Ft3 200 10 rfl).trans W31.1, (Ft3 200 11 rfl).trans W31.2⟩, by rw [vt3_200_43]; omega⟩, hr_RF hR_m31 Ft3 (by decide +kernel), (((((xw_F.rf (ML := [(200, 5, 13), (200, 41, 44), (218, 0, 239)])).tr Ft1 (fun j i h => xw_o_sub (by decide +kernel) j i h)).tr F29 (fun j i h => xw_o_sub (by decide +kernel) j i h)).tr F31 (fun j i h => xw_o_sub (by decide +kernel) j i h)).tr Ft3 (fun j i h => xw_o_sub (by decide +kernel) j i h))⟩
            · exfalso
              omega
        · exfalso
          omega
      · exfalso
        omega
    · refine xw_istore_n (pc := 6) (L' := [(1, .int (Int32.ofInt 0)), (0, .ref (xw_ad al 200))]) C0 dX12_readSaid_6 rfl (by decide +kernel) rfl ?_
      refine xw_bipush (pc := 7) C0 dX12_readSaid_7 (by decide +kernel) ?_
      refine xw_istore_n (pc := 9) (L' := [(2, .int (Int32.ofInt 11)), (1, .int (Int32.ofInt 0)), (0, .ref (xw_ad al 200))]) C0 dX12_readSaid_9 rfl (by decide +kernel) rfl ?_
      refine xw_pk [2, 1, 0] (L' := [(0, .ref (xw_ad al 200)), (1, .int (Int32.ofInt 0)), (2, .int (Int32.ofInt ((11 : Nat) : Int)))]) rfl ?_
      refine xt_wL5 (op9 := 0) (μ := μ) C0 hU hO hKL hS hT (fun j hj => ?_) 21 11 (by omega) (by decide +kernel) (by decide +kernel) (fun c8 h8 h9 => by omega)
      rcases hj with hj | hj
      · have e20 : j = 20 := hj.1
        have q11 := hj.2 11 (by decide +kernel) (by decide +kernel)
        rw [show hp_pm 11 = 12 from rfl] at q11
        have q12 := hj.2 12 (by decide +kernel) (by decide +kernel)
        rw [show hp_pm 12 = 13 from rfl] at q12
        have q13 := hj.2 13 (by decide +kernel) (by decide +kernel)
        rw [show hp_pm 13 = 14 from rfl] at q13
        have q14 := hj.2 14 (by decide +kernel) (by decide +kernel)
        rw [show hp_pm 14 = 15 from rfl] at q14
        have q15 := hj.2 15 (by decide +kernel) (by decide +kernel)
        rw [show hp_pm 15 = 16 from rfl] at q15
        have q16 := hj.2 16 (by decide +kernel) (by decide +kernel)
        rw [show hp_pm 16 = 1 from rfl] at q16
        have q17 := hj.2 17 (by decide +kernel) (by decide +kernel)
        rw [show hp_pm 17 = 17 from rfl] at q17
        have q18 := hj.2 18 (by decide +kernel) (by decide +kernel)
        rw [show hp_pm 18 = 18 from rfl] at q18
        have q19 := hj.2 19 (by decide +kernel) (by decide +kernel)
        rw [show hp_pm 19 = 19 from rfl] at q19
        have is9 : ¬ ((hp_k t n lim pz = 2 ∧ (hp_kw (hp_w t n pz) = 1 ∨ 12 ≤ hp_kw (hp_w t n pz))) ∨ (hp_k t n lim pz = 4 ∧ hp_s t n pz = 40)) := by omega
        subst e20
        refine xw_iload_n (pc := 30) C0 1 dX12_readSaid_30 rfl rfl ?_
        refine xw_if_ne (pc := 31) (tgt := 46) C0 (by omega) dX12_readSaid_31 rfl (fun b21 => ?_) (fun b21 => ?_)
        · exfalso
          omega
        · refine xw_iload_n (pc := 34) C0 2 dX12_readSaid_34 rfl rfl ?_
          refine xw_bipush (pc := 35) C0 dX12_readSaid_35 (by decide +kernel) ?_
          refine xw_icmp_le (pc := 37) (tgt := 46) C0 (by omega) (by omega) dX12_readSaid_37 rfl (fun b22 => ?_) (fun b22 => ?_)
          · exfalso
            omega
          · refine xw_aload_n (pc := 40) C0 0 dX12_readSaid_40 rfl rfl ?_
            refine xw_iconst (pc := 41) C0 dX12_readSaid_41 ?_
            refine xw_callVI (pc := 42) (μ := μ) (ci := 12) (rest := []) (As := [.int (Int32.ofInt 1)]) C0 hU hO sa_Tg hKL (xr_bad (l := l) (v := 1) hS hT (by decide +kernel) (by omega)) tv_1463 dX12_readSaid_42 tv_1460 tv_1462 tq_X12_bad tv_13 rfl yb_X12_bad (by decide +kernel) rfl rfl rfl (by decide +kernel) (Nat.le_of_ble_eq_true rfl) (xj_200 hKL) xk_0 (fun r23 m23 w23 => ?_)
            obtain ⟨rfl, W23, F23⟩ := w23
            have hI_m23 : m23 200 43 = 3 := (F23 200 43 rfl).trans hI
            have hR_m23 := hr_RF hR F23 (by decide +kernel)
            refine xw_iret C0 hA hr hlk rfl dX12_readSaid_45 ?_
            exact ⟨_, rfl, Or.inr ⟨_, hq_onN is9, rfl, W23, hI_m23⟩, hR_m23, ((xw_F.rf (ML := [(200, 5, 13), (200, 41, 44), (218, 0, 239)])).tr F23 (fun j i h => xw_o_sub (by decide +kernel) j i h))⟩
      · obtain ⟨hj, hk2, hkj⟩ := hj
        rcases (show j = 11 ∨ j = 12 ∨ j = 13 ∨ j = 14 ∨ j = 15 ∨ j = 16 ∨ j = 17 ∨ j = 18 ∨ j = 19 by omega) with rfl | rfl | rfl | rfl | rfl | rfl | rfl | rfl | rfl
        · rw [show hp_pm 11 = 12 from rfl] at hkj
          have is9 : ((hp_k t n lim pz = 2 ∧ (hp_kw (hp_w t n pz) = 1 ∨ 12 ≤ hp_kw (hp_w t n pz))) ∨ (hp_k t n lim pz = 4 ∧ hp_s t n pz = 40)) := by omega
          refine xw_iload_n (pc := 30) C0 1 dX12_readSaid_30 rfl rfl ?_
          refine xw_if_ne (pc := 31) (tgt := 46) C0 (by omega) dX12_readSaid_31 rfl (fun b21 => ?_) (fun b21 => ?_)
          · exfalso
            omega
          · refine xw_iload_n (pc := 34) C0 2 dX12_readSaid_34 rfl rfl ?_
            refine xw_bipush (pc := 35) C0 dX12_readSaid_35 (by decide +kernel) ?_
            refine xw_icmp_le (pc := 37) (tgt := 46) C0 (by omega) (by omega) dX12_readSaid_37 rfl (fun b22 => ?_) (fun b22 => ?_)
            · refine xw_aload_n (pc := 46) C0 0 dX12_readSaid_46 rfl rfl ?_
              refine xw_getI (pc := 47) (f := 42) (z := μ 200 42) C0 kcX12 dX12_readSaid_47 (by decide +kernel) tv_1303 (xj_200 hKL) xk_0 rfl (rfl) (fun g23 k23 => ?_)
              refine xw_bipush (pc := 50) C0 dX12_readSaid_50 (by decide +kernel) ?_
              refine xw_icmp_eq (pc := 52) (tgt := 64) C0 (by omega) (by omega) dX12_readSaid_52 rfl (fun b24 => ?_) (fun b24 => ?_)
              · refine xw_aload_n (pc := 64) C0 0 dX12_readSaid_64 rfl rfl ?_
                refine xw_iconst (pc := 65) C0 dX12_readSaid_65 ?_
                refine xw_callVI (pc := 66) (μ := μ) (ci := 12) (rest := []) (As := [.int (Int32.ofInt 4)]) C0 hU hO sa_Tg hKL (xr_bad (l := l) (v := 4) hS hT (by decide +kernel) (by omega)) tv_1463 dX12_readSaid_66 tv_1460 tv_1462 tq_X12_bad tv_13 rfl yb_X12_bad (by decide +kernel) rfl rfl rfl (by decide +kernel) (Nat.le_of_ble_eq_true rfl) (xj_200 hKL) xk_0 (fun r25 m25 w25 => ?_)
                obtain ⟨rfl, W25, F25⟩ := w25
                have hI_m25 : m25 200 43 = 3 := (F25 200 43 rfl).trans hI
                have hR_m25 := hr_RF hR F25 (by decide +kernel)
                refine xw_iret C0 hA hr hlk rfl dX12_readSaid_69 ?_
                exact ⟨_, rfl, Or.inr ⟨_, hq_onM is9 (by omega), rfl, W25, hI_m25⟩, hR_m25, ((xw_F.rf (ML := [(200, 5, 13), (200, 41, 44), (218, 0, 239)])).tr F25 (fun j i h => xw_o_sub (by decide +kernel) j i h))⟩
              · refine xw_aload_n (pc := 55) C0 0 dX12_readSaid_55 rfl rfl ?_
                refine xw_getI (pc := 56) (f := 43) (z := μ 200 43) C0 kcX12 dX12_readSaid_56 (by decide +kernel) tv_1304 (xj_200 hKL) xk_0 rfl (rfl) (fun g26 k26 => ?_)
                refine xw_bipush (pc := 59) C0 dX12_readSaid_59 (by decide +kernel) ?_
                refine xw_icmp_ne (pc := 61) (tgt := 70) C0 (by omega) (by omega) dX12_readSaid_61 rfl (fun b27 => ?_) (fun b27 => ?_)
                · refine xw_aload_n (pc := 70) C0 0 dX12_readSaid_70 rfl rfl ?_
                  refine xw_dup (pc := 71) C0 dX12_readSaid_71 rfl ?_
                  refine xw_getI (pc := 72) (f := 42) (z := μ 200 42) C0 kcX12 dX12_readSaid_72 (by decide +kernel) tv_1303 (xj_200 hKL) xk_0 rfl (rfl) (fun g28 k28 => ?_)
                  refine xw_iconst (pc := 75) C0 dX12_readSaid_75 ?_
                  refine xw_iadd (pc := 76) C0 dX12_readSaid_76 ?_
                  refine xw_putI (pc := 77) (f := 42) C0 kcX12 dX12_readSaid_77 (by decide +kernel) tv_1303 rfl rfl (xj_200 hKL) xk_0 rfl (by omega) (by omega) ?_
                  refine xw_aload_n (pc := 80) C0 0 dX12_readSaid_80 rfl rfl ?_
                  refine xw_dup (pc := 81) C0 dX12_readSaid_81 rfl ?_
                  refine xw_getI (pc := 82) (f := 43) (z := μ 200 43) C0 kcX12 dX12_readSaid_82 (by decide +kernel) tv_1304 (xj_200 hKL) xk_0 rfl ((xw_un (by decide +kernel)).trans rfl) (fun g29 k29 => ?_)
                  refine xw_iconst (pc := 85) C0 dX12_readSaid_85 ?_
                  refine xw_iadd (pc := 86) C0 dX12_readSaid_86 ?_
                  refine xw_putI (pc := 87) (f := 43) C0 kcX12 dX12_readSaid_87 (by decide +kernel) tv_1304 rfl rfl (xj_200 hKL) xk_0 rfl (by omega) (by omega) ?_
                  refine xw_aload_n (pc := 90) C0 0 dX12_readSaid_90 rfl rfl ?_
                  have Ft1 : xw_F [(200, 42, 42), (200, 43, 43)] μ (xw_u (xw_u μ 200 42 ((μ 200 42) + 1)) 200 43 ((μ 200 43) + 1)) := (((xw_F.rf (ML := [(200, 42, 42), (200, 43, 43)])).u (show (200, 42, 42) ∈ _ by decide) ⟨by decide, by decide⟩).u (show (200, 43, 43) ∈ _ by decide) ⟨by decide, by decide⟩)
                  have vt1_200_43 : (xw_u (xw_u μ 200 42 ((μ 200 42) + 1)) 200 43 ((μ 200 43) + 1)) 200 43 = (μ 200 43) + 1 := xw_ug
                  have vt1_200_42 : (xw_u (xw_u μ 200 42 ((μ 200 42) + 1)) 200 43 ((μ 200 43) + 1)) 200 42 = (μ 200 42) + 1 := (xw_un (by decide +kernel)).trans xw_ug
                  generalize (xw_u (xw_u μ 200 42 ((μ 200 42) + 1)) 200 43 ((μ 200 43) + 1)) = t1 at Ft1 vt1_200_43 vt1_200_42 ⊢
                  have hS_t1 := hr_SF hS Ft1 (by decide +kernel)
                  have hT_t1 := hr_TF hT Ft1 (by decide +kernel)
                  have hM_t1 := hr_MF hM Ft1 (by decide +kernel)
                  have hC_t1 : t1 200 41 = ((cn : Nat) : Int) := (Ft1 200 41 rfl).trans hC
                  have hR_t1 := hr_RF hR Ft1 (by decide +kernel)
                  have hN_t1 : t1 200 42 = ((o + 1 : Nat) : Int) := by
                    rw [vt1_200_42]
                    omega
                  have hI_t1 : t1 200 43 = 4 := by
                    rw [vt1_200_43]
                    omega
                  refine xw_callVV (pc := 91) (μ := t1) (ci := 12) (rest := []) (As := []) C0 hU hO sa_Tg hKL (xr_go (l := l) (t := t) (n := n) (lim := lim) (pz := hp_x t n pz) hS_t1 (hT_t1.2.2.2.2.2.2 (by omega)) (hp_xb (lim := lim) hT_t1.1 (by omega))) tv_1425 dX12_readSaid_91 tv_1422 tv_1424 tq_X12_go tv_13 rfl yb_X12_go (by decide +kernel) rfl rfl rfl (by decide +kernel) (Nat.le_of_ble_eq_true rfl) (xj_200 hKL) xk_0 (fun m30 w30 => ?_)
                  obtain ⟨hT_m30, F30⟩ := w30
                  have hS_m30 := hr_SF hS_t1 F30 (by decide +kernel)
                  have hM_m30 := hr_MF hM_t1 F30 (by decide +kernel)
                  have hN_m30 : m30 200 42 = (((o + 1) : Nat) : Int) := (F30 200 42 rfl).trans hN_t1
                  have hI_m30 : m30 200 43 = 4 := (F30 200 43 rfl).trans hI_t1
                  have hC_m30 : m30 200 41 = ((cn : Nat) : Int) := (F30 200 41 rfl).trans hC_t1
                  have hR_m30 := hr_RF hR_t1 F30 (by decide +kernel)
                  refine xw_iconst (pc := 94) C0 dX12_readSaid_94 ?_
                  refine xw_istore_n (pc := 95) (L' := [(3, .int (Int32.ofInt 1)), (0, .ref (xw_ad al 200)), (1, .int (Int32.ofInt 0)), (2, .int (Int32.ofInt 11))]) C0 dX12_readSaid_95 rfl (by decide +kernel) rfl ?_
                  refine xw_iload_n (pc := 96) C0 2 dX12_readSaid_96 rfl rfl ?_
                  refine xw_if_eq (pc := 97) (tgt := 108) C0 (by omega) dX12_readSaid_97 rfl (fun b31 => ?_) (fun b31 => ?_)
                  · refine xw_iload_n (pc := 108) C0 3 dX12_readSaid_108 rfl rfl ?_
                    refine xw_bipush (pc := 109) C0 dX12_readSaid_109 (by decide +kernel) ?_
                    refine xw_icmp_ne (pc := 111) (tgt := 122) C0 (by omega) (by omega) dX12_readSaid_111 rfl (fun b32 => ?_) (fun b32 => ?_)
                    · exfalso
                      omega
                    · refine xw_aload_n (pc := 114) C0 1 dX12_readSaid_114 rfl rfl ?_
                      refine xw_callVI (pc := 115) (μ := m30) (ci := 12) (rest := []) (As := []) C0 hU hO sa_Tg hKL (xt_no4 (l := l) (rd := rd) (nm := nm) (cn := cn) hS_m30 hT_m30 hM_m30 hK hN_m30 (by omega) hI_m30 hC_m30 (by omega) hR_m30) tv_1851 dX12_readSaid_115 tv_1848 tv_1850 tq_X12_readNot tv_13 rfl yb_X12_readNot (by decide +kernel) rfl rfl rfl (by decide +kernel) (Nat.le_of_ble_eq_true rfl) (xj_200 hKL) xk_0 (fun r33 m33 w33 => ?_)
                      obtain ⟨w33, hR_m33, F33⟩ := w33
                      rcases w33 with ⟨p33, o33, c33, eo33, rfl, hT_m33, hN_m33, ho33, hC_m33, hc33, ht33, hI_m33⟩ | ⟨e33, eo33, rfl, W33, hI_m33⟩
                      · have hS_m33 := hr_SF hS_m30 F33 (by decide +kernel)
                        have hM_m33 := hr_MF hM_m30 F33 (by decide +kernel)
                        refine xw_istore_n (pc := 118) (L' := [(3, .int (Int32.ofInt 1)), (0, .ref (xw_ad al 200)), (1, .int (Int32.ofInt 0)), (2, .int (Int32.ofInt 11))]) C0 dX12_readSaid_118 rfl (by decide +kernel) rfl ?_
                        refine xw_goto (pc := 119) (tgt := 166) C0 dX12_readSaid_119 rfl ?_
                        refine xw_aload_n (pc := 166) C0 1 dX12_readSaid_166 rfl rfl ?_
                        refine xw_dup (pc := 167) C0 dX12_readSaid_167 rfl ?_
                        refine xw_getI (pc := 168) (f := 43) (z := m33 200 43) C0 kcX12 dX12_readSaid_168 (by decide +kernel) tv_1304 (xj_200 hKL) xk_0 rfl (rfl) (fun g34 k34 => ?_)
                        refine xw_iconst (pc := 171) C0 dX12_readSaid_171 ?_
                        refine xw_isub (pc := 172) C0 dX12_readSaid_172 ?_
                        refine xw_putI (pc := 173) (f := 43) C0 kcX12 dX12_readSaid_173 (by decide +kernel) tv_1304 rfl rfl (xj_200 hKL) xk_0 rfl (by omega) (by omega) ?_
                        refine xw_iload_n (pc := 176) C0 0 dX12_readSaid_176 rfl rfl ?_
                        refine xw_iret C0 hA hr hlk rfl dX12_readSaid_177 ?_
                        have e0 := hq_onO (t := t) (n := n) (lim := lim) (nm := nm) (m0 := (rd 0).toNat) (m1 := (rd 1).toNat) (d := 4) (p := pz) (o := o) is9 (by omega)
                        rw [hq_boT (by omega) (by omega)] at e0
                        rw [eo33] at e0
                        have Ft2 : xw_F [(200, 43, 43)] m33 (xw_u m33 200 43 ((m33 200 43) - 1)) := ((xw_F.rf (ML := [(200, 43, 43)])).u (show (200, 43, 43) ∈ _ by decide) ⟨by decide, by decide⟩)
                        have vt2_200_43 : (xw_u m33 200 43 ((m33 200 43) - 1)) 200 43 = (m33 200 43) - 1 := xw_ug
                        generalize (xw_u m33 200 43 ((m33 200 43) - 1)) = t2 at Ft2 vt2_200_43 ⊢
                        have tp9 : t2 200 44 = m33 200 44 := Ft2 200 44 rfl
                        exact ⟨_, rfl, Or.inl ⟨p33, o33, c33, e0, rfl, hr_TF hT_m33 Ft2 (by decide +kernel), (Ft2 200 42 rfl).trans hN_m33, by omega, (Ft2 200 41 rfl).trans hC_m33, by omega, by omega, by rw [vt2_200_43]; omega⟩, hr_RF hR_m33 Ft2 (by decide +kernel), (((((xw_F.rf (ML := [(200, 5, 13), (200, 41, 44), (218, 0, 239)])).tr Ft1 (fun j i h => xw_o_sub (by decide +kernel) j i h)).tr F30 (fun j i h => xw_o_sub (by decide +kernel) j i h)).tr F33 (fun j i h => xw_o_sub (by decide +kernel) j i h)).tr Ft2 (fun j i h => xw_o_sub (by decide +kernel) j i h))⟩
                      · refine xw_istore_n (pc := 118) (L' := [(3, .int (Int32.ofInt 0)), (0, .ref (xw_ad al 200)), (1, .int (Int32.ofInt 0)), (2, .int (Int32.ofInt 11))]) C0 dX12_readSaid_118 rfl (by decide +kernel) rfl ?_
                        refine xw_goto (pc := 119) (tgt := 166) C0 dX12_readSaid_119 rfl ?_
                        refine xw_aload_n (pc := 166) C0 1 dX12_readSaid_166 rfl rfl ?_
                        refine xw_dup (pc := 167) C0 dX12_readSaid_167 rfl ?_
                        refine xw_getI (pc := 168) (f := 43) (z := m33 200 43) C0 kcX12 dX12_readSaid_168 (by decide +kernel) tv_1304 (xj_200 hKL) xk_0 rfl (rfl) (fun g35 k35 => ?_)
                        refine xw_iconst (pc := 171) C0 dX12_readSaid_171 ?_
                        refine xw_isub (pc := 172) C0 dX12_readSaid_172 ?_
                        refine xw_putI (pc := 173) (f := 43) C0 kcX12 dX12_readSaid_173 (by decide +kernel) tv_1304 rfl rfl (xj_200 hKL) xk_0 rfl (by omega) (by omega) ?_
                        refine xw_iload_n (pc := 176) C0 0 dX12_readSaid_176 rfl rfl ?_
                        refine xw_iret C0 hA hr hlk rfl dX12_readSaid_177 ?_
                        have e0 := hq_onO (t := t) (n := n) (lim := lim) (nm := nm) (m0 := (rd 0).toNat) (m1 := (rd 1).toNat) (d := 4) (p := pz) (o := o) is9 (by omega)
                        rw [hq_boT (by omega) (by omega)] at e0
                        rw [eo33] at e0
                        have Ft3 : xw_F [(200, 43, 43)] m33 (xw_u m33 200 43 ((m33 200 43) - 1)) := ((xw_F.rf (ML := [(200, 43, 43)])).u (show (200, 43, 43) ∈ _ by decide) ⟨by decide, by decide⟩)
                        have vt3_200_43 : (xw_u m33 200 43 ((m33 200 43) - 1)) 200 43 = (m33 200 43) - 1 := xw_ug
                        generalize (xw_u m33 200 43 ((m33 200 43) - 1)) = t3 at Ft3 vt3_200_43 ⊢
                        exact ⟨_, rfl, Or.inr ⟨_, e0, rfl, ⟨(Ft3 200 10 rfl).trans W33.1, (Ft3 200 11 rfl).trans W33.2⟩, by rw [vt3_200_43]; omega⟩, hr_RF hR_m33 Ft3 (by decide +kernel), (((((xw_F.rf (ML := [(200, 5, 13), (200, 41, 44), (218, 0, 239)])).tr Ft1 (fun j i h => xw_o_sub (by decide +kernel) j i h)).tr F30 (fun j i h => xw_o_sub (by decide +kernel) j i h)).tr F33 (fun j i h => xw_o_sub (by decide +kernel) j i h)).tr Ft3 (fun j i h => xw_o_sub (by decide +kernel) j i h))⟩
                  · exfalso
                    omega
                · exfalso
                  omega
            · exfalso
              omega
        · rw [show hp_pm 12 = 13 from rfl] at hkj
          have is9 : ((hp_k t n lim pz = 2 ∧ (hp_kw (hp_w t n pz) = 1 ∨ 12 ≤ hp_kw (hp_w t n pz))) ∨ (hp_k t n lim pz = 4 ∧ hp_s t n pz = 40)) := by omega
          refine xw_iload_n (pc := 30) C0 1 dX12_readSaid_30 rfl rfl ?_
          refine xw_if_ne (pc := 31) (tgt := 46) C0 (by omega) dX12_readSaid_31 rfl (fun b21 => ?_) (fun b21 => ?_)
          · exfalso
            omega
          · refine xw_iload_n (pc := 34) C0 2 dX12_readSaid_34 rfl rfl ?_
            refine xw_bipush (pc := 35) C0 dX12_readSaid_35 (by decide +kernel) ?_
            refine xw_icmp_le (pc := 37) (tgt := 46) C0 (by omega) (by omega) dX12_readSaid_37 rfl (fun b22 => ?_) (fun b22 => ?_)
            · refine xw_aload_n (pc := 46) C0 0 dX12_readSaid_46 rfl rfl ?_
              refine xw_getI (pc := 47) (f := 42) (z := μ 200 42) C0 kcX12 dX12_readSaid_47 (by decide +kernel) tv_1303 (xj_200 hKL) xk_0 rfl (rfl) (fun g23 k23 => ?_)
              refine xw_bipush (pc := 50) C0 dX12_readSaid_50 (by decide +kernel) ?_
              refine xw_icmp_eq (pc := 52) (tgt := 64) C0 (by omega) (by omega) dX12_readSaid_52 rfl (fun b24 => ?_) (fun b24 => ?_)
              · refine xw_aload_n (pc := 64) C0 0 dX12_readSaid_64 rfl rfl ?_
                refine xw_iconst (pc := 65) C0 dX12_readSaid_65 ?_
                refine xw_callVI (pc := 66) (μ := μ) (ci := 12) (rest := []) (As := [.int (Int32.ofInt 4)]) C0 hU hO sa_Tg hKL (xr_bad (l := l) (v := 4) hS hT (by decide +kernel) (by omega)) tv_1463 dX12_readSaid_66 tv_1460 tv_1462 tq_X12_bad tv_13 rfl yb_X12_bad (by decide +kernel) rfl rfl rfl (by decide +kernel) (Nat.le_of_ble_eq_true rfl) (xj_200 hKL) xk_0 (fun r25 m25 w25 => ?_)
                obtain ⟨rfl, W25, F25⟩ := w25
                have hI_m25 : m25 200 43 = 3 := (F25 200 43 rfl).trans hI
                have hR_m25 := hr_RF hR F25 (by decide +kernel)
                refine xw_iret C0 hA hr hlk rfl dX12_readSaid_69 ?_
                exact ⟨_, rfl, Or.inr ⟨_, hq_onM is9 (by omega), rfl, W25, hI_m25⟩, hR_m25, ((xw_F.rf (ML := [(200, 5, 13), (200, 41, 44), (218, 0, 239)])).tr F25 (fun j i h => xw_o_sub (by decide +kernel) j i h))⟩
              · refine xw_aload_n (pc := 55) C0 0 dX12_readSaid_55 rfl rfl ?_
                refine xw_getI (pc := 56) (f := 43) (z := μ 200 43) C0 kcX12 dX12_readSaid_56 (by decide +kernel) tv_1304 (xj_200 hKL) xk_0 rfl (rfl) (fun g26 k26 => ?_)
                refine xw_bipush (pc := 59) C0 dX12_readSaid_59 (by decide +kernel) ?_
                refine xw_icmp_ne (pc := 61) (tgt := 70) C0 (by omega) (by omega) dX12_readSaid_61 rfl (fun b27 => ?_) (fun b27 => ?_)
                · refine xw_aload_n (pc := 70) C0 0 dX12_readSaid_70 rfl rfl ?_
                  refine xw_dup (pc := 71) C0 dX12_readSaid_71 rfl ?_
                  refine xw_getI (pc := 72) (f := 42) (z := μ 200 42) C0 kcX12 dX12_readSaid_72 (by decide +kernel) tv_1303 (xj_200 hKL) xk_0 rfl (rfl) (fun g28 k28 => ?_)
                  refine xw_iconst (pc := 75) C0 dX12_readSaid_75 ?_
                  refine xw_iadd (pc := 76) C0 dX12_readSaid_76 ?_
                  refine xw_putI (pc := 77) (f := 42) C0 kcX12 dX12_readSaid_77 (by decide +kernel) tv_1303 rfl rfl (xj_200 hKL) xk_0 rfl (by omega) (by omega) ?_
                  refine xw_aload_n (pc := 80) C0 0 dX12_readSaid_80 rfl rfl ?_
                  refine xw_dup (pc := 81) C0 dX12_readSaid_81 rfl ?_
                  refine xw_getI (pc := 82) (f := 43) (z := μ 200 43) C0 kcX12 dX12_readSaid_82 (by decide +kernel) tv_1304 (xj_200 hKL) xk_0 rfl ((xw_un (by decide +kernel)).trans rfl) (fun g29 k29 => ?_)
                  refine xw_iconst (pc := 85) C0 dX12_readSaid_85 ?_
                  refine xw_iadd (pc := 86) C0 dX12_readSaid_86 ?_
                  refine xw_putI (pc := 87) (f := 43) C0 kcX12 dX12_readSaid_87 (by decide +kernel) tv_1304 rfl rfl (xj_200 hKL) xk_0 rfl (by omega) (by omega) ?_
                  refine xw_aload_n (pc := 90) C0 0 dX12_readSaid_90 rfl rfl ?_
                  have Ft1 : xw_F [(200, 42, 42), (200, 43, 43)] μ (xw_u (xw_u μ 200 42 ((μ 200 42) + 1)) 200 43 ((μ 200 43) + 1)) := (((xw_F.rf (ML := [(200, 42, 42), (200, 43, 43)])).u (show (200, 42, 42) ∈ _ by decide) ⟨by decide, by decide⟩).u (show (200, 43, 43) ∈ _ by decide) ⟨by decide, by decide⟩)
                  have vt1_200_43 : (xw_u (xw_u μ 200 42 ((μ 200 42) + 1)) 200 43 ((μ 200 43) + 1)) 200 43 = (μ 200 43) + 1 := xw_ug
                  have vt1_200_42 : (xw_u (xw_u μ 200 42 ((μ 200 42) + 1)) 200 43 ((μ 200 43) + 1)) 200 42 = (μ 200 42) + 1 := (xw_un (by decide +kernel)).trans xw_ug
                  generalize (xw_u (xw_u μ 200 42 ((μ 200 42) + 1)) 200 43 ((μ 200 43) + 1)) = t1 at Ft1 vt1_200_43 vt1_200_42 ⊢
                  have hS_t1 := hr_SF hS Ft1 (by decide +kernel)
                  have hT_t1 := hr_TF hT Ft1 (by decide +kernel)
                  have hM_t1 := hr_MF hM Ft1 (by decide +kernel)
                  have hC_t1 : t1 200 41 = ((cn : Nat) : Int) := (Ft1 200 41 rfl).trans hC
                  have hR_t1 := hr_RF hR Ft1 (by decide +kernel)
                  have hN_t1 : t1 200 42 = ((o + 1 : Nat) : Int) := by
                    rw [vt1_200_42]
                    omega
                  have hI_t1 : t1 200 43 = 4 := by
                    rw [vt1_200_43]
                    omega
                  refine xw_callVV (pc := 91) (μ := t1) (ci := 12) (rest := []) (As := []) C0 hU hO sa_Tg hKL (xr_go (l := l) (t := t) (n := n) (lim := lim) (pz := hp_x t n pz) hS_t1 (hT_t1.2.2.2.2.2.2 (by omega)) (hp_xb (lim := lim) hT_t1.1 (by omega))) tv_1425 dX12_readSaid_91 tv_1422 tv_1424 tq_X12_go tv_13 rfl yb_X12_go (by decide +kernel) rfl rfl rfl (by decide +kernel) (Nat.le_of_ble_eq_true rfl) (xj_200 hKL) xk_0 (fun m30 w30 => ?_)
                  obtain ⟨hT_m30, F30⟩ := w30
                  have hS_m30 := hr_SF hS_t1 F30 (by decide +kernel)
                  have hM_m30 := hr_MF hM_t1 F30 (by decide +kernel)
                  have hN_m30 : m30 200 42 = (((o + 1) : Nat) : Int) := (F30 200 42 rfl).trans hN_t1
                  have hI_m30 : m30 200 43 = 4 := (F30 200 43 rfl).trans hI_t1
                  have hC_m30 : m30 200 41 = ((cn : Nat) : Int) := (F30 200 41 rfl).trans hC_t1
                  have hR_m30 := hr_RF hR_t1 F30 (by decide +kernel)
                  refine xw_iconst (pc := 94) C0 dX12_readSaid_94 ?_
                  refine xw_istore_n (pc := 95) (L' := [(3, .int (Int32.ofInt 1)), (0, .ref (xw_ad al 200)), (1, .int (Int32.ofInt 0)), (2, .int (Int32.ofInt 12))]) C0 dX12_readSaid_95 rfl (by decide +kernel) rfl ?_
                  refine xw_iload_n (pc := 96) C0 2 dX12_readSaid_96 rfl rfl ?_
                  refine xw_if_eq (pc := 97) (tgt := 108) C0 (by omega) dX12_readSaid_97 rfl (fun b31 => ?_) (fun b31 => ?_)
                  · refine xw_iload_n (pc := 108) C0 3 dX12_readSaid_108 rfl rfl ?_
                    refine xw_bipush (pc := 109) C0 dX12_readSaid_109 (by decide +kernel) ?_
                    refine xw_icmp_ne (pc := 111) (tgt := 122) C0 (by omega) (by omega) dX12_readSaid_111 rfl (fun b32 => ?_) (fun b32 => ?_)
                    · refine xw_iload_n (pc := 122) C0 3 dX12_readSaid_122 rfl rfl ?_
                      refine xw_bipush (pc := 123) C0 dX12_readSaid_123 (by decide +kernel) ?_
                      refine xw_icmp_ge (pc := 125) (tgt := 146) C0 (by omega) (by omega) dX12_readSaid_125 rfl (fun b33 => ?_) (fun b33 => ?_)
                      · exfalso
                        omega
                      · refine xw_aload_n (pc := 128) C0 1 dX12_readSaid_128 rfl rfl ?_
                        refine xw_aload_n (pc := 129) C0 1 dX12_readSaid_129 rfl rfl ?_
                        refine xw_bipush (pc := 130) C0 dX12_readSaid_130 (by decide +kernel) ?_
                        refine xw_iload_n (pc := 132) C0 3 dX12_readSaid_132 rfl rfl ?_
                        refine xw_iadd (pc := 133) C0 dX12_readSaid_133 ?_
                        refine  xw_nI (congrArg Int32.ofInt (show 50 + 12 = (62 : Int) by decide)) ?_
                        refine xw_iconst (pc := 134) C0 dX12_readSaid_134 ?_
                        refine xw_iconst (pc := 135) C0 dX12_readSaid_135 ?_
                        refine xw_iconst (pc := 136) C0 dX12_readSaid_136 ?_
                        refine xw_callVI (pc := 137) (μ := m30) (ci := 12) (rest := [.ref (xw_ad al 200)]) (As := [.int (Int32.ofInt 62), .int (Int32.ofInt 0), .int (Int32.ofInt 0), .int (Int32.ofInt 0)]) C0 hU hO sa_Tg hKL (xt_says (l := l) (cn := cn) (w9 := 62) (a9 := 0) (b9 := 0) (g9 := 0) (μ := m30) hS_m30.1 hC_m30 (by omega) hR_m30 (by omega) (by omega) (by omega) (by omega) (by omega) (by omega)) tv_1855 dX12_readSaid_137 tv_1852 tv_1854 tq_X12_saysOne tv_13 rfl yb_X12_saysOne (by decide +kernel) rfl rfl rfl (by decide +kernel) (Nat.le_of_ble_eq_true rfl) (xj_200 hKL) xk_0 (fun r34 m34 w34 => ?_)
                        obtain ⟨rfl, w34, hR_m34, F34⟩ := w34
                        have hC_m34 : m34 200 41 = ((cn + 1 : Nat) : Int) := by omega
                        have hS_m34 := hr_SF hS_m30 F34 (by decide +kernel)
                        have hT_m34 := hr_TF hT_m30 F34 (by decide +kernel)
                        have hM_m34 := hr_MF hM_m30 F34 (by decide +kernel)
                        have hN_m34 : m34 200 42 = (((o + 1) : Nat) : Int) := (F34 200 42 rfl).trans hN_m30
                        have hI_m34 : m34 200 43 = 4 := (F34 200 43 rfl).trans hI_m30
                        refine xw_putI (pc := 140) (f := 44) C0 kcX12 dX12_readSaid_140 (by decide +kernel) tv_1305 rfl rfl (xj_200 hKL) xk_0 rfl (by omega) (by omega) ?_
                        refine xw_goto (pc := 143) (tgt := 166) C0 dX12_readSaid_143 rfl ?_
                        refine xw_aload_n (pc := 166) C0 1 dX12_readSaid_166 rfl rfl ?_
                        refine xw_dup (pc := 167) C0 dX12_readSaid_167 rfl ?_
                        refine xw_getI (pc := 168) (f := 43) (z := t1 200 43) C0 kcX12 dX12_readSaid_168 (by decide +kernel) tv_1304 (xj_200 hKL) xk_0 rfl ((xw_un (by decide +kernel)).trans ((F34 200 43 rfl).trans ((F30 200 43 rfl).trans rfl))) (fun g35 k35 => ?_)
                        refine xw_iconst (pc := 171) C0 dX12_readSaid_171 ?_
                        refine xw_isub (pc := 172) C0 dX12_readSaid_172 ?_
                        refine xw_putI (pc := 173) (f := 43) C0 kcX12 dX12_readSaid_173 (by decide +kernel) tv_1304 rfl rfl (xj_200 hKL) xk_0 rfl (by omega) (by omega) ?_
                        refine xw_iload_n (pc := 176) C0 0 dX12_readSaid_176 rfl rfl ?_
                        refine xw_iret C0 hA hr hlk rfl dX12_readSaid_177 ?_
                        have e0 := hq_onO (t := t) (n := n) (lim := lim) (nm := nm) (m0 := (rd 0).toNat) (m1 := (rd 1).toNat) (d := 4) (p := pz) (o := o) is9 (by omega)
                        rw [hq_boW (by omega) (by omega)] at e0
                        have Ft2 : xw_F [(200, 43, 43), (200, 44, 44)] m34 (xw_u (xw_u m34 200 44 ((cn : Nat) : Int)) 200 43 ((t1 200 43) - 1)) := (((xw_F.rf (ML := [(200, 43, 43), (200, 44, 44)])).u (show (200, 44, 44) ∈ _ by decide) ⟨by decide, by decide⟩).u (show (200, 43, 43) ∈ _ by decide) ⟨by decide, by decide⟩)
                        have vt2_200_43 : (xw_u (xw_u m34 200 44 ((cn : Nat) : Int)) 200 43 ((t1 200 43) - 1)) 200 43 = (t1 200 43) - 1 := xw_ug
                        have vt2_200_44 : (xw_u (xw_u m34 200 44 ((cn : Nat) : Int)) 200 43 ((t1 200 43) - 1)) 200 44 = ((cn : Nat) : Int) := (xw_un (by decide +kernel)).trans xw_ug
                        generalize (xw_u (xw_u m34 200 44 ((cn : Nat) : Int)) 200 43 ((t1 200 43) - 1)) = t2 at Ft2 vt2_200_43 vt2_200_44 ⊢
                        exact ⟨_, rfl, Or.inl ⟨hp_x t n pz, o + 1, cn + 1, e0, rfl, hr_TF hT_m34 Ft2 (by decide +kernel), (Ft2 200 42 rfl).trans hN_m34, by omega, (Ft2 200 41 rfl).trans hC_m34, by omega, by omega, by rw [vt2_200_43]; omega⟩, hr_RF hR_m34 Ft2 (by decide +kernel), (((((xw_F.rf (ML := [(200, 5, 13), (200, 41, 44), (218, 0, 239)])).tr Ft1 (fun j i h => xw_o_sub (by decide +kernel) j i h)).tr F30 (fun j i h => xw_o_sub (by decide +kernel) j i h)).tr F34 (fun j i h => xw_o_sub (by decide +kernel) j i h)).tr Ft2 (fun j i h => xw_o_sub (by decide +kernel) j i h))⟩
                    · exfalso
                      omega
                  · exfalso
                    omega
                · exfalso
                  omega
            · exfalso
              omega
        · rw [show hp_pm 13 = 14 from rfl] at hkj
          have is9 : ((hp_k t n lim pz = 2 ∧ (hp_kw (hp_w t n pz) = 1 ∨ 12 ≤ hp_kw (hp_w t n pz))) ∨ (hp_k t n lim pz = 4 ∧ hp_s t n pz = 40)) := by omega
          refine xw_iload_n (pc := 30) C0 1 dX12_readSaid_30 rfl rfl ?_
          refine xw_if_ne (pc := 31) (tgt := 46) C0 (by omega) dX12_readSaid_31 rfl (fun b21 => ?_) (fun b21 => ?_)
          · exfalso
            omega
          · refine xw_iload_n (pc := 34) C0 2 dX12_readSaid_34 rfl rfl ?_
            refine xw_bipush (pc := 35) C0 dX12_readSaid_35 (by decide +kernel) ?_
            refine xw_icmp_le (pc := 37) (tgt := 46) C0 (by omega) (by omega) dX12_readSaid_37 rfl (fun b22 => ?_) (fun b22 => ?_)
            · refine xw_aload_n (pc := 46) C0 0 dX12_readSaid_46 rfl rfl ?_
              refine xw_getI (pc := 47) (f := 42) (z := μ 200 42) C0 kcX12 dX12_readSaid_47 (by decide +kernel) tv_1303 (xj_200 hKL) xk_0 rfl (rfl) (fun g23 k23 => ?_)
              refine xw_bipush (pc := 50) C0 dX12_readSaid_50 (by decide +kernel) ?_
              refine xw_icmp_eq (pc := 52) (tgt := 64) C0 (by omega) (by omega) dX12_readSaid_52 rfl (fun b24 => ?_) (fun b24 => ?_)
              · refine xw_aload_n (pc := 64) C0 0 dX12_readSaid_64 rfl rfl ?_
                refine xw_iconst (pc := 65) C0 dX12_readSaid_65 ?_
                refine xw_callVI (pc := 66) (μ := μ) (ci := 12) (rest := []) (As := [.int (Int32.ofInt 4)]) C0 hU hO sa_Tg hKL (xr_bad (l := l) (v := 4) hS hT (by decide +kernel) (by omega)) tv_1463 dX12_readSaid_66 tv_1460 tv_1462 tq_X12_bad tv_13 rfl yb_X12_bad (by decide +kernel) rfl rfl rfl (by decide +kernel) (Nat.le_of_ble_eq_true rfl) (xj_200 hKL) xk_0 (fun r25 m25 w25 => ?_)
                obtain ⟨rfl, W25, F25⟩ := w25
                have hI_m25 : m25 200 43 = 3 := (F25 200 43 rfl).trans hI
                have hR_m25 := hr_RF hR F25 (by decide +kernel)
                refine xw_iret C0 hA hr hlk rfl dX12_readSaid_69 ?_
                exact ⟨_, rfl, Or.inr ⟨_, hq_onM is9 (by omega), rfl, W25, hI_m25⟩, hR_m25, ((xw_F.rf (ML := [(200, 5, 13), (200, 41, 44), (218, 0, 239)])).tr F25 (fun j i h => xw_o_sub (by decide +kernel) j i h))⟩
              · refine xw_aload_n (pc := 55) C0 0 dX12_readSaid_55 rfl rfl ?_
                refine xw_getI (pc := 56) (f := 43) (z := μ 200 43) C0 kcX12 dX12_readSaid_56 (by decide +kernel) tv_1304 (xj_200 hKL) xk_0 rfl (rfl) (fun g26 k26 => ?_)
                refine xw_bipush (pc := 59) C0 dX12_readSaid_59 (by decide +kernel) ?_
                refine xw_icmp_ne (pc := 61) (tgt := 70) C0 (by omega) (by omega) dX12_readSaid_61 rfl (fun b27 => ?_) (fun b27 => ?_)
                · refine xw_aload_n (pc := 70) C0 0 dX12_readSaid_70 rfl rfl ?_
                  refine xw_dup (pc := 71) C0 dX12_readSaid_71 rfl ?_
                  refine xw_getI (pc := 72) (f := 42) (z := μ 200 42) C0 kcX12 dX12_readSaid_72 (by decide +kernel) tv_1303 (xj_200 hKL) xk_0 rfl (rfl) (fun g28 k28 => ?_)
                  refine xw_iconst (pc := 75) C0 dX12_readSaid_75 ?_
                  refine xw_iadd (pc := 76) C0 dX12_readSaid_76 ?_
                  refine xw_putI (pc := 77) (f := 42) C0 kcX12 dX12_readSaid_77 (by decide +kernel) tv_1303 rfl rfl (xj_200 hKL) xk_0 rfl (by omega) (by omega) ?_
                  refine xw_aload_n (pc := 80) C0 0 dX12_readSaid_80 rfl rfl ?_
                  refine xw_dup (pc := 81) C0 dX12_readSaid_81 rfl ?_
                  refine xw_getI (pc := 82) (f := 43) (z := μ 200 43) C0 kcX12 dX12_readSaid_82 (by decide +kernel) tv_1304 (xj_200 hKL) xk_0 rfl ((xw_un (by decide +kernel)).trans rfl) (fun g29 k29 => ?_)
                  refine xw_iconst (pc := 85) C0 dX12_readSaid_85 ?_
                  refine xw_iadd (pc := 86) C0 dX12_readSaid_86 ?_
                  refine xw_putI (pc := 87) (f := 43) C0 kcX12 dX12_readSaid_87 (by decide +kernel) tv_1304 rfl rfl (xj_200 hKL) xk_0 rfl (by omega) (by omega) ?_
                  refine xw_aload_n (pc := 90) C0 0 dX12_readSaid_90 rfl rfl ?_
                  have Ft1 : xw_F [(200, 42, 42), (200, 43, 43)] μ (xw_u (xw_u μ 200 42 ((μ 200 42) + 1)) 200 43 ((μ 200 43) + 1)) := (((xw_F.rf (ML := [(200, 42, 42), (200, 43, 43)])).u (show (200, 42, 42) ∈ _ by decide) ⟨by decide, by decide⟩).u (show (200, 43, 43) ∈ _ by decide) ⟨by decide, by decide⟩)
                  have vt1_200_43 : (xw_u (xw_u μ 200 42 ((μ 200 42) + 1)) 200 43 ((μ 200 43) + 1)) 200 43 = (μ 200 43) + 1 := xw_ug
                  have vt1_200_42 : (xw_u (xw_u μ 200 42 ((μ 200 42) + 1)) 200 43 ((μ 200 43) + 1)) 200 42 = (μ 200 42) + 1 := (xw_un (by decide +kernel)).trans xw_ug
                  generalize (xw_u (xw_u μ 200 42 ((μ 200 42) + 1)) 200 43 ((μ 200 43) + 1)) = t1 at Ft1 vt1_200_43 vt1_200_42 ⊢
                  have hS_t1 := hr_SF hS Ft1 (by decide +kernel)
                  have hT_t1 := hr_TF hT Ft1 (by decide +kernel)
                  have hM_t1 := hr_MF hM Ft1 (by decide +kernel)
                  have hC_t1 : t1 200 41 = ((cn : Nat) : Int) := (Ft1 200 41 rfl).trans hC
                  have hR_t1 := hr_RF hR Ft1 (by decide +kernel)
                  have hN_t1 : t1 200 42 = ((o + 1 : Nat) : Int) := by
                    rw [vt1_200_42]
                    omega
                  have hI_t1 : t1 200 43 = 4 := by
                    rw [vt1_200_43]
                    omega
                  refine xw_callVV (pc := 91) (μ := t1) (ci := 12) (rest := []) (As := []) C0 hU hO sa_Tg hKL (xr_go (l := l) (t := t) (n := n) (lim := lim) (pz := hp_x t n pz) hS_t1 (hT_t1.2.2.2.2.2.2 (by omega)) (hp_xb (lim := lim) hT_t1.1 (by omega))) tv_1425 dX12_readSaid_91 tv_1422 tv_1424 tq_X12_go tv_13 rfl yb_X12_go (by decide +kernel) rfl rfl rfl (by decide +kernel) (Nat.le_of_ble_eq_true rfl) (xj_200 hKL) xk_0 (fun m30 w30 => ?_)
                  obtain ⟨hT_m30, F30⟩ := w30
                  have hS_m30 := hr_SF hS_t1 F30 (by decide +kernel)
                  have hM_m30 := hr_MF hM_t1 F30 (by decide +kernel)
                  have hN_m30 : m30 200 42 = (((o + 1) : Nat) : Int) := (F30 200 42 rfl).trans hN_t1
                  have hI_m30 : m30 200 43 = 4 := (F30 200 43 rfl).trans hI_t1
                  have hC_m30 : m30 200 41 = ((cn : Nat) : Int) := (F30 200 41 rfl).trans hC_t1
                  have hR_m30 := hr_RF hR_t1 F30 (by decide +kernel)
                  refine xw_iconst (pc := 94) C0 dX12_readSaid_94 ?_
                  refine xw_istore_n (pc := 95) (L' := [(3, .int (Int32.ofInt 1)), (0, .ref (xw_ad al 200)), (1, .int (Int32.ofInt 0)), (2, .int (Int32.ofInt 13))]) C0 dX12_readSaid_95 rfl (by decide +kernel) rfl ?_
                  refine xw_iload_n (pc := 96) C0 2 dX12_readSaid_96 rfl rfl ?_
                  refine xw_if_eq (pc := 97) (tgt := 108) C0 (by omega) dX12_readSaid_97 rfl (fun b31 => ?_) (fun b31 => ?_)
                  · refine xw_iload_n (pc := 108) C0 3 dX12_readSaid_108 rfl rfl ?_
                    refine xw_bipush (pc := 109) C0 dX12_readSaid_109 (by decide +kernel) ?_
                    refine xw_icmp_ne (pc := 111) (tgt := 122) C0 (by omega) (by omega) dX12_readSaid_111 rfl (fun b32 => ?_) (fun b32 => ?_)
                    · refine xw_iload_n (pc := 122) C0 3 dX12_readSaid_122 rfl rfl ?_
                      refine xw_bipush (pc := 123) C0 dX12_readSaid_123 (by decide +kernel) ?_
                      refine xw_icmp_ge (pc := 125) (tgt := 146) C0 (by omega) (by omega) dX12_readSaid_125 rfl (fun b33 => ?_) (fun b33 => ?_)
                      · exfalso
                        omega
                      · refine xw_aload_n (pc := 128) C0 1 dX12_readSaid_128 rfl rfl ?_
                        refine xw_aload_n (pc := 129) C0 1 dX12_readSaid_129 rfl rfl ?_
                        refine xw_bipush (pc := 130) C0 dX12_readSaid_130 (by decide +kernel) ?_
                        refine xw_iload_n (pc := 132) C0 3 dX12_readSaid_132 rfl rfl ?_
                        refine xw_iadd (pc := 133) C0 dX12_readSaid_133 ?_
                        refine  xw_nI (congrArg Int32.ofInt (show 50 + 13 = (63 : Int) by decide)) ?_
                        refine xw_iconst (pc := 134) C0 dX12_readSaid_134 ?_
                        refine xw_iconst (pc := 135) C0 dX12_readSaid_135 ?_
                        refine xw_iconst (pc := 136) C0 dX12_readSaid_136 ?_
                        refine xw_callVI (pc := 137) (μ := m30) (ci := 12) (rest := [.ref (xw_ad al 200)]) (As := [.int (Int32.ofInt 63), .int (Int32.ofInt 0), .int (Int32.ofInt 0), .int (Int32.ofInt 0)]) C0 hU hO sa_Tg hKL (xt_says (l := l) (cn := cn) (w9 := 63) (a9 := 0) (b9 := 0) (g9 := 0) (μ := m30) hS_m30.1 hC_m30 (by omega) hR_m30 (by omega) (by omega) (by omega) (by omega) (by omega) (by omega)) tv_1855 dX12_readSaid_137 tv_1852 tv_1854 tq_X12_saysOne tv_13 rfl yb_X12_saysOne (by decide +kernel) rfl rfl rfl (by decide +kernel) (Nat.le_of_ble_eq_true rfl) (xj_200 hKL) xk_0 (fun r34 m34 w34 => ?_)
                        obtain ⟨rfl, w34, hR_m34, F34⟩ := w34
                        have hC_m34 : m34 200 41 = ((cn + 1 : Nat) : Int) := by omega
                        have hS_m34 := hr_SF hS_m30 F34 (by decide +kernel)
                        have hT_m34 := hr_TF hT_m30 F34 (by decide +kernel)
                        have hM_m34 := hr_MF hM_m30 F34 (by decide +kernel)
                        have hN_m34 : m34 200 42 = (((o + 1) : Nat) : Int) := (F34 200 42 rfl).trans hN_m30
                        have hI_m34 : m34 200 43 = 4 := (F34 200 43 rfl).trans hI_m30
                        refine xw_putI (pc := 140) (f := 44) C0 kcX12 dX12_readSaid_140 (by decide +kernel) tv_1305 rfl rfl (xj_200 hKL) xk_0 rfl (by omega) (by omega) ?_
                        refine xw_goto (pc := 143) (tgt := 166) C0 dX12_readSaid_143 rfl ?_
                        refine xw_aload_n (pc := 166) C0 1 dX12_readSaid_166 rfl rfl ?_
                        refine xw_dup (pc := 167) C0 dX12_readSaid_167 rfl ?_
                        refine xw_getI (pc := 168) (f := 43) (z := t1 200 43) C0 kcX12 dX12_readSaid_168 (by decide +kernel) tv_1304 (xj_200 hKL) xk_0 rfl ((xw_un (by decide +kernel)).trans ((F34 200 43 rfl).trans ((F30 200 43 rfl).trans rfl))) (fun g35 k35 => ?_)
                        refine xw_iconst (pc := 171) C0 dX12_readSaid_171 ?_
                        refine xw_isub (pc := 172) C0 dX12_readSaid_172 ?_
                        refine xw_putI (pc := 173) (f := 43) C0 kcX12 dX12_readSaid_173 (by decide +kernel) tv_1304 rfl rfl (xj_200 hKL) xk_0 rfl (by omega) (by omega) ?_
                        refine xw_iload_n (pc := 176) C0 0 dX12_readSaid_176 rfl rfl ?_
                        refine xw_iret C0 hA hr hlk rfl dX12_readSaid_177 ?_
                        have e0 := hq_onO (t := t) (n := n) (lim := lim) (nm := nm) (m0 := (rd 0).toNat) (m1 := (rd 1).toNat) (d := 4) (p := pz) (o := o) is9 (by omega)
                        rw [hq_boW (by omega) (by omega)] at e0
                        have Ft2 : xw_F [(200, 43, 43), (200, 44, 44)] m34 (xw_u (xw_u m34 200 44 ((cn : Nat) : Int)) 200 43 ((t1 200 43) - 1)) := (((xw_F.rf (ML := [(200, 43, 43), (200, 44, 44)])).u (show (200, 44, 44) ∈ _ by decide) ⟨by decide, by decide⟩).u (show (200, 43, 43) ∈ _ by decide) ⟨by decide, by decide⟩)
                        have vt2_200_43 : (xw_u (xw_u m34 200 44 ((cn : Nat) : Int)) 200 43 ((t1 200 43) - 1)) 200 43 = (t1 200 43) - 1 := xw_ug
                        have vt2_200_44 : (xw_u (xw_u m34 200 44 ((cn : Nat) : Int)) 200 43 ((t1 200 43) - 1)) 200 44 = ((cn : Nat) : Int) := (xw_un (by decide +kernel)).trans xw_ug
                        generalize (xw_u (xw_u m34 200 44 ((cn : Nat) : Int)) 200 43 ((t1 200 43) - 1)) = t2 at Ft2 vt2_200_43 vt2_200_44 ⊢
                        exact ⟨_, rfl, Or.inl ⟨hp_x t n pz, o + 1, cn + 1, e0, rfl, hr_TF hT_m34 Ft2 (by decide +kernel), (Ft2 200 42 rfl).trans hN_m34, by omega, (Ft2 200 41 rfl).trans hC_m34, by omega, by omega, by rw [vt2_200_43]; omega⟩, hr_RF hR_m34 Ft2 (by decide +kernel), (((((xw_F.rf (ML := [(200, 5, 13), (200, 41, 44), (218, 0, 239)])).tr Ft1 (fun j i h => xw_o_sub (by decide +kernel) j i h)).tr F30 (fun j i h => xw_o_sub (by decide +kernel) j i h)).tr F34 (fun j i h => xw_o_sub (by decide +kernel) j i h)).tr Ft2 (fun j i h => xw_o_sub (by decide +kernel) j i h))⟩
                    · exfalso
                      omega
                  · exfalso
                    omega
                · exfalso
                  omega
            · exfalso
              omega
        · rw [show hp_pm 14 = 15 from rfl] at hkj
          have is9 : ((hp_k t n lim pz = 2 ∧ (hp_kw (hp_w t n pz) = 1 ∨ 12 ≤ hp_kw (hp_w t n pz))) ∨ (hp_k t n lim pz = 4 ∧ hp_s t n pz = 40)) := by omega
          refine xw_iload_n (pc := 30) C0 1 dX12_readSaid_30 rfl rfl ?_
          refine xw_if_ne (pc := 31) (tgt := 46) C0 (by omega) dX12_readSaid_31 rfl (fun b21 => ?_) (fun b21 => ?_)
          · exfalso
            omega
          · refine xw_iload_n (pc := 34) C0 2 dX12_readSaid_34 rfl rfl ?_
            refine xw_bipush (pc := 35) C0 dX12_readSaid_35 (by decide +kernel) ?_
            refine xw_icmp_le (pc := 37) (tgt := 46) C0 (by omega) (by omega) dX12_readSaid_37 rfl (fun b22 => ?_) (fun b22 => ?_)
            · refine xw_aload_n (pc := 46) C0 0 dX12_readSaid_46 rfl rfl ?_
              refine xw_getI (pc := 47) (f := 42) (z := μ 200 42) C0 kcX12 dX12_readSaid_47 (by decide +kernel) tv_1303 (xj_200 hKL) xk_0 rfl (rfl) (fun g23 k23 => ?_)
              refine xw_bipush (pc := 50) C0 dX12_readSaid_50 (by decide +kernel) ?_
              refine xw_icmp_eq (pc := 52) (tgt := 64) C0 (by omega) (by omega) dX12_readSaid_52 rfl (fun b24 => ?_) (fun b24 => ?_)
              · refine xw_aload_n (pc := 64) C0 0 dX12_readSaid_64 rfl rfl ?_
                refine xw_iconst (pc := 65) C0 dX12_readSaid_65 ?_
                refine xw_callVI (pc := 66) (μ := μ) (ci := 12) (rest := []) (As := [.int (Int32.ofInt 4)]) C0 hU hO sa_Tg hKL (xr_bad (l := l) (v := 4) hS hT (by decide +kernel) (by omega)) tv_1463 dX12_readSaid_66 tv_1460 tv_1462 tq_X12_bad tv_13 rfl yb_X12_bad (by decide +kernel) rfl rfl rfl (by decide +kernel) (Nat.le_of_ble_eq_true rfl) (xj_200 hKL) xk_0 (fun r25 m25 w25 => ?_)
                obtain ⟨rfl, W25, F25⟩ := w25
                have hI_m25 : m25 200 43 = 3 := (F25 200 43 rfl).trans hI
                have hR_m25 := hr_RF hR F25 (by decide +kernel)
                refine xw_iret C0 hA hr hlk rfl dX12_readSaid_69 ?_
                exact ⟨_, rfl, Or.inr ⟨_, hq_onM is9 (by omega), rfl, W25, hI_m25⟩, hR_m25, ((xw_F.rf (ML := [(200, 5, 13), (200, 41, 44), (218, 0, 239)])).tr F25 (fun j i h => xw_o_sub (by decide +kernel) j i h))⟩
              · refine xw_aload_n (pc := 55) C0 0 dX12_readSaid_55 rfl rfl ?_
                refine xw_getI (pc := 56) (f := 43) (z := μ 200 43) C0 kcX12 dX12_readSaid_56 (by decide +kernel) tv_1304 (xj_200 hKL) xk_0 rfl (rfl) (fun g26 k26 => ?_)
                refine xw_bipush (pc := 59) C0 dX12_readSaid_59 (by decide +kernel) ?_
                refine xw_icmp_ne (pc := 61) (tgt := 70) C0 (by omega) (by omega) dX12_readSaid_61 rfl (fun b27 => ?_) (fun b27 => ?_)
                · refine xw_aload_n (pc := 70) C0 0 dX12_readSaid_70 rfl rfl ?_
                  refine xw_dup (pc := 71) C0 dX12_readSaid_71 rfl ?_
                  refine xw_getI (pc := 72) (f := 42) (z := μ 200 42) C0 kcX12 dX12_readSaid_72 (by decide +kernel) tv_1303 (xj_200 hKL) xk_0 rfl (rfl) (fun g28 k28 => ?_)
                  refine xw_iconst (pc := 75) C0 dX12_readSaid_75 ?_
                  refine xw_iadd (pc := 76) C0 dX12_readSaid_76 ?_
                  refine xw_putI (pc := 77) (f := 42) C0 kcX12 dX12_readSaid_77 (by decide +kernel) tv_1303 rfl rfl (xj_200 hKL) xk_0 rfl (by omega) (by omega) ?_
                  refine xw_aload_n (pc := 80) C0 0 dX12_readSaid_80 rfl rfl ?_
                  refine xw_dup (pc := 81) C0 dX12_readSaid_81 rfl ?_
                  refine xw_getI (pc := 82) (f := 43) (z := μ 200 43) C0 kcX12 dX12_readSaid_82 (by decide +kernel) tv_1304 (xj_200 hKL) xk_0 rfl ((xw_un (by decide +kernel)).trans rfl) (fun g29 k29 => ?_)
                  refine xw_iconst (pc := 85) C0 dX12_readSaid_85 ?_
                  refine xw_iadd (pc := 86) C0 dX12_readSaid_86 ?_
                  refine xw_putI (pc := 87) (f := 43) C0 kcX12 dX12_readSaid_87 (by decide +kernel) tv_1304 rfl rfl (xj_200 hKL) xk_0 rfl (by omega) (by omega) ?_
                  refine xw_aload_n (pc := 90) C0 0 dX12_readSaid_90 rfl rfl ?_
                  have Ft1 : xw_F [(200, 42, 42), (200, 43, 43)] μ (xw_u (xw_u μ 200 42 ((μ 200 42) + 1)) 200 43 ((μ 200 43) + 1)) := (((xw_F.rf (ML := [(200, 42, 42), (200, 43, 43)])).u (show (200, 42, 42) ∈ _ by decide) ⟨by decide, by decide⟩).u (show (200, 43, 43) ∈ _ by decide) ⟨by decide, by decide⟩)
                  have vt1_200_43 : (xw_u (xw_u μ 200 42 ((μ 200 42) + 1)) 200 43 ((μ 200 43) + 1)) 200 43 = (μ 200 43) + 1 := xw_ug
                  have vt1_200_42 : (xw_u (xw_u μ 200 42 ((μ 200 42) + 1)) 200 43 ((μ 200 43) + 1)) 200 42 = (μ 200 42) + 1 := (xw_un (by decide +kernel)).trans xw_ug
                  generalize (xw_u (xw_u μ 200 42 ((μ 200 42) + 1)) 200 43 ((μ 200 43) + 1)) = t1 at Ft1 vt1_200_43 vt1_200_42 ⊢
                  have hS_t1 := hr_SF hS Ft1 (by decide +kernel)
                  have hT_t1 := hr_TF hT Ft1 (by decide +kernel)
                  have hM_t1 := hr_MF hM Ft1 (by decide +kernel)
                  have hC_t1 : t1 200 41 = ((cn : Nat) : Int) := (Ft1 200 41 rfl).trans hC
                  have hR_t1 := hr_RF hR Ft1 (by decide +kernel)
                  have hN_t1 : t1 200 42 = ((o + 1 : Nat) : Int) := by
                    rw [vt1_200_42]
                    omega
                  have hI_t1 : t1 200 43 = 4 := by
                    rw [vt1_200_43]
                    omega
                  refine xw_callVV (pc := 91) (μ := t1) (ci := 12) (rest := []) (As := []) C0 hU hO sa_Tg hKL (xr_go (l := l) (t := t) (n := n) (lim := lim) (pz := hp_x t n pz) hS_t1 (hT_t1.2.2.2.2.2.2 (by omega)) (hp_xb (lim := lim) hT_t1.1 (by omega))) tv_1425 dX12_readSaid_91 tv_1422 tv_1424 tq_X12_go tv_13 rfl yb_X12_go (by decide +kernel) rfl rfl rfl (by decide +kernel) (Nat.le_of_ble_eq_true rfl) (xj_200 hKL) xk_0 (fun m30 w30 => ?_)
                  obtain ⟨hT_m30, F30⟩ := w30
                  have hS_m30 := hr_SF hS_t1 F30 (by decide +kernel)
                  have hM_m30 := hr_MF hM_t1 F30 (by decide +kernel)
                  have hN_m30 : m30 200 42 = (((o + 1) : Nat) : Int) := (F30 200 42 rfl).trans hN_t1
                  have hI_m30 : m30 200 43 = 4 := (F30 200 43 rfl).trans hI_t1
                  have hC_m30 : m30 200 41 = ((cn : Nat) : Int) := (F30 200 41 rfl).trans hC_t1
                  have hR_m30 := hr_RF hR_t1 F30 (by decide +kernel)
                  refine xw_iconst (pc := 94) C0 dX12_readSaid_94 ?_
                  refine xw_istore_n (pc := 95) (L' := [(3, .int (Int32.ofInt 1)), (0, .ref (xw_ad al 200)), (1, .int (Int32.ofInt 0)), (2, .int (Int32.ofInt 14))]) C0 dX12_readSaid_95 rfl (by decide +kernel) rfl ?_
                  refine xw_iload_n (pc := 96) C0 2 dX12_readSaid_96 rfl rfl ?_
                  refine xw_if_eq (pc := 97) (tgt := 108) C0 (by omega) dX12_readSaid_97 rfl (fun b31 => ?_) (fun b31 => ?_)
                  · refine xw_iload_n (pc := 108) C0 3 dX12_readSaid_108 rfl rfl ?_
                    refine xw_bipush (pc := 109) C0 dX12_readSaid_109 (by decide +kernel) ?_
                    refine xw_icmp_ne (pc := 111) (tgt := 122) C0 (by omega) (by omega) dX12_readSaid_111 rfl (fun b32 => ?_) (fun b32 => ?_)
                    · refine xw_iload_n (pc := 122) C0 3 dX12_readSaid_122 rfl rfl ?_
                      refine xw_bipush (pc := 123) C0 dX12_readSaid_123 (by decide +kernel) ?_
                      refine xw_icmp_ge (pc := 125) (tgt := 146) C0 (by omega) (by omega) dX12_readSaid_125 rfl (fun b33 => ?_) (fun b33 => ?_)
                      · exfalso
                        omega
                      · refine xw_aload_n (pc := 128) C0 1 dX12_readSaid_128 rfl rfl ?_
                        refine xw_aload_n (pc := 129) C0 1 dX12_readSaid_129 rfl rfl ?_
                        refine xw_bipush (pc := 130) C0 dX12_readSaid_130 (by decide +kernel) ?_
                        refine xw_iload_n (pc := 132) C0 3 dX12_readSaid_132 rfl rfl ?_
                        refine xw_iadd (pc := 133) C0 dX12_readSaid_133 ?_
                        refine  xw_nI (congrArg Int32.ofInt (show 50 + 14 = (64 : Int) by decide)) ?_
                        refine xw_iconst (pc := 134) C0 dX12_readSaid_134 ?_
                        refine xw_iconst (pc := 135) C0 dX12_readSaid_135 ?_
                        refine xw_iconst (pc := 136) C0 dX12_readSaid_136 ?_
                        refine xw_callVI (pc := 137) (μ := m30) (ci := 12) (rest := [.ref (xw_ad al 200)]) (As := [.int (Int32.ofInt 64), .int (Int32.ofInt 0), .int (Int32.ofInt 0), .int (Int32.ofInt 0)]) C0 hU hO sa_Tg hKL (xt_says (l := l) (cn := cn) (w9 := 64) (a9 := 0) (b9 := 0) (g9 := 0) (μ := m30) hS_m30.1 hC_m30 (by omega) hR_m30 (by omega) (by omega) (by omega) (by omega) (by omega) (by omega)) tv_1855 dX12_readSaid_137 tv_1852 tv_1854 tq_X12_saysOne tv_13 rfl yb_X12_saysOne (by decide +kernel) rfl rfl rfl (by decide +kernel) (Nat.le_of_ble_eq_true rfl) (xj_200 hKL) xk_0 (fun r34 m34 w34 => ?_)
                        obtain ⟨rfl, w34, hR_m34, F34⟩ := w34
                        have hC_m34 : m34 200 41 = ((cn + 1 : Nat) : Int) := by omega
                        have hS_m34 := hr_SF hS_m30 F34 (by decide +kernel)
                        have hT_m34 := hr_TF hT_m30 F34 (by decide +kernel)
                        have hM_m34 := hr_MF hM_m30 F34 (by decide +kernel)
                        have hN_m34 : m34 200 42 = (((o + 1) : Nat) : Int) := (F34 200 42 rfl).trans hN_m30
                        have hI_m34 : m34 200 43 = 4 := (F34 200 43 rfl).trans hI_m30
                        refine xw_putI (pc := 140) (f := 44) C0 kcX12 dX12_readSaid_140 (by decide +kernel) tv_1305 rfl rfl (xj_200 hKL) xk_0 rfl (by omega) (by omega) ?_
                        refine xw_goto (pc := 143) (tgt := 166) C0 dX12_readSaid_143 rfl ?_
                        refine xw_aload_n (pc := 166) C0 1 dX12_readSaid_166 rfl rfl ?_
                        refine xw_dup (pc := 167) C0 dX12_readSaid_167 rfl ?_
                        refine xw_getI (pc := 168) (f := 43) (z := t1 200 43) C0 kcX12 dX12_readSaid_168 (by decide +kernel) tv_1304 (xj_200 hKL) xk_0 rfl ((xw_un (by decide +kernel)).trans ((F34 200 43 rfl).trans ((F30 200 43 rfl).trans rfl))) (fun g35 k35 => ?_)
                        refine xw_iconst (pc := 171) C0 dX12_readSaid_171 ?_
                        refine xw_isub (pc := 172) C0 dX12_readSaid_172 ?_
                        refine xw_putI (pc := 173) (f := 43) C0 kcX12 dX12_readSaid_173 (by decide +kernel) tv_1304 rfl rfl (xj_200 hKL) xk_0 rfl (by omega) (by omega) ?_
                        refine xw_iload_n (pc := 176) C0 0 dX12_readSaid_176 rfl rfl ?_
                        refine xw_iret C0 hA hr hlk rfl dX12_readSaid_177 ?_
                        have e0 := hq_onO (t := t) (n := n) (lim := lim) (nm := nm) (m0 := (rd 0).toNat) (m1 := (rd 1).toNat) (d := 4) (p := pz) (o := o) is9 (by omega)
                        rw [hq_boW (by omega) (by omega)] at e0
                        have Ft2 : xw_F [(200, 43, 43), (200, 44, 44)] m34 (xw_u (xw_u m34 200 44 ((cn : Nat) : Int)) 200 43 ((t1 200 43) - 1)) := (((xw_F.rf (ML := [(200, 43, 43), (200, 44, 44)])).u (show (200, 44, 44) ∈ _ by decide) ⟨by decide, by decide⟩).u (show (200, 43, 43) ∈ _ by decide) ⟨by decide, by decide⟩)
                        have vt2_200_43 : (xw_u (xw_u m34 200 44 ((cn : Nat) : Int)) 200 43 ((t1 200 43) - 1)) 200 43 = (t1 200 43) - 1 := xw_ug
                        have vt2_200_44 : (xw_u (xw_u m34 200 44 ((cn : Nat) : Int)) 200 43 ((t1 200 43) - 1)) 200 44 = ((cn : Nat) : Int) := (xw_un (by decide +kernel)).trans xw_ug
                        generalize (xw_u (xw_u m34 200 44 ((cn : Nat) : Int)) 200 43 ((t1 200 43) - 1)) = t2 at Ft2 vt2_200_43 vt2_200_44 ⊢
                        exact ⟨_, rfl, Or.inl ⟨hp_x t n pz, o + 1, cn + 1, e0, rfl, hr_TF hT_m34 Ft2 (by decide +kernel), (Ft2 200 42 rfl).trans hN_m34, by omega, (Ft2 200 41 rfl).trans hC_m34, by omega, by omega, by rw [vt2_200_43]; omega⟩, hr_RF hR_m34 Ft2 (by decide +kernel), (((((xw_F.rf (ML := [(200, 5, 13), (200, 41, 44), (218, 0, 239)])).tr Ft1 (fun j i h => xw_o_sub (by decide +kernel) j i h)).tr F30 (fun j i h => xw_o_sub (by decide +kernel) j i h)).tr F34 (fun j i h => xw_o_sub (by decide +kernel) j i h)).tr Ft2 (fun j i h => xw_o_sub (by decide +kernel) j i h))⟩
                    · exfalso
                      omega
                  · exfalso
                    omega
                · exfalso
                  omega
            · exfalso
              omega
        · rw [show hp_pm 15 = 16 from rfl] at hkj
          have is9 : ((hp_k t n lim pz = 2 ∧ (hp_kw (hp_w t n pz) = 1 ∨ 12 ≤ hp_kw (hp_w t n pz))) ∨ (hp_k t n lim pz = 4 ∧ hp_s t n pz = 40)) := by omega
          refine xw_iload_n (pc := 30) C0 1 dX12_readSaid_30 rfl rfl ?_
          refine xw_if_ne (pc := 31) (tgt := 46) C0 (by omega) dX12_readSaid_31 rfl (fun b21 => ?_) (fun b21 => ?_)
          · exfalso
            omega
          · refine xw_iload_n (pc := 34) C0 2 dX12_readSaid_34 rfl rfl ?_
            refine xw_bipush (pc := 35) C0 dX12_readSaid_35 (by decide +kernel) ?_
            refine xw_icmp_le (pc := 37) (tgt := 46) C0 (by omega) (by omega) dX12_readSaid_37 rfl (fun b22 => ?_) (fun b22 => ?_)
            · refine xw_aload_n (pc := 46) C0 0 dX12_readSaid_46 rfl rfl ?_
              refine xw_getI (pc := 47) (f := 42) (z := μ 200 42) C0 kcX12 dX12_readSaid_47 (by decide +kernel) tv_1303 (xj_200 hKL) xk_0 rfl (rfl) (fun g23 k23 => ?_)
              refine xw_bipush (pc := 50) C0 dX12_readSaid_50 (by decide +kernel) ?_
              refine xw_icmp_eq (pc := 52) (tgt := 64) C0 (by omega) (by omega) dX12_readSaid_52 rfl (fun b24 => ?_) (fun b24 => ?_)
              · refine xw_aload_n (pc := 64) C0 0 dX12_readSaid_64 rfl rfl ?_
                refine xw_iconst (pc := 65) C0 dX12_readSaid_65 ?_
                refine xw_callVI (pc := 66) (μ := μ) (ci := 12) (rest := []) (As := [.int (Int32.ofInt 4)]) C0 hU hO sa_Tg hKL (xr_bad (l := l) (v := 4) hS hT (by decide +kernel) (by omega)) tv_1463 dX12_readSaid_66 tv_1460 tv_1462 tq_X12_bad tv_13 rfl yb_X12_bad (by decide +kernel) rfl rfl rfl (by decide +kernel) (Nat.le_of_ble_eq_true rfl) (xj_200 hKL) xk_0 (fun r25 m25 w25 => ?_)
                obtain ⟨rfl, W25, F25⟩ := w25
                have hI_m25 : m25 200 43 = 3 := (F25 200 43 rfl).trans hI
                have hR_m25 := hr_RF hR F25 (by decide +kernel)
                refine xw_iret C0 hA hr hlk rfl dX12_readSaid_69 ?_
                exact ⟨_, rfl, Or.inr ⟨_, hq_onM is9 (by omega), rfl, W25, hI_m25⟩, hR_m25, ((xw_F.rf (ML := [(200, 5, 13), (200, 41, 44), (218, 0, 239)])).tr F25 (fun j i h => xw_o_sub (by decide +kernel) j i h))⟩
              · refine xw_aload_n (pc := 55) C0 0 dX12_readSaid_55 rfl rfl ?_
                refine xw_getI (pc := 56) (f := 43) (z := μ 200 43) C0 kcX12 dX12_readSaid_56 (by decide +kernel) tv_1304 (xj_200 hKL) xk_0 rfl (rfl) (fun g26 k26 => ?_)
                refine xw_bipush (pc := 59) C0 dX12_readSaid_59 (by decide +kernel) ?_
                refine xw_icmp_ne (pc := 61) (tgt := 70) C0 (by omega) (by omega) dX12_readSaid_61 rfl (fun b27 => ?_) (fun b27 => ?_)
                · refine xw_aload_n (pc := 70) C0 0 dX12_readSaid_70 rfl rfl ?_
                  refine xw_dup (pc := 71) C0 dX12_readSaid_71 rfl ?_
                  refine xw_getI (pc := 72) (f := 42) (z := μ 200 42) C0 kcX12 dX12_readSaid_72 (by decide +kernel) tv_1303 (xj_200 hKL) xk_0 rfl (rfl) (fun g28 k28 => ?_)
                  refine xw_iconst (pc := 75) C0 dX12_readSaid_75 ?_
                  refine xw_iadd (pc := 76) C0 dX12_readSaid_76 ?_
                  refine xw_putI (pc := 77) (f := 42) C0 kcX12 dX12_readSaid_77 (by decide +kernel) tv_1303 rfl rfl (xj_200 hKL) xk_0 rfl (by omega) (by omega) ?_
                  refine xw_aload_n (pc := 80) C0 0 dX12_readSaid_80 rfl rfl ?_
                  refine xw_dup (pc := 81) C0 dX12_readSaid_81 rfl ?_
                  refine xw_getI (pc := 82) (f := 43) (z := μ 200 43) C0 kcX12 dX12_readSaid_82 (by decide +kernel) tv_1304 (xj_200 hKL) xk_0 rfl ((xw_un (by decide +kernel)).trans rfl) (fun g29 k29 => ?_)
                  refine xw_iconst (pc := 85) C0 dX12_readSaid_85 ?_
                  refine xw_iadd (pc := 86) C0 dX12_readSaid_86 ?_
                  refine xw_putI (pc := 87) (f := 43) C0 kcX12 dX12_readSaid_87 (by decide +kernel) tv_1304 rfl rfl (xj_200 hKL) xk_0 rfl (by omega) (by omega) ?_
                  refine xw_aload_n (pc := 90) C0 0 dX12_readSaid_90 rfl rfl ?_
                  have Ft1 : xw_F [(200, 42, 42), (200, 43, 43)] μ (xw_u (xw_u μ 200 42 ((μ 200 42) + 1)) 200 43 ((μ 200 43) + 1)) := (((xw_F.rf (ML := [(200, 42, 42), (200, 43, 43)])).u (show (200, 42, 42) ∈ _ by decide) ⟨by decide, by decide⟩).u (show (200, 43, 43) ∈ _ by decide) ⟨by decide, by decide⟩)
                  have vt1_200_43 : (xw_u (xw_u μ 200 42 ((μ 200 42) + 1)) 200 43 ((μ 200 43) + 1)) 200 43 = (μ 200 43) + 1 := xw_ug
                  have vt1_200_42 : (xw_u (xw_u μ 200 42 ((μ 200 42) + 1)) 200 43 ((μ 200 43) + 1)) 200 42 = (μ 200 42) + 1 := (xw_un (by decide +kernel)).trans xw_ug
                  generalize (xw_u (xw_u μ 200 42 ((μ 200 42) + 1)) 200 43 ((μ 200 43) + 1)) = t1 at Ft1 vt1_200_43 vt1_200_42 ⊢
                  have hS_t1 := hr_SF hS Ft1 (by decide +kernel)
                  have hT_t1 := hr_TF hT Ft1 (by decide +kernel)
                  have hM_t1 := hr_MF hM Ft1 (by decide +kernel)
                  have hC_t1 : t1 200 41 = ((cn : Nat) : Int) := (Ft1 200 41 rfl).trans hC
                  have hR_t1 := hr_RF hR Ft1 (by decide +kernel)
                  have hN_t1 : t1 200 42 = ((o + 1 : Nat) : Int) := by
                    rw [vt1_200_42]
                    omega
                  have hI_t1 : t1 200 43 = 4 := by
                    rw [vt1_200_43]
                    omega
                  refine xw_callVV (pc := 91) (μ := t1) (ci := 12) (rest := []) (As := []) C0 hU hO sa_Tg hKL (xr_go (l := l) (t := t) (n := n) (lim := lim) (pz := hp_x t n pz) hS_t1 (hT_t1.2.2.2.2.2.2 (by omega)) (hp_xb (lim := lim) hT_t1.1 (by omega))) tv_1425 dX12_readSaid_91 tv_1422 tv_1424 tq_X12_go tv_13 rfl yb_X12_go (by decide +kernel) rfl rfl rfl (by decide +kernel) (Nat.le_of_ble_eq_true rfl) (xj_200 hKL) xk_0 (fun m30 w30 => ?_)
                  obtain ⟨hT_m30, F30⟩ := w30
                  have hS_m30 := hr_SF hS_t1 F30 (by decide +kernel)
                  have hM_m30 := hr_MF hM_t1 F30 (by decide +kernel)
                  have hN_m30 : m30 200 42 = (((o + 1) : Nat) : Int) := (F30 200 42 rfl).trans hN_t1
                  have hI_m30 : m30 200 43 = 4 := (F30 200 43 rfl).trans hI_t1
                  have hC_m30 : m30 200 41 = ((cn : Nat) : Int) := (F30 200 41 rfl).trans hC_t1
                  have hR_m30 := hr_RF hR_t1 F30 (by decide +kernel)
                  refine xw_iconst (pc := 94) C0 dX12_readSaid_94 ?_
                  refine xw_istore_n (pc := 95) (L' := [(3, .int (Int32.ofInt 1)), (0, .ref (xw_ad al 200)), (1, .int (Int32.ofInt 0)), (2, .int (Int32.ofInt 15))]) C0 dX12_readSaid_95 rfl (by decide +kernel) rfl ?_
                  refine xw_iload_n (pc := 96) C0 2 dX12_readSaid_96 rfl rfl ?_
                  refine xw_if_eq (pc := 97) (tgt := 108) C0 (by omega) dX12_readSaid_97 rfl (fun b31 => ?_) (fun b31 => ?_)
                  · refine xw_iload_n (pc := 108) C0 3 dX12_readSaid_108 rfl rfl ?_
                    refine xw_bipush (pc := 109) C0 dX12_readSaid_109 (by decide +kernel) ?_
                    refine xw_icmp_ne (pc := 111) (tgt := 122) C0 (by omega) (by omega) dX12_readSaid_111 rfl (fun b32 => ?_) (fun b32 => ?_)
                    · refine xw_iload_n (pc := 122) C0 3 dX12_readSaid_122 rfl rfl ?_
                      refine xw_bipush (pc := 123) C0 dX12_readSaid_123 (by decide +kernel) ?_
                      refine xw_icmp_ge (pc := 125) (tgt := 146) C0 (by omega) (by omega) dX12_readSaid_125 rfl (fun b33 => ?_) (fun b33 => ?_)
                      · refine xw_iload_n (pc := 146) C0 3 dX12_readSaid_146 rfl rfl ?_
                        refine xw_bipush (pc := 147) C0 dX12_readSaid_147 (by decide +kernel) ?_
                        refine xw_icmp_ge (pc := 149) (tgt := 160) C0 (by omega) (by omega) dX12_readSaid_149 rfl (fun b34 => ?_) (fun b34 => ?_)
                        · exfalso
                          omega
                        · refine xw_aload_n (pc := 152) C0 1 dX12_readSaid_152 rfl rfl ?_
                          refine xw_iload_n (pc := 153) C0 3 dX12_readSaid_153 rfl rfl ?_
                          refine xw_callVI (pc := 154) (μ := m30) (ci := 12) (rest := []) (As := [.int (Int32.ofInt 15)]) C0 hU hO sa_Tg hKL (xt_of15 (l := l) (rd := rd) (nm := nm) (cn := cn) hS_m30 hT_m30 hM_m30 hK hN_m30 (by omega) hI_m30 hC_m30 (by omega) hR_m30) tv_1859 dX12_readSaid_154 tv_1856 tv_1858 tq_X12_readOf tv_13 rfl yb_X12_readOf (by decide +kernel) rfl rfl rfl (by decide +kernel) (Nat.le_of_ble_eq_true rfl) (xj_200 hKL) xk_0 (fun r35 m35 w35 => ?_)
                          obtain ⟨w35, hR_m35, F35⟩ := w35
                          rcases w35 with ⟨p35, o35, c35, eo35, rfl, hT_m35, hN_m35, ho35, hC_m35, hc35, ht35, hI_m35⟩ | ⟨e35, eo35, rfl, W35, hI_m35⟩
                          · have hS_m35 := hr_SF hS_m30 F35 (by decide +kernel)
                            have hM_m35 := hr_MF hM_m30 F35 (by decide +kernel)
                            refine xw_goto (pc := 157) (tgt := 165) C0 dX12_readSaid_157 rfl ?_
                            refine xw_istore_n (pc := 165) (L' := [(3, .int (Int32.ofInt 1)), (0, .ref (xw_ad al 200)), (1, .int (Int32.ofInt 0)), (2, .int (Int32.ofInt 15))]) C0 dX12_readSaid_165 rfl (by decide +kernel) rfl ?_
                            refine xw_aload_n (pc := 166) C0 1 dX12_readSaid_166 rfl rfl ?_
                            refine xw_dup (pc := 167) C0 dX12_readSaid_167 rfl ?_
                            refine xw_getI (pc := 168) (f := 43) (z := m35 200 43) C0 kcX12 dX12_readSaid_168 (by decide +kernel) tv_1304 (xj_200 hKL) xk_0 rfl (rfl) (fun g36 k36 => ?_)
                            refine xw_iconst (pc := 171) C0 dX12_readSaid_171 ?_
                            refine xw_isub (pc := 172) C0 dX12_readSaid_172 ?_
                            refine xw_putI (pc := 173) (f := 43) C0 kcX12 dX12_readSaid_173 (by decide +kernel) tv_1304 rfl rfl (xj_200 hKL) xk_0 rfl (by omega) (by omega) ?_
                            refine xw_iload_n (pc := 176) C0 0 dX12_readSaid_176 rfl rfl ?_
                            refine xw_iret C0 hA hr hlk rfl dX12_readSaid_177 ?_
                            have e0 := hq_onO (t := t) (n := n) (lim := lim) (nm := nm) (m0 := (rd 0).toNat) (m1 := (rd 1).toNat) (d := 4) (p := pz) (o := o) is9 (by omega)
                            rw [hq_boH (by omega) (by omega)] at e0
                            rw [eo35] at e0
                            have Ft2 : xw_F [(200, 43, 43)] m35 (xw_u m35 200 43 ((m35 200 43) - 1)) := ((xw_F.rf (ML := [(200, 43, 43)])).u (show (200, 43, 43) ∈ _ by decide) ⟨by decide, by decide⟩)
                            have vt2_200_43 : (xw_u m35 200 43 ((m35 200 43) - 1)) 200 43 = (m35 200 43) - 1 := xw_ug
                            generalize (xw_u m35 200 43 ((m35 200 43) - 1)) = t2 at Ft2 vt2_200_43 ⊢
                            have tp9 : t2 200 44 = m35 200 44 := Ft2 200 44 rfl
                            exact ⟨_, rfl, Or.inl ⟨p35, o35, c35, e0, rfl, hr_TF hT_m35 Ft2 (by decide +kernel), (Ft2 200 42 rfl).trans hN_m35, by omega, (Ft2 200 41 rfl).trans hC_m35, by omega, by omega, by rw [vt2_200_43]; omega⟩, hr_RF hR_m35 Ft2 (by decide +kernel), (((((xw_F.rf (ML := [(200, 5, 13), (200, 41, 44), (218, 0, 239)])).tr Ft1 (fun j i h => xw_o_sub (by decide +kernel) j i h)).tr F30 (fun j i h => xw_o_sub (by decide +kernel) j i h)).tr F35 (fun j i h => xw_o_sub (by decide +kernel) j i h)).tr Ft2 (fun j i h => xw_o_sub (by decide +kernel) j i h))⟩
                          · refine xw_goto (pc := 157) (tgt := 165) C0 dX12_readSaid_157 rfl ?_
                            refine xw_istore_n (pc := 165) (L' := [(3, .int (Int32.ofInt 0)), (0, .ref (xw_ad al 200)), (1, .int (Int32.ofInt 0)), (2, .int (Int32.ofInt 15))]) C0 dX12_readSaid_165 rfl (by decide +kernel) rfl ?_
                            refine xw_aload_n (pc := 166) C0 1 dX12_readSaid_166 rfl rfl ?_
                            refine xw_dup (pc := 167) C0 dX12_readSaid_167 rfl ?_
                            refine xw_getI (pc := 168) (f := 43) (z := m35 200 43) C0 kcX12 dX12_readSaid_168 (by decide +kernel) tv_1304 (xj_200 hKL) xk_0 rfl (rfl) (fun g37 k37 => ?_)
                            refine xw_iconst (pc := 171) C0 dX12_readSaid_171 ?_
                            refine xw_isub (pc := 172) C0 dX12_readSaid_172 ?_
                            refine xw_putI (pc := 173) (f := 43) C0 kcX12 dX12_readSaid_173 (by decide +kernel) tv_1304 rfl rfl (xj_200 hKL) xk_0 rfl (by omega) (by omega) ?_
                            refine xw_iload_n (pc := 176) C0 0 dX12_readSaid_176 rfl rfl ?_
                            refine xw_iret C0 hA hr hlk rfl dX12_readSaid_177 ?_
                            have e0 := hq_onO (t := t) (n := n) (lim := lim) (nm := nm) (m0 := (rd 0).toNat) (m1 := (rd 1).toNat) (d := 4) (p := pz) (o := o) is9 (by omega)
                            rw [hq_boH (by omega) (by omega)] at e0
                            rw [eo35] at e0
                            have Ft3 : xw_F [(200, 43, 43)] m35 (xw_u m35 200 43 ((m35 200 43) - 1)) := ((xw_F.rf (ML := [(200, 43, 43)])).u (show (200, 43, 43) ∈ _ by decide) ⟨by decide, by decide⟩)
                            have vt3_200_43 : (xw_u m35 200 43 ((m35 200 43) - 1)) 200 43 = (m35 200 43) - 1 := xw_ug
                            generalize (xw_u m35 200 43 ((m35 200 43) - 1)) = t3 at Ft3 vt3_200_43 ⊢
                            exact ⟨_, rfl, Or.inr ⟨_, e0, rfl, ⟨(Ft3 200 10 rfl).trans W35.1, (Ft3 200 11 rfl).trans W35.2⟩, by rw [vt3_200_43]; omega⟩, hr_RF hR_m35 Ft3 (by decide +kernel), (((((xw_F.rf (ML := [(200, 5, 13), (200, 41, 44), (218, 0, 239)])).tr Ft1 (fun j i h => xw_o_sub (by decide +kernel) j i h)).tr F30 (fun j i h => xw_o_sub (by decide +kernel) j i h)).tr F35 (fun j i h => xw_o_sub (by decide +kernel) j i h)).tr Ft3 (fun j i h => xw_o_sub (by decide +kernel) j i h))⟩
                      · exfalso
                        omega
                    · exfalso
                      omega
                  · exfalso
                    omega
                · exfalso
                  omega
            · exfalso
              omega
        · rw [show hp_pm 16 = 1 from rfl] at hkj
          have is9 : ((hp_k t n lim pz = 2 ∧ (hp_kw (hp_w t n pz) = 1 ∨ 12 ≤ hp_kw (hp_w t n pz))) ∨ (hp_k t n lim pz = 4 ∧ hp_s t n pz = 40)) := by omega
          refine xw_iload_n (pc := 30) C0 1 dX12_readSaid_30 rfl rfl ?_
          refine xw_if_ne (pc := 31) (tgt := 46) C0 (by omega) dX12_readSaid_31 rfl (fun b21 => ?_) (fun b21 => ?_)
          · exfalso
            omega
          · refine xw_iload_n (pc := 34) C0 2 dX12_readSaid_34 rfl rfl ?_
            refine xw_bipush (pc := 35) C0 dX12_readSaid_35 (by decide +kernel) ?_
            refine xw_icmp_le (pc := 37) (tgt := 46) C0 (by omega) (by omega) dX12_readSaid_37 rfl (fun b22 => ?_) (fun b22 => ?_)
            · refine xw_aload_n (pc := 46) C0 0 dX12_readSaid_46 rfl rfl ?_
              refine xw_getI (pc := 47) (f := 42) (z := μ 200 42) C0 kcX12 dX12_readSaid_47 (by decide +kernel) tv_1303 (xj_200 hKL) xk_0 rfl (rfl) (fun g23 k23 => ?_)
              refine xw_bipush (pc := 50) C0 dX12_readSaid_50 (by decide +kernel) ?_
              refine xw_icmp_eq (pc := 52) (tgt := 64) C0 (by omega) (by omega) dX12_readSaid_52 rfl (fun b24 => ?_) (fun b24 => ?_)
              · refine xw_aload_n (pc := 64) C0 0 dX12_readSaid_64 rfl rfl ?_
                refine xw_iconst (pc := 65) C0 dX12_readSaid_65 ?_
                refine xw_callVI (pc := 66) (μ := μ) (ci := 12) (rest := []) (As := [.int (Int32.ofInt 4)]) C0 hU hO sa_Tg hKL (xr_bad (l := l) (v := 4) hS hT (by decide +kernel) (by omega)) tv_1463 dX12_readSaid_66 tv_1460 tv_1462 tq_X12_bad tv_13 rfl yb_X12_bad (by decide +kernel) rfl rfl rfl (by decide +kernel) (Nat.le_of_ble_eq_true rfl) (xj_200 hKL) xk_0 (fun r25 m25 w25 => ?_)
                obtain ⟨rfl, W25, F25⟩ := w25
                have hI_m25 : m25 200 43 = 3 := (F25 200 43 rfl).trans hI
                have hR_m25 := hr_RF hR F25 (by decide +kernel)
                refine xw_iret C0 hA hr hlk rfl dX12_readSaid_69 ?_
                exact ⟨_, rfl, Or.inr ⟨_, hq_onM is9 (by omega), rfl, W25, hI_m25⟩, hR_m25, ((xw_F.rf (ML := [(200, 5, 13), (200, 41, 44), (218, 0, 239)])).tr F25 (fun j i h => xw_o_sub (by decide +kernel) j i h))⟩
              · refine xw_aload_n (pc := 55) C0 0 dX12_readSaid_55 rfl rfl ?_
                refine xw_getI (pc := 56) (f := 43) (z := μ 200 43) C0 kcX12 dX12_readSaid_56 (by decide +kernel) tv_1304 (xj_200 hKL) xk_0 rfl (rfl) (fun g26 k26 => ?_)
                refine xw_bipush (pc := 59) C0 dX12_readSaid_59 (by decide +kernel) ?_
                refine xw_icmp_ne (pc := 61) (tgt := 70) C0 (by omega) (by omega) dX12_readSaid_61 rfl (fun b27 => ?_) (fun b27 => ?_)
                · refine xw_aload_n (pc := 70) C0 0 dX12_readSaid_70 rfl rfl ?_
                  refine xw_dup (pc := 71) C0 dX12_readSaid_71 rfl ?_
                  refine xw_getI (pc := 72) (f := 42) (z := μ 200 42) C0 kcX12 dX12_readSaid_72 (by decide +kernel) tv_1303 (xj_200 hKL) xk_0 rfl (rfl) (fun g28 k28 => ?_)
                  refine xw_iconst (pc := 75) C0 dX12_readSaid_75 ?_
                  refine xw_iadd (pc := 76) C0 dX12_readSaid_76 ?_
                  refine xw_putI (pc := 77) (f := 42) C0 kcX12 dX12_readSaid_77 (by decide +kernel) tv_1303 rfl rfl (xj_200 hKL) xk_0 rfl (by omega) (by omega) ?_
                  refine xw_aload_n (pc := 80) C0 0 dX12_readSaid_80 rfl rfl ?_
                  refine xw_dup (pc := 81) C0 dX12_readSaid_81 rfl ?_
                  refine xw_getI (pc := 82) (f := 43) (z := μ 200 43) C0 kcX12 dX12_readSaid_82 (by decide +kernel) tv_1304 (xj_200 hKL) xk_0 rfl ((xw_un (by decide +kernel)).trans rfl) (fun g29 k29 => ?_)
                  refine xw_iconst (pc := 85) C0 dX12_readSaid_85 ?_
                  refine xw_iadd (pc := 86) C0 dX12_readSaid_86 ?_
                  refine xw_putI (pc := 87) (f := 43) C0 kcX12 dX12_readSaid_87 (by decide +kernel) tv_1304 rfl rfl (xj_200 hKL) xk_0 rfl (by omega) (by omega) ?_
                  refine xw_aload_n (pc := 90) C0 0 dX12_readSaid_90 rfl rfl ?_
                  have Ft1 : xw_F [(200, 42, 42), (200, 43, 43)] μ (xw_u (xw_u μ 200 42 ((μ 200 42) + 1)) 200 43 ((μ 200 43) + 1)) := (((xw_F.rf (ML := [(200, 42, 42), (200, 43, 43)])).u (show (200, 42, 42) ∈ _ by decide) ⟨by decide, by decide⟩).u (show (200, 43, 43) ∈ _ by decide) ⟨by decide, by decide⟩)
                  have vt1_200_43 : (xw_u (xw_u μ 200 42 ((μ 200 42) + 1)) 200 43 ((μ 200 43) + 1)) 200 43 = (μ 200 43) + 1 := xw_ug
                  have vt1_200_42 : (xw_u (xw_u μ 200 42 ((μ 200 42) + 1)) 200 43 ((μ 200 43) + 1)) 200 42 = (μ 200 42) + 1 := (xw_un (by decide +kernel)).trans xw_ug
                  generalize (xw_u (xw_u μ 200 42 ((μ 200 42) + 1)) 200 43 ((μ 200 43) + 1)) = t1 at Ft1 vt1_200_43 vt1_200_42 ⊢
                  have hS_t1 := hr_SF hS Ft1 (by decide +kernel)
                  have hT_t1 := hr_TF hT Ft1 (by decide +kernel)
                  have hM_t1 := hr_MF hM Ft1 (by decide +kernel)
                  have hC_t1 : t1 200 41 = ((cn : Nat) : Int) := (Ft1 200 41 rfl).trans hC
                  have hR_t1 := hr_RF hR Ft1 (by decide +kernel)
                  have hN_t1 : t1 200 42 = ((o + 1 : Nat) : Int) := by
                    rw [vt1_200_42]
                    omega
                  have hI_t1 : t1 200 43 = 4 := by
                    rw [vt1_200_43]
                    omega
                  refine xw_callVV (pc := 91) (μ := t1) (ci := 12) (rest := []) (As := []) C0 hU hO sa_Tg hKL (xr_go (l := l) (t := t) (n := n) (lim := lim) (pz := hp_x t n pz) hS_t1 (hT_t1.2.2.2.2.2.2 (by omega)) (hp_xb (lim := lim) hT_t1.1 (by omega))) tv_1425 dX12_readSaid_91 tv_1422 tv_1424 tq_X12_go tv_13 rfl yb_X12_go (by decide +kernel) rfl rfl rfl (by decide +kernel) (Nat.le_of_ble_eq_true rfl) (xj_200 hKL) xk_0 (fun m30 w30 => ?_)
                  obtain ⟨hT_m30, F30⟩ := w30
                  have hS_m30 := hr_SF hS_t1 F30 (by decide +kernel)
                  have hM_m30 := hr_MF hM_t1 F30 (by decide +kernel)
                  have hN_m30 : m30 200 42 = (((o + 1) : Nat) : Int) := (F30 200 42 rfl).trans hN_t1
                  have hI_m30 : m30 200 43 = 4 := (F30 200 43 rfl).trans hI_t1
                  have hC_m30 : m30 200 41 = ((cn : Nat) : Int) := (F30 200 41 rfl).trans hC_t1
                  have hR_m30 := hr_RF hR_t1 F30 (by decide +kernel)
                  refine xw_iconst (pc := 94) C0 dX12_readSaid_94 ?_
                  refine xw_istore_n (pc := 95) (L' := [(3, .int (Int32.ofInt 1)), (0, .ref (xw_ad al 200)), (1, .int (Int32.ofInt 0)), (2, .int (Int32.ofInt 16))]) C0 dX12_readSaid_95 rfl (by decide +kernel) rfl ?_
                  refine xw_iload_n (pc := 96) C0 2 dX12_readSaid_96 rfl rfl ?_
                  refine xw_if_eq (pc := 97) (tgt := 108) C0 (by omega) dX12_readSaid_97 rfl (fun b31 => ?_) (fun b31 => ?_)
                  · refine xw_iload_n (pc := 108) C0 3 dX12_readSaid_108 rfl rfl ?_
                    refine xw_bipush (pc := 109) C0 dX12_readSaid_109 (by decide +kernel) ?_
                    refine xw_icmp_ne (pc := 111) (tgt := 122) C0 (by omega) (by omega) dX12_readSaid_111 rfl (fun b32 => ?_) (fun b32 => ?_)
                    · refine xw_iload_n (pc := 122) C0 3 dX12_readSaid_122 rfl rfl ?_
                      refine xw_bipush (pc := 123) C0 dX12_readSaid_123 (by decide +kernel) ?_
                      refine xw_icmp_ge (pc := 125) (tgt := 146) C0 (by omega) (by omega) dX12_readSaid_125 rfl (fun b33 => ?_) (fun b33 => ?_)
                      · refine xw_iload_n (pc := 146) C0 3 dX12_readSaid_146 rfl rfl ?_
                        refine xw_bipush (pc := 147) C0 dX12_readSaid_147 (by decide +kernel) ?_
                        refine xw_icmp_ge (pc := 149) (tgt := 160) C0 (by omega) (by omega) dX12_readSaid_149 rfl (fun b34 => ?_) (fun b34 => ?_)
                        · exfalso
                          omega
                        · refine xw_aload_n (pc := 152) C0 1 dX12_readSaid_152 rfl rfl ?_
                          refine xw_iload_n (pc := 153) C0 3 dX12_readSaid_153 rfl rfl ?_
                          refine xw_callVI (pc := 154) (μ := m30) (ci := 12) (rest := []) (As := [.int (Int32.ofInt 16)]) C0 hU hO sa_Tg hKL (xt_of16 (l := l) (rd := rd) (nm := nm) (cn := cn) hS_m30 hT_m30 hM_m30 hK hN_m30 (by omega) hI_m30 hC_m30 (by omega) hR_m30) tv_1859 dX12_readSaid_154 tv_1856 tv_1858 tq_X12_readOf tv_13 rfl yb_X12_readOf (by decide +kernel) rfl rfl rfl (by decide +kernel) (Nat.le_of_ble_eq_true rfl) (xj_200 hKL) xk_0 (fun r35 m35 w35 => ?_)
                          obtain ⟨w35, hR_m35, F35⟩ := w35
                          rcases w35 with ⟨p35, o35, c35, eo35, rfl, hT_m35, hN_m35, ho35, hC_m35, hc35, ht35, hI_m35⟩ | ⟨e35, eo35, rfl, W35, hI_m35⟩
                          · have hS_m35 := hr_SF hS_m30 F35 (by decide +kernel)
                            have hM_m35 := hr_MF hM_m30 F35 (by decide +kernel)
                            refine xw_goto (pc := 157) (tgt := 165) C0 dX12_readSaid_157 rfl ?_
                            refine xw_istore_n (pc := 165) (L' := [(3, .int (Int32.ofInt 1)), (0, .ref (xw_ad al 200)), (1, .int (Int32.ofInt 0)), (2, .int (Int32.ofInt 16))]) C0 dX12_readSaid_165 rfl (by decide +kernel) rfl ?_
                            refine xw_aload_n (pc := 166) C0 1 dX12_readSaid_166 rfl rfl ?_
                            refine xw_dup (pc := 167) C0 dX12_readSaid_167 rfl ?_
                            refine xw_getI (pc := 168) (f := 43) (z := m35 200 43) C0 kcX12 dX12_readSaid_168 (by decide +kernel) tv_1304 (xj_200 hKL) xk_0 rfl (rfl) (fun g36 k36 => ?_)
                            refine xw_iconst (pc := 171) C0 dX12_readSaid_171 ?_
                            refine xw_isub (pc := 172) C0 dX12_readSaid_172 ?_
                            refine xw_putI (pc := 173) (f := 43) C0 kcX12 dX12_readSaid_173 (by decide +kernel) tv_1304 rfl rfl (xj_200 hKL) xk_0 rfl (by omega) (by omega) ?_
                            refine xw_iload_n (pc := 176) C0 0 dX12_readSaid_176 rfl rfl ?_
                            refine xw_iret C0 hA hr hlk rfl dX12_readSaid_177 ?_
                            have e0 := hq_onO (t := t) (n := n) (lim := lim) (nm := nm) (m0 := (rd 0).toNat) (m1 := (rd 1).toNat) (d := 4) (p := pz) (o := o) is9 (by omega)
                            rw [hq_boB (by omega) (by omega)] at e0
                            rw [eo35] at e0
                            have Ft2 : xw_F [(200, 43, 43)] m35 (xw_u m35 200 43 ((m35 200 43) - 1)) := ((xw_F.rf (ML := [(200, 43, 43)])).u (show (200, 43, 43) ∈ _ by decide) ⟨by decide, by decide⟩)
                            have vt2_200_43 : (xw_u m35 200 43 ((m35 200 43) - 1)) 200 43 = (m35 200 43) - 1 := xw_ug
                            generalize (xw_u m35 200 43 ((m35 200 43) - 1)) = t2 at Ft2 vt2_200_43 ⊢
                            have tp9 : t2 200 44 = m35 200 44 := Ft2 200 44 rfl
                            exact ⟨_, rfl, Or.inl ⟨p35, o35, c35, e0, rfl, hr_TF hT_m35 Ft2 (by decide +kernel), (Ft2 200 42 rfl).trans hN_m35, by omega, (Ft2 200 41 rfl).trans hC_m35, by omega, by omega, by rw [vt2_200_43]; omega⟩, hr_RF hR_m35 Ft2 (by decide +kernel), (((((xw_F.rf (ML := [(200, 5, 13), (200, 41, 44), (218, 0, 239)])).tr Ft1 (fun j i h => xw_o_sub (by decide +kernel) j i h)).tr F30 (fun j i h => xw_o_sub (by decide +kernel) j i h)).tr F35 (fun j i h => xw_o_sub (by decide +kernel) j i h)).tr Ft2 (fun j i h => xw_o_sub (by decide +kernel) j i h))⟩
                          · refine xw_goto (pc := 157) (tgt := 165) C0 dX12_readSaid_157 rfl ?_
                            refine xw_istore_n (pc := 165) (L' := [(3, .int (Int32.ofInt 0)), (0, .ref (xw_ad al 200)), (1, .int (Int32.ofInt 0)), (2, .int (Int32.ofInt 16))]) C0 dX12_readSaid_165 rfl (by decide +kernel) rfl ?_
                            refine xw_aload_n (pc := 166) C0 1 dX12_readSaid_166 rfl rfl ?_
                            refine xw_dup (pc := 167) C0 dX12_readSaid_167 rfl ?_
                            refine xw_getI (pc := 168) (f := 43) (z := m35 200 43) C0 kcX12 dX12_readSaid_168 (by decide +kernel) tv_1304 (xj_200 hKL) xk_0 rfl (rfl) (fun g37 k37 => ?_)
                            refine xw_iconst (pc := 171) C0 dX12_readSaid_171 ?_
                            refine xw_isub (pc := 172) C0 dX12_readSaid_172 ?_
                            refine xw_putI (pc := 173) (f := 43) C0 kcX12 dX12_readSaid_173 (by decide +kernel) tv_1304 rfl rfl (xj_200 hKL) xk_0 rfl (by omega) (by omega) ?_
                            refine xw_iload_n (pc := 176) C0 0 dX12_readSaid_176 rfl rfl ?_
                            refine xw_iret C0 hA hr hlk rfl dX12_readSaid_177 ?_
                            have e0 := hq_onO (t := t) (n := n) (lim := lim) (nm := nm) (m0 := (rd 0).toNat) (m1 := (rd 1).toNat) (d := 4) (p := pz) (o := o) is9 (by omega)
                            rw [hq_boB (by omega) (by omega)] at e0
                            rw [eo35] at e0
                            have Ft3 : xw_F [(200, 43, 43)] m35 (xw_u m35 200 43 ((m35 200 43) - 1)) := ((xw_F.rf (ML := [(200, 43, 43)])).u (show (200, 43, 43) ∈ _ by decide) ⟨by decide, by decide⟩)
                            have vt3_200_43 : (xw_u m35 200 43 ((m35 200 43) - 1)) 200 43 = (m35 200 43) - 1 := xw_ug
                            generalize (xw_u m35 200 43 ((m35 200 43) - 1)) = t3 at Ft3 vt3_200_43 ⊢
                            exact ⟨_, rfl, Or.inr ⟨_, e0, rfl, ⟨(Ft3 200 10 rfl).trans W35.1, (Ft3 200 11 rfl).trans W35.2⟩, by rw [vt3_200_43]; omega⟩, hr_RF hR_m35 Ft3 (by decide +kernel), (((((xw_F.rf (ML := [(200, 5, 13), (200, 41, 44), (218, 0, 239)])).tr Ft1 (fun j i h => xw_o_sub (by decide +kernel) j i h)).tr F30 (fun j i h => xw_o_sub (by decide +kernel) j i h)).tr F35 (fun j i h => xw_o_sub (by decide +kernel) j i h)).tr Ft3 (fun j i h => xw_o_sub (by decide +kernel) j i h))⟩
                      · exfalso
                        omega
                    · exfalso
                      omega
                  · exfalso
                    omega
                · exfalso
                  omega
            · exfalso
              omega
        · rw [show hp_pm 17 = 17 from rfl] at hkj
          have is9 : ((hp_k t n lim pz = 2 ∧ (hp_kw (hp_w t n pz) = 1 ∨ 12 ≤ hp_kw (hp_w t n pz))) ∨ (hp_k t n lim pz = 4 ∧ hp_s t n pz = 40)) := by omega
          refine xw_iload_n (pc := 30) C0 1 dX12_readSaid_30 rfl rfl ?_
          refine xw_if_ne (pc := 31) (tgt := 46) C0 (by omega) dX12_readSaid_31 rfl (fun b21 => ?_) (fun b21 => ?_)
          · exfalso
            omega
          · refine xw_iload_n (pc := 34) C0 2 dX12_readSaid_34 rfl rfl ?_
            refine xw_bipush (pc := 35) C0 dX12_readSaid_35 (by decide +kernel) ?_
            refine xw_icmp_le (pc := 37) (tgt := 46) C0 (by omega) (by omega) dX12_readSaid_37 rfl (fun b22 => ?_) (fun b22 => ?_)
            · refine xw_aload_n (pc := 46) C0 0 dX12_readSaid_46 rfl rfl ?_
              refine xw_getI (pc := 47) (f := 42) (z := μ 200 42) C0 kcX12 dX12_readSaid_47 (by decide +kernel) tv_1303 (xj_200 hKL) xk_0 rfl (rfl) (fun g23 k23 => ?_)
              refine xw_bipush (pc := 50) C0 dX12_readSaid_50 (by decide +kernel) ?_
              refine xw_icmp_eq (pc := 52) (tgt := 64) C0 (by omega) (by omega) dX12_readSaid_52 rfl (fun b24 => ?_) (fun b24 => ?_)
              · refine xw_aload_n (pc := 64) C0 0 dX12_readSaid_64 rfl rfl ?_
                refine xw_iconst (pc := 65) C0 dX12_readSaid_65 ?_
                refine xw_callVI (pc := 66) (μ := μ) (ci := 12) (rest := []) (As := [.int (Int32.ofInt 4)]) C0 hU hO sa_Tg hKL (xr_bad (l := l) (v := 4) hS hT (by decide +kernel) (by omega)) tv_1463 dX12_readSaid_66 tv_1460 tv_1462 tq_X12_bad tv_13 rfl yb_X12_bad (by decide +kernel) rfl rfl rfl (by decide +kernel) (Nat.le_of_ble_eq_true rfl) (xj_200 hKL) xk_0 (fun r25 m25 w25 => ?_)
                obtain ⟨rfl, W25, F25⟩ := w25
                have hI_m25 : m25 200 43 = 3 := (F25 200 43 rfl).trans hI
                have hR_m25 := hr_RF hR F25 (by decide +kernel)
                refine xw_iret C0 hA hr hlk rfl dX12_readSaid_69 ?_
                exact ⟨_, rfl, Or.inr ⟨_, hq_onM is9 (by omega), rfl, W25, hI_m25⟩, hR_m25, ((xw_F.rf (ML := [(200, 5, 13), (200, 41, 44), (218, 0, 239)])).tr F25 (fun j i h => xw_o_sub (by decide +kernel) j i h))⟩
              · refine xw_aload_n (pc := 55) C0 0 dX12_readSaid_55 rfl rfl ?_
                refine xw_getI (pc := 56) (f := 43) (z := μ 200 43) C0 kcX12 dX12_readSaid_56 (by decide +kernel) tv_1304 (xj_200 hKL) xk_0 rfl (rfl) (fun g26 k26 => ?_)
                refine xw_bipush (pc := 59) C0 dX12_readSaid_59 (by decide +kernel) ?_
                refine xw_icmp_ne (pc := 61) (tgt := 70) C0 (by omega) (by omega) dX12_readSaid_61 rfl (fun b27 => ?_) (fun b27 => ?_)
                · refine xw_aload_n (pc := 70) C0 0 dX12_readSaid_70 rfl rfl ?_
                  refine xw_dup (pc := 71) C0 dX12_readSaid_71 rfl ?_
                  refine xw_getI (pc := 72) (f := 42) (z := μ 200 42) C0 kcX12 dX12_readSaid_72 (by decide +kernel) tv_1303 (xj_200 hKL) xk_0 rfl (rfl) (fun g28 k28 => ?_)
                  refine xw_iconst (pc := 75) C0 dX12_readSaid_75 ?_
                  refine xw_iadd (pc := 76) C0 dX12_readSaid_76 ?_
                  refine xw_putI (pc := 77) (f := 42) C0 kcX12 dX12_readSaid_77 (by decide +kernel) tv_1303 rfl rfl (xj_200 hKL) xk_0 rfl (by omega) (by omega) ?_
                  refine xw_aload_n (pc := 80) C0 0 dX12_readSaid_80 rfl rfl ?_
                  refine xw_dup (pc := 81) C0 dX12_readSaid_81 rfl ?_
                  refine xw_getI (pc := 82) (f := 43) (z := μ 200 43) C0 kcX12 dX12_readSaid_82 (by decide +kernel) tv_1304 (xj_200 hKL) xk_0 rfl ((xw_un (by decide +kernel)).trans rfl) (fun g29 k29 => ?_)
                  refine xw_iconst (pc := 85) C0 dX12_readSaid_85 ?_
                  refine xw_iadd (pc := 86) C0 dX12_readSaid_86 ?_
                  refine xw_putI (pc := 87) (f := 43) C0 kcX12 dX12_readSaid_87 (by decide +kernel) tv_1304 rfl rfl (xj_200 hKL) xk_0 rfl (by omega) (by omega) ?_
                  refine xw_aload_n (pc := 90) C0 0 dX12_readSaid_90 rfl rfl ?_
                  have Ft1 : xw_F [(200, 42, 42), (200, 43, 43)] μ (xw_u (xw_u μ 200 42 ((μ 200 42) + 1)) 200 43 ((μ 200 43) + 1)) := (((xw_F.rf (ML := [(200, 42, 42), (200, 43, 43)])).u (show (200, 42, 42) ∈ _ by decide) ⟨by decide, by decide⟩).u (show (200, 43, 43) ∈ _ by decide) ⟨by decide, by decide⟩)
                  have vt1_200_43 : (xw_u (xw_u μ 200 42 ((μ 200 42) + 1)) 200 43 ((μ 200 43) + 1)) 200 43 = (μ 200 43) + 1 := xw_ug
                  have vt1_200_42 : (xw_u (xw_u μ 200 42 ((μ 200 42) + 1)) 200 43 ((μ 200 43) + 1)) 200 42 = (μ 200 42) + 1 := (xw_un (by decide +kernel)).trans xw_ug
                  generalize (xw_u (xw_u μ 200 42 ((μ 200 42) + 1)) 200 43 ((μ 200 43) + 1)) = t1 at Ft1 vt1_200_43 vt1_200_42 ⊢
                  have hS_t1 := hr_SF hS Ft1 (by decide +kernel)
                  have hT_t1 := hr_TF hT Ft1 (by decide +kernel)
                  have hM_t1 := hr_MF hM Ft1 (by decide +kernel)
                  have hC_t1 : t1 200 41 = ((cn : Nat) : Int) := (Ft1 200 41 rfl).trans hC
                  have hR_t1 := hr_RF hR Ft1 (by decide +kernel)
                  have hN_t1 : t1 200 42 = ((o + 1 : Nat) : Int) := by
                    rw [vt1_200_42]
                    omega
                  have hI_t1 : t1 200 43 = 4 := by
                    rw [vt1_200_43]
                    omega
                  refine xw_callVV (pc := 91) (μ := t1) (ci := 12) (rest := []) (As := []) C0 hU hO sa_Tg hKL (xr_go (l := l) (t := t) (n := n) (lim := lim) (pz := hp_x t n pz) hS_t1 (hT_t1.2.2.2.2.2.2 (by omega)) (hp_xb (lim := lim) hT_t1.1 (by omega))) tv_1425 dX12_readSaid_91 tv_1422 tv_1424 tq_X12_go tv_13 rfl yb_X12_go (by decide +kernel) rfl rfl rfl (by decide +kernel) (Nat.le_of_ble_eq_true rfl) (xj_200 hKL) xk_0 (fun m30 w30 => ?_)
                  obtain ⟨hT_m30, F30⟩ := w30
                  have hS_m30 := hr_SF hS_t1 F30 (by decide +kernel)
                  have hM_m30 := hr_MF hM_t1 F30 (by decide +kernel)
                  have hN_m30 : m30 200 42 = (((o + 1) : Nat) : Int) := (F30 200 42 rfl).trans hN_t1
                  have hI_m30 : m30 200 43 = 4 := (F30 200 43 rfl).trans hI_t1
                  have hC_m30 : m30 200 41 = ((cn : Nat) : Int) := (F30 200 41 rfl).trans hC_t1
                  have hR_m30 := hr_RF hR_t1 F30 (by decide +kernel)
                  refine xw_iconst (pc := 94) C0 dX12_readSaid_94 ?_
                  refine xw_istore_n (pc := 95) (L' := [(3, .int (Int32.ofInt 1)), (0, .ref (xw_ad al 200)), (1, .int (Int32.ofInt 0)), (2, .int (Int32.ofInt 17))]) C0 dX12_readSaid_95 rfl (by decide +kernel) rfl ?_
                  refine xw_iload_n (pc := 96) C0 2 dX12_readSaid_96 rfl rfl ?_
                  refine xw_if_eq (pc := 97) (tgt := 108) C0 (by omega) dX12_readSaid_97 rfl (fun b31 => ?_) (fun b31 => ?_)
                  · refine xw_iload_n (pc := 108) C0 3 dX12_readSaid_108 rfl rfl ?_
                    refine xw_bipush (pc := 109) C0 dX12_readSaid_109 (by decide +kernel) ?_
                    refine xw_icmp_ne (pc := 111) (tgt := 122) C0 (by omega) (by omega) dX12_readSaid_111 rfl (fun b32 => ?_) (fun b32 => ?_)
                    · refine xw_iload_n (pc := 122) C0 3 dX12_readSaid_122 rfl rfl ?_
                      refine xw_bipush (pc := 123) C0 dX12_readSaid_123 (by decide +kernel) ?_
                      refine xw_icmp_ge (pc := 125) (tgt := 146) C0 (by omega) (by omega) dX12_readSaid_125 rfl (fun b33 => ?_) (fun b33 => ?_)
                      · refine xw_iload_n (pc := 146) C0 3 dX12_readSaid_146 rfl rfl ?_
                        refine xw_bipush (pc := 147) C0 dX12_readSaid_147 (by decide +kernel) ?_
                        refine xw_icmp_ge (pc := 149) (tgt := 160) C0 (by omega) (by omega) dX12_readSaid_149 rfl (fun b34 => ?_) (fun b34 => ?_)
                        · refine xw_aload_n (pc := 160) C0 1 dX12_readSaid_160 rfl rfl ?_
                          refine xw_iload_n (pc := 161) C0 3 dX12_readSaid_161 rfl rfl ?_
                          refine xw_callVI (pc := 162) (μ := m30) (ci := 12) (rest := []) (As := [.int (Int32.ofInt 17)]) C0 hU hO sa_Tg hKL (xt_cp17 (l := l) (rd := rd) (nm := nm) (cn := cn) hS_m30 hT_m30 hM_m30 hK hN_m30 (by omega) hI_m30 hC_m30 (by omega) hR_m30) tv_1863 dX12_readSaid_162 tv_1860 tv_1862 tq_X12_readCompare tv_13 rfl yb_X12_readCompare (by decide +kernel) rfl rfl rfl (by decide +kernel) (Nat.le_of_ble_eq_true rfl) (xj_200 hKL) xk_0 (fun r35 m35 w35 => ?_)
                          obtain ⟨w35, hR_m35, F35⟩ := w35
                          rcases w35 with ⟨p35, o35, c35, eo35, rfl, hT_m35, hN_m35, ho35, hC_m35, hc35, ht35, hI_m35⟩ | ⟨e35, eo35, rfl, W35, hI_m35⟩
                          · have hS_m35 := hr_SF hS_m30 F35 (by decide +kernel)
                            have hM_m35 := hr_MF hM_m30 F35 (by decide +kernel)
                            refine xw_istore_n (pc := 165) (L' := [(3, .int (Int32.ofInt 1)), (0, .ref (xw_ad al 200)), (1, .int (Int32.ofInt 0)), (2, .int (Int32.ofInt 17))]) C0 dX12_readSaid_165 rfl (by decide +kernel) rfl ?_
                            refine xw_aload_n (pc := 166) C0 1 dX12_readSaid_166 rfl rfl ?_
                            refine xw_dup (pc := 167) C0 dX12_readSaid_167 rfl ?_
                            refine xw_getI (pc := 168) (f := 43) (z := m35 200 43) C0 kcX12 dX12_readSaid_168 (by decide +kernel) tv_1304 (xj_200 hKL) xk_0 rfl (rfl) (fun g36 k36 => ?_)
                            refine xw_iconst (pc := 171) C0 dX12_readSaid_171 ?_
                            refine xw_isub (pc := 172) C0 dX12_readSaid_172 ?_
                            refine xw_putI (pc := 173) (f := 43) C0 kcX12 dX12_readSaid_173 (by decide +kernel) tv_1304 rfl rfl (xj_200 hKL) xk_0 rfl (by omega) (by omega) ?_
                            refine xw_iload_n (pc := 176) C0 0 dX12_readSaid_176 rfl rfl ?_
                            refine xw_iret C0 hA hr hlk rfl dX12_readSaid_177 ?_
                            have e0 := hq_onO (t := t) (n := n) (lim := lim) (nm := nm) (m0 := (rd 0).toNat) (m1 := (rd 1).toNat) (d := 4) (p := pz) (o := o) is9 (by omega)
                            rw [hq_boC (by omega) (by omega)] at e0
                            rw [eo35] at e0
                            have Ft2 : xw_F [(200, 43, 43)] m35 (xw_u m35 200 43 ((m35 200 43) - 1)) := ((xw_F.rf (ML := [(200, 43, 43)])).u (show (200, 43, 43) ∈ _ by decide) ⟨by decide, by decide⟩)
                            have vt2_200_43 : (xw_u m35 200 43 ((m35 200 43) - 1)) 200 43 = (m35 200 43) - 1 := xw_ug
                            generalize (xw_u m35 200 43 ((m35 200 43) - 1)) = t2 at Ft2 vt2_200_43 ⊢
                            have tp9 : t2 200 44 = m35 200 44 := Ft2 200 44 rfl
                            exact ⟨_, rfl, Or.inl ⟨p35, o35, c35, e0, rfl, hr_TF hT_m35 Ft2 (by decide +kernel), (Ft2 200 42 rfl).trans hN_m35, by omega, (Ft2 200 41 rfl).trans hC_m35, by omega, by omega, by rw [vt2_200_43]; omega⟩, hr_RF hR_m35 Ft2 (by decide +kernel), (((((xw_F.rf (ML := [(200, 5, 13), (200, 41, 44), (218, 0, 239)])).tr Ft1 (fun j i h => xw_o_sub (by decide +kernel) j i h)).tr F30 (fun j i h => xw_o_sub (by decide +kernel) j i h)).tr F35 (fun j i h => xw_o_sub (by decide +kernel) j i h)).tr Ft2 (fun j i h => xw_o_sub (by decide +kernel) j i h))⟩
                          · refine xw_istore_n (pc := 165) (L' := [(3, .int (Int32.ofInt 0)), (0, .ref (xw_ad al 200)), (1, .int (Int32.ofInt 0)), (2, .int (Int32.ofInt 17))]) C0 dX12_readSaid_165 rfl (by decide +kernel) rfl ?_
                            refine xw_aload_n (pc := 166) C0 1 dX12_readSaid_166 rfl rfl ?_
                            refine xw_dup (pc := 167) C0 dX12_readSaid_167 rfl ?_
                            refine xw_getI (pc := 168) (f := 43) (z := m35 200 43) C0 kcX12 dX12_readSaid_168 (by decide +kernel) tv_1304 (xj_200 hKL) xk_0 rfl (rfl) (fun g37 k37 => ?_)
                            refine xw_iconst (pc := 171) C0 dX12_readSaid_171 ?_
                            refine xw_isub (pc := 172) C0 dX12_readSaid_172 ?_
                            refine xw_putI (pc := 173) (f := 43) C0 kcX12 dX12_readSaid_173 (by decide +kernel) tv_1304 rfl rfl (xj_200 hKL) xk_0 rfl (by omega) (by omega) ?_
                            refine xw_iload_n (pc := 176) C0 0 dX12_readSaid_176 rfl rfl ?_
                            refine xw_iret C0 hA hr hlk rfl dX12_readSaid_177 ?_
                            have e0 := hq_onO (t := t) (n := n) (lim := lim) (nm := nm) (m0 := (rd 0).toNat) (m1 := (rd 1).toNat) (d := 4) (p := pz) (o := o) is9 (by omega)
                            rw [hq_boC (by omega) (by omega)] at e0
                            rw [eo35] at e0
                            have Ft3 : xw_F [(200, 43, 43)] m35 (xw_u m35 200 43 ((m35 200 43) - 1)) := ((xw_F.rf (ML := [(200, 43, 43)])).u (show (200, 43, 43) ∈ _ by decide) ⟨by decide, by decide⟩)
                            have vt3_200_43 : (xw_u m35 200 43 ((m35 200 43) - 1)) 200 43 = (m35 200 43) - 1 := xw_ug
                            generalize (xw_u m35 200 43 ((m35 200 43) - 1)) = t3 at Ft3 vt3_200_43 ⊢
                            exact ⟨_, rfl, Or.inr ⟨_, e0, rfl, ⟨(Ft3 200 10 rfl).trans W35.1, (Ft3 200 11 rfl).trans W35.2⟩, by rw [vt3_200_43]; omega⟩, hr_RF hR_m35 Ft3 (by decide +kernel), (((((xw_F.rf (ML := [(200, 5, 13), (200, 41, 44), (218, 0, 239)])).tr Ft1 (fun j i h => xw_o_sub (by decide +kernel) j i h)).tr F30 (fun j i h => xw_o_sub (by decide +kernel) j i h)).tr F35 (fun j i h => xw_o_sub (by decide +kernel) j i h)).tr Ft3 (fun j i h => xw_o_sub (by decide +kernel) j i h))⟩
                        · exfalso
                          omega
                      · exfalso
                        omega
                    · exfalso
                      omega
                  · exfalso
                    omega
                · exfalso
                  omega
            · exfalso
              omega
        · rw [show hp_pm 18 = 18 from rfl] at hkj
          have is9 : ((hp_k t n lim pz = 2 ∧ (hp_kw (hp_w t n pz) = 1 ∨ 12 ≤ hp_kw (hp_w t n pz))) ∨ (hp_k t n lim pz = 4 ∧ hp_s t n pz = 40)) := by omega
          refine xw_iload_n (pc := 30) C0 1 dX12_readSaid_30 rfl rfl ?_
          refine xw_if_ne (pc := 31) (tgt := 46) C0 (by omega) dX12_readSaid_31 rfl (fun b21 => ?_) (fun b21 => ?_)
          · exfalso
            omega
          · refine xw_iload_n (pc := 34) C0 2 dX12_readSaid_34 rfl rfl ?_
            refine xw_bipush (pc := 35) C0 dX12_readSaid_35 (by decide +kernel) ?_
            refine xw_icmp_le (pc := 37) (tgt := 46) C0 (by omega) (by omega) dX12_readSaid_37 rfl (fun b22 => ?_) (fun b22 => ?_)
            · refine xw_aload_n (pc := 46) C0 0 dX12_readSaid_46 rfl rfl ?_
              refine xw_getI (pc := 47) (f := 42) (z := μ 200 42) C0 kcX12 dX12_readSaid_47 (by decide +kernel) tv_1303 (xj_200 hKL) xk_0 rfl (rfl) (fun g23 k23 => ?_)
              refine xw_bipush (pc := 50) C0 dX12_readSaid_50 (by decide +kernel) ?_
              refine xw_icmp_eq (pc := 52) (tgt := 64) C0 (by omega) (by omega) dX12_readSaid_52 rfl (fun b24 => ?_) (fun b24 => ?_)
              · refine xw_aload_n (pc := 64) C0 0 dX12_readSaid_64 rfl rfl ?_
                refine xw_iconst (pc := 65) C0 dX12_readSaid_65 ?_
                refine xw_callVI (pc := 66) (μ := μ) (ci := 12) (rest := []) (As := [.int (Int32.ofInt 4)]) C0 hU hO sa_Tg hKL (xr_bad (l := l) (v := 4) hS hT (by decide +kernel) (by omega)) tv_1463 dX12_readSaid_66 tv_1460 tv_1462 tq_X12_bad tv_13 rfl yb_X12_bad (by decide +kernel) rfl rfl rfl (by decide +kernel) (Nat.le_of_ble_eq_true rfl) (xj_200 hKL) xk_0 (fun r25 m25 w25 => ?_)
                obtain ⟨rfl, W25, F25⟩ := w25
                have hI_m25 : m25 200 43 = 3 := (F25 200 43 rfl).trans hI
                have hR_m25 := hr_RF hR F25 (by decide +kernel)
                refine xw_iret C0 hA hr hlk rfl dX12_readSaid_69 ?_
                exact ⟨_, rfl, Or.inr ⟨_, hq_onM is9 (by omega), rfl, W25, hI_m25⟩, hR_m25, ((xw_F.rf (ML := [(200, 5, 13), (200, 41, 44), (218, 0, 239)])).tr F25 (fun j i h => xw_o_sub (by decide +kernel) j i h))⟩
              · refine xw_aload_n (pc := 55) C0 0 dX12_readSaid_55 rfl rfl ?_
                refine xw_getI (pc := 56) (f := 43) (z := μ 200 43) C0 kcX12 dX12_readSaid_56 (by decide +kernel) tv_1304 (xj_200 hKL) xk_0 rfl (rfl) (fun g26 k26 => ?_)
                refine xw_bipush (pc := 59) C0 dX12_readSaid_59 (by decide +kernel) ?_
                refine xw_icmp_ne (pc := 61) (tgt := 70) C0 (by omega) (by omega) dX12_readSaid_61 rfl (fun b27 => ?_) (fun b27 => ?_)
                · refine xw_aload_n (pc := 70) C0 0 dX12_readSaid_70 rfl rfl ?_
                  refine xw_dup (pc := 71) C0 dX12_readSaid_71 rfl ?_
                  refine xw_getI (pc := 72) (f := 42) (z := μ 200 42) C0 kcX12 dX12_readSaid_72 (by decide +kernel) tv_1303 (xj_200 hKL) xk_0 rfl (rfl) (fun g28 k28 => ?_)
                  refine xw_iconst (pc := 75) C0 dX12_readSaid_75 ?_
                  refine xw_iadd (pc := 76) C0 dX12_readSaid_76 ?_
                  refine xw_putI (pc := 77) (f := 42) C0 kcX12 dX12_readSaid_77 (by decide +kernel) tv_1303 rfl rfl (xj_200 hKL) xk_0 rfl (by omega) (by omega) ?_
                  refine xw_aload_n (pc := 80) C0 0 dX12_readSaid_80 rfl rfl ?_
                  refine xw_dup (pc := 81) C0 dX12_readSaid_81 rfl ?_
                  refine xw_getI (pc := 82) (f := 43) (z := μ 200 43) C0 kcX12 dX12_readSaid_82 (by decide +kernel) tv_1304 (xj_200 hKL) xk_0 rfl ((xw_un (by decide +kernel)).trans rfl) (fun g29 k29 => ?_)
                  refine xw_iconst (pc := 85) C0 dX12_readSaid_85 ?_
                  refine xw_iadd (pc := 86) C0 dX12_readSaid_86 ?_
                  refine xw_putI (pc := 87) (f := 43) C0 kcX12 dX12_readSaid_87 (by decide +kernel) tv_1304 rfl rfl (xj_200 hKL) xk_0 rfl (by omega) (by omega) ?_
                  refine xw_aload_n (pc := 90) C0 0 dX12_readSaid_90 rfl rfl ?_
                  have Ft1 : xw_F [(200, 42, 42), (200, 43, 43)] μ (xw_u (xw_u μ 200 42 ((μ 200 42) + 1)) 200 43 ((μ 200 43) + 1)) := (((xw_F.rf (ML := [(200, 42, 42), (200, 43, 43)])).u (show (200, 42, 42) ∈ _ by decide) ⟨by decide, by decide⟩).u (show (200, 43, 43) ∈ _ by decide) ⟨by decide, by decide⟩)
                  have vt1_200_43 : (xw_u (xw_u μ 200 42 ((μ 200 42) + 1)) 200 43 ((μ 200 43) + 1)) 200 43 = (μ 200 43) + 1 := xw_ug
                  have vt1_200_42 : (xw_u (xw_u μ 200 42 ((μ 200 42) + 1)) 200 43 ((μ 200 43) + 1)) 200 42 = (μ 200 42) + 1 := (xw_un (by decide +kernel)).trans xw_ug
                  generalize (xw_u (xw_u μ 200 42 ((μ 200 42) + 1)) 200 43 ((μ 200 43) + 1)) = t1 at Ft1 vt1_200_43 vt1_200_42 ⊢
                  have hS_t1 := hr_SF hS Ft1 (by decide +kernel)
                  have hT_t1 := hr_TF hT Ft1 (by decide +kernel)
                  have hM_t1 := hr_MF hM Ft1 (by decide +kernel)
                  have hC_t1 : t1 200 41 = ((cn : Nat) : Int) := (Ft1 200 41 rfl).trans hC
                  have hR_t1 := hr_RF hR Ft1 (by decide +kernel)
                  have hN_t1 : t1 200 42 = ((o + 1 : Nat) : Int) := by
                    rw [vt1_200_42]
                    omega
                  have hI_t1 : t1 200 43 = 4 := by
                    rw [vt1_200_43]
                    omega
                  refine xw_callVV (pc := 91) (μ := t1) (ci := 12) (rest := []) (As := []) C0 hU hO sa_Tg hKL (xr_go (l := l) (t := t) (n := n) (lim := lim) (pz := hp_x t n pz) hS_t1 (hT_t1.2.2.2.2.2.2 (by omega)) (hp_xb (lim := lim) hT_t1.1 (by omega))) tv_1425 dX12_readSaid_91 tv_1422 tv_1424 tq_X12_go tv_13 rfl yb_X12_go (by decide +kernel) rfl rfl rfl (by decide +kernel) (Nat.le_of_ble_eq_true rfl) (xj_200 hKL) xk_0 (fun m30 w30 => ?_)
                  obtain ⟨hT_m30, F30⟩ := w30
                  have hS_m30 := hr_SF hS_t1 F30 (by decide +kernel)
                  have hM_m30 := hr_MF hM_t1 F30 (by decide +kernel)
                  have hN_m30 : m30 200 42 = (((o + 1) : Nat) : Int) := (F30 200 42 rfl).trans hN_t1
                  have hI_m30 : m30 200 43 = 4 := (F30 200 43 rfl).trans hI_t1
                  have hC_m30 : m30 200 41 = ((cn : Nat) : Int) := (F30 200 41 rfl).trans hC_t1
                  have hR_m30 := hr_RF hR_t1 F30 (by decide +kernel)
                  refine xw_iconst (pc := 94) C0 dX12_readSaid_94 ?_
                  refine xw_istore_n (pc := 95) (L' := [(3, .int (Int32.ofInt 1)), (0, .ref (xw_ad al 200)), (1, .int (Int32.ofInt 0)), (2, .int (Int32.ofInt 18))]) C0 dX12_readSaid_95 rfl (by decide +kernel) rfl ?_
                  refine xw_iload_n (pc := 96) C0 2 dX12_readSaid_96 rfl rfl ?_
                  refine xw_if_eq (pc := 97) (tgt := 108) C0 (by omega) dX12_readSaid_97 rfl (fun b31 => ?_) (fun b31 => ?_)
                  · refine xw_iload_n (pc := 108) C0 3 dX12_readSaid_108 rfl rfl ?_
                    refine xw_bipush (pc := 109) C0 dX12_readSaid_109 (by decide +kernel) ?_
                    refine xw_icmp_ne (pc := 111) (tgt := 122) C0 (by omega) (by omega) dX12_readSaid_111 rfl (fun b32 => ?_) (fun b32 => ?_)
                    · refine xw_iload_n (pc := 122) C0 3 dX12_readSaid_122 rfl rfl ?_
                      refine xw_bipush (pc := 123) C0 dX12_readSaid_123 (by decide +kernel) ?_
                      refine xw_icmp_ge (pc := 125) (tgt := 146) C0 (by omega) (by omega) dX12_readSaid_125 rfl (fun b33 => ?_) (fun b33 => ?_)
                      · refine xw_iload_n (pc := 146) C0 3 dX12_readSaid_146 rfl rfl ?_
                        refine xw_bipush (pc := 147) C0 dX12_readSaid_147 (by decide +kernel) ?_
                        refine xw_icmp_ge (pc := 149) (tgt := 160) C0 (by omega) (by omega) dX12_readSaid_149 rfl (fun b34 => ?_) (fun b34 => ?_)
                        · refine xw_aload_n (pc := 160) C0 1 dX12_readSaid_160 rfl rfl ?_
                          refine xw_iload_n (pc := 161) C0 3 dX12_readSaid_161 rfl rfl ?_
                          refine xw_callVI (pc := 162) (μ := m30) (ci := 12) (rest := []) (As := [.int (Int32.ofInt 18)]) C0 hU hO sa_Tg hKL (xt_cp18 (l := l) (rd := rd) (nm := nm) (cn := cn) hS_m30 hT_m30 hM_m30 hK hN_m30 (by omega) hI_m30 hC_m30 (by omega) hR_m30) tv_1863 dX12_readSaid_162 tv_1860 tv_1862 tq_X12_readCompare tv_13 rfl yb_X12_readCompare (by decide +kernel) rfl rfl rfl (by decide +kernel) (Nat.le_of_ble_eq_true rfl) (xj_200 hKL) xk_0 (fun r35 m35 w35 => ?_)
                          obtain ⟨w35, hR_m35, F35⟩ := w35
                          rcases w35 with ⟨p35, o35, c35, eo35, rfl, hT_m35, hN_m35, ho35, hC_m35, hc35, ht35, hI_m35⟩ | ⟨e35, eo35, rfl, W35, hI_m35⟩
                          · have hS_m35 := hr_SF hS_m30 F35 (by decide +kernel)
                            have hM_m35 := hr_MF hM_m30 F35 (by decide +kernel)
                            refine xw_istore_n (pc := 165) (L' := [(3, .int (Int32.ofInt 1)), (0, .ref (xw_ad al 200)), (1, .int (Int32.ofInt 0)), (2, .int (Int32.ofInt 18))]) C0 dX12_readSaid_165 rfl (by decide +kernel) rfl ?_
                            refine xw_aload_n (pc := 166) C0 1 dX12_readSaid_166 rfl rfl ?_
                            refine xw_dup (pc := 167) C0 dX12_readSaid_167 rfl ?_
                            refine xw_getI (pc := 168) (f := 43) (z := m35 200 43) C0 kcX12 dX12_readSaid_168 (by decide +kernel) tv_1304 (xj_200 hKL) xk_0 rfl (rfl) (fun g36 k36 => ?_)
                            refine xw_iconst (pc := 171) C0 dX12_readSaid_171 ?_
                            refine xw_isub (pc := 172) C0 dX12_readSaid_172 ?_
                            refine xw_putI (pc := 173) (f := 43) C0 kcX12 dX12_readSaid_173 (by decide +kernel) tv_1304 rfl rfl (xj_200 hKL) xk_0 rfl (by omega) (by omega) ?_
                            refine xw_iload_n (pc := 176) C0 0 dX12_readSaid_176 rfl rfl ?_
                            refine xw_iret C0 hA hr hlk rfl dX12_readSaid_177 ?_
                            have e0 := hq_onO (t := t) (n := n) (lim := lim) (nm := nm) (m0 := (rd 0).toNat) (m1 := (rd 1).toNat) (d := 4) (p := pz) (o := o) is9 (by omega)
                            rw [hq_boC (by omega) (by omega)] at e0
                            rw [eo35] at e0
                            have Ft2 : xw_F [(200, 43, 43)] m35 (xw_u m35 200 43 ((m35 200 43) - 1)) := ((xw_F.rf (ML := [(200, 43, 43)])).u (show (200, 43, 43) ∈ _ by decide) ⟨by decide, by decide⟩)
                            have vt2_200_43 : (xw_u m35 200 43 ((m35 200 43) - 1)) 200 43 = (m35 200 43) - 1 := xw_ug
                            generalize (xw_u m35 200 43 ((m35 200 43) - 1)) = t2 at Ft2 vt2_200_43 ⊢
                            have tp9 : t2 200 44 = m35 200 44 := Ft2 200 44 rfl
                            exact ⟨_, rfl, Or.inl ⟨p35, o35, c35, e0, rfl, hr_TF hT_m35 Ft2 (by decide +kernel), (Ft2 200 42 rfl).trans hN_m35, by omega, (Ft2 200 41 rfl).trans hC_m35, by omega, by omega, by rw [vt2_200_43]; omega⟩, hr_RF hR_m35 Ft2 (by decide +kernel), (((((xw_F.rf (ML := [(200, 5, 13), (200, 41, 44), (218, 0, 239)])).tr Ft1 (fun j i h => xw_o_sub (by decide +kernel) j i h)).tr F30 (fun j i h => xw_o_sub (by decide +kernel) j i h)).tr F35 (fun j i h => xw_o_sub (by decide +kernel) j i h)).tr Ft2 (fun j i h => xw_o_sub (by decide +kernel) j i h))⟩
                          · refine xw_istore_n (pc := 165) (L' := [(3, .int (Int32.ofInt 0)), (0, .ref (xw_ad al 200)), (1, .int (Int32.ofInt 0)), (2, .int (Int32.ofInt 18))]) C0 dX12_readSaid_165 rfl (by decide +kernel) rfl ?_
                            refine xw_aload_n (pc := 166) C0 1 dX12_readSaid_166 rfl rfl ?_
                            refine xw_dup (pc := 167) C0 dX12_readSaid_167 rfl ?_
                            refine xw_getI (pc := 168) (f := 43) (z := m35 200 43) C0 kcX12 dX12_readSaid_168 (by decide +kernel) tv_1304 (xj_200 hKL) xk_0 rfl (rfl) (fun g37 k37 => ?_)
                            refine xw_iconst (pc := 171) C0 dX12_readSaid_171 ?_
                            refine xw_isub (pc := 172) C0 dX12_readSaid_172 ?_
                            refine xw_putI (pc := 173) (f := 43) C0 kcX12 dX12_readSaid_173 (by decide +kernel) tv_1304 rfl rfl (xj_200 hKL) xk_0 rfl (by omega) (by omega) ?_
                            refine xw_iload_n (pc := 176) C0 0 dX12_readSaid_176 rfl rfl ?_
                            refine xw_iret C0 hA hr hlk rfl dX12_readSaid_177 ?_
                            have e0 := hq_onO (t := t) (n := n) (lim := lim) (nm := nm) (m0 := (rd 0).toNat) (m1 := (rd 1).toNat) (d := 4) (p := pz) (o := o) is9 (by omega)
                            rw [hq_boC (by omega) (by omega)] at e0
                            rw [eo35] at e0
                            have Ft3 : xw_F [(200, 43, 43)] m35 (xw_u m35 200 43 ((m35 200 43) - 1)) := ((xw_F.rf (ML := [(200, 43, 43)])).u (show (200, 43, 43) ∈ _ by decide) ⟨by decide, by decide⟩)
                            have vt3_200_43 : (xw_u m35 200 43 ((m35 200 43) - 1)) 200 43 = (m35 200 43) - 1 := xw_ug
                            generalize (xw_u m35 200 43 ((m35 200 43) - 1)) = t3 at Ft3 vt3_200_43 ⊢
                            exact ⟨_, rfl, Or.inr ⟨_, e0, rfl, ⟨(Ft3 200 10 rfl).trans W35.1, (Ft3 200 11 rfl).trans W35.2⟩, by rw [vt3_200_43]; omega⟩, hr_RF hR_m35 Ft3 (by decide +kernel), (((((xw_F.rf (ML := [(200, 5, 13), (200, 41, 44), (218, 0, 239)])).tr Ft1 (fun j i h => xw_o_sub (by decide +kernel) j i h)).tr F30 (fun j i h => xw_o_sub (by decide +kernel) j i h)).tr F35 (fun j i h => xw_o_sub (by decide +kernel) j i h)).tr Ft3 (fun j i h => xw_o_sub (by decide +kernel) j i h))⟩
                        · exfalso
                          omega
                      · exfalso
                        omega
                    · exfalso
                      omega
                  · exfalso
                    omega
                · exfalso
                  omega
            · exfalso
              omega
        · rw [show hp_pm 19 = 19 from rfl] at hkj
          have is9 : ((hp_k t n lim pz = 2 ∧ (hp_kw (hp_w t n pz) = 1 ∨ 12 ≤ hp_kw (hp_w t n pz))) ∨ (hp_k t n lim pz = 4 ∧ hp_s t n pz = 40)) := by omega
          refine xw_iload_n (pc := 30) C0 1 dX12_readSaid_30 rfl rfl ?_
          refine xw_if_ne (pc := 31) (tgt := 46) C0 (by omega) dX12_readSaid_31 rfl (fun b21 => ?_) (fun b21 => ?_)
          · exfalso
            omega
          · refine xw_iload_n (pc := 34) C0 2 dX12_readSaid_34 rfl rfl ?_
            refine xw_bipush (pc := 35) C0 dX12_readSaid_35 (by decide +kernel) ?_
            refine xw_icmp_le (pc := 37) (tgt := 46) C0 (by omega) (by omega) dX12_readSaid_37 rfl (fun b22 => ?_) (fun b22 => ?_)
            · refine xw_aload_n (pc := 46) C0 0 dX12_readSaid_46 rfl rfl ?_
              refine xw_getI (pc := 47) (f := 42) (z := μ 200 42) C0 kcX12 dX12_readSaid_47 (by decide +kernel) tv_1303 (xj_200 hKL) xk_0 rfl (rfl) (fun g23 k23 => ?_)
              refine xw_bipush (pc := 50) C0 dX12_readSaid_50 (by decide +kernel) ?_
              refine xw_icmp_eq (pc := 52) (tgt := 64) C0 (by omega) (by omega) dX12_readSaid_52 rfl (fun b24 => ?_) (fun b24 => ?_)
              · refine xw_aload_n (pc := 64) C0 0 dX12_readSaid_64 rfl rfl ?_
                refine xw_iconst (pc := 65) C0 dX12_readSaid_65 ?_
                refine xw_callVI (pc := 66) (μ := μ) (ci := 12) (rest := []) (As := [.int (Int32.ofInt 4)]) C0 hU hO sa_Tg hKL (xr_bad (l := l) (v := 4) hS hT (by decide +kernel) (by omega)) tv_1463 dX12_readSaid_66 tv_1460 tv_1462 tq_X12_bad tv_13 rfl yb_X12_bad (by decide +kernel) rfl rfl rfl (by decide +kernel) (Nat.le_of_ble_eq_true rfl) (xj_200 hKL) xk_0 (fun r25 m25 w25 => ?_)
                obtain ⟨rfl, W25, F25⟩ := w25
                have hI_m25 : m25 200 43 = 3 := (F25 200 43 rfl).trans hI
                have hR_m25 := hr_RF hR F25 (by decide +kernel)
                refine xw_iret C0 hA hr hlk rfl dX12_readSaid_69 ?_
                exact ⟨_, rfl, Or.inr ⟨_, hq_onM is9 (by omega), rfl, W25, hI_m25⟩, hR_m25, ((xw_F.rf (ML := [(200, 5, 13), (200, 41, 44), (218, 0, 239)])).tr F25 (fun j i h => xw_o_sub (by decide +kernel) j i h))⟩
              · refine xw_aload_n (pc := 55) C0 0 dX12_readSaid_55 rfl rfl ?_
                refine xw_getI (pc := 56) (f := 43) (z := μ 200 43) C0 kcX12 dX12_readSaid_56 (by decide +kernel) tv_1304 (xj_200 hKL) xk_0 rfl (rfl) (fun g26 k26 => ?_)
                refine xw_bipush (pc := 59) C0 dX12_readSaid_59 (by decide +kernel) ?_
                refine xw_icmp_ne (pc := 61) (tgt := 70) C0 (by omega) (by omega) dX12_readSaid_61 rfl (fun b27 => ?_) (fun b27 => ?_)
                · refine xw_aload_n (pc := 70) C0 0 dX12_readSaid_70 rfl rfl ?_
                  refine xw_dup (pc := 71) C0 dX12_readSaid_71 rfl ?_
                  refine xw_getI (pc := 72) (f := 42) (z := μ 200 42) C0 kcX12 dX12_readSaid_72 (by decide +kernel) tv_1303 (xj_200 hKL) xk_0 rfl (rfl) (fun g28 k28 => ?_)
                  refine xw_iconst (pc := 75) C0 dX12_readSaid_75 ?_
                  refine xw_iadd (pc := 76) C0 dX12_readSaid_76 ?_
                  refine xw_putI (pc := 77) (f := 42) C0 kcX12 dX12_readSaid_77 (by decide +kernel) tv_1303 rfl rfl (xj_200 hKL) xk_0 rfl (by omega) (by omega) ?_
                  refine xw_aload_n (pc := 80) C0 0 dX12_readSaid_80 rfl rfl ?_
                  refine xw_dup (pc := 81) C0 dX12_readSaid_81 rfl ?_
                  refine xw_getI (pc := 82) (f := 43) (z := μ 200 43) C0 kcX12 dX12_readSaid_82 (by decide +kernel) tv_1304 (xj_200 hKL) xk_0 rfl ((xw_un (by decide +kernel)).trans rfl) (fun g29 k29 => ?_)
                  refine xw_iconst (pc := 85) C0 dX12_readSaid_85 ?_
                  refine xw_iadd (pc := 86) C0 dX12_readSaid_86 ?_
                  refine xw_putI (pc := 87) (f := 43) C0 kcX12 dX12_readSaid_87 (by decide +kernel) tv_1304 rfl rfl (xj_200 hKL) xk_0 rfl (by omega) (by omega) ?_
                  refine xw_aload_n (pc := 90) C0 0 dX12_readSaid_90 rfl rfl ?_
                  have Ft1 : xw_F [(200, 42, 42), (200, 43, 43)] μ (xw_u (xw_u μ 200 42 ((μ 200 42) + 1)) 200 43 ((μ 200 43) + 1)) := (((xw_F.rf (ML := [(200, 42, 42), (200, 43, 43)])).u (show (200, 42, 42) ∈ _ by decide) ⟨by decide, by decide⟩).u (show (200, 43, 43) ∈ _ by decide) ⟨by decide, by decide⟩)
                  have vt1_200_43 : (xw_u (xw_u μ 200 42 ((μ 200 42) + 1)) 200 43 ((μ 200 43) + 1)) 200 43 = (μ 200 43) + 1 := xw_ug
                  have vt1_200_42 : (xw_u (xw_u μ 200 42 ((μ 200 42) + 1)) 200 43 ((μ 200 43) + 1)) 200 42 = (μ 200 42) + 1 := (xw_un (by decide +kernel)).trans xw_ug
                  generalize (xw_u (xw_u μ 200 42 ((μ 200 42) + 1)) 200 43 ((μ 200 43) + 1)) = t1 at Ft1 vt1_200_43 vt1_200_42 ⊢
                  have hS_t1 := hr_SF hS Ft1 (by decide +kernel)
                  have hT_t1 := hr_TF hT Ft1 (by decide +kernel)
                  have hM_t1 := hr_MF hM Ft1 (by decide +kernel)
                  have hC_t1 : t1 200 41 = ((cn : Nat) : Int) := (Ft1 200 41 rfl).trans hC
                  have hR_t1 := hr_RF hR Ft1 (by decide +kernel)
                  have hN_t1 : t1 200 42 = ((o + 1 : Nat) : Int) := by
                    rw [vt1_200_42]
                    omega
                  have hI_t1 : t1 200 43 = 4 := by
                    rw [vt1_200_43]
                    omega
                  refine xw_callVV (pc := 91) (μ := t1) (ci := 12) (rest := []) (As := []) C0 hU hO sa_Tg hKL (xr_go (l := l) (t := t) (n := n) (lim := lim) (pz := hp_x t n pz) hS_t1 (hT_t1.2.2.2.2.2.2 (by omega)) (hp_xb (lim := lim) hT_t1.1 (by omega))) tv_1425 dX12_readSaid_91 tv_1422 tv_1424 tq_X12_go tv_13 rfl yb_X12_go (by decide +kernel) rfl rfl rfl (by decide +kernel) (Nat.le_of_ble_eq_true rfl) (xj_200 hKL) xk_0 (fun m30 w30 => ?_)
                  obtain ⟨hT_m30, F30⟩ := w30
                  have hS_m30 := hr_SF hS_t1 F30 (by decide +kernel)
                  have hM_m30 := hr_MF hM_t1 F30 (by decide +kernel)
                  have hN_m30 : m30 200 42 = (((o + 1) : Nat) : Int) := (F30 200 42 rfl).trans hN_t1
                  have hI_m30 : m30 200 43 = 4 := (F30 200 43 rfl).trans hI_t1
                  have hC_m30 : m30 200 41 = ((cn : Nat) : Int) := (F30 200 41 rfl).trans hC_t1
                  have hR_m30 := hr_RF hR_t1 F30 (by decide +kernel)
                  refine xw_iconst (pc := 94) C0 dX12_readSaid_94 ?_
                  refine xw_istore_n (pc := 95) (L' := [(3, .int (Int32.ofInt 1)), (0, .ref (xw_ad al 200)), (1, .int (Int32.ofInt 0)), (2, .int (Int32.ofInt 19))]) C0 dX12_readSaid_95 rfl (by decide +kernel) rfl ?_
                  refine xw_iload_n (pc := 96) C0 2 dX12_readSaid_96 rfl rfl ?_
                  refine xw_if_eq (pc := 97) (tgt := 108) C0 (by omega) dX12_readSaid_97 rfl (fun b31 => ?_) (fun b31 => ?_)
                  · refine xw_iload_n (pc := 108) C0 3 dX12_readSaid_108 rfl rfl ?_
                    refine xw_bipush (pc := 109) C0 dX12_readSaid_109 (by decide +kernel) ?_
                    refine xw_icmp_ne (pc := 111) (tgt := 122) C0 (by omega) (by omega) dX12_readSaid_111 rfl (fun b32 => ?_) (fun b32 => ?_)
                    · refine xw_iload_n (pc := 122) C0 3 dX12_readSaid_122 rfl rfl ?_
                      refine xw_bipush (pc := 123) C0 dX12_readSaid_123 (by decide +kernel) ?_
                      refine xw_icmp_ge (pc := 125) (tgt := 146) C0 (by omega) (by omega) dX12_readSaid_125 rfl (fun b33 => ?_) (fun b33 => ?_)
                      · refine xw_iload_n (pc := 146) C0 3 dX12_readSaid_146 rfl rfl ?_
                        refine xw_bipush (pc := 147) C0 dX12_readSaid_147 (by decide +kernel) ?_
                        refine xw_icmp_ge (pc := 149) (tgt := 160) C0 (by omega) (by omega) dX12_readSaid_149 rfl (fun b34 => ?_) (fun b34 => ?_)
                        · refine xw_aload_n (pc := 160) C0 1 dX12_readSaid_160 rfl rfl ?_
                          refine xw_iload_n (pc := 161) C0 3 dX12_readSaid_161 rfl rfl ?_
                          refine xw_callVI (pc := 162) (μ := m30) (ci := 12) (rest := []) (As := [.int (Int32.ofInt 19)]) C0 hU hO sa_Tg hKL (xt_cp19 (l := l) (rd := rd) (nm := nm) (cn := cn) hS_m30 hT_m30 hM_m30 hK hN_m30 (by omega) hI_m30 hC_m30 (by omega) hR_m30) tv_1863 dX12_readSaid_162 tv_1860 tv_1862 tq_X12_readCompare tv_13 rfl yb_X12_readCompare (by decide +kernel) rfl rfl rfl (by decide +kernel) (Nat.le_of_ble_eq_true rfl) (xj_200 hKL) xk_0 (fun r35 m35 w35 => ?_)
                          obtain ⟨w35, hR_m35, F35⟩ := w35
                          rcases w35 with ⟨p35, o35, c35, eo35, rfl, hT_m35, hN_m35, ho35, hC_m35, hc35, ht35, hI_m35⟩ | ⟨e35, eo35, rfl, W35, hI_m35⟩
                          · have hS_m35 := hr_SF hS_m30 F35 (by decide +kernel)
                            have hM_m35 := hr_MF hM_m30 F35 (by decide +kernel)
                            refine xw_istore_n (pc := 165) (L' := [(3, .int (Int32.ofInt 1)), (0, .ref (xw_ad al 200)), (1, .int (Int32.ofInt 0)), (2, .int (Int32.ofInt 19))]) C0 dX12_readSaid_165 rfl (by decide +kernel) rfl ?_
                            refine xw_aload_n (pc := 166) C0 1 dX12_readSaid_166 rfl rfl ?_
                            refine xw_dup (pc := 167) C0 dX12_readSaid_167 rfl ?_
                            refine xw_getI (pc := 168) (f := 43) (z := m35 200 43) C0 kcX12 dX12_readSaid_168 (by decide +kernel) tv_1304 (xj_200 hKL) xk_0 rfl (rfl) (fun g36 k36 => ?_)
                            refine xw_iconst (pc := 171) C0 dX12_readSaid_171 ?_
                            refine xw_isub (pc := 172) C0 dX12_readSaid_172 ?_
                            refine xw_putI (pc := 173) (f := 43) C0 kcX12 dX12_readSaid_173 (by decide +kernel) tv_1304 rfl rfl (xj_200 hKL) xk_0 rfl (by omega) (by omega) ?_
                            refine xw_iload_n (pc := 176) C0 0 dX12_readSaid_176 rfl rfl ?_
                            refine xw_iret C0 hA hr hlk rfl dX12_readSaid_177 ?_
                            have e0 := hq_onO (t := t) (n := n) (lim := lim) (nm := nm) (m0 := (rd 0).toNat) (m1 := (rd 1).toNat) (d := 4) (p := pz) (o := o) is9 (by omega)
                            rw [hq_boC (by omega) (by omega)] at e0
                            rw [eo35] at e0
                            have Ft2 : xw_F [(200, 43, 43)] m35 (xw_u m35 200 43 ((m35 200 43) - 1)) := ((xw_F.rf (ML := [(200, 43, 43)])).u (show (200, 43, 43) ∈ _ by decide) ⟨by decide, by decide⟩)
                            have vt2_200_43 : (xw_u m35 200 43 ((m35 200 43) - 1)) 200 43 = (m35 200 43) - 1 := xw_ug
                            generalize (xw_u m35 200 43 ((m35 200 43) - 1)) = t2 at Ft2 vt2_200_43 ⊢
                            have tp9 : t2 200 44 = m35 200 44 := Ft2 200 44 rfl
                            exact ⟨_, rfl, Or.inl ⟨p35, o35, c35, e0, rfl, hr_TF hT_m35 Ft2 (by decide +kernel), (Ft2 200 42 rfl).trans hN_m35, by omega, (Ft2 200 41 rfl).trans hC_m35, by omega, by omega, by rw [vt2_200_43]; omega⟩, hr_RF hR_m35 Ft2 (by decide +kernel), (((((xw_F.rf (ML := [(200, 5, 13), (200, 41, 44), (218, 0, 239)])).tr Ft1 (fun j i h => xw_o_sub (by decide +kernel) j i h)).tr F30 (fun j i h => xw_o_sub (by decide +kernel) j i h)).tr F35 (fun j i h => xw_o_sub (by decide +kernel) j i h)).tr Ft2 (fun j i h => xw_o_sub (by decide +kernel) j i h))⟩
                          · refine xw_istore_n (pc := 165) (L' := [(3, .int (Int32.ofInt 0)), (0, .ref (xw_ad al 200)), (1, .int (Int32.ofInt 0)), (2, .int (Int32.ofInt 19))]) C0 dX12_readSaid_165 rfl (by decide +kernel) rfl ?_
                            refine xw_aload_n (pc := 166) C0 1 dX12_readSaid_166 rfl rfl ?_
                            refine xw_dup (pc := 167) C0 dX12_readSaid_167 rfl ?_
                            refine xw_getI (pc := 168) (f := 43) (z := m35 200 43) C0 kcX12 dX12_readSaid_168 (by decide +kernel) tv_1304 (xj_200 hKL) xk_0 rfl (rfl) (fun g37 k37 => ?_)
                            refine xw_iconst (pc := 171) C0 dX12_readSaid_171 ?_
                            refine xw_isub (pc := 172) C0 dX12_readSaid_172 ?_
                            refine xw_putI (pc := 173) (f := 43) C0 kcX12 dX12_readSaid_173 (by decide +kernel) tv_1304 rfl rfl (xj_200 hKL) xk_0 rfl (by omega) (by omega) ?_
                            refine xw_iload_n (pc := 176) C0 0 dX12_readSaid_176 rfl rfl ?_
                            refine xw_iret C0 hA hr hlk rfl dX12_readSaid_177 ?_
                            have e0 := hq_onO (t := t) (n := n) (lim := lim) (nm := nm) (m0 := (rd 0).toNat) (m1 := (rd 1).toNat) (d := 4) (p := pz) (o := o) is9 (by omega)
                            rw [hq_boC (by omega) (by omega)] at e0
                            rw [eo35] at e0
                            have Ft3 : xw_F [(200, 43, 43)] m35 (xw_u m35 200 43 ((m35 200 43) - 1)) := ((xw_F.rf (ML := [(200, 43, 43)])).u (show (200, 43, 43) ∈ _ by decide) ⟨by decide, by decide⟩)
                            have vt3_200_43 : (xw_u m35 200 43 ((m35 200 43) - 1)) 200 43 = (m35 200 43) - 1 := xw_ug
                            generalize (xw_u m35 200 43 ((m35 200 43) - 1)) = t3 at Ft3 vt3_200_43 ⊢
                            exact ⟨_, rfl, Or.inr ⟨_, e0, rfl, ⟨(Ft3 200 10 rfl).trans W35.1, (Ft3 200 11 rfl).trans W35.2⟩, by rw [vt3_200_43]; omega⟩, hr_RF hR_m35 Ft3 (by decide +kernel), (((((xw_F.rf (ML := [(200, 5, 13), (200, 41, 44), (218, 0, 239)])).tr Ft1 (fun j i h => xw_o_sub (by decide +kernel) j i h)).tr F30 (fun j i h => xw_o_sub (by decide +kernel) j i h)).tr F35 (fun j i h => xw_o_sub (by decide +kernel) j i h)).tr Ft3 (fun j i h => xw_o_sub (by decide +kernel) j i h))⟩
                        · exfalso
                          omega
                      · exfalso
                        omega
                    · exfalso
                      omega
                  · exfalso
                    omega
                · exfalso
                  omega
            · exfalso
              omega)
