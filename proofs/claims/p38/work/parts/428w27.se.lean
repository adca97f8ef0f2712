set_option maxRecDepth 20000 in
set_option maxHeartbeats 20000000 in
theorem xt_sd0 {l : Launch} {t rd nm : Nat → Int} {n lim pz cn o : Nat} {μ : xw_M} (hS : hr_S t n lim μ) (hT : hr_T t n lim pz μ) (hM : hr_M rd nm μ) (hK : hp_ok rd nm) (hN : μ 200 42 = ((o : Nat) : Int)) (ho : o ≤ 20) (hI : μ 200 43 = 8) (hC : μ 200 41 = (cn : Int)) (hc : cn ≤ 2 * o) (hR : hr_R μ) : xw_MetI l vwCl sa_Ts tb_KT0 tc_KL yX12_readSaid cX12_readSaid 4 (some .boolean) 7 232 (fun ad => [.ref (ad 200)]) μ (fun r μ' => hr_Q t n lim ((hq_on t n lim nm (rd 0).toNat (rd 1).toNat 0) pz o) cn o 8 r μ' ∧ hr_R μ' ∧ xw_F [(200, 5, 13), (200, 41, 44), (218, 0, 239)] μ μ') :=
  xw_of (by decide +kernel) (fun _ => Nat.le_of_ble_eq_true rfl) (fun p e s m args below meth c D dA A al w0 sz C0 hU hO hKL hr hlk hA => by
    have hp9_μ := hT.1
    have c2_μ := hT.2.1
    have hkb_μ := hp_kb t n lim pz
    have hkw_μ := hp_kwb (hp_w t n pz)
    have k0 := hK.1
    have k1 := hK.2.1
    refine xw_aload_n (pc := 0) C0 0 dX12_readSaid_0 rfl rfl ?_
    refine xw_bipush (pc := 1) C0 dX12_readSaid_1 (by decide +kernel) ?_
    refine xw_callVI (pc := 3) (μ := μ) (ci := 12) (rest := []) (As := [.int (Int32.ofInt 40)]) C0 hU hO sa_Tg hKL (xr_isSign (l := l) (v := 40) hS hT (by decide +kernel)) tv_1505 dX12_readSaid_3 tv_1502 tv_1504 tq_X12_isSign tv_13 rfl yb_X12_isSign (by decide +kernel) rfl rfl rfl (by decide +kernel) (Nat.le_of_ble_eq_true rfl) (xj_200 hKL) xk_0 (fun r1 m1 w1 => ?_)
    obtain ⟨rfl, w1⟩ := w1
    rcases w1 with ⟨w1, rfl⟩ | ⟨w1, rfl⟩
    · refine xw_istore_n (pc := 6) (L' := [(1, .int (Int32.ofInt 1)), (0, .ref (xw_ad al 200))]) C0 dX12_readSaid_6 rfl (by decide +kernel) rfl ?_
      refine xw_bipush (pc := 7) C0 dX12_readSaid_7 (by decide +kernel) ?_
      refine xw_istore_n (pc := 9) (L' := [(2, .int (Int32.ofInt 11)), (1, .int (Int32.ofInt 1)), (0, .ref (xw_ad al 200))]) C0 dX12_readSaid_9 rfl (by decide +kernel) rfl ?_
      refine xw_pk [2, 1, 0] (L' := [(0, .ref (xw_ad al 200)), (1, .int (Int32.ofInt 1)), (2, .int (Int32.ofInt ((11 : Nat) : Int)))]) rfl ?_
      refine xt_wL0 (op9 := 1) (μ := μ) C0 hU hO hKL hS hT (fun j hj => ?_) 21 11 (by omega) (by decide +kernel) (by decide +kernel) (fun c8 h8 h9 => by omega)
      rcases hj with hj | hj
      · have e20 : j = 20 := hj.1
        have q11 := hj.2 11 (by decide +kernel) (by decide +kernel)
        rw [show hp_pm 11 = 12 from rfl] at q11
        have q12 := hj.2 12 (by decide +kernel) (by decide +kernel)
        rw [show hp_pm 12 = 13 from rfl] at q12
        have q13 := hj.2 13 (by decide +kernel) (by decide +kernel)
        rw [show hp_pm 13 = 14 from rfl] at q13
        have q14 := hj.2 14 (by decide +kernel) (by decide +kernel)
        rw [show hp_pm 14 = 15 from rfl] at q14
        have q15 := hj.2 15 (by decide +kernel) (by decide +kernel)
        rw [show hp_pm 15 = 16 from rfl] at q15
        have q16 := hj.2 16 (by decide +kernel) (by decide +kernel)
        rw [show hp_pm 16 = 1 from rfl] at q16
        have q17 := hj.2 17 (by decide +kernel) (by decide +kernel)
        rw [show hp_pm 17 = 17 from rfl] at q17
        have q18 := hj.2 18 (by decide +kernel) (by decide +kernel)
        rw [show hp_pm 18 = 18 from rfl] at q18
        have q19 := hj.2 19 (by decide +kernel) (by decide +kernel)
        rw [show hp_pm 19 = 19 from rfl] at q19
        have is9 : ((hp_k t n lim pz = 2 ∧ (hp_kw (hp_w t n pz) = 1 ∨ 12 ≤ hp_kw (hp_w t n pz))) ∨ (hp_k t n lim pz = 4 ∧ hp_s t n pz = 40)) := by omega
        subst e20
        refine xw_iload_n (pc := 30) C0 1 dX12_readSaid_30 rfl rfl ?_
        refine xw_if_ne (pc := 31) (tgt := 46) C0 (by omega) dX12_readSaid_31 rfl (fun b21 => ?_) (fun b21 => ?_)
        · refine xw_aload_n (pc := 46) C0 0 dX12_readSaid_46 rfl rfl ?_
          refine xw_getI (pc := 47) (f := 42) (z := μ 200 42) C0 kcX12 dX12_readSaid_47 (by decide +kernel) tv_1303 (xj_200 hKL) xk_0 rfl (rfl) (fun g22 k22 => ?_)
          refine xw_bipush (pc := 50) C0 dX12_readSaid_50 (by decide +kernel) ?_
          refine xw_icmp_eq (pc := 52) (tgt := 64) C0 (by omega) (by omega) dX12_readSaid_52 rfl (fun b23 => ?_) (fun b23 => ?_)
          · refine xw_aload_n (pc := 64) C0 0 dX12_readSaid_64 rfl rfl ?_
            refine xw_iconst (pc := 65) C0 dX12_readSaid_65 ?_
            refine xw_callVI (pc := 66) (μ := μ) (ci := 12) (rest := []) (As := [.int (Int32.ofInt 4)]) C0 hU hO sa_Tg hKL (xr_bad (l := l) (v := 4) hS hT (by decide +kernel) (by omega)) tv_1463 dX12_readSaid_66 tv_1460 tv_1462 tq_X12_bad tv_13 rfl yb_X12_bad (by decide +kernel) rfl rfl rfl (by decide +kernel) (Nat.le_of_ble_eq_true rfl) (xj_200 hKL) xk_0 (fun r24 m24 w24 => ?_)
            obtain ⟨rfl, W24, F24⟩ := w24
            have hI_m24 : m24 200 43 = 8 := (F24 200 43 rfl).trans hI
            have hR_m24 := hr_RF hR F24 (by decide +kernel)
            refine xw_iret C0 hA hr hlk rfl dX12_readSaid_69 ?_
            exact ⟨_, rfl, Or.inr ⟨_, hq_onM is9 (by omega), rfl, W24, hI_m24⟩, hR_m24, ((xw_F.rf (ML := [(200, 5, 13), (200, 41, 44), (218, 0, 239)])).tr F24 (fun j i h => xw_o_sub (by decide +kernel) j i h))⟩
          · refine xw_aload_n (pc := 55) C0 0 dX12_readSaid_55 rfl rfl ?_
            refine xw_getI (pc := 56) (f := 43) (z := μ 200 43) C0 kcX12 dX12_readSaid_56 (by decide +kernel) tv_1304 (xj_200 hKL) xk_0 rfl (rfl) (fun g25 k25 => ?_)
            refine xw_bipush (pc := 59) C0 dX12_readSaid_59 (by decide +kernel) ?_
            refine xw_icmp_ne (pc := 61) (tgt := 70) C0 (by omega) (by omega) dX12_readSaid_61 rfl (fun b26 => ?_) (fun b26 => ?_)
            · exfalso
              omega
            · refine xw_aload_n (pc := 64) C0 0 dX12_readSaid_64 rfl rfl ?_
              refine xw_iconst (pc := 65) C0 dX12_readSaid_65 ?_
              refine xw_callVI (pc := 66) (μ := μ) (ci := 12) (rest := []) (As := [.int (Int32.ofInt 4)]) C0 hU hO sa_Tg hKL (xr_bad (l := l) (v := 4) hS hT (by decide +kernel) (by omega)) tv_1463 dX12_readSaid_66 tv_1460 tv_1462 tq_X12_bad tv_13 rfl yb_X12_bad (by decide +kernel) rfl rfl rfl (by decide +kernel) (Nat.le_of_ble_eq_true rfl) (xj_200 hKL) xk_0 (fun r27 m27 w27 => ?_)
              obtain ⟨rfl, W27, F27⟩ := w27
              have hI_m27 : m27 200 43 = 8 := (F27 200 43 rfl).trans hI
              have hR_m27 := hr_RF hR F27 (by decide +kernel)
              refine xw_iret C0 hA hr hlk rfl dX12_readSaid_69 ?_
              exact ⟨_, rfl, Or.inr ⟨_, hq_onM is9 (by omega), rfl, W27, hI_m27⟩, hR_m27, ((xw_F.rf (ML := [(200, 5, 13), (200, 41, 44), (218, 0, 239)])).tr F27 (fun j i h => xw_o_sub (by decide +kernel) j i h))⟩
        · exfalso
          omega
      · exfalso
        omega
    · refine xw_istore_n (pc := 6) (L' := [(1, .int (Int32.ofInt 0)), (0, .ref (xw_ad al 200))]) C0 dX12_readSaid_6 rfl (by decide +kernel) rfl ?_
      refine xw_bipush (pc := 7) C0 dX12_readSaid_7 (by decide +kernel) ?_
      refine xw_istore_n (pc := 9) (L' := [(2, .int (Int32.ofInt 11)), (1, .int (Int32.ofInt 0)), (0, .ref (xw_ad al 200))]) C0 dX12_readSaid_9 rfl (by decide +kernel) rfl ?_
      refine xw_pk [2, 1, 0] (L' := [(0, .ref (xw_ad al 200)), (1, .int (Int32.ofInt 0)), (2, .int (Int32.ofInt ((11 : Nat) : Int)))]) rfl ?_
      refine xt_wL0 (op9 := 0) (μ := μ) C0 hU hO hKL hS hT (fun j hj => ?_) 21 11 (by omega) (by decide +kernel) (by decide +kernel) (fun c8 h8 h9 => by omega)
      rcases hj with hj | hj
      · have e20 : j = 20 := hj.1
        have q11 := hj.2 11 (by decide +kernel) (by decide +kernel)
        rw [show hp_pm 11 = 12 from rfl] at q11
        have q12 := hj.2 12 (by decide +kernel) (by decide +kernel)
        rw [show hp_pm 12 = 13 from rfl] at q12
        have q13 := hj.2 13 (by decide +kernel) (by decide +kernel)
        rw [show hp_pm 13 = 14 from rfl] at q13
        have q14 := hj.2 14 (by decide +kernel) (by decide +kernel)
        rw [show hp_pm 14 = 15 from rfl] at q14
        have q15 := hj.2 15 (by decide +kernel) (by decide +kernel)
        rw [show hp_pm 15 = 16 from rfl] at q15
        have q16 := hj.2 16 (by decide +kernel) (by decide +kernel)
        rw [show hp_pm 16 = 1 from rfl] at q16
        have q17 := hj.2 17 (by decide +kernel) (by decide +kernel)
        rw [show hp_pm 17 = 17 from rfl] at q17
        have q18 := hj.2 18 (by decide +kernel) (by decide +kernel)
        rw [show hp_pm 18 = 18 from rfl] at q18
        have q19 := hj.2 19 (by decide +kernel) (by decide +kernel)
        rw [show hp_pm 19 = 19 from rfl] at q19
        have is9 : ¬ ((hp_k t n lim pz = 2 ∧ (hp_kw (hp_w t n pz) = 1 ∨ 12 ≤ hp_kw (hp_w t n pz))) ∨ (hp_k t n lim pz = 4 ∧ hp_s t n pz = 40)) := by omega
        subst e20
        refine xw_iload_n (pc := 30) C0 1 dX12_readSaid_30 rfl rfl ?_
        refine xw_if_ne (pc := 31) (tgt := 46) C0 (by omega) dX12_readSaid_31 rfl (fun b21 => ?_) (fun b21 => ?_)
        · exfalso
          omega
        · refine xw_iload_n (pc := 34) C0 2 dX12_readSaid_34 rfl rfl ?_
          refine xw_bipush (pc := 35) C0 dX12_readSaid_35 (by decide +kernel) ?_
          refine xw_icmp_le (pc := 37) (tgt := 46) C0 (by omega) (by omega) dX12_readSaid_37 rfl (fun b22 => ?_) (fun b22 => ?_)
          · exfalso
            omega
          · refine xw_aload_n (pc := 40) C0 0 dX12_readSaid_40 rfl rfl ?_
            refine xw_iconst (pc := 41) C0 dX12_readSaid_41 ?_
            refine xw_callVI (pc := 42) (μ := μ) (ci := 12) (rest := []) (As := [.int (Int32.ofInt 1)]) C0 hU hO sa_Tg hKL (xr_bad (l := l) (v := 1) hS hT (by decide +kernel) (by omega)) tv_1463 dX12_readSaid_42 tv_1460 tv_1462 tq_X12_bad tv_13 rfl yb_X12_bad (by decide +kernel) rfl rfl rfl (by decide +kernel) (Nat.le_of_ble_eq_true rfl) (xj_200 hKL) xk_0 (fun r23 m23 w23 => ?_)
            obtain ⟨rfl, W23, F23⟩ := w23
            have hI_m23 : m23 200 43 = 8 := (F23 200 43 rfl).trans hI
            have hR_m23 := hr_RF hR F23 (by decide +kernel)
            refine xw_iret C0 hA hr hlk rfl dX12_readSaid_45 ?_
            exact ⟨_, rfl, Or.inr ⟨_, hq_onN is9, rfl, W23, hI_m23⟩, hR_m23, ((xw_F.rf (ML := [(200, 5, 13), (200, 41, 44), (218, 0, 239)])).tr F23 (fun j i h => xw_o_sub (by decide +kernel) j i h))⟩
      · obtain ⟨hj, hk2, hkj⟩ := hj
        rcases (show j = 11 ∨ j = 12 ∨ j = 13 ∨ j = 14 ∨ j = 15 ∨ j = 16 ∨ j = 17 ∨ j = 18 ∨ j = 19 by omega) with rfl | rfl | rfl | rfl | rfl | rfl | rfl | rfl | rfl
        · rw [show hp_pm 11 = 12 from rfl] at hkj
          have is9 : ((hp_k t n lim pz = 2 ∧ (hp_kw (hp_w t n pz) = 1 ∨ 12 ≤ hp_kw (hp_w t n pz))) ∨ (hp_k t n lim pz = 4 ∧ hp_s t n pz = 40)) := by omega
          refine xw_iload_n (pc := 30) C0 1 dX12_readSaid_30 rfl rfl ?_
          refine xw_if_ne (pc := 31) (tgt := 46) C0 (by omega) dX12_readSaid_31 rfl (fun b21 => ?_) (fun b21 => ?_)
          · exfalso
            omega
          · refine xw_iload_n (pc := 34) C0 2 dX12_readSaid_34 rfl rfl ?_
            refine xw_bipush (pc := 35) C0 dX12_readSaid_35 (by decide +kernel) ?_
            refine xw_icmp_le (pc := 37) (tgt := 46) C0 (by omega) (by omega) dX12_readSaid_37 rfl (fun b22 => ?_) (fun b22 => ?_)
            · refine xw_aload_n (pc := 46) C0 0 dX12_readSaid_46 rfl rfl ?_
              refine xw_getI (pc := 47) (f := 42) (z := μ 200 42) C0 kcX12 dX12_readSaid_47 (by decide +kernel) tv_1303 (xj_200 hKL) xk_0 rfl (rfl) (fun g23 k23 => ?_)
              refine xw_bipush (pc := 50) C0 dX12_readSaid_50 (by decide +kernel) ?_
              refine xw_icmp_eq (pc := 52) (tgt := 64) C0 (by omega) (by omega) dX12_readSaid_52 rfl (fun b24 => ?_) (fun b24 => ?_)
              · refine xw_aload_n (pc := 64) C0 0 dX12_readSaid_64 rfl rfl ?_
                refine xw_iconst (pc := 65) C0 dX12_readSaid_65 ?_
                refine xw_callVI (pc := 66) (μ := μ) (ci := 12) (rest := []) (As := [.int (Int32.ofInt 4)]) C0 hU hO sa_Tg hKL (xr_bad (l := l) (v := 4) hS hT (by decide +kernel) (by omega)) tv_1463 dX12_readSaid_66 tv_1460 tv_1462 tq_X12_bad tv_13 rfl yb_X12_bad (by decide +kernel) rfl rfl rfl (by decide +kernel) (Nat.le_of_ble_eq_true rfl) (xj_200 hKL) xk_0 (fun r25 m25 w25 => ?_)
                obtain ⟨rfl, W25, F25⟩ := w25
                have hI_m25 : m25 200 43 = 8 := (F25 200 43 rfl).trans hI
                have hR_m25 := hr_RF hR F25 (by decide +kernel)
                refine xw_iret C0 hA hr hlk rfl dX12_readSaid_69 ?_
                exact ⟨_, rfl, Or.inr ⟨_, hq_onM is9 (by omega), rfl, W25, hI_m25⟩, hR_m25, ((xw_F.rf (ML := [(200, 5, 13), (200, 41, 44), (218, 0, 239)])).tr F25 (fun j i h => xw_o_sub (by decide +kernel) j i h))⟩
              · refine xw_aload_n (pc := 55) C0 0 dX12_readSaid_55 rfl rfl ?_
                refine xw_getI (pc := 56) (f := 43) (z := μ 200 43) C0 kcX12 dX12_readSaid_56 (by decide +kernel) tv_1304 (xj_200 hKL) xk_0 rfl (rfl) (fun g26 k26 => ?_)
                refine xw_bipush (pc := 59) C0 dX12_readSaid_59 (by decide +kernel) ?_
                refine xw_icmp_ne (pc := 61) (tgt := 70) C0 (by omega) (by omega) dX12_readSaid_61 rfl (fun b27 => ?_) (fun b27 => ?_)
                · exfalso
                  omega
                · refine xw_aload_n (pc := 64) C0 0 dX12_readSaid_64 rfl rfl ?_
                  refine xw_iconst (pc := 65) C0 dX12_readSaid_65 ?_
                  refine xw_callVI (pc := 66) (μ := μ) (ci := 12) (rest := []) (As := [.int (Int32.ofInt 4)]) C0 hU hO sa_Tg hKL (xr_bad (l := l) (v := 4) hS hT (by decide +kernel) (by omega)) tv_1463 dX12_readSaid_66 tv_1460 tv_1462 tq_X12_bad tv_13 rfl yb_X12_bad (by decide +kernel) rfl rfl rfl (by decide +kernel) (Nat.le_of_ble_eq_true rfl) (xj_200 hKL) xk_0 (fun r28 m28 w28 => ?_)
                  obtain ⟨rfl, W28, F28⟩ := w28
                  have hI_m28 : m28 200 43 = 8 := (F28 200 43 rfl).trans hI
                  have hR_m28 := hr_RF hR F28 (by decide +kernel)
                  refine xw_iret C0 hA hr hlk rfl dX12_readSaid_69 ?_
                  exact ⟨_, rfl, Or.inr ⟨_, hq_onM is9 (by omega), rfl, W28, hI_m28⟩, hR_m28, ((xw_F.rf (ML := [(200, 5, 13), (200, 41, 44), (218, 0, 239)])).tr F28 (fun j i h => xw_o_sub (by decide +kernel) j i h))⟩
            · exfalso
              omega
        · rw [show hp_pm 12 = 13 from rfl] at hkj
          have is9 : ((hp_k t n lim pz = 2 ∧ (hp_kw (hp_w t n pz) = 1 ∨ 12 ≤ hp_kw (hp_w t n pz))) ∨ (hp_k t n lim pz = 4 ∧ hp_s t n pz = 40)) := by omega
          refine xw_iload_n (pc := 30) C0 1 dX12_readSaid_30 rfl rfl ?_
          refine xw_if_ne (pc := 31) (tgt := 46) C0 (by omega) dX12_readSaid_31 rfl (fun b21 => ?_) (fun b21 => ?_)
          · exfalso
            omega
          · refine xw_iload_n (pc := 34) C0 2 dX12_readSaid_34 rfl rfl ?_
            refine xw_bipush (pc := 35) C0 dX12_readSaid_35 (by decide +kernel) ?_
            refine xw_icmp_le (pc := 37) (tgt := 46) C0 (by omega) (by omega) dX12_readSaid_37 rfl (fun b22 => ?_) (fun b22 => ?_)
            · refine xw_aload_n (pc := 46) C0 0 dX12_readSaid_46 rfl rfl ?_
              refine xw_getI (pc := 47) (f := 42) (z := μ 200 42) C0 kcX12 dX12_readSaid_47 (by decide +kernel) tv_1303 (xj_200 hKL) xk_0 rfl (rfl) (fun g23 k23 => ?_)
              refine xw_bipush (pc := 50) C0 dX12_readSaid_50 (by decide +kernel) ?_
              refine xw_icmp_eq (pc := 52) (tgt := 64) C0 (by omega) (by omega) dX12_readSaid_52 rfl (fun b24 => ?_) (fun b24 => ?_)
              · refine xw_aload_n (pc := 64) C0 0 dX12_readSaid_64 rfl rfl ?_
                refine xw_iconst (pc := 65) C0 dX12_readSaid_65 ?_
                refine xw_callVI (pc := 66) (μ := μ) (ci := 12) (rest := []) (As := [.int (Int32.ofInt 4)]) C0 hU hO sa_Tg hKL (xr_bad (l := l) (v := 4) hS hT (by decide +kernel) (by omega)) tv_1463 dX12_readSaid_66 tv_1460 tv_1462 tq_X12_bad tv_13 rfl yb_X12_bad (by decide +kernel) rfl rfl rfl (by decide +kernel) (Nat.le_of_ble_eq_true rfl) (xj_200 hKL) xk_0 (fun r25 m25 w25 => ?_)
                obtain ⟨rfl, W25, F25⟩ := w25
                have hI_m25 : m25 200 43 = 8 := (F25 200 43 rfl).trans hI
                have hR_m25 := hr_RF hR F25 (by decide +kernel)
                refine xw_iret C0 hA hr hlk rfl dX12_readSaid_69 ?_
                exact ⟨_, rfl, Or.inr ⟨_, hq_onM is9 (by omega), rfl, W25, hI_m25⟩, hR_m25, ((xw_F.rf (ML := [(200, 5, 13), (200, 41, 44), (218, 0, 239)])).tr F25 (fun j i h => xw_o_sub (by decide +kernel) j i h))⟩
              · refine xw_aload_n (pc := 55) C0 0 dX12_readSaid_55 rfl rfl ?_
                refine xw_getI (pc := 56) (f := 43) (z := μ 200 43) C0 kcX12 dX12_readSaid_56 (by decide +kernel) tv_1304 (xj_200 hKL) xk_0 rfl (rfl) (fun g26 k26 => ?_)
                refine xw_bipush (pc := 59) C0 dX12_readSaid_59 (by decide +kernel) ?_
                refine xw_icmp_ne (pc := 61) (tgt := 70) C0 (by omega) (by omega) dX12_readSaid_61 rfl (fun b27 => ?_) (fun b27 => ?_)
                · exfalso
                  omega
                · refine xw_aload_n (pc := 64) C0 0 dX12_readSaid_64 rfl rfl ?_
                  refine xw_iconst (pc := 65) C0 dX12_readSaid_65 ?_
                  refine xw_callVI (pc := 66) (μ := μ) (ci := 12) (rest := []) (As := [.int (Int32.ofInt 4)]) C0 hU hO sa_Tg hKL (xr_bad (l := l) (v := 4) hS hT (by decide +kernel) (by omega)) tv_1463 dX12_readSaid_66 tv_1460 tv_1462 tq_X12_bad tv_13 rfl yb_X12_bad (by decide +kernel) rfl rfl rfl (by decide +kernel) (Nat.le_of_ble_eq_true rfl) (xj_200 hKL) xk_0 (fun r28 m28 w28 => ?_)
                  obtain ⟨rfl, W28, F28⟩ := w28
                  have hI_m28 : m28 200 43 = 8 := (F28 200 43 rfl).trans hI
                  have hR_m28 := hr_RF hR F28 (by decide +kernel)
                  refine xw_iret C0 hA hr hlk rfl dX12_readSaid_69 ?_
                  exact ⟨_, rfl, Or.inr ⟨_, hq_onM is9 (by omega), rfl, W28, hI_m28⟩, hR_m28, ((xw_F.rf (ML := [(200, 5, 13), (200, 41, 44), (218, 0, 239)])).tr F28 (fun j i h => xw_o_sub (by decide +kernel) j i h))⟩
            · exfalso
              omega
        · rw [show hp_pm 13 = 14 from rfl] at hkj
          have is9 : ((hp_k t n lim pz = 2 ∧ (hp_kw (hp_w t n pz) = 1 ∨ 12 ≤ hp_kw (hp_w t n pz))) ∨ (hp_k t n lim pz = 4 ∧ hp_s t n pz = 40)) := by omega
          refine xw_iload_n (pc := 30) C0 1 dX12_readSaid_30 rfl rfl ?_
          refine xw_if_ne (pc := 31) (tgt := 46) C0 (by omega) dX12_readSaid_31 rfl (fun b21 => ?_) (fun b21 => ?_)
          · exfalso
            omega
          · refine xw_iload_n (pc := 34) C0 2 dX12_readSaid_34 rfl rfl ?_
            refine xw_bipush (pc := 35) C0 dX12_readSaid_35 (by decide +kernel) ?_
            refine xw_icmp_le (pc := 37) (tgt := 46) C0 (by omega) (by omega) dX12_readSaid_37 rfl (fun b22 => ?_) (fun b22 => ?_)
            · refine xw_aload_n (pc := 46) C0 0 dX12_readSaid_46 rfl rfl ?_
              refine xw_getI (pc := 47) (f := 42) (z := μ 200 42) C0 kcX12 dX12_readSaid_47 (by decide +kernel) tv_1303 (xj_200 hKL) xk_0 rfl (rfl) (fun g23 k23 => ?_)
              refine xw_bipush (pc := 50) C0 dX12_readSaid_50 (by decide +kernel) ?_
              refine xw_icmp_eq (pc := 52) (tgt := 64) C0 (by omega) (by omega) dX12_readSaid_52 rfl (fun b24 => ?_) (fun b24 => ?_)
              · refine xw_aload_n (pc := 64) C0 0 dX12_readSaid_64 rfl rfl ?_
                refine xw_iconst (pc := 65) C0 dX12_readSaid_65 ?_
                refine xw_callVI (pc := 66) (μ := μ) (ci := 12) (rest := []) (As := [.int (Int32.ofInt 4)]) C0 hU hO sa_Tg hKL (xr_bad (l := l) (v := 4) hS hT (by decide +kernel) (by omega)) tv_1463 dX12_readSaid_66 tv_1460 tv_1462 tq_X12_bad tv_13 rfl yb_X12_bad (by decide +kernel) rfl rfl rfl (by decide +kernel) (Nat.le_of_ble_eq_true rfl) (xj_200 hKL) xk_0 (fun r25 m25 w25 => ?_)
                obtain ⟨rfl, W25, F25⟩ := w25
                have hI_m25 : m25 200 43 = 8 := (F25 200 43 rfl).trans hI
                have hR_m25 := hr_RF hR F25 (by decide +kernel)
                refine xw_iret C0 hA hr hlk rfl dX12_readSaid_69 ?_
                exact ⟨_, rfl, Or.inr ⟨_, hq_onM is9 (by omega), rfl, W25, hI_m25⟩, hR_m25, ((xw_F.rf (ML := [(200, 5, 13), (200, 41, 44), (218, 0, 239)])).tr F25 (fun j i h => xw_o_sub (by decide +kernel) j i h))⟩
              · refine xw_aload_n (pc := 55) C0 0 dX12_readSaid_55 rfl rfl ?_
                refine xw_getI (pc := 56) (f := 43) (z := μ 200 43) C0 kcX12 dX12_readSaid_56 (by decide +kernel) tv_1304 (xj_200 hKL) xk_0 rfl (rfl) (fun g26 k26 => ?_)
                refine xw_bipush (pc := 59) C0 dX12_readSaid_59 (by decide +kernel) ?_
                refine xw_icmp_ne (pc := 61) (tgt := 70) C0 (by omega) (by omega) dX12_readSaid_61 rfl (fun b27 => ?_) (fun b27 => ?_)
                · exfalso
                  omega
                · refine xw_aload_n (pc := 64) C0 0 dX12_readSaid_64 rfl rfl ?_
                  refine xw_iconst (pc := 65) C0 dX12_readSaid_65 ?_
                  refine xw_callVI (pc := 66) (μ := μ) (ci := 12) (rest := []) (As := [.int (Int32.ofInt 4)]) C0 hU hO sa_Tg hKL (xr_bad (l := l) (v := 4) hS hT (by decide +kernel) (by omega)) tv_1463 dX12_readSaid_66 tv_1460 tv_1462 tq_X12_bad tv_13 rfl yb_X12_bad (by decide +kernel) rfl rfl rfl (by decide +kernel) (Nat.le_of_ble_eq_true rfl) (xj_200 hKL) xk_0 (fun r28 m28 w28 => ?_)
                  obtain ⟨rfl, W28, F28⟩ := w28
                  have hI_m28 : m28 200 43 = 8 := (F28 200 43 rfl).trans hI
                  have hR_m28 := hr_RF hR F28 (by decide +kernel)
                  refine xw_iret C0 hA hr hlk rfl dX12_readSaid_69 ?_
                  exact ⟨_, rfl, Or.inr ⟨_, hq_onM is9 (by omega), rfl, W28, hI_m28⟩, hR_m28, ((xw_F.rf (ML := [(200, 5, 13), (200, 41, 44), (218, 0, 239)])).tr F28 (fun j i h => xw_o_sub (by decide +kernel) j i h))⟩
            · exfalso
              omega
        · rw [show hp_pm 14 = 15 from rfl] at hkj
          have is9 : ((hp_k t n lim pz = 2 ∧ (hp_kw (hp_w t n pz) = 1 ∨ 12 ≤ hp_kw (hp_w t n pz))) ∨ (hp_k t n lim pz = 4 ∧ hp_s t n pz = 40)) := by omega
          refine xw_iload_n (pc := 30) C0 1 dX12_readSaid_30 rfl rfl ?_
          refine xw_if_ne (pc := 31) (tgt := 46) C0 (by omega) dX12_readSaid_31 rfl (fun b21 => ?_) (fun b21 => ?_)
          · exfalso
            omega
          · refine xw_iload_n (pc := 34) C0 2 dX12_readSaid_34 rfl rfl ?_
            refine xw_bipush (pc := 35) C0 dX12_readSaid_35 (by decide +kernel) ?_
            refine xw_icmp_le (pc := 37) (tgt := 46) C0 (by omega) (by omega) dX12_readSaid_37 rfl (fun b22 => ?_) (fun b22 => ?_)
            · refine xw_aload_n (pc := 46) C0 0 dX12_readSaid_46 rfl rfl ?_
              refine xw_getI (pc := 47) (f := 42) (z := μ 200 42) C0 kcX12 dX12_readSaid_47 (by decide +kernel) tv_1303 (xj_200 hKL) xk_0 rfl (rfl) (fun g23 k23 => ?_)
              refine xw_bipush (pc := 50) C0 dX12_readSaid_50 (by decide +kernel) ?_
              refine xw_icmp_eq (pc := 52) (tgt := 64) C0 (by omega) (by omega) dX12_readSaid_52 rfl (fun b24 => ?_) (fun b24 => ?_)
              · refine xw_aload_n (pc := 64) C0 0 dX12_readSaid_64 rfl rfl ?_
                refine xw_iconst (pc := 65) C0 dX12_readSaid_65 ?_
                refine xw_callVI (pc := 66) (μ := μ) (ci := 12) (rest := []) (As := [.int (Int32.ofInt 4)]) C0 hU hO sa_Tg hKL (xr_bad (l := l) (v := 4) hS hT (by decide +kernel) (by omega)) tv_1463 dX12_readSaid_66 tv_1460 tv_1462 tq_X12_bad tv_13 rfl yb_X12_bad (by decide +kernel) rfl rfl rfl (by decide +kernel) (Nat.le_of_ble_eq_true rfl) (xj_200 hKL) xk_0 (fun r25 m25 w25 => ?_)
                obtain ⟨rfl, W25, F25⟩ := w25
                have hI_m25 : m25 200 43 = 8 := (F25 200 43 rfl).trans hI
                have hR_m25 := hr_RF hR F25 (by decide +kernel)
                refine xw_iret C0 hA hr hlk rfl dX12_readSaid_69 ?_
                exact ⟨_, rfl, Or.inr ⟨_, hq_onM is9 (by omega), rfl, W25, hI_m25⟩, hR_m25, ((xw_F.rf (ML := [(200, 5, 13), (200, 41, 44), (218, 0, 239)])).tr F25 (fun j i h => xw_o_sub (by decide +kernel) j i h))⟩
              · refine xw_aload_n (pc := 55) C0 0 dX12_readSaid_55 rfl rfl ?_
                refine xw_getI (pc := 56) (f := 43) (z := μ 200 43) C0 kcX12 dX12_readSaid_56 (by decide +kernel) tv_1304 (xj_200 hKL) xk_0 rfl (rfl) (fun g26 k26 => ?_)
                refine xw_bipush (pc := 59) C0 dX12_readSaid_59 (by decide +kernel) ?_
                refine xw_icmp_ne (pc := 61) (tgt := 70) C0 (by omega) (by omega) dX12_readSaid_61 rfl (fun b27 => ?_) (fun b27 => ?_)
                · exfalso
                  omega
                · refine xw_aload_n (pc := 64) C0 0 dX12_readSaid_64 rfl rfl ?_
                  refine xw_iconst (pc := 65) C0 dX12_readSaid_65 ?_
                  refine xw_callVI (pc := 66) (μ := μ) (ci := 12) (rest := []) (As := [.int (Int32.ofInt 4)]) C0 hU hO sa_Tg hKL (xr_bad (l := l) (v := 4) hS hT (by decide +kernel) (by omega)) tv_1463 dX12_readSaid_66 tv_1460 tv_1462 tq_X12_bad tv_13 rfl yb_X12_bad (by decide +kernel) rfl rfl rfl (by decide +kernel) (Nat.le_of_ble_eq_true rfl) (xj_200 hKL) xk_0 (fun r28 m28 w28 => ?_)
                  obtain ⟨rfl, W28, F28⟩ := w28
                  have hI_m28 : m28 200 43 = 8 := (F28 200 43 rfl).trans hI
                  have hR_m28 := hr_RF hR F28 (by decide +kernel)
                  refine xw_iret C0 hA hr hlk rfl dX12_readSaid_69 ?_
                  exact ⟨_, rfl, Or.inr ⟨_, hq_onM is9 (by omega), rfl, W28, hI_m28⟩, hR_m28, ((xw_F.rf (ML := [(200, 5, 13), (200, 41, 44), (218, 0, 239)])).tr F28 (fun j i h => xw_o_sub (by decide +kernel) j i h))⟩
            · exfalso
              omega
        · rw [show hp_pm 15 = 16 from rfl] at hkj
          have is9 : ((hp_k t n lim pz = 2 ∧ (hp_kw (hp_w t n pz) = 1 ∨ 12 ≤ hp_kw (hp_w t n pz))) ∨ (hp_k t n lim pz = 4 ∧ hp_s t n pz = 40)) := by omega
          refine xw_iload_n (pc := 30) C0 1 dX12_readSaid_30 rfl rfl ?_
          refine xw_if_ne (pc := 31) (tgt := 46) C0 (by omega) dX12_readSaid_31 rfl (fun b21 => ?_) (fun b21 => ?_)
          · exfalso
            omega
          · refine xw_iload_n (pc := 34) C0 2 dX12_readSaid_34 rfl rfl ?_
            refine xw_bipush (pc := 35) C0 dX12_readSaid_35 (by decide +kernel) ?_
            refine xw_icmp_le (pc := 37) (tgt := 46) C0 (by omega) (by omega) dX12_readSaid_37 rfl (fun b22 => ?_) (fun b22 => ?_)
            · refine xw_aload_n (pc := 46) C0 0 dX12_readSaid_46 rfl rfl ?_
              refine xw_getI (pc := 47) (f := 42) (z := μ 200 42) C0 kcX12 dX12_readSaid_47 (by decide +kernel) tv_1303 (xj_200 hKL) xk_0 rfl (rfl) (fun g23 k23 => ?_)
              refine xw_bipush (pc := 50) C0 dX12_readSaid_50 (by decide +kernel) ?_
              refine xw_icmp_eq (pc := 52) (tgt := 64) C0 (by omega) (by omega) dX12_readSaid_52 rfl (fun b24 => ?_) (fun b24 => ?_)
              · refine xw_aload_n (pc := 64) C0 0 dX12_readSaid_64 rfl rfl ?_
                refine xw_iconst (pc := 65) C0 dX12_readSaid_65 ?_
                refine xw_callVI (pc := 66) (μ := μ) (ci := 12) (rest := []) (As := [.int (Int32.ofInt 4)]) C0 hU hO sa_Tg hKL (xr_bad (l := l) (v := 4) hS hT (by decide +kernel) (by omega)) tv_1463 dX12_readSaid_66 tv_1460 tv_1462 tq_X12_bad tv_13 rfl yb_X12_bad (by decide +kernel) rfl rfl rfl (by decide +kernel) (Nat.le_of_ble_eq_true rfl) (xj_200 hKL) xk_0 (fun r25 m25 w25 => ?_)
                obtain ⟨rfl, W25, F25⟩ := w25
                have hI_m25 : m25 200 43 = 8 := (F25 200 43 rfl).trans hI
                have hR_m25 := hr_RF hR F25 (by decide +kernel)
                refine xw_iret C0 hA hr hlk rfl dX12_readSaid_69 ?_
                exact ⟨_, rfl, Or.inr ⟨_, hq_onM is9 (by omega), rfl, W25, hI_m25⟩, hR_m25, ((xw_F.rf (ML := [(200, 5, 13), (200, 41, 44), (218, 0, 239)])).tr F25 (fun j i h => xw_o_sub (by decide +kernel) j i h))⟩
              · refine xw_aload_n (pc := 55) C0 0 dX12_readSaid_55 rfl rfl ?_
                refine xw_getI (pc := 56) (f := 43) (z := μ 200 43) C0 kcX12 dX12_readSaid_56 (by decide +kernel) tv_1304 (xj_200 hKL) xk_0 rfl (rfl) (fun g26 k26 => ?_)
                refine xw_bipush (pc := 59) C0 dX12_readSaid_59 (by decide +kernel) ?_
                refine xw_icmp_ne (pc := 61) (tgt := 70) C0 (by omega) (by omega) dX12_readSaid_61 rfl (fun b27 => ?_) (fun b27 => ?_)
                · exfalso
                  omega
                · refine xw_aload_n (pc := 64) C0 0 dX12_readSaid_64 rfl rfl ?_
                  refine xw_iconst (pc := 65) C0 dX12_readSaid_65 ?_
                  refine xw_callVI (pc := 66) (μ := μ) (ci := 12) (rest := []) (As := [.int (Int32.ofInt 4)]) C0 hU hO sa_Tg hKL (xr_bad (l := l) (v := 4) hS hT (by decide +kernel) (by omega)) tv_1463 dX12_readSaid_66 tv_1460 tv_1462 tq_X12_bad tv_13 rfl yb_X12_bad (by decide +kernel) rfl rfl rfl (by decide +kernel) (Nat.le_of_ble_eq_true rfl) (xj_200 hKL) xk_0 (fun r28 m28 w28 => ?_)
                  obtain ⟨rfl, W28, F28⟩ := w28
                  have hI_m28 : m28 200 43 = 8 := (F28 200 43 rfl).trans hI
                  have hR_m28 := hr_RF hR F28 (by decide +kernel)
                  refine xw_iret C0 hA hr hlk rfl dX12_readSaid_69 ?_
                  exact ⟨_, rfl, Or.inr ⟨_, hq_onM is9 (by omega), rfl, W28, hI_m28⟩, hR_m28, ((xw_F.rf (ML := [(200, 5, 13), (200, 41, 44), (218, 0, 239)])).tr F28 (fun j i h => xw_o_sub (by decide +kernel) j i h))⟩
            · exfalso
              omega
        · rw [show hp_pm 16 = 1 from rfl] at hkj
          have is9 : ((hp_k t n lim pz = 2 ∧ (hp_kw (hp_w t n pz) = 1 ∨ 12 ≤ hp_kw (hp_w t n pz))) ∨ (hp_k t n lim pz = 4 ∧ hp_s t n pz = 40)) := by omega
          refine xw_iload_n (pc := 30) C0 1 dX12_readSaid_30 rfl rfl ?_
          refine xw_if_ne (pc := 31) (tgt := 46) C0 (by omega) dX12_readSaid_31 rfl (fun b21 => ?_) (fun b21 => ?_)
          · exfalso
            omega
          · refine xw_iload_n (pc := 34) C0 2 dX12_readSaid_34 rfl rfl ?_
            refine xw_bipush (pc := 35) C0 dX12_readSaid_35 (by decide +kernel) ?_
            refine xw_icmp_le (pc := 37) (tgt := 46) C0 (by omega) (by omega) dX12_readSaid_37 rfl (fun b22 => ?_) (fun b22 => ?_)
            · refine xw_aload_n (pc := 46) C0 0 dX12_readSaid_46 rfl rfl ?_
              refine xw_getI (pc := 47) (f := 42) (z := μ 200 42) C0 kcX12 dX12_readSaid_47 (by decide +kernel) tv_1303 (xj_200 hKL) xk_0 rfl (rfl) (fun g23 k23 => ?_)
              refine xw_bipush (pc := 50) C0 dX12_readSaid_50 (by decide +kernel) ?_
              refine xw_icmp_eq (pc := 52) (tgt := 64) C0 (by omega) (by omega) dX12_readSaid_52 rfl (fun b24 => ?_) (fun b24 => ?_)
              · refine xw_aload_n (pc := 64) C0 0 dX12_readSaid_64 rfl rfl ?_
                refine xw_iconst (pc := 65) C0 dX12_readSaid_65 ?_
                refine xw_callVI (pc := 66) (μ := μ) (ci := 12) (rest := []) (As := [.int (Int32.ofInt 4)]) C0 hU hO sa_Tg hKL (xr_bad (l := l) (v := 4) hS hT (by decide +kernel) (by omega)) tv_1463 dX12_readSaid_66 tv_1460 tv_1462 tq_X12_bad tv_13 rfl yb_X12_bad (by decide +kernel) rfl rfl rfl (by decide +kernel) (Nat.le_of_ble_eq_true rfl) (xj_200 hKL) xk_0 (fun r25 m25 w25 => ?_)
                obtain ⟨rfl, W25, F25⟩ := w25
                have hI_m25 : m25 200 43 = 8 := (F25 200 43 rfl).trans hI
                have hR_m25 := hr_RF hR F25 (by decide +kernel)
                refine xw_iret C0 hA hr hlk rfl dX12_readSaid_69 ?_
                exact ⟨_, rfl, Or.inr ⟨_, hq_onM is9 (by omega), rfl, W25, hI_m25⟩, hR_m25, ((xw_F.rf (ML := [(200, 5, 13), (200, 41, 44), (218, 0, 239)])).tr F25 (fun j i h => xw_o_sub (by decide +kernel) j i h))⟩
              · refine xw_aload_n (pc := 55) C0 0 dX12_readSaid_55 rfl rfl ?_
                refine xw_getI (pc := 56) (f := 43) (z := μ 200 43) C0 kcX12 dX12_readSaid_56 (by decide +kernel) tv_1304 (xj_200 hKL) xk_0 rfl (rfl) (fun g26 k26 => ?_)
                refine xw_bipush (pc := 59) C0 dX12_readSaid_59 (by decide +kernel) ?_
                refine xw_icmp_ne (pc := 61) (tgt := 70) C0 (by omega) (by omega) dX12_readSaid_61 rfl (fun b27 => ?_) (fun b27 => ?_)
                · exfalso
                  omega
                · refine xw_aload_n (pc := 64) C0 0 dX12_readSaid_64 rfl rfl ?_
                  refine xw_iconst (pc := 65) C0 dX12_readSaid_65 ?_
                  refine xw_callVI (pc := 66) (μ := μ) (ci := 12) (rest := []) (As := [.int (Int32.ofInt 4)]) C0 hU hO sa_Tg hKL (xr_bad (l := l) (v := 4) hS hT (by decide +kernel) (by omega)) tv_1463 dX12_readSaid_66 tv_1460 tv_1462 tq_X12_bad tv_13 rfl yb_X12_bad (by decide +kernel) rfl rfl rfl (by decide +kernel) (Nat.le_of_ble_eq_true rfl) (xj_200 hKL) xk_0 (fun r28 m28 w28 => ?_)
                  obtain ⟨rfl, W28, F28⟩ := w28
                  have hI_m28 : m28 200 43 = 8 := (F28 200 43 rfl).trans hI
                  have hR_m28 := hr_RF hR F28 (by decide +kernel)
                  refine xw_iret C0 hA hr hlk rfl dX12_readSaid_69 ?_
                  exact ⟨_, rfl, Or.inr ⟨_, hq_onM is9 (by omega), rfl, W28, hI_m28⟩, hR_m28, ((xw_F.rf (ML := [(200, 5, 13), (200, 41, 44), (218, 0, 239)])).tr F28 (fun j i h => xw_o_sub (by decide +kernel) j i h))⟩
            · exfalso
              omega
        · rw [show hp_pm 17 = 17 from rfl] at hkj
          have is9 : ((hp_k t n lim pz = 2 ∧ (hp_kw (hp_w t n pz) = 1 ∨ 12 ≤ hp_kw (hp_w t n pz))) ∨ (hp_k t n lim pz = 4 ∧ hp_s t n pz = 40)) := by omega
          refine xw_iload_n (pc := 30) C0 1 dX12_readSaid_30 rfl rfl ?_
          refine xw_if_ne (pc := 31) (tgt := 46) C0 (by omega) dX12_readSaid_31 rfl (fun b21 => ?_) (fun b21 => ?_)
          · exfalso
            omega
          · refine xw_iload_n (pc := 34) C0 2 dX12_readSaid_34 rfl rfl ?_
            refine xw_bipush (pc := 35) C0 dX12_readSaid_35 (by decide +kernel) ?_
            refine xw_icmp_le (pc := 37) (tgt := 46) C0 (by omega) (by omega) dX12_readSaid_37 rfl (fun b22 => ?_) (fun b22 => ?_)
            · refine xw_aload_n (pc := 46) C0 0 dX12_readSaid_46 rfl rfl ?_
              refine xw_getI (pc := 47) (f := 42) (z := μ 200 42) C0 kcX12 dX12_readSaid_47 (by decide +kernel) tv_1303 (xj_200 hKL) xk_0 rfl (rfl) (fun g23 k23 => ?_)
              refine xw_bipush (pc := 50) C0 dX12_readSaid_50 (by decide +kernel) ?_
              refine xw_icmp_eq (pc := 52) (tgt := 64) C0 (by omega) (by omega) dX12_readSaid_52 rfl (fun b24 => ?_) (fun b24 => ?_)
              · refine xw_aload_n (pc := 64) C0 0 dX12_readSaid_64 rfl rfl ?_
                refine xw_iconst (pc := 65) C0 dX12_readSaid_65 ?_
                refine xw_callVI (pc := 66) (μ := μ) (ci := 12) (rest := []) (As := [.int (Int32.ofInt 4)]) C0 hU hO sa_Tg hKL (xr_bad (l := l) (v := 4) hS hT (by decide +kernel) (by omega)) tv_1463 dX12_readSaid_66 tv_1460 tv_1462 tq_X12_bad tv_13 rfl yb_X12_bad (by decide +kernel) rfl rfl rfl (by decide +kernel) (Nat.le_of_ble_eq_true rfl) (xj_200 hKL) xk_0 (fun r25 m25 w25 => ?_)
                obtain ⟨rfl, W25, F25⟩ := w25
                have hI_m25 : m25 200 43 = 8 := (F25 200 43 rfl).trans hI
                have hR_m25 := hr_RF hR F25 (by decide +kernel)
                refine xw_iret C0 hA hr hlk rfl dX12_readSaid_69 ?_
                exact ⟨_, rfl, Or.inr ⟨_, hq_onM is9 (by omega), rfl, W25, hI_m25⟩, hR_m25, ((xw_F.rf (ML := [(200, 5, 13), (200, 41, 44), (218, 0, 239)])).tr F25 (fun j i h => xw_o_sub (by decide +kernel) j i h))⟩
              · refine xw_aload_n (pc := 55) C0 0 dX12_readSaid_55 rfl rfl ?_
                refine xw_getI (pc := 56) (f := 43) (z := μ 200 43) C0 kcX12 dX12_readSaid_56 (by decide +kernel) tv_1304 (xj_200 hKL) xk_0 rfl (rfl) (fun g26 k26 => ?_)
                refine xw_bipush (pc := 59) C0 dX12_readSaid_59 (by decide +kernel) ?_
                refine xw_icmp_ne (pc := 61) (tgt := 70) C0 (by omega) (by omega) dX12_readSaid_61 rfl (fun b27 => ?_) (fun b27 => ?_)
                · exfalso
                  omega
                · refine xw_aload_n (pc := 64) C0 0 dX12_readSaid_64 rfl rfl ?_
                  refine xw_iconst (pc := 65) C0 dX12_readSaid_65 ?_
                  refine xw_callVI (pc := 66) (μ := μ) (ci := 12) (rest := []) (As := [.int (Int32.ofInt 4)]) C0 hU hO sa_Tg hKL (xr_bad (l := l) (v := 4) hS hT (by decide +kernel) (by omega)) tv_1463 dX12_readSaid_66 tv_1460 tv_1462 tq_X12_bad tv_13 rfl yb_X12_bad (by decide +kernel) rfl rfl rfl (by decide +kernel) (Nat.le_of_ble_eq_true rfl) (xj_200 hKL) xk_0 (fun r28 m28 w28 => ?_)
                  obtain ⟨rfl, W28, F28⟩ := w28
                  have hI_m28 : m28 200 43 = 8 := (F28 200 43 rfl).trans hI
                  have hR_m28 := hr_RF hR F28 (by decide +kernel)
                  refine xw_iret C0 hA hr hlk rfl dX12_readSaid_69 ?_
                  exact ⟨_, rfl, Or.inr ⟨_, hq_onM is9 (by omega), rfl, W28, hI_m28⟩, hR_m28, ((xw_F.rf (ML := [(200, 5, 13), (200, 41, 44), (218, 0, 239)])).tr F28 (fun j i h => xw_o_sub (by decide +kernel) j i h))⟩
            · exfalso
              omega
        · rw [show hp_pm 18 = 18 from rfl] at hkj
          have is9 : ((hp_k t n lim pz = 2 ∧ (hp_kw (hp_w t n pz) = 1 ∨ 12 ≤ hp_kw (hp_w t n pz))) ∨ (hp_k t n lim pz = 4 ∧ hp_s t n pz = 40)) := by omega
          refine xw_iload_n (pc := 30) C0 1 dX12_readSaid_30 rfl rfl ?_
          refine xw_if_ne (pc := 31) (tgt := 46) C0 (by omega) dX12_readSaid_31 rfl (fun b21 => ?_) (fun b21 => ?_)
          · exfalso
            omega
          · refine xw_iload_n (pc := 34) C0 2 dX12_readSaid_34 rfl rfl ?_
            refine xw_bipush (pc := 35) C0 dX12_readSaid_35 (by decide +kernel) ?_
            refine xw_icmp_le (pc := 37) (tgt := 46) C0 (by omega) (by omega) dX12_readSaid_37 rfl (fun b22 => ?_) (fun b22 => ?_)
            · refine xw_aload_n (pc := 46) C0 0 dX12_readSaid_46 rfl rfl ?_
              refine xw_getI (pc := 47) (f := 42) (z := μ 200 42) C0 kcX12 dX12_readSaid_47 (by decide +kernel) tv_1303 (xj_200 hKL) xk_0 rfl (rfl) (fun g23 k23 => ?_)
              refine xw_bipush (pc := 50) C0 dX12_readSaid_50 (by decide +kernel) ?_
              refine xw_icmp_eq (pc := 52) (tgt := 64) C0 (by omega) (by omega) dX12_readSaid_52 rfl (fun b24 => ?_) (fun b24 => ?_)
              · refine xw_aload_n (pc := 64) C0 0 dX12_readSaid_64 rfl rfl ?_
                refine xw_iconst (pc := 65) C0 dX12_readSaid_65 ?_
                refine xw_callVI (pc := 66) (μ := μ) (ci := 12) (rest := []) (As := [.int (Int32.ofInt 4)]) C0 hU hO sa_Tg hKL (xr_bad (l := l) (v := 4) hS hT (by decide +kernel) (by omega)) tv_1463 dX12_readSaid_66 tv_1460 tv_1462 tq_X12_bad tv_13 rfl yb_X12_bad (by decide +kernel) rfl rfl rfl (by decide +kernel) (Nat.le_of_ble_eq_true rfl) (xj_200 hKL) xk_0 (fun r25 m25 w25 => ?_)
                obtain ⟨rfl, W25, F25⟩ := w25
                have hI_m25 : m25 200 43 = 8 := (F25 200 43 rfl).trans hI
                have hR_m25 := hr_RF hR F25 (by decide +kernel)
                refine xw_iret C0 hA hr hlk rfl dX12_readSaid_69 ?_
                exact ⟨_, rfl, Or.inr ⟨_, hq_onM is9 (by omega), rfl, W25, hI_m25⟩, hR_m25, ((xw_F.rf (ML := [(200, 5, 13), (200, 41, 44), (218, 0, 239)])).tr F25 (fun j i h => xw_o_sub (by decide +kernel) j i h))⟩
              · refine xw_aload_n (pc := 55) C0 0 dX12_readSaid_55 rfl rfl ?_
                refine xw_getI (pc := 56) (f := 43) (z := μ 200 43) C0 kcX12 dX12_readSaid_56 (by decide +kernel) tv_1304 (xj_200 hKL) xk_0 rfl (rfl) (fun g26 k26 => ?_)
                refine xw_bipush (pc := 59) C0 dX12_readSaid_59 (by decide +kernel) ?_
                refine xw_icmp_ne (pc := 61) (tgt := 70) C0 (by omega) (by omega) dX12_readSaid_61 rfl (fun b27 => ?_) (fun b27 => ?_)
                · exfalso
                  omega
                · refine xw_aload_n (pc := 64) C0 0 dX12_readSaid_64 rfl rfl ?_
                  refine xw_iconst (pc := 65) C0 dX12_readSaid_65 ?_
                  refine xw_callVI (pc := 66) (μ := μ) (ci := 12) (rest := []) (As := [.int (Int32.ofInt 4)]) C0 hU hO sa_Tg hKL (xr_bad (l := l) (v := 4) hS hT (by decide +kernel) (by omega)) tv_1463 dX12_readSaid_66 tv_1460 tv_1462 tq_X12_bad tv_13 rfl yb_X12_bad (by decide +kernel) rfl rfl rfl (by decide +kernel) (Nat.le_of_ble_eq_true rfl) (xj_200 hKL) xk_0 (fun r28 m28 w28 => ?_)
                  obtain ⟨rfl, W28, F28⟩ := w28
                  have hI_m28 : m28 200 43 = 8 := (F28 200 43 rfl).trans hI
                  have hR_m28 := hr_RF hR F28 (by decide +kernel)
                  refine xw_iret C0 hA hr hlk rfl dX12_readSaid_69 ?_
                  exact ⟨_, rfl, Or.inr ⟨_, hq_onM is9 (by omega), rfl, W28, hI_m28⟩, hR_m28, ((xw_F.rf (ML := [(200, 5, 13), (200, 41, 44), (218, 0, 239)])).tr F28 (fun j i h => xw_o_sub (by decide +kernel) j i h))⟩
            · exfalso
              omega
        · rw [show hp_pm 19 = 19 from rfl] at hkj
          have is9 : ((hp_k t n lim pz = 2 ∧ (hp_kw (hp_w t n pz) = 1 ∨ 12 ≤ hp_kw (hp_w t n pz))) ∨ (hp_k t n lim pz = 4 ∧ hp_s t n pz = 40)) := by omega
          refine xw_iload_n (pc := 30) C0 1 dX12_readSaid_30 rfl rfl ?_
          refine xw_if_ne (pc := 31) (tgt := 46) C0 (by omega) dX12_readSaid_31 rfl (fun b21 => ?_) (fun b21 => ?_)
          · exfalso
            omega
          · refine xw_iload_n (pc := 34) C0 2 dX12_readSaid_34 rfl rfl ?_
            refine xw_bipush (pc := 35) C0 dX12_readSaid_35 (by decide +kernel) ?_
            refine xw_icmp_le (pc := 37) (tgt := 46) C0 (by omega) (by omega) dX12_readSaid_37 rfl (fun b22 => ?_) (fun b22 => ?_)
            · refine xw_aload_n (pc := 46) C0 0 dX12_readSaid_46 rfl rfl ?_
              refine xw_getI (pc := 47) (f := 42) (z := μ 200 42) C0 kcX12 dX12_readSaid_47 (by decide +kernel) tv_1303 (xj_200 hKL) xk_0 rfl (rfl) (fun g23 k23 => ?_)
              refine xw_bipush (pc := 50) C0 dX12_readSaid_50 (by decide +kernel) ?_
              refine xw_icmp_eq (pc := 52) (tgt := 64) C0 (by omega) (by omega) dX12_readSaid_52 rfl (fun b24 => ?_) (fun b24 => ?_)
              · refine xw_aload_n (pc := 64) C0 0 dX12_readSaid_64 rfl rfl ?_
                refine xw_iconst (pc := 65) C0 dX12_readSaid_65 ?_
                refine xw_callVI (pc := 66) (μ := μ) (ci := 12) (rest := []) (As := [.int (Int32.ofInt 4)]) C0 hU hO sa_Tg hKL (xr_bad (l := l) (v := 4) hS hT (by decide +kernel) (by omega)) tv_1463 dX12_readSaid_66 tv_1460 tv_1462 tq_X12_bad tv_13 rfl yb_X12_bad (by decide +kernel) rfl rfl rfl (by decide +kernel) (Nat.le_of_ble_eq_true rfl) (xj_200 hKL) xk_0 (fun r25 m25 w25 => ?_)
                obtain ⟨rfl, W25, F25⟩ := w25
                have hI_m25 : m25 200 43 = 8 := (F25 200 43 rfl).trans hI
                have hR_m25 := hr_RF hR F25 (by decide +kernel)
                refine xw_iret C0 hA hr hlk rfl dX12_readSaid_69 ?_
                exact ⟨_, rfl, Or.inr ⟨_, hq_onM is9 (by omega), rfl, W25, hI_m25⟩, hR_m25, ((xw_F.rf (ML := [(200, 5, 13), (200, 41, 44), (218, 0, 239)])).tr F25 (fun j i h => xw_o_sub (by decide +kernel) j i h))⟩
              · refine xw_aload_n (pc := 55) C0 0 dX12_readSaid_55 rfl rfl ?_
                refine xw_getI (pc := 56) (f := 43) (z := μ 200 43) C0 kcX12 dX12_readSaid_56 (by decide +kernel) tv_1304 (xj_200 hKL) xk_0 rfl (rfl) (fun g26 k26 => ?_)
                refine xw_bipush (pc := 59) C0 dX12_readSaid_59 (by decide +kernel) ?_
                refine xw_icmp_ne (pc := 61) (tgt := 70) C0 (by omega) (by omega) dX12_readSaid_61 rfl (fun b27 => ?_) (fun b27 => ?_)
                · exfalso
                  omega
                · refine xw_aload_n (pc := 64) C0 0 dX12_readSaid_64 rfl rfl ?_
                  refine xw_iconst (pc := 65) C0 dX12_readSaid_65 ?_
                  refine xw_callVI (pc := 66) (μ := μ) (ci := 12) (rest := []) (As := [.int (Int32.ofInt 4)]) C0 hU hO sa_Tg hKL (xr_bad (l := l) (v := 4) hS hT (by decide +kernel) (by omega)) tv_1463 dX12_readSaid_66 tv_1460 tv_1462 tq_X12_bad tv_13 rfl yb_X12_bad (by decide +kernel) rfl rfl rfl (by decide +kernel) (Nat.le_of_ble_eq_true rfl) (xj_200 hKL) xk_0 (fun r28 m28 w28 => ?_)
                  obtain ⟨rfl, W28, F28⟩ := w28
                  have hI_m28 : m28 200 43 = 8 := (F28 200 43 rfl).trans hI
                  have hR_m28 := hr_RF hR F28 (by decide +kernel)
                  refine xw_iret C0 hA hr hlk rfl dX12_readSaid_69 ?_
                  exact ⟨_, rfl, Or.inr ⟨_, hq_onM is9 (by omega), rfl, W28, hI_m28⟩, hR_m28, ((xw_F.rf (ML := [(200, 5, 13), (200, 41, 44), (218, 0, 239)])).tr F28 (fun j i h => xw_o_sub (by decide +kernel) j i h))⟩
            · exfalso
              omega)
