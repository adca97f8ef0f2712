set_option maxRecDepth 20000 in
set_option maxHeartbeats 20000000 in
theorem xt_says {l : Launch} {cn : Nat} {w9 a9 b9 g9 : Int} {μ : xw_M} (hG : xw_G xw_GL μ) (hC : μ 200 41 = (cn : Int)) (hc : cn < 60) (hR : hr_R μ) (hw9 : -2147483648 ≤ w9 ∧ w9 ≤ 2147483647) (ha9 : 0 ≤ a9 ∧ a9 ≤ 59) (hb9 : -2147483648 ≤ b9 ∧ b9 ≤ 2147483647) (hg9 : -2147483648 ≤ g9 ∧ g9 ≤ 2147483647) (h1 : 1 ≤ w9 → w9 ≤ 3 → 0 ≤ a9 ∧ a9 < (cn : Int)) (h2 : 2 ≤ w9 → w9 ≤ 3 → 0 ≤ b9 ∧ b9 < (cn : Int)) : xw_MetI l vwCl sa_Ts tb_KT0 tc_KL yX12_saysOne cX12_saysOne 6 (some .int) 2 120 (fun ad => [.ref (ad 200), .int (Int32.ofInt w9), .int (Int32.ofInt a9), .int (Int32.ofInt b9), .int (Int32.ofInt g9)]) μ (fun r μ' => r = (cn : Int) ∧ μ' 200 41 = (cn : Int) + 1 ∧ hr_R μ' ∧ xw_F [(200, 41, 41), (218, 0, 239)] μ μ') :=
  xw_of (by decide +kernel) (fun _ => Nat.le_of_ble_eq_true rfl) (fun p e s m args below meth c D dA A al w0 sz C0 hU hO hKL hr hlk hA => by
    refine xw_iconst (pc := 0) C0 dX12_saysOne_0 ?_
    refine xw_aload_n (pc := 1) C0 0 dX12_saysOne_1 rfl rfl ?_
    refine xw_getI (pc := 2) (f := 41) (z := μ 200 41) C0 kcX12 dX12_saysOne_2 (by decide +kernel) tv_1302 (xj_200 hKL) xk_0 rfl (rfl) (fun g1 k1 => ?_)
    refine xw_imul (pc := 5) C0 dX12_saysOne_5 ?_
    refine xw_nI (congrArg Int32.ofInt (show 4 * (μ 200 41) = ((4 * cn : Nat) : Int) by omega)) ?_
    refine xw_istore (pc := 6) (L' := [(5, .int (Int32.ofInt ((4 * cn : Nat) : Int))), (0, .ref (xw_ad al 200)), (1, .int (Int32.ofInt w9)), (2, .int (Int32.ofInt a9)), (3, .int (Int32.ofInt b9)), (4, .int (Int32.ofInt g9))]) C0 dX12_saysOne_6 (by decide +kernel) rfl ?_
    refine xw_aload_n (pc := 8) C0 1 dX12_saysOne_8 rfl rfl ?_
    refine xw_getR (pc := 9) (f := 40) C0 218 kcX12 dX12_saysOne_9 (by decide +kernel) tv_1301 (xj_200 hKL) xk_0 rfl ((rfl).trans (xe_200_40 hG)) ?_
    refine xw_iload (pc := 12) C0 0 dX12_saysOne_12 rfl ?_
    refine xw_iload_n (pc := 14) C0 2 dX12_saysOne_14 rfl rfl ?_
    refine xw_iast (pc := 15) C0 dX12_saysOne_15 (xj_218 hKL) xk_6 (by omega) (by decide +kernel) (hq_nd ⟨cn, hc⟩).1 (by omega) (by omega) ?_
    refine xw_aload_n (pc := 16) C0 1 dX12_saysOne_16 rfl rfl ?_
    refine xw_getR (pc := 17) (f := 40) C0 218 kcX12 dX12_saysOne_17 (by decide +kernel) tv_1301 (xj_200 hKL) xk_0 rfl (((xw_un (fun q => absurd q.1 (by decide +kernel))).trans rfl).trans (xe_200_40 hG)) ?_
    refine xw_iload (pc := 20) C0 0 dX12_saysOne_20 rfl ?_
    refine xw_iconst (pc := 22) C0 dX12_saysOne_22 ?_
    refine xw_iadd (pc := 23) C0 dX12_saysOne_23 ?_
    refine xw_nI (congrArg Int32.ofInt (show ((4 * cn : Nat) : Int) + 1 = ((4 * cn + 1 : Nat) : Int) by omega)) ?_
    refine xw_iload_n (pc := 24) C0 3 dX12_saysOne_24 rfl rfl ?_
    refine xw_iast (pc := 25) C0 dX12_saysOne_25 (xj_218 hKL) xk_6 (by omega) (by decide +kernel) (hq_nd ⟨cn, hc⟩).2.1 (by omega) (by omega) ?_
    refine xw_aload_n (pc := 26) C0 1 dX12_saysOne_26 rfl rfl ?_
    refine xw_getR (pc := 27) (f := 40) C0 218 kcX12 dX12_saysOne_27 (by decide +kernel) tv_1301 (xj_200 hKL) xk_0 rfl (((xw_un (fun q => absurd q.1 (by decide +kernel))).trans ((xw_un (fun q => absurd q.1 (by decide +kernel))).trans rfl)).trans (xe_200_40 hG)) ?_
    refine xw_iload (pc := 30) C0 0 dX12_saysOne_30 rfl ?_
    refine xw_iconst (pc := 32) C0 dX12_saysOne_32 ?_
    refine xw_iadd (pc := 33) C0 dX12_saysOne_33 ?_
    refine xw_nI (congrArg Int32.ofInt (show ((4 * cn : Nat) : Int) + 2 = ((4 * cn + 2 : Nat) : Int) by omega)) ?_
    refine xw_iload_n (pc := 34) C0 4 dX12_saysOne_34 rfl rfl ?_
    refine xw_iast (pc := 35) C0 dX12_saysOne_35 (xj_218 hKL) xk_6 (by omega) (by decide +kernel) (hq_nd ⟨cn, hc⟩).2.2.1 (by omega) (by omega) ?_
    refine xw_aload_n (pc := 36) C0 1 dX12_saysOne_36 rfl rfl ?_
    refine xw_getR (pc := 37) (f := 40) C0 218 kcX12 dX12_saysOne_37 (by decide +kernel) tv_1301 (xj_200 hKL) xk_0 rfl (((xw_un (fun q => absurd q.1 (by decide +kernel))).trans ((xw_un (fun q => absurd q.1 (by decide +kernel))).trans ((xw_un (fun q => absurd q.1 (by decide +kernel))).trans rfl))).trans (xe_200_40 hG)) ?_
    refine xw_iload (pc := 40) C0 0 dX12_saysOne_40 rfl ?_
    refine xw_iconst (pc := 42) C0 dX12_saysOne_42 ?_
    refine xw_iadd (pc := 43) C0 dX12_saysOne_43 ?_
    refine xw_nI (congrArg Int32.ofInt (show ((4 * cn : Nat) : Int) + 3 = ((4 * cn + 3 : Nat) : Int) by omega)) ?_
    refine xw_iload (pc := 44) C0 5 dX12_saysOne_44 rfl ?_
    refine xw_iast (pc := 46) C0 dX12_saysOne_46 (xj_218 hKL) xk_6 (by omega) (by decide +kernel) (hq_nd ⟨cn, hc⟩).2.2.2 (by omega) (by omega) ?_
    refine xw_aload_n (pc := 47) C0 1 dX12_saysOne_47 rfl rfl ?_
    refine xw_dup (pc := 48) C0 dX12_saysOne_48 rfl ?_
    refine xw_getI (pc := 49) (f := 41) (z := μ 200 41) C0 kcX12 dX12_saysOne_49 (by decide +kernel) tv_1302 (xj_200 hKL) xk_0 rfl ((xw_un (fun q => absurd q.1 (by decide +kernel))).trans ((xw_un (fun q => absurd q.1 (by decide +kernel))).trans ((xw_un (fun q => absurd q.1 (by decide +kernel))).trans ((xw_un (fun q => absurd q.1 (by decide +kernel))).trans rfl)))) (fun g2 k2 => ?_)
    refine xw_iconst (pc := 52) C0 dX12_saysOne_52 ?_
    refine xw_iadd (pc := 53) C0 dX12_saysOne_53 ?_
    refine xw_putI (pc := 54) (f := 41) C0 kcX12 dX12_saysOne_54 (by decide +kernel) tv_1302 rfl rfl (xj_200 hKL) xk_0 rfl (by omega) (by omega) ?_
    refine xw_aload_n (pc := 57) C0 1 dX12_saysOne_57 rfl rfl ?_
    refine xw_getI (pc := 58) (f := 41) (z := (μ 200 41) + 1) C0 kcX12 dX12_saysOne_58 (by decide +kernel) tv_1302 (xj_200 hKL) xk_0 rfl (xw_ug) (fun g3 k3 => ?_)
    refine xw_iconst (pc := 61) C0 dX12_saysOne_61 ?_
    refine xw_isub (pc := 62) C0 dX12_saysOne_62 ?_
    refine xw_iret C0 hA hr hlk rfl dX12_saysOne_63 ?_
    have R9 : hr_R (xw_u (xw_u (xw_u (xw_u (xw_u μ 218 (((4 * cn : Nat) : Int)).toNat w9) 218 (((4 * cn + 1 : Nat) : Int)).toNat a9) 218 (((4 * cn + 2 : Nat) : Int)).toNat b9) 218 (((4 * cn + 3 : Nat) : Int)).toNat g9) 200 41 ((μ 200 41) + 1)) := hr_Ru (cn := cn) hR h1 h2
    have F9 : xw_F [(200, 41, 41), (218, 0, 239)] μ (xw_u (xw_u (xw_u (xw_u (xw_u μ 218 (((4 * cn : Nat) : Int)).toNat w9) 218 (((4 * cn + 1 : Nat) : Int)).toNat a9) 218 (((4 * cn + 2 : Nat) : Int)).toNat b9) 218 (((4 * cn + 3 : Nat) : Int)).toNat g9) 200 41 ((μ 200 41) + 1)) := ((((((xw_F.rf (ML := [(200, 41, 41), (218, 0, 239)])).u (show (218, 0, 239) ∈ _ by decide) ⟨by omega, by omega⟩).u (show (218, 0, 239) ∈ _ by decide) ⟨by omega, by omega⟩).u (show (218, 0, 239) ∈ _ by decide) ⟨by omega, by omega⟩).u (show (218, 0, 239) ∈ _ by decide) ⟨by omega, by omega⟩).u (show (200, 41, 41) ∈ _ by decide) ⟨by decide, by decide⟩)
    have v9 : (xw_u (xw_u (xw_u (xw_u (xw_u μ 218 (((4 * cn : Nat) : Int)).toNat w9) 218 (((4 * cn + 1 : Nat) : Int)).toNat a9) 218 (((4 * cn + 2 : Nat) : Int)).toNat b9) 218 (((4 * cn + 3 : Nat) : Int)).toNat g9) 200 41 ((μ 200 41) + 1)) 200 41 = (cn : Int) + 1 := by
      refine Eq.trans xw_ug ?_
      omega
    exact ⟨_, rfl, by omega, v9, R9, F9⟩)
set_option maxRecDepth 20000 in
set_option maxHeartbeats 20000000 in
theorem xt_of15 {l : Launch} {t rd nm : Nat → Int} {n lim pz cn o : Nat} {μ : xw_M} {wi : Int} (hS : hr_S t n lim μ) (hT : hr_T t n lim pz μ) (hM : hr_M rd nm μ) (hK : hp_ok rd nm) (hN : μ 200 42 = ((o + 1 : Nat) : Int)) (ho : o ≤ 19) (hI : μ 200 43 = wi) (hC : μ 200 41 = (cn : Int)) (hc : cn ≤ 2 * o) (hR : hr_R μ) : xw_MetI l vwCl sa_Ts tb_KT0 tc_KL yX12_readOf cX12_readOf 2 (some .boolean) 6 211 (fun ad => [.ref (ad 200), .int (Int32.ofInt 15)]) μ (fun r μ' => hr_Q t n lim (hq_nu (hp_one t n lim nm 6 (rd 1).toNat pz) (o + 1)) cn o wi r μ' ∧ hr_R μ' ∧ xw_F [(200, 5, 13), (200, 41, 44), (218, 0, 239)] μ μ') :=
  xw_of (by decide +kernel) (fun _ => Nat.le_of_ble_eq_true rfl) (fun p e s m args below meth c D dA A al w0 sz C0 hU hO hKL hr hlk hA => by
    have hp9_μ := hT.1
    have c2_μ := hT.2.1
    have hkb_μ := hp_kb t n lim pz
    have hkw_μ := hp_kwb (hp_w t n pz)
    have k0 := hK.1
    have k1 := hK.2.1
    refine xw_aload_n (pc := 0) C0 0 dX12_readOf_0 rfl rfl ?_
    refine xw_iload_n (pc := 1) C0 1 dX12_readOf_1 rfl rfl ?_
    refine xw_bipush (pc := 2) C0 dX12_readOf_2 (by decide +kernel) ?_
    refine xw_icmp_ne (pc := 4) (tgt := 12) C0 (by omega) (by omega) dX12_readOf_4 rfl (fun b1 => ?_) (fun b1 => ?_)
    · exfalso
      omega
    · refine xw_bipush (pc := 7) C0 dX12_readOf_7 (by decide +kernel) ?_
      refine xw_goto (pc := 9) (tgt := 13) C0 dX12_readOf_9 rfl ?_
      refine xw_aload_n (pc := 13) C0 0 dX12_readOf_13 rfl rfl ?_
      refine xw_getR (pc := 14) (f := 14) C0 202 kcX12 dX12_readOf_14 (by decide +kernel) tv_1275 (xj_200 hKL) xk_0 rfl ((rfl).trans (xe_200_14 hS.1)) ?_
      refine xw_iload_n (pc := 17) C0 1 dX12_readOf_17 rfl rfl ?_
      refine xw_bipush (pc := 18) C0 dX12_readOf_18 (by decide +kernel) ?_
      refine xw_icmp_ne (pc := 20) (tgt := 27) C0 (by omega) (by omega) dX12_readOf_20 rfl (fun b2 => ?_) (fun b2 => ?_)
      · exfalso
        omega
      · refine xw_iconst (pc := 23) C0 dX12_readOf_23 ?_
        refine xw_goto (pc := 24) (tgt := 28) C0 dX12_readOf_24 rfl ?_
        refine xw_iald (pc := 28) (z := rd 1) C0 dX12_readOf_28 (xj_202 hKL) xk_1 (by omega) (by decide +kernel) rfl hM.1.2 (fun g3 k3 => ?_)
        refine  xw_nI (congrArg Int32.ofInt (show rd 1 = (((rd 1).toNat : Nat) : Int) by omega)) ?_
        refine xw_callVI (pc := 29) (μ := μ) (ci := 12) (rest := []) (As := [.int (Int32.ofInt ((6 : Nat) : Int)), .int (Int32.ofInt (((rd 1).toNat : Nat) : Int))]) C0 hU hO sa_Tg hKL (xt_named (l := l) (nm := nm) (base := 6) (m9 := (rd 1).toNat) hS hT (fun i hi => hM.2.2 i (by omega) (by omega)) (by omega)) tv_1815 dX12_readOf_29 tv_1812 tv_1814 tq_X12_readNamed tv_13 rfl yb_X12_readNamed (by decide +kernel) rfl rfl rfl (by decide +kernel) (Nat.le_of_ble_eq_true rfl) (xj_200 hKL) xk_0 (fun r4 m4 w4 => ?_)
        obtain ⟨w4, F4⟩ := w4
        rcases w4 with ⟨v4, p4, eo4, rfl, hT_m4, td4⟩ | ⟨e4, eo4, rfl, W4⟩
        · have nb4 := (hp_oneR eo4).1
          have td4 := td4 rfl
          have hS_m4 := hr_SF hS F4 (by decide +kernel)
          have hM_m4 := hr_MF hM F4 (by decide +kernel)
          have hN_m4 : m4 200 42 = (((o + 1) : Nat) : Int) := (F4 200 42 rfl).trans hN
          have hI_m4 : m4 200 43 = wi := (F4 200 43 rfl).trans hI
          have hC_m4 : m4 200 41 = ((cn : Nat) : Int) := (F4 200 41 rfl).trans hC
          have hR_m4 := hr_RF hR F4 (by decide +kernel)
          refine xw_if_ne (pc := 32) (tgt := 37) C0 (by omega) dX12_readOf_32 rfl (fun b5 => ?_) (fun b5 => ?_)
          · refine xw_aload_n (pc := 37) C0 0 dX12_readOf_37 rfl rfl ?_
            refine xw_aload_n (pc := 38) C0 0 dX12_readOf_38 rfl rfl ?_
            refine xw_bipush (pc := 39) C0 dX12_readOf_39 (by decide +kernel) ?_
            refine xw_iload_n (pc := 41) C0 1 dX12_readOf_41 rfl rfl ?_
            refine xw_iadd (pc := 42) C0 dX12_readOf_42 ?_
            refine  xw_nI (congrArg Int32.ofInt (show 50 + 15 = (65 : Int) by decide)) ?_
            refine xw_aload_n (pc := 43) C0 0 dX12_readOf_43 rfl rfl ?_
            refine xw_getI (pc := 44) (f := 13) (z := m4 200 13) C0 kcX12 dX12_readOf_44 (by decide +kernel) tv_1274 (xj_200 hKL) xk_0 rfl (rfl) (fun g6 k6 => ?_)
            refine xw_iconst (pc := 47) C0 dX12_readOf_47 ?_
            refine xw_iconst (pc := 48) C0 dX12_readOf_48 ?_
            refine xw_callVI (pc := 49) (μ := m4) (ci := 12) (rest := [.ref (xw_ad al 200)]) (As := [.int (Int32.ofInt 65), .int (Int32.ofInt (m4 200 13)), .int (Int32.ofInt 0), .int (Int32.ofInt 0)]) C0 hU hO sa_Tg hKL (xt_says (l := l) (cn := cn) (w9 := 65) (a9 := m4 200 13) (b9 := 0) (g9 := 0) (μ := m4) hS_m4.1 hC_m4 (by omega) hR_m4 (by omega) (by omega) (by omega) (by omega) (by omega) (by omega)) tv_1855 dX12_readOf_49 tv_1852 tv_1854 tq_X12_saysOne tv_13 rfl yb_X12_saysOne (by decide +kernel) rfl rfl rfl (by decide +kernel) (Nat.le_of_ble_eq_true rfl) (xj_200 hKL) xk_0 (fun r7 m7 w7 => ?_)
            obtain ⟨rfl, w7, hR_m7, F7⟩ := w7
            have hC_m7 : m7 200 41 = ((cn + 1 : Nat) : Int) := by omega
            have hS_m7 := hr_SF hS_m4 F7 (by decide +kernel)
            have hT_m7 := hr_TF hT_m4 F7 (by decide +kernel)
            have hM_m7 := hr_MF hM_m4 F7 (by decide +kernel)
            have hN_m7 : m7 200 42 = (((o + 1) : Nat) : Int) := (F7 200 42 rfl).trans hN_m4
            have hI_m7 : m7 200 43 = wi := (F7 200 43 rfl).trans hI_m4
            refine xw_putI (pc := 52) (f := 44) C0 kcX12 dX12_readOf_52 (by decide +kernel) tv_1305 rfl rfl (xj_200 hKL) xk_0 rfl (by omega) (by omega) ?_
            refine xw_iconst (pc := 55) C0 dX12_readOf_55 ?_
            refine xw_iret C0 hA hr hlk rfl dX12_readOf_56 ?_
            have eq : hq_nu (hp_one t n lim nm 6 (rd 1).toNat pz) (o + 1) = .inr (p4, o + 1) := by
              rw [eo4]
              rfl
            have Ft1 : xw_F [(200, 44, 44)] m7 (xw_u m7 200 44 ((cn : Nat) : Int)) := ((xw_F.rf (ML := [(200, 44, 44)])).u (show (200, 44, 44) ∈ _ by decide) ⟨by decide, by decide⟩)
            have vt1_200_44 : (xw_u m7 200 44 ((cn : Nat) : Int)) 200 44 = ((cn : Nat) : Int) := xw_ug
            generalize (xw_u m7 200 44 ((cn : Nat) : Int)) = t1 at Ft1 vt1_200_44 ⊢
            exact ⟨_, rfl, Or.inl ⟨p4, o + 1, cn + 1, eq, rfl, hr_TF hT_m7 Ft1 (by decide +kernel), (Ft1 200 42 rfl).trans hN_m7, by omega, (Ft1 200 41 rfl).trans hC_m7, by omega, by omega, (Ft1 200 43 rfl).trans hI_m7⟩, hr_RF hR_m7 Ft1 (by decide +kernel), ((((xw_F.rf (ML := [(200, 5, 13), (200, 41, 44), (218, 0, 239)])).tr F4 (fun j i h => xw_o_sub (by decide +kernel) j i h)).tr F7 (fun j i h => xw_o_sub (by decide +kernel) j i h)).tr Ft1 (fun j i h => xw_o_sub (by decide +kernel) j i h))⟩
          · exfalso
            omega
        · have hI_m4 : m4 200 43 = wi := (F4 200 43 rfl).trans hI
          have hR_m4 := hr_RF hR F4 (by decide +kernel)
          refine xw_if_ne (pc := 32) (tgt := 37) C0 (by omega) dX12_readOf_32 rfl (fun b8 => ?_) (fun b8 => ?_)
          · exfalso
            omega
          · refine xw_iconst (pc := 35) C0 dX12_readOf_35 ?_
            refine xw_iret C0 hA hr hlk rfl dX12_readOf_36 ?_
            have eq : hq_nu (hp_one t n lim nm 6 (rd 1).toNat pz) (o + 1) = .inl e4 := by
              rw [eo4]
              rfl
            exact ⟨_, rfl, Or.inr ⟨_, eq, rfl, W4, hI_m4⟩, hR_m4, ((xw_F.rf (ML := [(200, 5, 13), (200, 41, 44), (218, 0, 239)])).tr F4 (fun j i h => xw_o_sub (by decide +kernel) j i h))⟩)
set_option maxRecDepth 20000 in
set_option maxHeartbeats 20000000 in
theorem xt_of16 {l : Launch} {t rd nm : Nat → Int} {n lim pz cn o : Nat} {μ : xw_M} {wi : Int} (hS : hr_S t n lim μ) (hT : hr_T t n lim pz μ) (hM : hr_M rd nm μ) (hK : hp_ok rd nm) (hN : μ 200 42 = ((o + 1 : Nat) : Int)) (ho : o ≤ 19) (hI : μ 200 43 = wi) (hC : μ 200 41 = (cn : Int)) (hc : cn ≤ 2 * o) (hR : hr_R μ) : xw_MetI l vwCl sa_Ts tb_KT0 tc_KL yX12_readOf cX12_readOf 2 (some .boolean) 6 211 (fun ad => [.ref (ad 200), .int (Int32.ofInt 16)]) μ (fun r μ' => hr_Q t n lim (hq_nu (hp_one t n lim nm 0 (rd 0).toNat pz) (o + 1)) cn o wi r μ' ∧ hr_R μ' ∧ xw_F [(200, 5, 13), (200, 41, 44), (218, 0, 239)] μ μ') :=
  xw_of (by decide +kernel) (fun _ => Nat.le_of_ble_eq_true rfl) (fun p e s m args below meth c D dA A al w0 sz C0 hU hO hKL hr hlk hA => by
    have hp9_μ := hT.1
    have c2_μ := hT.2.1
    have hkb_μ := hp_kb t n lim pz
    have hkw_μ := hp_kwb (hp_w t n pz)
    have k0 := hK.1
    have k1 := hK.2.1
    refine xw_aload_n (pc := 0) C0 0 dX12_readOf_0 rfl rfl ?_
    refine xw_iload_n (pc := 1) C0 1 dX12_readOf_1 rfl rfl ?_
    refine xw_bipush (pc := 2) C0 dX12_readOf_2 (by decide +kernel) ?_
    refine xw_icmp_ne (pc := 4) (tgt := 12) C0 (by omega) (by omega) dX12_readOf_4 rfl (fun b1 => ?_) (fun b1 => ?_)
    · refine xw_iconst (pc := 12) C0 dX12_readOf_12 ?_
      refine xw_aload_n (pc := 13) C0 0 dX12_readOf_13 rfl rfl ?_
      refine xw_getR (pc := 14) (f := 14) C0 202 kcX12 dX12_readOf_14 (by decide +kernel) tv_1275 (xj_200 hKL) xk_0 rfl ((rfl).trans (xe_200_14 hS.1)) ?_
      refine xw_iload_n (pc := 17) C0 1 dX12_readOf_17 rfl rfl ?_
      refine xw_bipush (pc := 18) C0 dX12_readOf_18 (by decide +kernel) ?_
      refine xw_icmp_ne (pc := 20) (tgt := 27) C0 (by omega) (by omega) dX12_readOf_20 rfl (fun b2 => ?_) (fun b2 => ?_)
      · refine xw_iconst (pc := 27) C0 dX12_readOf_27 ?_
        refine xw_iald (pc := 28) (z := rd 0) C0 dX12_readOf_28 (xj_202 hKL) xk_1 (by omega) (by decide +kernel) rfl hM.1.1 (fun g3 k3 => ?_)
        refine  xw_nI (congrArg Int32.ofInt (show rd 0 = (((rd 0).toNat : Nat) : Int) by omega)) ?_
        refine xw_callVI (pc := 29) (μ := μ) (ci := 12) (rest := []) (As := [.int (Int32.ofInt ((0 : Nat) : Int)), .int (Int32.ofInt (((rd 0).toNat : Nat) : Int))]) C0 hU hO sa_Tg hKL (xt_named (l := l) (nm := nm) (base := 0) (m9 := (rd 0).toNat) hS hT (fun i hi => by rw [Nat.zero_add]; exact hM.2.1 i (by omega) (by omega)) (by omega)) tv_1815 dX12_readOf_29 tv_1812 tv_1814 tq_X12_readNamed tv_13 rfl yb_X12_readNamed (by decide +kernel) rfl rfl rfl (by decide +kernel) (Nat.le_of_ble_eq_true rfl) (xj_200 hKL) xk_0 (fun r4 m4 w4 => ?_)
        obtain ⟨w4, F4⟩ := w4
        rcases w4 with ⟨v4, p4, eo4, rfl, hT_m4, td4⟩ | ⟨e4, eo4, rfl, W4⟩
        · have nb4 := (hp_oneR eo4).1
          have td4 := td4 rfl
          have hS_m4 := hr_SF hS F4 (by decide +kernel)
          have hM_m4 := hr_MF hM F4 (by decide +kernel)
          have hN_m4 : m4 200 42 = (((o + 1) : Nat) : Int) := (F4 200 42 rfl).trans hN
          have hI_m4 : m4 200 43 = wi := (F4 200 43 rfl).trans hI
          have hC_m4 : m4 200 41 = ((cn : Nat) : Int) := (F4 200 41 rfl).trans hC
          have hR_m4 := hr_RF hR F4 (by decide +kernel)
          refine xw_if_ne (pc := 32) (tgt := 37) C0 (by omega) dX12_readOf_32 rfl (fun b5 => ?_) (fun b5 => ?_)
          · refine xw_aload_n (pc := 37) C0 0 dX12_readOf_37 rfl rfl ?_
            refine xw_aload_n (pc := 38) C0 0 dX12_readOf_38 rfl rfl ?_
            refine xw_bipush (pc := 39) C0 dX12_readOf_39 (by decide +kernel) ?_
            refine xw_iload_n (pc := 41) C0 1 dX12_readOf_41 rfl rfl ?_
            refine xw_iadd (pc := 42) C0 dX12_readOf_42 ?_
            refine  xw_nI (congrArg Int32.ofInt (show 50 + 16 = (66 : Int) by decide)) ?_
            refine xw_aload_n (pc := 43) C0 0 dX12_readOf_43 rfl rfl ?_
            refine xw_getI (pc := 44) (f := 13) (z := m4 200 13) C0 kcX12 dX12_readOf_44 (by decide +kernel) tv_1274 (xj_200 hKL) xk_0 rfl (rfl) (fun g6 k6 => ?_)
            refine xw_iconst (pc := 47) C0 dX12_readOf_47 ?_
            refine xw_iconst (pc := 48) C0 dX12_readOf_48 ?_
            refine xw_callVI (pc := 49) (μ := m4) (ci := 12) (rest := [.ref (xw_ad al 200)]) (As := [.int (Int32.ofInt 66), .int (Int32.ofInt (m4 200 13)), .int (Int32.ofInt 0), .int (Int32.ofInt 0)]) C0 hU hO sa_Tg hKL (xt_says (l := l) (cn := cn) (w9 := 66) (a9 := m4 200 13) (b9 := 0) (g9 := 0) (μ := m4) hS_m4.1 hC_m4 (by omega) hR_m4 (by omega) (by omega) (by omega) (by omega) (by omega) (by omega)) tv_1855 dX12_readOf_49 tv_1852 tv_1854 tq_X12_saysOne tv_13 rfl yb_X12_saysOne (by decide +kernel) rfl rfl rfl (by decide +kernel) (Nat.le_of_ble_eq_true rfl) (xj_200 hKL) xk_0 (fun r7 m7 w7 => ?_)
            obtain ⟨rfl, w7, hR_m7, F7⟩ := w7
            have hC_m7 : m7 200 41 = ((cn + 1 : Nat) : Int) := by omega
            have hS_m7 := hr_SF hS_m4 F7 (by decide +kernel)
            have hT_m7 := hr_TF hT_m4 F7 (by decide +kernel)
            have hM_m7 := hr_MF hM_m4 F7 (by decide +kernel)
            have hN_m7 : m7 200 42 = (((o + 1) : Nat) : Int) := (F7 200 42 rfl).trans hN_m4
            have hI_m7 : m7 200 43 = wi := (F7 200 43 rfl).trans hI_m4
            refine xw_putI (pc := 52) (f := 44) C0 kcX12 dX12_readOf_52 (by decide +kernel) tv_1305 rfl rfl (xj_200 hKL) xk_0 rfl (by omega) (by omega) ?_
            refine xw_iconst (pc := 55) C0 dX12_readOf_55 ?_
            refine xw_iret C0 hA hr hlk rfl dX12_readOf_56 ?_
            have eq : hq_nu (hp_one t n lim nm 0 (rd 0).toNat pz) (o + 1) = .inr (p4, o + 1) := by
              rw [eo4]
              rfl
            have Ft1 : xw_F [(200, 44, 44)] m7 (xw_u m7 200 44 ((cn : Nat) : Int)) := ((xw_F.rf (ML := [(200, 44, 44)])).u (show (200, 44, 44) ∈ _ by decide) ⟨by decide, by decide⟩)
            have vt1_200_44 : (xw_u m7 200 44 ((cn : Nat) : Int)) 200 44 = ((cn : Nat) : Int) := xw_ug
            generalize (xw_u m7 200 44 ((cn : Nat) : Int)) = t1 at Ft1 vt1_200_44 ⊢
            exact ⟨_, rfl, Or.inl ⟨p4, o + 1, cn + 1, eq, rfl, hr_TF hT_m7 Ft1 (by decide +kernel), (Ft1 200 42 rfl).trans hN_m7, by omega, (Ft1 200 41 rfl).trans hC_m7, by omega, by omega, (Ft1 200 43 rfl).trans hI_m7⟩, hr_RF hR_m7 Ft1 (by decide +kernel), ((((xw_F.rf (ML := [(200, 5, 13), (200, 41, 44), (218, 0, 239)])).tr F4 (fun j i h => xw_o_sub (by decide +kernel) j i h)).tr F7 (fun j i h => xw_o_sub (by decide +kernel) j i h)).tr Ft1 (fun j i h => xw_o_sub (by decide +kernel) j i h))⟩
          · exfalso
            omega
        · have hI_m4 : m4 200 43 = wi := (F4 200 43 rfl).trans hI
          have hR_m4 := hr_RF hR F4 (by decide +kernel)
          refine xw_if_ne (pc := 32) (tgt := 37) C0 (by omega) dX12_readOf_32 rfl (fun b8 => ?_) (fun b8 => ?_)
          · exfalso
            omega
          · refine xw_iconst (pc := 35) C0 dX12_readOf_35 ?_
            refine xw_iret C0 hA hr hlk rfl dX12_readOf_36 ?_
            have eq : hq_nu (hp_one t n lim nm 0 (rd 0).toNat pz) (o + 1) = .inl e4 := by
              rw [eo4]
              rfl
            exact ⟨_, rfl, Or.inr ⟨_, eq, rfl, W4, hI_m4⟩, hR_m4, ((xw_F.rf (ML := [(200, 5, 13), (200, 41, 44), (218, 0, 239)])).tr F4 (fun j i h => xw_o_sub (by decide +kernel) j i h))⟩
      · exfalso
        omega
    · exfalso
      omega)
