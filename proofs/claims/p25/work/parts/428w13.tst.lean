set_option maxRecDepth 20000 in
set_option maxHeartbeats 20000000 in
theorem xh_planV {l : Launch} (hl : l.stackTraces = false) {v nm : Nat → Int} {t9 s9 w9 : Int} {μ : xw_M} (hG : xw_G xw_GL μ) (ht9 : -2147483648 ≤ t9 ∧ t9 ≤ 2147483647) (hs9 : -2147483648 ≤ s9 ∧ s9 ≤ 2147483647) (hw9 : -2147483648 ≤ w9 ∧ w9 ≤ 2147483647) (hK : hp_ok v nm) (hE : hx_E v 4 μ) : xw_MetT l tb_KT0 tc_KL yX11_plan cX11_plan 4 (some .int) 11 346 (fun ad => [.ref (ad 0), .int (Int32.ofInt t9), .int (Int32.ofInt s9), .int (Int32.ofInt w9)]) μ (fun r μ' => hx_plk v t9 s9 w9 ∧ r = hx_pr v t9 s9 w9 ∧ hx_bC (hx_pq v t9 s9) μ' ∧ xw_F [(137, 1, 3), (138, 0, 3), (139, 0, 3), (140, 0, 31), (141, 0, 3)] μ μ') (fun μ' => ¬ hx_plk v t9 s9 w9 ∧ μ = μ') :=
  xw_ofT (by decide +kernel) (fun _ => Nat.le_of_ble_eq_true rfl) (fun p e s m args below meth c D dA A al w0 sz C0 hU hO hKL hr hlk hA hno => by
    have c0 : μ 4 13 = v 0 := hE.1.1
    refine xw_aload_n (pc := 0) C0 0 dX11_plan_0 rfl rfl ?_
    refine xw_iload_n (pc := 1) C0 1 dX11_plan_1 rfl rfl ?_
    refine xw_callVI (pc := 2) (μ := μ) (ci := 11) (rest := []) (As := [.int (Int32.ofInt t9)]) C0 hU hO sa_Tg hKL (xh_isThing (l := l) (v := t9) hG (by omega)) tv_675 dX11_plan_2 tv_672 tv_674 tq_X11_isThing tv_1 rfl yb_X11_isThing (by decide +kernel) rfl rfl rfl (by decide +kernel) (Nat.le_of_ble_eq_true rfl) (xj_0 hKL) xk_27 (fun r1 m1 w1 => ?_)
    obtain ⟨rfl, w1⟩ := w1
    rcases w1 with ⟨w1, rfl⟩ | ⟨w1, rfl⟩
    · refine xw_if_eq (pc := 5) (tgt := 40) C0 (by omega) dX11_plan_5 rfl (fun b2 => ?_) (fun b2 => ?_)
      · exfalso
        omega
      · refine xw_iload_n (pc := 8) C0 2 dX11_plan_8 rfl rfl ?_
        refine xw_if_eq (pc := 9) (tgt := 40) C0 (by omega) dX11_plan_9 rfl (fun b3 => ?_) (fun b3 => ?_)
        · refine xw_throw C0 hl hO hA hlk hno tv_18 ⟨_, _, dX11_plan_40, dX11_plan_43, dX11_plan_44, dX11_plan_47, tv_1123, by decide +kernel⟩ (by decide +kernel) (by decide +kernel) (by decide +kernel) ?_
          refine ⟨fun q => ?_, rfl⟩
          obtain ⟨q1, ⟨q2, q3⟩, q4⟩ := q
          first
          | omega
          | exact absurd (z9.mpr ⟨q2, fun f hf h => (q3 f hf h).trans hT9⟩).2 (by omega)
        · refine xw_iload_n (pc := 12) C0 3 dX11_plan_12 rfl rfl ?_
          refine xw_if_lt (pc := 13) (tgt := 40) C0 (by omega) dX11_plan_13 rfl (fun b4 => ?_) (fun b4 => ?_)
          · refine xw_throw C0 hl hO hA hlk hno tv_18 ⟨_, _, dX11_plan_40, dX11_plan_43, dX11_plan_44, dX11_plan_47, tv_1123, by decide +kernel⟩ (by decide +kernel) (by decide +kernel) (by decide +kernel) ?_
            refine ⟨fun q => ?_, rfl⟩
            obtain ⟨q1, ⟨q2, q3⟩, q4⟩ := q
            first
            | omega
            | exact absurd (z9.mpr ⟨q2, fun f hf h => (q3 f hf h).trans hT9⟩).2 (by omega)
          · refine xw_iload_n (pc := 16) C0 3 dX11_plan_16 rfl rfl ?_
            refine xw_iconst (pc := 17) C0 dX11_plan_17 ?_
            refine xw_icmp_gt (pc := 18) (tgt := 40) C0 (by omega) (by omega) dX11_plan_18 rfl (fun b5 => ?_) (fun b5 => ?_)
            · refine xw_throw C0 hl hO hA hlk hno tv_18 ⟨_, _, dX11_plan_40, dX11_plan_43, dX11_plan_44, dX11_plan_47, tv_1123, by decide +kernel⟩ (by decide +kernel) (by decide +kernel) (by decide +kernel) ?_
              refine ⟨fun q => ?_, rfl⟩
              obtain ⟨q1, ⟨q2, q3⟩, q4⟩ := q
              first
              | omega
              | exact absurd (z9.mpr ⟨q2, fun f hf h => (q3 f hf h).trans hT9⟩).2 (by omega)
            · refine xw_iload_n (pc := 21) C0 2 dX11_plan_21 rfl rfl ?_
              refine xw_aload_n (pc := 22) C0 0 dX11_plan_22 rfl rfl ?_
              refine xw_getR (pc := 23) (f := 1) C0 3 kcX11 dX11_plan_23 (by decide +kernel) tv_423 (xj_0 hKL) xk_27 rfl ((rfl).trans (xe_0_1 hG)) ?_
              refine xw_getR (pc := 26) (f := 0) C0 4 kcX10 dX11_plan_26 (by decide +kernel) tv_234 (xj_3 hKL) xk_24 rfl ((rfl).trans (xe_3_0 hG)) ?_
              refine xw_getR (pc := 29) (f := 6) C0 11 kcX2 dX11_plan_29 (by decide +kernel) tv_80 (xj_4 hKL) xk_28 rfl ((rfl).trans (xe_4_6 hG)) ?_
              refine xw_iload_n (pc := 32) C0 1 dX11_plan_32 rfl rfl ?_
              obtain ⟨T, hT9⟩ : ∃ T : Nat, t9 = (T : Int) := ⟨t9.toNat, by omega⟩
              have hT : (T : Int) < v 0 := by omega
              have k0 := hK.1
              refine xw_nI (congrArg Int32.ofInt hT9) ?_
              have a6 : μ 11 ((T : Int)).toNat = ((hx_bs (hx_hm v T) (v 1).toNat : Nat) : Int) := ((hE.2.2.2.2 T (by omega) hT).2).trans (hx_fob _)
              refine xw_iald (pc := 33) (z := ((hx_bs (hx_hm v T) (v 1).toNat : Nat) : Int)) C0 dX11_plan_33 (xj_11 hKL) xk_35 (by omega) (by decide +kernel) (xw_rl (by omega)) a6 (fun g6 k6 => ?_)
              refine xw_iconst (pc := 34) C0 dX11_plan_34 ?_
              obtain ⟨y9, hy9, iy9⟩ := xb_wi (Int32.ofInt ((hx_bs (hx_hm v T) (v 1).toNat : Nat) : Int) ^^^ Int32.ofInt (-1))
              refine xw_ixor (pc := 35) C0 dX11_plan_35 iy9 ?_
              obtain ⟨y8, hy8, iy8⟩ := xb_wi (Int32.ofInt s9 &&& Int32.ofInt y9)
              have z9 := hx_pA (T := T) (s := s9) (y := y8) hK hs9 (by omega) (by rw [iy9]; exact iy8)
              refine xw_iand (pc := 36) C0 dX11_plan_36 iy8 ?_
              refine xw_if_eq (pc := 37) (tgt := 48) C0 (by omega) dX11_plan_37 rfl (fun b7 => ?_) (fun b7 => ?_)
              · refine xw_aload_n (pc := 48) C0 0 dX11_plan_48 rfl rfl ?_
                refine xw_getR (pc := 49) (f := 8) C0 137 kcX11 dX11_plan_49 (by decide +kernel) tv_430 (xj_0 hKL) xk_27 rfl ((rfl).trans (xe_0_8 hG)) ?_
                refine xw_aload_n (pc := 52) C0 0 dX11_plan_52 rfl rfl ?_
                refine xw_getR (pc := 53) (f := 1) C0 3 kcX11 dX11_plan_53 (by decide +kernel) tv_423 (xj_0 hKL) xk_27 rfl ((rfl).trans (xe_0_1 hG)) ?_
                refine xw_getR (pc := 56) (f := 0) C0 4 kcX10 dX11_plan_56 (by decide +kernel) tv_234 (xj_3 hKL) xk_24 rfl ((rfl).trans (xe_3_0 hG)) ?_
                refine xw_iload_n (pc := 59) C0 1 dX11_plan_59 rfl rfl ?_
                refine xw_nI (congrArg Int32.ofInt hT9) ?_
                refine xw_iload_n (pc := 60) C0 2 dX11_plan_60 rfl rfl ?_
                have z8 := z9.mp ⟨by omega, by omega⟩
                obtain ⟨eS, s8⟩ := hx_pN hK z8.1
                have s9B := hx_smB (W := hx_w0 v (fun j => s9.toNat.testBit j) (v 1).toNat) 8 (fun f hf => hx_w0B hK hf)
                refine xw_nI (congrArg Int32.ofInt eS) ?_
                refine xw_callVV (pc := 61) (μ := μ) (ci := 5) (rest := []) (As := [.ref (xw_ad al 4), .int (Int32.ofInt (T : Int)), .int (Int32.ofInt ((hx_bs (fun j => s9.toNat.testBit j) (v 1).toNat : Nat) : Int))]) C0 hU hO sa_Tg hKL (xq_mp (l := l) (v := v) (nm := nm) (ps := (fun j => s9.toNat.testBit j)) (T := T) (μ := μ) hG hK hE hT (by omega)) tv_1212 dX11_plan_61 tv_1209 tv_1210 tv_1211 tv_12 rfl yb_X5_makePlan (by decide +kernel) rfl rfl rfl (by decide +kernel) (Nat.le_of_ble_eq_true rfl) (xj_137 hKL) xk_69 (fun m8 w8 => ?_)
                obtain ⟨E8, H8, F8⟩ := w8
                have hG_m8 := xw_GF hG F8 (by decide +kernel)
                have L8 := hx_pSL (v := v) (nm := nm) (p := (fun j => s9.toNat.testBit j)) (T := T) hK (by omega)
                have A8 : m8 137 2 = (hx_pS v (fun j => s9.toNat.testBit j) T).1 ∧ 0 ≤ (hx_pS v (fun j => s9.toNat.testBit j) T).1 := by
                  rcases H8.1 with ⟨q1, q2⟩ | ⟨q1, q2, q3⟩
                  · omega
                  · exact ⟨q3, q2⟩
                refine xw_aload_n (pc := 64) C0 0 dX11_plan_64 rfl rfl ?_
                refine xw_getR (pc := 65) (f := 8) C0 137 kcX11 dX11_plan_65 (by decide +kernel) tv_430 (xj_0 hKL) xk_27 rfl (((F8 0 8 rfl).trans rfl).trans (xe_0_8 hG)) ?_
                refine xw_getI (pc := 68) (f := 2) (z := m8 137 2) C0 kcX5 dX11_plan_68 (by decide +kernel) tv_401 (xj_137 hKL) xk_69 rfl (rfl) (fun g10 k10 => ?_)
                refine xw_nI (congrArg Int32.ofInt (show m8 137 2 = (((hx_pS v (fun j => s9.toNat.testBit j) T).1.toNat : Nat) : Int) by omega)) ?_
                refine xw_aload_n (pc := 71) C0 0 dX11_plan_71 rfl rfl ?_
                refine xw_getR (pc := 72) (f := 8) C0 137 kcX11 dX11_plan_72 (by decide +kernel) tv_430 (xj_0 hKL) xk_27 rfl (((F8 0 8 rfl).trans rfl).trans (xe_0_8 hG)) ?_
                refine xw_getI (pc := 75) (f := 3) (z := m8 137 3) C0 kcX5 dX11_plan_75 (by decide +kernel) tv_403 (xj_137 hKL) xk_69 rfl (rfl) (fun g11 k11 => ?_)
                refine xw_nI (congrArg Int32.ofInt (show m8 137 3 = (((hx_sm (hx_w0 v (fun j => s9.toNat.testBit j) (v 1).toNat) 8).toNat : Nat) : Int) by omega)) ?_
                refine xw_iload_n (pc := 78) C0 3 dX11_plan_78 rfl rfl ?_
                refine xw_callSI (pc := 79) (μ := m8) (rest := []) (As := [.int (Int32.ofInt (((hx_pS v (fun j => s9.toNat.testBit j) T).1.toNat : Nat) : Int)), .int (Int32.ofInt (((hx_sm (hx_w0 v (fun j => s9.toNat.testBit j) (v 1).toNat) 8).toNat : Nat) : Int)), .int (Int32.ofInt w9)]) C0 hU hO sa_Tg hKL (xq_lt (l := l) (A9 := (hx_pS v (fun j => s9.toNat.testBit j) T).1.toNat) (B9 := (hx_sm (hx_w0 v (fun j => s9.toNat.testBit j) (v 1).toNat) 8).toNat) (w9 := w9) (μ := m8) hG_m8 hw9 (by omega) (by omega)) tv_1200 dX11_plan_79 tv_1198 tv_1199 tv_1 yb_X11_leastTerm (by decide +kernel) rfl rfl rfl (by decide +kernel) (Nat.le_of_ble_eq_true rfl) (fun r12 m12 w12 => ?_)
                obtain ⟨rfl, w12⟩ := w12
                refine xw_iretT C0 hA hr hlk rfl dX11_plan_82 ?_
                have eT : t9.toNat = T := by omega
                refine ⟨_, rfl, ⟨by omega, ⟨z8.1, fun f hf h => (z8.2 f hf h).trans hT9.symm⟩, by omega⟩, ?_, ?_, F8⟩
                · unfold hx_pr hx_pq hx_pw
                  rw [eT]
                  exact w12
                · unfold hx_pq
                  rw [eT]
                  exact H8
              · refine xw_throw C0 hl hO hA hlk hno tv_18 ⟨_, _, dX11_plan_40, dX11_plan_43, dX11_plan_44, dX11_plan_47, tv_1123, by decide +kernel⟩ (by decide +kernel) (by decide +kernel) (by decide +kernel) ?_
                refine ⟨fun q => ?_, rfl⟩
                obtain ⟨q1, ⟨q2, q3⟩, q4⟩ := q
                first
                | omega
                | exact absurd (z9.mpr ⟨q2, fun f hf h => (q3 f hf h).trans hT9⟩).2 (by omega)
    · refine xw_if_eq (pc := 5) (tgt := 40) C0 (by omega) dX11_plan_5 rfl (fun b13 => ?_) (fun b13 => ?_)
      · refine xw_throw C0 hl hO hA hlk hno tv_18 ⟨_, _, dX11_plan_40, dX11_plan_43, dX11_plan_44, dX11_plan_47, tv_1123, by decide +kernel⟩ (by decide +kernel) (by decide +kernel) (by decide +kernel) ?_
        refine ⟨fun q => ?_, rfl⟩
        obtain ⟨q1, ⟨q2, q3⟩, q4⟩ := q
        first
        | omega
        | exact absurd (z9.mpr ⟨q2, fun f hf h => (q3 f hf h).trans hT9⟩).2 (by omega)
      · exfalso
        omega)
set_option maxRecDepth 20000 in
set_option maxHeartbeats 20000000 in
theorem xr_kp1 {l : Launch} {B : hx_pB} {c9 : Int} {row : Nat → Int} {μ : xw_M} (hG : xw_G xw_GL μ) (hc : 0 ≤ c9 ∧ c9 < 2000000000) (hrw : ∀ i : Nat, i < 1 → μ 213 i = row i) (hB : hx_bR B μ) : xw_MetV l vwCl sa_Ts tb_KT0 tc_KL yX12_keepPlan cX12_keepPlan 4 none 2 120 (fun ad => [.ref (ad 200), .int (Int32.ofInt 1), .int (Int32.ofInt c9)]) μ (fun μ' => hx_bR (hx_kp B 1 c9 row) μ' ∧ xw_F [(200, 30, 31), (214, 0, 0)] μ μ') :=
  xw_of (by decide +kernel) (fun _ => Nat.le_of_ble_eq_true rfl) (fun p e s m args below meth c D dA A al w0 sz C0 hU hO hKL hr hlk hA => by
    refine xw_iload_n (pc := 0) C0 2 dX12_keepPlan_0 rfl rfl ?_
    refine xw_aload_n (pc := 1) C0 0 dX12_keepPlan_1 rfl rfl ?_
    refine xw_getI (pc := 2) (f := 31) (z := μ 200 31) C0 kcX12 dX12_keepPlan_2 (by decide +kernel) tv_1292 (xj_200 hKL) xk_0 rfl (rfl) (fun g1 k1 => ?_)
    refine xw_icmp_lt (pc := 5) (tgt := 9) C0 (by omega) (by omega) dX12_keepPlan_5 rfl (fun b2 => ?_) (fun b2 => ?_)
    · refine xw_aload_n (pc := 9) C0 0 dX12_keepPlan_9 rfl rfl ?_
      refine xw_iload_n (pc := 10) C0 2 dX12_keepPlan_10 rfl rfl ?_
      refine xw_putI (pc := 11) (f := 31) C0 kcX12 dX12_keepPlan_11 (by decide +kernel) tv_1292 rfl rfl (xj_200 hKL) xk_0 rfl (by omega) (by omega) ?_
      refine xw_aload_n (pc := 14) C0 0 dX12_keepPlan_14 rfl rfl ?_
      refine xw_iload_n (pc := 15) C0 1 dX12_keepPlan_15 rfl rfl ?_
      refine xw_putI (pc := 16) (f := 30) C0 kcX12 dX12_keepPlan_16 (by decide +kernel) tv_1291 rfl rfl (xj_200 hKL) xk_0 rfl (by omega) (by omega) ?_
      refine xw_iconst (pc := 19) C0 dX12_keepPlan_19 ?_
      refine xw_istore_n (pc := 20) (L' := [(3, .int (Int32.ofInt 0)), (0, .ref (xw_ad al 200)), (1, .int (Int32.ofInt 1)), (2, .int (Int32.ofInt c9))]) C0 dX12_keepPlan_20 rfl (by decide +kernel) rfl ?_
      refine xw_iload_n (pc := 21) C0 0 dX12_keepPlan_21 rfl rfl ?_
      refine xw_iload_n (pc := 22) C0 2 dX12_keepPlan_22 rfl rfl ?_
      refine xw_icmp_ge (pc := 23) (tgt := 44) C0 (by omega) (by omega) dX12_keepPlan_23 rfl (fun b3 => ?_) (fun b3 => ?_)
      · exfalso
        omega
      · refine xw_aload_n (pc := 26) C0 1 dX12_keepPlan_26 rfl rfl ?_
        refine xw_getR (pc := 27) (f := 29) C0 214 kcX12 dX12_keepPlan_27 (by decide +kernel) tv_1290 (xj_200 hKL) xk_0 rfl (((xw_un (by decide +kernel)).trans ((xw_un (by decide +kernel)).trans rfl)).trans (xe_200_29 hG)) ?_
        refine xw_iload_n (pc := 30) C0 0 dX12_keepPlan_30 rfl rfl ?_
        refine xw_aload_n (pc := 31) C0 1 dX12_keepPlan_31 rfl rfl ?_
        refine xw_getR (pc := 32) (f := 28) C0 213 kcX12 dX12_keepPlan_32 (by decide +kernel) tv_1289 (xj_200 hKL) xk_0 rfl (((xw_un (by decide +kernel)).trans ((xw_un (by decide +kernel)).trans rfl)).trans (xe_200_28 hG)) ?_
        refine xw_iload_n (pc := 35) C0 0 dX12_keepPlan_35 rfl rfl ?_
        refine xw_iald (pc := 36) (z := μ 213 0) C0 dX12_keepPlan_36 (xj_213 hKL) xk_83 (by omega) (by decide +kernel) (xw_rl (by omega)) ((xw_un (fun q => absurd q.1 (by decide +kernel))).trans ((xw_un (fun q => absurd q.1 (by decide +kernel))).trans rfl)) (fun g4 k4 => ?_)
        refine xw_iast (pc := 37) C0 dX12_keepPlan_37 (xj_214 hKL) xk_84 (by omega) (by decide +kernel) (xw_rl (by omega)) (by omega) (by omega) ?_
        refine xw_mu (μ' := (xw_u (xw_u (xw_u μ 200 31 c9) 200 30 1) 214 0 (μ 213 0))) rfl ?_
        refine xw_iinc (pc := 38) (L' := [(3, .int (Int32.ofInt 1)), (0, .ref (xw_ad al 200)), (1, .int (Int32.ofInt 1)), (2, .int (Int32.ofInt c9))]) C0 0 dX12_keepPlan_38 rfl (by decide +kernel) rfl ?_
        refine xw_goto (pc := 41) (tgt := 21) C0 dX12_keepPlan_41 rfl ?_
        refine xw_iload_n (pc := 21) C0 0 dX12_keepPlan_21 rfl rfl ?_
        refine xw_iload_n (pc := 22) C0 2 dX12_keepPlan_22 rfl rfl ?_
        refine xw_icmp_ge (pc := 23) (tgt := 44) C0 (by omega) (by omega) dX12_keepPlan_23 rfl (fun b5 => ?_) (fun b5 => ?_)
        · refine xw_vret C0 hA hr hlk dX12_keepPlan_44 ?_
          have Ft1 : xw_F [(200, 30, 30), (200, 31, 31), (214, 0, 0)] μ (xw_u (xw_u (xw_u μ 200 31 c9) 200 30 1) 214 0 (μ 213 0)) := ((((xw_F.rf (ML := [(200, 30, 30), (200, 31, 31), (214, 0, 0)])).u (show (200, 31, 31) ∈ _ by decide) ⟨by decide, by decide⟩).u (show (200, 30, 30) ∈ _ by decide) ⟨by decide, by decide⟩).u (show (214, 0, 0) ∈ _ by decide) ⟨by decide, by decide⟩)
          have vt1_214_0 : (xw_u (xw_u (xw_u μ 200 31 c9) 200 30 1) 214 0 (μ 213 0)) 214 0 = μ 213 0 := xw_ug
          have vt1_200_30 : (xw_u (xw_u (xw_u μ 200 31 c9) 200 30 1) 214 0 (μ 213 0)) 200 30 = 1 := (xw_un (fun q => absurd q.1 (by decide +kernel))).trans xw_ug
          have vt1_200_31 : (xw_u (xw_u (xw_u μ 200 31 c9) 200 30 1) 214 0 (μ 213 0)) 200 31 = c9 := (xw_un (fun q => absurd q.1 (by decide +kernel))).trans ((xw_un (by decide +kernel)).trans xw_ug)
          generalize (xw_u (xw_u (xw_u μ 200 31 c9) 200 30 1) 214 0 (μ 213 0)) = t1 at Ft1 vt1_214_0 vt1_200_30 vt1_200_31 ⊢
          have e9 : hx_kp B 1 c9 row = (c9, 1, row) := hx_kpT (by have q := hB.1.2.2; omega)
          rw [e9]
          refine ⟨rfl, ⟨⟨hc.1, (show c9 ≤ 2000000000 by omega), vt1_200_31⟩, fun _ => ⟨vt1_200_30, fun i _ hi => ?_⟩⟩, ((xw_F.rf (ML := [(200, 30, 31), (214, 0, 0)])).tr Ft1 (fun j i h => xw_o_sub (by decide +kernel) j i h))⟩
          have hi : i < 1 := by have hi : (i : Int) < 1 := hi; omega
          rcases (show i = 0 by omega) with rfl
          · exact vt1_214_0.trans (hrw 0 (by decide +kernel))
        · exfalso
          omega
    · refine xw_vret C0 hA hr hlk dX12_keepPlan_8 ?_
      have e9 : hx_kp B 1 c9 row = B := hx_kpF (by have q := hB.1.2.2; omega)
      rw [e9]
      exact ⟨rfl, hB, xw_F.rf⟩)
set_option maxRecDepth 20000 in
set_option maxHeartbeats 20000000 in
theorem xr_kp2 {l : Launch} {B : hx_pB} {c9 : Int} {row : Nat → Int} {μ : xw_M} (hG : xw_G xw_GL μ) (hc : 0 ≤ c9 ∧ c9 < 2000000000) (hrw : ∀ i : Nat, i < 2 → μ 213 i = row i) (hB : hx_bR B μ) : xw_MetV l vwCl sa_Ts tb_KT0 tc_KL yX12_keepPlan cX12_keepPlan 4 none 2 120 (fun ad => [.ref (ad 200), .int (Int32.ofInt 2), .int (Int32.ofInt c9)]) μ (fun μ' => hx_bR (hx_kp B 2 c9 row) μ' ∧ xw_F [(200, 30, 31), (214, 0, 1)] μ μ') :=
  xw_of (by decide +kernel) (fun _ => Nat.le_of_ble_eq_true rfl) (fun p e s m args below meth c D dA A al w0 sz C0 hU hO hKL hr hlk hA => by
    refine xw_iload_n (pc := 0) C0 2 dX12_keepPlan_0 rfl rfl ?_
    refine xw_aload_n (pc := 1) C0 0 dX12_keepPlan_1 rfl rfl ?_
    refine xw_getI (pc := 2) (f := 31) (z := μ 200 31) C0 kcX12 dX12_keepPlan_2 (by decide +kernel) tv_1292 (xj_200 hKL) xk_0 rfl (rfl) (fun g1 k1 => ?_)
    refine xw_icmp_lt (pc := 5) (tgt := 9) C0 (by omega) (by omega) dX12_keepPlan_5 rfl (fun b2 => ?_) (fun b2 => ?_)
    · refine xw_aload_n (pc := 9) C0 0 dX12_keepPlan_9 rfl rfl ?_
      refine xw_iload_n (pc := 10) C0 2 dX12_keepPlan_10 rfl rfl ?_
      refine xw_putI (pc := 11) (f := 31) C0 kcX12 dX12_keepPlan_11 (by decide +kernel) tv_1292 rfl rfl (xj_200 hKL) xk_0 rfl (by omega) (by omega) ?_
      refine xw_aload_n (pc := 14) C0 0 dX12_keepPlan_14 rfl rfl ?_
      refine xw_iload_n (pc := 15) C0 1 dX12_keepPlan_15 rfl rfl ?_
      refine xw_putI (pc := 16) (f := 30) C0 kcX12 dX12_keepPlan_16 (by decide +kernel) tv_1291 rfl rfl (xj_200 hKL) xk_0 rfl (by omega) (by omega) ?_
      refine xw_iconst (pc := 19) C0 dX12_keepPlan_19 ?_
      refine xw_istore_n (pc := 20) (L' := [(3, .int (Int32.ofInt 0)), (0, .ref (xw_ad al 200)), (1, .int (Int32.ofInt 2)), (2, .int (Int32.ofInt c9))]) C0 dX12_keepPlan_20 rfl (by decide +kernel) rfl ?_
      refine xw_iload_n (pc := 21) C0 0 dX12_keepPlan_21 rfl rfl ?_
      refine xw_iload_n (pc := 22) C0 2 dX12_keepPlan_22 rfl rfl ?_
      refine xw_icmp_ge (pc := 23) (tgt := 44) C0 (by omega) (by omega) dX12_keepPlan_23 rfl (fun b3 => ?_) (fun b3 => ?_)
      · exfalso
        omega
      · refine xw_aload_n (pc := 26) C0 1 dX12_keepPlan_26 rfl rfl ?_
        refine xw_getR (pc := 27) (f := 29) C0 214 kcX12 dX12_keepPlan_27 (by decide +kernel) tv_1290 (xj_200 hKL) xk_0 rfl (((xw_un (by decide +kernel)).trans ((xw_un (by decide +kernel)).trans rfl)).trans (xe_200_29 hG)) ?_
        refine xw_iload_n (pc := 30) C0 0 dX12_keepPlan_30 rfl rfl ?_
        refine xw_aload_n (pc := 31) C0 1 dX12_keepPlan_31 rfl rfl ?_
        refine xw_getR (pc := 32) (f := 28) C0 213 kcX12 dX12_keepPlan_32 (by decide +kernel) tv_1289 (xj_200 hKL) xk_0 rfl (((xw_un (by decide +kernel)).trans ((xw_un (by decide +kernel)).trans rfl)).trans (xe_200_28 hG)) ?_
        refine xw_iload_n (pc := 35) C0 0 dX12_keepPlan_35 rfl rfl ?_
        refine xw_iald (pc := 36) (z := μ 213 0) C0 dX12_keepPlan_36 (xj_213 hKL) xk_83 (by omega) (by decide +kernel) (xw_rl (by omega)) ((xw_un (fun q => absurd q.1 (by decide +kernel))).trans ((xw_un (fun q => absurd q.1 (by decide +kernel))).trans rfl)) (fun g4 k4 => ?_)
        refine xw_iast (pc := 37) C0 dX12_keepPlan_37 (xj_214 hKL) xk_84 (by omega) (by decide +kernel) (xw_rl (by omega)) (by omega) (by omega) ?_
        refine xw_mu (μ' := (xw_u (xw_u (xw_u μ 200 31 c9) 200 30 2) 214 0 (μ 213 0))) rfl ?_
        refine xw_iinc (pc := 38) (L' := [(3, .int (Int32.ofInt 1)), (0, .ref (xw_ad al 200)), (1, .int (Int32.ofInt 2)), (2, .int (Int32.ofInt c9))]) C0 0 dX12_keepPlan_38 rfl (by decide +kernel) rfl ?_
        refine xw_goto (pc := 41) (tgt := 21) C0 dX12_keepPlan_41 rfl ?_
        refine xw_iload_n (pc := 21) C0 0 dX12_keepPlan_21 rfl rfl ?_
        refine xw_iload_n (pc := 22) C0 2 dX12_keepPlan_22 rfl rfl ?_
        refine xw_icmp_ge (pc := 23) (tgt := 44) C0 (by omega) (by omega) dX12_keepPlan_23 rfl (fun b5 => ?_) (fun b5 => ?_)
        · exfalso
          omega
        · refine xw_aload_n (pc := 26) C0 1 dX12_keepPlan_26 rfl rfl ?_
          refine xw_getR (pc := 27) (f := 29) C0 214 kcX12 dX12_keepPlan_27 (by decide +kernel) tv_1290 (xj_200 hKL) xk_0 rfl (((xw_un (fun q => absurd q.1 (by decide +kernel))).trans ((xw_un (by decide +kernel)).trans ((xw_un (by decide +kernel)).trans rfl))).trans (xe_200_29 hG)) ?_
          refine xw_iload_n (pc := 30) C0 0 dX12_keepPlan_30 rfl rfl ?_
          refine xw_aload_n (pc := 31) C0 1 dX12_keepPlan_31 rfl rfl ?_
          refine xw_getR (pc := 32) (f := 28) C0 213 kcX12 dX12_keepPlan_32 (by decide +kernel) tv_1289 (xj_200 hKL) xk_0 rfl (((xw_un (fun q => absurd q.1 (by decide +kernel))).trans ((xw_un (by decide +kernel)).trans ((xw_un (by decide +kernel)).trans rfl))).trans (xe_200_28 hG)) ?_
          refine xw_iload_n (pc := 35) C0 0 dX12_keepPlan_35 rfl rfl ?_
          refine xw_iald (pc := 36) (z := μ 213 1) C0 dX12_keepPlan_36 (xj_213 hKL) xk_83 (by omega) (by decide +kernel) (xw_rl (by omega)) ((xw_un (fun q => absurd q.1 (by decide +kernel))).trans ((xw_un (fun q => absurd q.1 (by decide +kernel))).trans ((xw_un (fun q => absurd q.1 (by decide +kernel))).trans rfl))) (fun g6 k6 => ?_)
          refine xw_iast (pc := 37) C0 dX12_keepPlan_37 (xj_214 hKL) xk_84 (by omega) (by decide +kernel) (xw_rl (by omega)) (by omega) (by omega) ?_
          refine xw_mu (μ' := (xw_u (xw_u (xw_u (xw_u μ 200 31 c9) 200 30 2) 214 0 (μ 213 0)) 214 1 (μ 213 1))) rfl ?_
          refine xw_iinc (pc := 38) (L' := [(3, .int (Int32.ofInt 2)), (0, .ref (xw_ad al 200)), (1, .int (Int32.ofInt 2)), (2, .int (Int32.ofInt c9))]) C0 0 dX12_keepPlan_38 rfl (by decide +kernel) rfl ?_
          refine xw_goto (pc := 41) (tgt := 21) C0 dX12_keepPlan_41 rfl ?_
          refine xw_iload_n (pc := 21) C0 0 dX12_keepPlan_21 rfl rfl ?_
          refine xw_iload_n (pc := 22) C0 2 dX12_keepPlan_22 rfl rfl ?_
          refine xw_icmp_ge (pc := 23) (tgt := 44) C0 (by omega) (by omega) dX12_keepPlan_23 rfl (fun b7 => ?_) (fun b7 => ?_)
          · refine xw_vret C0 hA hr hlk dX12_keepPlan_44 ?_
            have Ft1 : xw_F [(200, 30, 30), (200, 31, 31), (214, 0, 0), (214, 1, 1)] μ (xw_u (xw_u (xw_u (xw_u μ 200 31 c9) 200 30 2) 214 0 (μ 213 0)) 214 1 (μ 213 1)) := (((((xw_F.rf (ML := [(200, 30, 30), (200, 31, 31), (214, 0, 0), (214, 1, 1)])).u (show (200, 31, 31) ∈ _ by decide) ⟨by decide, by decide⟩).u (show (200, 30, 30) ∈ _ by decide) ⟨by decide, by decide⟩).u (show (214, 0, 0) ∈ _ by decide) ⟨by decide, by decide⟩).u (show (214, 1, 1) ∈ _ by decide) ⟨by decide, by decide⟩)
            have vt1_214_1 : (xw_u (xw_u (xw_u (xw_u μ 200 31 c9) 200 30 2) 214 0 (μ 213 0)) 214 1 (μ 213 1)) 214 1 = μ 213 1 := xw_ug
            have vt1_214_0 : (xw_u (xw_u (xw_u (xw_u μ 200 31 c9) 200 30 2) 214 0 (μ 213 0)) 214 1 (μ 213 1)) 214 0 = μ 213 0 := (xw_un (by decide +kernel)).trans xw_ug
            have vt1_200_30 : (xw_u (xw_u (xw_u (xw_u μ 200 31 c9) 200 30 2) 214 0 (μ 213 0)) 214 1 (μ 213 1)) 200 30 = 2 := (xw_un (fun q => absurd q.1 (by decide +kernel))).trans ((xw_un (fun q => absurd q.1 (by decide +kernel))).trans xw_ug)
            have vt1_200_31 : (xw_u (xw_u (xw_u (xw_u μ 200 31 c9) 200 30 2) 214 0 (μ 213 0)) 214 1 (μ 213 1)) 200 31 = c9 := (xw_un (fun q => absurd q.1 (by decide +kernel))).trans ((xw_un (fun q => absurd q.1 (by decide +kernel))).trans ((xw_un (by decide +kernel)).trans xw_ug))
            generalize (xw_u (xw_u (xw_u (xw_u μ 200 31 c9) 200 30 2) 214 0 (μ 213 0)) 214 1 (μ 213 1)) = t1 at Ft1 vt1_214_1 vt1_214_0 vt1_200_30 vt1_200_31 ⊢
            have e9 : hx_kp B 2 c9 row = (c9, 2, row) := hx_kpT (by have q := hB.1.2.2; omega)
            rw [e9]
            refine ⟨rfl, ⟨⟨hc.1, (show c9 ≤ 2000000000 by omega), vt1_200_31⟩, fun _ => ⟨vt1_200_30, fun i _ hi => ?_⟩⟩, ((xw_F.rf (ML := [(200, 30, 31), (214, 0, 1)])).tr Ft1 (fun j i h => xw_o_sub (by decide +kernel) j i h))⟩
            have hi : i < 2 := by have hi : (i : Int) < 2 := hi; omega
            rcases (show i = 0 ∨ i = 1 by omega) with rfl | rfl
            · exact vt1_214_0.trans (hrw 0 (by decide +kernel))
            · exact vt1_214_1.trans (hrw 1 (by decide +kernel))
          · exfalso
            omega
    · refine xw_vret C0 hA hr hlk dX12_keepPlan_8 ?_
      have e9 : hx_kp B 2 c9 row = B := hx_kpF (by have q := hB.1.2.2; omega)
      rw [e9]
      exact ⟨rfl, hB, xw_F.rf⟩)
set_option maxRecDepth 20000 in
set_option maxHeartbeats 20000000 in
theorem xr_kp3 {l : Launch} {B : hx_pB} {c9 : Int} {row : Nat → Int} {μ : xw_M} (hG : xw_G xw_GL μ) (hc : 0 ≤ c9 ∧ c9 < 2000000000) (hrw : ∀ i : Nat, i < 3 → μ 213 i = row i) (hB : hx_bR B μ) : xw_MetV l vwCl sa_Ts tb_KT0 tc_KL yX12_keepPlan cX12_keepPlan 4 none 2 120 (fun ad => [.ref (ad 200), .int (Int32.ofInt 3), .int (Int32.ofInt c9)]) μ (fun μ' => hx_bR (hx_kp B 3 c9 row) μ' ∧ xw_F [(200, 30, 31), (214, 0, 2)] μ μ') :=
  xw_of (by decide +kernel) (fun _ => Nat.le_of_ble_eq_true rfl) (fun p e s m args below meth c D dA A al w0 sz C0 hU hO hKL hr hlk hA => by
    refine xw_iload_n (pc := 0) C0 2 dX12_keepPlan_0 rfl rfl ?_
    refine xw_aload_n (pc := 1) C0 0 dX12_keepPlan_1 rfl rfl ?_
    refine xw_getI (pc := 2) (f := 31) (z := μ 200 31) C0 kcX12 dX12_keepPlan_2 (by decide +kernel) tv_1292 (xj_200 hKL) xk_0 rfl (rfl) (fun g1 k1 => ?_)
    refine xw_icmp_lt (pc := 5) (tgt := 9) C0 (by omega) (by omega) dX12_keepPlan_5 rfl (fun b2 => ?_) (fun b2 => ?_)
    · refine xw_aload_n (pc := 9) C0 0 dX12_keepPlan_9 rfl rfl ?_
      refine xw_iload_n (pc := 10) C0 2 dX12_keepPlan_10 rfl rfl ?_
      refine xw_putI (pc := 11) (f := 31) C0 kcX12 dX12_keepPlan_11 (by decide +kernel) tv_1292 rfl rfl (xj_200 hKL) xk_0 rfl (by omega) (by omega) ?_
      refine xw_aload_n (pc := 14) C0 0 dX12_keepPlan_14 rfl rfl ?_
      refine xw_iload_n (pc := 15) C0 1 dX12_keepPlan_15 rfl rfl ?_
      refine xw_putI (pc := 16) (f := 30) C0 kcX12 dX12_keepPlan_16 (by decide +kernel) tv_1291 rfl rfl (xj_200 hKL) xk_0 rfl (by omega) (by omega) ?_
      refine xw_iconst (pc := 19) C0 dX12_keepPlan_19 ?_
      refine xw_istore_n (pc := 20) (L' := [(3, .int (Int32.ofInt 0)), (0, .ref (xw_ad al 200)), (1, .int (Int32.ofInt 3)), (2, .int (Int32.ofInt c9))]) C0 dX12_keepPlan_20 rfl (by decide +kernel) rfl ?_
      refine xw_iload_n (pc := 21) C0 0 dX12_keepPlan_21 rfl rfl ?_
      refine xw_iload_n (pc := 22) C0 2 dX12_keepPlan_22 rfl rfl ?_
      refine xw_icmp_ge (pc := 23) (tgt := 44) C0 (by omega) (by omega) dX12_keepPlan_23 rfl (fun b3 => ?_) (fun b3 => ?_)
      · exfalso
        omega
      · refine xw_aload_n (pc := 26) C0 1 dX12_keepPlan_26 rfl rfl ?_
        refine xw_getR (pc := 27) (f := 29) C0 214 kcX12 dX12_keepPlan_27 (by decide +kernel) tv_1290 (xj_200 hKL) xk_0 rfl (((xw_un (by decide +kernel)).trans ((xw_un (by decide +kernel)).trans rfl)).trans (xe_200_29 hG)) ?_
        refine xw_iload_n (pc := 30) C0 0 dX12_keepPlan_30 rfl rfl ?_
        refine xw_aload_n (pc := 31) C0 1 dX12_keepPlan_31 rfl rfl ?_
        refine xw_getR (pc := 32) (f := 28) C0 213 kcX12 dX12_keepPlan_32 (by decide +kernel) tv_1289 (xj_200 hKL) xk_0 rfl (((xw_un (by decide +kernel)).trans ((xw_un (by decide +kernel)).trans rfl)).trans (xe_200_28 hG)) ?_
        refine xw_iload_n (pc := 35) C0 0 dX12_keepPlan_35 rfl rfl ?_
        refine xw_iald (pc := 36) (z := μ 213 0) C0 dX12_keepPlan_36 (xj_213 hKL) xk_83 (by omega) (by decide +kernel) (xw_rl (by omega)) ((xw_un (fun q => absurd q.1 (by decide +kernel))).trans ((xw_un (fun q => absurd q.1 (by decide +kernel))).trans rfl)) (fun g4 k4 => ?_)
        refine xw_iast (pc := 37) C0 dX12_keepPlan_37 (xj_214 hKL) xk_84 (by omega) (by decide +kernel) (xw_rl (by omega)) (by omega) (by omega) ?_
        refine xw_mu (μ' := (xw_u (xw_u (xw_u μ 200 31 c9) 200 30 3) 214 0 (μ 213 0))) rfl ?_
        refine xw_iinc (pc := 38) (L' := [(3, .int (Int32.ofInt 1)), (0, .ref (xw_ad al 200)), (1, .int (Int32.ofInt 3)), (2, .int (Int32.ofInt c9))]) C0 0 dX12_keepPlan_38 rfl (by decide +kernel) rfl ?_
        refine xw_goto (pc := 41) (tgt := 21) C0 dX12_keepPlan_41 rfl ?_
        refine xw_iload_n (pc := 21) C0 0 dX12_keepPlan_21 rfl rfl ?_
        refine xw_iload_n (pc := 22) C0 2 dX12_keepPlan_22 rfl rfl ?_
        refine xw_icmp_ge (pc := 23) (tgt := 44) C0 (by omega) (by omega) dX12_keepPlan_23 rfl (fun b5 => ?_) (fun b5 => ?_)
        · exfalso
          omega
        · refine xw_aload_n (pc := 26) C0 1 dX12_keepPlan_26 rfl rfl ?_
          refine xw_getR (pc := 27) (f := 29) C0 214 kcX12 dX12_keepPlan_27 (by decide +kernel) tv_1290 (xj_200 hKL) xk_0 rfl (((xw_un (fun q => absurd q.1 (by decide +kernel))).trans ((xw_un (by decide +kernel)).trans ((xw_un (by decide +kernel)).trans rfl))).trans (xe_200_29 hG)) ?_
          refine xw_iload_n (pc := 30) C0 0 dX12_keepPlan_30 rfl rfl ?_
          refine xw_aload_n (pc := 31) C0 1 dX12_keepPlan_31 rfl rfl ?_
          refine xw_getR (pc := 32) (f := 28) C0 213 kcX12 dX12_keepPlan_32 (by decide +kernel) tv_1289 (xj_200 hKL) xk_0 rfl (((xw_un (fun q => absurd q.1 (by decide +kernel))).trans ((xw_un (by decide +kernel)).trans ((xw_un (by decide +kernel)).trans rfl))).trans (xe_200_28 hG)) ?_
          refine xw_iload_n (pc := 35) C0 0 dX12_keepPlan_35 rfl rfl ?_
          refine xw_iald (pc := 36) (z := μ 213 1) C0 dX12_keepPlan_36 (xj_213 hKL) xk_83 (by omega) (by decide +kernel) (xw_rl (by omega)) ((xw_un (fun q => absurd q.1 (by decide +kernel))).trans ((xw_un (fun q => absurd q.1 (by decide +kernel))).trans ((xw_un (fun q => absurd q.1 (by decide +kernel))).trans rfl))) (fun g6 k6 => ?_)
          refine xw_iast (pc := 37) C0 dX12_keepPlan_37 (xj_214 hKL) xk_84 (by omega) (by decide +kernel) (xw_rl (by omega)) (by omega) (by omega) ?_
          refine xw_mu (μ' := (xw_u (xw_u (xw_u (xw_u μ 200 31 c9) 200 30 3) 214 0 (μ 213 0)) 214 1 (μ 213 1))) rfl ?_
          refine xw_iinc (pc := 38) (L' := [(3, .int (Int32.ofInt 2)), (0, .ref (xw_ad al 200)), (1, .int (Int32.ofInt 3)), (2, .int (Int32.ofInt c9))]) C0 0 dX12_keepPlan_38 rfl (by decide +kernel) rfl ?_
          refine xw_goto (pc := 41) (tgt := 21) C0 dX12_keepPlan_41 rfl ?_
          refine xw_iload_n (pc := 21) C0 0 dX12_keepPlan_21 rfl rfl ?_
          refine xw_iload_n (pc := 22) C0 2 dX12_keepPlan_22 rfl rfl ?_
          refine xw_icmp_ge (pc := 23) (tgt := 44) C0 (by omega) (by omega) dX12_keepPlan_23 rfl (fun b7 => ?_) (fun b7 => ?_)
          · exfalso
            omega
          · refine xw_aload_n (pc := 26) C0 1 dX12_keepPlan_26 rfl rfl ?_
            refine xw_getR (pc := 27) (f := 29) C0 214 kcX12 dX12_keepPlan_27 (by decide +kernel) tv_1290 (xj_200 hKL) xk_0 rfl (((xw_un (fun q => absurd q.1 (by decide +kernel))).trans ((xw_un (fun q => absurd q.1 (by decide +kernel))).trans ((xw_un (by decide +kernel)).trans ((xw_un (by decide +kernel)).trans rfl)))).trans (xe_200_29 hG)) ?_
            refine xw_iload_n (pc := 30) C0 0 dX12_keepPlan_30 rfl rfl ?_
            refine xw_aload_n (pc := 31) C0 1 dX12_keepPlan_31 rfl rfl ?_
            refine xw_getR (pc := 32) (f := 28) C0 213 kcX12 dX12_keepPlan_32 (by decide +kernel) tv_1289 (xj_200 hKL) xk_0 rfl (((xw_un (fun q => absurd q.1 (by decide +kernel))).trans ((xw_un (fun q => absurd q.1 (by decide +kernel))).trans ((xw_un (by decide +kernel)).trans ((xw_un (by decide +kernel)).trans rfl)))).trans (xe_200_28 hG)) ?_
            refine xw_iload_n (pc := 35) C0 0 dX12_keepPlan_35 rfl rfl ?_
            refine xw_iald (pc := 36) (z := μ 213 2) C0 dX12_keepPlan_36 (xj_213 hKL) xk_83 (by omega) (by decide +kernel) (xw_rl (by omega)) ((xw_un (fun q => absurd q.1 (by decide +kernel))).trans ((xw_un (fun q => absurd q.1 (by decide +kernel))).trans ((xw_un (fun q => absurd q.1 (by decide +kernel))).trans ((xw_un (fun q => absurd q.1 (by decide +kernel))).trans rfl)))) (fun g8 k8 => ?_)
            refine xw_iast (pc := 37) C0 dX12_keepPlan_37 (xj_214 hKL) xk_84 (by omega) (by decide +kernel) (xw_rl (by omega)) (by omega) (by omega) ?_
            refine xw_mu (μ' := (xw_u (xw_u (xw_u (xw_u (xw_u μ 200 31 c9) 200 30 3) 214 0 (μ 213 0)) 214 1 (μ 213 1)) 214 2 (μ 213 2))) rfl ?_
            refine xw_iinc (pc := 38) (L' := [(3, .int (Int32.ofInt 3)), (0, .ref (xw_ad al 200)), (1, .int (Int32.ofInt 3)), (2, .int (Int32.ofInt c9))]) C0 0 dX12_keepPlan_38 rfl (by decide +kernel) rfl ?_
            refine xw_goto (pc := 41) (tgt := 21) C0 dX12_keepPlan_41 rfl ?_
            refine xw_iload_n (pc := 21) C0 0 dX12_keepPlan_21 rfl rfl ?_
            refine xw_iload_n (pc := 22) C0 2 dX12_keepPlan_22 rfl rfl ?_
            refine xw_icmp_ge (pc := 23) (tgt := 44) C0 (by omega) (by omega) dX12_keepPlan_23 rfl (fun b10 => ?_) (fun b10 => ?_)
            · refine xw_vret C0 hA hr hlk dX12_keepPlan_44 ?_
              have Ft1 : xw_F [(200, 30, 30), (200, 31, 31), (214, 0, 0), (214, 1, 1), (214, 2, 2)] μ (xw_u (xw_u (xw_u (xw_u (xw_u μ 200 31 c9) 200 30 3) 214 0 (μ 213 0)) 214 1 (μ 213 1)) 214 2 (μ 213 2)) := ((((((xw_F.rf (ML := [(200, 30, 30), (200, 31, 31), (214, 0, 0), (214, 1, 1), (214, 2, 2)])).u (show (200, 31, 31) ∈ _ by decide) ⟨by decide, by decide⟩).u (show (200, 30, 30) ∈ _ by decide) ⟨by decide, by decide⟩).u (show (214, 0, 0) ∈ _ by decide) ⟨by decide, by decide⟩).u (show (214, 1, 1) ∈ _ by decide) ⟨by decide, by decide⟩).u (show (214, 2, 2) ∈ _ by decide) ⟨by decide, by decide⟩)
              have vt1_214_2 : (xw_u (xw_u (xw_u (xw_u (xw_u μ 200 31 c9) 200 30 3) 214 0 (μ 213 0)) 214 1 (μ 213 1)) 214 2 (μ 213 2)) 214 2 = μ 213 2 := xw_ug
              have vt1_214_1 : (xw_u (xw_u (xw_u (xw_u (xw_u μ 200 31 c9) 200 30 3) 214 0 (μ 213 0)) 214 1 (μ 213 1)) 214 2 (μ 213 2)) 214 1 = μ 213 1 := (xw_un (by decide +kernel)).trans xw_ug
              have vt1_214_0 : (xw_u (xw_u (xw_u (xw_u (xw_u μ 200 31 c9) 200 30 3) 214 0 (μ 213 0)) 214 1 (μ 213 1)) 214 2 (μ 213 2)) 214 0 = μ 213 0 := (xw_un (by decide +kernel)).trans ((xw_un (by decide +kernel)).trans xw_ug)
              have vt1_200_30 : (xw_u (xw_u (xw_u (xw_u (xw_u μ 200 31 c9) 200 30 3) 214 0 (μ 213 0)) 214 1 (μ 213 1)) 214 2 (μ 213 2)) 200 30 = 3 := (xw_un (fun q => absurd q.1 (by decide +kernel))).trans ((xw_un (fun q => absurd q.1 (by decide +kernel))).trans ((xw_un (fun q => absurd q.1 (by decide +kernel))).trans xw_ug))
              have vt1_200_31 : (xw_u (xw_u (xw_u (xw_u (xw_u μ 200 31 c9) 200 30 3) 214 0 (μ 213 0)) 214 1 (μ 213 1)) 214 2 (μ 213 2)) 200 31 = c9 := (xw_un (fun q => absurd q.1 (by decide +kernel))).trans ((xw_un (fun q => absurd q.1 (by decide +kernel))).trans ((xw_un (fun q => absurd q.1 (by decide +kernel))).trans ((xw_un (by decide +kernel)).trans xw_ug)))
              generalize (xw_u (xw_u (xw_u (xw_u (xw_u μ 200 31 c9) 200 30 3) 214 0 (μ 213 0)) 214 1 (μ 213 1)) 214 2 (μ 213 2)) = t1 at Ft1 vt1_214_2 vt1_214_1 vt1_214_0 vt1_200_30 vt1_200_31 ⊢
              have e9 : hx_kp B 3 c9 row = (c9, 3, row) := hx_kpT (by have q := hB.1.2.2; omega)
              rw [e9]
              refine ⟨rfl, ⟨⟨hc.1, (show c9 ≤ 2000000000 by omega), vt1_200_31⟩, fun _ => ⟨vt1_200_30, fun i _ hi => ?_⟩⟩, ((xw_F.rf (ML := [(200, 30, 31), (214, 0, 2)])).tr Ft1 (fun j i h => xw_o_sub (by decide +kernel) j i h))⟩
              have hi : i < 3 := by have hi : (i : Int) < 3 := hi; omega
              rcases (show i = 0 ∨ i = 1 ∨ i = 2 by omega) with rfl | rfl | rfl
              · exact vt1_214_0.trans (hrw 0 (by decide +kernel))
              · exact vt1_214_1.trans (hrw 1 (by decide +kernel))
              · exact vt1_214_2.trans (hrw 2 (by decide +kernel))
            · exfalso
              omega
    · refine xw_vret C0 hA hr hlk dX12_keepPlan_8 ?_
      have e9 : hx_kp B 3 c9 row = B := hx_kpF (by have q := hB.1.2.2; omega)
      rw [e9]
      exact ⟨rfl, hB, xw_F.rf⟩)
