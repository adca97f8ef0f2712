set_option maxRecDepth 20000 in
set_option maxHeartbeats 20000000 in
theorem xr_kp4 {l : Launch} {B : hx_pB} {c9 : Int} {row : Nat → Int} {μ : xw_M} (hG : xw_G xw_GL μ) (hc : 0 ≤ c9 ∧ c9 < 2000000000) (hrw : ∀ i : Nat, i < 4 → μ 213 i = row i) (hB : hx_bR B μ) : xw_MetV l vwCl sa_Ts tb_KT0 tc_KL yX12_keepPlan cX12_keepPlan 4 none 2 120 (fun ad => [.ref (ad 200), .int (Int32.ofInt 4), .int (Int32.ofInt c9)]) μ (fun μ' => hx_bR (hx_kp B 4 c9 row) μ' ∧ xw_F [(200, 30, 31), (214, 0, 3)] μ μ') :=
  xw_of (by decide +kernel) (fun _ => Nat.le_of_ble_eq_true rfl) (fun p e s m args below meth c D dA A al w0 sz C0 hU hO hKL hr hlk hA => by
    refine xw_iload_n (pc := 0) C0 2 dX12_keepPlan_0 rfl rfl ?_
    refine xw_aload_n (pc := 1) C0 0 dX12_keepPlan_1 rfl rfl ?_
    refine xw_getI (pc := 2) (f := 31) (z := μ 200 31) C0 kcX12 dX12_keepPlan_2 (by decide +kernel) tv_1292 (xj_200 hKL) xk_0 rfl (rfl) (fun g1 k1 => ?_)
    refine xw_icmp_lt (pc := 5) (tgt := 9) C0 (by omega) (by omega) dX12_keepPlan_5 rfl (fun b2 => ?_) (fun b2 => ?_)
    · refine xw_aload_n (pc := 9) C0 0 dX12_keepPlan_9 rfl rfl ?_
      refine xw_iload_n (pc := 10) C0 2 dX12_keepPlan_10 rfl rfl ?_
      refine xw_putI (pc := 11) (f := 31) C0 kcX12 dX12_keepPlan_11 (by decide +kernel) tv_1292 rfl rfl (xj_200 hKL) xk_0 rfl (by omega) (by omega) ?_
      refine xw_aload_n (pc := 14) C0 0 dX12_keepPlan_14 rfl rfl ?_
      refine xw_iload_n (pc := 15) C0 1 dX12_keepPlan_15 rfl rfl ?_
      refine xw_putI (pc := 16) (f := 30) C0 kcX12 dX12_keepPlan_16 (by decide +kernel) tv_1291 rfl rfl (xj_200 hKL) xk_0 rfl (by omega) (by omega) ?_
      refine xw_iconst (pc := 19) C0 dX12_keepPlan_19 ?_
      refine xw_istore_n (pc := 20) (L' := [(3, .int (Int32.ofInt 0)), (0, .ref (xw_ad al 200)), (1, .int (Int32.ofInt 4)), (2, .int (Int32.ofInt c9))]) C0 dX12_keepPlan_20 rfl (by decide +kernel) rfl ?_
      refine xw_iload_n (pc := 21) C0 0 dX12_keepPlan_21 rfl rfl ?_
      refine xw_iload_n (pc := 22) C0 2 dX12_keepPlan_22 rfl rfl ?_
      refine xw_icmp_ge (pc := 23) (tgt := 44) C0 (by omega) (by omega) dX12_keepPlan_23 rfl (fun b3 => ?_) (fun b3 => ?_)
      · exfalso
        omega
      · refine xw_aload_n (pc := 26) C0 1 dX12_keepPlan_26 rfl rfl ?_
        refine xw_getR (pc := 27) (f := 29) C0 214 kcX12 dX12_keepPlan_27 (by decide +kernel) tv_1290 (xj_200 hKL) xk_0 rfl (((xw_un (by decide +kernel)).trans ((xw_un (by decide +kernel)).trans rfl)).trans (xe_200_29 hG)) ?_
        refine xw_iload_n (pc := 30) C0 0 dX12_keepPlan_30 rfl rfl ?_
        refine xw_aload_n (pc := 31) C0 1 dX12_keepPlan_31 rfl rfl ?_
        refine xw_getR (pc := 32) (f := 28) C0 213 kcX12 dX12_keepPlan_32 (by decide +kernel) tv_1289 (xj_200 hKL) xk_0 rfl (((xw_un (by decide +kernel)).trans ((xw_un (by decide +kernel)).trans rfl)).trans (xe_200_28 hG)) ?_
        refine xw_iload_n (pc := 35) C0 0 dX12_keepPlan_35 rfl rfl ?_
        refine xw_iald (pc := 36) (z := μ 213 0) C0 dX12_keepPlan_36 (xj_213 hKL) xk_83 (by omega) (by decide +kernel) (xw_rl (by omega)) ((xw_un (fun q => absurd q.1 (by decide +kernel))).trans ((xw_un (fun q => absurd q.1 (by decide +kernel))).trans rfl)) (fun g4 k4 => ?_)
        refine xw_iast (pc := 37) C0 dX12_keepPlan_37 (xj_214 hKL) xk_84 (by omega) (by decide +kernel) (xw_rl (by omega)) (by omega) (by omega) ?_
        refine xw_mu (μ' := (xw_u (xw_u (xw_u μ 200 31 c9) 200 30 4) 214 0 (μ 213 0))) rfl ?_
        refine xw_iinc (pc := 38) (L' := [(3, .int (Int32.ofInt 1)), (0, .ref (xw_ad al 200)), (1, .int (Int32.ofInt 4)), (2, .int (Int32.ofInt c9))]) C0 0 dX12_keepPlan_38 rfl (by decide +kernel) rfl ?_
        refine xw_goto (pc := 41) (tgt := 21) C0 dX12_keepPlan_41 rfl ?_
        refine xw_iload_n (pc := 21) C0 0 dX12_keepPlan_21 rfl rfl ?_
        refine xw_iload_n (pc := 22) C0 2 dX12_keepPlan_22 rfl rfl ?_
        refine xw_icmp_ge (pc := 23) (tgt := 44) C0 (by omega) (by omega) dX12_keepPlan_23 rfl (fun b5 => ?_) (fun b5 => ?_)
        · exfalso
          omega
        · refine xw_aload_n (pc := 26) C0 1 dX12_keepPlan_26 rfl rfl ?_
          refine xw_getR (pc := 27) (f := 29) C0 214 kcX12 dX12_keepPlan_27 (by decide +kernel) tv_1290 (xj_200 hKL) xk_0 rfl (((xw_un (fun q => absurd q.1 (by decide +kernel))).trans ((xw_un (by decide +kernel)).trans ((xw_un (by decide +kernel)).trans rfl))).trans (xe_200_29 hG)) ?_
          refine xw_iload_n (pc := 30) C0 0 dX12_keepPlan_30 rfl rfl ?_
          refine xw_aload_n (pc := 31) C0 1 dX12_keepPlan_31 rfl rfl ?_
          refine xw_getR (pc := 32) (f := 28) C0 213 kcX12 dX12_keepPlan_32 (by decide +kernel) tv_1289 (xj_200 hKL) xk_0 rfl (((xw_un (fun q => absurd q.1 (by decide +kernel))).trans ((xw_un (by decide +kernel)).trans ((xw_un (by decide +kernel)).trans rfl))).trans (xe_200_28 hG)) ?_
          refine xw_iload_n (pc := 35) C0 0 dX12_keepPlan_35 rfl rfl ?_
          refine xw_iald (pc := 36) (z := μ 213 1) C0 dX12_keepPlan_36 (xj_213 hKL) xk_83 (by omega) (by decide +kernel) (xw_rl (by omega)) ((xw_un (fun q => absurd q.1 (by decide +kernel))).trans ((xw_un (fun q => absurd q.1 (by decide +kernel))).trans ((xw_un (fun q => absurd q.1 (by decide +kernel))).trans rfl))) (fun g6 k6 => ?_)
          refine xw_iast (pc := 37) C0 dX12_keepPlan_37 (xj_214 hKL) xk_84 (by omega) (by decide +kernel) (xw_rl (by omega)) (by omega) (by omega) ?_
          refine xw_mu (μ' := (xw_u (xw_u (xw_u (xw_u μ 200 31 c9) 200 30 4) 214 0 (μ 213 0)) 214 1 (μ 213 1))) rfl ?_
          refine xw_iinc (pc := 38) (L' := [(3, .int (Int32.ofInt 2)), (0, .ref (xw_ad al 200)), (1, .int (Int32.ofInt 4)), (2, .int (Int32.ofInt c9))]) C0 0 dX12_keepPlan_38 rfl (by decide +kernel) rfl ?_
          refine xw_goto (pc := 41) (tgt := 21) C0 dX12_keepPlan_41 rfl ?_
          refine xw_iload_n (pc := 21) C0 0 dX12_keepPlan_21 rfl rfl ?_
          refine xw_iload_n (pc := 22) C0 2 dX12_keepPlan_22 rfl rfl ?_
          refine xw_icmp_ge (pc := 23) (tgt := 44) C0 (by omega) (by omega) dX12_keepPlan_23 rfl (fun b7 => ?_) (fun b7 => ?_)
          · exfalso
            omega
          · refine xw_aload_n (pc := 26) C0 1 dX12_keepPlan_26 rfl rfl ?_
            refine xw_getR (pc := 27) (f := 29) C0 214 kcX12 dX12_keepPlan_27 (by decide +kernel) tv_1290 (xj_200 hKL) xk_0 rfl (((xw_un (fun q => absurd q.1 (by decide +kernel))).trans ((xw_un (fun q => absurd q.1 (by decide +kernel))).trans ((xw_un (by decide +kernel)).trans ((xw_un (by decide +kernel)).trans rfl)))).trans (xe_200_29 hG)) ?_
            refine xw_iload_n (pc := 30) C0 0 dX12_keepPlan_30 rfl rfl ?_
            refine xw_aload_n (pc := 31) C0 1 dX12_keepPlan_31 rfl rfl ?_
            refine xw_getR (pc := 32) (f := 28) C0 213 kcX12 dX12_keepPlan_32 (by decide +kernel) tv_1289 (xj_200 hKL) xk_0 rfl (((xw_un (fun q => absurd q.1 (by decide +kernel))).trans ((xw_un (fun q => absurd q.1 (by decide +kernel))).trans ((xw_un (by decide +kernel)).trans ((xw_un (by decide +kernel)).trans rfl)))).trans (xe_200_28 hG)) ?_
            refine xw_iload_n (pc := 35) C0 0 dX12_keepPlan_35 rfl rfl ?_
            refine xw_iald (pc := 36) (z := μ 213 2) C0 dX12_keepPlan_36 (xj_213 hKL) xk_83 (by omega) (by decide +kernel) (xw_rl (by omega)) ((xw_un (fun q => absurd q.1 (by decide +kernel))).trans ((xw_un (fun q => absurd q.1 (by decide +kernel))).trans ((xw_un (fun q => absurd q.1 (by decide +kernel))).trans ((xw_un (fun q => absurd q.1 (by decide +kernel))).trans rfl)))) (fun g8 k8 => ?_)
            refine xw_iast (pc := 37) C0 dX12_keepPlan_37 (xj_214 hKL) xk_84 (by omega) (by decide +kernel) (xw_rl (by omega)) (by omega) (by omega) ?_
            refine xw_mu (μ' := (xw_u (xw_u (xw_u (xw_u (xw_u μ 200 31 c9) 200 30 4) 214 0 (μ 213 0)) 214 1 (μ 213 1)) 214 2 (μ 213 2))) rfl ?_
            refine xw_iinc (pc := 38) (L' := [(3, .int (Int32.ofInt 3)), (0, .ref (xw_ad al 200)), (1, .int (Int32.ofInt 4)), (2, .int (Int32.ofInt c9))]) C0 0 dX12_keepPlan_38 rfl (by decide +kernel) rfl ?_
            refine xw_goto (pc := 41) (tgt := 21) C0 dX12_keepPlan_41 rfl ?_
            refine xw_iload_n (pc := 21) C0 0 dX12_keepPlan_21 rfl rfl ?_
            refine xw_iload_n (pc := 22) C0 2 dX12_keepPlan_22 rfl rfl ?_
            refine xw_icmp_ge (pc := 23) (tgt := 44) C0 (by omega) (by omega) dX12_keepPlan_23 rfl (fun b10 => ?_) (fun b10 => ?_)
            · exfalso
              omega
            · refine xw_aload_n (pc := 26) C0 1 dX12_keepPlan_26 rfl rfl ?_
              refine xw_getR (pc := 27) (f := 29) C0 214 kcX12 dX12_keepPlan_27 (by decide +kernel) tv_1290 (xj_200 hKL) xk_0 rfl (((xw_un (fun q => absurd q.1 (by decide +kernel))).trans ((xw_un (fun q => absurd q.1 (by decide +kernel))).trans ((xw_un (fun q => absurd q.1 (by decide +kernel))).trans ((xw_un (by decide +kernel)).trans ((xw_un (by decide +kernel)).trans rfl))))).trans (xe_200_29 hG)) ?_
              refine xw_iload_n (pc := 30) C0 0 dX12_keepPlan_30 rfl rfl ?_
              refine xw_aload_n (pc := 31) C0 1 dX12_keepPlan_31 rfl rfl ?_
              refine xw_getR (pc := 32) (f := 28) C0 213 kcX12 dX12_keepPlan_32 (by decide +kernel) tv_1289 (xj_200 hKL) xk_0 rfl (((xw_un (fun q => absurd q.1 (by decide +kernel))).trans ((xw_un (fun q => absurd q.1 (by decide +kernel))).trans ((xw_un (fun q => absurd q.1 (by decide +kernel))).trans ((xw_un (by decide +kernel)).trans ((xw_un (by decide +kernel)).trans rfl))))).trans (xe_200_28 hG)) ?_
              refine xw_iload_n (pc := 35) C0 0 dX12_keepPlan_35 rfl rfl ?_
              refine xw_iald (pc := 36) (z := μ 213 3) C0 dX12_keepPlan_36 (xj_213 hKL) xk_83 (by omega) (by decide +kernel) (xw_rl (by omega)) ((xw_un (fun q => absurd q.1 (by decide +kernel))).trans ((xw_un (fun q => absurd q.1 (by decide +kernel))).trans ((xw_un (fun q => absurd q.1 (by decide +kernel))).trans ((xw_un (fun q => absurd q.1 (by decide +kernel))).trans ((xw_un (fun q => absurd q.1 (by decide +kernel))).trans rfl))))) (fun g11 k11 => ?_)
              refine xw_iast (pc := 37) C0 dX12_keepPlan_37 (xj_214 hKL) xk_84 (by omega) (by decide +kernel) (xw_rl (by omega)) (by omega) (by omega) ?_
              refine xw_mu (μ' := (xw_u (xw_u (xw_u (xw_u (xw_u (xw_u μ 200 31 c9) 200 30 4) 214 0 (μ 213 0)) 214 1 (μ 213 1)) 214 2 (μ 213 2)) 214 3 (μ 213 3))) rfl ?_
              refine xw_iinc (pc := 38) (L' := [(3, .int (Int32.ofInt 4)), (0, .ref (xw_ad al 200)), (1, .int (Int32.ofInt 4)), (2, .int (Int32.ofInt c9))]) C0 0 dX12_keepPlan_38 rfl (by decide +kernel) rfl ?_
              refine xw_goto (pc := 41) (tgt := 21) C0 dX12_keepPlan_41 rfl ?_
              refine xw_iload_n (pc := 21) C0 0 dX12_keepPlan_21 rfl rfl ?_
              refine xw_iload_n (pc := 22) C0 2 dX12_keepPlan_22 rfl rfl ?_
              refine xw_icmp_ge (pc := 23) (tgt := 44) C0 (by omega) (by omega) dX12_keepPlan_23 rfl (fun b12 => ?_) (fun b12 => ?_)
              · refine xw_vret C0 hA hr hlk dX12_keepPlan_44 ?_
                have Ft1 : xw_F [(200, 30, 30), (200, 31, 31), (214, 0, 0), (214, 1, 1), (214, 2, 2), (214, 3, 3)] μ (xw_u (xw_u (xw_u (xw_u (xw_u (xw_u μ 200 31 c9) 200 30 4) 214 0 (μ 213 0)) 214 1 (μ 213 1)) 214 2 (μ 213 2)) 214 3 (μ 213 3)) := (((((((xw_F.rf (ML := [(200, 30, 30), (200, 31, 31), (214, 0, 0), (214, 1, 1), (214, 2, 2), (214, 3, 3)])).u (show (200, 31, 31) ∈ _ by decide) ⟨by decide, by decide⟩).u (show (200, 30, 30) ∈ _ by decide) ⟨by decide, by decide⟩).u (show (214, 0, 0) ∈ _ by decide) ⟨by decide, by decide⟩).u (show (214, 1, 1) ∈ _ by decide) ⟨by decide, by decide⟩).u (show (214, 2, 2) ∈ _ by decide) ⟨by decide, by decide⟩).u (show (214, 3, 3) ∈ _ by decide) ⟨by decide, by decide⟩)
                have vt1_214_3 : (xw_u (xw_u (xw_u (xw_u (xw_u (xw_u μ 200 31 c9) 200 30 4) 214 0 (μ 213 0)) 214 1 (μ 213 1)) 214 2 (μ 213 2)) 214 3 (μ 213 3)) 214 3 = μ 213 3 := xw_ug
                have vt1_214_2 : (xw_u (xw_u (xw_u (xw_u (xw_u (xw_u μ 200 31 c9) 200 30 4) 214 0 (μ 213 0)) 214 1 (μ 213 1)) 214 2 (μ 213 2)) 214 3 (μ 213 3)) 214 2 = μ 213 2 := (xw_un (by decide +kernel)).trans xw_ug
                have vt1_214_1 : (xw_u (xw_u (xw_u (xw_u (xw_u (xw_u μ 200 31 c9) 200 30 4) 214 0 (μ 213 0)) 214 1 (μ 213 1)) 214 2 (μ 213 2)) 214 3 (μ 213 3)) 214 1 = μ 213 1 := (xw_un (by decide +kernel)).trans ((xw_un (by decide +kernel)).trans xw_ug)
                have vt1_214_0 : (xw_u (xw_u (xw_u (xw_u (xw_u (xw_u μ 200 31 c9) 200 30 4) 214 0 (μ 213 0)) 214 1 (μ 213 1)) 214 2 (μ 213 2)) 214 3 (μ 213 3)) 214 0 = μ 213 0 := (xw_un (by decide +kernel)).trans ((xw_un (by decide +kernel)).trans ((xw_un (by decide +kernel)).trans xw_ug))
                have vt1_200_30 : (xw_u (xw_u (xw_u (xw_u (xw_u (xw_u μ 200 31 c9) 200 30 4) 214 0 (μ 213 0)) 214 1 (μ 213 1)) 214 2 (μ 213 2)) 214 3 (μ 213 3)) 200 30 = 4 := (xw_un (fun q => absurd q.1 (by decide +kernel))).trans ((xw_un (fun q => absurd q.1 (by decide +kernel))).trans ((xw_un (fun q => absurd q.1 (by decide +kernel))).trans ((xw_un (fun q => absurd q.1 (by decide +kernel))).trans xw_ug)))
                have vt1_200_31 : (xw_u (xw_u (xw_u (xw_u (xw_u (xw_u μ 200 31 c9) 200 30 4) 214 0 (μ 213 0)) 214 1 (μ 213 1)) 214 2 (μ 213 2)) 214 3 (μ 213 3)) 200 31 = c9 := (xw_un (fun q => absurd q.1 (by decide +kernel))).trans ((xw_un (fun q => absurd q.1 (by decide +kernel))).trans ((xw_un (fun q => absurd q.1 (by decide +kernel))).trans ((xw_un (fun q => absurd q.1 (by decide +kernel))).trans ((xw_un (by decide +kernel)).trans xw_ug))))
                generalize (xw_u (xw_u (xw_u (xw_u (xw_u (xw_u μ 200 31 c9) 200 30 4) 214 0 (μ 213 0)) 214 1 (μ 213 1)) 214 2 (μ 213 2)) 214 3 (μ 213 3)) = t1 at Ft1 vt1_214_3 vt1_214_2 vt1_214_1 vt1_214_0 vt1_200_30 vt1_200_31 ⊢
                have e9 : hx_kp B 4 c9 row = (c9, 4, row) := hx_kpT (by have q := hB.1.2.2; omega)
                rw [e9]
                refine ⟨rfl, ⟨⟨hc.1, (show c9 ≤ 2000000000 by omega), vt1_200_31⟩, fun _ => ⟨vt1_200_30, fun i _ hi => ?_⟩⟩, ((xw_F.rf (ML := [(200, 30, 31), (214, 0, 3)])).tr Ft1 (fun j i h => xw_o_sub (by decide +kernel) j i h))⟩
                have hi : i < 4 := by have hi : (i : Int) < 4 := hi; omega
                rcases (show i = 0 ∨ i = 1 ∨ i = 2 ∨ i = 3 by omega) with rfl | rfl | rfl | rfl
                · exact vt1_214_0.trans (hrw 0 (by decide +kernel))
                · exact vt1_214_1.trans (hrw 1 (by decide +kernel))
                · exact vt1_214_2.trans (hrw 2 (by decide +kernel))
                · exact vt1_214_3.trans (hrw 3 (by decide +kernel))
              · exfalso
                omega
    · refine xw_vret C0 hA hr hlk dX12_keepPlan_8 ?_
      have e9 : hx_kp B 4 c9 row = B := hx_kpF (by have q := hB.1.2.2; omega)
      rw [e9]
      exact ⟨rfl, hB, xw_F.rf⟩)
set_option maxRecDepth 20000 in
set_option maxHeartbeats 20000000 in
theorem xr_mo0 {l : Launch} {v nm : Nat → Int} {T : Nat} {μ : xw_M} (hG : xw_G xw_GL μ) (hK : hp_ok v nm) (hN : ∀ k : Nat, k < 77 → μ 202 k = v k) (hT : (T : Int) < v 0) : xw_MetI l vwCl sa_Ts tb_KT0 tc_KL yX12_minutesOf cX12_minutesOf 3 (some .int) 2 120 (fun ad => [.ref (ad 200), .int (Int32.ofInt (T : Int)), .int (Int32.ofInt 0)]) μ (fun r μ' => μ = μ' ∧ r = hx_pm v T 0) :=
  xw_of (by decide +kernel) (fun _ => Nat.le_of_ble_eq_true rfl) (fun p e s m args below meth c D dA A al w0 sz C0 hU hO hKL hr hlk hA => by
    have k0 := hK.1
    refine xw_iload_n (pc := 0) C0 2 dX12_minutesOf_0 rfl rfl ?_
    refine xw_if_ne (pc := 1) (tgt := 25) C0 (by omega) dX12_minutesOf_1 rfl (fun b1 => ?_) (fun b1 => ?_)
    · exfalso
      omega
    · refine xw_aload_n (pc := 4) C0 0 dX12_minutesOf_4 rfl rfl ?_
      refine xw_getR (pc := 5) (f := 14) C0 202 kcX12 dX12_minutesOf_5 (by decide +kernel) tv_1275 (xj_200 hKL) xk_0 rfl ((rfl).trans (xe_200_14 hG)) ?_
      refine xw_bipush (pc := 8) C0 dX12_minutesOf_8 (by decide +kernel) ?_
      refine xw_iload_n (pc := 10) C0 1 dX12_minutesOf_10 rfl rfl ?_
      refine xw_iadd (pc := 11) C0 dX12_minutesOf_11 ?_
      refine xw_nI (pc := 12) (congrArg Int32.ofInt (show 9 + (T : Int) = ((9 + T : Nat) : Int) by omega)) ?_
      obtain ⟨lo2, hi2, rl2, bl2, bh2⟩ := hx_n379 ⟨9 + T, by omega⟩
      refine xw_iald (pc := 12) (z := v (9 + T)) C0 dX12_minutesOf_12 (xj_202 hKL) xk_1 (by omega) (by decide +kernel) rl2 (hN (9 + T) (by omega)) (fun g2 k2 => ?_)
      refine xw_aload_n (pc := 13) C0 0 dX12_minutesOf_13 rfl rfl ?_
      refine xw_getR (pc := 14) (f := 14) C0 202 kcX12 dX12_minutesOf_14 (by decide +kernel) tv_1275 (xj_200 hKL) xk_0 rfl ((rfl).trans (xe_200_14 hG)) ?_
      refine xw_iconst (pc := 17) C0 dX12_minutesOf_17 ?_
      refine xw_iload_n (pc := 18) C0 1 dX12_minutesOf_18 rfl rfl ?_
      refine xw_iadd (pc := 19) C0 dX12_minutesOf_19 ?_
      refine xw_nI (pc := 20) (congrArg Int32.ofInt (show 3 + (T : Int) = ((3 + T : Nat) : Int) by omega)) ?_
      obtain ⟨lo3, hi3, rl3, bl3, bh3⟩ := hx_n379 ⟨3 + T, by omega⟩
      refine xw_iald (pc := 20) (z := v (3 + T)) C0 dX12_minutesOf_20 (xj_202 hKL) xk_1 (by omega) (by decide +kernel) rl3 (hN (3 + T) (by omega)) (fun g3 k3 => ?_)
      refine xw_iadd (pc := 21) C0 dX12_minutesOf_21 ?_
      refine xw_goto (pc := 22) (tgt := 46) C0 dX12_minutesOf_22 rfl ?_
      refine xw_iret C0 hA hr hlk rfl dX12_minutesOf_46 ?_
      exact ⟨_, rfl, rfl, rfl⟩)
set_option maxRecDepth 20000 in
set_option maxHeartbeats 20000000 in
theorem xr_mo1 {l : Launch} {v nm : Nat → Int} {T : Nat} {μ : xw_M} (hG : xw_G xw_GL μ) (hK : hp_ok v nm) (hN : ∀ k : Nat, k < 77 → μ 202 k = v k) (hT : (T : Int) < v 0) : xw_MetI l vwCl sa_Ts tb_KT0 tc_KL yX12_minutesOf cX12_minutesOf 3 (some .int) 2 120 (fun ad => [.ref (ad 200), .int (Int32.ofInt (T : Int)), .int (Int32.ofInt 1)]) μ (fun r μ' => μ = μ' ∧ r = hx_pm v T 1) :=
  xw_of (by decide +kernel) (fun _ => Nat.le_of_ble_eq_true rfl) (fun p e s m args below meth c D dA A al w0 sz C0 hU hO hKL hr hlk hA => by
    have k0 := hK.1
    refine xw_iload_n (pc := 0) C0 2 dX12_minutesOf_0 rfl rfl ?_
    refine xw_if_ne (pc := 1) (tgt := 25) C0 (by omega) dX12_minutesOf_1 rfl (fun b1 => ?_) (fun b1 => ?_)
    · refine xw_iload_n (pc := 25) C0 2 dX12_minutesOf_25 rfl rfl ?_
      refine xw_iconst (pc := 26) C0 dX12_minutesOf_26 ?_
      refine xw_icmp_ne (pc := 27) (tgt := 34) C0 (by omega) (by omega) dX12_minutesOf_27 rfl (fun b2 => ?_) (fun b2 => ?_)
      · exfalso
        omega
      · refine xw_iconst (pc := 30) C0 dX12_minutesOf_30 ?_
        refine xw_goto (pc := 31) (tgt := 46) C0 dX12_minutesOf_31 rfl ?_
        refine xw_iret C0 hA hr hlk rfl dX12_minutesOf_46 ?_
        exact ⟨_, rfl, rfl, rfl⟩
    · exfalso
      omega)
set_option maxRecDepth 20000 in
set_option maxHeartbeats 20000000 in
theorem xr_mo2 {l : Launch} {v nm : Nat → Int} {T : Nat} {μ : xw_M} (hG : xw_G xw_GL μ) (hK : hp_ok v nm) (hN : ∀ k : Nat, k < 77 → μ 202 k = v k) (hT : (T : Int) < v 0) : xw_MetI l vwCl sa_Ts tb_KT0 tc_KL yX12_minutesOf cX12_minutesOf 3 (some .int) 2 120 (fun ad => [.ref (ad 200), .int (Int32.ofInt (T : Int)), .int (Int32.ofInt 2)]) μ (fun r μ' => μ = μ' ∧ r = hx_pm v T 2) :=
  xw_of (by decide +kernel) (fun _ => Nat.le_of_ble_eq_true rfl) (fun p e s m args below meth c D dA A al w0 sz C0 hU hO hKL hr hlk hA => by
    have k0 := hK.1
    refine xw_iload_n (pc := 0) C0 2 dX12_minutesOf_0 rfl rfl ?_
    refine xw_if_ne (pc := 1) (tgt := 25) C0 (by omega) dX12_minutesOf_1 rfl (fun b1 => ?_) (fun b1 => ?_)
    · refine xw_iload_n (pc := 25) C0 2 dX12_minutesOf_25 rfl rfl ?_
      refine xw_iconst (pc := 26) C0 dX12_minutesOf_26 ?_
      refine xw_icmp_ne (pc := 27) (tgt := 34) C0 (by omega) (by omega) dX12_minutesOf_27 rfl (fun b2 => ?_) (fun b2 => ?_)
      · refine xw_iload_n (pc := 34) C0 2 dX12_minutesOf_34 rfl rfl ?_
        refine xw_iconst (pc := 35) C0 dX12_minutesOf_35 ?_
        refine xw_icmp_ne (pc := 36) (tgt := 44) C0 (by omega) (by omega) dX12_minutesOf_36 rfl (fun b3 => ?_) (fun b3 => ?_)
        · exfalso
          omega
        · refine xw_bipush (pc := 39) C0 dX12_minutesOf_39 (by decide +kernel) ?_
          refine xw_goto (pc := 41) (tgt := 46) C0 dX12_minutesOf_41 rfl ?_
          refine xw_iret C0 hA hr hlk rfl dX12_minutesOf_46 ?_
          exact ⟨_, rfl, rfl, rfl⟩
      · exfalso
        omega
    · exfalso
      omega)
set_option maxRecDepth 20000 in
set_option maxHeartbeats 20000000 in
theorem xr_mo3 {l : Launch} {v nm : Nat → Int} {T : Nat} {μ : xw_M} (hG : xw_G xw_GL μ) (hK : hp_ok v nm) (hN : ∀ k : Nat, k < 77 → μ 202 k = v k) (hT : (T : Int) < v 0) : xw_MetI l vwCl sa_Ts tb_KT0 tc_KL yX12_minutesOf cX12_minutesOf 3 (some .int) 2 120 (fun ad => [.ref (ad 200), .int (Int32.ofInt (T : Int)), .int (Int32.ofInt 3)]) μ (fun r μ' => μ = μ' ∧ r = hx_pm v T 3) :=
  xw_of (by decide +kernel) (fun _ => Nat.le_of_ble_eq_true rfl) (fun p e s m args below meth c D dA A al w0 sz C0 hU hO hKL hr hlk hA => by
    have k0 := hK.1
    refine xw_iload_n (pc := 0) C0 2 dX12_minutesOf_0 rfl rfl ?_
    refine xw_if_ne (pc := 1) (tgt := 25) C0 (by omega) dX12_minutesOf_1 rfl (fun b1 => ?_) (fun b1 => ?_)
    · refine xw_iload_n (pc := 25) C0 2 dX12_minutesOf_25 rfl rfl ?_
      refine xw_iconst (pc := 26) C0 dX12_minutesOf_26 ?_
      refine xw_icmp_ne (pc := 27) (tgt := 34) C0 (by omega) (by omega) dX12_minutesOf_27 rfl (fun b2 => ?_) (fun b2 => ?_)
      · refine xw_iload_n (pc := 34) C0 2 dX12_minutesOf_34 rfl rfl ?_
        refine xw_iconst (pc := 35) C0 dX12_minutesOf_35 ?_
        refine xw_icmp_ne (pc := 36) (tgt := 44) C0 (by omega) (by omega) dX12_minutesOf_36 rfl (fun b3 => ?_) (fun b3 => ?_)
        · refine xw_bipush (pc := 44) C0 dX12_minutesOf_44 (by decide +kernel) ?_
          refine xw_iret C0 hA hr hlk rfl dX12_minutesOf_46 ?_
          exact ⟨_, rfl, rfl, rfl⟩
        · exfalso
          omega
      · exfalso
        omega
    · exfalso
      omega)
theorem hx_n53p : ∀ J : Fin 24, tb_rl hr_NT (53 + (J : Nat)) = some (0, 0, 12) := by decide +kernel
set_option maxRecDepth 20000 in
set_option maxHeartbeats 20000000 in
theorem xr_tr3_3 {l : Launch} {p : Program} {e : Env} {s : State} {m : MethodId} {args : Array Value} {below : List Frame} {meth : Method} {c : Code} {Q : State → Prop} {D : va_G} {dA : Nat → ClassId} {A : Nat → Prop} {al : List (Nat × Nat)} (C0 : sa_C p s m args c D dA A 8 vwCl sa_Ts cX12_planFrom yX12_planFrom.cls) (hU : sa_U D vwCl dA s) (hO : tb_Ou A s s.heap) (hKL : al.map Prod.snd = tc_KL) {v nm W row : Nat → Int} {T dn : Nat} {B : hx_pB} {c9 : Int} {μ : xw_M} (hG : xw_G xw_GL μ) (hK : hp_ok v nm) (hN : ∀ k : Nat, k < 77 → μ 202 k = v k) (hT : (T : Int) < v 0) (hW : ∀ f : Nat, f < 8 → 0 ≤ W f ∧ W f ≤ 171072) (hP : ∀ f : Nat, f < 8 → μ 212 (24 + f) = W f) (hrw : ∀ i : Nat, i < 3 → μ 213 i = row i) (hB : hx_bR B μ) (hdn : dn < 8) (hpc : hs_pc dn = 3) (hc : 0 ≤ c9 ∧ c9 ≤ 492687360) (hs : ¬ hx_sm W 8 = 0) (kx : ∀ ν : xw_M, hx_bR (hx_kp B (3 + 1) (c9 + hx_sm W 8 * 120) (hx_ru row 3 3)) ν → xw_F [(213, 3, 3), (214, 0, 3), (200, 30, 31)] μ ν → xw_W p l e { frames := 3, cells := 0, slots := 0, locals := 143 } s m args below meth c Q D dA A 8 vwCl tb_KT0 al 0 0 ν 172 [] []) : xw_W p l e { frames := 3, cells := 0, slots := 0, locals := 143 } s m args below meth c Q D dA A 8 vwCl tb_KT0 al 0 0 μ 23 [(0, .ref (xw_ad al 200)), (1, .int (Int32.ofInt (T : Int))), (2, .int (Int32.ofInt 3)), (3, .int (Int32.ofInt (dn : Int))), (4, .int (Int32.ofInt c9)), (5, .int (Int32.ofInt (hx_sm W 8))), (6, .int (Int32.ofInt 3))] [] := by
  have k0 := hK.1
  have s9 := hx_smB (W := W) 8 hW
  have s9 : 0 ≤ hx_sm W 8 ∧ hx_sm W 8 ≤ 1368576 := ⟨s9.1, by have q := s9.2; omega⟩
  refine xw_iload (pc := 23) C0 6 dX12_planFrom_23 rfl ?_
  refine xw_iconst (pc := 25) C0 dX12_planFrom_25 ?_
  refine xw_icmp_ge (pc := 26) (tgt := 146) C0 (by omega) (by omega) dX12_planFrom_26 rfl (fun b1 => ?_) (fun b1 => ?_)
  · refine xw_aload_n (pc := 146) C0 0 dX12_planFrom_146 rfl rfl ?_
    refine xw_getR (pc := 147) (f := 28) C0 213 kcX12 dX12_planFrom_147 (by decide +kernel) tv_1289 (xj_200 hKL) xk_0 rfl ((rfl).trans (xe_200_28 hG)) ?_
    refine xw_iload_n (pc := 150) C0 2 dX12_planFrom_150 rfl rfl ?_
    refine xw_iconst (pc := 151) C0 dX12_planFrom_151 ?_
    refine xw_iast (pc := 152) C0 dX12_planFrom_152 (xj_213 hKL) xk_83 (by omega) (by decide +kernel) (xw_rl (by omega)) (by omega) (by omega) ?_
    refine xw_mu (μ' := (xw_u μ 213 3 3)) rfl ?_
    refine xw_aload_n (pc := 153) C0 0 dX12_planFrom_153 rfl rfl ?_
    refine xw_iload_n (pc := 154) C0 2 dX12_planFrom_154 rfl rfl ?_
    refine xw_iconst (pc := 155) C0 dX12_planFrom_155 ?_
    refine xw_iadd (pc := 156) C0 dX12_planFrom_156 ?_
    refine  xw_nI (congrArg Int32.ofInt (show 3 + 1 = (4 : Int) by decide)) ?_
    refine xw_iload (pc := 157) C0 4 dX12_planFrom_157 rfl ?_
    refine xw_iload (pc := 159) C0 5 dX12_planFrom_159 rfl ?_
    refine xw_aload_n (pc := 161) C0 0 dX12_planFrom_161 rfl rfl ?_
    refine xw_iload_n (pc := 162) C0 1 dX12_planFrom_162 rfl rfl ?_
    refine xw_iconst (pc := 163) C0 dX12_planFrom_163 ?_
    have Ft1 : xw_F [(213, 3, 3)] μ (xw_u μ 213 3 3) := ((xw_F.rf (ML := [(213, 3, 3)])).u (show (213, 3, 3) ∈ _ by decide) ⟨by decide, by decide⟩)
    have vt1_213_3 : (xw_u μ 213 3 3) 213 3 = 3 := xw_ug
    generalize (xw_u μ 213 3 3) = t1 at Ft1 vt1_213_3 ⊢
    have hG_t1 := xw_GF hG Ft1 (by decide +kernel)
    have hN_t1 : ∀ k : Nat, k < 77 → t1 202 k = v k := fun k hk => (Ft1 202 k (xw_oj (by decide +kernel) k)).trans (hN k hk)
    refine xw_callVI (pc := 164) (μ := t1) (ci := 12) (rest := [.int (Int32.ofInt (hx_sm W 8)), .int (Int32.ofInt c9), .int (Int32.ofInt 4), .ref (xw_ad al 200)]) (As := [.int (Int32.ofInt (T : Int)), .int (Int32.ofInt 3)]) C0 hU hO sa_Tg hKL (xr_mo3 (l := l) (v := v) (nm := nm) (T := T) (μ := t1) hG_t1 hK hN_t1 hT) tv_1684 dX12_planFrom_164 tv_1681 tv_1683 tq_X12_minutesOf tv_13 rfl yb_X12_minutesOf (by decide +kernel) rfl rfl rfl (by decide +kernel) (Nat.le_of_ble_eq_true rfl) (xj_200 hKL) xk_0 (fun r2 m2 w2 => ?_)
    obtain ⟨rfl, w2⟩ := w2
    have w2 : r2 = 120 := w2
    subst w2
    refine xw_imul (pc := 167) C0 dX12_planFrom_167 ?_
    refine xw_iadd (pc := 168) C0 dX12_planFrom_168 ?_
    have hr9 : ∀ i : Nat, i < 4 → t1 213 i = hx_ru row 3 3 i := fun i hi => by
      by_cases e9 : i = 3
      · subst e9; exact vt1_213_3.trans (if_pos rfl).symm
      · exact (Ft1 213 i (xw_oB (a := 0) (b := 2) (by decide +kernel) (Nat.zero_le _) (by omega))).trans ((hrw i (by omega)).trans (if_neg e9).symm)
    have hB9 : hx_bR B t1 := ⟨⟨hB.1.1, hB.1.2.1, (Ft1 200 31 (by decide +kernel)).trans hB.1.2.2⟩, fun q => ⟨(Ft1 200 30 (by decide +kernel)).trans (hB.2 q).1, fun i h4 hi => (Ft1 214 i (xw_oj (by decide +kernel) i)).trans ((hB.2 q).2 i h4 hi)⟩⟩
    refine xw_callVV (pc := 169) (μ := t1) (ci := 12) (rest := []) (As := [.int (Int32.ofInt 4), .int (Int32.ofInt (c9 + ((hx_sm W 8) * 120)))]) C0 hU hO sa_Tg hKL (xr_kp4 (l := l) (B := B) (c9 := c9 + hx_sm W 8 * 120) (row := hx_ru row 3 3) (μ := t1) hG_t1 (by omega) hr9 hB9) tv_1680 dX12_planFrom_169 tv_1677 tv_1679 tq_X12_keepPlan tv_13 rfl yb_X12_keepPlan (by decide +kernel) rfl rfl rfl (by decide +kernel) (Nat.le_of_ble_eq_true rfl) (xj_200 hKL) xk_0 (fun m3 w3 => ?_)
    obtain ⟨H3, F3⟩ := w3
    refine xw_pk [] (L' := []) rfl ?_
    exact kx m3 H3 (((xw_F.rf (ML := [(213, 3, 3), (214, 0, 3), (200, 30, 31)])).tr Ft1 (fun j i h => xw_o_sub (by decide +kernel) j i h)).tr F3 (fun j i h => xw_o_sub (by decide +kernel) j i h))
  · exfalso
    omega
set_option maxRecDepth 20000 in
set_option maxHeartbeats 20000000 in
theorem xr_tr3_2 {l : Launch} {p : Program} {e : Env} {s : State} {m : MethodId} {args : Array Value} {below : List Frame} {meth : Method} {c : Code} {Q : State → Prop} {D : va_G} {dA : Nat → ClassId} {A : Nat → Prop} {al : List (Nat × Nat)} (C0 : sa_C p s m args c D dA A 8 vwCl sa_Ts cX12_planFrom yX12_planFrom.cls) (hU : sa_U D vwCl dA s) (hO : tb_Ou A s s.heap) (hKL : al.map Prod.snd = tc_KL) {v nm W row : Nat → Int} {T dn : Nat} {B : hx_pB} {c9 : Int} {μ : xw_M} (hG : xw_G xw_GL μ) (hK : hp_ok v nm) (hN : ∀ k : Nat, k < 77 → μ 202 k = v k) (hT : (T : Int) < v 0) (hW : ∀ f : Nat, f < 8 → 0 ≤ W f ∧ W f ≤ 171072) (hP : ∀ f : Nat, f < 8 → μ 212 (24 + f) = W f) (hrw : ∀ i : Nat, i < 3 → μ 213 i = row i) (hB : hx_bR B μ) (hdn : dn < 8) (hpc : hs_pc dn = 3) (hc : 0 ≤ c9 ∧ c9 ≤ 492687360) (hs : ¬ hx_sm W 8 = 0) (kx : ∀ ν : xw_M, hx_bR (hx_kp (hx_sd v T 0 3 W dn c9 row 2 B) (3 + 1) (c9 + hx_sm W 8 * 120) (hx_ru row 3 3)) ν → xw_F [(213, 3, 3), (214, 0, 3), (200, 30, 31)] μ ν → xw_W p l e { frames := 3, cells := 0, slots := 0, locals := 143 } s m args below meth c Q D dA A 8 vwCl tb_KT0 al 0 0 ν 172 [] []) : xw_W p l e { frames := 3, cells := 0, slots := 0, locals := 143 } s m args below meth c Q D dA A 8 vwCl tb_KT0 al 0 0 μ 23 [(0, .ref (xw_ad al 200)), (1, .int (Int32.ofInt (T : Int))), (2, .int (Int32.ofInt 3)), (3, .int (Int32.ofInt (dn : Int))), (4, .int (Int32.ofInt c9)), (5, .int (Int32.ofInt (hx_sm W 8))), (6, .int (Int32.ofInt 2))] [] := by
  have k0 := hK.1
  have s9 := hx_smB (W := W) 8 hW
  have s9 : 0 ≤ hx_sm W 8 ∧ hx_sm W 8 ≤ 1368576 := ⟨s9.1, by have q := s9.2; omega⟩
  refine xw_iload (pc := 23) C0 6 dX12_planFrom_23 rfl ?_
  refine xw_iconst (pc := 25) C0 dX12_planFrom_25 ?_
  refine xw_icmp_ge (pc := 26) (tgt := 146) C0 (by omega) (by omega) dX12_planFrom_26 rfl (fun b1 => ?_) (fun b1 => ?_)
  · exfalso
    omega
  · refine xw_iload_n (pc := 29) C0 3 dX12_planFrom_29 rfl rfl ?_
    refine xw_iload (pc := 30) C0 6 dX12_planFrom_30 rfl ?_
    have b9 : dn.testBit 2 = true := by
      rw [show dn = 7 from xb_pr3 ⟨dn, hdn⟩ hpc]
      decide
    have n9 : tb_hb (Int32.ofInt (dn : Int)) (Int32.ofInt 2) = Int32.ofInt 1 := (xb_prB (u := 2) hdn (by decide +kernel)).trans (by rw [b9]; rfl)
    refine xw_bitS (pc := 32) (rest := []) (r := 1) C0 sa_Tg (pu_X12_has (l := l)) tv_1660 dX12_planFrom_32 tv_1658 tv_1659 tv_13 yb_X12_has (by decide +kernel) (by decide +kernel) (Nat.le_of_ble_eq_true rfl) n9 ?_
    refine xw_if_eq (pc := 35) (tgt := 41) C0 (by omega) dX12_planFrom_35 rfl (fun b2 => ?_) (fun b2 => ?_)
    · exfalso
      omega
    · refine xw_goto (pc := 38) (tgt := 140) C0 dX12_planFrom_38 rfl ?_
      refine xw_iinc (pc := 140) (L' := [(6, .int (Int32.ofInt 3)), (0, .ref (xw_ad al 200)), (1, .int (Int32.ofInt (T : Int))), (2, .int (Int32.ofInt 3)), (3, .int (Int32.ofInt (dn : Int))), (4, .int (Int32.ofInt c9)), (5, .int (Int32.ofInt (hx_sm W 8)))]) C0 6 dX12_planFrom_140 rfl (by decide +kernel) rfl ?_
      refine xw_goto (pc := 143) (tgt := 23) C0 dX12_planFrom_143 rfl ?_
      refine xw_pk [1, 2, 3, 4, 5, 6, 0] (L' := [(0, .ref (xw_ad al 200)), (1, .int (Int32.ofInt (T : Int))), (2, .int (Int32.ofInt 3)), (3, .int (Int32.ofInt (dn : Int))), (4, .int (Int32.ofInt c9)), (5, .int (Int32.ofInt (hx_sm W 8))), (6, .int (Int32.ofInt 3))]) rfl ?_
      rw [hx_sdT b9] at kx
      exact xr_tr3_3 (v := v) (nm := nm) (W := W) (row := row) (T := T) (dn := dn) (B := B) (c9 := c9) (μ := μ) C0 hU hO hKL hG hK hN hT hW hP hrw hB hdn hpc hc hs kx
set_option maxRecDepth 20000 in
set_option maxHeartbeats 20000000 in
theorem xr_tr3_1 {l : Launch} {p : Program} {e : Env} {s : State} {m : MethodId} {args : Array Value} {below : List Frame} {meth : Method} {c : Code} {Q : State → Prop} {D : va_G} {dA : Nat → ClassId} {A : Nat → Prop} {al : List (Nat × Nat)} (C0 : sa_C p s m args c D dA A 8 vwCl sa_Ts cX12_planFrom yX12_planFrom.cls) (hU : sa_U D vwCl dA s) (hO : tb_Ou A s s.heap) (hKL : al.map Prod.snd = tc_KL) {v nm W row : Nat → Int} {T dn : Nat} {B : hx_pB} {c9 : Int} {μ : xw_M} (hG : xw_G xw_GL μ) (hK : hp_ok v nm) (hN : ∀ k : Nat, k < 77 → μ 202 k = v k) (hT : (T : Int) < v 0) (hW : ∀ f : Nat, f < 8 → 0 ≤ W f ∧ W f ≤ 171072) (hP : ∀ f : Nat, f < 8 → μ 212 (24 + f) = W f) (hrw : ∀ i : Nat, i < 3 → μ 213 i = row i) (hB : hx_bR B μ) (hdn : dn < 8) (hpc : hs_pc dn = 3) (hc : 0 ≤ c9 ∧ c9 ≤ 492687360) (hs : ¬ hx_sm W 8 = 0) (kx : ∀ ν : xw_M, hx_bR (hx_kp (hx_sd v T 0 3 W dn c9 row 2 (hx_sd v T 0 3 W dn c9 row 1 B)) (3 + 1) (c9 + hx_sm W 8 * 120) (hx_ru row 3 3)) ν → xw_F [(213, 3, 3), (214, 0, 3), (200, 30, 31)] μ ν → xw_W p l e { frames := 3, cells := 0, slots := 0, locals := 143 } s m args below meth c Q D dA A 8 vwCl tb_KT0 al 0 0 ν 172 [] []) : xw_W p l e { frames := 3, cells := 0, slots := 0, locals := 143 } s m args below meth c Q D dA A 8 vwCl tb_KT0 al 0 0 μ 23 [(0, .ref (xw_ad al 200)), (1, .int (Int32.ofInt (T : Int))), (2, .int (Int32.ofInt 3)), (3, .int (Int32.ofInt (dn : Int))), (4, .int (Int32.ofInt c9)), (5, .int (Int32.ofInt (hx_sm W 8))), (6, .int (Int32.ofInt 1))] [] := by
  have k0 := hK.1
  have s9 := hx_smB (W := W) 8 hW
  have s9 : 0 ≤ hx_sm W 8 ∧ hx_sm W 8 ≤ 1368576 := ⟨s9.1, by have q := s9.2; omega⟩
  refine xw_iload (pc := 23) C0 6 dX12_planFrom_23 rfl ?_
  refine xw_iconst (pc := 25) C0 dX12_planFrom_25 ?_
  refine xw_icmp_ge (pc := 26) (tgt := 146) C0 (by omega) (by omega) dX12_planFrom_26 rfl (fun b1 => ?_) (fun b1 => ?_)
  · exfalso
    omega
  · refine xw_iload_n (pc := 29) C0 3 dX12_planFrom_29 rfl rfl ?_
    refine xw_iload (pc := 30) C0 6 dX12_planFrom_30 rfl ?_
    have b9 : dn.testBit 1 = true := by
      rw [show dn = 7 from xb_pr3 ⟨dn, hdn⟩ hpc]
      decide
    have n9 : tb_hb (Int32.ofInt (dn : Int)) (Int32.ofInt 1) = Int32.ofInt 1 := (xb_prB (u := 1) hdn (by decide +kernel)).trans (by rw [b9]; rfl)
    refine xw_bitS (pc := 32) (rest := []) (r := 1) C0 sa_Tg (pu_X12_has (l := l)) tv_1660 dX12_planFrom_32 tv_1658 tv_1659 tv_13 yb_X12_has (by decide +kernel) (by decide +kernel) (Nat.le_of_ble_eq_true rfl) n9 ?_
    refine xw_if_eq (pc := 35) (tgt := 41) C0 (by omega) dX12_planFrom_35 rfl (fun b2 => ?_) (fun b2 => ?_)
    · exfalso
      omega
    · refine xw_goto (pc := 38) (tgt := 140) C0 dX12_planFrom_38 rfl ?_
      refine xw_iinc (pc := 140) (L' := [(6, .int (Int32.ofInt 2)), (0, .ref (xw_ad al 200)), (1, .int (Int32.ofInt (T : Int))), (2, .int (Int32.ofInt 3)), (3, .int (Int32.ofInt (dn : Int))), (4, .int (Int32.ofInt c9)), (5, .int (Int32.ofInt (hx_sm W 8)))]) C0 6 dX12_planFrom_140 rfl (by decide +kernel) rfl ?_
      refine xw_goto (pc := 143) (tgt := 23) C0 dX12_planFrom_143 rfl ?_
      refine xw_pk [1, 2, 3, 4, 5, 6, 0] (L' := [(0, .ref (xw_ad al 200)), (1, .int (Int32.ofInt (T : Int))), (2, .int (Int32.ofInt 3)), (3, .int (Int32.ofInt (dn : Int))), (4, .int (Int32.ofInt c9)), (5, .int (Int32.ofInt (hx_sm W 8))), (6, .int (Int32.ofInt 2))]) rfl ?_
      rw [hx_sdT b9] at kx
      exact xr_tr3_2 (v := v) (nm := nm) (W := W) (row := row) (T := T) (dn := dn) (B := B) (c9 := c9) (μ := μ) C0 hU hO hKL hG hK hN hT hW hP hrw hB hdn hpc hc hs kx
set_option maxRecDepth 20000 in
set_option maxHeartbeats 20000000 in
theorem xr_tr3_0 {l : Launch} {p : Program} {e : Env} {s : State} {m : MethodId} {args : Array Value} {below : List Frame} {meth : Method} {c : Code} {Q : State → Prop} {D : va_G} {dA : Nat → ClassId} {A : Nat → Prop} {al : List (Nat × Nat)} (C0 : sa_C p s m args c D dA A 8 vwCl sa_Ts cX12_planFrom yX12_planFrom.cls) (hU : sa_U D vwCl dA s) (hO : tb_Ou A s s.heap) (hKL : al.map Prod.snd = tc_KL) {v nm W row : Nat → Int} {T dn : Nat} {B : hx_pB} {c9 : Int} {μ : xw_M} (hG : xw_G xw_GL μ) (hK : hp_ok v nm) (hN : ∀ k : Nat, k < 77 → μ 202 k = v k) (hT : (T : Int) < v 0) (hW : ∀ f : Nat, f < 8 → 0 ≤ W f ∧ W f ≤ 171072) (hP : ∀ f : Nat, f < 8 → μ 212 (24 + f) = W f) (hrw : ∀ i : Nat, i < 3 → μ 213 i = row i) (hB : hx_bR B μ) (hdn : dn < 8) (hpc : hs_pc dn = 3) (hc : 0 ≤ c9 ∧ c9 ≤ 492687360) (hs : ¬ hx_sm W 8 = 0) (kx : ∀ ν : xw_M, hx_bR (hx_kp (hx_sd v T 0 3 W dn c9 row 2 (hx_sd v T 0 3 W dn c9 row 1 (hx_sd v T 0 3 W dn c9 row 0 B))) (3 + 1) (c9 + hx_sm W 8 * 120) (hx_ru row 3 3)) ν → xw_F [(213, 3, 3), (214, 0, 3), (200, 30, 31)] μ ν → xw_W p l e { frames := 3, cells := 0, slots := 0, locals := 143 } s m args below meth c Q D dA A 8 vwCl tb_KT0 al 0 0 ν 172 [] []) : xw_W p l e { frames := 3, cells := 0, slots := 0, locals := 143 } s m args below meth c Q D dA A 8 vwCl tb_KT0 al 0 0 μ 23 [(0, .ref (xw_ad al 200)), (1, .int (Int32.ofInt (T : Int))), (2, .int (Int32.ofInt 3)), (3, .int (Int32.ofInt (dn : Int))), (4, .int (Int32.ofInt c9)), (5, .int (Int32.ofInt (hx_sm W 8))), (6, .int (Int32.ofInt 0))] [] := by
  have k0 := hK.1
  have s9 := hx_smB (W := W) 8 hW
  have s9 : 0 ≤ hx_sm W 8 ∧ hx_sm W 8 ≤ 1368576 := ⟨s9.1, by have q := s9.2; omega⟩
  refine xw_iload (pc := 23) C0 6 dX12_planFrom_23 rfl ?_
  refine xw_iconst (pc := 25) C0 dX12_planFrom_25 ?_
  refine xw_icmp_ge (pc := 26) (tgt := 146) C0 (by omega) (by omega) dX12_planFrom_26 rfl (fun b1 => ?_) (fun b1 => ?_)
  · exfalso
    omega
  · refine xw_iload_n (pc := 29) C0 3 dX12_planFrom_29 rfl rfl ?_
    refine xw_iload (pc := 30) C0 6 dX12_planFrom_30 rfl ?_
    have b9 : dn.testBit 0 = true := by
      rw [show dn = 7 from xb_pr3 ⟨dn, hdn⟩ hpc]
      decide
    have n9 : tb_hb (Int32.ofInt (dn : Int)) (Int32.ofInt 0) = Int32.ofInt 1 := (xb_prB (u := 0) hdn (by decide +kernel)).trans (by rw [b9]; rfl)
    refine xw_bitS (pc := 32) (rest := []) (r := 1) C0 sa_Tg (pu_X12_has (l := l)) tv_1660 dX12_planFrom_32 tv_1658 tv_1659 tv_13 yb_X12_has (by decide +kernel) (by decide +kernel) (Nat.le_of_ble_eq_true rfl) n9 ?_
    refine xw_if_eq (pc := 35) (tgt := 41) C0 (by omega) dX12_planFrom_35 rfl (fun b2 => ?_) (fun b2 => ?_)
    · exfalso
      omega
    · refine xw_goto (pc := 38) (tgt := 140) C0 dX12_planFrom_38 rfl ?_
      refine xw_iinc (pc := 140) (L' := [(6, .int (Int32.ofInt 1)), (0, .ref (xw_ad al 200)), (1, .int (Int32.ofInt (T : Int))), (2, .int (Int32.ofInt 3)), (3, .int (Int32.ofInt (dn : Int))), (4, .int (Int32.ofInt c9)), (5, .int (Int32.ofInt (hx_sm W 8)))]) C0 6 dX12_planFrom_140 rfl (by decide +kernel) rfl ?_
      refine xw_goto (pc := 143) (tgt := 23) C0 dX12_planFrom_143 rfl ?_
      refine xw_pk [1, 2, 3, 4, 5, 6, 0] (L' := [(0, .ref (xw_ad al 200)), (1, .int (Int32.ofInt (T : Int))), (2, .int (Int32.ofInt 3)), (3, .int (Int32.ofInt (dn : Int))), (4, .int (Int32.ofInt c9)), (5, .int (Int32.ofInt (hx_sm W 8))), (6, .int (Int32.ofInt 1))]) rfl ?_
      rw [hx_sdT b9] at kx
      exact xr_tr3_1 (v := v) (nm := nm) (W := W) (row := row) (T := T) (dn := dn) (B := B) (c9 := c9) (μ := μ) C0 hU hO hKL hG hK hN hT hW hP hrw hB hdn hpc hc hs kx
