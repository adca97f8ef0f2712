noncomputable def hx_cn (v a b c d r : Int) : Prop := (v = 0 → r = a) ∧ (v = 1 → r = b) ∧ (v = 2 → r = c) ∧ (v = 3 → r = d) ∧ ((v < 0 ∨ 3 < v) → r = -1)
set_option maxRecDepth 20000 in
set_option maxHeartbeats 20000000 in
theorem xh_count {l : Launch} {μ : xw_M} {v : Int} (hG : xw_G xw_GL μ) (hr9 : -2147483648 ≤ v ∧ v ≤ 2147483647) : xw_MetI l vwCl sa_Ts tb_KT0 tc_KL yX11_count cX11_count 2 (some .int) 2 120 (fun ad => [.ref (ad 0), .int (Int32.ofInt v)]) μ (fun r μ' => μ = μ' ∧ hx_cn v (μ 4 13) (μ 4 14) (μ 4 15) (μ 1 1) r) :=
  xw_of (by decide +kernel) (fun _ => Nat.le_of_ble_eq_true rfl) (fun p e s m args below meth c D dA A al w0 sz C0 hU hO hKL hr hlk hA => by
    refine xw_iload_n (pc := 0) C0 1 dX11_count_0 rfl rfl ?_
    rcases (show v = 0 ∨ v = 1 ∨ v = 2 ∨ v = 3 ∨ (v < 0 ∨ 3 < v) by omega) with sw | sw | sw | sw | sw
    · refine xw_tabI (pc := 1) (tgt := 32) (off := 31) C0 (by omega) dX11_count_1 (by omega) (by omega) (by rw [sw]; rfl) rfl ?_
      refine xw_aload_n (pc := 32) C0 0 dX11_count_32 rfl rfl ?_
      refine xw_getR (pc := 33) (f := 1) C0 3 kcX11 dX11_count_33 (by decide +kernel) tv_423 (xj_0 hKL) xk_27 rfl ((rfl).trans (xe_0_1 hG)) ?_
      refine xw_getR (pc := 36) (f := 0) C0 4 kcX10 dX11_count_36 (by decide +kernel) tv_234 (xj_3 hKL) xk_24 rfl ((rfl).trans (xe_3_0 hG)) ?_
      refine xw_getI (pc := 39) (f := 13) (z := μ 4 13) C0 kcX2 dX11_count_39 (by decide +kernel) tv_100 (xj_4 hKL) xk_28 rfl (rfl) (fun g1 k1 => ?_)
      refine xw_iret C0 hA hr hlk rfl dX11_count_42 ?_
      exact ⟨_, rfl, rfl, fun q => by omega, fun q => by omega, fun q => by omega, fun q => by omega, fun q => by omega⟩
    · refine xw_tabI (pc := 1) (tgt := 43) (off := 42) C0 (by omega) dX11_count_1 (by omega) (by omega) (by rw [sw]; rfl) rfl ?_
      refine xw_aload_n (pc := 43) C0 0 dX11_count_43 rfl rfl ?_
      refine xw_getR (pc := 44) (f := 1) C0 3 kcX11 dX11_count_44 (by decide +kernel) tv_423 (xj_0 hKL) xk_27 rfl ((rfl).trans (xe_0_1 hG)) ?_
      refine xw_getR (pc := 47) (f := 0) C0 4 kcX10 dX11_count_47 (by decide +kernel) tv_234 (xj_3 hKL) xk_24 rfl ((rfl).trans (xe_3_0 hG)) ?_
      refine xw_getI (pc := 50) (f := 14) (z := μ 4 14) C0 kcX2 dX11_count_50 (by decide +kernel) tv_104 (xj_4 hKL) xk_28 rfl (rfl) (fun g2 k2 => ?_)
      refine xw_iret C0 hA hr hlk rfl dX11_count_53 ?_
      exact ⟨_, rfl, rfl, fun q => by omega, fun q => by omega, fun q => by omega, fun q => by omega, fun q => by omega⟩
    · refine xw_tabI (pc := 1) (tgt := 54) (off := 53) C0 (by omega) dX11_count_1 (by omega) (by omega) (by rw [sw]; rfl) rfl ?_
      refine xw_aload_n (pc := 54) C0 0 dX11_count_54 rfl rfl ?_
      refine xw_getR (pc := 55) (f := 1) C0 3 kcX11 dX11_count_55 (by decide +kernel) tv_423 (xj_0 hKL) xk_27 rfl ((rfl).trans (xe_0_1 hG)) ?_
      refine xw_getR (pc := 58) (f := 0) C0 4 kcX10 dX11_count_58 (by decide +kernel) tv_234 (xj_3 hKL) xk_24 rfl ((rfl).trans (xe_3_0 hG)) ?_
      refine xw_getI (pc := 61) (f := 15) (z := μ 4 15) C0 kcX2 dX11_count_61 (by decide +kernel) tv_107 (xj_4 hKL) xk_28 rfl (rfl) (fun g3 k3 => ?_)
      refine xw_iret C0 hA hr hlk rfl dX11_count_64 ?_
      exact ⟨_, rfl, rfl, fun q => by omega, fun q => by omega, fun q => by omega, fun q => by omega, fun q => by omega⟩
    · refine xw_tabI (pc := 1) (tgt := 65) (off := 64) C0 (by omega) dX11_count_1 (by omega) (by omega) (by rw [sw]; rfl) rfl ?_
      refine xw_aload_n (pc := 65) C0 0 dX11_count_65 rfl rfl ?_
      refine xw_getR (pc := 66) (f := 0) C0 1 kcX11 dX11_count_66 (by decide +kernel) tv_422 (xj_0 hKL) xk_27 rfl ((rfl).trans (xe_0_0 hG)) ?_
      refine xw_getI (pc := 69) (f := 1) (z := μ 1 1) C0 kcX0 dX11_count_69 (by decide +kernel) tv_40 (xj_1 hKL) xk_19 rfl (rfl) (fun g4 k4 => ?_)
      refine xw_iret C0 hA hr hlk rfl dX11_count_72 ?_
      exact ⟨_, rfl, rfl, fun q => by omega, fun q => by omega, fun q => by omega, fun q => by omega, fun q => by omega⟩
    · refine xw_tabO (pc := 1) (tgt := 73) C0 (by omega) dX11_count_1 (by omega) rfl ?_
      refine xw_iconst (pc := 73) C0 dX11_count_73 ?_
      refine xw_iret C0 hA hr hlk rfl dX11_count_74 ?_
      exact ⟨_, rfl, rfl, fun q => by omega, fun q => by omega, fun q => by omega, fun q => by omega, fun q => by omega⟩)
set_option maxRecDepth 20000 in
set_option maxHeartbeats 20000000 in
theorem xr_count {l : Launch} {μ : xw_M} {v : Int} (hG : xw_G xw_GL μ) (hr9 : -2147483648 ≤ v ∧ v ≤ 2147483647) : xw_MetI l vwCl sa_Ts tb_KT0 tc_KL yX12_count cX12_count 2 (some .int) 2 120 (fun ad => [.ref (ad 200), .int (Int32.ofInt v)]) μ (fun r μ' => hx_cn v (μ 202 0) (μ 202 1) (μ 202 2) (μ 200 2) r ∧ xw_F [(200, 0, 0)] μ μ') :=
  xw_of (by decide +kernel) (fun _ => Nat.le_of_ble_eq_true rfl) (fun p e s m args below meth c D dA A al w0 sz C0 hU hO hKL hr hlk hA => by
    refine xw_aload_n (pc := 0) C0 0 dX12_count_0 rfl rfl ?_
    refine xw_iconst (pc := 1) C0 dX12_count_1 ?_
    refine xw_putI (pc := 2) (f := 0) C0 kcX12 dX12_count_2 (by decide +kernel) tv_1261 rfl rfl (xj_200 hKL) xk_0 rfl (by omega) (by omega) ?_
    refine xw_iload_n (pc := 5) C0 1 dX12_count_5 rfl rfl ?_
    rcases (show v = 0 ∨ v = 1 ∨ v = 2 ∨ v = 3 ∨ (v < 0 ∨ 3 < v) by omega) with sw | sw | sw | sw | sw
    · refine xw_tabI (pc := 6) (tgt := 36) (off := 30) C0 (by omega) dX12_count_6 (by omega) (by omega) (by rw [sw]; rfl) rfl ?_
      refine xw_aload_n (pc := 36) C0 0 dX12_count_36 rfl rfl ?_
      refine xw_getR (pc := 37) (f := 14) C0 202 kcX12 dX12_count_37 (by decide +kernel) tv_1275 (xj_200 hKL) xk_0 rfl (((xw_un (by decide +kernel)).trans rfl).trans (xe_200_14 hG)) ?_
      refine xw_iconst (pc := 40) C0 dX12_count_40 ?_
      refine xw_iald (pc := 41) (z := μ 202 0) C0 dX12_count_41 (xj_202 hKL) xk_1 (by omega) (by decide +kernel) rfl ((xw_un (fun q => absurd q.1 (by decide +kernel))).trans rfl) (fun g1 k1 => ?_)
      refine xw_iret C0 hA hr hlk rfl dX12_count_42 ?_
      have Ft1 : xw_F [(200, 0, 0)] μ (xw_u μ 200 0 0) := ((xw_F.rf (ML := [(200, 0, 0)])).u (show (200, 0, 0) ∈ _ by decide) ⟨by decide, by decide⟩)
      have vt1_200_0 : (xw_u μ 200 0 0) 200 0 = 0 := xw_ug
      generalize (xw_u μ 200 0 0) = t1 at Ft1 vt1_200_0 ⊢
      exact ⟨_, rfl, ⟨fun q => by omega, fun q => by omega, fun q => by omega, fun q => by omega, fun q => by omega⟩, ((xw_F.rf (ML := [(200, 0, 0)])).tr Ft1 (fun j i h => xw_o_sub (by decide +kernel) j i h))⟩
    · refine xw_tabI (pc := 6) (tgt := 43) (off := 37) C0 (by omega) dX12_count_6 (by omega) (by omega) (by rw [sw]; rfl) rfl ?_
      refine xw_aload_n (pc := 43) C0 0 dX12_count_43 rfl rfl ?_
      refine xw_getR (pc := 44) (f := 14) C0 202 kcX12 dX12_count_44 (by decide +kernel) tv_1275 (xj_200 hKL) xk_0 rfl (((xw_un (by decide +kernel)).trans rfl).trans (xe_200_14 hG)) ?_
      refine xw_iconst (pc := 47) C0 dX12_count_47 ?_
      refine xw_iald (pc := 48) (z := μ 202 1) C0 dX12_count_48 (xj_202 hKL) xk_1 (by omega) (by decide +kernel) rfl ((xw_un (fun q => absurd q.1 (by decide +kernel))).trans rfl) (fun g2 k2 => ?_)
      refine xw_iret C0 hA hr hlk rfl dX12_count_49 ?_
      have Ft2 : xw_F [(200, 0, 0)] μ (xw_u μ 200 0 0) := ((xw_F.rf (ML := [(200, 0, 0)])).u (show (200, 0, 0) ∈ _ by decide) ⟨by decide, by decide⟩)
      have vt2_200_0 : (xw_u μ 200 0 0) 200 0 = 0 := xw_ug
      generalize (xw_u μ 200 0 0) = t2 at Ft2 vt2_200_0 ⊢
      exact ⟨_, rfl, ⟨fun q => by omega, fun q => by omega, fun q => by omega, fun q => by omega, fun q => by omega⟩, ((xw_F.rf (ML := [(200, 0, 0)])).tr Ft2 (fun j i h => xw_o_sub (by decide +kernel) j i h))⟩
    · refine xw_tabI (pc := 6) (tgt := 50) (off := 44) C0 (by omega) dX12_count_6 (by omega) (by omega) (by rw [sw]; rfl) rfl ?_
      refine xw_aload_n (pc := 50) C0 0 dX12_count_50 rfl rfl ?_
      refine xw_getR (pc := 51) (f := 14) C0 202 kcX12 dX12_count_51 (by decide +kernel) tv_1275 (xj_200 hKL) xk_0 rfl (((xw_un (by decide +kernel)).trans rfl).trans (xe_200_14 hG)) ?_
      refine xw_iconst (pc := 54) C0 dX12_count_54 ?_
      refine xw_iald (pc := 55) (z := μ 202 2) C0 dX12_count_55 (xj_202 hKL) xk_1 (by omega) (by decide +kernel) rfl ((xw_un (fun q => absurd q.1 (by decide +kernel))).trans rfl) (fun g3 k3 => ?_)
      refine xw_iret C0 hA hr hlk rfl dX12_count_56 ?_
      have Ft3 : xw_F [(200, 0, 0)] μ (xw_u μ 200 0 0) := ((xw_F.rf (ML := [(200, 0, 0)])).u (show (200, 0, 0) ∈ _ by decide) ⟨by decide, by decide⟩)
      have vt3_200_0 : (xw_u μ 200 0 0) 200 0 = 0 := xw_ug
      generalize (xw_u μ 200 0 0) = t3 at Ft3 vt3_200_0 ⊢
      exact ⟨_, rfl, ⟨fun q => by omega, fun q => by omega, fun q => by omega, fun q => by omega, fun q => by omega⟩, ((xw_F.rf (ML := [(200, 0, 0)])).tr Ft3 (fun j i h => xw_o_sub (by decide +kernel) j i h))⟩
    · refine xw_tabI (pc := 6) (tgt := 57) (off := 51) C0 (by omega) dX12_count_6 (by omega) (by omega) (by rw [sw]; rfl) rfl ?_
      refine xw_aload_n (pc := 57) C0 0 dX12_count_57 rfl rfl ?_
      refine xw_getI (pc := 58) (f := 2) (z := μ 200 2) C0 kcX12 dX12_count_58 (by decide +kernel) tv_1263 (xj_200 hKL) xk_0 rfl ((xw_un (by decide +kernel)).trans rfl) (fun g4 k4 => ?_)
      refine xw_iret C0 hA hr hlk rfl dX12_count_61 ?_
      have Ft4 : xw_F [(200, 0, 0)] μ (xw_u μ 200 0 0) := ((xw_F.rf (ML := [(200, 0, 0)])).u (show (200, 0, 0) ∈ _ by decide) ⟨by decide, by decide⟩)
      have vt4_200_0 : (xw_u μ 200 0 0) 200 0 = 0 := xw_ug
      generalize (xw_u μ 200 0 0) = t4 at Ft4 vt4_200_0 ⊢
      exact ⟨_, rfl, ⟨fun q => by omega, fun q => by omega, fun q => by omega, fun q => by omega, fun q => by omega⟩, ((xw_F.rf (ML := [(200, 0, 0)])).tr Ft4 (fun j i h => xw_o_sub (by decide +kernel) j i h))⟩
    · refine xw_tabO (pc := 6) (tgt := 62) C0 (by omega) dX12_count_6 (by omega) rfl ?_
      refine xw_iconst (pc := 62) C0 dX12_count_62 ?_
      refine xw_iret C0 hA hr hlk rfl dX12_count_63 ?_
      have Ft5 : xw_F [(200, 0, 0)] μ (xw_u μ 200 0 0) := ((xw_F.rf (ML := [(200, 0, 0)])).u (show (200, 0, 0) ∈ _ by decide) ⟨by decide, by decide⟩)
      have vt5_200_0 : (xw_u μ 200 0 0) 200 0 = 0 := xw_ug
      generalize (xw_u μ 200 0 0) = t5 at Ft5 vt5_200_0 ⊢
      exact ⟨_, rfl, ⟨fun q => by omega, fun q => by omega, fun q => by omega, fun q => by omega, fun q => by omega⟩, ((xw_F.rf (ML := [(200, 0, 0)])).tr Ft5 (fun j i h => xw_o_sub (by decide +kernel) j i h))⟩)
