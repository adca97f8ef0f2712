noncomputable def hx_cn (v a b c d r : Int) : Prop := (v = 0 → r = a) ∧ (v = 1 → r = b) ∧ (v = 2 → r = c) ∧ (v = 3 → r = d) ∧ ((v < 0 ∨ 3 < v) → r = -1)
set_option maxRecDepth 20000 in
set_option maxHeartbeats 20000000 in
theorem xh_count {l : Launch} {μ : xw_M} {v : Int} (hG : xw_G xw_GL μ) (hr9 : -2147483648 ≤ v ∧ v ≤ 2147483647) : xw_MetI l vwCl sa_Ts tb_KT0 tc_KL yX11_count cX11_count 2 (some .int) 2 120 (fun ad => [.ref (ad 0), .int (Int32.ofInt v)]) μ (fun r μ' => μ = μ' ∧ hx_cn v (μ 4 13) (μ 4 14) (μ 4 15) (μ 1 1) r) :=
  xw_of (by decide +kernel) (fun _ => Nat.le_of_ble_eq_true rfl) (fun p e s m args below meth c D dA A al w0 sz C0 hU hO hKL hr hlk hA => by
    refine xw_iload_n (pc := 0) C0 1 dX11_count_0 rfl rfl ?_
    rcases (show v = 0 ∨ v = 1 ∨ v = 2 ∨ v = 3 ∨ (v < 0 ∨ 3 < v) by omega) with sw | sw | sw | sw | sw
    · refine xw_tabI (pc := 1) (tgt := 32) (off := 31) C0 (by omega) dX11_count_1 (by omega) (by omega) (by rw [sw]; rfl) rfl ?_
      refine xw_aload_n (pc := 32) C0 0 dX11_count_32 rfl rfl ?_
      refine xw_getR (pc := 33) (f := 1) C0 3 kcX11 dX11_count_33 (by decide +kernel) tv_423 (xj_0 hKL) xk_27 rfl ((rfl).trans (xe_0_1 hG)) ?_
      refine xw_getR (pc := 36) (f := 0) C0 4 kcX10 dX11_count_36 (by decide +kernel) tv_234 (xj_3 hKL) xk_24 rfl ((rfl).trans (xe_3_0 hG)) ?_
      refine xw_getI (pc := 39) (f := 13) (z := μ 4 13) C0 kcX2 dX11_count_39 (by decide +kernel) tv_100 (xj_4 hKL) xk_28 rfl (rfl) (fun g1 k1 => ?_)
      refine xw_iret C0 hA hr hlk rfl dX11_count_42 ?_
      exact ⟨_, rfl, rfl, fun q => by omega, fun q => by omega, fun q => by omega, fun q => by omega, fun q => by omega⟩
    · refine xw_tabI (pc := 1) (tgt := 43) (off := 42) C0 (by omega) dX11_count_1 (by omega) (by omega) (by rw [sw]; rfl) rfl ?_
      refine xw_aload_n (pc := 43) C0 0 dX11_count_43 rfl rfl ?_
      refine xw_getR (pc := 44) (f := 1) C0 3 kcX11 dX11_count_44 (by decide +kernel) tv_423 (xj_0 hKL) xk_27 rfl ((rfl).trans (xe_0_1 hG)) ?_
      refine xw_getR (pc := 47) (f := 0) C0 4 kcX10 dX11_count_47 (by decide +kernel) tv_234 (xj_3 hKL) xk_24 rfl ((rfl).trans (xe_3_0 hG)) ?_
      refine xw_getI (pc := 50) (f := 14) (z := μ 4 14) C0 kcX2 dX11_count_50 (by decide +kernel) tv_104 (xj_4 hKL) xk_28 rfl (rfl) (fun g2 k2 => ?_)
      refine xw_iret C0 hA hr hlk rfl dX11_count_53 ?_
      exact ⟨_, rfl, rfl, fun q => by omega, fun q => by omega, fun q => by omega, fun q => by omega, fun q => by omega⟩
    · refine xw_tabI (pc := 1) (tgt := 54) (off := 53) C0 (by omega) dX11_count_1 (by omega) (by omega) (by rw [sw]; rfl) rfl ?_
      refine xw_aload_n (pc := 54) C0 0 dX11_count_54 rfl rfl ?_
      refine xw_getR (pc := 55) (f := 1) C0 3 kcX11 dX11_count_55 (by decide +kernel) tv_423 (xj_0 hKL) xk_27 rfl ((rfl).trans (xe_0_1 hG)) ?_
      refine xw_getR (pc := 58) (f := 0) C0 4 kcX10 dX11_count_58 (by decide +kernel) tv_234 (xj_3 hKL) xk_24 rfl ((rfl).trans (xe_3_0 hG)) ?_
      refine xw_getI (pc := 61) (f := 15) (z := μ 4 15) C0 kcX2 dX11_count_61 (by decide +kernel) tv_107 (xj_4 hKL) xk_28 rfl (rfl) (fun g3 k3 => ?_)
      refine xw_iret C0 hA hr hlk rfl dX11_count_64 ?_
      exact ⟨_, rfl, rfl, fun q => by omega, fun q => by omega, fun q => by omega, fun q => by omega, fun q => by omega⟩
    · refine xw_tabI (pc := 1) (tgt := 65) (off := 64) C0 (by omega) dX11_count_1 (by omega) (by omega) (by rw [sw]; rfl) rfl ?_
      refine xw_aload_n (pc := 65) C0 0 dX11_count_65 rfl rfl ?_
      refine xw_getR (pc := 66) (f := 0) C0 1 kcX11 dX11_count_66 (by decide +kernel) tv_422 (xj_0 hKL) xk_27 rfl ((rfl).trans (xe_0_0 hG)) ?_
      refine xw_getI (pc := 69) (f := 1) (z := μ 1 1) C0 kcX0 dX11_count_69 (by decide +kernel) tv_40 (xj_1 hKL) xk_19 rfl (rfl) (fun g4 k4 => ?_)
      refine xw_iret C0 hA hr hlk rfl dX11_count_72 ?_
      exact ⟨_, rfl, rfl, fun q => by omega, fun q => by omega, fun q => by omega, fun q => by omega, fun q => by omega⟩
    · refine xw_tabO (pc := 1) (tgt := 73) C0 (by omega) dX11_count_1 (by omega) rfl ?_
      refine xw_iconst (pc := 73) C0 dX11_count_73 ?_
      refine xw_iret C0 hA hr hlk rfl dX11_count_74 ?_
      exact ⟨_, rfl, rfl, fun q => by omega, fun q => by omega, fun q => by omega, fun q => by omega, fun q => by omega⟩)
set_option maxRecDepth 20000 in
set_option maxHeartbeats 20000000 in
theorem xr_count {l : Launch} {μ : xw_M} {v : Int} (hG : xw_G xw_GL μ) (hr9 : -2147483648 ≤ v ∧ v ≤ 2147483647) : xw_MetI l vwCl sa_Ts tb_KT0 tc_KL yX12_count cX12_count 2 (some .int) 2 120 (fun ad => [.ref (ad 200), .int (Int32.ofInt v)]) μ (fun r μ' => hx_cn v (μ 202 0) (μ 202 1) (μ 202 2) (μ 200 2) r ∧ xw_F [(200, 0, 0)] μ μ') :=
  xw_of (by decide +kernel) (fun _ => Nat.le_of_ble_eq_true rfl) (fun p e s m args below meth c D dA A al w0 sz C0 hU hO hKL hr hlk hA => by
    refine xw_aload_n (pc := 0) C0 0 dX12_count_0 rfl rfl ?_
    refine xw_iconst (pc := 1) C0 dX12_count_1 ?_
    refine xw_putI (pc := 2) (f := 0) C0 kcX12 dX12_count_2 (by decide +kernel) tv_1261 rfl rfl (xj_200 hKL) xk_0 rfl (by omega) (by omega) ?_
    refine xw_iload_n (pc := 5) C0 1 dX12_count_5 rfl rfl ?_
    rcases (show v = 0 ∨ v = 1 ∨ v = 2 ∨ v = 3 ∨ (v < 0 ∨ 3 < v) by omega) with sw | sw | sw | sw | sw
    · refine xw_tabI (pc := 6) (tgt := 36) (off := 30) C0 (by omega) dX12_count_6 (by omega) (by omega) (by rw [sw]; rfl) rfl ?_
      refine xw_aload_n (pc := 36) C0 0 dX12_count_36 rfl rfl ?_
      refine xw_getR (pc := 37) (f := 14) C0 202 kcX12 dX12_count_37 (by decide +kernel) tv_1275 (xj_200 hKL) xk_0 rfl (((xw_un (by decide +kernel)).trans rfl).trans (xe_200_14 hG)) ?_
      refine xw_iconst (pc := 40) C0 dX12_count_40 ?_
      refine xw_iald (pc := 41) (z := μ 202 0) C0 dX12_count_41 (xj_202 hKL) xk_1 (by omega) (by decide +kernel) rfl ((xw_un (fun q => absurd q.1 (by decide +kernel))).trans rfl) (fun g1 k1 => ?_)
      refine xw_iret C0 hA hr hlk rfl dX12_count_42 ?_
      have Ft1 : xw_F [(200, 0, 0)] μ (xw_u μ 200 0 0) := ((xw_F.rf (ML := [(200, 0, 0)])).u (show (200, 0, 0) ∈ _ by decide) ⟨by decide, by decide⟩)
      have vt1_200_0 : (xw_u μ 200 0 0) 200 0 = 0 := xw_ug
      generalize (xw_u μ 200 0 0) = t1 at Ft1 vt1_200_0 ⊢
      exact ⟨_, rfl, ⟨fun q => by omega, fun q => by omega, fun q => by omega, fun q => by omega, fun q => by omega⟩, ((xw_F.rf (ML := [(200, 0, 0)])).tr Ft1 (fun j i h => xw_o_sub (by decide +kernel) j i h))⟩
    · refine xw_tabI (pc := 6) (tgt := 43) (off := 37) C0 (by omega) dX12_count_6 (by omega) (by omega) (by rw [sw]; rfl) rfl ?_
      refine xw_aload_n (pc := 43) C0 0 dX12_count_43 rfl rfl ?_
      refine xw_getR (pc := 44) (f := 14) C0 202 kcX12 dX12_count_44 (by decide +kernel) tv_1275 (xj_200 hKL) xk_0 rfl (((xw_un (by decide +kernel)).trans rfl).trans (xe_200_14 hG)) ?_
      refine xw_iconst (pc := 47) C0 dX12_count_47 ?_
      refine xw_iald (pc := 48) (z := μ 202 1) C0 dX12_count_48 (xj_202 hKL) xk_1 (by omega) (by decide +kernel) rfl ((xw_un (fun q => absurd q.1 (by decide +kernel))).trans rfl) (fun g2 k2 => ?_)
      refine xw_iret C0 hA hr hlk rfl dX12_count_49 ?_
      have Ft2 : xw_F [(200, 0, 0)] μ (xw_u μ 200 0 0) := ((xw_F.rf (ML := [(200, 0, 0)])).u (show (200, 0, 0) ∈ _ by decide) ⟨by decide, by decide⟩)
      have vt2_200_0 : (xw_u μ 200 0 0) 200 0 = 0 := xw_ug
      generalize (xw_u μ 200 0 0) = t2 at Ft2 vt2_200_0 ⊢
      exact ⟨_, rfl, ⟨fun q => by omega, fun q => by omega, fun q => by omega, fun q => by omega, fun q => by omega⟩, ((xw_F.rf (ML := [(200, 0, 0)])).tr Ft2 (fun j i h => xw_o_sub (by decide +kernel) j i h))⟩
    · refine xw_tabI (pc := 6) (tgt := 50) (off := 44) C0 (by omega) dX12_count_6 (by omega) (by omega) (by rw [sw]; rfl) rfl ?_
      refine xw_aload_n (pc := 50) C0 0 dX12_count_50 rfl rfl ?_
      refine xw_getR (pc := 51) (f := 14) C0 202 kcX12 dX12_count_51 (by decide +kernel) tv_1275 (xj_200 hKL) xk_0 rfl (((xw_un (by decide +kernel)).trans rfl).trans (xe_200_14 hG)) ?_
      refine xw_iconst (pc := 54) C0 dX12_count_54 ?_
      refine xw_iald (pc := 55) (z := μ 202 2) C0 dX12_count_55 (xj_202 hKL) xk_1 (by omega) (by decide +kernel) rfl ((xw_un (fun q => absurd q.1 (by decide +kernel))).trans rfl) (fun g3 k3 => ?_)
      refine xw_iret C0 hA hr hlk rfl dX12_count_56 ?_
      have Ft3 : xw_F [(200, 0, 0)] μ (xw_u μ 200 0 0) := ((xw_F.rf (ML := [(200, 0, 0)])).u (show (200, 0, 0) ∈ _ by decide) ⟨by decide, by decide⟩)
      have vt3_200_0 : (xw_u μ 200 0 0) 200 0 = 0 := xw_ug
      generalize (xw_u μ 200 0 0) = t3 at Ft3 vt3_200_0 ⊢
      exact ⟨_, rfl, ⟨fun q => by omega, fun q => by omega, fun q => by omega, fun q => by omega, fun q => by omega⟩, ((xw_F.rf (ML := [(200, 0, 0)])).tr Ft3 (fun j i h => xw_o_sub (by decide +kernel) j i h))⟩
    · refine xw_tabI (pc := 6) (tgt := 57) (off := 51) C0 (by omega) dX12_count_6 (by omega) (by omega) (by rw [sw]; rfl) rfl ?_
      refine xw_aload_n (pc := 57) C0 0 dX12_count_57 rfl rfl ?_
      refine xw_getI (pc := 58) (f := 2) (z := μ 200 2) C0 kcX12 dX12_count_58 (by decide +kernel) tv_1263 (xj_200 hKL) xk_0 rfl ((xw_un (by decide +kernel)).trans rfl) (fun g4 k4 => ?_)
      refine xw_iret C0 hA hr hlk rfl dX12_count_61 ?_
      have Ft4 : xw_F [(200, 0, 0)] μ (xw_u μ 200 0 0) := ((xw_F.rf (ML := [(200, 0, 0)])).u (show (200, 0, 0) ∈ _ by decide) ⟨by decide, by decide⟩)
      have vt4_200_0 : (xw_u μ 200 0 0) 200 0 = 0 := xw_ug
      generalize (xw_u μ 200 0 0) = t4 at Ft4 vt4_200_0 ⊢
      exact ⟨_, rfl, ⟨fun q => by omega, fun q => by omega, fun q => by omega, fun q => by omega, fun q => by omega⟩, ((xw_F.rf (ML := [(200, 0, 0)])).tr Ft4 (fun j i h => xw_o_sub (by decide +kernel) j i h))⟩
    · refine xw_tabO (pc := 6) (tgt := 62) C0 (by omega) dX12_count_6 (by omega) rfl ?_
      refine xw_iconst (pc := 62) C0 dX12_count_62 ?_
      refine xw_iret C0 hA hr hlk rfl dX12_count_63 ?_
      have Ft5 : xw_F [(200, 0, 0)] μ (xw_u μ 200 0 0) := ((xw_F.rf (ML := [(200, 0, 0)])).u (show (200, 0, 0) ∈ _ by decide) ⟨by decide, by decide⟩)
      have vt5_200_0 : (xw_u μ 200 0 0) 200 0 = 0 := xw_ug
      generalize (xw_u μ 200 0 0) = t5 at Ft5 vt5_200_0 ⊢
      exact ⟨_, rfl, ⟨fun q => by omega, fun q => by omega, fun q => by omega, fun q => by omega, fun q => by omega⟩, ((xw_F.rf (ML := [(200, 0, 0)])).tr Ft5 (fun j i h => xw_o_sub (by decide +kernel) j i h))⟩)
set_option maxRecDepth 20000 in
set_option maxHeartbeats 20000000 in
theorem xh_isFault {l : Launch} {μ : xw_M} {v : Int} (hG : xw_G xw_GL μ) (hr9 : -2147483648 ≤ v ∧ v ≤ 2147483647) : xw_MetI l vwCl sa_Ts tb_KT0 tc_KL yX11_isFault cX11_isFault 2 (some .boolean) 2 120 (fun ad => [.ref (ad 0), .int (Int32.ofInt v)]) μ (fun r μ' => μ = μ' ∧ (((0 ≤ v ∧ v < μ 4 14) ∧ r = 1) ∨ (¬ (0 ≤ v ∧ v < μ 4 14) ∧ r = 0))) :=
  xw_of (by decide +kernel) (fun _ => Nat.le_of_ble_eq_true rfl) (fun p e s m args below meth c D dA A al w0 sz C0 hU hO hKL hr hlk hA => by
    refine xw_iload_n (pc := 0) C0 1 dX11_isFault_0 rfl rfl ?_
    refine xw_if_lt (pc := 1) (tgt := 22) C0 (by omega) dX11_isFault_1 rfl (fun b1 => ?_) (fun b1 => ?_)
    · refine xw_iconst (pc := 22) C0 dX11_isFault_22 ?_
      refine xw_iret C0 hA hr hlk rfl dX11_isFault_23 ?_
      exact ⟨_, rfl, rfl, Or.inr ⟨by omega, rfl⟩⟩
    · refine xw_iload_n (pc := 4) C0 1 dX11_isFault_4 rfl rfl ?_
      refine xw_aload_n (pc := 5) C0 0 dX11_isFault_5 rfl rfl ?_
      refine xw_getR (pc := 6) (f := 1) C0 3 kcX11 dX11_isFault_6 (by decide +kernel) tv_423 (xj_0 hKL) xk_27 rfl ((rfl).trans (xe_0_1 hG)) ?_
      refine xw_getR (pc := 9) (f := 0) C0 4 kcX10 dX11_isFault_9 (by decide +kernel) tv_234 (xj_3 hKL) xk_24 rfl ((rfl).trans (xe_3_0 hG)) ?_
      refine xw_getI (pc := 12) (f := 14) (z := μ 4 14) C0 kcX2 dX11_isFault_12 (by decide +kernel) tv_104 (xj_4 hKL) xk_28 rfl (rfl) (fun g2 k2 => ?_)
      refine xw_icmp_ge (pc := 15) (tgt := 22) C0 (by omega) (by omega) dX11_isFault_15 rfl (fun b3 => ?_) (fun b3 => ?_)
      · refine xw_iconst (pc := 22) C0 dX11_isFault_22 ?_
        refine xw_iret C0 hA hr hlk rfl dX11_isFault_23 ?_
        exact ⟨_, rfl, rfl, Or.inr ⟨by omega, rfl⟩⟩
      · refine xw_iconst (pc := 18) C0 dX11_isFault_18 ?_
        refine xw_goto (pc := 19) (tgt := 23) C0 dX11_isFault_19 rfl ?_
        refine xw_iret C0 hA hr hlk rfl dX11_isFault_23 ?_
        exact ⟨_, rfl, rfl, Or.inl ⟨by omega, rfl⟩⟩)
set_option maxRecDepth 20000 in
set_option maxHeartbeats 20000000 in
theorem xr_isFault {l : Launch} {μ : xw_M} {v : Int} (hG : xw_G xw_GL μ) (hr9 : -2147483648 ≤ v ∧ v ≤ 2147483647) : xw_MetI l vwCl sa_Ts tb_KT0 tc_KL yX12_isFault cX12_isFault 2 (some .boolean) 3 142 (fun ad => [.ref (ad 200), .int (Int32.ofInt v)]) μ (fun r μ' => μ = μ' ∧ (((0 ≤ v ∧ v < μ 202 1) ∧ r = 1) ∨ (¬ (0 ≤ v ∧ v < μ 202 1) ∧ r = 0))) :=
  xw_of (by decide +kernel) (fun _ => Nat.le_of_ble_eq_true rfl) (fun p e s m args below meth c D dA A al w0 sz C0 hU hO hKL hr hlk hA => by
    refine xw_iload_n (pc := 0) C0 1 dX12_isFault_0 rfl rfl ?_
    refine xw_iconst (pc := 1) C0 dX12_isFault_1 ?_
    refine xw_aload_n (pc := 2) C0 0 dX12_isFault_2 rfl rfl ?_
    refine xw_getR (pc := 3) (f := 14) C0 202 kcX12 dX12_isFault_3 (by decide +kernel) tv_1275 (xj_200 hKL) xk_0 rfl ((rfl).trans (xe_200_14 hG)) ?_
    refine xw_iconst (pc := 6) C0 dX12_isFault_6 ?_
    refine xw_iald (pc := 7) (z := μ 202 1) C0 dX12_isFault_7 (xj_202 hKL) xk_1 (by omega) (by decide +kernel) rfl (rfl) (fun g1 k1 => ?_)
    refine xw_iconst (pc := 8) C0 dX12_isFault_8 ?_
    refine xw_isub (pc := 9) C0 dX12_isFault_9 ?_
    refine xw_callSI (pc := 10) (μ := μ) (rest := []) (As := [.int (Int32.ofInt v), .int (Int32.ofInt 0), .int (Int32.ofInt ((μ 202 1) - 1))]) C0 hU hO sa_Tg hKL (xm_isIn (l := l) (v := v) (a := 0) (b := (μ 202 1) - 1) (by omega) (by omega) (by omega)) tv_1481 dX12_isFault_10 tv_1479 tv_1480 tv_13 yb_X12_isIn (by decide +kernel) rfl rfl rfl (by decide +kernel) (Nat.le_of_ble_eq_true rfl) (fun r2 m2 w2 => ?_)
    obtain ⟨rfl, w2⟩ := w2
    rcases w2 with ⟨w2, rfl⟩ | ⟨w2, rfl⟩
    · refine xw_iret C0 hA hr hlk rfl dX12_isFault_13 ?_
      exact ⟨_, rfl, rfl, Or.inl ⟨by omega, rfl⟩⟩
    · refine xw_iret C0 hA hr hlk rfl dX12_isFault_13 ?_
      exact ⟨_, rfl, rfl, Or.inr ⟨by omega, rfl⟩⟩)
set_option maxRecDepth 20000 in
set_option maxHeartbeats 20000000 in
theorem xq_cureOf {l : Launch} {μ : xw_M} {f9 d : Int} (hG : xw_G xw_GL μ) (hf : 0 ≤ f9 ∧ f9 ≤ 7) (hd9 : 0 ≤ d ∧ d ≤ 2) : xw_MetI l vwCl sa_Ts tb_KT0 tc_KL yX2_cureOf cX2_cureOf 3 (some .int) 2 120 (fun ad => [.ref (ad 4), .int (Int32.ofInt f9), .int (Int32.ofInt d)]) μ (fun r μ' => μ = μ' ∧ r = μ 17 (3 * f9 + d).toNat) :=
  xw_of (by decide +kernel) (fun _ => Nat.le_of_ble_eq_true rfl) (fun p e s m args below meth c D dA A al w0 sz C0 hU hO hKL hr hlk hA => by
    refine xw_aload_n (pc := 0) C0 0 dX2_cureOf_0 rfl rfl ?_
    refine xw_getR (pc := 1) (f := 12) C0 17 kcX2 dX2_cureOf_1 (by decide +kernel) tv_95 (xj_4 hKL) xk_28 rfl ((rfl).trans (xe_4_12 hG)) ?_
    refine xw_iload_n (pc := 4) C0 1 dX2_cureOf_4 rfl rfl ?_
    refine xw_iconst (pc := 5) C0 dX2_cureOf_5 ?_
    refine xw_imul (pc := 6) C0 dX2_cureOf_6 ?_
    refine xw_iload_n (pc := 7) C0 2 dX2_cureOf_7 rfl rfl ?_
    refine xw_iadd (pc := 8) C0 dX2_cureOf_8 ?_
    obtain ⟨J, hJ, hJ2⟩ : ∃ J : Nat, f9 * 3 + d = (J : Int) ∧ J < 24 := ⟨(f9 * 3 + d).toNat, by omega, by omega⟩
    rw [hJ]
    refine xw_iald (pc := 9) (z := μ 17 J) C0 dX2_cureOf_9 (xj_17 hKL) xk_41 (by omega) (by decide +kernel) (xw_rl (by omega)) rfl (fun g1 k1 => ?_)
    have e9 : (3 * f9 + d).toNat = J := by omega
    refine xw_iret C0 hA hr hlk rfl dX2_cureOf_10 ?_
    exact ⟨_, rfl, rfl, by rw [e9]⟩)
set_option maxRecDepth 20000 in
set_option maxHeartbeats 20000000 in
theorem xh_cures {l : Launch} {μ : xw_M} {v u : Int} (hG : xw_G xw_GL μ) (hr9 : -2147483648 ≤ v ∧ v ≤ 2147483647) (hr8 : -2147483648 ≤ u ∧ u ≤ 2147483647) (hb : 0 ≤ μ 4 14 ∧ μ 4 14 ≤ 8) : xw_MetI l vwCl sa_Ts tb_KT0 tc_KL yX11_cures cX11_cures 3 (some .int) 3 142 (fun ad => [.ref (ad 0), .int (Int32.ofInt v), .int (Int32.ofInt u)]) μ (fun r μ' => μ = μ' ∧ ((((0 ≤ v ∧ v < μ 4 14) ∧ (0 ≤ u ∧ u ≤ 2)) ∧ r = μ 17 (3 * v + u).toNat) ∨ (¬ ((0 ≤ v ∧ v < μ 4 14) ∧ (0 ≤ u ∧ u ≤ 2)) ∧ r = -1))) :=
  xw_of (by decide +kernel) (fun _ => Nat.le_of_ble_eq_true rfl) (fun p e s m args below meth c D dA A al w0 sz C0 hU hO hKL hr hlk hA => by
    refine xw_aload_n (pc := 0) C0 0 dX11_cures_0 rfl rfl ?_
    refine xw_iload_n (pc := 1) C0 1 dX11_cures_1 rfl rfl ?_
    refine xw_callVI (pc := 2) (μ := μ) (ci := 11) (rest := []) (As := [.int (Int32.ofInt v)]) C0 hU hO sa_Tg hKL (xh_isFault (l := l) (v := v) hG (by omega)) tv_653 dX11_cures_2 tv_650 tv_652 tq_X11_isFault tv_1 rfl yb_X11_isFault (by decide +kernel) rfl rfl rfl (by decide +kernel) (Nat.le_of_ble_eq_true rfl) (xj_0 hKL) xk_27 (fun r1 m1 w1 => ?_)
    obtain ⟨rfl, w1⟩ := w1
    rcases w1 with ⟨w1, rfl⟩ | ⟨w1, rfl⟩
    · refine xw_if_eq (pc := 5) (tgt := 17) C0 (by omega) dX11_cures_5 rfl (fun b2 => ?_) (fun b2 => ?_)
      · exfalso
        omega
      · refine xw_iload_n (pc := 8) C0 2 dX11_cures_8 rfl rfl ?_
        refine xw_if_lt (pc := 9) (tgt := 17) C0 (by omega) dX11_cures_9 rfl (fun b3 => ?_) (fun b3 => ?_)
        · refine xw_iconst (pc := 17) C0 dX11_cures_17 ?_
          refine xw_iret C0 hA hr hlk rfl dX11_cures_18 ?_
          exact ⟨_, rfl, rfl, Or.inr ⟨by omega, rfl⟩⟩
        · refine xw_iload_n (pc := 12) C0 2 dX11_cures_12 rfl rfl ?_
          refine xw_iconst (pc := 13) C0 dX11_cures_13 ?_
          refine xw_icmp_lt (pc := 14) (tgt := 19) C0 (by omega) (by omega) dX11_cures_14 rfl (fun b4 => ?_) (fun b4 => ?_)
          · refine xw_aload_n (pc := 19) C0 0 dX11_cures_19 rfl rfl ?_
            refine xw_getR (pc := 20) (f := 1) C0 3 kcX11 dX11_cures_20 (by decide +kernel) tv_423 (xj_0 hKL) xk_27 rfl ((rfl).trans (xe_0_1 hG)) ?_
            refine xw_getR (pc := 23) (f := 0) C0 4 kcX10 dX11_cures_23 (by decide +kernel) tv_234 (xj_3 hKL) xk_24 rfl ((rfl).trans (xe_3_0 hG)) ?_
            refine xw_iload_n (pc := 26) C0 1 dX11_cures_26 rfl rfl ?_
            refine xw_iload_n (pc := 27) C0 2 dX11_cures_27 rfl rfl ?_
            refine xw_callVI (pc := 28) (μ := μ) (ci := 2) (rest := []) (As := [.int (Int32.ofInt v), .int (Int32.ofInt u)]) C0 hU hO sa_Tg hKL (xq_cureOf (l := l) (f9 := v) (d := u) hG (by omega) (by omega)) tv_614 dX11_cures_28 tv_654 tv_612 tv_613 tv_4 rfl yb_X2_cureOf (by decide +kernel) rfl rfl rfl (by decide +kernel) (Nat.le_of_ble_eq_true rfl) (xj_4 hKL) xk_28 (fun r5 m5 w5 => ?_)
            obtain ⟨rfl, w5⟩ := w5
            refine xw_iret C0 hA hr hlk rfl dX11_cures_31 ?_
            exact ⟨_, rfl, rfl, Or.inl ⟨by omega, w5⟩⟩
          · refine xw_iconst (pc := 17) C0 dX11_cures_17 ?_
            refine xw_iret C0 hA hr hlk rfl dX11_cures_18 ?_
            exact ⟨_, rfl, rfl, Or.inr ⟨by omega, rfl⟩⟩
    · refine xw_if_eq (pc := 5) (tgt := 17) C0 (by omega) dX11_cures_5 rfl (fun b6 => ?_) (fun b6 => ?_)
      · refine xw_iconst (pc := 17) C0 dX11_cures_17 ?_
        refine xw_iret C0 hA hr hlk rfl dX11_cures_18 ?_
        exact ⟨_, rfl, rfl, Or.inr ⟨by omega, rfl⟩⟩
      · exfalso
        omega)
theorem hx_n53 : ∀ J : Fin 24, tb_rl hr_NT (53 + (J : Nat)) = some (0, 0, 12) := by decide +kernel
set_option maxRecDepth 20000 in
set_option maxHeartbeats 20000000 in
theorem xr_cures {l : Launch} {μ : xw_M} {v u : Int} (hG : xw_G xw_GL μ) (hr9 : -2147483648 ≤ v ∧ v ≤ 2147483647) (hr8 : -2147483648 ≤ u ∧ u ≤ 2147483647) (hb : 0 ≤ μ 202 1 ∧ μ 202 1 ≤ 8) : xw_MetI l vwCl sa_Ts tb_KT0 tc_KL yX12_cures cX12_cures 3 (some .int) 4 163 (fun ad => [.ref (ad 200), .int (Int32.ofInt v), .int (Int32.ofInt u)]) μ (fun r μ' => ((((0 ≤ v ∧ v < μ 202 1) ∧ (0 ≤ u ∧ u ≤ 2)) ∧ r = μ 202 (53 + 3 * v + u).toNat) ∨ (¬ ((0 ≤ v ∧ v < μ 202 1) ∧ (0 ≤ u ∧ u ≤ 2)) ∧ r = -1)) ∧ xw_F [(200, 0, 0)] μ μ') :=
  xw_of (by decide +kernel) (fun _ => Nat.le_of_ble_eq_true rfl) (fun p e s m args below meth c D dA A al w0 sz C0 hU hO hKL hr hlk hA => by
    refine xw_aload_n (pc := 0) C0 0 dX12_cures_0 rfl rfl ?_
    refine xw_iconst (pc := 1) C0 dX12_cures_1 ?_
    refine xw_putI (pc := 2) (f := 0) C0 kcX12 dX12_cures_2 (by decide +kernel) tv_1261 rfl rfl (xj_200 hKL) xk_0 rfl (by omega) (by omega) ?_
    refine xw_aload_n (pc := 5) C0 0 dX12_cures_5 rfl rfl ?_
    refine xw_iload_n (pc := 6) C0 1 dX12_cures_6 rfl rfl ?_
    have Ft1 : xw_F [(200, 0, 0)] μ (xw_u μ 200 0 0) := ((xw_F.rf (ML := [(200, 0, 0)])).u (show (200, 0, 0) ∈ _ by decide) ⟨by decide, by decide⟩)
    have vt1_200_0 : (xw_u μ 200 0 0) 200 0 = 0 := xw_ug
    generalize (xw_u μ 200 0 0) = t1 at Ft1 vt1_200_0 ⊢
    have hG_t1 := xw_GF hG Ft1 (by decide +kernel)
    have y9 : t1 202 1 = μ 202 1 := Ft1 202 1 rfl
    refine xw_callVI (pc := 7) (μ := t1) (ci := 12) (rest := []) (As := [.int (Int32.ofInt v)]) C0 hU hO sa_Tg hKL (xr_isFault (l := l) (v := v) hG_t1 (by omega)) tv_1553 dX12_cures_7 tv_1550 tv_1552 tq_X12_isFault tv_13 rfl yb_X12_isFault (by decide +kernel) rfl rfl rfl (by decide +kernel) (Nat.le_of_ble_eq_true rfl) (xj_200 hKL) xk_0 (fun r1 m1 w1 => ?_)
    obtain ⟨rfl, w1⟩ := w1
    rcases w1 with ⟨w1, rfl⟩ | ⟨w1, rfl⟩
    · refine xw_if_eq (pc := 10) (tgt := 38) C0 (by omega) dX12_cures_10 rfl (fun b2 => ?_) (fun b2 => ?_)
      · exfalso
        omega
      · refine xw_iload_n (pc := 13) C0 2 dX12_cures_13 rfl rfl ?_
        refine xw_iconst (pc := 14) C0 dX12_cures_14 ?_
        refine xw_iconst (pc := 15) C0 dX12_cures_15 ?_
        refine xw_callSI (pc := 16) (μ := t1) (rest := []) (As := [.int (Int32.ofInt u), .int (Int32.ofInt 0), .int (Int32.ofInt 2)]) C0 hU hO sa_Tg hKL (xm_isIn (l := l) (v := u) (a := 0) (b := 2) (by omega) (by omega) (by omega)) tv_1481 dX12_cures_16 tv_1479 tv_1480 tv_13 yb_X12_isIn (by decide +kernel) rfl rfl rfl (by decide +kernel) (Nat.le_of_ble_eq_true rfl) (fun r3 m3 w3 => ?_)
        obtain ⟨rfl, w3⟩ := w3
        rcases w3 with ⟨w3, rfl⟩ | ⟨w3, rfl⟩
        · refine xw_if_eq (pc := 19) (tgt := 38) C0 (by omega) dX12_cures_19 rfl (fun b4 => ?_) (fun b4 => ?_)
          · exfalso
            omega
          · refine xw_aload_n (pc := 22) C0 0 dX12_cures_22 rfl rfl ?_
            refine xw_getR (pc := 23) (f := 14) C0 202 kcX12 dX12_cures_23 (by decide +kernel) tv_1275 (xj_200 hKL) xk_0 rfl (((Ft1 200 14 rfl).trans rfl).trans (xe_200_14 hG)) ?_
            refine xw_bipush (pc := 26) C0 dX12_cures_26 (by decide +kernel) ?_
            refine xw_iconst (pc := 28) C0 dX12_cures_28 ?_
            refine xw_iload_n (pc := 29) C0 1 dX12_cures_29 rfl rfl ?_
            refine xw_imul (pc := 30) C0 dX12_cures_30 ?_
            refine xw_iadd (pc := 31) C0 dX12_cures_31 ?_
            refine xw_iload_n (pc := 32) C0 2 dX12_cures_32 rfl rfl ?_
            refine xw_iadd (pc := 33) C0 dX12_cures_33 ?_
            obtain ⟨J, hJ, hJ2⟩ : ∃ J : Nat, (53 + (3 * v)) + u = ((53 + J : Nat) : Int) ∧ J < 24 := ⟨(3 * v + u).toNat, by omega, by omega⟩
            rw [hJ]
            refine xw_iald (pc := 34) (z := μ 202 (53 + J)) C0 dX12_cures_34 (xj_202 hKL) xk_1 (by omega) (by decide +kernel) (hx_n53 ⟨J, hJ2⟩) (Ft1 202 _ (xw_oj (by decide +kernel) _)) (fun g5 k5 => ?_)
            have e9 : (53 + 3 * v + u).toNat = 53 + J := by omega
            refine xw_goto (pc := 35) (tgt := 39) C0 dX12_cures_35 rfl ?_
            refine xw_iret C0 hA hr hlk rfl dX12_cures_39 ?_
            exact ⟨_, rfl, Or.inl ⟨by omega, by first | rfl | rw [e9]⟩, ((xw_F.rf (ML := [(200, 0, 0)])).tr Ft1 (fun j i h => xw_o_sub (by decide +kernel) j i h))⟩
        · refine xw_if_eq (pc := 19) (tgt := 38) C0 (by omega) dX12_cures_19 rfl (fun b6 => ?_) (fun b6 => ?_)
          · refine xw_iconst (pc := 38) C0 dX12_cures_38 ?_
            refine xw_iret C0 hA hr hlk rfl dX12_cures_39 ?_
            exact ⟨_, rfl, Or.inr ⟨by omega, rfl⟩, ((xw_F.rf (ML := [(200, 0, 0)])).tr Ft1 (fun j i h => xw_o_sub (by decide +kernel) j i h))⟩
          · exfalso
            omega
    · refine xw_if_eq (pc := 10) (tgt := 38) C0 (by omega) dX12_cures_10 rfl (fun b7 => ?_) (fun b7 => ?_)
      · refine xw_iconst (pc := 38) C0 dX12_cures_38 ?_
        refine xw_iret C0 hA hr hlk rfl dX12_cures_39 ?_
        exact ⟨_, rfl, Or.inr ⟨by omega, rfl⟩, ((xw_F.rf (ML := [(200, 0, 0)])).tr Ft1 (fun j i h => xw_o_sub (by decide +kernel) j i h))⟩
      · exfalso
        omega)
