set_option maxRecDepth 20000 in
set_option maxHeartbeats 20000000 in
theorem xq_kb3 {l : Launch} {B : hx_pB} {c9 : Int} {row : Nat → Int} {μ : xw_M} (hG : xw_G xw_GL μ) (hc : 0 ≤ c9 ∧ c9 < 2000000000) (hrw : ∀ i : Nat, i < 3 → μ 139 i = row i) (hB : hx_bC B μ) : xw_MetV l vwCl sa_Ts tb_KT0 tc_KL yX5_keepBetter cX5_keepBetter 3 none 2 120 (fun ad => [.ref (ad 137), .int (Int32.ofInt 3), .int (Int32.ofInt c9)]) μ (fun μ' => hx_bC (hx_kp B 3 c9 row) μ' ∧ xw_F [(137, 1, 2), (138, 0, 2)] μ μ') :=
  xw_of (by decide +kernel) (fun _ => Nat.le_of_ble_eq_true rfl) (fun p e s m args below meth c D dA A al w0 sz C0 hU hO hKL hr hlk hA => by
    refine xw_aload_n (pc := 0) C0 0 dX5_keepBetter_0 rfl rfl ?_
    refine xw_getI (pc := 1) (f := 2) (z := μ 137 2) C0 kcX5 dX5_keepBetter_1 (by decide +kernel) tv_400 (xj_137 hKL) xk_69 rfl (rfl) (fun g1 k1 => ?_)
    refine xw_iconst (pc := 4) C0 dX5_keepBetter_4 ?_
    refine xw_icmp_eq (pc := 5) (tgt := 16) C0 (by omega) (by omega) dX5_keepBetter_5 rfl (fun b2 => ?_) (fun b2 => ?_)
    · refine xw_aload_n (pc := 16) C0 0 dX5_keepBetter_16 rfl rfl ?_
      refine xw_iload_n (pc := 17) C0 2 dX5_keepBetter_17 rfl rfl ?_
      refine xw_putI (pc := 18) (f := 2) C0 kcX5 dX5_keepBetter_18 (by decide +kernel) tv_400 rfl rfl (xj_137 hKL) xk_69 rfl (by omega) (by omega) ?_
      refine xw_aload_n (pc := 21) C0 0 dX5_keepBetter_21 rfl rfl ?_
      refine xw_iload_n (pc := 22) C0 1 dX5_keepBetter_22 rfl rfl ?_
      refine xw_putI (pc := 23) (f := 1) C0 kcX5 dX5_keepBetter_23 (by decide +kernel) tv_398 rfl rfl (xj_137 hKL) xk_69 rfl (by omega) (by omega) ?_
      refine xw_aload_n (pc := 26) C0 0 dX5_keepBetter_26 rfl rfl ?_
      refine xw_getR (pc := 27) (f := 4) C0 139 kcX5 dX5_keepBetter_27 (by decide +kernel) tv_404 (xj_137 hKL) xk_69 rfl (((xw_un (by decide +kernel)).trans ((xw_un (by decide +kernel)).trans rfl)).trans (xe_137_4 hG)) ?_
      refine xw_iconst (pc := 30) C0 dX5_keepBetter_30 ?_
      refine xw_aload_n (pc := 31) C0 0 dX5_keepBetter_31 rfl rfl ?_
      refine xw_getR (pc := 32) (f := 0) C0 138 kcX5 dX5_keepBetter_32 (by decide +kernel) tv_396 (xj_137 hKL) xk_69 rfl (((xw_un (by decide +kernel)).trans ((xw_un (by decide +kernel)).trans rfl)).trans (xe_137_0 hG)) ?_
      refine xw_iconst (pc := 35) C0 dX5_keepBetter_35 ?_
      refine xw_iload_n (pc := 36) C0 1 dX5_keepBetter_36 rfl rfl ?_
      have Ft1 : xw_F [(137, 1, 1), (137, 2, 2)] μ (xw_u (xw_u μ 137 2 c9) 137 1 3) := (((xw_F.rf (ML := [(137, 1, 1), (137, 2, 2)])).u (show (137, 2, 2) ∈ _ by decide) ⟨by decide, by decide⟩).u (show (137, 1, 1) ∈ _ by decide) ⟨by decide, by decide⟩)
      have vt1_137_1 : (xw_u (xw_u μ 137 2 c9) 137 1 3) 137 1 = 3 := xw_ug
      have vt1_137_2 : (xw_u (xw_u μ 137 2 c9) 137 1 3) 137 2 = c9 := (xw_un (by decide +kernel)).trans xw_ug
      generalize (xw_u (xw_u μ 137 2 c9) 137 1 3) = t1 at Ft1 vt1_137_1 vt1_137_2 ⊢
      have hG_t1 := xw_GF hG Ft1 (by decide +kernel)
      refine xw_acI (pc := 37) (μ := t1) (n := 3) C0 dX5_keepBetter_37 tv_1226 tv_629 tv_628 tv_14 (by decide +kernel) (by decide +kernel) (Nat.le_of_ble_eq_true rfl) (xj_139 hKL) (xj_138 hKL) xk_71 xk_70 (by decide +kernel) (fun _ _ _ h9 => h9) ?_
      have G3 : xw_F [(138, 0, 2)] t1 (fun j i => if j = 138 ∧ i < 3 then t1 139 i else t1 j i) := fun j i h9 => if_neg (fun q => by obtain ⟨q1, q2⟩ := q; subst q1; exact xw_o_in h9 List.mem_cons_self ⟨Nat.zero_le _, by omega⟩)
      have P3 : ∀ i : Nat, i < 3 → (fun j i => if j = 138 ∧ i < 3 then t1 139 i else t1 j i) 138 i = t1 139 i := fun i hi => if_pos ⟨rfl, hi⟩
      generalize (fun j i => if j = 138 ∧ i < 3 then t1 139 i else t1 j i) = c3 at G3 P3 ⊢
      have hG_c3 := xw_GF hG_t1 G3 (by decide +kernel)
      refine xw_vret C0 hA hr hlk dX5_keepBetter_40 ?_
      have e9 : hx_kp B 3 c9 row = (c9, 3, row) := hx_kpT (by rcases hB.1 with q | q <;> omega)
      rw [e9]
      refine ⟨rfl, ⟨Or.inr ⟨hc.2, hc.1, (G3 137 2 rfl).trans vt1_137_2⟩, fun _ => ⟨(G3 137 1 rfl).trans vt1_137_1, fun i _ hi => ?_⟩⟩, (((xw_F.rf (ML := [(137, 1, 2), (138, 0, 2)])).tr Ft1 (fun j i h => xw_o_sub (by decide +kernel) j i h)).tr G3 (fun j i h => xw_o_sub (by decide +kernel) j i h))⟩
      have hi : i < 3 := by have hi : (i : Int) < 3 := hi; omega
      exact (P3 i hi).trans ((Ft1 139 i (xw_oj (by decide +kernel) i)).trans (hrw i hi))
    · refine xw_iload_n (pc := 8) C0 2 dX5_keepBetter_8 rfl rfl ?_
      refine xw_aload_n (pc := 9) C0 0 dX5_keepBetter_9 rfl rfl ?_
      refine xw_getI (pc := 10) (f := 2) (z := μ 137 2) C0 kcX5 dX5_keepBetter_10 (by decide +kernel) tv_400 (xj_137 hKL) xk_69 rfl (rfl) (fun g4 k4 => ?_)
      refine xw_icmp_ge (pc := 13) (tgt := 40) C0 (by omega) (by omega) dX5_keepBetter_13 rfl (fun b5 => ?_) (fun b5 => ?_)
      · refine xw_vret C0 hA hr hlk dX5_keepBetter_40 ?_
        have e9 : hx_kp B 3 c9 row = B := hx_kpF (by rcases hB.1 with q | q <;> omega)
        rw [e9]
        exact ⟨rfl, hB, xw_F.rf⟩
      · refine xw_aload_n (pc := 16) C0 0 dX5_keepBetter_16 rfl rfl ?_
        refine xw_iload_n (pc := 17) C0 2 dX5_keepBetter_17 rfl rfl ?_
        refine xw_putI (pc := 18) (f := 2) C0 kcX5 dX5_keepBetter_18 (by decide +kernel) tv_400 rfl rfl (xj_137 hKL) xk_69 rfl (by omega) (by omega) ?_
        refine xw_aload_n (pc := 21) C0 0 dX5_keepBetter_21 rfl rfl ?_
        refine xw_iload_n (pc := 22) C0 1 dX5_keepBetter_22 rfl rfl ?_
        refine xw_putI (pc := 23) (f := 1) C0 kcX5 dX5_keepBetter_23 (by decide +kernel) tv_398 rfl rfl (xj_137 hKL) xk_69 rfl (by omega) (by omega) ?_
        refine xw_aload_n (pc := 26) C0 0 dX5_keepBetter_26 rfl rfl ?_
        refine xw_getR (pc := 27) (f := 4) C0 139 kcX5 dX5_keepBetter_27 (by decide +kernel) tv_404 (xj_137 hKL) xk_69 rfl (((xw_un (by decide +kernel)).trans ((xw_un (by decide +kernel)).trans rfl)).trans (xe_137_4 hG)) ?_
        refine xw_iconst (pc := 30) C0 dX5_keepBetter_30 ?_
        refine xw_aload_n (pc := 31) C0 0 dX5_keepBetter_31 rfl rfl ?_
        refine xw_getR (pc := 32) (f := 0) C0 138 kcX5 dX5_keepBetter_32 (by decide +kernel) tv_396 (xj_137 hKL) xk_69 rfl (((xw_un (by decide +kernel)).trans ((xw_un (by decide +kernel)).trans rfl)).trans (xe_137_0 hG)) ?_
        refine xw_iconst (pc := 35) C0 dX5_keepBetter_35 ?_
        refine xw_iload_n (pc := 36) C0 1 dX5_keepBetter_36 rfl rfl ?_
        have Ft2 : xw_F [(137, 1, 1), (137, 2, 2)] μ (xw_u (xw_u μ 137 2 c9) 137 1 3) := (((xw_F.rf (ML := [(137, 1, 1), (137, 2, 2)])).u (show (137, 2, 2) ∈ _ by decide) ⟨by decide, by decide⟩).u (show (137, 1, 1) ∈ _ by decide) ⟨by decide, by decide⟩)
        have vt2_137_1 : (xw_u (xw_u μ 137 2 c9) 137 1 3) 137 1 = 3 := xw_ug
        have vt2_137_2 : (xw_u (xw_u μ 137 2 c9) 137 1 3) 137 2 = c9 := (xw_un (by decide +kernel)).trans xw_ug
        generalize (xw_u (xw_u μ 137 2 c9) 137 1 3) = t2 at Ft2 vt2_137_1 vt2_137_2 ⊢
        have hG_t2 := xw_GF hG Ft2 (by decide +kernel)
        refine xw_acI (pc := 37) (μ := t2) (n := 3) C0 dX5_keepBetter_37 tv_1226 tv_629 tv_628 tv_14 (by decide +kernel) (by decide +kernel) (Nat.le_of_ble_eq_true rfl) (xj_139 hKL) (xj_138 hKL) xk_71 xk_70 (by decide +kernel) (fun _ _ _ h9 => h9) ?_
        have G6 : xw_F [(138, 0, 2)] t2 (fun j i => if j = 138 ∧ i < 3 then t2 139 i else t2 j i) := fun j i h9 => if_neg (fun q => by obtain ⟨q1, q2⟩ := q; subst q1; exact xw_o_in h9 List.mem_cons_self ⟨Nat.zero_le _, by omega⟩)
        have P6 : ∀ i : Nat, i < 3 → (fun j i => if j = 138 ∧ i < 3 then t2 139 i else t2 j i) 138 i = t2 139 i := fun i hi => if_pos ⟨rfl, hi⟩
        generalize (fun j i => if j = 138 ∧ i < 3 then t2 139 i else t2 j i) = c6 at G6 P6 ⊢
        have hG_c6 := xw_GF hG_t2 G6 (by decide +kernel)
        refine xw_vret C0 hA hr hlk dX5_keepBetter_40 ?_
        have e9 : hx_kp B 3 c9 row = (c9, 3, row) := hx_kpT (by rcases hB.1 with q | q <;> omega)
        rw [e9]
        refine ⟨rfl, ⟨Or.inr ⟨hc.2, hc.1, (G6 137 2 rfl).trans vt2_137_2⟩, fun _ => ⟨(G6 137 1 rfl).trans vt2_137_1, fun i _ hi => ?_⟩⟩, (((xw_F.rf (ML := [(137, 1, 2), (138, 0, 2)])).tr Ft2 (fun j i h => xw_o_sub (by decide +kernel) j i h)).tr G6 (fun j i h => xw_o_sub (by decide +kernel) j i h))⟩
        have hi : i < 3 := by have hi : (i : Int) < 3 := hi; omega
        exact (P6 i hi).trans ((Ft2 139 i (xw_oj (by decide +kernel) i)).trans (hrw i hi)))
set_option maxRecDepth 20000 in
set_option maxHeartbeats 20000000 in
theorem xq_kb4 {l : Launch} {B : hx_pB} {c9 : Int} {row : Nat → Int} {μ : xw_M} (hG : xw_G xw_GL μ) (hc : 0 ≤ c9 ∧ c9 < 2000000000) (hrw : ∀ i : Nat, i < 4 → μ 139 i = row i) (hB : hx_bC B μ) : xw_MetV l vwCl sa_Ts tb_KT0 tc_KL yX5_keepBetter cX5_keepBetter 3 none 2 120 (fun ad => [.ref (ad 137), .int (Int32.ofInt 4), .int (Int32.ofInt c9)]) μ (fun μ' => hx_bC (hx_kp B 4 c9 row) μ' ∧ xw_F [(137, 1, 2), (138, 0, 3)] μ μ') :=
  xw_of (by decide +kernel) (fun _ => Nat.le_of_ble_eq_true rfl) (fun p e s m args below meth c D dA A al w0 sz C0 hU hO hKL hr hlk hA => by
    refine xw_aload_n (pc := 0) C0 0 dX5_keepBetter_0 rfl rfl ?_
    refine xw_getI (pc := 1) (f := 2) (z := μ 137 2) C0 kcX5 dX5_keepBetter_1 (by decide +kernel) tv_400 (xj_137 hKL) xk_69 rfl (rfl) (fun g1 k1 => ?_)
    refine xw_iconst (pc := 4) C0 dX5_keepBetter_4 ?_
    refine xw_icmp_eq (pc := 5) (tgt := 16) C0 (by omega) (by omega) dX5_keepBetter_5 rfl (fun b2 => ?_) (fun b2 => ?_)
    · refine xw_aload_n (pc := 16) C0 0 dX5_keepBetter_16 rfl rfl ?_
      refine xw_iload_n (pc := 17) C0 2 dX5_keepBetter_17 rfl rfl ?_
      refine xw_putI (pc := 18) (f := 2) C0 kcX5 dX5_keepBetter_18 (by decide +kernel) tv_400 rfl rfl (xj_137 hKL) xk_69 rfl (by omega) (by omega) ?_
      refine xw_aload_n (pc := 21) C0 0 dX5_keepBetter_21 rfl rfl ?_
      refine xw_iload_n (pc := 22) C0 1 dX5_keepBetter_22 rfl rfl ?_
      refine xw_putI (pc := 23) (f := 1) C0 kcX5 dX5_keepBetter_23 (by decide +kernel) tv_398 rfl rfl (xj_137 hKL) xk_69 rfl (by omega) (by omega) ?_
      refine xw_aload_n (pc := 26) C0 0 dX5_keepBetter_26 rfl rfl ?_
      refine xw_getR (pc := 27) (f := 4) C0 139 kcX5 dX5_keepBetter_27 (by decide +kernel) tv_404 (xj_137 hKL) xk_69 rfl (((xw_un (by decide +kernel)).trans ((xw_un (by decide +kernel)).trans rfl)).trans (xe_137_4 hG)) ?_
      refine xw_iconst (pc := 30) C0 dX5_keepBetter_30 ?_
      refine xw_aload_n (pc := 31) C0 0 dX5_keepBetter_31 rfl rfl ?_
      refine xw_getR (pc := 32) (f := 0) C0 138 kcX5 dX5_keepBetter_32 (by decide +kernel) tv_396 (xj_137 hKL) xk_69 rfl (((xw_un (by decide +kernel)).trans ((xw_un (by decide +kernel)).trans rfl)).trans (xe_137_0 hG)) ?_
      refine xw_iconst (pc := 35) C0 dX5_keepBetter_35 ?_
      refine xw_iload_n (pc := 36) C0 1 dX5_keepBetter_36 rfl rfl ?_
      have Ft1 : xw_F [(137, 1, 1), (137, 2, 2)] μ (xw_u (xw_u μ 137 2 c9) 137 1 4) := (((xw_F.rf (ML := [(137, 1, 1), (137, 2, 2)])).u (show (137, 2, 2) ∈ _ by decide) ⟨by decide, by decide⟩).u (show (137, 1, 1) ∈ _ by decide) ⟨by decide, by decide⟩)
      have vt1_137_1 : (xw_u (xw_u μ 137 2 c9) 137 1 4) 137 1 = 4 := xw_ug
      have vt1_137_2 : (xw_u (xw_u μ 137 2 c9) 137 1 4) 137 2 = c9 := (xw_un (by decide +kernel)).trans xw_ug
      generalize (xw_u (xw_u μ 137 2 c9) 137 1 4) = t1 at Ft1 vt1_137_1 vt1_137_2 ⊢
      have hG_t1 := xw_GF hG Ft1 (by decide +kernel)
      refine xw_acI (pc := 37) (μ := t1) (n := 4) C0 dX5_keepBetter_37 tv_1226 tv_629 tv_628 tv_14 (by decide +kernel) (by decide +kernel) (Nat.le_of_ble_eq_true rfl) (xj_139 hKL) (xj_138 hKL) xk_71 xk_70 (by decide +kernel) (fun _ _ _ h9 => h9) ?_
      have G3 : xw_F [(138, 0, 3)] t1 (fun j i => if j = 138 ∧ i < 4 then t1 139 i else t1 j i) := fun j i h9 => if_neg (fun q => by obtain ⟨q1, q2⟩ := q; subst q1; exact xw_o_in h9 List.mem_cons_self ⟨Nat.zero_le _, by omega⟩)
      have P3 : ∀ i : Nat, i < 4 → (fun j i => if j = 138 ∧ i < 4 then t1 139 i else t1 j i) 138 i = t1 139 i := fun i hi => if_pos ⟨rfl, hi⟩
      generalize (fun j i => if j = 138 ∧ i < 4 then t1 139 i else t1 j i) = c3 at G3 P3 ⊢
      have hG_c3 := xw_GF hG_t1 G3 (by decide +kernel)
      refine xw_vret C0 hA hr hlk dX5_keepBetter_40 ?_
      have e9 : hx_kp B 4 c9 row = (c9, 4, row) := hx_kpT (by rcases hB.1 with q | q <;> omega)
      rw [e9]
      refine ⟨rfl, ⟨Or.inr ⟨hc.2, hc.1, (G3 137 2 rfl).trans vt1_137_2⟩, fun _ => ⟨(G3 137 1 rfl).trans vt1_137_1, fun i _ hi => ?_⟩⟩, (((xw_F.rf (ML := [(137, 1, 2), (138, 0, 3)])).tr Ft1 (fun j i h => xw_o_sub (by decide +kernel) j i h)).tr G3 (fun j i h => xw_o_sub (by decide +kernel) j i h))⟩
      have hi : i < 4 := by have hi : (i : Int) < 4 := hi; omega
      exact (P3 i hi).trans ((Ft1 139 i (xw_oj (by decide +kernel) i)).trans (hrw i hi))
    · refine xw_iload_n (pc := 8) C0 2 dX5_keepBetter_8 rfl rfl ?_
      refine xw_aload_n (pc := 9) C0 0 dX5_keepBetter_9 rfl rfl ?_
      refine xw_getI (pc := 10) (f := 2) (z := μ 137 2) C0 kcX5 dX5_keepBetter_10 (by decide +kernel) tv_400 (xj_137 hKL) xk_69 rfl (rfl) (fun g4 k4 => ?_)
      refine xw_icmp_ge (pc := 13) (tgt := 40) C0 (by omega) (by omega) dX5_keepBetter_13 rfl (fun b5 => ?_) (fun b5 => ?_)
      · refine xw_vret C0 hA hr hlk dX5_keepBetter_40 ?_
        have e9 : hx_kp B 4 c9 row = B := hx_kpF (by rcases hB.1 with q | q <;> omega)
        rw [e9]
        exact ⟨rfl, hB, xw_F.rf⟩
      · refine xw_aload_n (pc := 16) C0 0 dX5_keepBetter_16 rfl rfl ?_
        refine xw_iload_n (pc := 17) C0 2 dX5_keepBetter_17 rfl rfl ?_
        refine xw_putI (pc := 18) (f := 2) C0 kcX5 dX5_keepBetter_18 (by decide +kernel) tv_400 rfl rfl (xj_137 hKL) xk_69 rfl (by omega) (by omega) ?_
        refine xw_aload_n (pc := 21) C0 0 dX5_keepBetter_21 rfl rfl ?_
        refine xw_iload_n (pc := 22) C0 1 dX5_keepBetter_22 rfl rfl ?_
        refine xw_putI (pc := 23) (f := 1) C0 kcX5 dX5_keepBetter_23 (by decide +kernel) tv_398 rfl rfl (xj_137 hKL) xk_69 rfl (by omega) (by omega) ?_
        refine xw_aload_n (pc := 26) C0 0 dX5_keepBetter_26 rfl rfl ?_
        refine xw_getR (pc := 27) (f := 4) C0 139 kcX5 dX5_keepBetter_27 (by decide +kernel) tv_404 (xj_137 hKL) xk_69 rfl (((xw_un (by decide +kernel)).trans ((xw_un (by decide +kernel)).trans rfl)).trans (xe_137_4 hG)) ?_
        refine xw_iconst (pc := 30) C0 dX5_keepBetter_30 ?_
        refine xw_aload_n (pc := 31) C0 0 dX5_keepBetter_31 rfl rfl ?_
        refine xw_getR (pc := 32) (f := 0) C0 138 kcX5 dX5_keepBetter_32 (by decide +kernel) tv_396 (xj_137 hKL) xk_69 rfl (((xw_un (by decide +kernel)).trans ((xw_un (by decide +kernel)).trans rfl)).trans (xe_137_0 hG)) ?_
        refine xw_iconst (pc := 35) C0 dX5_keepBetter_35 ?_
        refine xw_iload_n (pc := 36) C0 1 dX5_keepBetter_36 rfl rfl ?_
        have Ft2 : xw_F [(137, 1, 1), (137, 2, 2)] μ (xw_u (xw_u μ 137 2 c9) 137 1 4) := (((xw_F.rf (ML := [(137, 1, 1), (137, 2, 2)])).u (show (137, 2, 2) ∈ _ by decide) ⟨by decide, by decide⟩).u (show (137, 1, 1) ∈ _ by decide) ⟨by decide, by decide⟩)
        have vt2_137_1 : (xw_u (xw_u μ 137 2 c9) 137 1 4) 137 1 = 4 := xw_ug
        have vt2_137_2 : (xw_u (xw_u μ 137 2 c9) 137 1 4) 137 2 = c9 := (xw_un (by decide +kernel)).trans xw_ug
        generalize (xw_u (xw_u μ 137 2 c9) 137 1 4) = t2 at Ft2 vt2_137_1 vt2_137_2 ⊢
        have hG_t2 := xw_GF hG Ft2 (by decide +kernel)
        refine xw_acI (pc := 37) (μ := t2) (n := 4) C0 dX5_keepBetter_37 tv_1226 tv_629 tv_628 tv_14 (by decide +kernel) (by decide +kernel) (Nat.le_of_ble_eq_true rfl) (xj_139 hKL) (xj_138 hKL) xk_71 xk_70 (by decide +kernel) (fun _ _ _ h9 => h9) ?_
        have G6 : xw_F [(138, 0, 3)] t2 (fun j i => if j = 138 ∧ i < 4 then t2 139 i else t2 j i) := fun j i h9 => if_neg (fun q => by obtain ⟨q1, q2⟩ := q; subst q1; exact xw_o_in h9 List.mem_cons_self ⟨Nat.zero_le _, by omega⟩)
        have P6 : ∀ i : Nat, i < 4 → (fun j i => if j = 138 ∧ i < 4 then t2 139 i else t2 j i) 138 i = t2 139 i := fun i hi => if_pos ⟨rfl, hi⟩
        generalize (fun j i => if j = 138 ∧ i < 4 then t2 139 i else t2 j i) = c6 at G6 P6 ⊢
        have hG_c6 := xw_GF hG_t2 G6 (by decide +kernel)
        refine xw_vret C0 hA hr hlk dX5_keepBetter_40 ?_
        have e9 : hx_kp B 4 c9 row = (c9, 4, row) := hx_kpT (by rcases hB.1 with q | q <;> omega)
        rw [e9]
        refine ⟨rfl, ⟨Or.inr ⟨hc.2, hc.1, (G6 137 2 rfl).trans vt2_137_2⟩, fun _ => ⟨(G6 137 1 rfl).trans vt2_137_1, fun i _ hi => ?_⟩⟩, (((xw_F.rf (ML := [(137, 1, 2), (138, 0, 3)])).tr Ft2 (fun j i h => xw_o_sub (by decide +kernel) j i h)).tr G6 (fun j i h => xw_o_sub (by decide +kernel) j i h))⟩
        have hi : i < 4 := by have hi : (i : Int) < 4 := hi; omega
        exact (P6 i hi).trans ((Ft2 139 i (xw_oj (by decide +kernel) i)).trans (hrw i hi)))
set_option maxRecDepth 20000 in
set_option maxHeartbeats 20000000 in
theorem xq_cureOf {l : Launch} {μ : xw_M} {f9 d : Int} (hG : xw_G xw_GL μ) (hf : 0 ≤ f9 ∧ f9 ≤ 7) (hd9 : 0 ≤ d ∧ d ≤ 2) : xw_MetI l vwCl sa_Ts tb_KT0 tc_KL yX2_cureOf cX2_cureOf 3 (some .int) 2 120 (fun ad => [.ref (ad 4), .int (Int32.ofInt f9), .int (Int32.ofInt d)]) μ (fun r μ' => μ = μ' ∧ r = μ 17 (3 * f9 + d).toNat) :=
  xw_of (by decide +kernel) (fun _ => Nat.le_of_ble_eq_true rfl) (fun p e s m args below meth c D dA A al w0 sz C0 hU hO hKL hr hlk hA => by
    refine xw_aload_n (pc := 0) C0 0 dX2_cureOf_0 rfl rfl ?_
    refine xw_getR (pc := 1) (f := 12) C0 17 kcX2 dX2_cureOf_1 (by decide +kernel) tv_95 (xj_4 hKL) xk_28 rfl ((rfl).trans (xe_4_12 hG)) ?_
    refine xw_iload_n (pc := 4) C0 1 dX2_cureOf_4 rfl rfl ?_
    refine xw_iconst (pc := 5) C0 dX2_cureOf_5 ?_
    refine xw_imul (pc := 6) C0 dX2_cureOf_6 ?_
    refine xw_iload_n (pc := 7) C0 2 dX2_cureOf_7 rfl rfl ?_
    refine xw_iadd (pc := 8) C0 dX2_cureOf_8 ?_
    obtain ⟨J, hJ, hJ2⟩ : ∃ J : Nat, f9 * 3 + d = (J : Int) ∧ J < 24 := ⟨(f9 * 3 + d).toNat, by omega, by omega⟩
    rw [hJ]
    refine xw_iald (pc := 9) (z := μ 17 J) C0 dX2_cureOf_9 (xj_17 hKL) xk_41 (by omega) (by decide +kernel) (xw_rl (by omega)) rfl (fun g1 k1 => ?_)
    have e9 : (3 * f9 + d).toNat = J := by omega
    refine xw_iret C0 hA hr hlk rfl dX2_cureOf_10 ?_
    exact ⟨_, rfl, rfl, by rw [e9]⟩)
set_option maxRecDepth 20000 in
set_option maxHeartbeats 20000000 in
theorem xq_wd0L {l : Launch} {p : Program} {e : Env} {s : State} {m : MethodId} {args : Array Value} {below : List Frame} {meth : Method} {c : Code} {Q : State → Prop} {D : va_G} {dA : Nat → ClassId} {A : Nat → Prop} {al : List (Nat × Nat)} (C0 : sa_C p s m args c D dA A 6 vwCl sa_Ts cX5_weighDeed yX5_weighDeed.cls) (hU : sa_U D vwCl dA s) (hO : tb_Ou A s s.heap) (hKL : al.map Prod.snd = tc_KL) {v nm W : Nat → Int} {d : Nat} {μ : xw_M} (hG : xw_G xw_GL μ) (hK : hp_ok v nm) (hE : hx_E v 4 μ) (hW : ∀ f : Nat, f < 8 → 0 ≤ W f ∧ W f ≤ 171072) (hd : d ≤ 2) (hP : ∀ f : Nat, f < 8 → μ 140 (0 + f) = W f) (kx : ∀ ν : xw_M, (∀ i : Nat, i < 8 → ν 140 (8 + i) = hx_nw v W d i) → xw_F [(140, 8, 15)] μ ν → xw_G xw_GL ν → xw_W p l e { frames := 3, cells := 0, slots := 0, locals := 142 } s m args below meth c Q D dA A 6 vwCl tb_KT0 al 0 0 ν 56 [(0, .ref (xw_ad al 137))] []) : ∀ (fu9 : Nat) (f : Nat) (ν : xw_M), 8 - (f : Int) < (fu9 : Int) → f ≤ 8 → (∀ i : Nat, i < f → ν 140 (8 + i) = hx_nw v W d i) → xw_F [(140, 8, 15)] μ ν → xw_G xw_GL ν → xw_W p l e { frames := 3, cells := 0, slots := 0, locals := 142 } s m args below meth c Q D dA A 6 vwCl tb_KT0 al 0 0 ν 3 [(0, .ref (xw_ad al 137)), (1, .ref (xw_ad al 4)), (2, .int (Int32.ofInt 0)), (3, .int (Int32.ofInt (d : Int))), (4, .int (Int32.ofInt (f : Int)))] [] := by
  intro fu9
  induction fu9 with
  | zero => intro f ν hm hf hz hF hG_ν; exfalso; omega
  | succ fu9 ih =>
    intro f ν hm hf hz hF hG_ν
    have n8 : f < 8 → 0 ≤ hx_nw v W d f ∧ hx_nw v W d f ≤ 171072 := fun q => hx_nwB hK hd q (hW f q)
    refine xw_iload (pc := 3) C0 4 dX5_weighDeed_3 rfl ?_
    refine xw_bipush (pc := 5) C0 dX5_weighDeed_5 (by decide +kernel) ?_
    refine xw_icmp_ge (pc := 7) (tgt := 56) C0 (by omega) (by omega) dX5_weighDeed_7 rfl (fun b1 => ?_) (fun b1 => ?_)
    · have e9 : f = 8 := by omega
      subst e9
      refine xw_pk [0] (L' := [(0, .ref (xw_ad al 137))]) rfl ?_
      exact kx ν hz hF hG_ν
    · refine xw_iload_n (pc := 10) C0 2 dX5_weighDeed_10 rfl rfl ?_
      refine xw_bipush (pc := 11) C0 dX5_weighDeed_11 (by decide +kernel) ?_
      refine xw_imul (pc := 13) C0 dX5_weighDeed_13 ?_
      refine  xw_nI (congrArg Int32.ofInt (show 0 * 8 = (0 : Int) by decide)) ?_
      refine xw_iload (pc := 14) C0 4 dX5_weighDeed_14 rfl ?_
      refine xw_iadd (pc := 16) C0 dX5_weighDeed_16 ?_
      refine xw_istore (pc := 17) (L' := [(5, .int (Int32.ofInt (0 + (f : Int)))), (0, .ref (xw_ad al 137)), (1, .ref (xw_ad al 4)), (2, .int (Int32.ofInt 0)), (3, .int (Int32.ofInt (d : Int))), (4, .int (Int32.ofInt (f : Int)))]) C0 dX5_weighDeed_17 (by decide +kernel) rfl ?_
      refine xw_aload_n (pc := 19) C0 1 dX5_weighDeed_19 rfl rfl ?_
      refine xw_getR (pc := 20) (f := 5) C0 140 kcX5 dX5_weighDeed_20 (by decide +kernel) tv_405 (xj_137 hKL) xk_69 rfl ((rfl).trans (xe_137_5 hG_ν)) ?_
      refine xw_iload (pc := 23) C0 0 dX5_weighDeed_23 rfl ?_
      refine xw_bipush (pc := 25) C0 dX5_weighDeed_25 (by decide +kernel) ?_
      refine xw_iadd (pc := 27) C0 dX5_weighDeed_27 ?_
      refine xw_nI (congrArg Int32.ofInt (show (0 + (f : Int)) + 8 = ((8 + f : Nat) : Int) by omega)) ?_
      refine xw_aload_n (pc := 28) C0 1 dX5_weighDeed_28 rfl rfl ?_
      refine xw_getR (pc := 29) (f := 5) C0 140 kcX5 dX5_weighDeed_29 (by decide +kernel) tv_405 (xj_137 hKL) xk_69 rfl ((rfl).trans (xe_137_5 hG_ν)) ?_
      refine xw_iload (pc := 32) C0 0 dX5_weighDeed_32 rfl ?_
      refine xw_nI (congrArg Int32.ofInt (show 0 + (f : Int) = ((0 + f : Nat) : Int) by omega)) ?_
      refine xw_iald (pc := 34) (z := W f) C0 dX5_weighDeed_34 (xj_140 hKL) xk_72 (by omega) (by decide +kernel) (xw_rl (by omega)) ((hF 140 (0 + f) (xw_oB (a := 0) (b := 7) (by decide +kernel) (by omega) (by omega))).trans (hP f (by omega))) (fun g2 k2 => ?_)
      have n7 := hW f (by omega)
      refine xw_bipush (pc := 35) C0 dX5_weighDeed_35 (by decide +kernel) ?_
      refine xw_idiv (pc := 37) C0 (by omega) (by omega) dX5_weighDeed_37 ?_
      refine xw_bipush (pc := 38) C0 dX5_weighDeed_38 (by decide +kernel) ?_
      refine xw_aload_n (pc := 40) C0 2 dX5_weighDeed_40 rfl rfl ?_
      refine xw_iload (pc := 41) C0 5 dX5_weighDeed_41 rfl ?_
      refine xw_iload_n (pc := 43) C0 4 dX5_weighDeed_43 rfl rfl ?_
      refine xw_callVI (pc := 44) (μ := ν) (ci := 2) (rest := [.int (Int32.ofInt 12), .int (Int32.ofInt ((W f) / 12)), .int (Int32.ofInt ((8 + f : Nat) : Int)), .ref (xw_ad al 140)]) (As := [.int (Int32.ofInt (f : Int)), .int (Int32.ofInt (d : Int))]) C0 hU hO sa_Tg hKL (xq_cureOf (l := l) (μ := ν) (f9 := (f : Int)) (d := (d : Int)) hG_ν (by omega) (by omega)) tv_614 dX5_weighDeed_44 tv_1235 tv_612 tv_613 tv_4 rfl yb_X2_cureOf (by decide +kernel) rfl rfl rfl (by decide +kernel) (Nat.le_of_ble_eq_true rfl) (xj_4 hKL) xk_28 (fun r3 m3 w3 => ?_)
      obtain ⟨rfl, w3⟩ := w3
      have w3 : r3 = v (53 + (3 * f + d)) := by
        rw [w3, show (3 * (f : Int) + (d : Int)).toNat = 3 * f + d by omega]
        exact (hF 17 _ (xw_oj (by decide +kernel) _)).trans (hE.2.2.2.1 (3 * f + d) (by omega))
      subst w3
      refine xw_isub (pc := 47) C0 dX5_weighDeed_47 ?_
      refine xw_imul (pc := 48) C0 dX5_weighDeed_48 ?_
      refine xw_nI (congrArg Int32.ofInt (show ((W f) / 12) * (12 - (v (53 + (3 * f + d)))) = hx_nw v W d f from rfl)) ?_
      have n9 := n8 (by omega)
      refine xw_iast (pc := 49) C0 dX5_weighDeed_49 (xj_140 hKL) xk_72 (by omega) (by decide +kernel) (xw_rl (by omega)) (by omega) (by omega) ?_
      refine xw_iinc (pc := 50) (L' := [(4, .int (Int32.ofInt ((f : Int) + 1))), (5, .int (Int32.ofInt (0 + (f : Int)))), (0, .ref (xw_ad al 137)), (1, .ref (xw_ad al 4)), (2, .int (Int32.ofInt 0)), (3, .int (Int32.ofInt (d : Int)))]) C0 5 dX5_weighDeed_50 rfl (by decide +kernel) rfl ?_
      refine xw_goto (pc := 53) (tgt := 3) C0 dX5_weighDeed_53 rfl ?_
      have hz9 : ∀ i : Nat, i < f + 1 → (xw_u ν 140 (((8 + f : Nat) : Int)).toNat (hx_nw v W d f)) 140 (8 + i) = hx_nw v W d i := fun i h2 => by
        by_cases e9 : i = f
        · subst e9; exact xw_ug
        · exact (xw_un (fun q => e9 (by have q2 := q.2; omega))).trans (hz i (by omega))
      have Fz9 : xw_F [(140, 8, 15)] ν (xw_u ν 140 (((8 + f : Nat) : Int)).toNat (hx_nw v W d f)) := ((xw_F.rf (ML := [(140, 8, 15)])).u (show (140, 8, 15) ∈ _ by decide) ⟨by omega, by omega⟩)
      generalize (xw_u ν 140 (((8 + f : Nat) : Int)).toNat (hx_nw v W d f)) = z9 at Fz9 hz9 ⊢
      have e1 : (f : Int) + 1 = ((f + 1 : Nat) : Int) := by omega
      rw [e1]
      refine xw_pk [2, 3, 4, 5, 0] (L' := [(0, .ref (xw_ad al 137)), (1, .ref (xw_ad al 4)), (2, .int (Int32.ofInt 0)), (3, .int (Int32.ofInt (d : Int))), (4, .int (Int32.ofInt ((f + 1 : Nat) : Int)))]) rfl ?_
      exact ih (f + 1) z9 (by omega) (by omega) hz9 (hF.tr Fz9 (fun j i h => h)) (xw_GF hG_ν Fz9 (by decide +kernel))
set_option maxRecDepth 20000 in
set_option maxHeartbeats 20000000 in
theorem xq_wd0 {l : Launch} {v nm W : Nat → Int} {d : Nat} {μ : xw_M} (hG : xw_G xw_GL μ) (hK : hp_ok v nm) (hE : hx_E v 4 μ) (hW : ∀ f : Nat, f < 8 → 0 ≤ W f ∧ W f ≤ 171072) (hd : d ≤ 2) (hP : ∀ f : Nat, f < 8 → μ 140 (0 + f) = W f) : xw_MetV l vwCl sa_Ts tb_KT0 tc_KL yX5_weighDeed cX5_weighDeed 6 none 3 142 (fun ad => [.ref (ad 137), .ref (ad 4), .int (Int32.ofInt 0), .int (Int32.ofInt (d : Int))]) μ (fun μ' => (∀ i : Nat, i < 8 → μ' 140 (8 + i) = hx_nw v W d i) ∧ xw_F [(140, 8, 15)] μ μ') :=
  xw_of (by decide +kernel) (fun _ => Nat.le_of_ble_eq_true rfl) (fun p e s m args below meth c D dA A al w0 sz C0 hU hO hKL hr hlk hA => by
    refine xw_iconst (pc := 0) C0 dX5_weighDeed_0 ?_
    refine xw_istore (pc := 1) (L' := [(4, .int (Int32.ofInt 0)), (0, .ref (xw_ad al 137)), (1, .ref (xw_ad al 4)), (2, .int (Int32.ofInt 0)), (3, .int (Int32.ofInt (d : Int)))]) C0 dX5_weighDeed_1 (by decide +kernel) rfl ?_
    refine xw_pk [1, 2, 3, 4, 0] (L' := [(0, .ref (xw_ad al 137)), (1, .ref (xw_ad al 4)), (2, .int (Int32.ofInt 0)), (3, .int (Int32.ofInt (d : Int))), (4, .int (Int32.ofInt ((0 : Nat) : Int)))]) rfl ?_
    refine xq_wd0L (v := v) (nm := nm) (W := W) (d := d) (μ := μ) C0 hU hO hKL hG hK hE hW hd hP (fun ν hz hF hG_ν => ?_) 9 0 μ (by omega) (Nat.zero_le _) (fun i h => absurd h (Nat.not_lt_zero i)) xw_F.rf hG
    refine xw_vret C0 hA hr hlk dX5_weighDeed_56 ?_
    exact ⟨rfl, hz, hF⟩)
set_option maxRecDepth 20000 in
set_option maxHeartbeats 20000000 in
theorem xq_wd1L {l : Launch} {p : Program} {e : Env} {s : State} {m : MethodId} {args : Array Value} {below : List Frame} {meth : Method} {c : Code} {Q : State → Prop} {D : va_G} {dA : Nat → ClassId} {A : Nat → Prop} {al : List (Nat × Nat)} (C0 : sa_C p s m args c D dA A 6 vwCl sa_Ts cX5_weighDeed yX5_weighDeed.cls) (hU : sa_U D vwCl dA s) (hO : tb_Ou A s s.heap) (hKL : al.map Prod.snd = tc_KL) {v nm W : Nat → Int} {d : Nat} {μ : xw_M} (hG : xw_G xw_GL μ) (hK : hp_ok v nm) (hE : hx_E v 4 μ) (hW : ∀ f : Nat, f < 8 → 0 ≤ W f ∧ W f ≤ 171072) (hd : d ≤ 2) (hP : ∀ f : Nat, f < 8 → μ 140 (8 + f) = W f) (kx : ∀ ν : xw_M, (∀ i : Nat, i < 8 → ν 140 (16 + i) = hx_nw v W d i) → xw_F [(140, 16, 23)] μ ν → xw_G xw_GL ν → xw_W p l e { frames := 3, cells := 0, slots := 0, locals := 142 } s m args below meth c Q D dA A 6 vwCl tb_KT0 al 0 0 ν 56 [(0, .ref (xw_ad al 137))] []) : ∀ (fu9 : Nat) (f : Nat) (ν : xw_M), 8 - (f : Int) < (fu9 : Int) → f ≤ 8 → (∀ i : Nat, i < f → ν 140 (16 + i) = hx_nw v W d i) → xw_F [(140, 16, 23)] μ ν → xw_G xw_GL ν → xw_W p l e { frames := 3, cells := 0, slots := 0, locals := 142 } s m args below meth c Q D dA A 6 vwCl tb_KT0 al 0 0 ν 3 [(0, .ref (xw_ad al 137)), (1, .ref (xw_ad al 4)), (2, .int (Int32.ofInt 1)), (3, .int (Int32.ofInt (d : Int))), (4, .int (Int32.ofInt (f : Int)))] [] := by
  intro fu9
  induction fu9 with
  | zero => intro f ν hm hf hz hF hG_ν; exfalso; omega
  | succ fu9 ih =>
    intro f ν hm hf hz hF hG_ν
    have n8 : f < 8 → 0 ≤ hx_nw v W d f ∧ hx_nw v W d f ≤ 171072 := fun q => hx_nwB hK hd q (hW f q)
    refine xw_iload (pc := 3) C0 4 dX5_weighDeed_3 rfl ?_
    refine xw_bipush (pc := 5) C0 dX5_weighDeed_5 (by decide +kernel) ?_
    refine xw_icmp_ge (pc := 7) (tgt := 56) C0 (by omega) (by omega) dX5_weighDeed_7 rfl (fun b1 => ?_) (fun b1 => ?_)
    · have e9 : f = 8 := by omega
      subst e9
      refine xw_pk [0] (L' := [(0, .ref (xw_ad al 137))]) rfl ?_
      exact kx ν hz hF hG_ν
    · refine xw_iload_n (pc := 10) C0 2 dX5_weighDeed_10 rfl rfl ?_
      refine xw_bipush (pc := 11) C0 dX5_weighDeed_11 (by decide +kernel) ?_
      refine xw_imul (pc := 13) C0 dX5_weighDeed_13 ?_
      refine  xw_nI (congrArg Int32.ofInt (show 1 * 8 = (8 : Int) by decide)) ?_
      refine xw_iload (pc := 14) C0 4 dX5_weighDeed_14 rfl ?_
      refine xw_iadd (pc := 16) C0 dX5_weighDeed_16 ?_
      refine xw_istore (pc := 17) (L' := [(5, .int (Int32.ofInt (8 + (f : Int)))), (0, .ref (xw_ad al 137)), (1, .ref (xw_ad al 4)), (2, .int (Int32.ofInt 1)), (3, .int (Int32.ofInt (d : Int))), (4, .int (Int32.ofInt (f : Int)))]) C0 dX5_weighDeed_17 (by decide +kernel) rfl ?_
      refine xw_aload_n (pc := 19) C0 1 dX5_weighDeed_19 rfl rfl ?_
      refine xw_getR (pc := 20) (f := 5) C0 140 kcX5 dX5_weighDeed_20 (by decide +kernel) tv_405 (xj_137 hKL) xk_69 rfl ((rfl).trans (xe_137_5 hG_ν)) ?_
      refine xw_iload (pc := 23) C0 0 dX5_weighDeed_23 rfl ?_
      refine xw_bipush (pc := 25) C0 dX5_weighDeed_25 (by decide +kernel) ?_
      refine xw_iadd (pc := 27) C0 dX5_weighDeed_27 ?_
      refine xw_nI (congrArg Int32.ofInt (show (8 + (f : Int)) + 8 = ((16 + f : Nat) : Int) by omega)) ?_
      refine xw_aload_n (pc := 28) C0 1 dX5_weighDeed_28 rfl rfl ?_
      refine xw_getR (pc := 29) (f := 5) C0 140 kcX5 dX5_weighDeed_29 (by decide +kernel) tv_405 (xj_137 hKL) xk_69 rfl ((rfl).trans (xe_137_5 hG_ν)) ?_
      refine xw_iload (pc := 32) C0 0 dX5_weighDeed_32 rfl ?_
      refine xw_nI (congrArg Int32.ofInt (show 8 + (f : Int) = ((8 + f : Nat) : Int) by omega)) ?_
      refine xw_iald (pc := 34) (z := W f) C0 dX5_weighDeed_34 (xj_140 hKL) xk_72 (by omega) (by decide +kernel) (xw_rl (by omega)) ((hF 140 (8 + f) (xw_oB (a := 8) (b := 15) (by decide +kernel) (by omega) (by omega))).trans (hP f (by omega))) (fun g2 k2 => ?_)
      have n7 := hW f (by omega)
      refine xw_bipush (pc := 35) C0 dX5_weighDeed_35 (by decide +kernel) ?_
      refine xw_idiv (pc := 37) C0 (by omega) (by omega) dX5_weighDeed_37 ?_
      refine xw_bipush (pc := 38) C0 dX5_weighDeed_38 (by decide +kernel) ?_
      refine xw_aload_n (pc := 40) C0 2 dX5_weighDeed_40 rfl rfl ?_
      refine xw_iload (pc := 41) C0 5 dX5_weighDeed_41 rfl ?_
      refine xw_iload_n (pc := 43) C0 4 dX5_weighDeed_43 rfl rfl ?_
      refine xw_callVI (pc := 44) (μ := ν) (ci := 2) (rest := [.int (Int32.ofInt 12), .int (Int32.ofInt ((W f) / 12)), .int (Int32.ofInt ((16 + f : Nat) : Int)), .ref (xw_ad al 140)]) (As := [.int (Int32.ofInt (f : Int)), .int (Int32.ofInt (d : Int))]) C0 hU hO sa_Tg hKL (xq_cureOf (l := l) (μ := ν) (f9 := (f : Int)) (d := (d : Int)) hG_ν (by omega) (by omega)) tv_614 dX5_weighDeed_44 tv_1235 tv_612 tv_613 tv_4 rfl yb_X2_cureOf (by decide +kernel) rfl rfl rfl (by decide +kernel) (Nat.le_of_ble_eq_true rfl) (xj_4 hKL) xk_28 (fun r3 m3 w3 => ?_)
      obtain ⟨rfl, w3⟩ := w3
      have w3 : r3 = v (53 + (3 * f + d)) := by
        rw [w3, show (3 * (f : Int) + (d : Int)).toNat = 3 * f + d by omega]
        exact (hF 17 _ (xw_oj (by decide +kernel) _)).trans (hE.2.2.2.1 (3 * f + d) (by omega))
      subst w3
      refine xw_isub (pc := 47) C0 dX5_weighDeed_47 ?_
      refine xw_imul (pc := 48) C0 dX5_weighDeed_48 ?_
      refine xw_nI (congrArg Int32.ofInt (show ((W f) / 12) * (12 - (v (53 + (3 * f + d)))) = hx_nw v W d f from rfl)) ?_
      have n9 := n8 (by omega)
      refine xw_iast (pc := 49) C0 dX5_weighDeed_49 (xj_140 hKL) xk_72 (by omega) (by decide +kernel) (xw_rl (by omega)) (by omega) (by omega) ?_
      refine xw_iinc (pc := 50) (L' := [(4, .int (Int32.ofInt ((f : Int) + 1))), (5, .int (Int32.ofInt (8 + (f : Int)))), (0, .ref (xw_ad al 137)), (1, .ref (xw_ad al 4)), (2, .int (Int32.ofInt 1)), (3, .int (Int32.ofInt (d : Int)))]) C0 5 dX5_weighDeed_50 rfl (by decide +kernel) rfl ?_
      refine xw_goto (pc := 53) (tgt := 3) C0 dX5_weighDeed_53 rfl ?_
      have hz9 : ∀ i : Nat, i < f + 1 → (xw_u ν 140 (((16 + f : Nat) : Int)).toNat (hx_nw v W d f)) 140 (16 + i) = hx_nw v W d i := fun i h2 => by
        by_cases e9 : i = f
        · subst e9; exact xw_ug
        · exact (xw_un (fun q => e9 (by have q2 := q.2; omega))).trans (hz i (by omega))
      have Fz9 : xw_F [(140, 16, 23)] ν (xw_u ν 140 (((16 + f : Nat) : Int)).toNat (hx_nw v W d f)) := ((xw_F.rf (ML := [(140, 16, 23)])).u (show (140, 16, 23) ∈ _ by decide) ⟨by omega, by omega⟩)
      generalize (xw_u ν 140 (((16 + f : Nat) : Int)).toNat (hx_nw v W d f)) = z9 at Fz9 hz9 ⊢
      have e1 : (f : Int) + 1 = ((f + 1 : Nat) : Int) := by omega
      rw [e1]
      refine xw_pk [2, 3, 4, 5, 0] (L' := [(0, .ref (xw_ad al 137)), (1, .ref (xw_ad al 4)), (2, .int (Int32.ofInt 1)), (3, .int (Int32.ofInt (d : Int))), (4, .int (Int32.ofInt ((f + 1 : Nat) : Int)))]) rfl ?_
      exact ih (f + 1) z9 (by omega) (by omega) hz9 (hF.tr Fz9 (fun j i h => h)) (xw_GF hG_ν Fz9 (by decide +kernel))
set_option maxRecDepth 20000 in
set_option maxHeartbeats 20000000 in
theorem xq_wd1 {l : Launch} {v nm W : Nat → Int} {d : Nat} {μ : xw_M} (hG : xw_G xw_GL μ) (hK : hp_ok v nm) (hE : hx_E v 4 μ) (hW : ∀ f : Nat, f < 8 → 0 ≤ W f ∧ W f ≤ 171072) (hd : d ≤ 2) (hP : ∀ f : Nat, f < 8 → μ 140 (8 + f) = W f) : xw_MetV l vwCl sa_Ts tb_KT0 tc_KL yX5_weighDeed cX5_weighDeed 6 none 3 142 (fun ad => [.ref (ad 137), .ref (ad 4), .int (Int32.ofInt 1), .int (Int32.ofInt (d : Int))]) μ (fun μ' => (∀ i : Nat, i < 8 → μ' 140 (16 + i) = hx_nw v W d i) ∧ xw_F [(140, 16, 23)] μ μ') :=
  xw_of (by decide +kernel) (fun _ => Nat.le_of_ble_eq_true rfl) (fun p e s m args below meth c D dA A al w0 sz C0 hU hO hKL hr hlk hA => by
    refine xw_iconst (pc := 0) C0 dX5_weighDeed_0 ?_
    refine xw_istore (pc := 1) (L' := [(4, .int (Int32.ofInt 0)), (0, .ref (xw_ad al 137)), (1, .ref (xw_ad al 4)), (2, .int (Int32.ofInt 1)), (3, .int (Int32.ofInt (d : Int)))]) C0 dX5_weighDeed_1 (by decide +kernel) rfl ?_
    refine xw_pk [1, 2, 3, 4, 0] (L' := [(0, .ref (xw_ad al 137)), (1, .ref (xw_ad al 4)), (2, .int (Int32.ofInt 1)), (3, .int (Int32.ofInt (d : Int))), (4, .int (Int32.ofInt ((0 : Nat) : Int)))]) rfl ?_
    refine xq_wd1L (v := v) (nm := nm) (W := W) (d := d) (μ := μ) C0 hU hO hKL hG hK hE hW hd hP (fun ν hz hF hG_ν => ?_) 9 0 μ (by omega) (Nat.zero_le _) (fun i h => absurd h (Nat.not_lt_zero i)) xw_F.rf hG
    refine xw_vret C0 hA hr hlk dX5_weighDeed_56 ?_
    exact ⟨rfl, hz, hF⟩)
