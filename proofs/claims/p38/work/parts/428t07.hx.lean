set_option maxRecDepth 20000 in
set_option maxHeartbeats 20000000 in
theorem xq_cpH_4_174 {l : Launch} {μ : xw_M} (hG : xw_G xw_GL μ) : xw_MetV l vwCl sa_Ts tb_KT0 tc_KL yX2_copyFrom cX2_copyFrom 2 none 2 120 (fun ad => [.ref (ad 4), .ref (ad 174)]) μ (fun μ' => hx_C 4 174 μ μ' ∧ xw_F [(4, 13, 15), (5, 0, 5), (6, 0, 5), (7, 0, 5), (8, 0, 5), (9, 0, 5), (10, 0, 5), (11, 0, 5), (12, 0, 7), (13, 0, 7), (14, 0, 7), (15, 0, 7), (16, 0, 7), (17, 0, 23)] μ μ') :=
  xw_of (by decide +kernel) (fun _ => Nat.le_of_ble_eq_true rfl) (fun p e s m args below meth c D dA A al w0 sz C0 hU hO hKL hr hlk hA => by
    refine xw_aload_n (pc := 0) C0 1 dX2_copyFrom_0 rfl rfl ?_
    refine xw_getR (pc := 1) (f := 0) C0 175 kcX2 dX2_copyFrom_1 (by decide +kernel) tv_61 (xj_174 hKL) xk_28 rfl ((rfl).trans (xe_174_0 hG)) ?_
    refine xw_iconst (pc := 4) C0 dX2_copyFrom_4 ?_
    refine xw_aload_n (pc := 5) C0 0 dX2_copyFrom_5 rfl rfl ?_
    refine xw_getR (pc := 6) (f := 0) C0 5 kcX2 dX2_copyFrom_6 (by decide +kernel) tv_61 (xj_4 hKL) xk_28 rfl ((rfl).trans (xe_4_0 hG)) ?_
    refine xw_iconst (pc := 9) C0 dX2_copyFrom_9 ?_
    refine xw_bipush (pc := 10) C0 dX2_copyFrom_10 (by decide +kernel) ?_
    refine xw_acL (pc := 12) (μ := μ) (n := 6) C0 dX2_copyFrom_12 tv_627 tv_629 tv_628 tv_14 (by decide +kernel) (by decide +kernel) (Nat.le_of_ble_eq_true rfl) (xj_175 hKL) (xj_5 hKL) xk_29 xk_29 (by decide +kernel) (fun _ _ _ h9 => h9) ?_
    have G1 : xw_F [(5, 0, 5)] μ (fun j i => if j = 5 ∧ i < 6 then μ 175 i else μ j i) := fun j i h9 => if_neg (fun q => by obtain ⟨q1, q2⟩ := q; subst q1; exact xw_o_in h9 List.mem_cons_self ⟨Nat.zero_le _, by omega⟩)
    have P1 : ∀ i : Nat, i < 6 → (fun j i => if j = 5 ∧ i < 6 then μ 175 i else μ j i) 5 i = μ 175 i := fun i hi => if_pos ⟨rfl, hi⟩
    generalize (fun j i => if j = 5 ∧ i < 6 then μ 175 i else μ j i) = c1 at G1 P1 ⊢
    have hG_c1 := xw_GF hG G1 (by decide +kernel)
    refine xw_aload_n (pc := 15) C0 1 dX2_copyFrom_15 rfl rfl ?_
    refine xw_getR (pc := 16) (f := 1) C0 176 kcX2 dX2_copyFrom_16 (by decide +kernel) tv_63 (xj_174 hKL) xk_28 rfl (((G1 174 1 rfl).trans rfl).trans (xe_174_1 hG)) ?_
    refine xw_iconst (pc := 19) C0 dX2_copyFrom_19 ?_
    refine xw_aload_n (pc := 20) C0 0 dX2_copyFrom_20 rfl rfl ?_
    refine xw_getR (pc := 21) (f := 1) C0 6 kcX2 dX2_copyFrom_21 (by decide +kernel) tv_63 (xj_4 hKL) xk_28 rfl (((G1 4 1 rfl).trans rfl).trans (xe_4_1 hG)) ?_
    refine xw_iconst (pc := 24) C0 dX2_copyFrom_24 ?_
    refine xw_bipush (pc := 25) C0 dX2_copyFrom_25 (by decide +kernel) ?_
    refine xw_acI (pc := 27) (μ := c1) (n := 6) C0 dX2_copyFrom_27 tv_627 tv_629 tv_628 tv_14 (by decide +kernel) (by decide +kernel) (Nat.le_of_ble_eq_true rfl) (xj_176 hKL) (xj_6 hKL) xk_30 xk_30 (by decide +kernel) (fun _ _ _ h9 => h9) ?_
    have G2 : xw_F [(6, 0, 5)] c1 (fun j i => if j = 6 ∧ i < 6 then c1 176 i else c1 j i) := fun j i h9 => if_neg (fun q => by obtain ⟨q1, q2⟩ := q; subst q1; exact xw_o_in h9 List.mem_cons_self ⟨Nat.zero_le _, by omega⟩)
    have P2 : ∀ i : Nat, i < 6 → (fun j i => if j = 6 ∧ i < 6 then c1 176 i else c1 j i) 6 i = c1 176 i := fun i hi => if_pos ⟨rfl, hi⟩
    generalize (fun j i => if j = 6 ∧ i < 6 then c1 176 i else c1 j i) = c2 at G2 P2 ⊢
    have hG_c2 := xw_GF hG_c1 G2 (by decide +kernel)
    refine xw_aload_n (pc := 30) C0 1 dX2_copyFrom_30 rfl rfl ?_
    refine xw_getR (pc := 31) (f := 2) C0 177 kcX2 dX2_copyFrom_31 (by decide +kernel) tv_67 (xj_174 hKL) xk_28 rfl (((G2 174 2 rfl).trans ((G1 174 2 rfl).trans rfl)).trans (xe_174_2 hG)) ?_
    refine xw_iconst (pc := 34) C0 dX2_copyFrom_34 ?_
    refine xw_aload_n (pc := 35) C0 0 dX2_copyFrom_35 rfl rfl ?_
    refine xw_getR (pc := 36) (f := 2) C0 7 kcX2 dX2_copyFrom_36 (by decide +kernel) tv_67 (xj_4 hKL) xk_28 rfl (((G2 4 2 rfl).trans ((G1 4 2 rfl).trans rfl)).trans (xe_4_2 hG)) ?_
    refine xw_iconst (pc := 39) C0 dX2_copyFrom_39 ?_
    refine xw_bipush (pc := 40) C0 dX2_copyFrom_40 (by decide +kernel) ?_
    refine xw_acI (pc := 42) (μ := c2) (n := 6) C0 dX2_copyFrom_42 tv_627 tv_629 tv_628 tv_14 (by decide +kernel) (by decide +kernel) (Nat.le_of_ble_eq_true rfl) (xj_177 hKL) (xj_7 hKL) xk_31 xk_31 (by decide +kernel) (fun _ _ _ h9 => h9) ?_
    have G3 : xw_F [(7, 0, 5)] c2 (fun j i => if j = 7 ∧ i < 6 then c2 177 i else c2 j i) := fun j i h9 => if_neg (fun q => by obtain ⟨q1, q2⟩ := q; subst q1; exact xw_o_in h9 List.mem_cons_self ⟨Nat.zero_le _, by omega⟩)
    have P3 : ∀ i : Nat, i < 6 → (fun j i => if j = 7 ∧ i < 6 then c2 177 i else c2 j i) 7 i = c2 177 i := fun i hi => if_pos ⟨rfl, hi⟩
    generalize (fun j i => if j = 7 ∧ i < 6 then c2 177 i else c2 j i) = c3 at G3 P3 ⊢
    have hG_c3 := xw_GF hG_c2 G3 (by decide +kernel)
    refine xw_aload_n (pc := 45) C0 1 dX2_copyFrom_45 rfl rfl ?_
    refine xw_getR (pc := 46) (f := 3) C0 178 kcX2 dX2_copyFrom_46 (by decide +kernel) tv_71 (xj_174 hKL) xk_28 rfl (((G3 174 3 rfl).trans ((G2 174 3 rfl).trans ((G1 174 3 rfl).trans rfl))).trans (xe_174_3 hG)) ?_
    refine xw_iconst (pc := 49) C0 dX2_copyFrom_49 ?_
    refine xw_aload_n (pc := 50) C0 0 dX2_copyFrom_50 rfl rfl ?_
    refine xw_getR (pc := 51) (f := 3) C0 8 kcX2 dX2_copyFrom_51 (by decide +kernel) tv_71 (xj_4 hKL) xk_28 rfl (((G3 4 3 rfl).trans ((G2 4 3 rfl).trans ((G1 4 3 rfl).trans rfl))).trans (xe_4_3 hG)) ?_
    refine xw_iconst (pc := 54) C0 dX2_copyFrom_54 ?_
    refine xw_bipush (pc := 55) C0 dX2_copyFrom_55 (by decide +kernel) ?_
    refine xw_acI (pc := 57) (μ := c3) (n := 6) C0 dX2_copyFrom_57 tv_627 tv_629 tv_628 tv_14 (by decide +kernel) (by decide +kernel) (Nat.le_of_ble_eq_true rfl) (xj_178 hKL) (xj_8 hKL) xk_32 xk_32 (by decide +kernel) (fun _ _ _ h9 => h9) ?_
    have G4 : xw_F [(8, 0, 5)] c3 (fun j i => if j = 8 ∧ i < 6 then c3 178 i else c3 j i) := fun j i h9 => if_neg (fun q => by obtain ⟨q1, q2⟩ := q; subst q1; exact xw_o_in h9 List.mem_cons_self ⟨Nat.zero_le _, by omega⟩)
    have P4 : ∀ i : Nat, i < 6 → (fun j i => if j = 8 ∧ i < 6 then c3 178 i else c3 j i) 8 i = c3 178 i := fun i hi => if_pos ⟨rfl, hi⟩
    generalize (fun j i => if j = 8 ∧ i < 6 then c3 178 i else c3 j i) = c4 at G4 P4 ⊢
    have hG_c4 := xw_GF hG_c3 G4 (by decide +kernel)
    refine xw_aload_n (pc := 60) C0 1 dX2_copyFrom_60 rfl rfl ?_
    refine xw_getR (pc := 61) (f := 4) C0 179 kcX2 dX2_copyFrom_61 (by decide +kernel) tv_74 (xj_174 hKL) xk_28 rfl (((G4 174 4 rfl).trans ((G3 174 4 rfl).trans ((G2 174 4 rfl).trans ((G1 174 4 rfl).trans rfl)))).trans (xe_174_4 hG)) ?_
    refine xw_iconst (pc := 64) C0 dX2_copyFrom_64 ?_
    refine xw_aload_n (pc := 65) C0 0 dX2_copyFrom_65 rfl rfl ?_
    refine xw_getR (pc := 66) (f := 4) C0 9 kcX2 dX2_copyFrom_66 (by decide +kernel) tv_74 (xj_4 hKL) xk_28 rfl (((G4 4 4 rfl).trans ((G3 4 4 rfl).trans ((G2 4 4 rfl).trans ((G1 4 4 rfl).trans rfl)))).trans (xe_4_4 hG)) ?_
    refine xw_iconst (pc := 69) C0 dX2_copyFrom_69 ?_
    refine xw_bipush (pc := 70) C0 dX2_copyFrom_70 (by decide +kernel) ?_
    refine xw_acI (pc := 72) (μ := c4) (n := 6) C0 dX2_copyFrom_72 tv_627 tv_629 tv_628 tv_14 (by decide +kernel) (by decide +kernel) (Nat.le_of_ble_eq_true rfl) (xj_179 hKL) (xj_9 hKL) xk_33 xk_33 (by decide +kernel) (fun _ _ _ h9 => h9) ?_
    have G5 : xw_F [(9, 0, 5)] c4 (fun j i => if j = 9 ∧ i < 6 then c4 179 i else c4 j i) := fun j i h9 => if_neg (fun q => by obtain ⟨q1, q2⟩ := q; subst q1; exact xw_o_in h9 List.mem_cons_self ⟨Nat.zero_le _, by omega⟩)
    have P5 : ∀ i : Nat, i < 6 → (fun j i => if j = 9 ∧ i < 6 then c4 179 i else c4 j i) 9 i = c4 179 i := fun i hi => if_pos ⟨rfl, hi⟩
    generalize (fun j i => if j = 9 ∧ i < 6 then c4 179 i else c4 j i) = c5 at G5 P5 ⊢
    have hG_c5 := xw_GF hG_c4 G5 (by decide +kernel)
    refine xw_aload_n (pc := 75) C0 1 dX2_copyFrom_75 rfl rfl ?_
    refine xw_getR (pc := 76) (f := 5) C0 180 kcX2 dX2_copyFrom_76 (by decide +kernel) tv_75 (xj_174 hKL) xk_28 rfl (((G5 174 5 rfl).trans ((G4 174 5 rfl).trans ((G3 174 5 rfl).trans ((G2 174 5 rfl).trans ((G1 174 5 rfl).trans rfl))))).trans (xe_174_5 hG)) ?_
    refine xw_iconst (pc := 79) C0 dX2_copyFrom_79 ?_
    refine xw_aload_n (pc := 80) C0 0 dX2_copyFrom_80 rfl rfl ?_
    refine xw_getR (pc := 81) (f := 5) C0 10 kcX2 dX2_copyFrom_81 (by decide +kernel) tv_75 (xj_4 hKL) xk_28 rfl (((G5 4 5 rfl).trans ((G4 4 5 rfl).trans ((G3 4 5 rfl).trans ((G2 4 5 rfl).trans ((G1 4 5 rfl).trans rfl))))).trans (xe_4_5 hG)) ?_
    refine xw_iconst (pc := 84) C0 dX2_copyFrom_84 ?_
    refine xw_bipush (pc := 85) C0 dX2_copyFrom_85 (by decide +kernel) ?_
    refine xw_acI (pc := 87) (μ := c5) (n := 6) C0 dX2_copyFrom_87 tv_627 tv_629 tv_628 tv_14 (by decide +kernel) (by decide +kernel) (Nat.le_of_ble_eq_true rfl) (xj_180 hKL) (xj_10 hKL) xk_34 xk_34 (by decide +kernel) (fun _ _ _ h9 => h9) ?_
    have G6 : xw_F [(10, 0, 5)] c5 (fun j i => if j = 10 ∧ i < 6 then c5 180 i else c5 j i) := fun j i h9 => if_neg (fun q => by obtain ⟨q1, q2⟩ := q; subst q1; exact xw_o_in h9 List.mem_cons_self ⟨Nat.zero_le _, by omega⟩)
    have P6 : ∀ i : Nat, i < 6 → (fun j i => if j = 10 ∧ i < 6 then c5 180 i else c5 j i) 10 i = c5 180 i := fun i hi => if_pos ⟨rfl, hi⟩
    generalize (fun j i => if j = 10 ∧ i < 6 then c5 180 i else c5 j i) = c6 at G6 P6 ⊢
    have hG_c6 := xw_GF hG_c5 G6 (by decide +kernel)
    refine xw_aload_n (pc := 90) C0 1 dX2_copyFrom_90 rfl rfl ?_
    refine xw_getR (pc := 91) (f := 6) C0 181 kcX2 dX2_copyFrom_91 (by decide +kernel) tv_78 (xj_174 hKL) xk_28 rfl (((G6 174 6 rfl).trans ((G5 174 6 rfl).trans ((G4 174 6 rfl).trans ((G3 174 6 rfl).trans ((G2 174 6 rfl).trans ((G1 174 6 rfl).trans rfl)))))).trans (xe_174_6 hG)) ?_
    refine xw_iconst (pc := 94) C0 dX2_copyFrom_94 ?_
    refine xw_aload_n (pc := 95) C0 0 dX2_copyFrom_95 rfl rfl ?_
    refine xw_getR (pc := 96) (f := 6) C0 11 kcX2 dX2_copyFrom_96 (by decide +kernel) tv_78 (xj_4 hKL) xk_28 rfl (((G6 4 6 rfl).trans ((G5 4 6 rfl).trans ((G4 4 6 rfl).trans ((G3 4 6 rfl).trans ((G2 4 6 rfl).trans ((G1 4 6 rfl).trans rfl)))))).trans (xe_4_6 hG)) ?_
    refine xw_iconst (pc := 99) C0 dX2_copyFrom_99 ?_
    refine xw_bipush (pc := 100) C0 dX2_copyFrom_100 (by decide +kernel) ?_
    refine xw_acI (pc := 102) (μ := c6) (n := 6) C0 dX2_copyFrom_102 tv_627 tv_629 tv_628 tv_14 (by decide +kernel) (by decide +kernel) (Nat.le_of_ble_eq_true rfl) (xj_181 hKL) (xj_11 hKL) xk_35 xk_35 (by decide +kernel) (fun _ _ _ h9 => h9) ?_
    have G7 : xw_F [(11, 0, 5)] c6 (fun j i => if j = 11 ∧ i < 6 then c6 181 i else c6 j i) := fun j i h9 => if_neg (fun q => by obtain ⟨q1, q2⟩ := q; subst q1; exact xw_o_in h9 List.mem_cons_self ⟨Nat.zero_le _, by omega⟩)
    have P7 : ∀ i : Nat, i < 6 → (fun j i => if j = 11 ∧ i < 6 then c6 181 i else c6 j i) 11 i = c6 181 i := fun i hi => if_pos ⟨rfl, hi⟩
    generalize (fun j i => if j = 11 ∧ i < 6 then c6 181 i else c6 j i) = c7 at G7 P7 ⊢
    have hG_c7 := xw_GF hG_c6 G7 (by decide +kernel)
    refine xw_aload_n (pc := 105) C0 1 dX2_copyFrom_105 rfl rfl ?_
    refine xw_getR (pc := 106) (f := 7) C0 182 kcX2 dX2_copyFrom_106 (by decide +kernel) tv_81 (xj_174 hKL) xk_28 rfl (((G7 174 7 rfl).trans ((G6 174 7 rfl).trans ((G5 174 7 rfl).trans ((G4 174 7 rfl).trans ((G3 174 7 rfl).trans ((G2 174 7 rfl).trans ((G1 174 7 rfl).trans rfl))))))).trans (xe_174_7 hG)) ?_
    refine xw_iconst (pc := 109) C0 dX2_copyFrom_109 ?_
    refine xw_aload_n (pc := 110) C0 0 dX2_copyFrom_110 rfl rfl ?_
    refine xw_getR (pc := 111) (f := 7) C0 12 kcX2 dX2_copyFrom_111 (by decide +kernel) tv_81 (xj_4 hKL) xk_28 rfl (((G7 4 7 rfl).trans ((G6 4 7 rfl).trans ((G5 4 7 rfl).trans ((G4 4 7 rfl).trans ((G3 4 7 rfl).trans ((G2 4 7 rfl).trans ((G1 4 7 rfl).trans rfl))))))).trans (xe_4_7 hG)) ?_
    refine xw_iconst (pc := 114) C0 dX2_copyFrom_114 ?_
    refine xw_bipush (pc := 115) C0 dX2_copyFrom_115 (by decide +kernel) ?_
    refine xw_acL (pc := 117) (μ := c7) (n := 8) C0 dX2_copyFrom_117 tv_627 tv_629 tv_628 tv_14 (by decide +kernel) (by decide +kernel) (Nat.le_of_ble_eq_true rfl) (xj_182 hKL) (xj_12 hKL) xk_36 xk_36 (by decide +kernel) (fun _ _ _ h9 => h9) ?_
    have G8 : xw_F [(12, 0, 7)] c7 (fun j i => if j = 12 ∧ i < 8 then c7 182 i else c7 j i) := fun j i h9 => if_neg (fun q => by obtain ⟨q1, q2⟩ := q; subst q1; exact xw_o_in h9 List.mem_cons_self ⟨Nat.zero_le _, by omega⟩)
    have P8 : ∀ i : Nat, i < 8 → (fun j i => if j = 12 ∧ i < 8 then c7 182 i else c7 j i) 12 i = c7 182 i := fun i hi => if_pos ⟨rfl, hi⟩
    generalize (fun j i => if j = 12 ∧ i < 8 then c7 182 i else c7 j i) = c8 at G8 P8 ⊢
    have hG_c8 := xw_GF hG_c7 G8 (by decide +kernel)
    refine xw_aload_n (pc := 120) C0 1 dX2_copyFrom_120 rfl rfl ?_
    refine xw_getR (pc := 121) (f := 8) C0 183 kcX2 dX2_copyFrom_121 (by decide +kernel) tv_83 (xj_174 hKL) xk_28 rfl (((G8 174 8 rfl).trans ((G7 174 8 rfl).trans ((G6 174 8 rfl).trans ((G5 174 8 rfl).trans ((G4 174 8 rfl).trans ((G3 174 8 rfl).trans ((G2 174 8 rfl).trans ((G1 174 8 rfl).trans rfl)))))))).trans (xe_174_8 hG)) ?_
    refine xw_iconst (pc := 124) C0 dX2_copyFrom_124 ?_
    refine xw_aload_n (pc := 125) C0 0 dX2_copyFrom_125 rfl rfl ?_
    refine xw_getR (pc := 126) (f := 8) C0 13 kcX2 dX2_copyFrom_126 (by decide +kernel) tv_83 (xj_4 hKL) xk_28 rfl (((G8 4 8 rfl).trans ((G7 4 8 rfl).trans ((G6 4 8 rfl).trans ((G5 4 8 rfl).trans ((G4 4 8 rfl).trans ((G3 4 8 rfl).trans ((G2 4 8 rfl).trans ((G1 4 8 rfl).trans rfl)))))))).trans (xe_4_8 hG)) ?_
    refine xw_iconst (pc := 129) C0 dX2_copyFrom_129 ?_
    refine xw_bipush (pc := 130) C0 dX2_copyFrom_130 (by decide +kernel) ?_
    refine xw_acI (pc := 132) (μ := c8) (n := 8) C0 dX2_copyFrom_132 tv_627 tv_629 tv_628 tv_14 (by decide +kernel) (by decide +kernel) (Nat.le_of_ble_eq_true rfl) (xj_183 hKL) (xj_13 hKL) xk_37 xk_37 (by decide +kernel) (fun _ _ _ h9 => h9) ?_
    have G10 : xw_F [(13, 0, 7)] c8 (fun j i => if j = 13 ∧ i < 8 then c8 183 i else c8 j i) := fun j i h9 => if_neg (fun q => by obtain ⟨q1, q2⟩ := q; subst q1; exact xw_o_in h9 List.mem_cons_self ⟨Nat.zero_le _, by omega⟩)
    have P10 : ∀ i : Nat, i < 8 → (fun j i => if j = 13 ∧ i < 8 then c8 183 i else c8 j i) 13 i = c8 183 i := fun i hi => if_pos ⟨rfl, hi⟩
    generalize (fun j i => if j = 13 ∧ i < 8 then c8 183 i else c8 j i) = c10 at G10 P10 ⊢
    have hG_c10 := xw_GF hG_c8 G10 (by decide +kernel)
    refine xw_aload_n (pc := 135) C0 1 dX2_copyFrom_135 rfl rfl ?_
    refine xw_getR (pc := 136) (f := 9) C0 184 kcX2 dX2_copyFrom_136 (by decide +kernel) tv_86 (xj_174 hKL) xk_28 rfl (((G10 174 9 rfl).trans ((G8 174 9 rfl).trans ((G7 174 9 rfl).trans ((G6 174 9 rfl).trans ((G5 174 9 rfl).trans ((G4 174 9 rfl).trans ((G3 174 9 rfl).trans ((G2 174 9 rfl).trans ((G1 174 9 rfl).trans rfl))))))))).trans (xe_174_9 hG)) ?_
    refine xw_iconst (pc := 139) C0 dX2_copyFrom_139 ?_
    refine xw_aload_n (pc := 140) C0 0 dX2_copyFrom_140 rfl rfl ?_
    refine xw_getR (pc := 141) (f := 9) C0 14 kcX2 dX2_copyFrom_141 (by decide +kernel) tv_86 (xj_4 hKL) xk_28 rfl (((G10 4 9 rfl).trans ((G8 4 9 rfl).trans ((G7 4 9 rfl).trans ((G6 4 9 rfl).trans ((G5 4 9 rfl).trans ((G4 4 9 rfl).trans ((G3 4 9 rfl).trans ((G2 4 9 rfl).trans ((G1 4 9 rfl).trans rfl))))))))).trans (xe_4_9 hG)) ?_
    refine xw_iconst (pc := 144) C0 dX2_copyFrom_144 ?_
    refine xw_bipush (pc := 145) C0 dX2_copyFrom_145 (by decide +kernel) ?_
    refine xw_acI (pc := 147) (μ := c10) (n := 8) C0 dX2_copyFrom_147 tv_627 tv_629 tv_628 tv_14 (by decide +kernel) (by decide +kernel) (Nat.le_of_ble_eq_true rfl) (xj_184 hKL) (xj_14 hKL) xk_38 xk_38 (by decide +kernel) (fun _ _ _ h9 => h9) ?_
    have G11 : xw_F [(14, 0, 7)] c10 (fun j i => if j = 14 ∧ i < 8 then c10 184 i else c10 j i) := fun j i h9 => if_neg (fun q => by obtain ⟨q1, q2⟩ := q; subst q1; exact xw_o_in h9 List.mem_cons_self ⟨Nat.zero_le _, by omega⟩)
    have P11 : ∀ i : Nat, i < 8 → (fun j i => if j = 14 ∧ i < 8 then c10 184 i else c10 j i) 14 i = c10 184 i := fun i hi => if_pos ⟨rfl, hi⟩
    generalize (fun j i => if j = 14 ∧ i < 8 then c10 184 i else c10 j i) = c11 at G11 P11 ⊢
    have hG_c11 := xw_GF hG_c10 G11 (by decide +kernel)
    refine xw_aload_n (pc := 150) C0 1 dX2_copyFrom_150 rfl rfl ?_
    refine xw_getR (pc := 151) (f := 10) C0 185 kcX2 dX2_copyFrom_151 (by decide +kernel) tv_89 (xj_174 hKL) xk_28 rfl (((G11 174 10 rfl).trans ((G10 174 10 rfl).trans ((G8 174 10 rfl).trans ((G7 174 10 rfl).trans ((G6 174 10 rfl).trans ((G5 174 10 rfl).trans ((G4 174 10 rfl).trans ((G3 174 10 rfl).trans ((G2 174 10 rfl).trans ((G1 174 10 rfl).trans rfl)))))))))).trans (xe_174_10 hG)) ?_
    refine xw_iconst (pc := 154) C0 dX2_copyFrom_154 ?_
    refine xw_aload_n (pc := 155) C0 0 dX2_copyFrom_155 rfl rfl ?_
    refine xw_getR (pc := 156) (f := 10) C0 15 kcX2 dX2_copyFrom_156 (by decide +kernel) tv_89 (xj_4 hKL) xk_28 rfl (((G11 4 10 rfl).trans ((G10 4 10 rfl).trans ((G8 4 10 rfl).trans ((G7 4 10 rfl).trans ((G6 4 10 rfl).trans ((G5 4 10 rfl).trans ((G4 4 10 rfl).trans ((G3 4 10 rfl).trans ((G2 4 10 rfl).trans ((G1 4 10 rfl).trans rfl)))))))))).trans (xe_4_10 hG)) ?_
    refine xw_iconst (pc := 159) C0 dX2_copyFrom_159 ?_
    refine xw_bipush (pc := 160) C0 dX2_copyFrom_160 (by decide +kernel) ?_
    refine xw_acI (pc := 162) (μ := c11) (n := 8) C0 dX2_copyFrom_162 tv_627 tv_629 tv_628 tv_14 (by decide +kernel) (by decide +kernel) (Nat.le_of_ble_eq_true rfl) (xj_185 hKL) (xj_15 hKL) xk_39 xk_39 (by decide +kernel) (fun _ _ _ h9 => h9) ?_
    have G12 : xw_F [(15, 0, 7)] c11 (fun j i => if j = 15 ∧ i < 8 then c11 185 i else c11 j i) := fun j i h9 => if_neg (fun q => by obtain ⟨q1, q2⟩ := q; subst q1; exact xw_o_in h9 List.mem_cons_self ⟨Nat.zero_le _, by omega⟩)
    have P12 : ∀ i : Nat, i < 8 → (fun j i => if j = 15 ∧ i < 8 then c11 185 i else c11 j i) 15 i = c11 185 i := fun i hi => if_pos ⟨rfl, hi⟩
    generalize (fun j i => if j = 15 ∧ i < 8 then c11 185 i else c11 j i) = c12 at G12 P12 ⊢
    have hG_c12 := xw_GF hG_c11 G12 (by decide +kernel)
    refine xw_aload_n (pc := 165) C0 1 dX2_copyFrom_165 rfl rfl ?_
    refine xw_getR (pc := 166) (f := 11) C0 186 kcX2 dX2_copyFrom_166 (by decide +kernel) tv_92 (xj_174 hKL) xk_28 rfl (((G12 174 11 rfl).trans ((G11 174 11 rfl).trans ((G10 174 11 rfl).trans ((G8 174 11 rfl).trans ((G7 174 11 rfl).trans ((G6 174 11 rfl).trans ((G5 174 11 rfl).trans ((G4 174 11 rfl).trans ((G3 174 11 rfl).trans ((G2 174 11 rfl).trans ((G1 174 11 rfl).trans rfl))))))))))).trans (xe_174_11 hG)) ?_
    refine xw_iconst (pc := 169) C0 dX2_copyFrom_169 ?_
    refine xw_aload_n (pc := 170) C0 0 dX2_copyFrom_170 rfl rfl ?_
    refine xw_getR (pc := 171) (f := 11) C0 16 kcX2 dX2_copyFrom_171 (by decide +kernel) tv_92 (xj_4 hKL) xk_28 rfl (((G12 4 11 rfl).trans ((G11 4 11 rfl).trans ((G10 4 11 rfl).trans ((G8 4 11 rfl).trans ((G7 4 11 rfl).trans ((G6 4 11 rfl).trans ((G5 4 11 rfl).trans ((G4 4 11 rfl).trans ((G3 4 11 rfl).trans ((G2 4 11 rfl).trans ((G1 4 11 rfl).trans rfl))))))))))).trans (xe_4_11 hG)) ?_
    refine xw_iconst (pc := 174) C0 dX2_copyFrom_174 ?_
    refine xw_bipush (pc := 175) C0 dX2_copyFrom_175 (by decide +kernel) ?_
    refine xw_acI (pc := 177) (μ := c12) (n := 8) C0 dX2_copyFrom_177 tv_627 tv_629 tv_628 tv_14 (by decide +kernel) (by decide +kernel) (Nat.le_of_ble_eq_true rfl) (xj_186 hKL) (xj_16 hKL) xk_40 xk_40 (by decide +kernel) (fun _ _ _ h9 => h9) ?_
    have G13 : xw_F [(16, 0, 7)] c12 (fun j i => if j = 16 ∧ i < 8 then c12 186 i else c12 j i) := fun j i h9 => if_neg (fun q => by obtain ⟨q1, q2⟩ := q; subst q1; exact xw_o_in h9 List.mem_cons_self ⟨Nat.zero_le _, by omega⟩)
    have P13 : ∀ i : Nat, i < 8 → (fun j i => if j = 16 ∧ i < 8 then c12 186 i else c12 j i) 16 i = c12 186 i := fun i hi => if_pos ⟨rfl, hi⟩
    generalize (fun j i => if j = 16 ∧ i < 8 then c12 186 i else c12 j i) = c13 at G13 P13 ⊢
    have hG_c13 := xw_GF hG_c12 G13 (by decide +kernel)
    refine xw_aload_n (pc := 180) C0 1 dX2_copyFrom_180 rfl rfl ?_
    refine xw_getR (pc := 181) (f := 12) C0 187 kcX2 dX2_copyFrom_181 (by decide +kernel) tv_95 (xj_174 hKL) xk_28 rfl (((G13 174 12 rfl).trans ((G12 174 12 rfl).trans ((G11 174 12 rfl).trans ((G10 174 12 rfl).trans ((G8 174 12 rfl).trans ((G7 174 12 rfl).trans ((G6 174 12 rfl).trans ((G5 174 12 rfl).trans ((G4 174 12 rfl).trans ((G3 174 12 rfl).trans ((G2 174 12 rfl).trans ((G1 174 12 rfl).trans rfl)))))))))))).trans (xe_174_12 hG)) ?_
    refine xw_iconst (pc := 184) C0 dX2_copyFrom_184 ?_
    refine xw_aload_n (pc := 185) C0 0 dX2_copyFrom_185 rfl rfl ?_
    refine xw_getR (pc := 186) (f := 12) C0 17 kcX2 dX2_copyFrom_186 (by decide +kernel) tv_95 (xj_4 hKL) xk_28 rfl (((G13 4 12 rfl).trans ((G12 4 12 rfl).trans ((G11 4 12 rfl).trans ((G10 4 12 rfl).trans ((G8 4 12 rfl).trans ((G7 4 12 rfl).trans ((G6 4 12 rfl).trans ((G5 4 12 rfl).trans ((G4 4 12 rfl).trans ((G3 4 12 rfl).trans ((G2 4 12 rfl).trans ((G1 4 12 rfl).trans rfl)))))))))))).trans (xe_4_12 hG)) ?_
    refine xw_iconst (pc := 189) C0 dX2_copyFrom_189 ?_
    refine xw_bipush (pc := 190) C0 dX2_copyFrom_190 (by decide +kernel) ?_
    refine xw_acI (pc := 192) (μ := c13) (n := 24) C0 dX2_copyFrom_192 tv_627 tv_629 tv_628 tv_14 (by decide +kernel) (by decide +kernel) (Nat.le_of_ble_eq_true rfl) (xj_187 hKL) (xj_17 hKL) xk_41 xk_41 (by decide +kernel) (fun _ _ _ h9 => h9) ?_
    have G14 : xw_F [(17, 0, 23)] c13 (fun j i => if j = 17 ∧ i < 24 then c13 187 i else c13 j i) := fun j i h9 => if_neg (fun q => by obtain ⟨q1, q2⟩ := q; subst q1; exact xw_o_in h9 List.mem_cons_self ⟨Nat.zero_le _, by omega⟩)
    have P14 : ∀ i : Nat, i < 24 → (fun j i => if j = 17 ∧ i < 24 then c13 187 i else c13 j i) 17 i = c13 187 i := fun i hi => if_pos ⟨rfl, hi⟩
    generalize (fun j i => if j = 17 ∧ i < 24 then c13 187 i else c13 j i) = c14 at G14 P14 ⊢
    have hG_c14 := xw_GF hG_c13 G14 (by decide +kernel)
    refine xw_aload_n (pc := 195) C0 0 dX2_copyFrom_195 rfl rfl ?_
    refine xw_aload_n (pc := 196) C0 1 dX2_copyFrom_196 rfl rfl ?_
    refine xw_getI (pc := 197) (f := 13) (z := μ 174 13) C0 kcX2 dX2_copyFrom_197 (by decide +kernel) tv_96 (xj_174 hKL) xk_28 rfl ((G14 174 13 rfl).trans ((G13 174 13 rfl).trans ((G12 174 13 rfl).trans ((G11 174 13 rfl).trans ((G10 174 13 rfl).trans ((G8 174 13 rfl).trans ((G7 174 13 rfl).trans ((G6 174 13 rfl).trans ((G5 174 13 rfl).trans ((G4 174 13 rfl).trans ((G3 174 13 rfl).trans ((G2 174 13 rfl).trans ((G1 174 13 rfl).trans rfl))))))))))))) (fun g15 k15 => ?_)
    refine xw_putI (pc := 200) (f := 13) C0 kcX2 dX2_copyFrom_200 (by decide +kernel) tv_96 rfl rfl (xj_4 hKL) xk_28 rfl (by omega) (by omega) ?_
    refine xw_aload_n (pc := 203) C0 0 dX2_copyFrom_203 rfl rfl ?_
    refine xw_aload_n (pc := 204) C0 1 dX2_copyFrom_204 rfl rfl ?_
    refine xw_getI (pc := 205) (f := 14) (z := μ 174 14) C0 kcX2 dX2_copyFrom_205 (by decide +kernel) tv_101 (xj_174 hKL) xk_28 rfl ((xw_un (fun q => absurd q.1 (by decide +kernel))).trans ((G14 174 14 rfl).trans ((G13 174 14 rfl).trans ((G12 174 14 rfl).trans ((G11 174 14 rfl).trans ((G10 174 14 rfl).trans ((G8 174 14 rfl).trans ((G7 174 14 rfl).trans ((G6 174 14 rfl).trans ((G5 174 14 rfl).trans ((G4 174 14 rfl).trans ((G3 174 14 rfl).trans ((G2 174 14 rfl).trans ((G1 174 14 rfl).trans rfl)))))))))))))) (fun g16 k16 => ?_)
    refine xw_putI (pc := 208) (f := 14) C0 kcX2 dX2_copyFrom_208 (by decide +kernel) tv_101 rfl rfl (xj_4 hKL) xk_28 rfl (by omega) (by omega) ?_
    refine xw_aload_n (pc := 211) C0 0 dX2_copyFrom_211 rfl rfl ?_
    refine xw_aload_n (pc := 212) C0 1 dX2_copyFrom_212 rfl rfl ?_
    refine xw_getI (pc := 213) (f := 15) (z := μ 174 15) C0 kcX2 dX2_copyFrom_213 (by decide +kernel) tv_105 (xj_174 hKL) xk_28 rfl ((xw_un (fun q => absurd q.1 (by decide +kernel))).trans ((xw_un (fun q => absurd q.1 (by decide +kernel))).trans ((G14 174 15 rfl).trans ((G13 174 15 rfl).trans ((G12 174 15 rfl).trans ((G11 174 15 rfl).trans ((G10 174 15 rfl).trans ((G8 174 15 rfl).trans ((G7 174 15 rfl).trans ((G6 174 15 rfl).trans ((G5 174 15 rfl).trans ((G4 174 15 rfl).trans ((G3 174 15 rfl).trans ((G2 174 15 rfl).trans ((G1 174 15 rfl).trans rfl))))))))))))))) (fun g17 k17 => ?_)
    refine xw_putI (pc := 216) (f := 15) C0 kcX2 dX2_copyFrom_216 (by decide +kernel) tv_105 rfl rfl (xj_4 hKL) xk_28 rfl (by omega) (by omega) ?_
    refine xw_vret C0 hA hr hlk dX2_copyFrom_219 ?_
    have Ft1 : xw_F [(4, 13, 13), (4, 14, 14), (4, 15, 15)] c14 (xw_u (xw_u (xw_u c14 4 13 (μ 174 13)) 4 14 (μ 174 14)) 4 15 (μ 174 15)) := ((((xw_F.rf (ML := [(4, 13, 13), (4, 14, 14), (4, 15, 15)])).u (show (4, 13, 13) ∈ _ by decide) ⟨by decide, by decide⟩).u (show (4, 14, 14) ∈ _ by decide) ⟨by decide, by decide⟩).u (show (4, 15, 15) ∈ _ by decide) ⟨by decide, by decide⟩)
    have vt1_4_15 : (xw_u (xw_u (xw_u c14 4 13 (μ 174 13)) 4 14 (μ 174 14)) 4 15 (μ 174 15)) 4 15 = μ 174 15 := xw_ug
    have vt1_4_14 : (xw_u (xw_u (xw_u c14 4 13 (μ 174 13)) 4 14 (μ 174 14)) 4 15 (μ 174 15)) 4 14 = μ 174 14 := (xw_un (by decide +kernel)).trans xw_ug
    have vt1_4_13 : (xw_u (xw_u (xw_u c14 4 13 (μ 174 13)) 4 14 (μ 174 14)) 4 15 (μ 174 15)) 4 13 = μ 174 13 := (xw_un (by decide +kernel)).trans ((xw_un (by decide +kernel)).trans xw_ug)
    generalize (xw_u (xw_u (xw_u c14 4 13 (μ 174 13)) 4 14 (μ 174 14)) 4 15 (μ 174 15)) = t1 at Ft1 vt1_4_15 vt1_4_14 vt1_4_13 ⊢
    have e13 : t1 4 13 = μ 174 13 := vt1_4_13
    have e14 : t1 4 14 = μ 174 14 := vt1_4_14
    have e15 : t1 4 15 = μ 174 15 := vt1_4_15
    have a0 : ∀ i : Nat, i < 6 → t1 5 i = μ 175 i := fun i hi => (Ft1 5 i (xw_oj (by decide +kernel) i)).trans ((G14 5 i (xw_oj (by decide +kernel) i)).trans ((G13 5 i (xw_oj (by decide +kernel) i)).trans ((G12 5 i (xw_oj (by decide +kernel) i)).trans ((G11 5 i (xw_oj (by decide +kernel) i)).trans ((G10 5 i (xw_oj (by decide +kernel) i)).trans ((G8 5 i (xw_oj (by decide +kernel) i)).trans ((G7 5 i (xw_oj (by decide +kernel) i)).trans ((G6 5 i (xw_oj (by decide +kernel) i)).trans ((G5 5 i (xw_oj (by decide +kernel) i)).trans ((G4 5 i (xw_oj (by decide +kernel) i)).trans ((G3 5 i (xw_oj (by decide +kernel) i)).trans ((G2 5 i (xw_oj (by decide +kernel) i)).trans (P1 i hi)))))))))))))
    have a1 : ∀ i : Nat, i < 6 → t1 6 i = μ 176 i := fun i hi => (Ft1 6 i (xw_oj (by decide +kernel) i)).trans ((G14 6 i (xw_oj (by decide +kernel) i)).trans ((G13 6 i (xw_oj (by decide +kernel) i)).trans ((G12 6 i (xw_oj (by decide +kernel) i)).trans ((G11 6 i (xw_oj (by decide +kernel) i)).trans ((G10 6 i (xw_oj (by decide +kernel) i)).trans ((G8 6 i (xw_oj (by decide +kernel) i)).trans ((G7 6 i (xw_oj (by decide +kernel) i)).trans ((G6 6 i (xw_oj (by decide +kernel) i)).trans ((G5 6 i (xw_oj (by decide +kernel) i)).trans ((G4 6 i (xw_oj (by decide +kernel) i)).trans ((G3 6 i (xw_oj (by decide +kernel) i)).trans ((P2 i hi).trans (G1 176 i (xw_oj (by decide +kernel) i))))))))))))))
    have a2 : ∀ i : Nat, i < 6 → t1 7 i = μ 177 i := fun i hi => (Ft1 7 i (xw_oj (by decide +kernel) i)).trans ((G14 7 i (xw_oj (by decide +kernel) i)).trans ((G13 7 i (xw_oj (by decide +kernel) i)).trans ((G12 7 i (xw_oj (by decide +kernel) i)).trans ((G11 7 i (xw_oj (by decide +kernel) i)).trans ((G10 7 i (xw_oj (by decide +kernel) i)).trans ((G8 7 i (xw_oj (by decide +kernel) i)).trans ((G7 7 i (xw_oj (by decide +kernel) i)).trans ((G6 7 i (xw_oj (by decide +kernel) i)).trans ((G5 7 i (xw_oj (by decide +kernel) i)).trans ((G4 7 i (xw_oj (by decide +kernel) i)).trans ((P3 i hi).trans ((G2 177 i (xw_oj (by decide +kernel) i)).trans (G1 177 i (xw_oj (by decide +kernel) i))))))))))))))
    have a3 : ∀ i : Nat, i < 6 → t1 8 i = μ 178 i := fun i hi => (Ft1 8 i (xw_oj (by decide +kernel) i)).trans ((G14 8 i (xw_oj (by decide +kernel) i)).trans ((G13 8 i (xw_oj (by decide +kernel) i)).trans ((G12 8 i (xw_oj (by decide +kernel) i)).trans ((G11 8 i (xw_oj (by decide +kernel) i)).trans ((G10 8 i (xw_oj (by decide +kernel) i)).trans ((G8 8 i (xw_oj (by decide +kernel) i)).trans ((G7 8 i (xw_oj (by decide +kernel) i)).trans ((G6 8 i (xw_oj (by decide +kernel) i)).trans ((G5 8 i (xw_oj (by decide +kernel) i)).trans ((P4 i hi).trans ((G3 178 i (xw_oj (by decide +kernel) i)).trans ((G2 178 i (xw_oj (by decide +kernel) i)).trans (G1 178 i (xw_oj (by decide +kernel) i))))))))))))))
    have a4 : ∀ i : Nat, i < 6 → t1 9 i = μ 179 i := fun i hi => (Ft1 9 i (xw_oj (by decide +kernel) i)).trans ((G14 9 i (xw_oj (by decide +kernel) i)).trans ((G13 9 i (xw_oj (by decide +kernel) i)).trans ((G12 9 i (xw_oj (by decide +kernel) i)).trans ((G11 9 i (xw_oj (by decide +kernel) i)).trans ((G10 9 i (xw_oj (by decide +kernel) i)).trans ((G8 9 i (xw_oj (by decide +kernel) i)).trans ((G7 9 i (xw_oj (by decide +kernel) i)).trans ((G6 9 i (xw_oj (by decide +kernel) i)).trans ((P5 i hi).trans ((G4 179 i (xw_oj (by decide +kernel) i)).trans ((G3 179 i (xw_oj (by decide +kernel) i)).trans ((G2 179 i (xw_oj (by decide +kernel) i)).trans (G1 179 i (xw_oj (by decide +kernel) i))))))))))))))
    have a5 : ∀ i : Nat, i < 6 → t1 10 i = μ 180 i := fun i hi => (Ft1 10 i (xw_oj (by decide +kernel) i)).trans ((G14 10 i (xw_oj (by decide +kernel) i)).trans ((G13 10 i (xw_oj (by decide +kernel) i)).trans ((G12 10 i (xw_oj (by decide +kernel) i)).trans ((G11 10 i (xw_oj (by decide +kernel) i)).trans ((G10 10 i (xw_oj (by decide +kernel) i)).trans ((G8 10 i (xw_oj (by decide +kernel) i)).trans ((G7 10 i (xw_oj (by decide +kernel) i)).trans ((P6 i hi).trans ((G5 180 i (xw_oj (by decide +kernel) i)).trans ((G4 180 i (xw_oj (by decide +kernel) i)).trans ((G3 180 i (xw_oj (by decide +kernel) i)).trans ((G2 180 i (xw_oj (by decide +kernel) i)).trans (G1 180 i (xw_oj (by decide +kernel) i))))))))))))))
    have a6 : ∀ i : Nat, i < 6 → t1 11 i = μ 181 i := fun i hi => (Ft1 11 i (xw_oj (by decide +kernel) i)).trans ((G14 11 i (xw_oj (by decide +kernel) i)).trans ((G13 11 i (xw_oj (by decide +kernel) i)).trans ((G12 11 i (xw_oj (by decide +kernel) i)).trans ((G11 11 i (xw_oj (by decide +kernel) i)).trans ((G10 11 i (xw_oj (by decide +kernel) i)).trans ((G8 11 i (xw_oj (by decide +kernel) i)).trans ((P7 i hi).trans ((G6 181 i (xw_oj (by decide +kernel) i)).trans ((G5 181 i (xw_oj (by decide +kernel) i)).trans ((G4 181 i (xw_oj (by decide +kernel) i)).trans ((G3 181 i (xw_oj (by decide +kernel) i)).trans ((G2 181 i (xw_oj (by decide +kernel) i)).trans (G1 181 i (xw_oj (by decide +kernel) i))))))))))))))
    have a7 : ∀ i : Nat, i < 8 → t1 12 i = μ 182 i := fun i hi => (Ft1 12 i (xw_oj (by decide +kernel) i)).trans ((G14 12 i (xw_oj (by decide +kernel) i)).trans ((G13 12 i (xw_oj (by decide +kernel) i)).trans ((G12 12 i (xw_oj (by decide +kernel) i)).trans ((G11 12 i (xw_oj (by decide +kernel) i)).trans ((G10 12 i (xw_oj (by decide +kernel) i)).trans ((P8 i hi).trans ((G7 182 i (xw_oj (by decide +kernel) i)).trans ((G6 182 i (xw_oj (by decide +kernel) i)).trans ((G5 182 i (xw_oj (by decide +kernel) i)).trans ((G4 182 i (xw_oj (by decide +kernel) i)).trans ((G3 182 i (xw_oj (by decide +kernel) i)).trans ((G2 182 i (xw_oj (by decide +kernel) i)).trans (G1 182 i (xw_oj (by decide +kernel) i))))))))))))))
    have a8 : ∀ i : Nat, i < 8 → t1 13 i = μ 183 i := fun i hi => (Ft1 13 i (xw_oj (by decide +kernel) i)).trans ((G14 13 i (xw_oj (by decide +kernel) i)).trans ((G13 13 i (xw_oj (by decide +kernel) i)).trans ((G12 13 i (xw_oj (by decide +kernel) i)).trans ((G11 13 i (xw_oj (by decide +kernel) i)).trans ((P10 i hi).trans ((G8 183 i (xw_oj (by decide +kernel) i)).trans ((G7 183 i (xw_oj (by decide +kernel) i)).trans ((G6 183 i (xw_oj (by decide +kernel) i)).trans ((G5 183 i (xw_oj (by decide +kernel) i)).trans ((G4 183 i (xw_oj (by decide +kernel) i)).trans ((G3 183 i (xw_oj (by decide +kernel) i)).trans ((G2 183 i (xw_oj (by decide +kernel) i)).trans (G1 183 i (xw_oj (by decide +kernel) i))))))))))))))
    have a9 : ∀ i : Nat, i < 8 → t1 14 i = μ 184 i := fun i hi => (Ft1 14 i (xw_oj (by decide +kernel) i)).trans ((G14 14 i (xw_oj (by decide +kernel) i)).trans ((G13 14 i (xw_oj (by decide +kernel) i)).trans ((G12 14 i (xw_oj (by decide +kernel) i)).trans ((P11 i hi).trans ((G10 184 i (xw_oj (by decide +kernel) i)).trans ((G8 184 i (xw_oj (by decide +kernel) i)).trans ((G7 184 i (xw_oj (by decide +kernel) i)).trans ((G6 184 i (xw_oj (by decide +kernel) i)).trans ((G5 184 i (xw_oj (by decide +kernel) i)).trans ((G4 184 i (xw_oj (by decide +kernel) i)).trans ((G3 184 i (xw_oj (by decide +kernel) i)).trans ((G2 184 i (xw_oj (by decide +kernel) i)).trans (G1 184 i (xw_oj (by decide +kernel) i))))))))))))))
    have a10 : ∀ i : Nat, i < 8 → t1 15 i = μ 185 i := fun i hi => (Ft1 15 i (xw_oj (by decide +kernel) i)).trans ((G14 15 i (xw_oj (by decide +kernel) i)).trans ((G13 15 i (xw_oj (by decide +kernel) i)).trans ((P12 i hi).trans ((G11 185 i (xw_oj (by decide +kernel) i)).trans ((G10 185 i (xw_oj (by decide +kernel) i)).trans ((G8 185 i (xw_oj (by decide +kernel) i)).trans ((G7 185 i (xw_oj (by decide +kernel) i)).trans ((G6 185 i (xw_oj (by decide +kernel) i)).trans ((G5 185 i (xw_oj (by decide +kernel) i)).trans ((G4 185 i (xw_oj (by decide +kernel) i)).trans ((G3 185 i (xw_oj (by decide +kernel) i)).trans ((G2 185 i (xw_oj (by decide +kernel) i)).trans (G1 185 i (xw_oj (by decide +kernel) i))))))))))))))
    have a11 : ∀ i : Nat, i < 8 → t1 16 i = μ 186 i := fun i hi => (Ft1 16 i (xw_oj (by decide +kernel) i)).trans ((G14 16 i (xw_oj (by decide +kernel) i)).trans ((P13 i hi).trans ((G12 186 i (xw_oj (by decide +kernel) i)).trans ((G11 186 i (xw_oj (by decide +kernel) i)).trans ((G10 186 i (xw_oj (by decide +kernel) i)).trans ((G8 186 i (xw_oj (by decide +kernel) i)).trans ((G7 186 i (xw_oj (by decide +kernel) i)).trans ((G6 186 i (xw_oj (by decide +kernel) i)).trans ((G5 186 i (xw_oj (by decide +kernel) i)).trans ((G4 186 i (xw_oj (by decide +kernel) i)).trans ((G3 186 i (xw_oj (by decide +kernel) i)).trans ((G2 186 i (xw_oj (by decide +kernel) i)).trans (G1 186 i (xw_oj (by decide +kernel) i))))))))))))))
    have a12 : ∀ i : Nat, i < 24 → t1 17 i = μ 187 i := fun i hi => (Ft1 17 i (xw_oj (by decide +kernel) i)).trans ((P14 i hi).trans ((G13 187 i (xw_oj (by decide +kernel) i)).trans ((G12 187 i (xw_oj (by decide +kernel) i)).trans ((G11 187 i (xw_oj (by decide +kernel) i)).trans ((G10 187 i (xw_oj (by decide +kernel) i)).trans ((G8 187 i (xw_oj (by decide +kernel) i)).trans ((G7 187 i (xw_oj (by decide +kernel) i)).trans ((G6 187 i (xw_oj (by decide +kernel) i)).trans ((G5 187 i (xw_oj (by decide +kernel) i)).trans ((G4 187 i (xw_oj (by decide +kernel) i)).trans ((G3 187 i (xw_oj (by decide +kernel) i)).trans ((G2 187 i (xw_oj (by decide +kernel) i)).trans (G1 187 i (xw_oj (by decide +kernel) i))))))))))))))
    exact ⟨rfl, ⟨⟨e13, e14, e15⟩, fun i hi => ⟨a0 i hi, a1 i hi, a2 i hi, a3 i hi, a4 i hi, a5 i hi, a6 i hi⟩, fun i hi => ⟨a7 i hi, a8 i hi, a9 i hi, a10 i hi, a11 i hi⟩, a12⟩, (((((((((((((((xw_F.rf (ML := [(4, 13, 15), (5, 0, 5), (6, 0, 5), (7, 0, 5), (8, 0, 5), (9, 0, 5), (10, 0, 5), (11, 0, 5), (12, 0, 7), (13, 0, 7), (14, 0, 7), (15, 0, 7), (16, 0, 7), (17, 0, 23)])).tr G1 (fun j i h => xw_o_sub (by decide +kernel) j i h)).tr G2 (fun j i h => xw_o_sub (by decide +kernel) j i h)).tr G3 (fun j i h => xw_o_sub (by decide +kernel) j i h)).tr G4 (fun j i h => xw_o_sub (by decide +kernel) j i h)).tr G5 (fun j i h => xw_o_sub (by decide +kernel) j i h)).tr G6 (fun j i h => xw_o_sub (by decide +kernel) j i h)).tr G7 (fun j i h => xw_o_sub (by decide +kernel) j i h)).tr G8 (fun j i h => xw_o_sub (by decide +kernel) j i h)).tr G10 (fun j i h => xw_o_sub (by decide +kernel) j i h)).tr G11 (fun j i h => xw_o_sub (by decide +kernel) j i h)).tr G12 (fun j i h => xw_o_sub (by decide +kernel) j i h)).tr G13 (fun j i h => xw_o_sub (by decide +kernel) j i h)).tr G14 (fun j i h => xw_o_sub (by decide +kernel) j i h)).tr Ft1 (fun j i h => xw_o_sub (by decide +kernel) j i h))⟩)
