set_option maxRecDepth 20000 in
set_option maxHeartbeats 20000000 in
theorem xq_cpH_147_4 {l : Launch} {μ : xw_M} (hG : xw_G xw_GL μ) : xw_MetV l vwCl sa_Ts tb_KT0 tc_KL yX2_copyFrom cX2_copyFrom 2 none 2 120 (fun ad => [.ref (ad 147), .ref (ad 4)]) μ (fun μ' => hx_C 147 4 μ μ' ∧ xw_F [(147, 13, 15), (148, 0, 5), (149, 0, 5), (150, 0, 5), (151, 0, 5), (152, 0, 5), (153, 0, 5), (154, 0, 5), (155, 0, 7), (156, 0, 7), (157, 0, 7), (158, 0, 7), (159, 0, 7), (160, 0, 23)] μ μ') :=
  xw_of (by decide +kernel) (fun _ => Nat.le_of_ble_eq_true rfl) (fun p e s m args below meth c D dA A al w0 sz C0 hU hO hKL hr hlk hA => by
    refine xw_aload_n (pc := 0) C0 1 dX2_copyFrom_0 rfl rfl ?_
    refine xw_getR (pc := 1) (f := 0) C0 5 kcX2 dX2_copyFrom_1 (by decide +kernel) tv_61 (xj_4 hKL) xk_28 rfl ((rfl).trans (xe_4_0 hG)) ?_
    refine xw_iconst (pc := 4) C0 dX2_copyFrom_4 ?_
    refine xw_aload_n (pc := 5) C0 0 dX2_copyFrom_5 rfl rfl ?_
    refine xw_getR (pc := 6) (f := 0) C0 148 kcX2 dX2_copyFrom_6 (by decide +kernel) tv_61 (xj_147 hKL) xk_28 rfl ((rfl).trans (xe_147_0 hG)) ?_
    refine xw_iconst (pc := 9) C0 dX2_copyFrom_9 ?_
    refine xw_bipush (pc := 10) C0 dX2_copyFrom_10 (by decide +kernel) ?_
    refine xw_acL (pc := 12) (μ := μ) (n := 6) C0 dX2_copyFrom_12 tv_627 tv_629 tv_628 tv_14 (by decide +kernel) (by decide +kernel) (Nat.le_of_ble_eq_true rfl) (xj_5 hKL) (xj_148 hKL) xk_29 xk_29 (by decide +kernel) (fun _ _ _ h9 => h9) ?_
    have G1 : xw_F [(148, 0, 5)] μ (fun j i => if j = 148 ∧ i < 6 then μ 5 i else μ j i) := fun j i h9 => if_neg (fun q => by obtain ⟨q1, q2⟩ := q; subst q1; exact xw_o_in h9 List.mem_cons_self ⟨Nat.zero_le _, by omega⟩)
    have P1 : ∀ i : Nat, i < 6 → (fun j i => if j = 148 ∧ i < 6 then μ 5 i else μ j i) 148 i = μ 5 i := fun i hi => if_pos ⟨rfl, hi⟩
    generalize (fun j i => if j = 148 ∧ i < 6 then μ 5 i else μ j i) = c1 at G1 P1 ⊢
    have hG_c1 := xw_GF hG G1 (by decide +kernel)
    refine xw_aload_n (pc := 15) C0 1 dX2_copyFrom_15 rfl rfl ?_
    refine xw_getR (pc := 16) (f := 1) C0 6 kcX2 dX2_copyFrom_16 (by decide +kernel) tv_63 (xj_4 hKL) xk_28 rfl (((G1 4 1 rfl).trans rfl).trans (xe_4_1 hG)) ?_
    refine xw_iconst (pc := 19) C0 dX2_copyFrom_19 ?_
    refine xw_aload_n (pc := 20) C0 0 dX2_copyFrom_20 rfl rfl ?_
    refine xw_getR (pc := 21) (f := 1) C0 149 kcX2 dX2_copyFrom_21 (by decide +kernel) tv_63 (xj_147 hKL) xk_28 rfl (((G1 147 1 rfl).trans rfl).trans (xe_147_1 hG)) ?_
    refine xw_iconst (pc := 24) C0 dX2_copyFrom_24 ?_
    refine xw_bipush (pc := 25) C0 dX2_copyFrom_25 (by decide +kernel) ?_
    refine xw_acI (pc := 27) (μ := c1) (n := 6) C0 dX2_copyFrom_27 tv_627 tv_629 tv_628 tv_14 (by decide +kernel) (by decide +kernel) (Nat.le_of_ble_eq_true rfl) (xj_6 hKL) (xj_149 hKL) xk_30 xk_30 (by decide +kernel) (fun _ _ _ h9 => h9) ?_
    have G2 : xw_F [(149, 0, 5)] c1 (fun j i => if j = 149 ∧ i < 6 then c1 6 i else c1 j i) := fun j i h9 => if_neg (fun q => by obtain ⟨q1, q2⟩ := q; subst q1; exact xw_o_in h9 List.mem_cons_self ⟨Nat.zero_le _, by omega⟩)
    have P2 : ∀ i : Nat, i < 6 → (fun j i => if j = 149 ∧ i < 6 then c1 6 i else c1 j i) 149 i = c1 6 i := fun i hi => if_pos ⟨rfl, hi⟩
    generalize (fun j i => if j = 149 ∧ i < 6 then c1 6 i else c1 j i) = c2 at G2 P2 ⊢
    have hG_c2 := xw_GF hG_c1 G2 (by decide +kernel)
    refine xw_aload_n (pc := 30) C0 1 dX2_copyFrom_30 rfl rfl ?_
    refine xw_getR (pc := 31) (f := 2) C0 7 kcX2 dX2_copyFrom_31 (by decide +kernel) tv_67 (xj_4 hKL) xk_28 rfl (((G2 4 2 rfl).trans ((G1 4 2 rfl).trans rfl)).trans (xe_4_2 hG)) ?_
    refine xw_iconst (pc := 34) C0 dX2_copyFrom_34 ?_
    refine xw_aload_n (pc := 35) C0 0 dX2_copyFrom_35 rfl rfl ?_
    refine xw_getR (pc := 36) (f := 2) C0 150 kcX2 dX2_copyFrom_36 (by decide +kernel) tv_67 (xj_147 hKL) xk_28 rfl (((G2 147 2 rfl).trans ((G1 147 2 rfl).trans rfl)).trans (xe_147_2 hG)) ?_
    refine xw_iconst (pc := 39) C0 dX2_copyFrom_39 ?_
    refine xw_bipush (pc := 40) C0 dX2_copyFrom_40 (by decide +kernel) ?_
    refine xw_acI (pc := 42) (μ := c2) (n := 6) C0 dX2_copyFrom_42 tv_627 tv_629 tv_628 tv_14 (by decide +kernel) (by decide +kernel) (Nat.le_of_ble_eq_true rfl) (xj_7 hKL) (xj_150 hKL) xk_31 xk_31 (by decide +kernel) (fun _ _ _ h9 => h9) ?_
    have G3 : xw_F [(150, 0, 5)] c2 (fun j i => if j = 150 ∧ i < 6 then c2 7 i else c2 j i) := fun j i h9 => if_neg (fun q => by obtain ⟨q1, q2⟩ := q; subst q1; exact xw_o_in h9 List.mem_cons_self ⟨Nat.zero_le _, by omega⟩)
    have P3 : ∀ i : Nat, i < 6 → (fun j i => if j = 150 ∧ i < 6 then c2 7 i else c2 j i) 150 i = c2 7 i := fun i hi => if_pos ⟨rfl, hi⟩
    generalize (fun j i => if j = 150 ∧ i < 6 then c2 7 i else c2 j i) = c3 at G3 P3 ⊢
    have hG_c3 := xw_GF hG_c2 G3 (by decide +kernel)
    refine xw_aload_n (pc := 45) C0 1 dX2_copyFrom_45 rfl rfl ?_
    refine xw_getR (pc := 46) (f := 3) C0 8 kcX2 dX2_copyFrom_46 (by decide +kernel) tv_71 (xj_4 hKL) xk_28 rfl (((G3 4 3 rfl).trans ((G2 4 3 rfl).trans ((G1 4 3 rfl).trans rfl))).trans (xe_4_3 hG)) ?_
    refine xw_iconst (pc := 49) C0 dX2_copyFrom_49 ?_
    refine xw_aload_n (pc := 50) C0 0 dX2_copyFrom_50 rfl rfl ?_
    refine xw_getR (pc := 51) (f := 3) C0 151 kcX2 dX2_copyFrom_51 (by decide +kernel) tv_71 (xj_147 hKL) xk_28 rfl (((G3 147 3 rfl).trans ((G2 147 3 rfl).trans ((G1 147 3 rfl).trans rfl))).trans (xe_147_3 hG)) ?_
    refine xw_iconst (pc := 54) C0 dX2_copyFrom_54 ?_
    refine xw_bipush (pc := 55) C0 dX2_copyFrom_55 (by decide +kernel) ?_
    refine xw_acI (pc := 57) (μ := c3) (n := 6) C0 dX2_copyFrom_57 tv_627 tv_629 tv_628 tv_14 (by decide +kernel) (by decide +kernel) (Nat.le_of_ble_eq_true rfl) (xj_8 hKL) (xj_151 hKL) xk_32 xk_32 (by decide +kernel) (fun _ _ _ h9 => h9) ?_
    have G4 : xw_F [(151, 0, 5)] c3 (fun j i => if j = 151 ∧ i < 6 then c3 8 i else c3 j i) := fun j i h9 => if_neg (fun q => by obtain ⟨q1, q2⟩ := q; subst q1; exact xw_o_in h9 List.mem_cons_self ⟨Nat.zero_le _, by omega⟩)
    have P4 : ∀ i : Nat, i < 6 → (fun j i => if j = 151 ∧ i < 6 then c3 8 i else c3 j i) 151 i = c3 8 i := fun i hi => if_pos ⟨rfl, hi⟩
    generalize (fun j i => if j = 151 ∧ i < 6 then c3 8 i else c3 j i) = c4 at G4 P4 ⊢
    have hG_c4 := xw_GF hG_c3 G4 (by decide +kernel)
    refine xw_aload_n (pc := 60) C0 1 dX2_copyFrom_60 rfl rfl ?_
    refine xw_getR (pc := 61) (f := 4) C0 9 kcX2 dX2_copyFrom_61 (by decide +kernel) tv_74 (xj_4 hKL) xk_28 rfl (((G4 4 4 rfl).trans ((G3 4 4 rfl).trans ((G2 4 4 rfl).trans ((G1 4 4 rfl).trans rfl)))).trans (xe_4_4 hG)) ?_
    refine xw_iconst (pc := 64) C0 dX2_copyFrom_64 ?_
    refine xw_aload_n (pc := 65) C0 0 dX2_copyFrom_65 rfl rfl ?_
    refine xw_getR (pc := 66) (f := 4) C0 152 kcX2 dX2_copyFrom_66 (by decide +kernel) tv_74 (xj_147 hKL) xk_28 rfl (((G4 147 4 rfl).trans ((G3 147 4 rfl).trans ((G2 147 4 rfl).trans ((G1 147 4 rfl).trans rfl)))).trans (xe_147_4 hG)) ?_
    refine xw_iconst (pc := 69) C0 dX2_copyFrom_69 ?_
    refine xw_bipush (pc := 70) C0 dX2_copyFrom_70 (by decide +kernel) ?_
    refine xw_acI (pc := 72) (μ := c4) (n := 6) C0 dX2_copyFrom_72 tv_627 tv_629 tv_628 tv_14 (by decide +kernel) (by decide +kernel) (Nat.le_of_ble_eq_true rfl) (xj_9 hKL) (xj_152 hKL) xk_33 xk_33 (by decide +kernel) (fun _ _ _ h9 => h9) ?_
    have G5 : xw_F [(152, 0, 5)] c4 (fun j i => if j = 152 ∧ i < 6 then c4 9 i else c4 j i) := fun j i h9 => if_neg (fun q => by obtain ⟨q1, q2⟩ := q; subst q1; exact xw_o_in h9 List.mem_cons_self ⟨Nat.zero_le _, by omega⟩)
    have P5 : ∀ i : Nat, i < 6 → (fun j i => if j = 152 ∧ i < 6 then c4 9 i else c4 j i) 152 i = c4 9 i := fun i hi => if_pos ⟨rfl, hi⟩
    generalize (fun j i => if j = 152 ∧ i < 6 then c4 9 i else c4 j i) = c5 at G5 P5 ⊢
    have hG_c5 := xw_GF hG_c4 G5 (by decide +kernel)
    refine xw_aload_n (pc := 75) C0 1 dX2_copyFrom_75 rfl rfl ?_
    refine xw_getR (pc := 76) (f := 5) C0 10 kcX2 dX2_copyFrom_76 (by decide +kernel) tv_75 (xj_4 hKL) xk_28 rfl (((G5 4 5 rfl).trans ((G4 4 5 rfl).trans ((G3 4 5 rfl).trans ((G2 4 5 rfl).trans ((G1 4 5 rfl).trans rfl))))).trans (xe_4_5 hG)) ?_
    refine xw_iconst (pc := 79) C0 dX2_copyFrom_79 ?_
    refine xw_aload_n (pc := 80) C0 0 dX2_copyFrom_80 rfl rfl ?_
    refine xw_getR (pc := 81) (f := 5) C0 153 kcX2 dX2_copyFrom_81 (by decide +kernel) tv_75 (xj_147 hKL) xk_28 rfl (((G5 147 5 rfl).trans ((G4 147 5 rfl).trans ((G3 147 5 rfl).trans ((G2 147 5 rfl).trans ((G1 147 5 rfl).trans rfl))))).trans (xe_147_5 hG)) ?_
    refine xw_iconst (pc := 84) C0 dX2_copyFrom_84 ?_
    refine xw_bipush (pc := 85) C0 dX2_copyFrom_85 (by decide +kernel) ?_
    refine xw_acI (pc := 87) (μ := c5) (n := 6) C0 dX2_copyFrom_87 tv_627 tv_629 tv_628 tv_14 (by decide +kernel) (by decide +kernel) (Nat.le_of_ble_eq_true rfl) (xj_10 hKL) (xj_153 hKL) xk_34 xk_34 (by decide +kernel) (fun _ _ _ h9 => h9) ?_
    have G6 : xw_F [(153, 0, 5)] c5 (fun j i => if j = 153 ∧ i < 6 then c5 10 i else c5 j i) := fun j i h9 => if_neg (fun q => by obtain ⟨q1, q2⟩ := q; subst q1; exact xw_o_in h9 List.mem_cons_self ⟨Nat.zero_le _, by omega⟩)
    have P6 : ∀ i : Nat, i < 6 → (fun j i => if j = 153 ∧ i < 6 then c5 10 i else c5 j i) 153 i = c5 10 i := fun i hi => if_pos ⟨rfl, hi⟩
    generalize (fun j i => if j = 153 ∧ i < 6 then c5 10 i else c5 j i) = c6 at G6 P6 ⊢
    have hG_c6 := xw_GF hG_c5 G6 (by decide +kernel)
    refine xw_aload_n (pc := 90) C0 1 dX2_copyFrom_90 rfl rfl ?_
    refine xw_getR (pc := 91) (f := 6) C0 11 kcX2 dX2_copyFrom_91 (by decide +kernel) tv_78 (xj_4 hKL) xk_28 rfl (((G6 4 6 rfl).trans ((G5 4 6 rfl).trans ((G4 4 6 rfl).trans ((G3 4 6 rfl).trans ((G2 4 6 rfl).trans ((G1 4 6 rfl).trans rfl)))))).trans (xe_4_6 hG)) ?_
    refine xw_iconst (pc := 94) C0 dX2_copyFrom_94 ?_
    refine xw_aload_n (pc := 95) C0 0 dX2_copyFrom_95 rfl rfl ?_
    refine xw_getR (pc := 96) (f := 6) C0 154 kcX2 dX2_copyFrom_96 (by decide +kernel) tv_78 (xj_147 hKL) xk_28 rfl (((G6 147 6 rfl).trans ((G5 147 6 rfl).trans ((G4 147 6 rfl).trans ((G3 147 6 rfl).trans ((G2 147 6 rfl).trans ((G1 147 6 rfl).trans rfl)))))).trans (xe_147_6 hG)) ?_
    refine xw_iconst (pc := 99) C0 dX2_copyFrom_99 ?_
    refine xw_bipush (pc := 100) C0 dX2_copyFrom_100 (by decide +kernel) ?_
    refine xw_acI (pc := 102) (μ := c6) (n := 6) C0 dX2_copyFrom_102 tv_627 tv_629 tv_628 tv_14 (by decide +kernel) (by decide +kernel) (Nat.le_of_ble_eq_true rfl) (xj_11 hKL) (xj_154 hKL) xk_35 xk_35 (by decide +kernel) (fun _ _ _ h9 => h9) ?_
    have G7 : xw_F [(154, 0, 5)] c6 (fun j i => if j = 154 ∧ i < 6 then c6 11 i else c6 j i) := fun j i h9 => if_neg (fun q => by obtain ⟨q1, q2⟩ := q; subst q1; exact xw_o_in h9 List.mem_cons_self ⟨Nat.zero_le _, by omega⟩)
    have P7 : ∀ i : Nat, i < 6 → (fun j i => if j = 154 ∧ i < 6 then c6 11 i else c6 j i) 154 i = c6 11 i := fun i hi => if_pos ⟨rfl, hi⟩
    generalize (fun j i => if j = 154 ∧ i < 6 then c6 11 i else c6 j i) = c7 at G7 P7 ⊢
    have hG_c7 := xw_GF hG_c6 G7 (by decide +kernel)
    refine xw_aload_n (pc := 105) C0 1 dX2_copyFrom_105 rfl rfl ?_
    refine xw_getR (pc := 106) (f := 7) C0 12 kcX2 dX2_copyFrom_106 (by decide +kernel) tv_81 (xj_4 hKL) xk_28 rfl (((G7 4 7 rfl).trans ((G6 4 7 rfl).trans ((G5 4 7 rfl).trans ((G4 4 7 rfl).trans ((G3 4 7 rfl).trans ((G2 4 7 rfl).trans ((G1 4 7 rfl).trans rfl))))))).trans (xe_4_7 hG)) ?_
    refine xw_iconst (pc := 109) C0 dX2_copyFrom_109 ?_
    refine xw_aload_n (pc := 110) C0 0 dX2_copyFrom_110 rfl rfl ?_
    refine xw_getR (pc := 111) (f := 7) C0 155 kcX2 dX2_copyFrom_111 (by decide +kernel) tv_81 (xj_147 hKL) xk_28 rfl (((G7 147 7 rfl).trans ((G6 147 7 rfl).trans ((G5 147 7 rfl).trans ((G4 147 7 rfl).trans ((G3 147 7 rfl).trans ((G2 147 7 rfl).trans ((G1 147 7 rfl).trans rfl))))))).trans (xe_147_7 hG)) ?_
    refine xw_iconst (pc := 114) C0 dX2_copyFrom_114 ?_
    refine xw_bipush (pc := 115) C0 dX2_copyFrom_115 (by decide +kernel) ?_
    refine xw_acL (pc := 117) (μ := c7) (n := 8) C0 dX2_copyFrom_117 tv_627 tv_629 tv_628 tv_14 (by decide +kernel) (by decide +kernel) (Nat.le_of_ble_eq_true rfl) (xj_12 hKL) (xj_155 hKL) xk_36 xk_36 (by decide +kernel) (fun _ _ _ h9 => h9) ?_
    have G8 : xw_F [(155, 0, 7)] c7 (fun j i => if j = 155 ∧ i < 8 then c7 12 i else c7 j i) := fun j i h9 => if_neg (fun q => by obtain ⟨q1, q2⟩ := q; subst q1; exact xw_o_in h9 List.mem_cons_self ⟨Nat.zero_le _, by omega⟩)
    have P8 : ∀ i : Nat, i < 8 → (fun j i => if j = 155 ∧ i < 8 then c7 12 i else c7 j i) 155 i = c7 12 i := fun i hi => if_pos ⟨rfl, hi⟩
    generalize (fun j i => if j = 155 ∧ i < 8 then c7 12 i else c7 j i) = c8 at G8 P8 ⊢
    have hG_c8 := xw_GF hG_c7 G8 (by decide +kernel)
    refine xw_aload_n (pc := 120) C0 1 dX2_copyFrom_120 rfl rfl ?_
    refine xw_getR (pc := 121) (f := 8) C0 13 kcX2 dX2_copyFrom_121 (by decide +kernel) tv_83 (xj_4 hKL) xk_28 rfl (((G8 4 8 rfl).trans ((G7 4 8 rfl).trans ((G6 4 8 rfl).trans ((G5 4 8 rfl).trans ((G4 4 8 rfl).trans ((G3 4 8 rfl).trans ((G2 4 8 rfl).trans ((G1 4 8 rfl).trans rfl)))))))).trans (xe_4_8 hG)) ?_
    refine xw_iconst (pc := 124) C0 dX2_copyFrom_124 ?_
    refine xw_aload_n (pc := 125) C0 0 dX2_copyFrom_125 rfl rfl ?_
    refine xw_getR (pc := 126) (f := 8) C0 156 kcX2 dX2_copyFrom_126 (by decide +kernel) tv_83 (xj_147 hKL) xk_28 rfl (((G8 147 8 rfl).trans ((G7 147 8 rfl).trans ((G6 147 8 rfl).trans ((G5 147 8 rfl).trans ((G4 147 8 rfl).trans ((G3 147 8 rfl).trans ((G2 147 8 rfl).trans ((G1 147 8 rfl).trans rfl)))))))).trans (xe_147_8 hG)) ?_
    refine xw_iconst (pc := 129) C0 dX2_copyFrom_129 ?_
    refine xw_bipush (pc := 130) C0 dX2_copyFrom_130 (by decide +kernel) ?_
    refine xw_acI (pc := 132) (μ := c8) (n := 8) C0 dX2_copyFrom_132 tv_627 tv_629 tv_628 tv_14 (by decide +kernel) (by decide +kernel) (Nat.le_of_ble_eq_true rfl) (xj_13 hKL) (xj_156 hKL) xk_37 xk_37 (by decide +kernel) (fun _ _ _ h9 => h9) ?_
    have G10 : xw_F [(156, 0, 7)] c8 (fun j i => if j = 156 ∧ i < 8 then c8 13 i else c8 j i) := fun j i h9 => if_neg (fun q => by obtain ⟨q1, q2⟩ := q; subst q1; exact xw_o_in h9 List.mem_cons_self ⟨Nat.zero_le _, by omega⟩)
    have P10 : ∀ i : Nat, i < 8 → (fun j i => if j = 156 ∧ i < 8 then c8 13 i else c8 j i) 156 i = c8 13 i := fun i hi => if_pos ⟨rfl, hi⟩
    generalize (fun j i => if j = 156 ∧ i < 8 then c8 13 i else c8 j i) = c10 at G10 P10 ⊢
    have hG_c10 := xw_GF hG_c8 G10 (by decide +kernel)
    refine xw_aload_n (pc := 135) C0 1 dX2_copyFrom_135 rfl rfl ?_
    refine xw_getR (pc := 136) (f := 9) C0 14 kcX2 dX2_copyFrom_136 (by decide +kernel) tv_86 (xj_4 hKL) xk_28 rfl (((G10 4 9 rfl).trans ((G8 4 9 rfl).trans ((G7 4 9 rfl).trans ((G6 4 9 rfl).trans ((G5 4 9 rfl).trans ((G4 4 9 rfl).trans ((G3 4 9 rfl).trans ((G2 4 9 rfl).trans ((G1 4 9 rfl).trans rfl))))))))).trans (xe_4_9 hG)) ?_
    refine xw_iconst (pc := 139) C0 dX2_copyFrom_139 ?_
    refine xw_aload_n (pc := 140) C0 0 dX2_copyFrom_140 rfl rfl ?_
    refine xw_getR (pc := 141) (f := 9) C0 157 kcX2 dX2_copyFrom_141 (by decide +kernel) tv_86 (xj_147 hKL) xk_28 rfl (((G10 147 9 rfl).trans ((G8 147 9 rfl).trans ((G7 147 9 rfl).trans ((G6 147 9 rfl).trans ((G5 147 9 rfl).trans ((G4 147 9 rfl).trans ((G3 147 9 rfl).trans ((G2 147 9 rfl).trans ((G1 147 9 rfl).trans rfl))))))))).trans (xe_147_9 hG)) ?_
    refine xw_iconst (pc := 144) C0 dX2_copyFrom_144 ?_
    refine xw_bipush (pc := 145) C0 dX2_copyFrom_145 (by decide +kernel) ?_
    refine xw_acI (pc := 147) (μ := c10) (n := 8) C0 dX2_copyFrom_147 tv_627 tv_629 tv_628 tv_14 (by decide +kernel) (by decide +kernel) (Nat.le_of_ble_eq_true rfl) (xj_14 hKL) (xj_157 hKL) xk_38 xk_38 (by decide +kernel) (fun _ _ _ h9 => h9) ?_
    have G11 : xw_F [(157, 0, 7)] c10 (fun j i => if j = 157 ∧ i < 8 then c10 14 i else c10 j i) := fun j i h9 => if_neg (fun q => by obtain ⟨q1, q2⟩ := q; subst q1; exact xw_o_in h9 List.mem_cons_self ⟨Nat.zero_le _, by omega⟩)
    have P11 : ∀ i : Nat, i < 8 → (fun j i => if j = 157 ∧ i < 8 then c10 14 i else c10 j i) 157 i = c10 14 i := fun i hi => if_pos ⟨rfl, hi⟩
    generalize (fun j i => if j = 157 ∧ i < 8 then c10 14 i else c10 j i) = c11 at G11 P11 ⊢
    have hG_c11 := xw_GF hG_c10 G11 (by decide +kernel)
    refine xw_aload_n (pc := 150) C0 1 dX2_copyFrom_150 rfl rfl ?_
    refine xw_getR (pc := 151) (f := 10) C0 15 kcX2 dX2_copyFrom_151 (by decide +kernel) tv_89 (xj_4 hKL) xk_28 rfl (((G11 4 10 rfl).trans ((G10 4 10 rfl).trans ((G8 4 10 rfl).trans ((G7 4 10 rfl).trans ((G6 4 10 rfl).trans ((G5 4 10 rfl).trans ((G4 4 10 rfl).trans ((G3 4 10 rfl).trans ((G2 4 10 rfl).trans ((G1 4 10 rfl).trans rfl)))))))))).trans (xe_4_10 hG)) ?_
    refine xw_iconst (pc := 154) C0 dX2_copyFrom_154 ?_
    refine xw_aload_n (pc := 155) C0 0 dX2_copyFrom_155 rfl rfl ?_
    refine xw_getR (pc := 156) (f := 10) C0 158 kcX2 dX2_copyFrom_156 (by decide +kernel) tv_89 (xj_147 hKL) xk_28 rfl (((G11 147 10 rfl).trans ((G10 147 10 rfl).trans ((G8 147 10 rfl).trans ((G7 147 10 rfl).trans ((G6 147 10 rfl).trans ((G5 147 10 rfl).trans ((G4 147 10 rfl).trans ((G3 147 10 rfl).trans ((G2 147 10 rfl).trans ((G1 147 10 rfl).trans rfl)))))))))).trans (xe_147_10 hG)) ?_
    refine xw_iconst (pc := 159) C0 dX2_copyFrom_159 ?_
    refine xw_bipush (pc := 160) C0 dX2_copyFrom_160 (by decide +kernel) ?_
    refine xw_acI (pc := 162) (μ := c11) (n := 8) C0 dX2_copyFrom_162 tv_627 tv_629 tv_628 tv_14 (by decide +kernel) (by decide +kernel) (Nat.le_of_ble_eq_true rfl) (xj_15 hKL) (xj_158 hKL) xk_39 xk_39 (by decide +kernel) (fun _ _ _ h9 => h9) ?_
    have G12 : xw_F [(158, 0, 7)] c11 (fun j i => if j = 158 ∧ i < 8 then c11 15 i else c11 j i) := fun j i h9 => if_neg (fun q => by obtain ⟨q1, q2⟩ := q; subst q1; exact xw_o_in h9 List.mem_cons_self ⟨Nat.zero_le _, by omega⟩)
    have P12 : ∀ i : Nat, i < 8 → (fun j i => if j = 158 ∧ i < 8 then c11 15 i else c11 j i) 158 i = c11 15 i := fun i hi => if_pos ⟨rfl, hi⟩
    generalize (fun j i => if j = 158 ∧ i < 8 then c11 15 i else c11 j i) = c12 at G12 P12 ⊢
    have hG_c12 := xw_GF hG_c11 G12 (by decide +kernel)
    refine xw_aload_n (pc := 165) C0 1 dX2_copyFrom_165 rfl rfl ?_
    refine xw_getR (pc := 166) (f := 11) C0 16 kcX2 dX2_copyFrom_166 (by decide +kernel) tv_92 (xj_4 hKL) xk_28 rfl (((G12 4 11 rfl).trans ((G11 4 11 rfl).trans ((G10 4 11 rfl).trans ((G8 4 11 rfl).trans ((G7 4 11 rfl).trans ((G6 4 11 rfl).trans ((G5 4 11 rfl).trans ((G4 4 11 rfl).trans ((G3 4 11 rfl).trans ((G2 4 11 rfl).trans ((G1 4 11 rfl).trans rfl))))))))))).trans (xe_4_11 hG)) ?_
    refine xw_iconst (pc := 169) C0 dX2_copyFrom_169 ?_
    refine xw_aload_n (pc := 170) C0 0 dX2_copyFrom_170 rfl rfl ?_
    refine xw_getR (pc := 171) (f := 11) C0 159 kcX2 dX2_copyFrom_171 (by decide +kernel) tv_92 (xj_147 hKL) xk_28 rfl (((G12 147 11 rfl).trans ((G11 147 11 rfl).trans ((G10 147 11 rfl).trans ((G8 147 11 rfl).trans ((G7 147 11 rfl).trans ((G6 147 11 rfl).trans ((G5 147 11 rfl).trans ((G4 147 11 rfl).trans ((G3 147 11 rfl).trans ((G2 147 11 rfl).trans ((G1 147 11 rfl).trans rfl))))))))))).trans (xe_147_11 hG)) ?_
    refine xw_iconst (pc := 174) C0 dX2_copyFrom_174 ?_
    refine xw_bipush (pc := 175) C0 dX2_copyFrom_175 (by decide +kernel) ?_
    refine xw_acI (pc := 177) (μ := c12) (n := 8) C0 dX2_copyFrom_177 tv_627 tv_629 tv_628 tv_14 (by decide +kernel) (by decide +kernel) (Nat.le_of_ble_eq_true rfl) (xj_16 hKL) (xj_159 hKL) xk_40 xk_40 (by decide +kernel) (fun _ _ _ h9 => h9) ?_
    have G13 : xw_F [(159, 0, 7)] c12 (fun j i => if j = 159 ∧ i < 8 then c12 16 i else c12 j i) := fun j i h9 => if_neg (fun q => by obtain ⟨q1, q2⟩ := q; subst q1; exact xw_o_in h9 List.mem_cons_self ⟨Nat.zero_le _, by omega⟩)
    have P13 : ∀ i : Nat, i < 8 → (fun j i => if j = 159 ∧ i < 8 then c12 16 i else c12 j i) 159 i = c12 16 i := fun i hi => if_pos ⟨rfl, hi⟩
    generalize (fun j i => if j = 159 ∧ i < 8 then c12 16 i else c12 j i) = c13 at G13 P13 ⊢
    have hG_c13 := xw_GF hG_c12 G13 (by decide +kernel)
    refine xw_aload_n (pc := 180) C0 1 dX2_copyFrom_180 rfl rfl ?_
    refine xw_getR (pc := 181) (f := 12) C0 17 kcX2 dX2_copyFrom_181 (by decide +kernel) tv_95 (xj_4 hKL) xk_28 rfl (((G13 4 12 rfl).trans ((G12 4 12 rfl).trans ((G11 4 12 rfl).trans ((G10 4 12 rfl).trans ((G8 4 12 rfl).trans ((G7 4 12 rfl).trans ((G6 4 12 rfl).trans ((G5 4 12 rfl).trans ((G4 4 12 rfl).trans ((G3 4 12 rfl).trans ((G2 4 12 rfl).trans ((G1 4 12 rfl).trans rfl)))))))))))).trans (xe_4_12 hG)) ?_
    refine xw_iconst (pc := 184) C0 dX2_copyFrom_184 ?_
    refine xw_aload_n (pc := 185) C0 0 dX2_copyFrom_185 rfl rfl ?_
    refine xw_getR (pc := 186) (f := 12) C0 160 kcX2 dX2_copyFrom_186 (by decide +kernel) tv_95 (xj_147 hKL) xk_28 rfl (((G13 147 12 rfl).trans ((G12 147 12 rfl).trans ((G11 147 12 rfl).trans ((G10 147 12 rfl).trans ((G8 147 12 rfl).trans ((G7 147 12 rfl).trans ((G6 147 12 rfl).trans ((G5 147 12 rfl).trans ((G4 147 12 rfl).trans ((G3 147 12 rfl).trans ((G2 147 12 rfl).trans ((G1 147 12 rfl).trans rfl)))))))))))).trans (xe_147_12 hG)) ?_
    refine xw_iconst (pc := 189) C0 dX2_copyFrom_189 ?_
    refine xw_bipush (pc := 190) C0 dX2_copyFrom_190 (by decide +kernel) ?_
    refine xw_acI (pc := 192) (μ := c13) (n := 24) C0 dX2_copyFrom_192 tv_627 tv_629 tv_628 tv_14 (by decide +kernel) (by decide +kernel) (Nat.le_of_ble_eq_true rfl) (xj_17 hKL) (xj_160 hKL) xk_41 xk_41 (by decide +kernel) (fun _ _ _ h9 => h9) ?_
    have G14 : xw_F [(160, 0, 23)] c13 (fun j i => if j = 160 ∧ i < 24 then c13 17 i else c13 j i) := fun j i h9 => if_neg (fun q => by obtain ⟨q1, q2⟩ := q; subst q1; exact xw_o_in h9 List.mem_cons_self ⟨Nat.zero_le _, by omega⟩)
    have P14 : ∀ i : Nat, i < 24 → (fun j i => if j = 160 ∧ i < 24 then c13 17 i else c13 j i) 160 i = c13 17 i := fun i hi => if_pos ⟨rfl, hi⟩
    generalize (fun j i => if j = 160 ∧ i < 24 then c13 17 i else c13 j i) = c14 at G14 P14 ⊢
    have hG_c14 := xw_GF hG_c13 G14 (by decide +kernel)
    refine xw_aload_n (pc := 195) C0 0 dX2_copyFrom_195 rfl rfl ?_
    refine xw_aload_n (pc := 196) C0 1 dX2_copyFrom_196 rfl rfl ?_
    refine xw_getI (pc := 197) (f := 13) (z := μ 4 13) C0 kcX2 dX2_copyFrom_197 (by decide +kernel) tv_96 (xj_4 hKL) xk_28 rfl ((G14 4 13 rfl).trans ((G13 4 13 rfl).trans ((G12 4 13 rfl).trans ((G11 4 13 rfl).trans ((G10 4 13 rfl).trans ((G8 4 13 rfl).trans ((G7 4 13 rfl).trans ((G6 4 13 rfl).trans ((G5 4 13 rfl).trans ((G4 4 13 rfl).trans ((G3 4 13 rfl).trans ((G2 4 13 rfl).trans ((G1 4 13 rfl).trans rfl))))))))))))) (fun g15 k15 => ?_)
    refine xw_putI (pc := 200) (f := 13) C0 kcX2 dX2_copyFrom_200 (by decide +kernel) tv_96 rfl rfl (xj_147 hKL) xk_28 rfl (by omega) (by omega) ?_
    refine xw_aload_n (pc := 203) C0 0 dX2_copyFrom_203 rfl rfl ?_
    refine xw_aload_n (pc := 204) C0 1 dX2_copyFrom_204 rfl rfl ?_
    refine xw_getI (pc := 205) (f := 14) (z := μ 4 14) C0 kcX2 dX2_copyFrom_205 (by decide +kernel) tv_101 (xj_4 hKL) xk_28 rfl ((xw_un (fun q => absurd q.1 (by decide +kernel))).trans ((G14 4 14 rfl).trans ((G13 4 14 rfl).trans ((G12 4 14 rfl).trans ((G11 4 14 rfl).trans ((G10 4 14 rfl).trans ((G8 4 14 rfl).trans ((G7 4 14 rfl).trans ((G6 4 14 rfl).trans ((G5 4 14 rfl).trans ((G4 4 14 rfl).trans ((G3 4 14 rfl).trans ((G2 4 14 rfl).trans ((G1 4 14 rfl).trans rfl)))))))))))))) (fun g16 k16 => ?_)
    refine xw_putI (pc := 208) (f := 14) C0 kcX2 dX2_copyFrom_208 (by decide +kernel) tv_101 rfl rfl (xj_147 hKL) xk_28 rfl (by omega) (by omega) ?_
    refine xw_aload_n (pc := 211) C0 0 dX2_copyFrom_211 rfl rfl ?_
    refine xw_aload_n (pc := 212) C0 1 dX2_copyFrom_212 rfl rfl ?_
    refine xw_getI (pc := 213) (f := 15) (z := μ 4 15) C0 kcX2 dX2_copyFrom_213 (by decide +kernel) tv_105 (xj_4 hKL) xk_28 rfl ((xw_un (fun q => absurd q.1 (by decide +kernel))).trans ((xw_un (fun q => absurd q.1 (by decide +kernel))).trans ((G14 4 15 rfl).trans ((G13 4 15 rfl).trans ((G12 4 15 rfl).trans ((G11 4 15 rfl).trans ((G10 4 15 rfl).trans ((G8 4 15 rfl).trans ((G7 4 15 rfl).trans ((G6 4 15 rfl).trans ((G5 4 15 rfl).trans ((G4 4 15 rfl).trans ((G3 4 15 rfl).trans ((G2 4 15 rfl).trans ((G1 4 15 rfl).trans rfl))))))))))))))) (fun g17 k17 => ?_)
    refine xw_putI (pc := 216) (f := 15) C0 kcX2 dX2_copyFrom_216 (by decide +kernel) tv_105 rfl rfl (xj_147 hKL) xk_28 rfl (by omega) (by omega) ?_
    refine xw_vret C0 hA hr hlk dX2_copyFrom_219 ?_
    have Ft1 : xw_F [(147, 13, 13), (147, 14, 14), (147, 15, 15)] c14 (xw_u (xw_u (xw_u c14 147 13 (μ 4 13)) 147 14 (μ 4 14)) 147 15 (μ 4 15)) := ((((xw_F.rf (ML := [(147, 13, 13), (147, 14, 14), (147, 15, 15)])).u (show (147, 13, 13) ∈ _ by decide) ⟨by decide, by decide⟩).u (show (147, 14, 14) ∈ _ by decide) ⟨by decide, by decide⟩).u (show (147, 15, 15) ∈ _ by decide) ⟨by decide, by decide⟩)
    have vt1_147_15 : (xw_u (xw_u (xw_u c14 147 13 (μ 4 13)) 147 14 (μ 4 14)) 147 15 (μ 4 15)) 147 15 = μ 4 15 := xw_ug
    have vt1_147_14 : (xw_u (xw_u (xw_u c14 147 13 (μ 4 13)) 147 14 (μ 4 14)) 147 15 (μ 4 15)) 147 14 = μ 4 14 := (xw_un (by decide +kernel)).trans xw_ug
    have vt1_147_13 : (xw_u (xw_u (xw_u c14 147 13 (μ 4 13)) 147 14 (μ 4 14)) 147 15 (μ 4 15)) 147 13 = μ 4 13 := (xw_un (by decide +kernel)).trans ((xw_un (by decide +kernel)).trans xw_ug)
    generalize (xw_u (xw_u (xw_u c14 147 13 (μ 4 13)) 147 14 (μ 4 14)) 147 15 (μ 4 15)) = t1 at Ft1 vt1_147_15 vt1_147_14 vt1_147_13 ⊢
    have e13 : t1 147 13 = μ 4 13 := vt1_147_13
    have e14 : t1 147 14 = μ 4 14 := vt1_147_14
    have e15 : t1 147 15 = μ 4 15 := vt1_147_15
    have a0 : ∀ i : Nat, i < 6 → t1 148 i = μ 5 i := fun i hi => (Ft1 148 i (xw_oj (by decide +kernel) i)).trans ((G14 148 i (xw_oj (by decide +kernel) i)).trans ((G13 148 i (xw_oj (by decide +kernel) i)).trans ((G12 148 i (xw_oj (by decide +kernel) i)).trans ((G11 148 i (xw_oj (by decide +kernel) i)).trans ((G10 148 i (xw_oj (by decide +kernel) i)).trans ((G8 148 i (xw_oj (by decide +kernel) i)).trans ((G7 148 i (xw_oj (by decide +kernel) i)).trans ((G6 148 i (xw_oj (by decide +kernel) i)).trans ((G5 148 i (xw_oj (by decide +kernel) i)).trans ((G4 148 i (xw_oj (by decide +kernel) i)).trans ((G3 148 i (xw_oj (by decide +kernel) i)).trans ((G2 148 i (xw_oj (by decide +kernel) i)).trans (P1 i hi)))))))))))))
    have a1 : ∀ i : Nat, i < 6 → t1 149 i = μ 6 i := fun i hi => (Ft1 149 i (xw_oj (by decide +kernel) i)).trans ((G14 149 i (xw_oj (by decide +kernel) i)).trans ((G13 149 i (xw_oj (by decide +kernel) i)).trans ((G12 149 i (xw_oj (by decide +kernel) i)).trans ((G11 149 i (xw_oj (by decide +kernel) i)).trans ((G10 149 i (xw_oj (by decide +kernel) i)).trans ((G8 149 i (xw_oj (by decide +kernel) i)).trans ((G7 149 i (xw_oj (by decide +kernel) i)).trans ((G6 149 i (xw_oj (by decide +kernel) i)).trans ((G5 149 i (xw_oj (by decide +kernel) i)).trans ((G4 149 i (xw_oj (by decide +kernel) i)).trans ((G3 149 i (xw_oj (by decide +kernel) i)).trans ((P2 i hi).trans (G1 6 i (xw_oj (by decide +kernel) i))))))))))))))
    have a2 : ∀ i : Nat, i < 6 → t1 150 i = μ 7 i := fun i hi => (Ft1 150 i (xw_oj (by decide +kernel) i)).trans ((G14 150 i (xw_oj (by decide +kernel) i)).trans ((G13 150 i (xw_oj (by decide +kernel) i)).trans ((G12 150 i (xw_oj (by decide +kernel) i)).trans ((G11 150 i (xw_oj (by decide +kernel) i)).trans ((G10 150 i (xw_oj (by decide +kernel) i)).trans ((G8 150 i (xw_oj (by decide +kernel) i)).trans ((G7 150 i (xw_oj (by decide +kernel) i)).trans ((G6 150 i (xw_oj (by decide +kernel) i)).trans ((G5 150 i (xw_oj (by decide +kernel) i)).trans ((G4 150 i (xw_oj (by decide +kernel) i)).trans ((P3 i hi).trans ((G2 7 i (xw_oj (by decide +kernel) i)).trans (G1 7 i (xw_oj (by decide +kernel) i))))))))))))))
    have a3 : ∀ i : Nat, i < 6 → t1 151 i = μ 8 i := fun i hi => (Ft1 151 i (xw_oj (by decide +kernel) i)).trans ((G14 151 i (xw_oj (by decide +kernel) i)).trans ((G13 151 i (xw_oj (by decide +kernel) i)).trans ((G12 151 i (xw_oj (by decide +kernel) i)).trans ((G11 151 i (xw_oj (by decide +kernel) i)).trans ((G10 151 i (xw_oj (by decide +kernel) i)).trans ((G8 151 i (xw_oj (by decide +kernel) i)).trans ((G7 151 i (xw_oj (by decide +kernel) i)).trans ((G6 151 i (xw_oj (by decide +kernel) i)).trans ((G5 151 i (xw_oj (by decide +kernel) i)).trans ((P4 i hi).trans ((G3 8 i (xw_oj (by decide +kernel) i)).trans ((G2 8 i (xw_oj (by decide +kernel) i)).trans (G1 8 i (xw_oj (by decide +kernel) i))))))))))))))
    have a4 : ∀ i : Nat, i < 6 → t1 152 i = μ 9 i := fun i hi => (Ft1 152 i (xw_oj (by decide +kernel) i)).trans ((G14 152 i (xw_oj (by decide +kernel) i)).trans ((G13 152 i (xw_oj (by decide +kernel) i)).trans ((G12 152 i (xw_oj (by decide +kernel) i)).trans ((G11 152 i (xw_oj (by decide +kernel) i)).trans ((G10 152 i (xw_oj (by decide +kernel) i)).trans ((G8 152 i (xw_oj (by decide +kernel) i)).trans ((G7 152 i (xw_oj (by decide +kernel) i)).trans ((G6 152 i (xw_oj (by decide +kernel) i)).trans ((P5 i hi).trans ((G4 9 i (xw_oj (by decide +kernel) i)).trans ((G3 9 i (xw_oj (by decide +kernel) i)).trans ((G2 9 i (xw_oj (by decide +kernel) i)).trans (G1 9 i (xw_oj (by decide +kernel) i))))))))))))))
    have a5 : ∀ i : Nat, i < 6 → t1 153 i = μ 10 i := fun i hi => (Ft1 153 i (xw_oj (by decide +kernel) i)).trans ((G14 153 i (xw_oj (by decide +kernel) i)).trans ((G13 153 i (xw_oj (by decide +kernel) i)).trans ((G12 153 i (xw_oj (by decide +kernel) i)).trans ((G11 153 i (xw_oj (by decide +kernel) i)).trans ((G10 153 i (xw_oj (by decide +kernel) i)).trans ((G8 153 i (xw_oj (by decide +kernel) i)).trans ((G7 153 i (xw_oj (by decide +kernel) i)).trans ((P6 i hi).trans ((G5 10 i (xw_oj (by decide +kernel) i)).trans ((G4 10 i (xw_oj (by decide +kernel) i)).trans ((G3 10 i (xw_oj (by decide +kernel) i)).trans ((G2 10 i (xw_oj (by decide +kernel) i)).trans (G1 10 i (xw_oj (by decide +kernel) i))))))))))))))
    have a6 : ∀ i : Nat, i < 6 → t1 154 i = μ 11 i := fun i hi => (Ft1 154 i (xw_oj (by decide +kernel) i)).trans ((G14 154 i (xw_oj (by decide +kernel) i)).trans ((G13 154 i (xw_oj (by decide +kernel) i)).trans ((G12 154 i (xw_oj (by decide +kernel) i)).trans ((G11 154 i (xw_oj (by decide +kernel) i)).trans ((G10 154 i (xw_oj (by decide +kernel) i)).trans ((G8 154 i (xw_oj (by decide +kernel) i)).trans ((P7 i hi).trans ((G6 11 i (xw_oj (by decide +kernel) i)).trans ((G5 11 i (xw_oj (by decide +kernel) i)).trans ((G4 11 i (xw_oj (by decide +kernel) i)).trans ((G3 11 i (xw_oj (by decide +kernel) i)).trans ((G2 11 i (xw_oj (by decide +kernel) i)).trans (G1 11 i (xw_oj (by decide +kernel) i))))))))))))))
    have a7 : ∀ i : Nat, i < 8 → t1 155 i = μ 12 i := fun i hi => (Ft1 155 i (xw_oj (by decide +kernel) i)).trans ((G14 155 i (xw_oj (by decide +kernel) i)).trans ((G13 155 i (xw_oj (by decide +kernel) i)).trans ((G12 155 i (xw_oj (by decide +kernel) i)).trans ((G11 155 i (xw_oj (by decide +kernel) i)).trans ((G10 155 i (xw_oj (by decide +kernel) i)).trans ((P8 i hi).trans ((G7 12 i (xw_oj (by decide +kernel) i)).trans ((G6 12 i (xw_oj (by decide +kernel) i)).trans ((G5 12 i (xw_oj (by decide +kernel) i)).trans ((G4 12 i (xw_oj (by decide +kernel) i)).trans ((G3 12 i (xw_oj (by decide +kernel) i)).trans ((G2 12 i (xw_oj (by decide +kernel) i)).trans (G1 12 i (xw_oj (by decide +kernel) i))))))))))))))
    have a8 : ∀ i : Nat, i < 8 → t1 156 i = μ 13 i := fun i hi => (Ft1 156 i (xw_oj (by decide +kernel) i)).trans ((G14 156 i (xw_oj (by decide +kernel) i)).trans ((G13 156 i (xw_oj (by decide +kernel) i)).trans ((G12 156 i (xw_oj (by decide +kernel) i)).trans ((G11 156 i (xw_oj (by decide +kernel) i)).trans ((P10 i hi).trans ((G8 13 i (xw_oj (by decide +kernel) i)).trans ((G7 13 i (xw_oj (by decide +kernel) i)).trans ((G6 13 i (xw_oj (by decide +kernel) i)).trans ((G5 13 i (xw_oj (by decide +kernel) i)).trans ((G4 13 i (xw_oj (by decide +kernel) i)).trans ((G3 13 i (xw_oj (by decide +kernel) i)).trans ((G2 13 i (xw_oj (by decide +kernel) i)).trans (G1 13 i (xw_oj (by decide +kernel) i))))))))))))))
    have a9 : ∀ i : Nat, i < 8 → t1 157 i = μ 14 i := fun i hi => (Ft1 157 i (xw_oj (by decide +kernel) i)).trans ((G14 157 i (xw_oj (by decide +kernel) i)).trans ((G13 157 i (xw_oj (by decide +kernel) i)).trans ((G12 157 i (xw_oj (by decide +kernel) i)).trans ((P11 i hi).trans ((G10 14 i (xw_oj (by decide +kernel) i)).trans ((G8 14 i (xw_oj (by decide +kernel) i)).trans ((G7 14 i (xw_oj (by decide +kernel) i)).trans ((G6 14 i (xw_oj (by decide +kernel) i)).trans ((G5 14 i (xw_oj (by decide +kernel) i)).trans ((G4 14 i (xw_oj (by decide +kernel) i)).trans ((G3 14 i (xw_oj (by decide +kernel) i)).trans ((G2 14 i (xw_oj (by decide +kernel) i)).trans (G1 14 i (xw_oj (by decide +kernel) i))))))))))))))
    have a10 : ∀ i : Nat, i < 8 → t1 158 i = μ 15 i := fun i hi => (Ft1 158 i (xw_oj (by decide +kernel) i)).trans ((G14 158 i (xw_oj (by decide +kernel) i)).trans ((G13 158 i (xw_oj (by decide +kernel) i)).trans ((P12 i hi).trans ((G11 15 i (xw_oj (by decide +kernel) i)).trans ((G10 15 i (xw_oj (by decide +kernel) i)).trans ((G8 15 i (xw_oj (by decide +kernel) i)).trans ((G7 15 i (xw_oj (by decide +kernel) i)).trans ((G6 15 i (xw_oj (by decide +kernel) i)).trans ((G5 15 i (xw_oj (by decide +kernel) i)).trans ((G4 15 i (xw_oj (by decide +kernel) i)).trans ((G3 15 i (xw_oj (by decide +kernel) i)).trans ((G2 15 i (xw_oj (by decide +kernel) i)).trans (G1 15 i (xw_oj (by decide +kernel) i))))))))))))))
    have a11 : ∀ i : Nat, i < 8 → t1 159 i = μ 16 i := fun i hi => (Ft1 159 i (xw_oj (by decide +kernel) i)).trans ((G14 159 i (xw_oj (by decide +kernel) i)).trans ((P13 i hi).trans ((G12 16 i (xw_oj (by decide +kernel) i)).trans ((G11 16 i (xw_oj (by decide +kernel) i)).trans ((G10 16 i (xw_oj (by decide +kernel) i)).trans ((G8 16 i (xw_oj (by decide +kernel) i)).trans ((G7 16 i (xw_oj (by decide +kernel) i)).trans ((G6 16 i (xw_oj (by decide +kernel) i)).trans ((G5 16 i (xw_oj (by decide +kernel) i)).trans ((G4 16 i (xw_oj (by decide +kernel) i)).trans ((G3 16 i (xw_oj (by decide +kernel) i)).trans ((G2 16 i (xw_oj (by decide +kernel) i)).trans (G1 16 i (xw_oj (by decide +kernel) i))))))))))))))
    have a12 : ∀ i : Nat, i < 24 → t1 160 i = μ 17 i := fun i hi => (Ft1 160 i (xw_oj (by decide +kernel) i)).trans ((P14 i hi).trans ((G13 17 i (xw_oj (by decide +kernel) i)).trans ((G12 17 i (xw_oj (by decide +kernel) i)).trans ((G11 17 i (xw_oj (by decide +kernel) i)).trans ((G10 17 i (xw_oj (by decide +kernel) i)).trans ((G8 17 i (xw_oj (by decide +kernel) i)).trans ((G7 17 i (xw_oj (by decide +kernel) i)).trans ((G6 17 i (xw_oj (by decide +kernel) i)).trans ((G5 17 i (xw_oj (by decide +kernel) i)).trans ((G4 17 i (xw_oj (by decide +kernel) i)).trans ((G3 17 i (xw_oj (by decide +kernel) i)).trans ((G2 17 i (xw_oj (by decide +kernel) i)).trans (G1 17 i (xw_oj (by decide +kernel) i))))))))))))))
    exact ⟨rfl, ⟨⟨e13, e14, e15⟩, fun i hi => ⟨a0 i hi, a1 i hi, a2 i hi, a3 i hi, a4 i hi, a5 i hi, a6 i hi⟩, fun i hi => ⟨a7 i hi, a8 i hi, a9 i hi, a10 i hi, a11 i hi⟩, a12⟩, (((((((((((((((xw_F.rf (ML := [(147, 13, 15), (148, 0, 5), (149, 0, 5), (150, 0, 5), (151, 0, 5), (152, 0, 5), (153, 0, 5), (154, 0, 5), (155, 0, 7), (156, 0, 7), (157, 0, 7), (158, 0, 7), (159, 0, 7), (160, 0, 23)])).tr G1 (fun j i h => xw_o_sub (by decide +kernel) j i h)).tr G2 (fun j i h => xw_o_sub (by decide +kernel) j i h)).tr G3 (fun j i h => xw_o_sub (by decide +kernel) j i h)).tr G4 (fun j i h => xw_o_sub (by decide +kernel) j i h)).tr G5 (fun j i h => xw_o_sub (by decide +kernel) j i h)).tr G6 (fun j i h => xw_o_sub (by decide +kernel) j i h)).tr G7 (fun j i h => xw_o_sub (by decide +kernel) j i h)).tr G8 (fun j i h => xw_o_sub (by decide +kernel) j i h)).tr G10 (fun j i h => xw_o_sub (by decide +kernel) j i h)).tr G11 (fun j i h => xw_o_sub (by decide +kernel) j i h)).tr G12 (fun j i h => xw_o_sub (by decide +kernel) j i h)).tr G13 (fun j i h => xw_o_sub (by decide +kernel) j i h)).tr G14 (fun j i h => xw_o_sub (by decide +kernel) j i h)).tr Ft1 (fun j i h => xw_o_sub (by decide +kernel) j i h))⟩)
