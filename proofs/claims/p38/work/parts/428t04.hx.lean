set_option maxRecDepth 20000 in
set_option maxHeartbeats 20000000 in
theorem xq_cpS_188_18 {l : Launch} {μ : xw_M} (hG : xw_G xw_GL μ) : xw_MetV l vwCl sa_Ts tb_KT0 tc_KL yX9_copyFrom cX9_copyFrom 2 none 2 120 (fun ad => [.ref (ad 188), .ref (ad 18)]) μ (fun μ' => xw_F [(188, 6, 11), (189, 0, 5), (190, 0, 5), (191, 0, 5), (192, 0, 7), (193, 0, 7), (194, 0, 7)] μ μ') :=
  xw_of (by decide +kernel) (fun _ => Nat.le_of_ble_eq_true rfl) (fun p e s m args below meth c D dA A al w0 sz C0 hU hO hKL hr hlk hA => by
    refine xw_aload_n (pc := 0) C0 1 dX9_copyFrom_0 rfl rfl ?_
    refine xw_getR (pc := 1) (f := 0) C0 19 kcX9 dX9_copyFrom_1 (by decide +kernel) tv_149 (xj_18 hKL) xk_42 rfl ((rfl).trans (xe_18_0 hG)) ?_
    refine xw_iconst (pc := 4) C0 dX9_copyFrom_4 ?_
    refine xw_aload_n (pc := 5) C0 0 dX9_copyFrom_5 rfl rfl ?_
    refine xw_getR (pc := 6) (f := 0) C0 189 kcX9 dX9_copyFrom_6 (by decide +kernel) tv_149 (xj_188 hKL) xk_42 rfl ((rfl).trans (xe_188_0 hG)) ?_
    refine xw_iconst (pc := 9) C0 dX9_copyFrom_9 ?_
    refine xw_bipush (pc := 10) C0 dX9_copyFrom_10 (by decide +kernel) ?_
    refine xw_acI (pc := 12) (μ := μ) (n := 6) C0 dX9_copyFrom_12 tv_684 tv_629 tv_628 tv_14 (by decide +kernel) (by decide +kernel) (Nat.le_of_ble_eq_true rfl) (xj_19 hKL) (xj_189 hKL) xk_43 xk_43 (by decide +kernel) (fun _ _ _ h9 => h9) ?_
    have G1 : xw_F [(189, 0, 5)] μ (fun j i => if j = 189 ∧ i < 6 then μ 19 i else μ j i) := fun j i h9 => if_neg (fun q => by obtain ⟨q1, q2⟩ := q; subst q1; exact xw_o_in h9 List.mem_cons_self ⟨Nat.zero_le _, by omega⟩)
    have P1 : ∀ i : Nat, i < 6 → (fun j i => if j = 189 ∧ i < 6 then μ 19 i else μ j i) 189 i = μ 19 i := fun i hi => if_pos ⟨rfl, hi⟩
    generalize (fun j i => if j = 189 ∧ i < 6 then μ 19 i else μ j i) = c1 at G1 P1 ⊢
    have hG_c1 := xw_GF hG G1 (by decide +kernel)
    refine xw_aload_n (pc := 15) C0 1 dX9_copyFrom_15 rfl rfl ?_
    refine xw_getR (pc := 16) (f := 1) C0 20 kcX9 dX9_copyFrom_16 (by decide +kernel) tv_151 (xj_18 hKL) xk_42 rfl (((G1 18 1 rfl).trans rfl).trans (xe_18_1 hG)) ?_
    refine xw_iconst (pc := 19) C0 dX9_copyFrom_19 ?_
    refine xw_aload_n (pc := 20) C0 0 dX9_copyFrom_20 rfl rfl ?_
    refine xw_getR (pc := 21) (f := 1) C0 190 kcX9 dX9_copyFrom_21 (by decide +kernel) tv_151 (xj_188 hKL) xk_42 rfl (((G1 188 1 rfl).trans rfl).trans (xe_188_1 hG)) ?_
    refine xw_iconst (pc := 24) C0 dX9_copyFrom_24 ?_
    refine xw_bipush (pc := 25) C0 dX9_copyFrom_25 (by decide +kernel) ?_
    refine xw_acI (pc := 27) (μ := c1) (n := 6) C0 dX9_copyFrom_27 tv_684 tv_629 tv_628 tv_14 (by decide +kernel) (by decide +kernel) (Nat.le_of_ble_eq_true rfl) (xj_20 hKL) (xj_190 hKL) xk_44 xk_44 (by decide +kernel) (fun _ _ _ h9 => h9) ?_
    have G2 : xw_F [(190, 0, 5)] c1 (fun j i => if j = 190 ∧ i < 6 then c1 20 i else c1 j i) := fun j i h9 => if_neg (fun q => by obtain ⟨q1, q2⟩ := q; subst q1; exact xw_o_in h9 List.mem_cons_self ⟨Nat.zero_le _, by omega⟩)
    have P2 : ∀ i : Nat, i < 6 → (fun j i => if j = 190 ∧ i < 6 then c1 20 i else c1 j i) 190 i = c1 20 i := fun i hi => if_pos ⟨rfl, hi⟩
    generalize (fun j i => if j = 190 ∧ i < 6 then c1 20 i else c1 j i) = c2 at G2 P2 ⊢
    have hG_c2 := xw_GF hG_c1 G2 (by decide +kernel)
    refine xw_aload_n (pc := 30) C0 1 dX9_copyFrom_30 rfl rfl ?_
    refine xw_getR (pc := 31) (f := 2) C0 21 kcX9 dX9_copyFrom_31 (by decide +kernel) tv_153 (xj_18 hKL) xk_42 rfl (((G2 18 2 rfl).trans ((G1 18 2 rfl).trans rfl)).trans (xe_18_2 hG)) ?_
    refine xw_iconst (pc := 34) C0 dX9_copyFrom_34 ?_
    refine xw_aload_n (pc := 35) C0 0 dX9_copyFrom_35 rfl rfl ?_
    refine xw_getR (pc := 36) (f := 2) C0 191 kcX9 dX9_copyFrom_36 (by decide +kernel) tv_153 (xj_188 hKL) xk_42 rfl (((G2 188 2 rfl).trans ((G1 188 2 rfl).trans rfl)).trans (xe_188_2 hG)) ?_
    refine xw_iconst (pc := 39) C0 dX9_copyFrom_39 ?_
    refine xw_bipush (pc := 40) C0 dX9_copyFrom_40 (by decide +kernel) ?_
    refine xw_acI (pc := 42) (μ := c2) (n := 6) C0 dX9_copyFrom_42 tv_684 tv_629 tv_628 tv_14 (by decide +kernel) (by decide +kernel) (Nat.le_of_ble_eq_true rfl) (xj_21 hKL) (xj_191 hKL) xk_45 xk_45 (by decide +kernel) (fun _ _ _ h9 => h9) ?_
    have G3 : xw_F [(191, 0, 5)] c2 (fun j i => if j = 191 ∧ i < 6 then c2 21 i else c2 j i) := fun j i h9 => if_neg (fun q => by obtain ⟨q1, q2⟩ := q; subst q1; exact xw_o_in h9 List.mem_cons_self ⟨Nat.zero_le _, by omega⟩)
    have P3 : ∀ i : Nat, i < 6 → (fun j i => if j = 191 ∧ i < 6 then c2 21 i else c2 j i) 191 i = c2 21 i := fun i hi => if_pos ⟨rfl, hi⟩
    generalize (fun j i => if j = 191 ∧ i < 6 then c2 21 i else c2 j i) = c3 at G3 P3 ⊢
    have hG_c3 := xw_GF hG_c2 G3 (by decide +kernel)
    refine xw_aload_n (pc := 45) C0 1 dX9_copyFrom_45 rfl rfl ?_
    refine xw_getR (pc := 46) (f := 3) C0 22 kcX9 dX9_copyFrom_46 (by decide +kernel) tv_156 (xj_18 hKL) xk_42 rfl (((G3 18 3 rfl).trans ((G2 18 3 rfl).trans ((G1 18 3 rfl).trans rfl))).trans (xe_18_3 hG)) ?_
    refine xw_iconst (pc := 49) C0 dX9_copyFrom_49 ?_
    refine xw_aload_n (pc := 50) C0 0 dX9_copyFrom_50 rfl rfl ?_
    refine xw_getR (pc := 51) (f := 3) C0 192 kcX9 dX9_copyFrom_51 (by decide +kernel) tv_156 (xj_188 hKL) xk_42 rfl (((G3 188 3 rfl).trans ((G2 188 3 rfl).trans ((G1 188 3 rfl).trans rfl))).trans (xe_188_3 hG)) ?_
    refine xw_iconst (pc := 54) C0 dX9_copyFrom_54 ?_
    refine xw_bipush (pc := 55) C0 dX9_copyFrom_55 (by decide +kernel) ?_
    refine xw_acI (pc := 57) (μ := c3) (n := 8) C0 dX9_copyFrom_57 tv_684 tv_629 tv_628 tv_14 (by decide +kernel) (by decide +kernel) (Nat.le_of_ble_eq_true rfl) (xj_22 hKL) (xj_192 hKL) xk_46 xk_46 (by decide +kernel) (fun _ _ _ h9 => h9) ?_
    have G4 : xw_F [(192, 0, 7)] c3 (fun j i => if j = 192 ∧ i < 8 then c3 22 i else c3 j i) := fun j i h9 => if_neg (fun q => by obtain ⟨q1, q2⟩ := q; subst q1; exact xw_o_in h9 List.mem_cons_self ⟨Nat.zero_le _, by omega⟩)
    have P4 : ∀ i : Nat, i < 8 → (fun j i => if j = 192 ∧ i < 8 then c3 22 i else c3 j i) 192 i = c3 22 i := fun i hi => if_pos ⟨rfl, hi⟩
    generalize (fun j i => if j = 192 ∧ i < 8 then c3 22 i else c3 j i) = c4 at G4 P4 ⊢
    have hG_c4 := xw_GF hG_c3 G4 (by decide +kernel)
    refine xw_aload_n (pc := 60) C0 1 dX9_copyFrom_60 rfl rfl ?_
    refine xw_getR (pc := 61) (f := 4) C0 23 kcX9 dX9_copyFrom_61 (by decide +kernel) tv_158 (xj_18 hKL) xk_42 rfl (((G4 18 4 rfl).trans ((G3 18 4 rfl).trans ((G2 18 4 rfl).trans ((G1 18 4 rfl).trans rfl)))).trans (xe_18_4 hG)) ?_
    refine xw_iconst (pc := 64) C0 dX9_copyFrom_64 ?_
    refine xw_aload_n (pc := 65) C0 0 dX9_copyFrom_65 rfl rfl ?_
    refine xw_getR (pc := 66) (f := 4) C0 193 kcX9 dX9_copyFrom_66 (by decide +kernel) tv_158 (xj_188 hKL) xk_42 rfl (((G4 188 4 rfl).trans ((G3 188 4 rfl).trans ((G2 188 4 rfl).trans ((G1 188 4 rfl).trans rfl)))).trans (xe_188_4 hG)) ?_
    refine xw_iconst (pc := 69) C0 dX9_copyFrom_69 ?_
    refine xw_bipush (pc := 70) C0 dX9_copyFrom_70 (by decide +kernel) ?_
    refine xw_acI (pc := 72) (μ := c4) (n := 8) C0 dX9_copyFrom_72 tv_684 tv_629 tv_628 tv_14 (by decide +kernel) (by decide +kernel) (Nat.le_of_ble_eq_true rfl) (xj_23 hKL) (xj_193 hKL) xk_47 xk_47 (by decide +kernel) (fun _ _ _ h9 => h9) ?_
    have G5 : xw_F [(193, 0, 7)] c4 (fun j i => if j = 193 ∧ i < 8 then c4 23 i else c4 j i) := fun j i h9 => if_neg (fun q => by obtain ⟨q1, q2⟩ := q; subst q1; exact xw_o_in h9 List.mem_cons_self ⟨Nat.zero_le _, by omega⟩)
    have P5 : ∀ i : Nat, i < 8 → (fun j i => if j = 193 ∧ i < 8 then c4 23 i else c4 j i) 193 i = c4 23 i := fun i hi => if_pos ⟨rfl, hi⟩
    generalize (fun j i => if j = 193 ∧ i < 8 then c4 23 i else c4 j i) = c5 at G5 P5 ⊢
    have hG_c5 := xw_GF hG_c4 G5 (by decide +kernel)
    refine xw_aload_n (pc := 75) C0 1 dX9_copyFrom_75 rfl rfl ?_
    refine xw_getR (pc := 76) (f := 5) C0 24 kcX9 dX9_copyFrom_76 (by decide +kernel) tv_160 (xj_18 hKL) xk_42 rfl (((G5 18 5 rfl).trans ((G4 18 5 rfl).trans ((G3 18 5 rfl).trans ((G2 18 5 rfl).trans ((G1 18 5 rfl).trans rfl))))).trans (xe_18_5 hG)) ?_
    refine xw_iconst (pc := 79) C0 dX9_copyFrom_79 ?_
    refine xw_aload_n (pc := 80) C0 0 dX9_copyFrom_80 rfl rfl ?_
    refine xw_getR (pc := 81) (f := 5) C0 194 kcX9 dX9_copyFrom_81 (by decide +kernel) tv_160 (xj_188 hKL) xk_42 rfl (((G5 188 5 rfl).trans ((G4 188 5 rfl).trans ((G3 188 5 rfl).trans ((G2 188 5 rfl).trans ((G1 188 5 rfl).trans rfl))))).trans (xe_188_5 hG)) ?_
    refine xw_iconst (pc := 84) C0 dX9_copyFrom_84 ?_
    refine xw_bipush (pc := 85) C0 dX9_copyFrom_85 (by decide +kernel) ?_
    refine xw_acI (pc := 87) (μ := c5) (n := 8) C0 dX9_copyFrom_87 tv_684 tv_629 tv_628 tv_14 (by decide +kernel) (by decide +kernel) (Nat.le_of_ble_eq_true rfl) (xj_24 hKL) (xj_194 hKL) xk_48 xk_48 (by decide +kernel) (fun _ _ _ h9 => h9) ?_
    have G6 : xw_F [(194, 0, 7)] c5 (fun j i => if j = 194 ∧ i < 8 then c5 24 i else c5 j i) := fun j i h9 => if_neg (fun q => by obtain ⟨q1, q2⟩ := q; subst q1; exact xw_o_in h9 List.mem_cons_self ⟨Nat.zero_le _, by omega⟩)
    have P6 : ∀ i : Nat, i < 8 → (fun j i => if j = 194 ∧ i < 8 then c5 24 i else c5 j i) 194 i = c5 24 i := fun i hi => if_pos ⟨rfl, hi⟩
    generalize (fun j i => if j = 194 ∧ i < 8 then c5 24 i else c5 j i) = c6 at G6 P6 ⊢
    have hG_c6 := xw_GF hG_c5 G6 (by decide +kernel)
    refine xw_aload_n (pc := 90) C0 0 dX9_copyFrom_90 rfl rfl ?_
    refine xw_aload_n (pc := 91) C0 1 dX9_copyFrom_91 rfl rfl ?_
    refine xw_getI (pc := 92) (f := 6) (z := μ 18 6) C0 kcX9 dX9_copyFrom_92 (by decide +kernel) tv_162 (xj_18 hKL) xk_42 rfl ((G6 18 6 rfl).trans ((G5 18 6 rfl).trans ((G4 18 6 rfl).trans ((G3 18 6 rfl).trans ((G2 18 6 rfl).trans ((G1 18 6 rfl).trans rfl)))))) (fun g7 k7 => ?_)
    refine xw_putI (pc := 95) (f := 6) C0 kcX9 dX9_copyFrom_95 (by decide +kernel) tv_162 rfl rfl (xj_188 hKL) xk_42 rfl (by omega) (by omega) ?_
    refine xw_aload_n (pc := 98) C0 0 dX9_copyFrom_98 rfl rfl ?_
    refine xw_aload_n (pc := 99) C0 1 dX9_copyFrom_99 rfl rfl ?_
    refine xw_getI (pc := 100) (f := 7) (z := μ 18 7) C0 kcX9 dX9_copyFrom_100 (by decide +kernel) tv_164 (xj_18 hKL) xk_42 rfl ((xw_un (fun q => absurd q.1 (by decide +kernel))).trans ((G6 18 7 rfl).trans ((G5 18 7 rfl).trans ((G4 18 7 rfl).trans ((G3 18 7 rfl).trans ((G2 18 7 rfl).trans ((G1 18 7 rfl).trans rfl))))))) (fun g8 k8 => ?_)
    refine xw_putI (pc := 103) (f := 7) C0 kcX9 dX9_copyFrom_103 (by decide +kernel) tv_164 rfl rfl (xj_188 hKL) xk_42 rfl (by omega) (by omega) ?_
    refine xw_aload_n (pc := 106) C0 0 dX9_copyFrom_106 rfl rfl ?_
    refine xw_aload_n (pc := 107) C0 1 dX9_copyFrom_107 rfl rfl ?_
    refine xw_getI (pc := 108) (f := 8) (z := μ 18 8) C0 kcX9 dX9_copyFrom_108 (by decide +kernel) tv_167 (xj_18 hKL) xk_42 rfl ((xw_un (fun q => absurd q.1 (by decide +kernel))).trans ((xw_un (fun q => absurd q.1 (by decide +kernel))).trans ((G6 18 8 rfl).trans ((G5 18 8 rfl).trans ((G4 18 8 rfl).trans ((G3 18 8 rfl).trans ((G2 18 8 rfl).trans ((G1 18 8 rfl).trans rfl)))))))) (fun g10 k10 => ?_)
    refine xw_putI (pc := 111) (f := 8) C0 kcX9 dX9_copyFrom_111 (by decide +kernel) tv_167 rfl rfl (xj_188 hKL) xk_42 rfl (by omega) (by omega) ?_
    refine xw_aload_n (pc := 114) C0 0 dX9_copyFrom_114 rfl rfl ?_
    refine xw_aload_n (pc := 115) C0 1 dX9_copyFrom_115 rfl rfl ?_
    refine xw_getI (pc := 116) (f := 9) (z := μ 18 9) C0 kcX9 dX9_copyFrom_116 (by decide +kernel) tv_170 (xj_18 hKL) xk_42 rfl ((xw_un (fun q => absurd q.1 (by decide +kernel))).trans ((xw_un (fun q => absurd q.1 (by decide +kernel))).trans ((xw_un (fun q => absurd q.1 (by decide +kernel))).trans ((G6 18 9 rfl).trans ((G5 18 9 rfl).trans ((G4 18 9 rfl).trans ((G3 18 9 rfl).trans ((G2 18 9 rfl).trans ((G1 18 9 rfl).trans rfl))))))))) (fun g11 k11 => ?_)
    refine xw_putI (pc := 119) (f := 9) C0 kcX9 dX9_copyFrom_119 (by decide +kernel) tv_170 rfl rfl (xj_188 hKL) xk_42 rfl (by omega) (by omega) ?_
    refine xw_aload_n (pc := 122) C0 0 dX9_copyFrom_122 rfl rfl ?_
    refine xw_aload_n (pc := 123) C0 1 dX9_copyFrom_123 rfl rfl ?_
    refine xw_getI (pc := 124) (f := 10) (z := μ 18 10) C0 kcX9 dX9_copyFrom_124 (by decide +kernel) tv_172 (xj_18 hKL) xk_42 rfl ((xw_un (fun q => absurd q.1 (by decide +kernel))).trans ((xw_un (fun q => absurd q.1 (by decide +kernel))).trans ((xw_un (fun q => absurd q.1 (by decide +kernel))).trans ((xw_un (fun q => absurd q.1 (by decide +kernel))).trans ((G6 18 10 rfl).trans ((G5 18 10 rfl).trans ((G4 18 10 rfl).trans ((G3 18 10 rfl).trans ((G2 18 10 rfl).trans ((G1 18 10 rfl).trans rfl)))))))))) (fun g12 k12 => ?_)
    refine xw_putI (pc := 127) (f := 10) C0 kcX9 dX9_copyFrom_127 (by decide +kernel) tv_172 rfl rfl (xj_188 hKL) xk_42 rfl (by omega) (by omega) ?_
    refine xw_aload_n (pc := 130) C0 0 dX9_copyFrom_130 rfl rfl ?_
    refine xw_aload_n (pc := 131) C0 1 dX9_copyFrom_131 rfl rfl ?_
    refine xw_getI (pc := 132) (f := 11) (z := μ 18 11) C0 kcX9 dX9_copyFrom_132 (by decide +kernel) tv_174 (xj_18 hKL) xk_42 rfl ((xw_un (fun q => absurd q.1 (by decide +kernel))).trans ((xw_un (fun q => absurd q.1 (by decide +kernel))).trans ((xw_un (fun q => absurd q.1 (by decide +kernel))).trans ((xw_un (fun q => absurd q.1 (by decide +kernel))).trans ((xw_un (fun q => absurd q.1 (by decide +kernel))).trans ((G6 18 11 rfl).trans ((G5 18 11 rfl).trans ((G4 18 11 rfl).trans ((G3 18 11 rfl).trans ((G2 18 11 rfl).trans ((G1 18 11 rfl).trans rfl))))))))))) (fun g13 k13 => ?_)
    refine xw_putI (pc := 135) (f := 11) C0 kcX9 dX9_copyFrom_135 (by decide +kernel) tv_174 rfl rfl (xj_188 hKL) xk_42 rfl (by omega) (by omega) ?_
    refine xw_vret C0 hA hr hlk dX9_copyFrom_138 ?_
    have Ft1 : xw_F [(188, 6, 6), (188, 7, 7), (188, 8, 8), (188, 9, 9), (188, 10, 10), (188, 11, 11)] c6 (xw_u (xw_u (xw_u (xw_u (xw_u (xw_u c6 188 6 (μ 18 6)) 188 7 (μ 18 7)) 188 8 (μ 18 8)) 188 9 (μ 18 9)) 188 10 (μ 18 10)) 188 11 (μ 18 11)) := (((((((xw_F.rf (ML := [(188, 6, 6), (188, 7, 7), (188, 8, 8), (188, 9, 9), (188, 10, 10), (188, 11, 11)])).u (show (188, 6, 6) ∈ _ by decide) ⟨by decide, by decide⟩).u (show (188, 7, 7) ∈ _ by decide) ⟨by decide, by decide⟩).u (show (188, 8, 8) ∈ _ by decide) ⟨by decide, by decide⟩).u (show (188, 9, 9) ∈ _ by decide) ⟨by decide, by decide⟩).u (show (188, 10, 10) ∈ _ by decide) ⟨by decide, by decide⟩).u (show (188, 11, 11) ∈ _ by decide) ⟨by decide, by decide⟩)
    have vt1_188_11 : (xw_u (xw_u (xw_u (xw_u (xw_u (xw_u c6 188 6 (μ 18 6)) 188 7 (μ 18 7)) 188 8 (μ 18 8)) 188 9 (μ 18 9)) 188 10 (μ 18 10)) 188 11 (μ 18 11)) 188 11 = μ 18 11 := xw_ug
    have vt1_188_10 : (xw_u (xw_u (xw_u (xw_u (xw_u (xw_u c6 188 6 (μ 18 6)) 188 7 (μ 18 7)) 188 8 (μ 18 8)) 188 9 (μ 18 9)) 188 10 (μ 18 10)) 188 11 (μ 18 11)) 188 10 = μ 18 10 := (xw_un (by decide +kernel)).trans xw_ug
    have vt1_188_9 : (xw_u (xw_u (xw_u (xw_u (xw_u (xw_u c6 188 6 (μ 18 6)) 188 7 (μ 18 7)) 188 8 (μ 18 8)) 188 9 (μ 18 9)) 188 10 (μ 18 10)) 188 11 (μ 18 11)) 188 9 = μ 18 9 := (xw_un (by decide +kernel)).trans ((xw_un (by decide +kernel)).trans xw_ug)
    have vt1_188_8 : (xw_u (xw_u (xw_u (xw_u (xw_u (xw_u c6 188 6 (μ 18 6)) 188 7 (μ 18 7)) 188 8 (μ 18 8)) 188 9 (μ 18 9)) 188 10 (μ 18 10)) 188 11 (μ 18 11)) 188 8 = μ 18 8 := (xw_un (by decide +kernel)).trans ((xw_un (by decide +kernel)).trans ((xw_un (by decide +kernel)).trans xw_ug))
    have vt1_188_7 : (xw_u (xw_u (xw_u (xw_u (xw_u (xw_u c6 188 6 (μ 18 6)) 188 7 (μ 18 7)) 188 8 (μ 18 8)) 188 9 (μ 18 9)) 188 10 (μ 18 10)) 188 11 (μ 18 11)) 188 7 = μ 18 7 := (xw_un (by decide +kernel)).trans ((xw_un (by decide +kernel)).trans ((xw_un (by decide +kernel)).trans ((xw_un (by decide +kernel)).trans xw_ug)))
    have vt1_188_6 : (xw_u (xw_u (xw_u (xw_u (xw_u (xw_u c6 188 6 (μ 18 6)) 188 7 (μ 18 7)) 188 8 (μ 18 8)) 188 9 (μ 18 9)) 188 10 (μ 18 10)) 188 11 (μ 18 11)) 188 6 = μ 18 6 := (xw_un (by decide +kernel)).trans ((xw_un (by decide +kernel)).trans ((xw_un (by decide +kernel)).trans ((xw_un (by decide +kernel)).trans ((xw_un (by decide +kernel)).trans xw_ug))))
    generalize (xw_u (xw_u (xw_u (xw_u (xw_u (xw_u c6 188 6 (μ 18 6)) 188 7 (μ 18 7)) 188 8 (μ 18 8)) 188 9 (μ 18 9)) 188 10 (μ 18 10)) 188 11 (μ 18 11)) = t1 at Ft1 vt1_188_11 vt1_188_10 vt1_188_9 vt1_188_8 vt1_188_7 vt1_188_6 ⊢
    exact ⟨rfl, ((((((((xw_F.rf (ML := [(188, 6, 11), (189, 0, 5), (190, 0, 5), (191, 0, 5), (192, 0, 7), (193, 0, 7), (194, 0, 7)])).tr G1 (fun j i h => xw_o_sub (by decide +kernel) j i h)).tr G2 (fun j i h => xw_o_sub (by decide +kernel) j i h)).tr G3 (fun j i h => xw_o_sub (by decide +kernel) j i h)).tr G4 (fun j i h => xw_o_sub (by decide +kernel) j i h)).tr G5 (fun j i h => xw_o_sub (by decide +kernel) j i h)).tr G6 (fun j i h => xw_o_sub (by decide +kernel) j i h)).tr Ft1 (fun j i h => xw_o_sub (by decide +kernel) j i h))⟩)
set_option maxRecDepth 20000 in
set_option maxHeartbeats 20000000 in
theorem xq_cpE_195_25 {l : Launch} {μ : xw_M} (hG : xw_G xw_GL μ) : xw_MetV l vwCl sa_Ts tb_KT0 tc_KL yX7_copyFrom cX7_copyFrom 2 none 2 120 (fun ad => [.ref (ad 195), .ref (ad 25)]) μ (fun μ' => ((∀ i : Nat, i < 40 → μ' 196 i = μ 26 i) ∧ (∀ i : Nat, i < 40 → μ' 198 i = μ 28 i)) ∧ xw_F [(195, 4, 5), (196, 0, 39), (197, 0, 39), (198, 0, 39)] μ μ') :=
  xw_of (by decide +kernel) (fun _ => Nat.le_of_ble_eq_true rfl) (fun p e s m args below meth c D dA A al w0 sz C0 hU hO hKL hr hlk hA => by
    refine xw_aload_n (pc := 0) C0 1 dX7_copyFrom_0 rfl rfl ?_
    refine xw_getR (pc := 1) (f := 0) C0 26 kcX7 dX7_copyFrom_1 (by decide +kernel) tv_212 (xj_25 hKL) xk_49 rfl ((rfl).trans (xe_25_0 hG)) ?_
    refine xw_iconst (pc := 4) C0 dX7_copyFrom_4 ?_
    refine xw_aload_n (pc := 5) C0 0 dX7_copyFrom_5 rfl rfl ?_
    refine xw_getR (pc := 6) (f := 0) C0 196 kcX7 dX7_copyFrom_6 (by decide +kernel) tv_212 (xj_195 hKL) xk_60 rfl ((rfl).trans (xe_195_0 hG)) ?_
    refine xw_iconst (pc := 9) C0 dX7_copyFrom_9 ?_
    refine xw_bipush (pc := 10) C0 dX7_copyFrom_10 (by decide +kernel) ?_
    refine xw_acI (pc := 12) (μ := μ) (n := 40) C0 dX7_copyFrom_12 tv_1067 tv_629 tv_628 tv_14 (by decide +kernel) (by decide +kernel) (Nat.le_of_ble_eq_true rfl) (xj_26 hKL) (xj_196 hKL) xk_50 xk_61 (by decide +kernel) (fun _ _ _ h9 => h9) ?_
    have G1 : xw_F [(196, 0, 39)] μ (fun j i => if j = 196 ∧ i < 40 then μ 26 i else μ j i) := fun j i h9 => if_neg (fun q => by obtain ⟨q1, q2⟩ := q; subst q1; exact xw_o_in h9 List.mem_cons_self ⟨Nat.zero_le _, by omega⟩)
    have P1 : ∀ i : Nat, i < 40 → (fun j i => if j = 196 ∧ i < 40 then μ 26 i else μ j i) 196 i = μ 26 i := fun i hi => if_pos ⟨rfl, hi⟩
    generalize (fun j i => if j = 196 ∧ i < 40 then μ 26 i else μ j i) = c1 at G1 P1 ⊢
    have hG_c1 := xw_GF hG G1 (by decide +kernel)
    refine xw_aload_n (pc := 15) C0 1 dX7_copyFrom_15 rfl rfl ?_
    refine xw_getR (pc := 16) (f := 1) C0 27 kcX7 dX7_copyFrom_16 (by decide +kernel) tv_213 (xj_25 hKL) xk_49 rfl (((G1 25 1 rfl).trans rfl).trans (xe_25_1 hG)) ?_
    refine xw_iconst (pc := 19) C0 dX7_copyFrom_19 ?_
    refine xw_aload_n (pc := 20) C0 0 dX7_copyFrom_20 rfl rfl ?_
    refine xw_getR (pc := 21) (f := 1) C0 197 kcX7 dX7_copyFrom_21 (by decide +kernel) tv_213 (xj_195 hKL) xk_60 rfl (((G1 195 1 rfl).trans rfl).trans (xe_195_1 hG)) ?_
    refine xw_iconst (pc := 24) C0 dX7_copyFrom_24 ?_
    refine xw_bipush (pc := 25) C0 dX7_copyFrom_25 (by decide +kernel) ?_
    refine xw_acI (pc := 27) (μ := c1) (n := 40) C0 dX7_copyFrom_27 tv_1067 tv_629 tv_628 tv_14 (by decide +kernel) (by decide +kernel) (Nat.le_of_ble_eq_true rfl) (xj_27 hKL) (xj_197 hKL) xk_51 xk_62 (by decide +kernel) (fun _ _ _ h9 => h9) ?_
    have G2 : xw_F [(197, 0, 39)] c1 (fun j i => if j = 197 ∧ i < 40 then c1 27 i else c1 j i) := fun j i h9 => if_neg (fun q => by obtain ⟨q1, q2⟩ := q; subst q1; exact xw_o_in h9 List.mem_cons_self ⟨Nat.zero_le _, by omega⟩)
    have P2 : ∀ i : Nat, i < 40 → (fun j i => if j = 197 ∧ i < 40 then c1 27 i else c1 j i) 197 i = c1 27 i := fun i hi => if_pos ⟨rfl, hi⟩
    generalize (fun j i => if j = 197 ∧ i < 40 then c1 27 i else c1 j i) = c2 at G2 P2 ⊢
    have hG_c2 := xw_GF hG_c1 G2 (by decide +kernel)
    refine xw_aload_n (pc := 30) C0 1 dX7_copyFrom_30 rfl rfl ?_
    refine xw_getR (pc := 31) (f := 2) C0 28 kcX7 dX7_copyFrom_31 (by decide +kernel) tv_214 (xj_25 hKL) xk_49 rfl (((G2 25 2 rfl).trans ((G1 25 2 rfl).trans rfl)).trans (xe_25_2 hG)) ?_
    refine xw_iconst (pc := 34) C0 dX7_copyFrom_34 ?_
    refine xw_aload_n (pc := 35) C0 0 dX7_copyFrom_35 rfl rfl ?_
    refine xw_getR (pc := 36) (f := 2) C0 198 kcX7 dX7_copyFrom_36 (by decide +kernel) tv_214 (xj_195 hKL) xk_60 rfl (((G2 195 2 rfl).trans ((G1 195 2 rfl).trans rfl)).trans (xe_195_2 hG)) ?_
    refine xw_iconst (pc := 39) C0 dX7_copyFrom_39 ?_
    refine xw_bipush (pc := 40) C0 dX7_copyFrom_40 (by decide +kernel) ?_
    refine xw_acI (pc := 42) (μ := c2) (n := 40) C0 dX7_copyFrom_42 tv_1067 tv_629 tv_628 tv_14 (by decide +kernel) (by decide +kernel) (Nat.le_of_ble_eq_true rfl) (xj_28 hKL) (xj_198 hKL) xk_52 xk_63 (by decide +kernel) (fun _ _ _ h9 => h9) ?_
    have G3 : xw_F [(198, 0, 39)] c2 (fun j i => if j = 198 ∧ i < 40 then c2 28 i else c2 j i) := fun j i h9 => if_neg (fun q => by obtain ⟨q1, q2⟩ := q; subst q1; exact xw_o_in h9 List.mem_cons_self ⟨Nat.zero_le _, by omega⟩)
    have P3 : ∀ i : Nat, i < 40 → (fun j i => if j = 198 ∧ i < 40 then c2 28 i else c2 j i) 198 i = c2 28 i := fun i hi => if_pos ⟨rfl, hi⟩
    generalize (fun j i => if j = 198 ∧ i < 40 then c2 28 i else c2 j i) = c3 at G3 P3 ⊢
    have hG_c3 := xw_GF hG_c2 G3 (by decide +kernel)
    refine xw_aload_n (pc := 45) C0 0 dX7_copyFrom_45 rfl rfl ?_
    refine xw_aload_n (pc := 46) C0 1 dX7_copyFrom_46 rfl rfl ?_
    refine xw_getI (pc := 47) (f := 4) (z := μ 25 4) C0 kcX7 dX7_copyFrom_47 (by decide +kernel) tv_216 (xj_25 hKL) xk_49 rfl ((G3 25 4 rfl).trans ((G2 25 4 rfl).trans ((G1 25 4 rfl).trans rfl))) (fun g4 k4 => ?_)
    refine xw_putI (pc := 50) (f := 4) C0 kcX7 dX7_copyFrom_50 (by decide +kernel) tv_216 rfl rfl (xj_195 hKL) xk_60 rfl (by omega) (by omega) ?_
    refine xw_aload_n (pc := 53) C0 0 dX7_copyFrom_53 rfl rfl ?_
    refine xw_aload_n (pc := 54) C0 1 dX7_copyFrom_54 rfl rfl ?_
    refine xw_getI (pc := 55) (f := 5) (z := μ 25 5) C0 kcX7 dX7_copyFrom_55 (by decide +kernel) tv_217 (xj_25 hKL) xk_49 rfl ((xw_un (fun q => absurd q.1 (by decide +kernel))).trans ((G3 25 5 rfl).trans ((G2 25 5 rfl).trans ((G1 25 5 rfl).trans rfl)))) (fun g5 k5 => ?_)
    refine xw_putI (pc := 58) (f := 5) C0 kcX7 dX7_copyFrom_58 (by decide +kernel) tv_217 rfl rfl (xj_195 hKL) xk_60 rfl (by omega) (by omega) ?_
    refine xw_vret C0 hA hr hlk dX7_copyFrom_61 ?_
    have Ft1 : xw_F [(195, 4, 4), (195, 5, 5)] c3 (xw_u (xw_u c3 195 4 (μ 25 4)) 195 5 (μ 25 5)) := (((xw_F.rf (ML := [(195, 4, 4), (195, 5, 5)])).u (show (195, 4, 4) ∈ _ by decide) ⟨by decide, by decide⟩).u (show (195, 5, 5) ∈ _ by decide) ⟨by decide, by decide⟩)
    have vt1_195_5 : (xw_u (xw_u c3 195 4 (μ 25 4)) 195 5 (μ 25 5)) 195 5 = μ 25 5 := xw_ug
    have vt1_195_4 : (xw_u (xw_u c3 195 4 (μ 25 4)) 195 5 (μ 25 5)) 195 4 = μ 25 4 := (xw_un (by decide +kernel)).trans xw_ug
    generalize (xw_u (xw_u c3 195 4 (μ 25 4)) 195 5 (μ 25 5)) = t1 at Ft1 vt1_195_5 vt1_195_4 ⊢
    have a1 : ∀ i : Nat, i < 40 → t1 196 i = μ 26 i := fun i hi => (Ft1 196 i (xw_oj (by decide +kernel) i)).trans ((G3 196 i (xw_oj (by decide +kernel) i)).trans ((G2 196 i (xw_oj (by decide +kernel) i)).trans (P1 i hi)))
    have a3 : ∀ i : Nat, i < 40 → t1 198 i = μ 28 i := fun i hi => (Ft1 198 i (xw_oj (by decide +kernel) i)).trans ((P3 i hi).trans ((G2 28 i (xw_oj (by decide +kernel) i)).trans (G1 28 i (xw_oj (by decide +kernel) i))))
    exact ⟨rfl, ⟨a1, a3⟩, (((((xw_F.rf (ML := [(195, 4, 5), (196, 0, 39), (197, 0, 39), (198, 0, 39)])).tr G1 (fun j i h => xw_o_sub (by decide +kernel) j i h)).tr G2 (fun j i h => xw_o_sub (by decide +kernel) j i h)).tr G3 (fun j i h => xw_o_sub (by decide +kernel) j i h)).tr Ft1 (fun j i h => xw_o_sub (by decide +kernel) j i h))⟩)
set_option maxRecDepth 20000 in
set_option maxHeartbeats 20000000 in
theorem xq_cpW_2_0 {l : Launch} {μ : xw_M} (hG : xw_G xw_GL μ) : xw_MetV l vwCl sa_Ts tb_KT0 tc_KL yX10_copyFrom cX10_copyFrom 2 none 3 141 (fun ad => [.ref (ad 173), .ref (ad 3)]) μ (fun μ' => hx_C 174 4 μ μ' ∧ ((∀ i : Nat, i < 40 → μ' 196 i = μ 26 i) ∧ (∀ i : Nat, i < 40 → μ' 198 i = μ 28 i)) ∧ xw_F [(174, 13, 15), (175, 0, 5), (176, 0, 5), (177, 0, 5), (178, 0, 5), (179, 0, 5), (180, 0, 5), (181, 0, 5), (182, 0, 7), (183, 0, 7), (184, 0, 7), (185, 0, 7), (186, 0, 7), (187, 0, 23), (188, 6, 11), (189, 0, 5), (190, 0, 5), (191, 0, 5), (192, 0, 7), (193, 0, 7), (194, 0, 7), (195, 4, 5), (196, 0, 39), (197, 0, 39), (198, 0, 39)] μ μ') :=
  xw_of (by decide +kernel) (fun _ => Nat.le_of_ble_eq_true rfl) (fun p e s m args below meth c D dA A al w0 sz C0 hU hO hKL hr hlk hA => by
    refine xw_aload_n (pc := 0) C0 0 dX10_copyFrom_0 rfl rfl ?_
    refine xw_getR (pc := 1) (f := 0) C0 174 kcX10 dX10_copyFrom_1 (by decide +kernel) tv_233 (xj_173 hKL) xk_26 rfl ((rfl).trans (xe_173_0 hG)) ?_
    refine xw_aload_n (pc := 4) C0 1 dX10_copyFrom_4 rfl rfl ?_
    refine xw_getR (pc := 5) (f := 0) C0 4 kcX10 dX10_copyFrom_5 (by decide +kernel) tv_233 (xj_3 hKL) xk_24 rfl ((rfl).trans (xe_3_0 hG)) ?_
    refine xw_callVV (pc := 8) (μ := μ) (ci := 2) (rest := []) (As := [.ref (xw_ad al 4)]) C0 hU hO sa_Tg hKL (xq_cpH_174_4 (l := l) hG) tv_626 dX10_copyFrom_8 tv_1104 tv_624 tv_625 tv_4 rfl yb_X2_copyFrom (by decide +kernel) rfl rfl rfl (by decide +kernel) (Nat.le_of_ble_eq_true rfl) (xj_174 hKL) xk_28 (fun m1 F1 => ?_)
    obtain ⟨c9, F1⟩ := F1
    have hG_m1 := xw_GF hG F1 (by decide +kernel)
    refine xw_aload_n (pc := 11) C0 0 dX10_copyFrom_11 rfl rfl ?_
    refine xw_getR (pc := 12) (f := 1) C0 188 kcX10 dX10_copyFrom_12 (by decide +kernel) tv_235 (xj_173 hKL) xk_26 rfl (((F1 173 1 rfl).trans rfl).trans (xe_173_1 hG)) ?_
    refine xw_aload_n (pc := 15) C0 1 dX10_copyFrom_15 rfl rfl ?_
    refine xw_getR (pc := 16) (f := 1) C0 18 kcX10 dX10_copyFrom_16 (by decide +kernel) tv_235 (xj_3 hKL) xk_24 rfl (((F1 3 1 rfl).trans rfl).trans (xe_3_1 hG)) ?_
    refine xw_callVV (pc := 19) (μ := m1) (ci := 9) (rest := []) (As := [.ref (xw_ad al 18)]) C0 hU hO sa_Tg hKL (xq_cpS_188_18 (l := l) hG_m1) tv_683 dX10_copyFrom_19 tv_1105 tv_681 tv_682 tv_5 rfl yb_X9_copyFrom (by decide +kernel) rfl rfl rfl (by decide +kernel) (Nat.le_of_ble_eq_true rfl) (xj_188 hKL) xk_42 (fun m2 F2 => ?_)
    have hG_m2 := xw_GF hG_m1 F2 (by decide +kernel)
    refine xw_aload_n (pc := 22) C0 0 dX10_copyFrom_22 rfl rfl ?_
    refine xw_getR (pc := 23) (f := 2) C0 195 kcX10 dX10_copyFrom_23 (by decide +kernel) tv_237 (xj_173 hKL) xk_26 rfl (((F2 173 2 rfl).trans ((F1 173 2 rfl).trans rfl)).trans (xe_173_2 hG)) ?_
    refine xw_aload_n (pc := 26) C0 1 dX10_copyFrom_26 rfl rfl ?_
    refine xw_getR (pc := 27) (f := 2) C0 25 kcX10 dX10_copyFrom_27 (by decide +kernel) tv_237 (xj_3 hKL) xk_24 rfl (((F2 3 2 rfl).trans ((F1 3 2 rfl).trans rfl)).trans (xe_3_2 hG)) ?_
    refine xw_callVV (pc := 30) (μ := m2) (ci := 7) (rest := []) (As := [.ref (xw_ad al 25)]) C0 hU hO sa_Tg hKL (xq_cpE_195_25 (l := l) hG_m2) tv_1066 dX10_copyFrom_30 tv_1106 tv_1064 tv_1065 tv_6 rfl yb_X7_copyFrom (by decide +kernel) rfl rfl rfl (by decide +kernel) (Nat.le_of_ble_eq_true rfl) (xj_195 hKL) xk_60 (fun m3 F3 => ?_)
    obtain ⟨d9, F3⟩ := F3
    have hG_m3 := xw_GF hG_m2 F3 (by decide +kernel)
    refine xw_vret C0 hA hr hlk dX10_copyFrom_33 ?_
    have fr : ∀ j i : Nat, 174 ≤ j → j ≤ 187 → m3 j i = m1 j i := fun j i h1 h2 => (xw_Frg (a := 174) (b := 187) F3 (by decide +kernel) j i h1 h2).trans (xw_Frg (a := 174) (b := 187) F2 (by decide +kernel) j i h1 h2)
    exact ⟨rfl, hx_CF c9 fr, ⟨fun i hi => (d9.1 i hi).trans ((F2 26 i (xw_oj (by decide +kernel) i)).trans (F1 26 i (xw_oj (by decide +kernel) i))), fun i hi => (d9.2 i hi).trans ((F2 28 i (xw_oj (by decide +kernel) i)).trans (F1 28 i (xw_oj (by decide +kernel) i)))⟩, ((((xw_F.rf (ML := [(174, 13, 15), (175, 0, 5), (176, 0, 5), (177, 0, 5), (178, 0, 5), (179, 0, 5), (180, 0, 5), (181, 0, 5), (182, 0, 7), (183, 0, 7), (184, 0, 7), (185, 0, 7), (186, 0, 7), (187, 0, 23), (188, 6, 11), (189, 0, 5), (190, 0, 5), (191, 0, 5), (192, 0, 7), (193, 0, 7), (194, 0, 7), (195, 4, 5), (196, 0, 39), (197, 0, 39), (198, 0, 39)])).tr F1 (fun j i h => xw_o_sub (by decide +kernel) j i h)).tr F2 (fun j i h => xw_o_sub (by decide +kernel) j i h)).tr F3 (fun j i h => xw_o_sub (by decide +kernel) j i h))⟩)
