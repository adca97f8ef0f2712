set_option maxRecDepth 20000 in
set_option maxHeartbeats 20000000 in
theorem xq_cpS_18_188 {l : Launch} {μ : xw_M} (hG : xw_G xw_GL μ) : xw_MetV l vwCl sa_Ts tb_KT0 tc_KL yX9_copyFrom cX9_copyFrom 2 none 2 120 (fun ad => [.ref (ad 18), .ref (ad 188)]) μ (fun μ' => xw_F [(18, 6, 11), (19, 0, 5), (20, 0, 5), (21, 0, 5), (22, 0, 7), (23, 0, 7), (24, 0, 7)] μ μ') :=
  xw_of (by decide +kernel) (fun _ => Nat.le_of_ble_eq_true rfl) (fun p e s m args below meth c D dA A al w0 sz C0 hU hO hKL hr hlk hA => by
    refine xw_aload_n (pc := 0) C0 1 dX9_copyFrom_0 rfl rfl ?_
    refine xw_getR (pc := 1) (f := 0) C0 189 kcX9 dX9_copyFrom_1 (by decide +kernel) tv_149 (xj_188 hKL) xk_42 rfl ((rfl).trans (xe_188_0 hG)) ?_
    refine xw_iconst (pc := 4) C0 dX9_copyFrom_4 ?_
    refine xw_aload_n (pc := 5) C0 0 dX9_copyFrom_5 rfl rfl ?_
    refine xw_getR (pc := 6) (f := 0) C0 19 kcX9 dX9_copyFrom_6 (by decide +kernel) tv_149 (xj_18 hKL) xk_42 rfl ((rfl).trans (xe_18_0 hG)) ?_
    refine xw_iconst (pc := 9) C0 dX9_copyFrom_9 ?_
    refine xw_bipush (pc := 10) C0 dX9_copyFrom_10 (by decide +kernel) ?_
    refine xw_acI (pc := 12) (μ := μ) (n := 6) C0 dX9_copyFrom_12 tv_684 tv_629 tv_628 tv_14 (by decide +kernel) (by decide +kernel) (Nat.le_of_ble_eq_true rfl) (xj_189 hKL) (xj_19 hKL) xk_43 xk_43 (by decide +kernel) (fun _ _ _ h9 => h9) ?_
    have G1 : xw_F [(19, 0, 5)] μ (fun j i => if j = 19 ∧ i < 6 then μ 189 i else μ j i) := fun j i h9 => if_neg (fun q => by obtain ⟨q1, q2⟩ := q; subst q1; exact xw_o_in h9 List.mem_cons_self ⟨Nat.zero_le _, by omega⟩)
    have P1 : ∀ i : Nat, i < 6 → (fun j i => if j = 19 ∧ i < 6 then μ 189 i else μ j i) 19 i = μ 189 i := fun i hi => if_pos ⟨rfl, hi⟩
    generalize (fun j i => if j = 19 ∧ i < 6 then μ 189 i else μ j i) = c1 at G1 P1 ⊢
    have hG_c1 := xw_GF hG G1 (by decide +kernel)
    refine xw_aload_n (pc := 15) C0 1 dX9_copyFrom_15 rfl rfl ?_
    refine xw_getR (pc := 16) (f := 1) C0 190 kcX9 dX9_copyFrom_16 (by decide +kernel) tv_151 (xj_188 hKL) xk_42 rfl (((G1 188 1 rfl).trans rfl).trans (xe_188_1 hG)) ?_
    refine xw_iconst (pc := 19) C0 dX9_copyFrom_19 ?_
    refine xw_aload_n (pc := 20) C0 0 dX9_copyFrom_20 rfl rfl ?_
    refine xw_getR (pc := 21) (f := 1) C0 20 kcX9 dX9_copyFrom_21 (by decide +kernel) tv_151 (xj_18 hKL) xk_42 rfl (((G1 18 1 rfl).trans rfl).trans (xe_18_1 hG)) ?_
    refine xw_iconst (pc := 24) C0 dX9_copyFrom_24 ?_
    refine xw_bipush (pc := 25) C0 dX9_copyFrom_25 (by decide +kernel) ?_
    refine xw_acI (pc := 27) (μ := c1) (n := 6) C0 dX9_copyFrom_27 tv_684 tv_629 tv_628 tv_14 (by decide +kernel) (by decide +kernel) (Nat.le_of_ble_eq_true rfl) (xj_190 hKL) (xj_20 hKL) xk_44 xk_44 (by decide +kernel) (fun _ _ _ h9 => h9) ?_
    have G2 : xw_F [(20, 0, 5)] c1 (fun j i => if j = 20 ∧ i < 6 then c1 190 i else c1 j i) := fun j i h9 => if_neg (fun q => by obtain ⟨q1, q2⟩ := q; subst q1; exact xw_o_in h9 List.mem_cons_self ⟨Nat.zero_le _, by omega⟩)
    have P2 : ∀ i : Nat, i < 6 → (fun j i => if j = 20 ∧ i < 6 then c1 190 i else c1 j i) 20 i = c1 190 i := fun i hi => if_pos ⟨rfl, hi⟩
    generalize (fun j i => if j = 20 ∧ i < 6 then c1 190 i else c1 j i) = c2 at G2 P2 ⊢
    have hG_c2 := xw_GF hG_c1 G2 (by decide +kernel)
    refine xw_aload_n (pc := 30) C0 1 dX9_copyFrom_30 rfl rfl ?_
    refine xw_getR (pc := 31) (f := 2) C0 191 kcX9 dX9_copyFrom_31 (by decide +kernel) tv_153 (xj_188 hKL) xk_42 rfl (((G2 188 2 rfl).trans ((G1 188 2 rfl).trans rfl)).trans (xe_188_2 hG)) ?_
    refine xw_iconst (pc := 34) C0 dX9_copyFrom_34 ?_
    refine xw_aload_n (pc := 35) C0 0 dX9_copyFrom_35 rfl rfl ?_
    refine xw_getR (pc := 36) (f := 2) C0 21 kcX9 dX9_copyFrom_36 (by decide +kernel) tv_153 (xj_18 hKL) xk_42 rfl (((G2 18 2 rfl).trans ((G1 18 2 rfl).trans rfl)).trans (xe_18_2 hG)) ?_
    refine xw_iconst (pc := 39) C0 dX9_copyFrom_39 ?_
    refine xw_bipush (pc := 40) C0 dX9_copyFrom_40 (by decide +kernel) ?_
    refine xw_acI (pc := 42) (μ := c2) (n := 6) C0 dX9_copyFrom_42 tv_684 tv_629 tv_628 tv_14 (by decide +kernel) (by decide +kernel) (Nat.le_of_ble_eq_true rfl) (xj_191 hKL) (xj_21 hKL) xk_45 xk_45 (by decide +kernel) (fun _ _ _ h9 => h9) ?_
    have G3 : xw_F [(21, 0, 5)] c2 (fun j i => if j = 21 ∧ i < 6 then c2 191 i else c2 j i) := fun j i h9 => if_neg (fun q => by obtain ⟨q1, q2⟩ := q; subst q1; exact xw_o_in h9 List.mem_cons_self ⟨Nat.zero_le _, by omega⟩)
    have P3 : ∀ i : Nat, i < 6 → (fun j i => if j = 21 ∧ i < 6 then c2 191 i else c2 j i) 21 i = c2 191 i := fun i hi => if_pos ⟨rfl, hi⟩
    generalize (fun j i => if j = 21 ∧ i < 6 then c2 191 i else c2 j i) = c3 at G3 P3 ⊢
    have hG_c3 := xw_GF hG_c2 G3 (by decide +kernel)
    refine xw_aload_n (pc := 45) C0 1 dX9_copyFrom_45 rfl rfl ?_
    refine xw_getR (pc := 46) (f := 3) C0 192 kcX9 dX9_copyFrom_46 (by decide +kernel) tv_156 (xj_188 hKL) xk_42 rfl (((G3 188 3 rfl).trans ((G2 188 3 rfl).trans ((G1 188 3 rfl).trans rfl))).trans (xe_188_3 hG)) ?_
    refine xw_iconst (pc := 49) C0 dX9_copyFrom_49 ?_
    refine xw_aload_n (pc := 50) C0 0 dX9_copyFrom_50 rfl rfl ?_
    refine xw_getR (pc := 51) (f := 3) C0 22 kcX9 dX9_copyFrom_51 (by decide +kernel) tv_156 (xj_18 hKL) xk_42 rfl (((G3 18 3 rfl).trans ((G2 18 3 rfl).trans ((G1 18 3 rfl).trans rfl))).trans (xe_18_3 hG)) ?_
    refine xw_iconst (pc := 54) C0 dX9_copyFrom_54 ?_
    refine xw_bipush (pc := 55) C0 dX9_copyFrom_55 (by decide +kernel) ?_
    refine xw_acI (pc := 57) (μ := c3) (n := 8) C0 dX9_copyFrom_57 tv_684 tv_629 tv_628 tv_14 (by decide +kernel) (by decide +kernel) (Nat.le_of_ble_eq_true rfl) (xj_192 hKL) (xj_22 hKL) xk_46 xk_46 (by decide +kernel) (fun _ _ _ h9 => h9) ?_
    have G4 : xw_F [(22, 0, 7)] c3 (fun j i => if j = 22 ∧ i < 8 then c3 192 i else c3 j i) := fun j i h9 => if_neg (fun q => by obtain ⟨q1, q2⟩ := q; subst q1; exact xw_o_in h9 List.mem_cons_self ⟨Nat.zero_le _, by omega⟩)
    have P4 : ∀ i : Nat, i < 8 → (fun j i => if j = 22 ∧ i < 8 then c3 192 i else c3 j i) 22 i = c3 192 i := fun i hi => if_pos ⟨rfl, hi⟩
    generalize (fun j i => if j = 22 ∧ i < 8 then c3 192 i else c3 j i) = c4 at G4 P4 ⊢
    have hG_c4 := xw_GF hG_c3 G4 (by decide +kernel)
    refine xw_aload_n (pc := 60) C0 1 dX9_copyFrom_60 rfl rfl ?_
    refine xw_getR (pc := 61) (f := 4) C0 193 kcX9 dX9_copyFrom_61 (by decide +kernel) tv_158 (xj_188 hKL) xk_42 rfl (((G4 188 4 rfl).trans ((G3 188 4 rfl).trans ((G2 188 4 rfl).trans ((G1 188 4 rfl).trans rfl)))).trans (xe_188_4 hG)) ?_
    refine xw_iconst (pc := 64) C0 dX9_copyFrom_64 ?_
    refine xw_aload_n (pc := 65) C0 0 dX9_copyFrom_65 rfl rfl ?_
    refine xw_getR (pc := 66) (f := 4) C0 23 kcX9 dX9_copyFrom_66 (by decide +kernel) tv_158 (xj_18 hKL) xk_42 rfl (((G4 18 4 rfl).trans ((G3 18 4 rfl).trans ((G2 18 4 rfl).trans ((G1 18 4 rfl).trans rfl)))).trans (xe_18_4 hG)) ?_
    refine xw_iconst (pc := 69) C0 dX9_copyFrom_69 ?_
    refine xw_bipush (pc := 70) C0 dX9_copyFrom_70 (by decide +kernel) ?_
    refine xw_acI (pc := 72) (μ := c4) (n := 8) C0 dX9_copyFrom_72 tv_684 tv_629 tv_628 tv_14 (by decide +kernel) (by decide +kernel) (Nat.le_of_ble_eq_true rfl) (xj_193 hKL) (xj_23 hKL) xk_47 xk_47 (by decide +kernel) (fun _ _ _ h9 => h9) ?_
    have G5 : xw_F [(23, 0, 7)] c4 (fun j i => if j = 23 ∧ i < 8 then c4 193 i else c4 j i) := fun j i h9 => if_neg (fun q => by obtain ⟨q1, q2⟩ := q; subst q1; exact xw_o_in h9 List.mem_cons_self ⟨Nat.zero_le _, by omega⟩)
    have P5 : ∀ i : Nat, i < 8 → (fun j i => if j = 23 ∧ i < 8 then c4 193 i else c4 j i) 23 i = c4 193 i := fun i hi => if_pos ⟨rfl, hi⟩
    generalize (fun j i => if j = 23 ∧ i < 8 then c4 193 i else c4 j i) = c5 at G5 P5 ⊢
    have hG_c5 := xw_GF hG_c4 G5 (by decide +kernel)
    refine xw_aload_n (pc := 75) C0 1 dX9_copyFrom_75 rfl rfl ?_
    refine xw_getR (pc := 76) (f := 5) C0 194 kcX9 dX9_copyFrom_76 (by decide +kernel) tv_160 (xj_188 hKL) xk_42 rfl (((G5 188 5 rfl).trans ((G4 188 5 rfl).trans ((G3 188 5 rfl).trans ((G2 188 5 rfl).trans ((G1 188 5 rfl).trans rfl))))).trans (xe_188_5 hG)) ?_
    refine xw_iconst (pc := 79) C0 dX9_copyFrom_79 ?_
    refine xw_aload_n (pc := 80) C0 0 dX9_copyFrom_80 rfl rfl ?_
    refine xw_getR (pc := 81) (f := 5) C0 24 kcX9 dX9_copyFrom_81 (by decide +kernel) tv_160 (xj_18 hKL) xk_42 rfl (((G5 18 5 rfl).trans ((G4 18 5 rfl).trans ((G3 18 5 rfl).trans ((G2 18 5 rfl).trans ((G1 18 5 rfl).trans rfl))))).trans (xe_18_5 hG)) ?_
    refine xw_iconst (pc := 84) C0 dX9_copyFrom_84 ?_
    refine xw_bipush (pc := 85) C0 dX9_copyFrom_85 (by decide +kernel) ?_
    refine xw_acI (pc := 87) (μ := c5) (n := 8) C0 dX9_copyFrom_87 tv_684 tv_629 tv_628 tv_14 (by decide +kernel) (by decide +kernel) (Nat.le_of_ble_eq_true rfl) (xj_194 hKL) (xj_24 hKL) xk_48 xk_48 (by decide +kernel) (fun _ _ _ h9 => h9) ?_
    have G6 : xw_F [(24, 0, 7)] c5 (fun j i => if j = 24 ∧ i < 8 then c5 194 i else c5 j i) := fun j i h9 => if_neg (fun q => by obtain ⟨q1, q2⟩ := q; subst q1; exact xw_o_in h9 List.mem_cons_self ⟨Nat.zero_le _, by omega⟩)
    have P6 : ∀ i : Nat, i < 8 → (fun j i => if j = 24 ∧ i < 8 then c5 194 i else c5 j i) 24 i = c5 194 i := fun i hi => if_pos ⟨rfl, hi⟩
    generalize (fun j i => if j = 24 ∧ i < 8 then c5 194 i else c5 j i) = c6 at G6 P6 ⊢
    have hG_c6 := xw_GF hG_c5 G6 (by decide +kernel)
    refine xw_aload_n (pc := 90) C0 0 dX9_copyFrom_90 rfl rfl ?_
    refine xw_aload_n (pc := 91) C0 1 dX9_copyFrom_91 rfl rfl ?_
    refine xw_getI (pc := 92) (f := 6) (z := μ 188 6) C0 kcX9 dX9_copyFrom_92 (by decide +kernel) tv_162 (xj_188 hKL) xk_42 rfl ((G6 188 6 rfl).trans ((G5 188 6 rfl).trans ((G4 188 6 rfl).trans ((G3 188 6 rfl).trans ((G2 188 6 rfl).trans ((G1 188 6 rfl).trans rfl)))))) (fun g7 k7 => ?_)
    refine xw_putI (pc := 95) (f := 6) C0 kcX9 dX9_copyFrom_95 (by decide +kernel) tv_162 rfl rfl (xj_18 hKL) xk_42 rfl (by omega) (by omega) ?_
    refine xw_aload_n (pc := 98) C0 0 dX9_copyFrom_98 rfl rfl ?_
    refine xw_aload_n (pc := 99) C0 1 dX9_copyFrom_99 rfl rfl ?_
    refine xw_getI (pc := 100) (f := 7) (z := μ 188 7) C0 kcX9 dX9_copyFrom_100 (by decide +kernel) tv_164 (xj_188 hKL) xk_42 rfl ((xw_un (fun q => absurd q.1 (by decide +kernel))).trans ((G6 188 7 rfl).trans ((G5 188 7 rfl).trans ((G4 188 7 rfl).trans ((G3 188 7 rfl).trans ((G2 188 7 rfl).trans ((G1 188 7 rfl).trans rfl))))))) (fun g8 k8 => ?_)
    refine xw_putI (pc := 103) (f := 7) C0 kcX9 dX9_copyFrom_103 (by decide +kernel) tv_164 rfl rfl (xj_18 hKL) xk_42 rfl (by omega) (by omega) ?_
    refine xw_aload_n (pc := 106) C0 0 dX9_copyFrom_106 rfl rfl ?_
    refine xw_aload_n (pc := 107) C0 1 dX9_copyFrom_107 rfl rfl ?_
    refine xw_getI (pc := 108) (f := 8) (z := μ 188 8) C0 kcX9 dX9_copyFrom_108 (by decide +kernel) tv_167 (xj_188 hKL) xk_42 rfl ((xw_un (fun q => absurd q.1 (by decide +kernel))).trans ((xw_un (fun q => absurd q.1 (by decide +kernel))).trans ((G6 188 8 rfl).trans ((G5 188 8 rfl).trans ((G4 188 8 rfl).trans ((G3 188 8 rfl).trans ((G2 188 8 rfl).trans ((G1 188 8 rfl).trans rfl)))))))) (fun g10 k10 => ?_)
    refine xw_putI (pc := 111) (f := 8) C0 kcX9 dX9_copyFrom_111 (by decide +kernel) tv_167 rfl rfl (xj_18 hKL) xk_42 rfl (by omega) (by omega) ?_
    refine xw_aload_n (pc := 114) C0 0 dX9_copyFrom_114 rfl rfl ?_
    refine xw_aload_n (pc := 115) C0 1 dX9_copyFrom_115 rfl rfl ?_
    refine xw_getI (pc := 116) (f := 9) (z := μ 188 9) C0 kcX9 dX9_copyFrom_116 (by decide +kernel) tv_170 (xj_188 hKL) xk_42 rfl ((xw_un (fun q => absurd q.1 (by decide +kernel))).trans ((xw_un (fun q => absurd q.1 (by decide +kernel))).trans ((xw_un (fun q => absurd q.1 (by decide +kernel))).trans ((G6 188 9 rfl).trans ((G5 188 9 rfl).trans ((G4 188 9 rfl).trans ((G3 188 9 rfl).trans ((G2 188 9 rfl).trans ((G1 188 9 rfl).trans rfl))))))))) (fun g11 k11 => ?_)
    refine xw_putI (pc := 119) (f := 9) C0 kcX9 dX9_copyFrom_119 (by decide +kernel) tv_170 rfl rfl (xj_18 hKL) xk_42 rfl (by omega) (by omega) ?_
    refine xw_aload_n (pc := 122) C0 0 dX9_copyFrom_122 rfl rfl ?_
    refine xw_aload_n (pc := 123) C0 1 dX9_copyFrom_123 rfl rfl ?_
    refine xw_getI (pc := 124) (f := 10) (z := μ 188 10) C0 kcX9 dX9_copyFrom_124 (by decide +kernel) tv_172 (xj_188 hKL) xk_42 rfl ((xw_un (fun q => absurd q.1 (by decide +kernel))).trans ((xw_un (fun q => absurd q.1 (by decide +kernel))).trans ((xw_un (fun q => absurd q.1 (by decide +kernel))).trans ((xw_un (fun q => absurd q.1 (by decide +kernel))).trans ((G6 188 10 rfl).trans ((G5 188 10 rfl).trans ((G4 188 10 rfl).trans ((G3 188 10 rfl).trans ((G2 188 10 rfl).trans ((G1 188 10 rfl).trans rfl)))))))))) (fun g12 k12 => ?_)
    refine xw_putI (pc := 127) (f := 10) C0 kcX9 dX9_copyFrom_127 (by decide +kernel) tv_172 rfl rfl (xj_18 hKL) xk_42 rfl (by omega) (by omega) ?_
    refine xw_aload_n (pc := 130) C0 0 dX9_copyFrom_130 rfl rfl ?_
    refine xw_aload_n (pc := 131) C0 1 dX9_copyFrom_131 rfl rfl ?_
    refine xw_getI (pc := 132) (f := 11) (z := μ 188 11) C0 kcX9 dX9_copyFrom_132 (by decide +kernel) tv_174 (xj_188 hKL) xk_42 rfl ((xw_un (fun q => absurd q.1 (by decide +kernel))).trans ((xw_un (fun q => absurd q.1 (by decide +kernel))).trans ((xw_un (fun q => absurd q.1 (by decide +kernel))).trans ((xw_un (fun q => absurd q.1 (by decide +kernel))).trans ((xw_un (fun q => absurd q.1 (by decide +kernel))).trans ((G6 188 11 rfl).trans ((G5 188 11 rfl).trans ((G4 188 11 rfl).trans ((G3 188 11 rfl).trans ((G2 188 11 rfl).trans ((G1 188 11 rfl).trans rfl))))))))))) (fun g13 k13 => ?_)
    refine xw_putI (pc := 135) (f := 11) C0 kcX9 dX9_copyFrom_135 (by decide +kernel) tv_174 rfl rfl (xj_18 hKL) xk_42 rfl (by omega) (by omega) ?_
    refine xw_vret C0 hA hr hlk dX9_copyFrom_138 ?_
    have Ft1 : xw_F [(18, 6, 6), (18, 7, 7), (18, 8, 8), (18, 9, 9), (18, 10, 10), (18, 11, 11)] c6 (xw_u (xw_u (xw_u (xw_u (xw_u (xw_u c6 18 6 (μ 188 6)) 18 7 (μ 188 7)) 18 8 (μ 188 8)) 18 9 (μ 188 9)) 18 10 (μ 188 10)) 18 11 (μ 188 11)) := (((((((xw_F.rf (ML := [(18, 6, 6), (18, 7, 7), (18, 8, 8), (18, 9, 9), (18, 10, 10), (18, 11, 11)])).u (show (18, 6, 6) ∈ _ by decide) ⟨by decide, by decide⟩).u (show (18, 7, 7) ∈ _ by decide) ⟨by decide, by decide⟩).u (show (18, 8, 8) ∈ _ by decide) ⟨by decide, by decide⟩).u (show (18, 9, 9) ∈ _ by decide) ⟨by decide, by decide⟩).u (show (18, 10, 10) ∈ _ by decide) ⟨by decide, by decide⟩).u (show (18, 11, 11) ∈ _ by decide) ⟨by decide, by decide⟩)
    have vt1_18_11 : (xw_u (xw_u (xw_u (xw_u (xw_u (xw_u c6 18 6 (μ 188 6)) 18 7 (μ 188 7)) 18 8 (μ 188 8)) 18 9 (μ 188 9)) 18 10 (μ 188 10)) 18 11 (μ 188 11)) 18 11 = μ 188 11 := xw_ug
    have vt1_18_10 : (xw_u (xw_u (xw_u (xw_u (xw_u (xw_u c6 18 6 (μ 188 6)) 18 7 (μ 188 7)) 18 8 (μ 188 8)) 18 9 (μ 188 9)) 18 10 (μ 188 10)) 18 11 (μ 188 11)) 18 10 = μ 188 10 := (xw_un (by decide +kernel)).trans xw_ug
    have vt1_18_9 : (xw_u (xw_u (xw_u (xw_u (xw_u (xw_u c6 18 6 (μ 188 6)) 18 7 (μ 188 7)) 18 8 (μ 188 8)) 18 9 (μ 188 9)) 18 10 (μ 188 10)) 18 11 (μ 188 11)) 18 9 = μ 188 9 := (xw_un (by decide +kernel)).trans ((xw_un (by decide +kernel)).trans xw_ug)
    have vt1_18_8 : (xw_u (xw_u (xw_u (xw_u (xw_u (xw_u c6 18 6 (μ 188 6)) 18 7 (μ 188 7)) 18 8 (μ 188 8)) 18 9 (μ 188 9)) 18 10 (μ 188 10)) 18 11 (μ 188 11)) 18 8 = μ 188 8 := (xw_un (by decide +kernel)).trans ((xw_un (by decide +kernel)).trans ((xw_un (by decide +kernel)).trans xw_ug))
    have vt1_18_7 : (xw_u (xw_u (xw_u (xw_u (xw_u (xw_u c6 18 6 (μ 188 6)) 18 7 (μ 188 7)) 18 8 (μ 188 8)) 18 9 (μ 188 9)) 18 10 (μ 188 10)) 18 11 (μ 188 11)) 18 7 = μ 188 7 := (xw_un (by decide +kernel)).trans ((xw_un (by decide +kernel)).trans ((xw_un (by decide +kernel)).trans ((xw_un (by decide +kernel)).trans xw_ug)))
    have vt1_18_6 : (xw_u (xw_u (xw_u (xw_u (xw_u (xw_u c6 18 6 (μ 188 6)) 18 7 (μ 188 7)) 18 8 (μ 188 8)) 18 9 (μ 188 9)) 18 10 (μ 188 10)) 18 11 (μ 188 11)) 18 6 = μ 188 6 := (xw_un (by decide +kernel)).trans ((xw_un (by decide +kernel)).trans ((xw_un (by decide +kernel)).trans ((xw_un (by decide +kernel)).trans ((xw_un (by decide +kernel)).trans xw_ug))))
    generalize (xw_u (xw_u (xw_u (xw_u (xw_u (xw_u c6 18 6 (μ 188 6)) 18 7 (μ 188 7)) 18 8 (μ 188 8)) 18 9 (μ 188 9)) 18 10 (μ 188 10)) 18 11 (μ 188 11)) = t1 at Ft1 vt1_18_11 vt1_18_10 vt1_18_9 vt1_18_8 vt1_18_7 vt1_18_6 ⊢
    exact ⟨rfl, ((((((((xw_F.rf (ML := [(18, 6, 11), (19, 0, 5), (20, 0, 5), (21, 0, 5), (22, 0, 7), (23, 0, 7), (24, 0, 7)])).tr G1 (fun j i h => xw_o_sub (by decide +kernel) j i h)).tr G2 (fun j i h => xw_o_sub (by decide +kernel) j i h)).tr G3 (fun j i h => xw_o_sub (by decide +kernel) j i h)).tr G4 (fun j i h => xw_o_sub (by decide +kernel) j i h)).tr G5 (fun j i h => xw_o_sub (by decide +kernel) j i h)).tr G6 (fun j i h => xw_o_sub (by decide +kernel) j i h)).tr Ft1 (fun j i h => xw_o_sub (by decide +kernel) j i h))⟩)
set_option maxRecDepth 20000 in
set_option maxHeartbeats 20000000 in
theorem xq_cpE_25_195 {l : Launch} {μ : xw_M} (hG : xw_G xw_GL μ) : xw_MetV l vwCl sa_Ts tb_KT0 tc_KL yX7_copyFrom cX7_copyFrom 2 none 2 120 (fun ad => [.ref (ad 25), .ref (ad 195)]) μ (fun μ' => ((∀ i : Nat, i < 40 → μ' 26 i = μ 196 i) ∧ (∀ i : Nat, i < 40 → μ' 28 i = μ 198 i)) ∧ xw_F [(25, 4, 5), (26, 0, 39), (27, 0, 39), (28, 0, 39)] μ μ') :=
  xw_of (by decide +kernel) (fun _ => Nat.le_of_ble_eq_true rfl) (fun p e s m args below meth c D dA A al w0 sz C0 hU hO hKL hr hlk hA => by
    refine xw_aload_n (pc := 0) C0 1 dX7_copyFrom_0 rfl rfl ?_
    refine xw_getR (pc := 1) (f := 0) C0 196 kcX7 dX7_copyFrom_1 (by decide +kernel) tv_212 (xj_195 hKL) xk_60 rfl ((rfl).trans (xe_195_0 hG)) ?_
    refine xw_iconst (pc := 4) C0 dX7_copyFrom_4 ?_
    refine xw_aload_n (pc := 5) C0 0 dX7_copyFrom_5 rfl rfl ?_
    refine xw_getR (pc := 6) (f := 0) C0 26 kcX7 dX7_copyFrom_6 (by decide +kernel) tv_212 (xj_25 hKL) xk_49 rfl ((rfl).trans (xe_25_0 hG)) ?_
    refine xw_iconst (pc := 9) C0 dX7_copyFrom_9 ?_
    refine xw_bipush (pc := 10) C0 dX7_copyFrom_10 (by decide +kernel) ?_
    refine xw_acI (pc := 12) (μ := μ) (n := 40) C0 dX7_copyFrom_12 tv_1067 tv_629 tv_628 tv_14 (by decide +kernel) (by decide +kernel) (Nat.le_of_ble_eq_true rfl) (xj_196 hKL) (xj_26 hKL) xk_61 xk_50 (by decide +kernel) (fun _ _ _ h9 => h9) ?_
    have G1 : xw_F [(26, 0, 39)] μ (fun j i => if j = 26 ∧ i < 40 then μ 196 i else μ j i) := fun j i h9 => if_neg (fun q => by obtain ⟨q1, q2⟩ := q; subst q1; exact xw_o_in h9 List.mem_cons_self ⟨Nat.zero_le _, by omega⟩)
    have P1 : ∀ i : Nat, i < 40 → (fun j i => if j = 26 ∧ i < 40 then μ 196 i else μ j i) 26 i = μ 196 i := fun i hi => if_pos ⟨rfl, hi⟩
    generalize (fun j i => if j = 26 ∧ i < 40 then μ 196 i else μ j i) = c1 at G1 P1 ⊢
    have hG_c1 := xw_GF hG G1 (by decide +kernel)
    refine xw_aload_n (pc := 15) C0 1 dX7_copyFrom_15 rfl rfl ?_
    refine xw_getR (pc := 16) (f := 1) C0 197 kcX7 dX7_copyFrom_16 (by decide +kernel) tv_213 (xj_195 hKL) xk_60 rfl (((G1 195 1 rfl).trans rfl).trans (xe_195_1 hG)) ?_
    refine xw_iconst (pc := 19) C0 dX7_copyFrom_19 ?_
    refine xw_aload_n (pc := 20) C0 0 dX7_copyFrom_20 rfl rfl ?_
    refine xw_getR (pc := 21) (f := 1) C0 27 kcX7 dX7_copyFrom_21 (by decide +kernel) tv_213 (xj_25 hKL) xk_49 rfl (((G1 25 1 rfl).trans rfl).trans (xe_25_1 hG)) ?_
    refine xw_iconst (pc := 24) C0 dX7_copyFrom_24 ?_
    refine xw_bipush (pc := 25) C0 dX7_copyFrom_25 (by decide +kernel) ?_
    refine xw_acI (pc := 27) (μ := c1) (n := 40) C0 dX7_copyFrom_27 tv_1067 tv_629 tv_628 tv_14 (by decide +kernel) (by decide +kernel) (Nat.le_of_ble_eq_true rfl) (xj_197 hKL) (xj_27 hKL) xk_62 xk_51 (by decide +kernel) (fun _ _ _ h9 => h9) ?_
    have G2 : xw_F [(27, 0, 39)] c1 (fun j i => if j = 27 ∧ i < 40 then c1 197 i else c1 j i) := fun j i h9 => if_neg (fun q => by obtain ⟨q1, q2⟩ := q; subst q1; exact xw_o_in h9 List.mem_cons_self ⟨Nat.zero_le _, by omega⟩)
    have P2 : ∀ i : Nat, i < 40 → (fun j i => if j = 27 ∧ i < 40 then c1 197 i else c1 j i) 27 i = c1 197 i := fun i hi => if_pos ⟨rfl, hi⟩
    generalize (fun j i => if j = 27 ∧ i < 40 then c1 197 i else c1 j i) = c2 at G2 P2 ⊢
    have hG_c2 := xw_GF hG_c1 G2 (by decide +kernel)
    refine xw_aload_n (pc := 30) C0 1 dX7_copyFrom_30 rfl rfl ?_
    refine xw_getR (pc := 31) (f := 2) C0 198 kcX7 dX7_copyFrom_31 (by decide +kernel) tv_214 (xj_195 hKL) xk_60 rfl (((G2 195 2 rfl).trans ((G1 195 2 rfl).trans rfl)).trans (xe_195_2 hG)) ?_
    refine xw_iconst (pc := 34) C0 dX7_copyFrom_34 ?_
    refine xw_aload_n (pc := 35) C0 0 dX7_copyFrom_35 rfl rfl ?_
    refine xw_getR (pc := 36) (f := 2) C0 28 kcX7 dX7_copyFrom_36 (by decide +kernel) tv_214 (xj_25 hKL) xk_49 rfl (((G2 25 2 rfl).trans ((G1 25 2 rfl).trans rfl)).trans (xe_25_2 hG)) ?_
    refine xw_iconst (pc := 39) C0 dX7_copyFrom_39 ?_
    refine xw_bipush (pc := 40) C0 dX7_copyFrom_40 (by decide +kernel) ?_
    refine xw_acI (pc := 42) (μ := c2) (n := 40) C0 dX7_copyFrom_42 tv_1067 tv_629 tv_628 tv_14 (by decide +kernel) (by decide +kernel) (Nat.le_of_ble_eq_true rfl) (xj_198 hKL) (xj_28 hKL) xk_63 xk_52 (by decide +kernel) (fun _ _ _ h9 => h9) ?_
    have G3 : xw_F [(28, 0, 39)] c2 (fun j i => if j = 28 ∧ i < 40 then c2 198 i else c2 j i) := fun j i h9 => if_neg (fun q => by obtain ⟨q1, q2⟩ := q; subst q1; exact xw_o_in h9 List.mem_cons_self ⟨Nat.zero_le _, by omega⟩)
    have P3 : ∀ i : Nat, i < 40 → (fun j i => if j = 28 ∧ i < 40 then c2 198 i else c2 j i) 28 i = c2 198 i := fun i hi => if_pos ⟨rfl, hi⟩
    generalize (fun j i => if j = 28 ∧ i < 40 then c2 198 i else c2 j i) = c3 at G3 P3 ⊢
    have hG_c3 := xw_GF hG_c2 G3 (by decide +kernel)
    refine xw_aload_n (pc := 45) C0 0 dX7_copyFrom_45 rfl rfl ?_
    refine xw_aload_n (pc := 46) C0 1 dX7_copyFrom_46 rfl rfl ?_
    refine xw_getI (pc := 47) (f := 4) (z := μ 195 4) C0 kcX7 dX7_copyFrom_47 (by decide +kernel) tv_216 (xj_195 hKL) xk_60 rfl ((G3 195 4 rfl).trans ((G2 195 4 rfl).trans ((G1 195 4 rfl).trans rfl))) (fun g4 k4 => ?_)
    refine xw_putI (pc := 50) (f := 4) C0 kcX7 dX7_copyFrom_50 (by decide +kernel) tv_216 rfl rfl (xj_25 hKL) xk_49 rfl (by omega) (by omega) ?_
    refine xw_aload_n (pc := 53) C0 0 dX7_copyFrom_53 rfl rfl ?_
    refine xw_aload_n (pc := 54) C0 1 dX7_copyFrom_54 rfl rfl ?_
    refine xw_getI (pc := 55) (f := 5) (z := μ 195 5) C0 kcX7 dX7_copyFrom_55 (by decide +kernel) tv_217 (xj_195 hKL) xk_60 rfl ((xw_un (fun q => absurd q.1 (by decide +kernel))).trans ((G3 195 5 rfl).trans ((G2 195 5 rfl).trans ((G1 195 5 rfl).trans rfl)))) (fun g5 k5 => ?_)
    refine xw_putI (pc := 58) (f := 5) C0 kcX7 dX7_copyFrom_58 (by decide +kernel) tv_217 rfl rfl (xj_25 hKL) xk_49 rfl (by omega) (by omega) ?_
    refine xw_vret C0 hA hr hlk dX7_copyFrom_61 ?_
    have Ft1 : xw_F [(25, 4, 4), (25, 5, 5)] c3 (xw_u (xw_u c3 25 4 (μ 195 4)) 25 5 (μ 195 5)) := (((xw_F.rf (ML := [(25, 4, 4), (25, 5, 5)])).u (show (25, 4, 4) ∈ _ by decide) ⟨by decide, by decide⟩).u (show (25, 5, 5) ∈ _ by decide) ⟨by decide, by decide⟩)
    have vt1_25_5 : (xw_u (xw_u c3 25 4 (μ 195 4)) 25 5 (μ 195 5)) 25 5 = μ 195 5 := xw_ug
    have vt1_25_4 : (xw_u (xw_u c3 25 4 (μ 195 4)) 25 5 (μ 195 5)) 25 4 = μ 195 4 := (xw_un (by decide +kernel)).trans xw_ug
    generalize (xw_u (xw_u c3 25 4 (μ 195 4)) 25 5 (μ 195 5)) = t1 at Ft1 vt1_25_5 vt1_25_4 ⊢
    have a1 : ∀ i : Nat, i < 40 → t1 26 i = μ 196 i := fun i hi => (Ft1 26 i (xw_oj (by decide +kernel) i)).trans ((G3 26 i (xw_oj (by decide +kernel) i)).trans ((G2 26 i (xw_oj (by decide +kernel) i)).trans (P1 i hi)))
    have a3 : ∀ i : Nat, i < 40 → t1 28 i = μ 198 i := fun i hi => (Ft1 28 i (xw_oj (by decide +kernel) i)).trans ((P3 i hi).trans ((G2 198 i (xw_oj (by decide +kernel) i)).trans (G1 198 i (xw_oj (by decide +kernel) i))))
    exact ⟨rfl, ⟨a1, a3⟩, (((((xw_F.rf (ML := [(25, 4, 5), (26, 0, 39), (27, 0, 39), (28, 0, 39)])).tr G1 (fun j i h => xw_o_sub (by decide +kernel) j i h)).tr G2 (fun j i h => xw_o_sub (by decide +kernel) j i h)).tr G3 (fun j i h => xw_o_sub (by decide +kernel) j i h)).tr Ft1 (fun j i h => xw_o_sub (by decide +kernel) j i h))⟩)
set_option maxRecDepth 20000 in
set_option maxHeartbeats 20000000 in
theorem xq_cpW_0_2 {l : Launch} {μ : xw_M} (hG : xw_G xw_GL μ) : xw_MetV l vwCl sa_Ts tb_KT0 tc_KL yX10_copyFrom cX10_copyFrom 2 none 3 141 (fun ad => [.ref (ad 3), .ref (ad 173)]) μ (fun μ' => hx_C 4 174 μ μ' ∧ ((∀ i : Nat, i < 40 → μ' 26 i = μ 196 i) ∧ (∀ i : Nat, i < 40 → μ' 28 i = μ 198 i)) ∧ xw_F [(4, 13, 15), (5, 0, 5), (6, 0, 5), (7, 0, 5), (8, 0, 5), (9, 0, 5), (10, 0, 5), (11, 0, 5), (12, 0, 7), (13, 0, 7), (14, 0, 7), (15, 0, 7), (16, 0, 7), (17, 0, 23), (18, 6, 11), (19, 0, 5), (20, 0, 5), (21, 0, 5), (22, 0, 7), (23, 0, 7), (24, 0, 7), (25, 4, 5), (26, 0, 39), (27, 0, 39), (28, 0, 39)] μ μ') :=
  xw_of (by decide +kernel) (fun _ => Nat.le_of_ble_eq_true rfl) (fun p e s m args below meth c D dA A al w0 sz C0 hU hO hKL hr hlk hA => by
    refine xw_aload_n (pc := 0) C0 0 dX10_copyFrom_0 rfl rfl ?_
    refine xw_getR (pc := 1) (f := 0) C0 4 kcX10 dX10_copyFrom_1 (by decide +kernel) tv_233 (xj_3 hKL) xk_24 rfl ((rfl).trans (xe_3_0 hG)) ?_
    refine xw_aload_n (pc := 4) C0 1 dX10_copyFrom_4 rfl rfl ?_
    refine xw_getR (pc := 5) (f := 0) C0 174 kcX10 dX10_copyFrom_5 (by decide +kernel) tv_233 (xj_173 hKL) xk_26 rfl ((rfl).trans (xe_173_0 hG)) ?_
    refine xw_callVV (pc := 8) (μ := μ) (ci := 2) (rest := []) (As := [.ref (xw_ad al 174)]) C0 hU hO sa_Tg hKL (xq_cpH_4_174 (l := l) hG) tv_626 dX10_copyFrom_8 tv_1104 tv_624 tv_625 tv_4 rfl yb_X2_copyFrom (by decide +kernel) rfl rfl rfl (by decide +kernel) (Nat.le_of_ble_eq_true rfl) (xj_4 hKL) xk_28 (fun m1 F1 => ?_)
    obtain ⟨c9, F1⟩ := F1
    have hG_m1 := xw_GF hG F1 (by decide +kernel)
    refine xw_aload_n (pc := 11) C0 0 dX10_copyFrom_11 rfl rfl ?_
    refine xw_getR (pc := 12) (f := 1) C0 18 kcX10 dX10_copyFrom_12 (by decide +kernel) tv_235 (xj_3 hKL) xk_24 rfl (((F1 3 1 rfl).trans rfl).trans (xe_3_1 hG)) ?_
    refine xw_aload_n (pc := 15) C0 1 dX10_copyFrom_15 rfl rfl ?_
    refine xw_getR (pc := 16) (f := 1) C0 188 kcX10 dX10_copyFrom_16 (by decide +kernel) tv_235 (xj_173 hKL) xk_26 rfl (((F1 173 1 rfl).trans rfl).trans (xe_173_1 hG)) ?_
    refine xw_callVV (pc := 19) (μ := m1) (ci := 9) (rest := []) (As := [.ref (xw_ad al 188)]) C0 hU hO sa_Tg hKL (xq_cpS_18_188 (l := l) hG_m1) tv_683 dX10_copyFrom_19 tv_1105 tv_681 tv_682 tv_5 rfl yb_X9_copyFrom (by decide +kernel) rfl rfl rfl (by decide +kernel) (Nat.le_of_ble_eq_true rfl) (xj_18 hKL) xk_42 (fun m2 F2 => ?_)
    have hG_m2 := xw_GF hG_m1 F2 (by decide +kernel)
    refine xw_aload_n (pc := 22) C0 0 dX10_copyFrom_22 rfl rfl ?_
    refine xw_getR (pc := 23) (f := 2) C0 25 kcX10 dX10_copyFrom_23 (by decide +kernel) tv_237 (xj_3 hKL) xk_24 rfl (((F2 3 2 rfl).trans ((F1 3 2 rfl).trans rfl)).trans (xe_3_2 hG)) ?_
    refine xw_aload_n (pc := 26) C0 1 dX10_copyFrom_26 rfl rfl ?_
    refine xw_getR (pc := 27) (f := 2) C0 195 kcX10 dX10_copyFrom_27 (by decide +kernel) tv_237 (xj_173 hKL) xk_26 rfl (((F2 173 2 rfl).trans ((F1 173 2 rfl).trans rfl)).trans (xe_173_2 hG)) ?_
    refine xw_callVV (pc := 30) (μ := m2) (ci := 7) (rest := []) (As := [.ref (xw_ad al 195)]) C0 hU hO sa_Tg hKL (xq_cpE_25_195 (l := l) hG_m2) tv_1066 dX10_copyFrom_30 tv_1106 tv_1064 tv_1065 tv_6 rfl yb_X7_copyFrom (by decide +kernel) rfl rfl rfl (by decide +kernel) (Nat.le_of_ble_eq_true rfl) (xj_25 hKL) xk_49 (fun m3 F3 => ?_)
    obtain ⟨d9, F3⟩ := F3
    have hG_m3 := xw_GF hG_m2 F3 (by decide +kernel)
    refine xw_vret C0 hA hr hlk dX10_copyFrom_33 ?_
    have fr : ∀ j i : Nat, 4 ≤ j → j ≤ 17 → m3 j i = m1 j i := fun j i h1 h2 => (xw_Frg (a := 4) (b := 17) F3 (by decide +kernel) j i h1 h2).trans (xw_Frg (a := 4) (b := 17) F2 (by decide +kernel) j i h1 h2)
    exact ⟨rfl, hx_CF c9 fr, ⟨fun i hi => (d9.1 i hi).trans ((F2 196 i (xw_oj (by decide +kernel) i)).trans (F1 196 i (xw_oj (by decide +kernel) i))), fun i hi => (d9.2 i hi).trans ((F2 198 i (xw_oj (by decide +kernel) i)).trans (F1 198 i (xw_oj (by decide +kernel) i)))⟩, ((((xw_F.rf (ML := [(4, 13, 15), (5, 0, 5), (6, 0, 5), (7, 0, 5), (8, 0, 5), (9, 0, 5), (10, 0, 5), (11, 0, 5), (12, 0, 7), (13, 0, 7), (14, 0, 7), (15, 0, 7), (16, 0, 7), (17, 0, 23), (18, 6, 11), (19, 0, 5), (20, 0, 5), (21, 0, 5), (22, 0, 7), (23, 0, 7), (24, 0, 7), (25, 4, 5), (26, 0, 39), (27, 0, 39), (28, 0, 39)])).tr F1 (fun j i h => xw_o_sub (by decide +kernel) j i h)).tr F2 (fun j i h => xw_o_sub (by decide +kernel) j i h)).tr F3 (fun j i h => xw_o_sub (by decide +kernel) j i h))⟩)
