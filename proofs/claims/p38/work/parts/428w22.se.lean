set_option maxRecDepth 20000 in
set_option maxHeartbeats 20000000 in
theorem xs_cpE {l : Launch} {μ : xw_M} (hG : xw_G xw_GL μ) : xw_MetV l vwCl sa_Ts tb_KT0 tc_KL yX7_copyFrom cX7_copyFrom 2 none 2 120 (fun ad => [.ref (ad 25), .ref (ad 132)]) μ (fun μ' => ((∀ i : Nat, i < 40 → μ' 26 i = μ 133 i) ∧ (∀ i : Nat, i < 40 → μ' 28 i = μ 135 i)) ∧ μ' 25 5 = μ 132 5 ∧ xw_F [(25, 4, 5), (26, 0, 39), (27, 0, 39), (28, 0, 39)] μ μ') :=
  xw_of (by decide +kernel) (fun _ => Nat.le_of_ble_eq_true rfl) (fun p e s m args below meth c D dA A al w0 sz C0 hU hO hKL hr hlk hA => by
    refine xw_aload_n (pc := 0) C0 1 dX7_copyFrom_0 rfl rfl ?_
    refine xw_getR (pc := 1) (f := 0) C0 133 kcX7 dX7_copyFrom_1 (by decide +kernel) tv_212 (xj_132 hKL) xk_3 rfl ((rfl).trans (xe_132_0 hG)) ?_
    refine xw_iconst (pc := 4) C0 dX7_copyFrom_4 ?_
    refine xw_aload_n (pc := 5) C0 0 dX7_copyFrom_5 rfl rfl ?_
    refine xw_getR (pc := 6) (f := 0) C0 26 kcX7 dX7_copyFrom_6 (by decide +kernel) tv_212 (xj_25 hKL) xk_49 rfl ((rfl).trans (xe_25_0 hG)) ?_
    refine xw_iconst (pc := 9) C0 dX7_copyFrom_9 ?_
    refine xw_bipush (pc := 10) C0 dX7_copyFrom_10 (by decide +kernel) ?_
    refine xw_acI (pc := 12) (μ := μ) (n := 40) C0 dX7_copyFrom_12 tv_1067 tv_629 tv_628 tv_14 (by decide +kernel) (by decide +kernel) (Nat.le_of_ble_eq_true rfl) (xj_133 hKL) (xj_26 hKL) xk_4 xk_50 (by decide +kernel) (fun _ _ _ h9 => h9) ?_
    have G1 : xw_F [(26, 0, 39)] μ (fun j i => if j = 26 ∧ i < 40 then μ 133 i else μ j i) := fun j i h9 => if_neg (fun q => by obtain ⟨q1, q2⟩ := q; subst q1; exact xw_o_in h9 List.mem_cons_self ⟨Nat.zero_le _, by omega⟩)
    have P1 : ∀ i : Nat, i < 40 → (fun j i => if j = 26 ∧ i < 40 then μ 133 i else μ j i) 26 i = μ 133 i := fun i hi => if_pos ⟨rfl, hi⟩
    generalize (fun j i => if j = 26 ∧ i < 40 then μ 133 i else μ j i) = c1 at G1 P1 ⊢
    have hG_c1 := xw_GF hG G1 (by decide +kernel)
    refine xw_aload_n (pc := 15) C0 1 dX7_copyFrom_15 rfl rfl ?_
    refine xw_getR (pc := 16) (f := 1) C0 134 kcX7 dX7_copyFrom_16 (by decide +kernel) tv_213 (xj_132 hKL) xk_3 rfl (((G1 132 1 rfl).trans rfl).trans (xe_132_1 hG)) ?_
    refine xw_iconst (pc := 19) C0 dX7_copyFrom_19 ?_
    refine xw_aload_n (pc := 20) C0 0 dX7_copyFrom_20 rfl rfl ?_
    refine xw_getR (pc := 21) (f := 1) C0 27 kcX7 dX7_copyFrom_21 (by decide +kernel) tv_213 (xj_25 hKL) xk_49 rfl (((G1 25 1 rfl).trans rfl).trans (xe_25_1 hG)) ?_
    refine xw_iconst (pc := 24) C0 dX7_copyFrom_24 ?_
    refine xw_bipush (pc := 25) C0 dX7_copyFrom_25 (by decide +kernel) ?_
    refine xw_acI (pc := 27) (μ := c1) (n := 40) C0 dX7_copyFrom_27 tv_1067 tv_629 tv_628 tv_14 (by decide +kernel) (by decide +kernel) (Nat.le_of_ble_eq_true rfl) (xj_134 hKL) (xj_27 hKL) xk_15 xk_51 (by decide +kernel) (fun _ _ _ h9 => h9) ?_
    have G2 : xw_F [(27, 0, 39)] c1 (fun j i => if j = 27 ∧ i < 40 then c1 134 i else c1 j i) := fun j i h9 => if_neg (fun q => by obtain ⟨q1, q2⟩ := q; subst q1; exact xw_o_in h9 List.mem_cons_self ⟨Nat.zero_le _, by omega⟩)
    have P2 : ∀ i : Nat, i < 40 → (fun j i => if j = 27 ∧ i < 40 then c1 134 i else c1 j i) 27 i = c1 134 i := fun i hi => if_pos ⟨rfl, hi⟩
    generalize (fun j i => if j = 27 ∧ i < 40 then c1 134 i else c1 j i) = c2 at G2 P2 ⊢
    have hG_c2 := xw_GF hG_c1 G2 (by decide +kernel)
    refine xw_aload_n (pc := 30) C0 1 dX7_copyFrom_30 rfl rfl ?_
    refine xw_getR (pc := 31) (f := 2) C0 135 kcX7 dX7_copyFrom_31 (by decide +kernel) tv_214 (xj_132 hKL) xk_3 rfl (((G2 132 2 rfl).trans ((G1 132 2 rfl).trans rfl)).trans (xe_132_2 hG)) ?_
    refine xw_iconst (pc := 34) C0 dX7_copyFrom_34 ?_
    refine xw_aload_n (pc := 35) C0 0 dX7_copyFrom_35 rfl rfl ?_
    refine xw_getR (pc := 36) (f := 2) C0 28 kcX7 dX7_copyFrom_36 (by decide +kernel) tv_214 (xj_25 hKL) xk_49 rfl (((G2 25 2 rfl).trans ((G1 25 2 rfl).trans rfl)).trans (xe_25_2 hG)) ?_
    refine xw_iconst (pc := 39) C0 dX7_copyFrom_39 ?_
    refine xw_bipush (pc := 40) C0 dX7_copyFrom_40 (by decide +kernel) ?_
    refine xw_acI (pc := 42) (μ := c2) (n := 40) C0 dX7_copyFrom_42 tv_1067 tv_629 tv_628 tv_14 (by decide +kernel) (by decide +kernel) (Nat.le_of_ble_eq_true rfl) (xj_135 hKL) (xj_28 hKL) xk_5 xk_52 (by decide +kernel) (fun _ _ _ h9 => h9) ?_
    have G3 : xw_F [(28, 0, 39)] c2 (fun j i => if j = 28 ∧ i < 40 then c2 135 i else c2 j i) := fun j i h9 => if_neg (fun q => by obtain ⟨q1, q2⟩ := q; subst q1; exact xw_o_in h9 List.mem_cons_self ⟨Nat.zero_le _, by omega⟩)
    have P3 : ∀ i : Nat, i < 40 → (fun j i => if j = 28 ∧ i < 40 then c2 135 i else c2 j i) 28 i = c2 135 i := fun i hi => if_pos ⟨rfl, hi⟩
    generalize (fun j i => if j = 28 ∧ i < 40 then c2 135 i else c2 j i) = c3 at G3 P3 ⊢
    have hG_c3 := xw_GF hG_c2 G3 (by decide +kernel)
    refine xw_aload_n (pc := 45) C0 0 dX7_copyFrom_45 rfl rfl ?_
    refine xw_aload_n (pc := 46) C0 1 dX7_copyFrom_46 rfl rfl ?_
    refine xw_getI (pc := 47) (f := 4) (z := μ 132 4) C0 kcX7 dX7_copyFrom_47 (by decide +kernel) tv_216 (xj_132 hKL) xk_3 rfl ((G3 132 4 rfl).trans ((G2 132 4 rfl).trans ((G1 132 4 rfl).trans rfl))) (fun g4 k4 => ?_)
    refine xw_putI (pc := 50) (f := 4) C0 kcX7 dX7_copyFrom_50 (by decide +kernel) tv_216 rfl rfl (xj_25 hKL) xk_49 rfl (by omega) (by omega) ?_
    refine xw_aload_n (pc := 53) C0 0 dX7_copyFrom_53 rfl rfl ?_
    refine xw_aload_n (pc := 54) C0 1 dX7_copyFrom_54 rfl rfl ?_
    refine xw_getI (pc := 55) (f := 5) (z := μ 132 5) C0 kcX7 dX7_copyFrom_55 (by decide +kernel) tv_217 (xj_132 hKL) xk_3 rfl ((xw_un (fun q => absurd q.1 (by decide +kernel))).trans ((G3 132 5 rfl).trans ((G2 132 5 rfl).trans ((G1 132 5 rfl).trans rfl)))) (fun g5 k5 => ?_)
    refine xw_putI (pc := 58) (f := 5) C0 kcX7 dX7_copyFrom_58 (by decide +kernel) tv_217 rfl rfl (xj_25 hKL) xk_49 rfl (by omega) (by omega) ?_
    refine xw_vret C0 hA hr hlk dX7_copyFrom_61 ?_
    have Ft1 : xw_F [(25, 4, 4), (25, 5, 5)] c3 (xw_u (xw_u c3 25 4 (μ 132 4)) 25 5 (μ 132 5)) := (((xw_F.rf (ML := [(25, 4, 4), (25, 5, 5)])).u (show (25, 4, 4) ∈ _ by decide) ⟨by decide, by decide⟩).u (show (25, 5, 5) ∈ _ by decide) ⟨by decide, by decide⟩)
    have vt1_25_5 : (xw_u (xw_u c3 25 4 (μ 132 4)) 25 5 (μ 132 5)) 25 5 = μ 132 5 := xw_ug
    have vt1_25_4 : (xw_u (xw_u c3 25 4 (μ 132 4)) 25 5 (μ 132 5)) 25 4 = μ 132 4 := (xw_un (by decide +kernel)).trans xw_ug
    generalize (xw_u (xw_u c3 25 4 (μ 132 4)) 25 5 (μ 132 5)) = t1 at Ft1 vt1_25_5 vt1_25_4 ⊢
    have a1 : ∀ i : Nat, i < 40 → t1 26 i = μ 133 i := fun i hi => (Ft1 26 i (xw_oj (by decide +kernel) i)).trans ((G3 26 i (xw_oj (by decide +kernel) i)).trans ((G2 26 i (xw_oj (by decide +kernel) i)).trans (P1 i hi)))
    have a3 : ∀ i : Nat, i < 40 → t1 28 i = μ 135 i := fun i hi => (Ft1 28 i (xw_oj (by decide +kernel) i)).trans ((P3 i hi).trans ((G2 135 i (xw_oj (by decide +kernel) i)).trans (G1 135 i (xw_oj (by decide +kernel) i))))
    exact ⟨rfl, ⟨a1, a3⟩, vt1_25_5, (((((xw_F.rf (ML := [(25, 4, 5), (26, 0, 39), (27, 0, 39), (28, 0, 39)])).tr G1 (fun j i h => xw_o_sub (by decide +kernel) j i h)).tr G2 (fun j i h => xw_o_sub (by decide +kernel) j i h)).tr G3 (fun j i h => xw_o_sub (by decide +kernel) j i h)).tr Ft1 (fun j i h => xw_o_sub (by decide +kernel) j i h))⟩)
noncomputable def hd_R0 (μ : xw_M) : Prop := ∀ i : Nat, i < 40 → (μ 26 i = 16 → 0 ≤ μ 28 i ∧ μ 28 i ≤ 7) ∧ (μ 26 i = 1 → 0 ≤ μ 28 i ∧ μ 28 i ≤ 5)
set_option maxRecDepth 20000 in
set_option maxHeartbeats 20000000 in
theorem xs_sent {l : Launch} {t rd nm : Nat → Int} {n : Nat} {μ : xw_M} (hG : xw_G xw_GL μ) (ht : ∀ i : Nat, μ 2 i % 256 = t i) (hn : μ 1 1 = (n : Int)) (hn9 : n ≤ 940) (hH : hd_H rd nm μ) (hK : hp_ok rd nm) (hR : hd_R μ) (hR0 : hd_R0 μ) : xw_MetI l vwCl sa_Ts tb_KT0 tc_KL yX11_sentence cX11_sentence 2 (some .int) 35 875 (fun ad => [.ref (ad 0)]) μ (fun r μ' => ((∃ o : Nat, hq_se t n nm (rd 0).toNat (rd 1).toNat = .inr o ∧ r = (o : Int)) ∨ (∃ e9 : hp_E, hq_se t n nm (rd 0).toNat (rd 1).toNat = .inl e9 ∧ r = -1 - e9.2)) ∧ μ' 1 1 = 0 ∧ hd_R μ' ∧ hd_R0 μ' ∧ xw_F [(0, 13, 13), (1, 1, 1), (129, 0, 9), (132, 4, 5), (133, 0, 39), (134, 0, 39), (135, 0, 39), (25, 4, 5), (26, 0, 39), (27, 0, 39), (28, 0, 39)] μ μ') :=
  xw_of (by decide +kernel) (fun _ => Nat.le_of_ble_eq_true rfl) (fun p e s m args below meth c D dA A al w0 sz C0 hU hO hKL hr hlk hA => by
    refine xw_aload_n (pc := 0) C0 0 dX11_sentence_0 rfl rfl ?_
    refine xw_getR (pc := 1) (f := 7) C0 128 kcX11 dX11_sentence_1 (by decide +kernel) tv_429 (xj_0 hKL) xk_27 rfl ((rfl).trans (xe_0_7 hG)) ?_
    refine xw_aload_n (pc := 4) C0 0 dX11_sentence_4 rfl rfl ?_
    refine xw_getR (pc := 5) (f := 0) C0 1 kcX11 dX11_sentence_5 (by decide +kernel) tv_422 (xj_0 hKL) xk_27 rfl ((rfl).trans (xe_0_0 hG)) ?_
    refine xw_aload_n (pc := 8) C0 0 dX11_sentence_8 rfl rfl ?_
    refine xw_getR (pc := 9) (f := 1) C0 3 kcX11 dX11_sentence_9 (by decide +kernel) tv_423 (xj_0 hKL) xk_27 rfl ((rfl).trans (xe_0_1 hG)) ?_
    refine xw_getR (pc := 12) (f := 0) C0 4 kcX10 dX11_sentence_12 (by decide +kernel) tv_234 (xj_3 hKL) xk_24 rfl ((rfl).trans (xe_3_0 hG)) ?_
    refine xw_callVI (pc := 15) (μ := μ) (ci := 8) (rest := []) (As := [.ref (xw_ad al 1), .ref (xw_ad al 4)]) C0 hU hO sa_Tg hKL (xs_rs (l := l) (t := t) (n := n) (rd := rd) (nm := nm) hG ht hn hn9 hH hK hR) tv_1021 dX11_sentence_15 tv_1018 tv_1019 tv_1020 tv_11 rfl yb_X8_readSentence (by decide +kernel) rfl rfl rfl (by decide +kernel) (Nat.le_of_ble_eq_true rfl) (xj_128 hKL) xk_68 (fun r1 m1 w1 => ?_)
    obtain ⟨w1, R1, F1⟩ := w1
    have hG_m1 := xw_GF hG F1 (by decide +kernel)
    rcases w1 with ⟨o1, eo1, rfl, x1, y1⟩ | ⟨e1, eo1, rfl, W1⟩
    · refine xw_istore_n (pc := 18) (L' := [(1, .int (Int32.ofInt 1)), (0, .ref (xw_ad al 0))]) C0 dX11_sentence_18 rfl (by decide +kernel) rfl ?_
      refine xw_aload_n (pc := 19) C0 1 dX11_sentence_19 rfl rfl ?_
      refine xw_aload_n (pc := 20) C0 1 dX11_sentence_20 rfl rfl ?_
      refine xw_getR (pc := 21) (f := 7) C0 128 kcX11 dX11_sentence_21 (by decide +kernel) tv_429 (xj_0 hKL) xk_27 rfl (((F1 0 7 rfl).trans rfl).trans (xe_0_7 hG)) ?_
      refine xw_getR (pc := 24) (f := 0) C0 129 kcX8 dX11_sentence_24 (by decide +kernel) tv_382 (xj_128 hKL) xk_68 rfl (((F1 128 0 rfl).trans rfl).trans (xe_128_0 hG)) ?_
      refine xw_callVV (pc := 27) (μ := m1) (ci := 11) (rest := []) (As := [.ref (xw_ad al 129)]) C0 hU hO sa_Tg hKL (xd_takeText (l := l) hG_m1) tv_622 dX11_sentence_27 tv_619 tv_621 tq_X11_takeText tv_1 rfl yb_X11_takeText (by decide +kernel) rfl rfl rfl (by decide +kernel) (Nat.le_of_ble_eq_true rfl) (xj_0 hKL) xk_27 (fun m2 F2 => ?_)
      obtain ⟨z2, F2⟩ := F2
      have hG_m2 := xw_GF hG_m1 F2 (by decide +kernel)
      refine xw_iload_n (pc := 30) C0 0 dX11_sentence_30 rfl rfl ?_
      refine xw_if_ne (pc := 31) (tgt := 47) C0 (by omega) dX11_sentence_31 rfl (fun b3 => ?_) (fun b3 => ?_)
      · refine xw_aload_n (pc := 47) C0 1 dX11_sentence_47 rfl rfl ?_
        refine xw_getR (pc := 48) (f := 1) C0 3 kcX11 dX11_sentence_48 (by decide +kernel) tv_423 (xj_0 hKL) xk_27 rfl (((F2 0 1 rfl).trans ((F1 0 1 rfl).trans rfl)).trans (xe_0_1 hG)) ?_
        refine xw_getR (pc := 51) (f := 2) C0 25 kcX10 dX11_sentence_51 (by decide +kernel) tv_238 (xj_3 hKL) xk_24 rfl (((F2 3 2 rfl).trans ((F1 3 2 rfl).trans rfl)).trans (xe_3_2 hG)) ?_
        refine xw_aload_n (pc := 54) C0 1 dX11_sentence_54 rfl rfl ?_
        refine xw_getR (pc := 55) (f := 7) C0 128 kcX11 dX11_sentence_55 (by decide +kernel) tv_429 (xj_0 hKL) xk_27 rfl (((F2 0 7 rfl).trans ((F1 0 7 rfl).trans rfl)).trans (xe_0_7 hG)) ?_
        refine xw_getR (pc := 58) (f := 1) C0 132 kcX8 dX11_sentence_58 (by decide +kernel) tv_384 (xj_128 hKL) xk_68 rfl (((F2 128 1 rfl).trans ((F1 128 1 rfl).trans rfl)).trans (xe_128_1 hG)) ?_
        refine xw_callVV (pc := 61) (μ := m2) (ci := 7) (rest := []) (As := [.ref (xw_ad al 132)]) C0 hU hO sa_Tg hKL (xs_cpE (l := l) (μ := m2) hG_m2) tv_1066 dX11_sentence_61 tv_1063 tv_1064 tv_1065 tv_6 rfl yb_X7_copyFrom (by decide +kernel) rfl rfl rfl (by decide +kernel) (Nat.le_of_ble_eq_true rfl) (xj_25 hKL) xk_49 (fun m4 w4 => ?_)
        obtain ⟨P4, z4, F4⟩ := w4
        have hG_m4 := xw_GF hG_m2 F4 (by decide +kernel)
        refine xw_aload_n (pc := 64) C0 1 dX11_sentence_64 rfl rfl ?_
        refine xw_getR (pc := 65) (f := 1) C0 3 kcX11 dX11_sentence_65 (by decide +kernel) tv_423 (xj_0 hKL) xk_27 rfl (((F4 0 1 rfl).trans ((F2 0 1 rfl).trans ((F1 0 1 rfl).trans rfl))).trans (xe_0_1 hG)) ?_
        refine xw_getR (pc := 68) (f := 2) C0 25 kcX10 dX11_sentence_68 (by decide +kernel) tv_238 (xj_3 hKL) xk_24 rfl (((F4 3 2 rfl).trans ((F2 3 2 rfl).trans ((F1 3 2 rfl).trans rfl))).trans (xe_3_2 hG)) ?_
        refine xw_getI (pc := 71) (f := 5) (z := m4 25 5) C0 kcX7 dX11_sentence_71 (by decide +kernel) tv_219 (xj_25 hKL) xk_49 rfl (rfl) (fun g5 k5 => ?_)
        refine xw_iret C0 hA hr hlk rfl dX11_sentence_74 ?_
        have R0 : hd_R0 m4 := fun i hi => by
          rw [P4.1 i hi, P4.2 i hi, F2 133 i (xw_oj (by decide +kernel) i), F2 135 i (xw_oj (by decide +kernel) i)]
          exact R1 i hi
        have e8 : m4 25 5 = (o1 : Int) := z4.trans ((F2 132 5 rfl).trans x1)
        exact ⟨_, rfl, Or.inl ⟨o1, eo1, by omega⟩, (F4 1 1 rfl).trans z2, hd_RF (hd_RF R1 F2 (by decide +kernel)) F4 (by decide +kernel), R0, ((((xw_F.rf (ML := [(0, 13, 13), (1, 1, 1), (129, 0, 9), (132, 4, 5), (133, 0, 39), (134, 0, 39), (135, 0, 39), (25, 4, 5), (26, 0, 39), (27, 0, 39), (28, 0, 39)])).tr F1 (fun j i h => xw_o_sub (by decide +kernel) j i h)).tr F2 (fun j i h => xw_o_sub (by decide +kernel) j i h)).tr F4 (fun j i h => xw_o_sub (by decide +kernel) j i h))⟩
      · exfalso
        omega
    · have e9 : m1 129 9 = e1.2 := W1.2.2
      refine xw_istore_n (pc := 18) (L' := [(1, .int (Int32.ofInt 0)), (0, .ref (xw_ad al 0))]) C0 dX11_sentence_18 rfl (by decide +kernel) rfl ?_
      refine xw_aload_n (pc := 19) C0 1 dX11_sentence_19 rfl rfl ?_
      refine xw_aload_n (pc := 20) C0 1 dX11_sentence_20 rfl rfl ?_
      refine xw_getR (pc := 21) (f := 7) C0 128 kcX11 dX11_sentence_21 (by decide +kernel) tv_429 (xj_0 hKL) xk_27 rfl (((F1 0 7 rfl).trans rfl).trans (xe_0_7 hG)) ?_
      refine xw_getR (pc := 24) (f := 0) C0 129 kcX8 dX11_sentence_24 (by decide +kernel) tv_382 (xj_128 hKL) xk_68 rfl (((F1 128 0 rfl).trans rfl).trans (xe_128_0 hG)) ?_
      refine xw_callVV (pc := 27) (μ := m1) (ci := 11) (rest := []) (As := [.ref (xw_ad al 129)]) C0 hU hO sa_Tg hKL (xd_takeText (l := l) hG_m1) tv_622 dX11_sentence_27 tv_619 tv_621 tq_X11_takeText tv_1 rfl yb_X11_takeText (by decide +kernel) rfl rfl rfl (by decide +kernel) (Nat.le_of_ble_eq_true rfl) (xj_0 hKL) xk_27 (fun m6 F6 => ?_)
      obtain ⟨z6, F6⟩ := F6
      have hG_m6 := xw_GF hG_m1 F6 (by decide +kernel)
      refine xw_iload_n (pc := 30) C0 0 dX11_sentence_30 rfl rfl ?_
      refine xw_if_ne (pc := 31) (tgt := 47) C0 (by omega) dX11_sentence_31 rfl (fun b7 => ?_) (fun b7 => ?_)
      · exfalso
        omega
      · refine xw_iconst (pc := 34) C0 dX11_sentence_34 ?_
        refine xw_aload_n (pc := 35) C0 1 dX11_sentence_35 rfl rfl ?_
        refine xw_getR (pc := 36) (f := 7) C0 128 kcX11 dX11_sentence_36 (by decide +kernel) tv_429 (xj_0 hKL) xk_27 rfl (((F6 0 7 rfl).trans ((F1 0 7 rfl).trans rfl)).trans (xe_0_7 hG)) ?_
        refine xw_getR (pc := 39) (f := 0) C0 129 kcX8 dX11_sentence_39 (by decide +kernel) tv_382 (xj_128 hKL) xk_68 rfl (((F6 128 0 rfl).trans ((F1 128 0 rfl).trans rfl)).trans (xe_128_0 hG)) ?_
        refine xw_getI (pc := 42) (f := 9) (z := m1 129 9) C0 kcX6 dX11_sentence_42 (by decide +kernel) tv_305 (xj_129 hKL) xk_17 rfl ((F6 129 9 rfl).trans rfl) (fun g8 k8 => ?_)
        refine xw_isub (pc := 45) C0 dX11_sentence_45 ?_
        refine xw_iret C0 hA hr hlk rfl dX11_sentence_46 ?_
        have R0 : hd_R0 m6 := fun i hi => by
          rw [F6 26 i (xw_oj (by decide +kernel) i), F6 28 i (xw_oj (by decide +kernel) i), F1 26 i (xw_oj (by decide +kernel) i), F1 28 i (xw_oj (by decide +kernel) i)]
          exact hR0 i hi
        exact ⟨_, rfl, Or.inr ⟨e1, eo1, by omega⟩, z6, hd_RF R1 F6 (by decide +kernel), R0, (((xw_F.rf (ML := [(0, 13, 13), (1, 1, 1), (129, 0, 9), (132, 4, 5), (133, 0, 39), (134, 0, 39), (135, 0, 39), (25, 4, 5), (26, 0, 39), (27, 0, 39), (28, 0, 39)])).tr F1 (fun j i h => xw_o_sub (by decide +kernel) j i h)).tr F6 (fun j i h => xw_o_sub (by decide +kernel) j i h))⟩)
/-! the reference's SENTENCE: its nodes -/
def hq_ND : List (Nat × tb_t) := [(1, (0, (-2147483648), 2147483647)), (1, (0, 0, 59)), (3, (0, (-2147483648), 2147483647)), (1, (0, 0, 59)), (3, (0, (-2147483648), 2147483647)), (1, (0, 0, 59)), (3, (0, (-2147483648), 2147483647)), (1, (0, 0, 59)), (3, (0, (-2147483648), 2147483647)), (1, (0, 0, 59)), (3, (0, (-2147483648), 2147483647)), (1, (0, 0, 59)), (3, (0, (-2147483648), 2147483647)), (1, (0, 0, 59)), (3, (0, (-2147483648), 2147483647)), (1, (0, 0, 59)), (3, (0, (-2147483648), 2147483647)), (1, (0, 0, 59)), (3, (0, (-2147483648), 2147483647)), (1, (0, 0, 59)), (3, (0, (-2147483648), 2147483647)), (1, (0, 0, 59)), (3, (0, (-2147483648), 2147483647)), (1, (0, 0, 59)), (3, (0, (-2147483648), 2147483647)), (1, (0, 0, 59)), (3, (0, (-2147483648), 2147483647)), (1, (0, 0, 59)), (3, (0, (-2147483648), 2147483647)), (1, (0, 0, 59)), (3, (0, (-2147483648), 2147483647)), (1, (0, 0, 59)), (3, (0, (-2147483648), 2147483647)), (1, (0, 0, 59)), (3, (0, (-2147483648), 2147483647)), (1, (0, 0, 59)), (3, (0, (-2147483648), 2147483647)), (1, (0, 0, 59)), (3, (0, (-2147483648), 2147483647)), (1, (0, 0, 59)), (3, (0, (-2147483648), 2147483647)), (1, (0, 0, 59)), (3, (0, (-2147483648), 2147483647)), (1, (0, 0, 59)), (3, (0, (-2147483648), 2147483647)), (1, (0, 0, 59)), (3, (0, (-2147483648), 2147483647)), (1, (0, 0, 59)), (3, (0, (-2147483648), 2147483647)), (1, (0, 0, 59)), (3, (0, (-2147483648), 2147483647)), (1, (0, 0, 59)), (3, (0, (-2147483648), 2147483647)), (1, (0, 0, 59)), (3, (0, (-2147483648), 2147483647)), (1, (0, 0, 59)), (3, (0, (-2147483648), 2147483647)), (1, (0, 0, 59)), (3, (0, (-2147483648), 2147483647)), (1, (0, 0, 59)), (3, (0, (-2147483648), 2147483647)), (1, (0, 0, 59)), (3, (0, (-2147483648), 2147483647)), (1, (0, 0, 59)), (3, (0, (-2147483648), 2147483647)), (1, (0, 0, 59)), (3, (0, (-2147483648), 2147483647)), (1, (0, 0, 59)), (3, (0, (-2147483648), 2147483647)), (1, (0, 0, 59)), (3, (0, (-2147483648), 2147483647)), (1, (0, 0, 59)), (3, (0, (-2147483648), 2147483647)), (1, (0, 0, 59)), (3, (0, (-2147483648), 2147483647)), (1, (0, 0, 59)), (3, (0, (-2147483648), 2147483647)), (1, (0, 0, 59)), (3, (0, (-2147483648), 2147483647)), (1, (0, 0, 59)), (3, (0, (-2147483648), 2147483647)), (1, (0, 0, 59)), (3, (0, (-2147483648), 2147483647)), (1, (0, 0, 59)), (3, (0, (-2147483648), 2147483647)), (1, (0, 0, 59)), (3, (0, (-2147483648), 2147483647)), (1, (0, 0, 59)), (3, (0, (-2147483648), 2147483647)), (1, (0, 0, 59)), (3, (0, (-2147483648), 2147483647)), (1, (0, 0, 59)), (3, (0, (-2147483648), 2147483647)), (1, (0, 0, 59)), (3, (0, (-2147483648), 2147483647)), (1, (0, 0, 59)), (3, (0, (-2147483648), 2147483647)), (1, (0, 0, 59)), (3, (0, (-2147483648), 2147483647)), (1, (0, 0, 59)), (3, (0, (-2147483648), 2147483647)), (1, (0, 0, 59)), (3, (0, (-2147483648), 2147483647)), (1, (0, 0, 59)), (3, (0, (-2147483648), 2147483647)), (1, (0, 0, 59)), (3, (0, (-2147483648), 2147483647)), (1, (0, 0, 59)), (3, (0, (-2147483648), 2147483647)), (1, (0, 0, 59)), (3, (0, (-2147483648), 2147483647)), (1, (0, 0, 59)), (3, (0, (-2147483648), 2147483647)), (1, (0, 0, 59)), (3, (0, (-2147483648), 2147483647)), (1, (0, 0, 59)), (3, (0, (-2147483648), 2147483647)), (1, (0, 0, 59)), (3, (0, (-2147483648), 2147483647)), (1, (0, 0, 59)), (2, (0, (-2147483648), 2147483647))]
theorem hq_nd : ∀ cn : Fin 60, tb_rl hq_ND (4 * (cn : Nat)) = some (0, -2147483648, 2147483647) ∧ tb_rl hq_ND (4 * (cn : Nat) + 1) = some (0, 0, 59) ∧ tb_rl hq_ND (4 * (cn : Nat) + 2) = some (0, -2147483648, 2147483647) ∧ tb_rl hq_ND (4 * (cn : Nat) + 3) = some (0, -2147483648, 2147483647) := by decide +kernel
noncomputable def hr_R (μ : xw_M) : Prop := ∀ i : Nat, i < 60 → (1 ≤ μ 218 (4 * i) → μ 218 (4 * i) ≤ 3 → 0 ≤ μ 218 (4 * i + 1) ∧ μ 218 (4 * i + 1) < (i : Int)) ∧ (2 ≤ μ 218 (4 * i) → μ 218 (4 * i) ≤ 3 → 0 ≤ μ 218 (4 * i + 2) ∧ μ 218 (4 * i + 2) < (i : Int))
theorem hr_RF {ML : List (Nat × Nat × Nat)} {μ μ' : xw_M} (h : hr_R μ) (hF : xw_F ML μ μ') (hd : ML.all (fun q => !(Nat.beq q.1 218)) = true) : hr_R μ' := by
  intro i hi
  rw [hF 218 _ (xw_oj hd (4 * i)), hF 218 _ (xw_oj hd (4 * i + 1)), hF 218 _ (xw_oj hd (4 * i + 2))]
  exact h i hi
theorem xw_u1 {μ : xw_M} {j k i : Nat} {x : Int} : xw_u μ j k x j i = if i = k then x else μ j i := xw_ui (fun _ => rfl)
theorem hr_Ru {μ : xw_M} {cn : Nat} {w a b g z : Int} (h : hr_R μ) (h1 : 1 ≤ w → w ≤ 3 → 0 ≤ a ∧ a < (cn : Int)) (h2 : 2 ≤ w → w ≤ 3 → 0 ≤ b ∧ b < (cn : Int)) : hr_R (xw_u (xw_u (xw_u (xw_u (xw_u μ 218 (4 * cn) w) 218 (4 * cn + 1) a) 218 (4 * cn + 2) b) 218 (4 * cn + 3) g) 200 41 z) := by
  have e : ∀ q : Nat, xw_u (xw_u (xw_u (xw_u (xw_u μ 218 (4 * cn) w) 218 (4 * cn + 1) a) 218 (4 * cn + 2) b) 218 (4 * cn + 3) g) 200 41 z 218 q = if q = 4 * cn + 3 then g else if q = 4 * cn + 2 then b else if q = 4 * cn + 1 then a else if q = 4 * cn then w else μ 218 q := fun q => by
    rw [xw_un (fun h => absurd h.1 (by decide +kernel)), xw_u1, xw_u1, xw_u1, xw_u1]
  intro i hi
  rw [e (4 * i), e (4 * i + 1), e (4 * i + 2)]
  rw [if_neg (show ¬ 4 * i = 4 * cn + 3 by omega), if_neg (show ¬ 4 * i = 4 * cn + 2 by omega), if_neg (show ¬ 4 * i = 4 * cn + 1 by omega), if_neg (show ¬ 4 * i + 1 = 4 * cn + 3 by omega), if_neg (show ¬ 4 * i + 1 = 4 * cn + 2 by omega), if_neg (show ¬ 4 * i + 2 = 4 * cn + 3 by omega)]
  by_cases hc : i = cn
  · subst hc
    rw [if_pos (show 4 * i = 4 * i from rfl), if_pos (show 4 * i + 1 = 4 * i + 1 from rfl), if_pos (show 4 * i + 2 = 4 * i + 2 from rfl)]
    exact ⟨h1, h2⟩
  · rw [if_neg (show ¬ 4 * i = 4 * cn by omega), if_neg (show ¬ 4 * i + 1 = 4 * cn + 1 by omega), if_neg (show ¬ 4 * i + 1 = 4 * cn by omega), if_neg (show ¬ 4 * i + 2 = 4 * cn + 2 by omega), if_neg (show ¬ 4 * i + 2 = 4 * cn + 1 by omega), if_neg (show ¬ 4 * i + 2 = 4 * cn by omega)]
    exact h i hi
/-- the HOUSE now, as far as a SENTENCE needs it -/
noncomputable def hr_M (rd nm : Nat → Int) (μ : xw_M) : Prop := (μ 202 0 = rd 0 ∧ μ 202 1 = rd 1) ∧ (∀ k : Nat, k < 6 → (k : Int) < rd 0 → μ 207 k = nm k) ∧ (∀ k : Nat, k < 8 → (k : Int) < rd 1 → μ 207 (6 + k) = nm (6 + k))
theorem hr_MF {rd nm : Nat → Int} {ML : List (Nat × Nat × Nat)} {μ μ' : xw_M} (h : hr_M rd nm μ) (hF : xw_F ML μ μ') (hd : (xw_o ML 202 0 && (xw_o ML 202 1 && ML.all (fun q => !(Nat.beq q.1 207)))) = true) : hr_M rd nm μ' := by
  rw [Bool.and_eq_true, Bool.and_eq_true] at hd
  obtain ⟨d1, d2, d3⟩ := hd
  exact ⟨⟨(hF _ _ d1).trans h.1.1, (hF _ _ d2).trans h.1.2⟩, fun k a b => (hF _ _ (xw_oj d3 k)).trans (h.2.1 k a b), fun k a b => (hF _ _ (xw_oj d3 _)).trans (h.2.2 k a b)⟩
/-- how a piece ends: cn nodes and o ONES ahead of it, so deep within -/
noncomputable def hr_Q (t : Nat → Int) (n lim : Nat) (a : hq_R) (cn o : Nat) (wi r : Int) (μ : xw_M) : Prop := (∃ p o1 c1 : Nat, a = .inr (p, o1) ∧ r = 1 ∧ hr_T t n lim p μ ∧ μ 200 42 = (o1 : Int) ∧ (o + 1 ≤ o1 ∧ o1 ≤ 20) ∧ μ 200 41 = (c1 : Int) ∧ (cn + 1 ≤ c1 ∧ c1 + 1 + 2 * o ≤ cn + 2 * o1) ∧ (0 ≤ μ 200 44 ∧ μ 200 44 < (c1 : Int)) ∧ μ 200 43 = wi) ∨ (∃ e : hp_E, a = .inl e ∧ r = 0 ∧ hr_W e μ ∧ μ 200 43 = wi)
set_option maxRecDepth 20000 in
set_option maxHeartbeats 20000000 in
theorem xt_fiL {l : Launch} {p : Program} {e : Env} {s : State} {m : MethodId} {args : Array Value} {below : List Frame} {meth : Method} {c : Code} {Q : State → Prop} {D : va_G} {dA : Nat → ClassId} {A : Nat → Prop} {al : List (Nat × Nat)} (C0 : sa_C p s m args c D dA A 6 vwCl sa_Ts cX12_findIn yX12_findIn.cls) (hU : sa_U D vwCl dA s) (hO : tb_Ou A s s.heap) (hKL : al.map Prod.snd = tc_KL) {nm : Nat → Int} {base m9 : Nat} {v q : Int} {μ : xw_M} (hN : ∀ i : Nat, i < m9 → μ 207 (base + i) = nm (base + i)) (hbm : base + m9 ≤ 14) (hv : -9223372036854775808 ≤ v ∧ v ≤ 9223372036854775807) (kx : q = -1 → xw_W p l e { frames := 2, cells := 0, slots := 0, locals := 120 } s m args below meth c Q D dA A 6 vwCl tb_KT0 al 0 0 μ 29 [(0, .ref (xw_ad al 207))] []) (kw : ∀ i : Nat, q = (i : Int) → xw_W p l e { frames := 2, cells := 0, slots := 0, locals := 120 } s m args below meth c Q D dA A 6 vwCl tb_KT0 al 0 0 μ 20 [(5, .int (Int32.ofInt (i : Int)))] []) : ∀ (fu9 : Nat) (i : Nat), ((m9 : Nat) : Int) - (i : Int) < (fu9 : Int) → i ≤ m9 → hp_fd nm base v (m9 - i) i = q → xw_W p l e { frames := 2, cells := 0, slots := 0, locals := 120 } s m args below meth c Q D dA A 6 vwCl tb_KT0 al 0 0 μ 3 [(5, .int (Int32.ofInt (i : Int))), (0, .ref (xw_ad al 207)), (1, .int (Int32.ofInt ((base : Nat) : Int))), (2, .int (Int32.ofInt ((m9 : Nat) : Int))), (3, .long (Int64.ofInt v))] [] := by
  intro fu9
  induction fu9 with
  | zero => intro i hm hi hq; exfalso; omega
  | succ fu9 ih =>
    intro i hm hi hq
    refine xw_iload (pc := 3) C0 0 dX12_findIn_3 rfl ?_
    refine xw_iload_n (pc := 5) C0 3 dX12_findIn_5 rfl rfl ?_
    refine xw_icmp_ge (pc := 6) (tgt := 29) C0 (by omega) (by omega) dX12_findIn_6 rfl (fun b1 => ?_) (fun b1 => ?_)
    · have e2 : m9 - i = 0 := by omega
      rw [e2] at hq
      refine xw_pk [1] (L' := [(0, .ref (xw_ad al 207))]) rfl ?_
      exact kx hq.symm
    · refine xw_aload_n (pc := 9) C0 1 dX12_findIn_9 rfl rfl ?_
      refine xw_iload_n (pc := 10) C0 2 dX12_findIn_10 rfl rfl ?_
      refine xw_iload (pc := 11) C0 0 dX12_findIn_11 rfl ?_
      refine xw_iadd (pc := 13) C0 dX12_findIn_13 ?_
      have e9 : ((base : Nat) : Int) + (i : Int) = ((base + i : Nat) : Int) := by omega
      rw [e9]
      refine xw_lald (pc := 14) (z := nm (base + i)) C0 dX12_findIn_14 (xj_207 hKL) xk_78 (by omega) (by decide +kernel) (xw_rl (by omega)) (hN i (by omega)) (fun g2 k2 => ?_)
      refine xw_lload_n (pc := 15) C0 4 dX12_findIn_15 rfl rfl ?_
      refine xw_lcmp (pc := 16) C0 (by omega) (by omega) dX12_findIn_16 (fun r3 g3 k3 c3 => ?_)
      refine xw_if_ne (pc := 17) (tgt := 23) C0 (by omega) dX12_findIn_17 rfl (fun b4 => ?_) (fun b4 => ?_)
      · refine xw_iinc (pc := 23) (L' := [(5, .int (Int32.ofInt ((i : Int) + 1))), (0, .ref (xw_ad al 207)), (1, .int (Int32.ofInt ((base : Nat) : Int))), (2, .int (Int32.ofInt ((m9 : Nat) : Int))), (3, .long (Int64.ofInt v))]) C0 0 dX12_findIn_23 rfl (by decide +kernel) rfl ?_
        refine xw_goto (pc := 26) (tgt := 3) C0 dX12_findIn_26 rfl ?_
        have e1 : (i : Int) + 1 = ((i + 1 : Nat) : Int) := by omega
        rw [e1]
        refine xw_pk [0, 1, 2, 3, 4] (L' := [(5, .int (Int32.ofInt ((i + 1 : Nat) : Int))), (0, .ref (xw_ad al 207)), (1, .int (Int32.ofInt ((base : Nat) : Int))), (2, .int (Int32.ofInt ((m9 : Nat) : Int))), (3, .long (Int64.ofInt v))]) rfl ?_
        refine ih (i + 1) (by omega) (by omega) ?_
        have e2 : m9 - i = (m9 - (i + 1)) + 1 := by omega
        rw [e2, hp_fd0 (by omega)] at hq
        exact hq
      · have e2 : m9 - i = (m9 - (i + 1)) + 1 := by omega
        rw [e2, hp_fd1 (by omega)] at hq
        refine xw_pk [0] (L' := [(5, .int (Int32.ofInt (i : Int)))]) rfl ?_
        exact kw i hq.symm
set_option maxRecDepth 20000 in
set_option maxHeartbeats 20000000 in
theorem xt_findIn {l : Launch} {nm : Nat → Int} {base m9 : Nat} {v : Int} {μ : xw_M} (hN : ∀ i : Nat, i < m9 → μ 207 (base + i) = nm (base + i)) (hbm : base + m9 ≤ 14) (hv : -9223372036854775808 ≤ v ∧ v ≤ 9223372036854775807) : xw_MetI l vwCl sa_Ts tb_KT0 tc_KL yX12_findIn cX12_findIn 6 (some .int) 2 120 (fun ad => [.ref (ad 207), .int (Int32.ofInt ((base : Nat) : Int)), .int (Int32.ofInt ((m9 : Nat) : Int)), .long (Int64.ofInt v)]) μ (fun r μ' => μ = μ' ∧ r = hp_f nm base m9 v) :=
  xw_of (by decide +kernel) (fun _ => Nat.le_of_ble_eq_true rfl) (fun p e s m args below meth c D dA A al w0 sz C0 hU hO hKL hr hlk hA => by
    refine xw_iconst (pc := 0) C0 dX12_findIn_0 ?_
    refine xw_istore (pc := 1) (L' := [(5, .int (Int32.ofInt 0)), (0, .ref (xw_ad al 207)), (1, .int (Int32.ofInt ((base : Nat) : Int))), (2, .int (Int32.ofInt ((m9 : Nat) : Int))), (3, .long (Int64.ofInt v))]) C0 dX12_findIn_1 (by decide +kernel) rfl ?_
    refine xw_pk [0, 1, 2, 3, 4] (L' := [(5, .int (Int32.ofInt ((0 : Nat) : Int))), (0, .ref (xw_ad al 207)), (1, .int (Int32.ofInt ((base : Nat) : Int))), (2, .int (Int32.ofInt ((m9 : Nat) : Int))), (3, .long (Int64.ofInt v))]) rfl ?_
    refine xt_fiL (nm := nm) (base := base) (m9 := m9) (v := v) (q := hp_f nm base m9 v) C0 hU hO hKL hN hbm hv (fun q9 => ?_) (fun i q9 => ?_) 100 0 (by omega) (Nat.zero_le _) rfl
    · refine xw_iconst (pc := 29) C0 dX12_findIn_29 ?_
      refine xw_iret C0 hA hr hlk rfl dX12_findIn_30 ?_
      exact ⟨_, rfl, rfl, q9.symm⟩
    · have u9 := hp_fb nm base m9 v
      refine xw_iload (pc := 20) C0 0 dX12_findIn_20 rfl ?_
      refine xw_iret C0 hA hr hlk rfl dX12_findIn_22 ?_
      exact ⟨_, rfl, rfl, q9.symm⟩)
set_option maxRecDepth 20000 in
set_option maxHeartbeats 20000000 in
theorem xt_named {l : Launch} {t nm : Nat → Int} {n lim pz base m9 : Nat} {μ : xw_M} (hS : hr_S t n lim μ) (hT : hr_T t n lim pz μ) (hN : ∀ i : Nat, i < m9 → μ 207 (base + i) = nm (base + i)) (hbm : base + m9 ≤ 14) : xw_MetI l vwCl sa_Ts tb_KT0 tc_KL yX12_readNamed cX12_readNamed 3 (some .boolean) 5 189 (fun ad => [.ref (ad 200), .int (Int32.ofInt ((base : Nat) : Int)), .int (Int32.ofInt ((m9 : Nat) : Int))]) μ (fun r μ' => hr_B t n lim (hp_one t n lim nm base m9 pz) true r μ' ∧ xw_F [(200, 5, 13)] μ μ') :=
  xw_of (by decide +kernel) (fun _ => Nat.le_of_ble_eq_true rfl) (fun p e s m args below meth c D dA A al w0 sz C0 hU hO hKL hr hlk hA => by
    have n_μ := hS.2.2.1
    have l_μ := hS.2.2.2.1
    have b_μ := hS.2.2.2.2
    obtain ⟨hp9, c2, c3, c4, c5, c6, c7⟩ := id hT
    have hpl := hp_plb (t := t) (lim := lim) hp9
    have hkb := hp_kb t n lim pz
    refine xw_aload_n (pc := 0) C0 0 dX12_readNamed_0 rfl rfl ?_
    refine xw_callVI (pc := 1) (μ := μ) (ci := 12) (rest := []) (As := []) C0 hU hO sa_Tg hKL (xr_isName (l := l) hS hT) tv_1471 dX12_readNamed_1 tv_1468 tv_1470 tq_X12_isName tv_13 rfl yb_X12_isName (by decide +kernel) rfl rfl rfl (by decide +kernel) (Nat.le_of_ble_eq_true rfl) (xj_200 hKL) xk_0 (fun r1 m1 w1 => ?_)
    obtain ⟨rfl, w1⟩ := w1
    rcases w1 with ⟨w1, rfl⟩ | ⟨w1, rfl⟩
    · refine xw_if_ne (pc := 4) (tgt := 13) C0 (by omega) dX12_readNamed_4 rfl (fun b2 => ?_) (fun b2 => ?_)
      · refine xw_aload_n (pc := 13) C0 0 dX12_readNamed_13 rfl rfl ?_
        refine xw_aload_n (pc := 14) C0 0 dX12_readNamed_14 rfl rfl ?_
        refine xw_getR (pc := 15) (f := 19) C0 207 kcX12 dX12_readNamed_15 (by decide +kernel) tv_1280 (xj_200 hKL) xk_0 rfl ((rfl).trans (xe_200_19 hS.1)) ?_
        refine xw_iload_n (pc := 18) C0 1 dX12_readNamed_18 rfl rfl ?_
        refine xw_iload_n (pc := 19) C0 2 dX12_readNamed_19 rfl rfl ?_
        refine xw_aload_n (pc := 20) C0 0 dX12_readNamed_20 rfl rfl ?_
        refine xw_getL (pc := 21) (f := 12) (z := μ 200 12) C0 kcX12 dX12_readNamed_21 (by decide +kernel) tv_1273 (xj_200 hKL) xk_0 rfl (rfl) (fun g3 k3 => ?_)
        have hw9 := hp_wb (t := t) (n := n) (lim := lim) (p := pz) (by omega)
        refine xw_nL (congrArg Int64.ofInt (c4 (by omega))) ?_
        refine xw_callSI (pc := 24) (μ := μ) (rest := [.ref (xw_ad al 200)]) (As := [.ref (xw_ad al 207), .int (Int32.ofInt ((base : Nat) : Int)), .int (Int32.ofInt ((m9 : Nat) : Int)), .long (Int64.ofInt (hp_w t n pz))]) C0 hU hO sa_Tg hKL (xt_findIn (l := l) (nm := nm) (base := base) (m9 := m9) (v := hp_w t n pz) hN hbm (by omega)) tv_1474 dX12_readNamed_24 tv_1472 tv_1473 tv_13 yb_X12_findIn (by decide +kernel) rfl rfl rfl (by decide +kernel) (Nat.le_of_ble_eq_true rfl) (fun r4 m4 w4 => ?_)
        obtain ⟨rfl, w4⟩ := w4
        have u4 := hp_fb nm base m9 (hp_w t n pz)
        refine xw_putI (pc := 27) (f := 13) C0 kcX12 dX12_readNamed_27 (by decide +kernel) tv_1274 rfl rfl (xj_200 hKL) xk_0 rfl (by omega) (by omega) ?_
        refine xw_aload_n (pc := 30) C0 0 dX12_readNamed_30 rfl rfl ?_
        refine xw_getI (pc := 31) (f := 13) (z := r4) C0 kcX12 dX12_readNamed_31 (by decide +kernel) tv_1274 (xj_200 hKL) xk_0 rfl (xw_ug) (fun g5 k5 => ?_)
        refine xw_iconst (pc := 34) C0 dX12_readNamed_34 ?_
        refine xw_icmp_ne (pc := 35) (tgt := 44) C0 (by omega) (by omega) dX12_readNamed_35 rfl (fun b6 => ?_) (fun b6 => ?_)
        · refine xw_aload_n (pc := 44) C0 0 dX12_readNamed_44 rfl rfl ?_
          have Ft1 : xw_F [(200, 13, 13)] μ (xw_u μ 200 13 r4) := ((xw_F.rf (ML := [(200, 13, 13)])).u (show (200, 13, 13) ∈ _ by decide) ⟨by decide, by decide⟩)
          have vt1_200_13 : (xw_u μ 200 13 r4) 200 13 = r4 := xw_ug
          generalize (xw_u μ 200 13 r4) = t1 at Ft1 vt1_200_13 ⊢
          have hS_t1 := hr_SF hS Ft1 (by decide +kernel)
          have n_t1 := hS_t1.2.2.1
          have l_t1 := hS_t1.2.2.2.1
          have b_t1 := hS_t1.2.2.2.2
          refine xw_callVV (pc := 45) (μ := t1) (ci := 12) (rest := []) (As := []) C0 hU hO sa_Tg hKL (xr_go (l := l) (pz := hp_x t n pz) hS_t1 (by have q9 := c7 (by omega); have q8 : t1 200 5 = μ 200 5 := Ft1 200 5 rfl; omega) (hp_xb (lim := lim) hp9 (by omega))) tv_1425 dX12_readNamed_45 tv_1422 tv_1424 tq_X12_go tv_13 rfl yb_X12_go (by decide +kernel) rfl rfl rfl (by decide +kernel) (Nat.le_of_ble_eq_true rfl) (xj_200 hKL) xk_0 (fun m7 w7 => ?_)
          obtain ⟨T7, F7⟩ := w7
          have hS_m7 := hr_SF hS_t1 F7 (by decide +kernel)
          have n_m7 := hS_m7.2.2.1
          have l_m7 := hS_m7.2.2.2.1
          have b_m7 := hS_m7.2.2.2.2
          refine xw_iconst (pc := 48) C0 dX12_readNamed_48 ?_
          refine xw_iret C0 hA hr hlk rfl dX12_readNamed_49 ?_
          have eo : hp_one t n lim nm base m9 pz = .inr (hp_f nm base m9 (hp_w t n pz), hp_x t n pz) := by
            unfold hp_one
            rw [if_pos (by omega), if_neg (by omega)]
          have y13 : m7 200 13 = t1 200 13 := (F7 200 13 rfl).trans rfl
          exact ⟨_, rfl, Or.inl ⟨_, _, eo, rfl, T7, fun _ => by omega⟩, (((xw_F.rf (ML := [(200, 5, 13)])).tr Ft1 (fun j i h => xw_o_sub (by decide +kernel) j i h)).tr F7 (fun j i h => xw_o_sub (by decide +kernel) j i h))⟩
        · refine xw_aload_n (pc := 38) C0 0 dX12_readNamed_38 rfl rfl ?_
          refine xw_iconst (pc := 39) C0 dX12_readNamed_39 ?_
          have Ft2 : xw_F [(200, 13, 13)] μ (xw_u μ 200 13 r4) := ((xw_F.rf (ML := [(200, 13, 13)])).u (show (200, 13, 13) ∈ _ by decide) ⟨by decide, by decide⟩)
          have vt2_200_13 : (xw_u μ 200 13 r4) 200 13 = r4 := xw_ug
          generalize (xw_u μ 200 13 r4) = t2 at Ft2 vt2_200_13 ⊢
          have hS_t2 := hr_SF hS Ft2 (by decide +kernel)
          have n_t2 := hS_t2.2.2.1
          have l_t2 := hS_t2.2.2.2.1
          have b_t2 := hS_t2.2.2.2.2
          refine xw_callVI (pc := 40) (μ := t2) (ci := 12) (rest := []) (As := [.int (Int32.ofInt 3)]) C0 hU hO sa_Tg hKL (xr_bad (l := l) (v := 3) hS_t2 (hr_TF hT Ft2 (by decide +kernel)) (by omega) (by omega)) tv_1463 dX12_readNamed_40 tv_1460 tv_1462 tq_X12_bad tv_13 rfl yb_X12_bad (by decide +kernel) rfl rfl rfl (by decide +kernel) (Nat.le_of_ble_eq_true rfl) (xj_200 hKL) xk_0 (fun r8 m8 w8 => ?_)
          obtain ⟨rfl, W8, F8⟩ := w8
          refine xw_iret C0 hA hr hlk rfl dX12_readNamed_43 ?_
          have eo : hp_one t n lim nm base m9 pz = .inl (hp_bad t n lim 3 pz) := by
            unfold hp_one
            rw [if_pos (by omega), if_pos (by omega)]
          exact ⟨_, rfl, Or.inr ⟨_, eo, rfl, W8⟩, (((xw_F.rf (ML := [(200, 5, 13)])).tr Ft2 (fun j i h => xw_o_sub (by decide +kernel) j i h)).tr F8 (fun j i h => xw_o_sub (by decide +kernel) j i h))⟩
      · exfalso
        omega
    · refine xw_if_ne (pc := 4) (tgt := 13) C0 (by omega) dX12_readNamed_4 rfl (fun b10 => ?_) (fun b10 => ?_)
      · exfalso
        omega
      · refine xw_aload_n (pc := 7) C0 0 dX12_readNamed_7 rfl rfl ?_
        refine xw_iconst (pc := 8) C0 dX12_readNamed_8 ?_
        refine xw_callVI (pc := 9) (μ := μ) (ci := 12) (rest := []) (As := [.int (Int32.ofInt 1)]) C0 hU hO sa_Tg hKL (xr_bad (l := l) (v := 1) hS hT (by omega) (by omega)) tv_1463 dX12_readNamed_9 tv_1460 tv_1462 tq_X12_bad tv_13 rfl yb_X12_bad (by decide +kernel) rfl rfl rfl (by decide +kernel) (Nat.le_of_ble_eq_true rfl) (xj_200 hKL) xk_0 (fun r11 m11 w11 => ?_)
        obtain ⟨rfl, W11, F11⟩ := w11
        refine xw_iret C0 hA hr hlk rfl dX12_readNamed_12 ?_
        have eo : hp_one t n lim nm base m9 pz = .inl (hp_bad t n lim 1 pz) := if_neg (by omega)
        exact ⟨_, rfl, Or.inr ⟨_, eo, rfl, W11⟩, ((xw_F.rf (ML := [(200, 5, 13)])).tr F11 (fun j i h => xw_o_sub (by decide +kernel) j i h))⟩)
