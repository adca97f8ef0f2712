set_option maxRecDepth 20000 in
set_option maxHeartbeats 20000000 in
theorem xh_addCure {l : Launch} {rd nm : Nat → Int} {f9 d c9 : Int} {pz : Nat} {μ : xw_M} (hG : xw_G xw_GL μ) (hH : hc_H rd nm μ) (hK : hp_ok rd nm) (hf : 0 ≤ f9 ∧ f9 ≤ 7) (hd9 : 0 ≤ d ∧ d ≤ 2) (hc : 1 ≤ c9 ∧ c9 ≤ 12) (h16 : rd 2 < 16) : xw_MetV l vwCl sa_Ts tb_KT0 tc_KL yX2_addCure cX2_addCure 4 none 2 120 (fun ad => [.ref (ad 107), .int (Int32.ofInt f9), .int (Int32.ofInt d), .int (Int32.ofInt c9)]) μ (fun μ' => hc_H (hp_C rd nm f9 d c9 pz).2.1 (hp_C rd nm f9 d c9 pz).2.2 μ' ∧ xw_F [(107, 15, 15), (120, 0, 23)] μ μ') :=
  xw_of (by decide) (fun _ => Nat.le_of_ble_eq_true rfl) (fun p e s m args below meth c D dA A al w0 sz C0 hU hO hKL hr hlk hA => by
    have k2 := hK.2.2.1
    have e15 := hH.1.2.2
    refine xw_aload_n (pc := 0) C0 0 dX2_addCure_0 rfl rfl ?_
    refine xw_getR (pc := 1) (f := 12) C0 120 kcX2 dX2_addCure_1 (by decide) tv_95 (xj_107 hKL) xk_28 rfl ((rfl).trans (xe_107_12 hG)) ?_
    refine xw_iload_n (pc := 4) C0 1 dX2_addCure_4 rfl rfl ?_
    refine xw_iconst (pc := 5) C0 dX2_addCure_5 ?_
    refine xw_imul (pc := 6) C0 dX2_addCure_6 ?_
    refine xw_iload_n (pc := 7) C0 2 dX2_addCure_7 rfl rfl ?_
    refine xw_iadd (pc := 8) C0 dX2_addCure_8 ?_
    refine xw_iload_n (pc := 9) C0 3 dX2_addCure_9 rfl rfl ?_
    obtain ⟨J, hJ, hJ2⟩ : ∃ J : Nat, f9 * 3 + d = (J : Int) ∧ J < 24 := ⟨(f9 * 3 + d).toNat, by omega, by omega⟩
    rw [hJ]
    refine xw_iast (pc := 10) C0 dX2_addCure_10 (xj_120 hKL) xk_41 (by omega) (by decide) (xw_rl (by omega)) (by omega) (by omega) ?_
    refine xw_aload_n (pc := 11) C0 0 dX2_addCure_11 rfl rfl ?_
    refine xw_dup (pc := 12) C0 dX2_addCure_12 rfl ?_
    refine xw_getI (pc := 13) (f := 15) (z := μ 107 15) C0 kcX2 dX2_addCure_13 (by decide) tv_105 (xj_107 hKL) xk_28 rfl ((xw_un (fun q => absurd q.1 (by decide))).trans rfl) (fun g1 k1 => ?_)
    refine xw_iconst (pc := 16) C0 dX2_addCure_16 ?_
    refine xw_iadd (pc := 17) C0 dX2_addCure_17 ?_
    refine xw_putI (pc := 18) (f := 15) C0 kcX2 dX2_addCure_18 (by decide) tv_105 rfl rfl (xj_107 hKL) xk_28 rfl (by omega) (by omega) ?_
    refine xw_vret C0 hA hr hlk dX2_addCure_21 ?_
    have A120 : ∀ i : Nat, (xw_u (xw_u μ 120 ((J : Int)).toNat c9) 107 15 ((μ 107 15) + 1)) 120 i = if i = J then c9 else μ 120 i := fun i => (xw_un (fun q => absurd q.1 (by decide))).trans (xw_ui (fun i => rfl))
    have V15 : (xw_u (xw_u μ 120 ((J : Int)).toNat c9) 107 15 ((μ 107 15) + 1)) 107 15 = (μ 107 15) + 1 := xw_ug
    have Fz1 : xw_F [(107, 15, 15), (120, 0, 23)] μ (xw_u (xw_u μ 120 ((J : Int)).toNat c9) 107 15 ((μ 107 15) + 1)) := (((xw_F.rf (ML := [(107, 15, 15), (120, 0, 23)])).u (show (120, 0, 23) ∈ _ by decide) ⟨by omega, by omega⟩).u (show (107, 15, 15) ∈ _ by decide) ⟨by decide, by decide⟩)
    generalize (xw_u (xw_u μ 120 ((J : Int)).toNat c9) 107 15 ((μ 107 15) + 1)) = z1 at Fz1 V15 A120 ⊢
    have e15 : μ 107 15 = rd 2 := hH.1.2.2
    refine ⟨rfl, hc_HC (J := J) hH (by omega) hJ2 (Fz1 107 13 rfl) (Fz1 107 14 rfl) (by omega) A120 (fun j i h1 h2 => Fz1 j i ?_), Fz1⟩
    unfold xw_o
    rw [List.all_eq_true]
    intro q hq
    simp only [List.mem_cons, List.not_mem_nil, or_false] at hq
    have e8 : Nat.beq q.1 j = false := by
      cases hb : Nat.beq q.1 j with
      | false => rfl
      | true =>
        exfalso
        have e7 := Nat.eq_of_beq_eq_true hb
        rcases hq with rfl | rfl <;> simp only at e7 <;> omega
    rw [e8]
    rfl)
/-- a LINE read: what is told then; or what is wrong -/
noncomputable def hc_L (t : Nat → Int) (n lim : Nat) (o : Sum hp_E hp_H) (r : Int) (μ : xw_M) : Prop := (∃ q : hp_H, o = .inr q ∧ r = 1 ∧ hc_T t n lim q.1 μ ∧ μ 104 8 = 0 ∧ hc_H q.2.1 q.2.2 μ ∧ hp_ok q.2.1 q.2.2) ∨ (∃ e : hp_E, o = .inl e ∧ r = 0 ∧ hc_W e μ)
theorem hc_kk {t : Nat → Int} {n lim pz : Nat} {μ : xw_M} (h : hc_T t n lim pz μ) : (hp_k t n lim pz = 2 ∧ μ 104 6 = hp_kw (hp_w t n pz)) ∨ (¬ hp_k t n lim pz = 2 ∧ μ 104 6 = -1) := by
  obtain ⟨-, -, -, h4, h5, -⟩ := h
  by_cases q : hp_k t n lim pz = 2
  · exact Or.inl ⟨q, (h4 q).2⟩
  · exact Or.inr ⟨q, h5 q⟩
set_option maxRecDepth 20000 in
set_option maxHeartbeats 20000000 in
theorem xh_readThing {l : Launch} {t rd nm : Nat → Int} {n lim pz : Nat} {μ : xw_M} (hS : hc_S t n lim μ) (hT : hc_T t n lim pz μ) (hw : μ 104 8 = 0) (hH : hc_H rd nm μ) (hK : hp_ok rd nm) (hk : hp_k t n lim pz = 2) : xw_MetI l vwCl sa_Ts tb_KT0 tc_KL yX3_readThing cX3_readThing 6 (some .boolean) 6 210 (fun ad => [.ref (ad 103)]) μ (fun r μ' => hc_L t n lim (hp_thing t n lim rd nm pz) r μ' ∧ xw_F [(104, 2, 9), (107, 13, 15), (108, 0, 5), (109, 0, 5), (110, 0, 5), (111, 0, 5), (112, 0, 5), (113, 0, 5), (114, 0, 5), (115, 0, 7), (116, 0, 7), (117, 0, 7), (118, 0, 7), (119, 0, 7), (120, 0, 23)] μ μ') :=
  xw_of (by decide) (fun _ => Nat.le_of_ble_eq_true rfl) (fun p e s m args below meth c D dA A al w0 sz C0 hU hO hKL hr hlk hA => by
    have n_μ := hS.2.2.1
    have l_μ := hS.2.2.2.2.1
    have b_μ := hS.2.2.2.2.2
    have hp9 := hT.1
    have c2 := hT.2.1
    have c3 := hT.2.2.1
    have kk := hc_kk hT
    have hpl := hp_plb (t := t) (lim := lim) hp9
    have hkb := hp_kb t n lim pz
    have k0 := hK.1
    have k1 := hK.2.1
    have k2 := hK.2.2.1
    have h13 := hH.1.1
    have h14 := hH.1.2.1
    have h15 := hH.1.2.2
    refine xw_aload_n (pc := 0) C0 0 dX3_readThing_0 rfl rfl ?_
    refine xw_getR (pc := 1) (f := 1) C0 107 kcX3 dX3_readThing_1 (by decide) tv_331 (xj_103 hKL) xk_67 rfl ((rfl).trans (xe_103_1 hS.1)) ?_
    refine xw_getI (pc := 4) (f := 13) (z := μ 107 13) C0 kcX2 dX3_readThing_4 (by decide) tv_97 (xj_107 hKL) xk_28 rfl (rfl) (fun g1 k1 => ?_)
    refine xw_bipush (pc := 7) C0 dX3_readThing_7 (by decide) ?_
    refine xw_icmp_lt (pc := 9) (tgt := 21) C0 (by omega) (by omega) dX3_readThing_9 rfl (fun b2 => ?_) (fun b2 => ?_)
    · refine xw_aload_n (pc := 21) C0 0 dX3_readThing_21 rfl rfl ?_
      refine xw_getR (pc := 22) (f := 0) C0 104 kcX3 dX3_readThing_22 (by decide) tv_329 (xj_103 hKL) xk_67 rfl ((rfl).trans (xe_103_0 hS.1)) ?_
      refine xw_callVV (pc := 25) (μ := μ) (ci := 6) (rest := []) (As := []) C0 hU hO sa_Tg hKL (xh_step (l := l) (pz := hp_x t n pz) hS (hT.2.2.2.2.2.2.2 (by omega)) (hp_xb (lim := lim) hp9 (by omega))) tv_509 dX3_readThing_25 tv_547 tv_507 tv_508 tv_9 rfl yb_X6_step (by decide) rfl rfl rfl (by decide) (Nat.le_of_ble_eq_true rfl) (xj_104 hKL) xk_17 (fun m3 w3 => ?_)
      obtain ⟨hT_m3, F3⟩ := w3
      generalize hq3 : hp_x t n pz = p3 at hT_m3 
      have hS_m3 := hc_SF hS F3 (by decide)
      have n_m3 := hS_m3.2.2.1
      have l_m3 := hS_m3.2.2.2.2.1
      have b_m3 := hS_m3.2.2.2.2.2
      have hp9_m3 := hT_m3.1
      have c2_m3 := hT_m3.2.1
      have c3_m3 := hT_m3.2.2.1
      have kk_m3 := hc_kk hT_m3
      have hkb_m3 := hp_kb t n lim p3
      have hpl_m3 := hp_plb (t := t) (lim := lim) hp9_m3
      have hw_m3 : m3 104 8 = 0 := (F3 104 8 rfl).trans hw
      have hH_m3 := hc_HF hH F3 (by decide)
      refine xw_aload_n (pc := 28) C0 0 dX3_readThing_28 rfl rfl ?_
      refine xw_callVI (pc := 29) (μ := m3) (ci := 3) (rest := []) (As := []) C0 hU hO sa_Tg hKL (xh_isNewName (l := l) (rd := rd) (nm := nm) hS_m3 hT_m3 hw_m3 hH_m3 hK) tv_551 dX3_readThing_29 tv_548 tv_550 tq_X3_isNewName tv_8 rfl yb_X3_isNewName (by decide) rfl rfl rfl (by decide) (Nat.le_of_ble_eq_true rfl) (xj_103 hKL) xk_67 (fun r4 m4 w4 => ?_)
      rcases w4 with ⟨eo4, rfl, rfl⟩ | ⟨er4, eo4, rfl, W4, F4⟩
      · obtain ⟨hv4, -, hk4⟩ := hp_newR eo4
        refine xw_if_ne (pc := 32) (tgt := 37) C0 (by omega) dX3_readThing_32 rfl (fun b5 => ?_) (fun b5 => ?_)
        · refine xw_aload_n (pc := 37) C0 0 dX3_readThing_37 rfl rfl ?_
          refine xw_getR (pc := 38) (f := 0) C0 104 kcX3 dX3_readThing_38 (by decide) tv_329 (xj_103 hKL) xk_67 rfl (((F3 103 0 rfl).trans rfl).trans (xe_103_0 hS.1)) ?_
          refine xw_getL (pc := 41) (f := 5) (z := m3 104 5) C0 kcX6 dX3_readThing_41 (by decide) tv_295 (xj_104 hKL) xk_17 rfl (rfl) (fun g6 k6 => ?_)
          refine xw_nL (congrArg Int64.ofInt (hT_m3.2.2.2.1 (by omega)).1) ?_
          refine xw_lstore_n (pc := 44) (L' := [(1, .long (Int64.ofInt (hp_cv (hp_w t n p3)))), (0, .ref (xw_ad al 103))]) C0 dX3_readThing_44 rfl (by decide) rfl ?_
          refine xw_aload_n (pc := 45) C0 1 dX3_readThing_45 rfl rfl ?_
          refine xw_getR (pc := 46) (f := 0) C0 104 kcX3 dX3_readThing_46 (by decide) tv_329 (xj_103 hKL) xk_67 rfl (((F3 103 0 rfl).trans rfl).trans (xe_103_0 hS.1)) ?_
          refine xw_callVV (pc := 49) (μ := m3) (ci := 6) (rest := []) (As := []) C0 hU hO sa_Tg hKL (xh_step (l := l) (pz := hp_x t n p3) hS_m3 (hT_m3.2.2.2.2.2.2.2 (by omega)) (hp_xb (lim := lim) hp9_m3 (by omega))) tv_509 dX3_readThing_49 tv_547 tv_507 tv_508 tv_9 rfl yb_X6_step (by decide) rfl rfl rfl (by decide) (Nat.le_of_ble_eq_true rfl) (xj_104 hKL) xk_17 (fun m7 w7 => ?_)
          obtain ⟨hT_m7, F7⟩ := w7
          generalize hq7 : hp_x t n p3 = p7 at hT_m7 eo4
          have hS_m7 := hc_SF hS_m3 F7 (by decide)
          have n_m7 := hS_m7.2.2.1
          have l_m7 := hS_m7.2.2.2.2.1
          have b_m7 := hS_m7.2.2.2.2.2
          have hp9_m7 := hT_m7.1
          have c2_m7 := hT_m7.2.1
          have c3_m7 := hT_m7.2.2.1
          have kk_m7 := hc_kk hT_m7
          have hkb_m7 := hp_kb t n lim p7
          have hpl_m7 := hp_plb (t := t) (lim := lim) hp9_m7
          have hw_m7 : m7 104 8 = 0 := (F7 104 8 rfl).trans hw_m3
          have hH_m7 := hc_HF hH_m3 F7 (by decide)
          refine xw_aload_n (pc := 52) C0 1 dX3_readThing_52 rfl rfl ?_
          refine xw_getR (pc := 53) (f := 0) C0 104 kcX3 dX3_readThing_53 (by decide) tv_329 (xj_103 hKL) xk_67 rfl (((F7 103 0 rfl).trans ((F3 103 0 rfl).trans rfl)).trans (xe_103_0 hS.1)) ?_
          refine xw_iconst (pc := 56) C0 dX3_readThing_56 ?_
          refine xw_bipush (pc := 57) C0 dX3_readThing_57 (by decide) ?_
          refine xw_callVI (pc := 59) (μ := m7) (ci := 6) (rest := []) (As := [.int (Int32.ofInt 1), .int (Int32.ofInt 30)]) C0 hU hO sa_Tg hKL (xh_takeNumber (l := l) (a := 1) (b := 30) hS_m7 hT_m7 hw_m7 (by omega) (by omega)) tv_568 dX3_readThing_59 tv_565 tv_566 tv_567 tv_9 rfl yb_X6_takeNumber (by decide) rfl rfl rfl (by decide) (Nat.le_of_ble_eq_true rfl) (xj_104 hKL) xk_17 (fun r8 m8 w8 => ?_)
          obtain ⟨w8, F8⟩ := w8
          rcases w8 with ⟨v8, p8, eo8, rfl, vn8, hT_m8, x8⟩ | ⟨er8, eo8, rfl, W8⟩
          · have vbr8 := (hp_numR eo8).1
            have hS_m8 := hc_SF hS_m7 F8 (by decide)
            have n_m8 := hS_m8.2.2.1
            have l_m8 := hS_m8.2.2.2.2.1
            have b_m8 := hS_m8.2.2.2.2.2
            have hp9_m8 := hT_m8.1
            have c2_m8 := hT_m8.2.1
            have c3_m8 := hT_m8.2.2.1
            have kk_m8 := hc_kk hT_m8
            have hkb_m8 := hp_kb t n lim p8
            have hpl_m8 := hp_plb (t := t) (lim := lim) hp9_m8
            have hw_m8 : m8 104 8 = 0 := x8
            have hH_m8 := hc_HF hH_m7 F8 (by decide)
            refine xw_istore_n (pc := 62) (L' := [(3, .int (Int32.ofInt r8)), (1, .long (Int64.ofInt (hp_cv (hp_w t n p3)))), (0, .ref (xw_ad al 103))]) C0 dX3_readThing_62 rfl (by decide) rfl ?_
            refine xw_iload_n (pc := 63) C0 0 dX3_readThing_63 rfl rfl ?_
            refine xw_iconst (pc := 64) C0 dX3_readThing_64 ?_
            refine xw_icmp_ne (pc := 65) (tgt := 72) C0 (by omega) (by omega) dX3_readThing_65 rfl (fun b10 => ?_) (fun b10 => ?_)
            · refine xw_aload_n (pc := 72) C0 2 dX3_readThing_72 rfl rfl ?_
              refine xw_getR (pc := 73) (f := 0) C0 104 kcX3 dX3_readThing_73 (by decide) tv_329 (xj_103 hKL) xk_67 rfl (((F8 103 0 rfl).trans ((F7 103 0 rfl).trans ((F3 103 0 rfl).trans rfl))).trans (xe_103_0 hS.1)) ?_
              refine xw_iconst (pc := 76) C0 dX3_readThing_76 ?_
              refine xw_bipush (pc := 77) C0 dX3_readThing_77 (by decide) ?_
              refine xw_callVI (pc := 79) (μ := m8) (ci := 6) (rest := []) (As := [.int (Int32.ofInt 0), .int (Int32.ofInt 20)]) C0 hU hO sa_Tg hKL (xh_takeNumber (l := l) (a := 0) (b := 20) hS_m8 hT_m8 hw_m8 (by omega) (by omega)) tv_568 dX3_readThing_79 tv_565 tv_566 tv_567 tv_9 rfl yb_X6_takeNumber (by decide) rfl rfl rfl (by decide) (Nat.le_of_ble_eq_true rfl) (xj_104 hKL) xk_17 (fun r11 m11 w11 => ?_)
              obtain ⟨w11, F11⟩ := w11
              rcases w11 with ⟨v11, p11, eo11, rfl, vn11, hT_m11, x11⟩ | ⟨er11, eo11, rfl, W11⟩
              · have vbr11 := (hp_numR eo11).1
                have hS_m11 := hc_SF hS_m8 F11 (by decide)
                have n_m11 := hS_m11.2.2.1
                have l_m11 := hS_m11.2.2.2.2.1
                have b_m11 := hS_m11.2.2.2.2.2
                have hp9_m11 := hT_m11.1
                have c2_m11 := hT_m11.2.1
                have c3_m11 := hT_m11.2.2.1
                have kk_m11 := hc_kk hT_m11
                have hkb_m11 := hp_kb t n lim p11
                have hpl_m11 := hp_plb (t := t) (lim := lim) hp9_m11
                have hw_m11 : m11 104 8 = 0 := x11
                have hH_m11 := hc_HF hH_m8 F11 (by decide)
                refine xw_istore (pc := 82) (L' := [(4, .int (Int32.ofInt r11)), (3, .int (Int32.ofInt r8)), (1, .long (Int64.ofInt (hp_cv (hp_w t n p3)))), (0, .ref (xw_ad al 103))]) C0 dX3_readThing_82 (by decide) rfl ?_
                refine xw_iload (pc := 84) C0 0 dX3_readThing_84 rfl ?_
                refine xw_iconst (pc := 86) C0 dX3_readThing_86 ?_
                refine xw_icmp_ne (pc := 87) (tgt := 92) C0 (by omega) (by omega) dX3_readThing_87 rfl (fun b12 => ?_) (fun b12 => ?_)
                · refine xw_iconst (pc := 92) C0 dX3_readThing_92 ?_
                  refine xw_istore (pc := 93) (L' := [(5, .int (Int32.ofInt (-1))), (4, .int (Int32.ofInt r11)), (3, .int (Int32.ofInt r8)), (1, .long (Int64.ofInt (hp_cv (hp_w t n p3)))), (0, .ref (xw_ad al 103))]) C0 dX3_readThing_93 (by decide) rfl ?_
                  refine xw_aload_n (pc := 95) C0 4 dX3_readThing_95 rfl rfl ?_
                  refine xw_getR (pc := 96) (f := 0) C0 104 kcX3 dX3_readThing_96 (by decide) tv_329 (xj_103 hKL) xk_67 rfl (((F11 103 0 rfl).trans ((F8 103 0 rfl).trans ((F7 103 0 rfl).trans ((F3 103 0 rfl).trans rfl)))).trans (xe_103_0 hS.1)) ?_
                  refine xw_getI (pc := 99) (f := 6) (z := m11 104 6) C0 kcX6 dX3_readThing_99 (by decide) tv_296 (xj_104 hKL) xk_17 rfl (rfl) (fun g13 k13 => ?_)
                  refine xw_iconst (pc := 102) C0 dX3_readThing_102 ?_
                  refine xw_icmp_ne (pc := 103) (tgt := 134) C0 (by omega) (by omega) dX3_readThing_103 rfl (fun b14 => ?_) (fun b14 => ?_)
                  · refine xw_aload_n (pc := 134) C0 4 dX3_readThing_134 rfl rfl ?_
                    refine xw_getR (pc := 135) (f := 0) C0 104 kcX3 dX3_readThing_135 (by decide) tv_329 (xj_103 hKL) xk_67 rfl (((F11 103 0 rfl).trans ((F8 103 0 rfl).trans ((F7 103 0 rfl).trans ((F3 103 0 rfl).trans rfl)))).trans (xe_103_0 hS.1)) ?_
                    refine xw_bipush (pc := 138) C0 dX3_readThing_138 (by decide) ?_
                    refine xw_callVI (pc := 140) (μ := m11) (ci := 6) (rest := []) (As := [.int (Int32.ofInt 59)]) C0 hU hO sa_Tg hKL (xh_takeSign (l := l) hS_m11 hT_m11 hw_m11) tv_578 dX3_readThing_140 tv_575 tv_576 tv_577 tv_9 rfl yb_X6_takeSign (by decide) rfl rfl rfl (by decide) (Nat.le_of_ble_eq_true rfl) (xj_104 hKL) xk_17 (fun r15 m15 w15 => ?_)
                    obtain ⟨w15, F15⟩ := w15
                    rcases w15 with ⟨v15, p15, eo15, rfl, hT_m15, x15⟩ | ⟨er15, eo15, rfl, W15⟩
                    · have hS_m15 := hc_SF hS_m11 F15 (by decide)
                      have n_m15 := hS_m15.2.2.1
                      have l_m15 := hS_m15.2.2.2.2.1
                      have b_m15 := hS_m15.2.2.2.2.2
                      have hp9_m15 := hT_m15.1
                      have c2_m15 := hT_m15.2.1
                      have c3_m15 := hT_m15.2.2.1
                      have kk_m15 := hc_kk hT_m15
                      have hkb_m15 := hp_kb t n lim p15
                      have hpl_m15 := hp_plb (t := t) (lim := lim) hp9_m15
                      have hw_m15 : m15 104 8 = 0 := x15
                      have hH_m15 := hc_HF hH_m11 F15 (by decide)
                      refine xw_if_ne (pc := 143) (tgt := 148) C0 (by omega) dX3_readThing_143 rfl (fun b16 => ?_) (fun b16 => ?_)
                      · refine xw_aload_n (pc := 148) C0 4 dX3_readThing_148 rfl rfl ?_
                        refine xw_getR (pc := 149) (f := 1) C0 107 kcX3 dX3_readThing_149 (by decide) tv_331 (xj_103 hKL) xk_67 rfl (((F15 103 1 rfl).trans ((F11 103 1 rfl).trans ((F8 103 1 rfl).trans ((F7 103 1 rfl).trans ((F3 103 1 rfl).trans rfl))))).trans (xe_103_1 hS.1)) ?_
                        refine xw_lload_n (pc := 152) C0 3 dX3_readThing_152 rfl rfl ?_
                        refine xw_iload_n (pc := 153) C0 2 dX3_readThing_153 rfl rfl ?_
                        refine xw_iload (pc := 154) C0 1 dX3_readThing_154 rfl ?_
                        refine xw_iload (pc := 156) C0 0 dX3_readThing_156 rfl ?_
                        refine xw_callVV (pc := 158) (μ := m15) (ci := 2) (rest := []) (As := [.long (Int64.ofInt (hp_cv (hp_w t n p3))), .int (Int32.ofInt r8), .int (Int32.ofInt r11), .int (Int32.ofInt (-1))]) C0 hU hO sa_Tg hKL (xh_addThing (l := l) (rd := rd) (nm := nm) (v := hp_w t n p3) (b := r8) (w := r11) (h := (-1)) (T := (rd 0).toNat) (pz := p15) hS_m15.1 hH_m15 (by omega) (by omega) (by omega) (by omega) (by omega) (by omega)) tv_586 dX3_readThing_158 tv_583 tv_584 tv_585 tv_4 rfl yb_X2_addThing (by decide) rfl rfl rfl (by decide) (Nat.le_of_ble_eq_true rfl) (xj_107 hKL) xk_28 (fun m17 w17 => ?_)
                        obtain ⟨H17, F17⟩ := w17
                        refine xw_iconst (pc := 161) C0 dX3_readThing_161 ?_
                        refine xw_iret C0 hA hr hlk rfl dX3_readThing_162 ?_
                        have eb9 : hp_beh t n lim rd nm p11 = .inr (-1, p11) := if_neg (by omega)
                        have eo : hp_thing t n lim rd nm pz = .inr (hp_T rd nm (hp_w t n p3) r8 r11 (-1) p15) := by
                          unfold hp_thing
                          rw [if_neg (by omega), hq3, eo4, hp_bdr, eo8, hp_bdr, eo11, hp_bdr, eb9, hp_bdr, eo15, hp_bdr]
                        exact ⟨_, rfl, Or.inl ⟨_, eo, rfl, hc_TF hT_m15 F17 (by decide), (F17 104 8 rfl).trans hw_m15, H17, hp_okT hK (by omega) (by omega) (by omega) (by omega) (by omega)⟩, (((((((xw_F.rf (ML := [(104, 2, 9), (107, 13, 15), (108, 0, 5), (109, 0, 5), (110, 0, 5), (111, 0, 5), (112, 0, 5), (113, 0, 5), (114, 0, 5), (115, 0, 7), (116, 0, 7), (117, 0, 7), (118, 0, 7), (119, 0, 7), (120, 0, 23)])).tr F3 (fun j i h => xw_o_sub (by decide) j i h)).tr F7 (fun j i h => xw_o_sub (by decide) j i h)).tr F8 (fun j i h => xw_o_sub (by decide) j i h)).tr F11 (fun j i h => xw_o_sub (by decide) j i h)).tr F15 (fun j i h => xw_o_sub (by decide) j i h)).tr F17 (fun j i h => xw_o_sub (by decide) j i h))⟩
                      · exfalso
                        omega
                    · refine xw_if_ne (pc := 143) (tgt := 148) C0 (by omega) dX3_readThing_143 rfl (fun b18 => ?_) (fun b18 => ?_)
                      · exfalso
                        omega
                      · refine xw_iconst (pc := 146) C0 dX3_readThing_146 ?_
                        refine xw_iret C0 hA hr hlk rfl dX3_readThing_147 ?_
                        have eb9 : hp_beh t n lim rd nm p11 = .inr (-1, p11) := if_neg (by omega)
                        have eo : hp_thing t n lim rd nm pz = .inl er15 := by
                          unfold hp_thing
                          rw [if_neg (by omega), hq3, eo4, hp_bdr, eo8, hp_bdr, eo11, hp_bdr, eb9, hp_bdr, eo15, hp_bdl]
                        exact ⟨_, rfl, Or.inr ⟨_, eo, rfl, W15⟩, ((((((xw_F.rf (ML := [(104, 2, 9), (107, 13, 15), (108, 0, 5), (109, 0, 5), (110, 0, 5), (111, 0, 5), (112, 0, 5), (113, 0, 5), (114, 0, 5), (115, 0, 7), (116, 0, 7), (117, 0, 7), (118, 0, 7), (119, 0, 7), (120, 0, 23)])).tr F3 (fun j i h => xw_o_sub (by decide) j i h)).tr F7 (fun j i h => xw_o_sub (by decide) j i h)).tr F8 (fun j i h => xw_o_sub (by decide) j i h)).tr F11 (fun j i h => xw_o_sub (by decide) j i h)).tr F15 (fun j i h => xw_o_sub (by decide) j i h))⟩
                  · refine xw_aload_n (pc := 106) C0 4 dX3_readThing_106 rfl rfl ?_
                    refine xw_getR (pc := 107) (f := 0) C0 104 kcX3 dX3_readThing_107 (by decide) tv_329 (xj_103 hKL) xk_67 rfl (((F11 103 0 rfl).trans ((F8 103 0 rfl).trans ((F7 103 0 rfl).trans ((F3 103 0 rfl).trans rfl)))).trans (xe_103_0 hS.1)) ?_
                    refine xw_callVV (pc := 110) (μ := m11) (ci := 6) (rest := []) (As := []) C0 hU hO sa_Tg hKL (xh_step (l := l) (pz := hp_x t n p11) hS_m11 (hT_m11.2.2.2.2.2.2.2 (by omega)) (hp_xb (lim := lim) hp9_m11 (by omega))) tv_509 dX3_readThing_110 tv_547 tv_507 tv_508 tv_9 rfl yb_X6_step (by decide) rfl rfl rfl (by decide) (Nat.le_of_ble_eq_true rfl) (xj_104 hKL) xk_17 (fun m19 w19 => ?_)
                    obtain ⟨hT_m19, F19⟩ := w19
                    generalize hq19 : hp_x t n p11 = p19 at hT_m19 
                    have hS_m19 := hc_SF hS_m11 F19 (by decide)
                    have n_m19 := hS_m19.2.2.1
                    have l_m19 := hS_m19.2.2.2.2.1
                    have b_m19 := hS_m19.2.2.2.2.2
                    have hp9_m19 := hT_m19.1
                    have c2_m19 := hT_m19.2.1
                    have c3_m19 := hT_m19.2.2.1
                    have kk_m19 := hc_kk hT_m19
                    have hkb_m19 := hp_kb t n lim p19
                    have hpl_m19 := hp_plb (t := t) (lim := lim) hp9_m19
                    have hw_m19 : m19 104 8 = 0 := (F19 104 8 rfl).trans hw_m11
                    have hH_m19 := hc_HF hH_m11 F19 (by decide)
                    refine xw_aload_n (pc := 113) C0 4 dX3_readThing_113 rfl rfl ?_
                    refine xw_getR (pc := 114) (f := 0) C0 104 kcX3 dX3_readThing_114 (by decide) tv_329 (xj_103 hKL) xk_67 rfl (((F19 103 0 rfl).trans ((F11 103 0 rfl).trans ((F8 103 0 rfl).trans ((F7 103 0 rfl).trans ((F3 103 0 rfl).trans rfl))))).trans (xe_103_0 hS.1)) ?_
                    refine xw_aload_n (pc := 117) C0 4 dX3_readThing_117 rfl rfl ?_
                    refine xw_getR (pc := 118) (f := 1) C0 107 kcX3 dX3_readThing_118 (by decide) tv_331 (xj_103 hKL) xk_67 rfl (((F19 103 1 rfl).trans ((F11 103 1 rfl).trans ((F8 103 1 rfl).trans ((F7 103 1 rfl).trans ((F3 103 1 rfl).trans rfl))))).trans (xe_103_1 hS.1)) ?_
                    refine xw_callVI (pc := 121) (μ := m19) (ci := 6) (rest := []) (As := [.ref (xw_ad al 107)]) C0 hU hO sa_Tg hKL (xh_takeThing (l := l) (rd := rd) (nm := nm) hS_m19 hT_m19 hw_m19 hH_m19 hK) tv_572 dX3_readThing_121 tv_569 tv_570 tv_571 tv_9 rfl yb_X6_takeThing (by decide) rfl rfl rfl (by decide) (Nat.le_of_ble_eq_true rfl) (xj_104 hKL) xk_17 (fun r20 m20 w20 => ?_)
                    obtain ⟨w20, F20⟩ := w20
                    rcases w20 with ⟨v20, p20, eo20, rfl, vn20, hT_m20, x20⟩ | ⟨er20, eo20, rfl, W20⟩
                    · have vbr20 := (hp_oneR eo20).1
                      have hS_m20 := hc_SF hS_m19 F20 (by decide)
                      have n_m20 := hS_m20.2.2.1
                      have l_m20 := hS_m20.2.2.2.2.1
                      have b_m20 := hS_m20.2.2.2.2.2
                      have hp9_m20 := hT_m20.1
                      have c2_m20 := hT_m20.2.1
                      have c3_m20 := hT_m20.2.2.1
                      have kk_m20 := hc_kk hT_m20
                      have hkb_m20 := hp_kb t n lim p20
                      have hpl_m20 := hp_plb (t := t) (lim := lim) hp9_m20
                      have hw_m20 : m20 104 8 = 0 := x20
                      have hH_m20 := hc_HF hH_m19 F20 (by decide)
                      refine xw_istore (pc := 124) (L' := [(5, .int (Int32.ofInt r20)), (4, .int (Int32.ofInt r11)), (3, .int (Int32.ofInt r8)), (1, .long (Int64.ofInt (hp_cv (hp_w t n p3)))), (0, .ref (xw_ad al 103))]) C0 dX3_readThing_124 (by decide) rfl ?_
                      refine xw_iload (pc := 126) C0 0 dX3_readThing_126 rfl ?_
                      refine xw_iconst (pc := 128) C0 dX3_readThing_128 ?_
                      refine xw_icmp_ne (pc := 129) (tgt := 134) C0 (by omega) (by omega) dX3_readThing_129 rfl (fun b21 => ?_) (fun b21 => ?_)
                      · refine xw_aload_n (pc := 134) C0 4 dX3_readThing_134 rfl rfl ?_
                        refine xw_getR (pc := 135) (f := 0) C0 104 kcX3 dX3_readThing_135 (by decide) tv_329 (xj_103 hKL) xk_67 rfl (((F20 103 0 rfl).trans ((F19 103 0 rfl).trans ((F11 103 0 rfl).trans ((F8 103 0 rfl).trans ((F7 103 0 rfl).trans ((F3 103 0 rfl).trans rfl)))))).trans (xe_103_0 hS.1)) ?_
                        refine xw_bipush (pc := 138) C0 dX3_readThing_138 (by decide) ?_
                        refine xw_callVI (pc := 140) (μ := m20) (ci := 6) (rest := []) (As := [.int (Int32.ofInt 59)]) C0 hU hO sa_Tg hKL (xh_takeSign (l := l) hS_m20 hT_m20 hw_m20) tv_578 dX3_readThing_140 tv_575 tv_576 tv_577 tv_9 rfl yb_X6_takeSign (by decide) rfl rfl rfl (by decide) (Nat.le_of_ble_eq_true rfl) (xj_104 hKL) xk_17 (fun r22 m22 w22 => ?_)
                        obtain ⟨w22, F22⟩ := w22
                        rcases w22 with ⟨v22, p22, eo22, rfl, hT_m22, x22⟩ | ⟨er22, eo22, rfl, W22⟩
                        · have hS_m22 := hc_SF hS_m20 F22 (by decide)
                          have n_m22 := hS_m22.2.2.1
                          have l_m22 := hS_m22.2.2.2.2.1
                          have b_m22 := hS_m22.2.2.2.2.2
                          have hp9_m22 := hT_m22.1
                          have c2_m22 := hT_m22.2.1
                          have c3_m22 := hT_m22.2.2.1
                          have kk_m22 := hc_kk hT_m22
                          have hkb_m22 := hp_kb t n lim p22
                          have hpl_m22 := hp_plb (t := t) (lim := lim) hp9_m22
                          have hw_m22 : m22 104 8 = 0 := x22
                          have hH_m22 := hc_HF hH_m20 F22 (by decide)
                          refine xw_if_ne (pc := 143) (tgt := 148) C0 (by omega) dX3_readThing_143 rfl (fun b23 => ?_) (fun b23 => ?_)
                          · refine xw_aload_n (pc := 148) C0 4 dX3_readThing_148 rfl rfl ?_
                            refine xw_getR (pc := 149) (f := 1) C0 107 kcX3 dX3_readThing_149 (by decide) tv_331 (xj_103 hKL) xk_67 rfl (((F22 103 1 rfl).trans ((F20 103 1 rfl).trans ((F19 103 1 rfl).trans ((F11 103 1 rfl).trans ((F8 103 1 rfl).trans ((F7 103 1 rfl).trans ((F3 103 1 rfl).trans rfl))))))).trans (xe_103_1 hS.1)) ?_
                            refine xw_lload_n (pc := 152) C0 3 dX3_readThing_152 rfl rfl ?_
                            refine xw_iload_n (pc := 153) C0 2 dX3_readThing_153 rfl rfl ?_
                            refine xw_iload (pc := 154) C0 1 dX3_readThing_154 rfl ?_
                            refine xw_iload (pc := 156) C0 0 dX3_readThing_156 rfl ?_
                            refine xw_callVV (pc := 158) (μ := m22) (ci := 2) (rest := []) (As := [.long (Int64.ofInt (hp_cv (hp_w t n p3))), .int (Int32.ofInt r8), .int (Int32.ofInt r11), .int (Int32.ofInt r20)]) C0 hU hO sa_Tg hKL (xh_addThing (l := l) (rd := rd) (nm := nm) (v := hp_w t n p3) (b := r8) (w := r11) (h := r20) (T := (rd 0).toNat) (pz := p22) hS_m22.1 hH_m22 (by omega) (by omega) (by omega) (by omega) (by omega) (by omega)) tv_586 dX3_readThing_158 tv_583 tv_584 tv_585 tv_4 rfl yb_X2_addThing (by decide) rfl rfl rfl (by decide) (Nat.le_of_ble_eq_true rfl) (xj_107 hKL) xk_28 (fun m24 w24 => ?_)
                            obtain ⟨H24, F24⟩ := w24
                            refine xw_iconst (pc := 161) C0 dX3_readThing_161 ?_
                            refine xw_iret C0 hA hr hlk rfl dX3_readThing_162 ?_
                            have eb9 : hp_beh t n lim rd nm p11 = .inr (r20, p20) := by
                              unfold hp_beh
                              rw [if_pos ⟨by omega, by omega⟩, hq19, eo20]
                            have eo : hp_thing t n lim rd nm pz = .inr (hp_T rd nm (hp_w t n p3) r8 r11 r20 p22) := by
                              unfold hp_thing
                              rw [if_neg (by omega), hq3, eo4, hp_bdr, eo8, hp_bdr, eo11, hp_bdr, eb9, hp_bdr, eo22, hp_bdr]
                            exact ⟨_, rfl, Or.inl ⟨_, eo, rfl, hc_TF hT_m22 F24 (by decide), (F24 104 8 rfl).trans hw_m22, H24, hp_okT hK (by omega) (by omega) (by omega) (by omega) (by omega)⟩, (((((((((xw_F.rf (ML := [(104, 2, 9), (107, 13, 15), (108, 0, 5), (109, 0, 5), (110, 0, 5), (111, 0, 5), (112, 0, 5), (113, 0, 5), (114, 0, 5), (115, 0, 7), (116, 0, 7), (117, 0, 7), (118, 0, 7), (119, 0, 7), (120, 0, 23)])).tr F3 (fun j i h => xw_o_sub (by decide) j i h)).tr F7 (fun j i h => xw_o_sub (by decide) j i h)).tr F8 (fun j i h => xw_o_sub (by decide) j i h)).tr F11 (fun j i h => xw_o_sub (by decide) j i h)).tr F19 (fun j i h => xw_o_sub (by decide) j i h)).tr F20 (fun j i h => xw_o_sub (by decide) j i h)).tr F22 (fun j i h => xw_o_sub (by decide) j i h)).tr F24 (fun j i h => xw_o_sub (by decide) j i h))⟩
                          · exfalso
                            omega
                        · refine xw_if_ne (pc := 143) (tgt := 148) C0 (by omega) dX3_readThing_143 rfl (fun b25 => ?_) (fun b25 => ?_)
                          · exfalso
                            omega
                          · refine xw_iconst (pc := 146) C0 dX3_readThing_146 ?_
                            refine xw_iret C0 hA hr hlk rfl dX3_readThing_147 ?_
                            have eb9 : hp_beh t n lim rd nm p11 = .inr (r20, p20) := by
                              unfold hp_beh
                              rw [if_pos ⟨by omega, by omega⟩, hq19, eo20]
                            have eo : hp_thing t n lim rd nm pz = .inl er22 := by
                              unfold hp_thing
                              rw [if_neg (by omega), hq3, eo4, hp_bdr, eo8, hp_bdr, eo11, hp_bdr, eb9, hp_bdr, eo22, hp_bdl]
                            exact ⟨_, rfl, Or.inr ⟨_, eo, rfl, W22⟩, ((((((((xw_F.rf (ML := [(104, 2, 9), (107, 13, 15), (108, 0, 5), (109, 0, 5), (110, 0, 5), (111, 0, 5), (112, 0, 5), (113, 0, 5), (114, 0, 5), (115, 0, 7), (116, 0, 7), (117, 0, 7), (118, 0, 7), (119, 0, 7), (120, 0, 23)])).tr F3 (fun j i h => xw_o_sub (by decide) j i h)).tr F7 (fun j i h => xw_o_sub (by decide) j i h)).tr F8 (fun j i h => xw_o_sub (by decide) j i h)).tr F11 (fun j i h => xw_o_sub (by decide) j i h)).tr F19 (fun j i h => xw_o_sub (by decide) j i h)).tr F20 (fun j i h => xw_o_sub (by decide) j i h)).tr F22 (fun j i h => xw_o_sub (by decide) j i h))⟩
                      · exfalso
                        omega
                    · refine xw_istore (pc := 124) (L' := [(5, .int (Int32.ofInt (-1))), (4, .int (Int32.ofInt r11)), (3, .int (Int32.ofInt r8)), (1, .long (Int64.ofInt (hp_cv (hp_w t n p3)))), (0, .ref (xw_ad al 103))]) C0 dX3_readThing_124 (by decide) rfl ?_
                      refine xw_iload (pc := 126) C0 0 dX3_readThing_126 rfl ?_
                      refine xw_iconst (pc := 128) C0 dX3_readThing_128 ?_
                      refine xw_icmp_ne (pc := 129) (tgt := 134) C0 (by omega) (by omega) dX3_readThing_129 rfl (fun b26 => ?_) (fun b26 => ?_)
                      · exfalso
                        omega
                      · refine xw_iconst (pc := 132) C0 dX3_readThing_132 ?_
                        refine xw_iret C0 hA hr hlk rfl dX3_readThing_133 ?_
                        have eb9 : hp_beh t n lim rd nm p11 = .inl er20 := by
                          unfold hp_beh
                          rw [if_pos ⟨by omega, by omega⟩, hq19, eo20]
                        have eo : hp_thing t n lim rd nm pz = .inl er20 := by
                          unfold hp_thing
                          rw [if_neg (by omega), hq3, eo4, hp_bdr, eo8, hp_bdr, eo11, hp_bdr, eb9, hp_bdl]
                        exact ⟨_, rfl, Or.inr ⟨_, eo, rfl, W20⟩, (((((((xw_F.rf (ML := [(104, 2, 9), (107, 13, 15), (108, 0, 5), (109, 0, 5), (110, 0, 5), (111, 0, 5), (112, 0, 5), (113, 0, 5), (114, 0, 5), (115, 0, 7), (116, 0, 7), (117, 0, 7), (118, 0, 7), (119, 0, 7), (120, 0, 23)])).tr F3 (fun j i h => xw_o_sub (by decide) j i h)).tr F7 (fun j i h => xw_o_sub (by decide) j i h)).tr F8 (fun j i h => xw_o_sub (by decide) j i h)).tr F11 (fun j i h => xw_o_sub (by decide) j i h)).tr F19 (fun j i h => xw_o_sub (by decide) j i h)).tr F20 (fun j i h => xw_o_sub (by decide) j i h))⟩
                · exfalso
                  omega
              · refine xw_istore (pc := 82) (L' := [(4, .int (Int32.ofInt (-1))), (3, .int (Int32.ofInt r8)), (1, .long (Int64.ofInt (hp_cv (hp_w t n p3)))), (0, .ref (xw_ad al 103))]) C0 dX3_readThing_82 (by decide) rfl ?_
                refine xw_iload (pc := 84) C0 0 dX3_readThing_84 rfl ?_
                refine xw_iconst (pc := 86) C0 dX3_readThing_86 ?_
                refine xw_icmp_ne (pc := 87) (tgt := 92) C0 (by omega) (by omega) dX3_readThing_87 rfl (fun b27 => ?_) (fun b27 => ?_)
                · exfalso
                  omega
                · refine xw_iconst (pc := 90) C0 dX3_readThing_90 ?_
                  refine xw_iret C0 hA hr hlk rfl dX3_readThing_91 ?_
                  have eo : hp_thing t n lim rd nm pz = .inl er11 := by
                    unfold hp_thing
                    rw [if_neg (by omega), hq3, eo4, hp_bdr, eo8, hp_bdr, eo11, hp_bdl]
                  exact ⟨_, rfl, Or.inr ⟨_, eo, rfl, W11⟩, (((((xw_F.rf (ML := [(104, 2, 9), (107, 13, 15), (108, 0, 5), (109, 0, 5), (110, 0, 5), (111, 0, 5), (112, 0, 5), (113, 0, 5), (114, 0, 5), (115, 0, 7), (116, 0, 7), (117, 0, 7), (118, 0, 7), (119, 0, 7), (120, 0, 23)])).tr F3 (fun j i h => xw_o_sub (by decide) j i h)).tr F7 (fun j i h => xw_o_sub (by decide) j i h)).tr F8 (fun j i h => xw_o_sub (by decide) j i h)).tr F11 (fun j i h => xw_o_sub (by decide) j i h))⟩
            · exfalso
              omega
          · refine xw_istore_n (pc := 62) (L' := [(3, .int (Int32.ofInt (-1))), (1, .long (Int64.ofInt (hp_cv (hp_w t n p3)))), (0, .ref (xw_ad al 103))]) C0 dX3_readThing_62 rfl (by decide) rfl ?_
            refine xw_iload_n (pc := 63) C0 0 dX3_readThing_63 rfl rfl ?_
            refine xw_iconst (pc := 64) C0 dX3_readThing_64 ?_
            refine xw_icmp_ne (pc := 65) (tgt := 72) C0 (by omega) (by omega) dX3_readThing_65 rfl (fun b28 => ?_) (fun b28 => ?_)
            · exfalso
              omega
            · refine xw_iconst (pc := 68) C0 dX3_readThing_68 ?_
              refine xw_goto (pc := 69) (tgt := 82) C0 dX3_readThing_69 rfl ?_
              refine xw_istore (pc := 82) (L' := [(4, .int (Int32.ofInt (-1))), (3, .int (Int32.ofInt (-1))), (1, .long (Int64.ofInt (hp_cv (hp_w t n p3)))), (0, .ref (xw_ad al 103))]) C0 dX3_readThing_82 (by decide) rfl ?_
              refine xw_iload (pc := 84) C0 0 dX3_readThing_84 rfl ?_
              refine xw_iconst (pc := 86) C0 dX3_readThing_86 ?_
              refine xw_icmp_ne (pc := 87) (tgt := 92) C0 (by omega) (by omega) dX3_readThing_87 rfl (fun b29 => ?_) (fun b29 => ?_)
              · exfalso
                omega
              · refine xw_iconst (pc := 90) C0 dX3_readThing_90 ?_
                refine xw_iret C0 hA hr hlk rfl dX3_readThing_91 ?_
                have eo : hp_thing t n lim rd nm pz = .inl er8 := by
                  unfold hp_thing
                  rw [if_neg (by omega), hq3, eo4, hp_bdr, eo8, hp_bdl]
                exact ⟨_, rfl, Or.inr ⟨_, eo, rfl, W8⟩, ((((xw_F.rf (ML := [(104, 2, 9), (107, 13, 15), (108, 0, 5), (109, 0, 5), (110, 0, 5), (111, 0, 5), (112, 0, 5), (113, 0, 5), (114, 0, 5), (115, 0, 7), (116, 0, 7), (117, 0, 7), (118, 0, 7), (119, 0, 7), (120, 0, 23)])).tr F3 (fun j i h => xw_o_sub (by decide) j i h)).tr F7 (fun j i h => xw_o_sub (by decide) j i h)).tr F8 (fun j i h => xw_o_sub (by decide) j i h))⟩
        · exfalso
          omega
      · refine xw_if_ne (pc := 32) (tgt := 37) C0 (by omega) dX3_readThing_32 rfl (fun b30 => ?_) (fun b30 => ?_)
        · exfalso
          omega
        · refine xw_iconst (pc := 35) C0 dX3_readThing_35 ?_
          refine xw_iret C0 hA hr hlk rfl dX3_readThing_36 ?_
          have eo : hp_thing t n lim rd nm pz = .inl er4 := by
            unfold hp_thing
            rw [if_neg (by omega), hq3, eo4, hp_bdl]
          exact ⟨_, rfl, Or.inr ⟨_, eo, rfl, W4⟩, (((xw_F.rf (ML := [(104, 2, 9), (107, 13, 15), (108, 0, 5), (109, 0, 5), (110, 0, 5), (111, 0, 5), (112, 0, 5), (113, 0, 5), (114, 0, 5), (115, 0, 7), (116, 0, 7), (117, 0, 7), (118, 0, 7), (119, 0, 7), (120, 0, 23)])).tr F3 (fun j i h => xw_o_sub (by decide) j i h)).tr F4 (fun j i h => xw_o_sub (by decide) j i h))⟩
    · refine xw_aload_n (pc := 12) C0 0 dX3_readThing_12 rfl rfl ?_
      refine xw_getR (pc := 13) (f := 0) C0 104 kcX3 dX3_readThing_13 (by decide) tv_329 (xj_103 hKL) xk_67 rfl ((rfl).trans (xe_103_0 hS.1)) ?_
      refine xw_iconst (pc := 16) C0 dX3_readThing_16 ?_
      refine xw_callVI (pc := 17) (μ := μ) (ci := 6) (rest := []) (As := [.int (Int32.ofInt 4)]) C0 hU hO sa_Tg hKL (xh_refuse (l := l) (v := 4) (by omega) (by omega)) tv_546 dX3_readThing_17 tv_543 tv_544 tv_545 tv_9 rfl yb_X6_refuse (by decide) rfl rfl rfl (by decide) (Nat.le_of_ble_eq_true rfl) (xj_104 hKL) xk_17 (fun r31 m31 w31 => ?_)
      obtain ⟨rfl, w31⟩ := w31
      rcases w31.symm with ⟨w31, -⟩ | ⟨-, x31, y31, F31⟩
      · exfalso
        omega
      have hS_m31 := hc_SF hS F31 (by decide)
      have n_m31 := hS_m31.2.2.1
      have l_m31 := hS_m31.2.2.2.2.1
      have b_m31 := hS_m31.2.2.2.2.2
      refine xw_iret C0 hA hr hlk rfl dX3_readThing_20 ?_
      have eo : hp_thing t n lim rd nm pz = .inl (hp_bad t n lim 4 pz) := if_pos (by omega)
      exact ⟨_, rfl, Or.inr ⟨_, eo, rfl, hc_Wb ⟨by decide, by decide⟩ x31 (y31.trans c3)⟩, ((xw_F.rf (ML := [(104, 2, 9), (107, 13, 15), (108, 0, 5), (109, 0, 5), (110, 0, 5), (111, 0, 5), (112, 0, 5), (113, 0, 5), (114, 0, 5), (115, 0, 7), (116, 0, 7), (117, 0, 7), (118, 0, 7), (119, 0, 7), (120, 0, 23)])).tr F31 (fun j i h => xw_o_sub (by decide) j i h))⟩)
