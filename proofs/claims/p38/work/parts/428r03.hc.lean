/-- what is wrong, and where -/
noncomputable def hc_W (e : hp_E) (μ : xw_M) : Prop := (1 ≤ e.1 ∧ e.1 ≤ 4) ∧ μ 104 8 = e.1 ∧ μ 104 9 = e.2
theorem hc_Wb {t : Nat → Int} {n lim pz : Nat} {k : Int} {μ : xw_M} (hk : 1 ≤ k ∧ k ≤ 4) (h8 : μ 104 8 = k) (h9 : μ 104 9 = ((hp_pl t n lim pz : Nat) : Int)) : hc_W (hp_bad t n lim k pz) μ := ⟨hk, h8, h9⟩
/-! the class's draft of a HOUSE; what a call says of its reading -/
noncomputable def hc_H (rd nm : Nat → Int) (μ : xw_M) : Prop := (μ 107 13 = rd 0 ∧ μ 107 14 = rd 1 ∧ μ 107 15 = rd 2) ∧ (∀ k : Nat, k < 6 → (k : Int) < rd 0 → μ 108 k = hp_cv (nm k) ∧ μ 109 k = rd (3 + k) ∧ μ 110 k = rd (9 + k) ∧ μ 111 k = rd (15 + k)) ∧ (∀ k : Nat, k < 8 → (k : Int) < rd 1 → μ 115 k = hp_cv (nm (6 + k)) ∧ μ 116 k = rd (21 + k) ∧ μ 117 k = rd (29 + k) ∧ μ 118 k = rd (37 + k) ∧ μ 119 k = rd (45 + k)) ∧ (∀ k : Nat, k < 24 → μ 120 k = rd (53 + k))
noncomputable def hc_hj (ML : List (Nat × Nat × Nat)) : Bool := ML.all (fun q => !(Nat.ble 107 q.1 && Nat.ble q.1 120))
theorem hc_ho {ML : List (Nat × Nat × Nat)} (h : hc_hj ML = true) {j : Nat} (h1 : 107 ≤ j) (h2 : j ≤ 120) (i : Nat) : xw_o ML j i = true := by
  unfold xw_o
  rw [List.all_eq_true]
  intro q hq
  have h3 := List.all_eq_true.mp h q hq
  cases hb : Nat.beq q.1 j with
  | false => rfl
  | true =>
    have e := Nat.eq_of_beq_eq_true hb
    rw [e, Nat.ble_eq_true_of_le h1, Nat.ble_eq_true_of_le h2] at h3
    cases h3
theorem hc_HF {rd nm : Nat → Int} {ML : List (Nat × Nat × Nat)} {μ μ' : xw_M} (h : hc_H rd nm μ) (hF : xw_F ML μ μ') (hd : hc_hj ML = true) : hc_H rd nm μ' := by
  obtain ⟨⟨a1, a2, a3⟩, a4, a5, a6⟩ := h
  have f : ∀ j i : Nat, 107 ≤ j → j ≤ 120 → μ' j i = μ j i := fun j i h1 h2 => hF j i (hc_ho hd h1 h2 i)
  refine ⟨⟨?_, ?_, ?_⟩, fun k h1 h2 => ?_, fun k h1 h2 => ?_, fun k h1 => ?_⟩
  · rw [f _ _ (by decide) (by decide)]; exact a1
  · rw [f _ _ (by decide) (by decide)]; exact a2
  · rw [f _ _ (by decide) (by decide)]; exact a3
  · rw [f 108 _ (by decide) (by decide), f 109 _ (by decide) (by decide), f 110 _ (by decide) (by decide), f 111 _ (by decide) (by decide)]; exact a4 k h1 h2
  · rw [f 115 _ (by decide) (by decide), f 116 _ (by decide) (by decide), f 117 _ (by decide) (by decide), f 118 _ (by decide) (by decide), f 119 _ (by decide) (by decide)]; exact a5 k h1 h2
  · rw [f 120 _ (by decide) (by decide)]; exact a6 k h1
/-- a value comes out, or none (-1); yes or no -/
noncomputable def hc_V (t : Nat → Int) (n lim : Nat) (o : Sum hp_E (Int × Nat)) (r : Int) (μ : xw_M) : Prop := (∃ (v : Int) (pz : Nat), o = .inr (v, pz) ∧ r = v ∧ 0 ≤ v ∧ hc_T t n lim pz μ ∧ μ 104 8 = 0) ∨ (∃ e : hp_E, o = .inl e ∧ r = -1 ∧ hc_W e μ)
noncomputable def hc_B (t : Nat → Int) (n lim : Nat) (o : Sum hp_E (Int × Nat)) (r : Int) (μ : xw_M) : Prop := (∃ (v : Int) (pz : Nat), o = .inr (v, pz) ∧ r = 1 ∧ hc_T t n lim pz μ ∧ μ 104 8 = 0) ∨ (∃ e : hp_E, o = .inl e ∧ r = 0 ∧ hc_W e μ)
theorem hp_cvr {v : Int} (hv : 0 ≤ v ∧ v < 10460353203) : 0 ≤ hp_cv v ∧ hp_cv v ≤ 9223372036854775807 := by
  have e8 : hp_cf 8 v.toNat = hp_cf 7 v.toNat := hp_cfS 7 _ (by rw [hp_p7]; omega)
  have h1 := hp_cfb 7 v.toNat
  have h2 := hp_cfn 7 v.toNat
  have e9 : (256 : Nat) ^ 7 = 72057594037927936 := by decide
  rw [e9] at h1
  unfold hp_cv
  rw [e8]
  omega
set_option maxRecDepth 20000 in
set_option maxHeartbeats 20000000 in
theorem xh_isSignNow {l : Launch} {t : Nat → Int} {n lim pz : Nat} {μ : xw_M} {v : Int} (hS : hc_S t n lim μ) (hT : hc_T t n lim pz μ) (hv : 0 ≤ v ∧ v ≤ 255) : xw_MetI l vwCl sa_Ts tb_KT0 tc_KL yX6_isSignNow cX6_isSignNow 2 (some .boolean) 2 120 (fun ad => [.ref (ad 104), .int (Int32.ofInt v)]) μ (fun r μ' => μ = μ' ∧ (((hp_k t n lim pz = 4 ∧ hp_s t n pz = v) ∧ r = 1) ∨ (¬ (hp_k t n lim pz = 4 ∧ hp_s t n pz = v) ∧ r = 0))) :=
  xw_of (by decide) (fun _ => Nat.le_of_ble_eq_true rfl) (fun p e s m args below meth c D dA A al w0 sz C0 hU hO hKL hr hlk hA => by
    have n_μ := hS.2.2.1
    have l_μ := hS.2.2.2.2.1
    have b_μ := hS.2.2.2.2.2
    obtain ⟨hp9, c2, c3, c4, c5, c6, c7, c8⟩ := id hT
    have hpl := hp_plb (t := t) (lim := lim) hp9
    have hkb := hp_kb t n lim pz
    refine xw_aload_n (pc := 0) C0 0 dX6_isSignNow_0 rfl rfl ?_
    refine xw_getI (pc := 1) (f := 2) (z := μ 104 2) C0 kcX6 dX6_isSignNow_1 (by decide) tv_290 (xj_104 hKL) xk_17 rfl (rfl) (fun g1 k1 => ?_)
    refine xw_iconst (pc := 4) C0 dX6_isSignNow_4 ?_
    refine xw_icmp_ne (pc := 5) (tgt := 20) C0 (by omega) (by omega) dX6_isSignNow_5 rfl (fun b2 => ?_) (fun b2 => ?_)
    · refine xw_iconst (pc := 20) C0 dX6_isSignNow_20 ?_
      refine xw_iret C0 hA hr hlk rfl dX6_isSignNow_21 ?_
      exact ⟨_, rfl, rfl, Or.inr ⟨(by omega), rfl⟩⟩
    · refine xw_aload_n (pc := 8) C0 0 dX6_isSignNow_8 rfl rfl ?_
      refine xw_getI (pc := 9) (f := 7) (z := μ 104 7) C0 kcX6 dX6_isSignNow_9 (by decide) tv_300 (xj_104 hKL) xk_17 rfl (rfl) (fun g3 k3 => ?_)
      refine xw_iload_n (pc := 12) C0 1 dX6_isSignNow_12 rfl rfl ?_
      refine xw_icmp_ne (pc := 13) (tgt := 20) C0 (by omega) (by omega) dX6_isSignNow_13 rfl (fun b4 => ?_) (fun b4 => ?_)
      · refine xw_iconst (pc := 20) C0 dX6_isSignNow_20 ?_
        refine xw_iret C0 hA hr hlk rfl dX6_isSignNow_21 ?_
        exact ⟨_, rfl, rfl, Or.inr ⟨(by omega), rfl⟩⟩
      · refine xw_iconst (pc := 16) C0 dX6_isSignNow_16 ?_
        refine xw_goto (pc := 17) (tgt := 21) C0 dX6_isSignNow_17 rfl ?_
        refine xw_iret C0 hA hr hlk rfl dX6_isSignNow_21 ?_
        exact ⟨_, rfl, rfl, Or.inl ⟨(by omega), rfl⟩⟩)
set_option maxRecDepth 20000 in
set_option maxHeartbeats 20000000 in
theorem xh_takeSign {l : Launch} {t : Nat → Int} {n lim pz : Nat} {μ : xw_M} (hS : hc_S t n lim μ) (hT : hc_T t n lim pz μ) (hw : μ 104 8 = 0) : xw_MetI l vwCl sa_Ts tb_KT0 tc_KL yX6_takeSign cX6_takeSign 2 (some .boolean) 5 187 (fun ad => [.ref (ad 104), .int (Int32.ofInt 59)]) μ (fun r μ' => hc_B t n lim (hp_end t n lim pz) r μ' ∧ xw_F [(104, 2, 9)] μ μ') :=
  xw_of (by decide) (fun _ => Nat.le_of_ble_eq_true rfl) (fun p e s m args below meth c D dA A al w0 sz C0 hU hO hKL hr hlk hA => by
    have n_μ := hS.2.2.1
    have l_μ := hS.2.2.2.2.1
    have b_μ := hS.2.2.2.2.2
    obtain ⟨hp9, c2, c3, c4, c5, c6, c7, c8⟩ := id hT
    have hpl := hp_plb (t := t) (lim := lim) hp9
    have hkb := hp_kb t n lim pz
    refine xw_aload_n (pc := 0) C0 0 dX6_takeSign_0 rfl rfl ?_
    refine xw_iload_n (pc := 1) C0 1 dX6_takeSign_1 rfl rfl ?_
    refine xw_callVI (pc := 2) (μ := μ) (ci := 6) (rest := []) (As := [.int (Int32.ofInt 59)]) C0 hU hO sa_Tg hKL (xh_isSignNow (l := l) hS hT (by omega)) tv_582 dX6_takeSign_2 tv_579 tv_580 tv_581 tv_9 rfl yb_X6_isSignNow (by decide) rfl rfl rfl (by decide) (Nat.le_of_ble_eq_true rfl) (xj_104 hKL) xk_17 (fun r1 m1 w1 => ?_)
    obtain ⟨rfl, w1⟩ := w1
    rcases w1 with ⟨w1, rfl⟩ | ⟨w1, rfl⟩
    · refine xw_if_ne (pc := 5) (tgt := 14) C0 (by omega) dX6_takeSign_5 rfl (fun b2 => ?_) (fun b2 => ?_)
      · refine xw_aload_n (pc := 14) C0 0 dX6_takeSign_14 rfl rfl ?_
        refine xw_callVV (pc := 15) (μ := μ) (ci := 6) (rest := []) (As := []) C0 hU hO sa_Tg hKL (xh_step (l := l) (pz := hp_x t n pz) hS (c8 (by omega)) (hp_xb (lim := lim) hp9 (by omega))) tv_509 dX6_takeSign_15 tv_506 tv_507 tv_508 tv_9 rfl yb_X6_step (by decide) rfl rfl rfl (by decide) (Nat.le_of_ble_eq_true rfl) (xj_104 hKL) xk_17 (fun m3 w3 => ?_)
        obtain ⟨T3, F3⟩ := w3
        have hS_m3 := hc_SF hS F3 (by decide)
        have n_m3 := hS_m3.2.2.1
        have l_m3 := hS_m3.2.2.2.2.1
        have b_m3 := hS_m3.2.2.2.2.2
        have a3 := T3
        refine xw_iconst (pc := 18) C0 dX6_takeSign_18 ?_
        refine xw_iret C0 hA hr hlk rfl dX6_takeSign_19 ?_
        exact ⟨_, rfl, Or.inl ⟨0, hp_x t n pz, if_pos ⟨by omega, by omega⟩, rfl, T3, (F3 104 8 rfl).trans hw⟩, ((xw_F.rf (ML := [(104, 2, 9)])).tr F3 (fun j i h => xw_o_sub (by decide) j i h))⟩
      · exfalso
        omega
    · refine xw_if_ne (pc := 5) (tgt := 14) C0 (by omega) dX6_takeSign_5 rfl (fun b4 => ?_) (fun b4 => ?_)
      · exfalso
        omega
      · refine xw_aload_n (pc := 8) C0 0 dX6_takeSign_8 rfl rfl ?_
        refine xw_iconst (pc := 9) C0 dX6_takeSign_9 ?_
        refine xw_callVI (pc := 10) (μ := μ) (ci := 6) (rest := []) (As := [.int (Int32.ofInt 1)]) C0 hU hO sa_Tg hKL (xh_refuse (l := l) (v := 1) (by omega) (by omega)) tv_546 dX6_takeSign_10 tv_556 tv_544 tv_545 tv_9 rfl yb_X6_refuse (by decide) rfl rfl rfl (by decide) (Nat.le_of_ble_eq_true rfl) (xj_104 hKL) xk_17 (fun r5 m5 w5 => ?_)
        obtain ⟨rfl, w5⟩ := w5
        rcases w5.symm with ⟨w5, -⟩ | ⟨-, x5, y5, F5⟩
        · exfalso
          omega
        have hS_m5 := hc_SF hS F5 (by decide)
        have n_m5 := hS_m5.2.2.1
        have l_m5 := hS_m5.2.2.2.2.1
        have b_m5 := hS_m5.2.2.2.2.2
        refine xw_iret C0 hA hr hlk rfl dX6_takeSign_13 ?_
        exact ⟨_, rfl, Or.inr ⟨hp_bad t n lim 1 pz, if_neg (by omega), rfl, hc_Wb ⟨by decide, by decide⟩ x5 (y5.trans c3)⟩, ((xw_F.rf (ML := [(104, 2, 9)])).tr F5 (fun j i h => xw_o_sub (by decide) j i h))⟩)
set_option maxRecDepth 20000 in
set_option maxHeartbeats 20000000 in
theorem xh_takeNumber {l : Launch} {t : Nat → Int} {n lim pz : Nat} {μ : xw_M} {a b : Int} (hS : hc_S t n lim μ) (hT : hc_T t n lim pz μ) (hw : μ 104 8 = 0) (ha : 0 ≤ a ∧ a ≤ 999) (hb : 0 ≤ b ∧ b ≤ 999) : xw_MetI l vwCl sa_Ts tb_KT0 tc_KL yX6_takeNumber cX6_takeNumber 4 (some .int) 5 187 (fun ad => [.ref (ad 104), .int (Int32.ofInt a), .int (Int32.ofInt b)]) μ (fun r μ' => hc_V t n lim (hp_num t n lim a b pz) r μ' ∧ xw_F [(104, 2, 9)] μ μ') :=
  xw_of (by decide) (fun _ => Nat.le_of_ble_eq_true rfl) (fun p e s m args below meth c D dA A al w0 sz C0 hU hO hKL hr hlk hA => by
    have n_μ := hS.2.2.1
    have l_μ := hS.2.2.2.2.1
    have b_μ := hS.2.2.2.2.2
    obtain ⟨hp9, c2, c3, c4, c5, c6, c7, c8⟩ := id hT
    have hpl := hp_plb (t := t) (lim := lim) hp9
    have hkb := hp_kb t n lim pz
    refine xw_aload_n (pc := 0) C0 0 dX6_takeNumber_0 rfl rfl ?_
    refine xw_getI (pc := 1) (f := 2) (z := μ 104 2) C0 kcX6 dX6_takeNumber_1 (by decide) tv_290 (xj_104 hKL) xk_17 rfl (rfl) (fun g1 k1 => ?_)
    refine xw_iconst (pc := 4) C0 dX6_takeNumber_4 ?_
    refine xw_icmp_eq (pc := 5) (tgt := 16) C0 (by omega) (by omega) dX6_takeNumber_5 rfl (fun b2 => ?_) (fun b2 => ?_)
    · refine xw_aload_n (pc := 16) C0 0 dX6_takeNumber_16 rfl rfl ?_
      refine xw_getI (pc := 17) (f := 7) (z := μ 104 7) C0 kcX6 dX6_takeNumber_17 (by decide) tv_300 (xj_104 hKL) xk_17 rfl (rfl) (fun g3 k3 => ?_)
      refine xw_iload_n (pc := 20) C0 1 dX6_takeNumber_20 rfl rfl ?_
      refine xw_icmp_lt (pc := 21) (tgt := 32) C0 (by omega) (by omega) dX6_takeNumber_21 rfl (fun b4 => ?_) (fun b4 => ?_)
      · refine xw_aload_n (pc := 32) C0 0 dX6_takeNumber_32 rfl rfl ?_
        refine xw_iconst (pc := 33) C0 dX6_takeNumber_33 ?_
        refine xw_callVI (pc := 34) (μ := μ) (ci := 6) (rest := []) (As := [.int (Int32.ofInt 2)]) C0 hU hO sa_Tg hKL (xh_refuse (l := l) (v := 2) (by omega) (by omega)) tv_546 dX6_takeNumber_34 tv_556 tv_544 tv_545 tv_9 rfl yb_X6_refuse (by decide) rfl rfl rfl (by decide) (Nat.le_of_ble_eq_true rfl) (xj_104 hKL) xk_17 (fun r5 m5 w5 => ?_)
        obtain ⟨rfl, w5⟩ := w5
        rcases w5.symm with ⟨w5, -⟩ | ⟨-, x5, y5, F5⟩
        · exfalso
          omega
        have hS_m5 := hc_SF hS F5 (by decide)
        have n_m5 := hS_m5.2.2.1
        have l_m5 := hS_m5.2.2.2.2.1
        have b_m5 := hS_m5.2.2.2.2.2
        refine xw_pop (pc := 37) C0 dX6_takeNumber_37 rfl ?_
        refine xw_iconst (pc := 38) C0 dX6_takeNumber_38 ?_
        refine xw_iret C0 hA hr hlk rfl dX6_takeNumber_39 ?_
        have eo : hp_num t n lim a b pz = .inl (hp_bad t n lim 2 pz) := by
          unfold hp_num
          rw [if_pos (by omega), if_neg (by omega)]
        exact ⟨_, rfl, Or.inr ⟨_, eo, rfl, hc_Wb ⟨by decide, by decide⟩ x5 (y5.trans c3)⟩, ((xw_F.rf (ML := [(104, 2, 9)])).tr F5 (fun j i h => xw_o_sub (by decide) j i h))⟩
      · refine xw_aload_n (pc := 24) C0 0 dX6_takeNumber_24 rfl rfl ?_
        refine xw_getI (pc := 25) (f := 7) (z := μ 104 7) C0 kcX6 dX6_takeNumber_25 (by decide) tv_300 (xj_104 hKL) xk_17 rfl (rfl) (fun g6 k6 => ?_)
        refine xw_iload_n (pc := 28) C0 2 dX6_takeNumber_28 rfl rfl ?_
        refine xw_icmp_le (pc := 29) (tgt := 40) C0 (by omega) (by omega) dX6_takeNumber_29 rfl (fun b7 => ?_) (fun b7 => ?_)
        · refine xw_aload_n (pc := 40) C0 0 dX6_takeNumber_40 rfl rfl ?_
          refine xw_getI (pc := 41) (f := 7) (z := μ 104 7) C0 kcX6 dX6_takeNumber_41 (by decide) tv_300 (xj_104 hKL) xk_17 rfl (rfl) (fun g8 k8 => ?_)
          refine xw_istore_n (pc := 44) (L' := [(3, .int (Int32.ofInt (μ 104 7))), (0, .ref (xw_ad al 104)), (1, .int (Int32.ofInt a)), (2, .int (Int32.ofInt b))]) C0 dX6_takeNumber_44 rfl (by decide) rfl ?_
          refine xw_aload_n (pc := 45) C0 1 dX6_takeNumber_45 rfl rfl ?_
          refine xw_callVV (pc := 46) (μ := μ) (ci := 6) (rest := []) (As := []) C0 hU hO sa_Tg hKL (xh_step (l := l) (pz := hp_x t n pz) hS (c8 (by omega)) (hp_xb (lim := lim) hp9 (by omega))) tv_509 dX6_takeNumber_46 tv_506 tv_507 tv_508 tv_9 rfl yb_X6_step (by decide) rfl rfl rfl (by decide) (Nat.le_of_ble_eq_true rfl) (xj_104 hKL) xk_17 (fun m10 w10 => ?_)
          obtain ⟨T10, F10⟩ := w10
          have hS_m10 := hc_SF hS F10 (by decide)
          have n_m10 := hS_m10.2.2.1
          have l_m10 := hS_m10.2.2.2.2.1
          have b_m10 := hS_m10.2.2.2.2.2
          have a10 := T10
          refine xw_iload_n (pc := 49) C0 0 dX6_takeNumber_49 rfl rfl ?_
          refine xw_iret C0 hA hr hlk rfl dX6_takeNumber_50 ?_
          have eo : hp_num t n lim a b pz = .inr (hp_u t n pz, hp_x t n pz) := by
            unfold hp_num
            rw [if_pos (by omega), if_pos ⟨by omega, by omega⟩]
          exact ⟨_, rfl, Or.inl ⟨_, _, eo, by omega, by omega, T10, (F10 104 8 rfl).trans hw⟩, ((xw_F.rf (ML := [(104, 2, 9)])).tr F10 (fun j i h => xw_o_sub (by decide) j i h))⟩
        · refine xw_aload_n (pc := 32) C0 0 dX6_takeNumber_32 rfl rfl ?_
          refine xw_iconst (pc := 33) C0 dX6_takeNumber_33 ?_
          refine xw_callVI (pc := 34) (μ := μ) (ci := 6) (rest := []) (As := [.int (Int32.ofInt 2)]) C0 hU hO sa_Tg hKL (xh_refuse (l := l) (v := 2) (by omega) (by omega)) tv_546 dX6_takeNumber_34 tv_556 tv_544 tv_545 tv_9 rfl yb_X6_refuse (by decide) rfl rfl rfl (by decide) (Nat.le_of_ble_eq_true rfl) (xj_104 hKL) xk_17 (fun r11 m11 w11 => ?_)
          obtain ⟨rfl, w11⟩ := w11
          rcases w11.symm with ⟨w11, -⟩ | ⟨-, x11, y11, F11⟩
          · exfalso
            omega
          have hS_m11 := hc_SF hS F11 (by decide)
          have n_m11 := hS_m11.2.2.1
          have l_m11 := hS_m11.2.2.2.2.1
          have b_m11 := hS_m11.2.2.2.2.2
          refine xw_pop (pc := 37) C0 dX6_takeNumber_37 rfl ?_
          refine xw_iconst (pc := 38) C0 dX6_takeNumber_38 ?_
          refine xw_iret C0 hA hr hlk rfl dX6_takeNumber_39 ?_
          have eo : hp_num t n lim a b pz = .inl (hp_bad t n lim 2 pz) := by
            unfold hp_num
            rw [if_pos (by omega), if_neg (by omega)]
          exact ⟨_, rfl, Or.inr ⟨_, eo, rfl, hc_Wb ⟨by decide, by decide⟩ x11 (y11.trans c3)⟩, ((xw_F.rf (ML := [(104, 2, 9)])).tr F11 (fun j i h => xw_o_sub (by decide) j i h))⟩
    · refine xw_aload_n (pc := 8) C0 0 dX6_takeNumber_8 rfl rfl ?_
      refine xw_iconst (pc := 9) C0 dX6_takeNumber_9 ?_
      refine xw_callVI (pc := 10) (μ := μ) (ci := 6) (rest := []) (As := [.int (Int32.ofInt 1)]) C0 hU hO sa_Tg hKL (xh_refuse (l := l) (v := 1) (by omega) (by omega)) tv_546 dX6_takeNumber_10 tv_556 tv_544 tv_545 tv_9 rfl yb_X6_refuse (by decide) rfl rfl rfl (by decide) (Nat.le_of_ble_eq_true rfl) (xj_104 hKL) xk_17 (fun r12 m12 w12 => ?_)
      obtain ⟨rfl, w12⟩ := w12
      rcases w12.symm with ⟨w12, -⟩ | ⟨-, x12, y12, F12⟩
      · exfalso
        omega
      have hS_m12 := hc_SF hS F12 (by decide)
      have n_m12 := hS_m12.2.2.1
      have l_m12 := hS_m12.2.2.2.2.1
      have b_m12 := hS_m12.2.2.2.2.2
      refine xw_pop (pc := 13) C0 dX6_takeNumber_13 rfl ?_
      refine xw_iconst (pc := 14) C0 dX6_takeNumber_14 ?_
      refine xw_iret C0 hA hr hlk rfl dX6_takeNumber_15 ?_
      have eo : hp_num t n lim a b pz = .inl (hp_bad t n lim 1 pz) := by
        unfold hp_num
        rw [if_neg (by omega)]
      exact ⟨_, rfl, Or.inr ⟨_, eo, rfl, hc_Wb ⟨by decide, by decide⟩ x12 (y12.trans c3)⟩, ((xw_F.rf (ML := [(104, 2, 9)])).tr F12 (fun j i h => xw_o_sub (by decide) j i h))⟩)
set_option maxRecDepth 20000 in
set_option maxHeartbeats 20000000 in
theorem xh_isName {l : Launch} {t : Nat → Int} {n lim pz : Nat} {μ : xw_M} (hS : hc_S t n lim μ) (hT : hc_T t n lim pz μ) (hw : μ 104 8 = 0) : xw_MetI l vwCl sa_Ts tb_KT0 tc_KL yX6_isName cX6_isName 1 (some .boolean) 3 141 (fun ad => [.ref (ad 104)]) μ (fun r μ' => ((hp_k t n lim pz = 2 ∧ hp_kw (hp_w t n pz) = -1) ∧ r = 1 ∧ μ = μ') ∨ (¬ (hp_k t n lim pz = 2 ∧ hp_kw (hp_w t n pz) = -1) ∧ r = 0 ∧ hc_W (hp_bad t n lim 1 pz) μ' ∧ xw_F [(104, 8, 9)] μ μ')) :=
  xw_of (by decide) (fun _ => Nat.le_of_ble_eq_true rfl) (fun p e s m args below meth c D dA A al w0 sz C0 hU hO hKL hr hlk hA => by
    have n_μ := hS.2.2.1
    have l_μ := hS.2.2.2.2.1
    have b_μ := hS.2.2.2.2.2
    obtain ⟨hp9, c2, c3, c4, c5, c6, c7, c8⟩ := id hT
    have hpl := hp_plb (t := t) (lim := lim) hp9
    have hkb := hp_kb t n lim pz
    refine xw_aload_n (pc := 0) C0 0 dX6_isName_0 rfl rfl ?_
    refine xw_getI (pc := 1) (f := 2) (z := μ 104 2) C0 kcX6 dX6_isName_1 (by decide) tv_290 (xj_104 hKL) xk_17 rfl (rfl) (fun g1 k1 => ?_)
    refine xw_iconst (pc := 4) C0 dX6_isName_4 ?_
    refine xw_icmp_ne (pc := 5) (tgt := 16) C0 (by omega) (by omega) dX6_isName_5 rfl (fun b2 => ?_) (fun b2 => ?_)
    · refine xw_aload_n (pc := 16) C0 0 dX6_isName_16 rfl rfl ?_
      refine xw_iconst (pc := 17) C0 dX6_isName_17 ?_
      refine xw_callVI (pc := 18) (μ := μ) (ci := 6) (rest := []) (As := [.int (Int32.ofInt 1)]) C0 hU hO sa_Tg hKL (xh_refuse (l := l) (v := 1) (by omega) (by omega)) tv_546 dX6_isName_18 tv_556 tv_544 tv_545 tv_9 rfl yb_X6_refuse (by decide) rfl rfl rfl (by decide) (Nat.le_of_ble_eq_true rfl) (xj_104 hKL) xk_17 (fun r3 m3 w3 => ?_)
      obtain ⟨rfl, w3⟩ := w3
      rcases w3.symm with ⟨w3, -⟩ | ⟨-, x3, y3, F3⟩
      · exfalso
        omega
      have hS_m3 := hc_SF hS F3 (by decide)
      have n_m3 := hS_m3.2.2.1
      have l_m3 := hS_m3.2.2.2.2.1
      have b_m3 := hS_m3.2.2.2.2.2
      refine xw_if_eq (pc := 21) (tgt := 28) C0 (by omega) dX6_isName_21 rfl (fun b4 => ?_) (fun b4 => ?_)
      · refine xw_iconst (pc := 28) C0 dX6_isName_28 ?_
        refine xw_iret C0 hA hr hlk rfl dX6_isName_29 ?_
        exact ⟨_, rfl, Or.inr ⟨by omega, rfl, hc_Wb ⟨by decide, by decide⟩ x3 (y3.trans c3), ((xw_F.rf (ML := [(104, 8, 9)])).tr F3 (fun j i h => xw_o_sub (by decide) j i h))⟩⟩
      · exfalso
        omega
    · refine xw_aload_n (pc := 8) C0 0 dX6_isName_8 rfl rfl ?_
      refine xw_getI (pc := 9) (f := 6) (z := μ 104 6) C0 kcX6 dX6_isName_9 (by decide) tv_299 (xj_104 hKL) xk_17 rfl (rfl) (fun g5 k5 => ?_)
      refine xw_iconst (pc := 12) C0 dX6_isName_12 ?_
      refine xw_icmp_eq (pc := 13) (tgt := 24) C0 (by omega) (by omega) dX6_isName_13 rfl (fun b6 => ?_) (fun b6 => ?_)
      · refine xw_iconst (pc := 24) C0 dX6_isName_24 ?_
        refine xw_goto (pc := 25) (tgt := 29) C0 dX6_isName_25 rfl ?_
        refine xw_iret C0 hA hr hlk rfl dX6_isName_29 ?_
        exact ⟨_, rfl, Or.inl ⟨⟨by omega, by omega⟩, rfl, rfl⟩⟩
      · refine xw_aload_n (pc := 16) C0 0 dX6_isName_16 rfl rfl ?_
        refine xw_iconst (pc := 17) C0 dX6_isName_17 ?_
        refine xw_callVI (pc := 18) (μ := μ) (ci := 6) (rest := []) (As := [.int (Int32.ofInt 1)]) C0 hU hO sa_Tg hKL (xh_refuse (l := l) (v := 1) (by omega) (by omega)) tv_546 dX6_isName_18 tv_556 tv_544 tv_545 tv_9 rfl yb_X6_refuse (by decide) rfl rfl rfl (by decide) (Nat.le_of_ble_eq_true rfl) (xj_104 hKL) xk_17 (fun r7 m7 w7 => ?_)
        obtain ⟨rfl, w7⟩ := w7
        rcases w7.symm with ⟨w7, -⟩ | ⟨-, x7, y7, F7⟩
        · exfalso
          omega
        have hS_m7 := hc_SF hS F7 (by decide)
        have n_m7 := hS_m7.2.2.1
        have l_m7 := hS_m7.2.2.2.2.1
        have b_m7 := hS_m7.2.2.2.2.2
        refine xw_if_eq (pc := 21) (tgt := 28) C0 (by omega) dX6_isName_21 rfl (fun b8 => ?_) (fun b8 => ?_)
        · refine xw_iconst (pc := 28) C0 dX6_isName_28 ?_
          refine xw_iret C0 hA hr hlk rfl dX6_isName_29 ?_
          exact ⟨_, rfl, Or.inr ⟨by omega, rfl, hc_Wb ⟨by decide, by decide⟩ x7 (y7.trans c3), ((xw_F.rf (ML := [(104, 8, 9)])).tr F7 (fun j i h => xw_o_sub (by decide) j i h))⟩⟩
        · exfalso
          omega)
set_option maxRecDepth 20000 in
set_option maxHeartbeats 20000000 in
theorem xh_findThingL {l : Launch} {p : Program} {e : Env} {s : State} {m : MethodId} {args : Array Value} {below : List Frame} {meth : Method} {c : Code} {Q : State → Prop} {D : va_G} {dA : Nat → ClassId} {A : Nat → Prop} {al : List (Nat × Nat)} (C0 : sa_C p s m args c D dA A 4 vwCl sa_Ts cX2_findThing yX2_findThing.cls) (hU : sa_U D vwCl dA s) (hO : tb_Ou A s s.heap) (hKL : al.map Prod.snd = tc_KL) {rd nm : Nat → Int} {v q : Int} {μ : xw_M} (hG : xw_G xw_GL μ) (hH : hc_H rd nm μ) (hK : hp_ok rd nm) (hv : 0 ≤ v ∧ v < 10460353203) (kx : q = -1 → xw_W p l e { frames := 2, cells := 0, slots := 0, locals := 120 } s m args below meth c Q D dA A 4 vwCl tb_KT0 al 0 0 μ 29 [(0, .ref (xw_ad al 107))] []) (kw : ∀ i : Nat, (i : Int) < rd 0 → q = (i : Int) → xw_W p l e { frames := 2, cells := 0, slots := 0, locals := 120 } s m args below meth c Q D dA A 4 vwCl tb_KT0 al 0 0 μ 21 [(3, .int (Int32.ofInt (i : Int)))] []) : ∀ (fu9 : Nat) (i : Nat), (((rd 0).toNat : Nat) : Int) - (i : Int) < (fu9 : Int) → i ≤ (rd 0).toNat → hp_fd nm 0 v ((rd 0).toNat - i) i = q → xw_W p l e { frames := 2, cells := 0, slots := 0, locals := 120 } s m args below meth c Q D dA A 4 vwCl tb_KT0 al 0 0 μ 2 [(3, .int (Int32.ofInt (i : Int))), (0, .ref (xw_ad al 107)), (1, .long (Int64.ofInt (hp_cv v)))] [] := by
  intro fu9
  induction fu9 with
  | zero => intro i hm hi hq; exfalso; omega
  | succ fu9 ih =>
    intro i hm hi hq
    have k0 := hK.1
    have hc := hH.1.1
    have hvr := hp_cvr hv
    refine xw_iload_n (pc := 2) C0 0 dX2_findThing_2 rfl rfl ?_
    refine xw_aload_n (pc := 3) C0 1 dX2_findThing_3 rfl rfl ?_
    refine xw_getI (pc := 4) (f := 13) (z := μ 107 13) C0 kcX2 dX2_findThing_4 (by decide) tv_96 (xj_107 hKL) xk_28 rfl (rfl) (fun g1 k1 => ?_)
    refine xw_icmp_ge (pc := 7) (tgt := 29) C0 (by omega) (by omega) dX2_findThing_7 rfl (fun b2 => ?_) (fun b2 => ?_)
    · have e2 : (rd 0).toNat - i = 0 := by omega
      rw [e2] at hq
      refine xw_pk [1] (L' := [(0, .ref (xw_ad al 107))]) rfl ?_
      exact kx hq.symm
    · refine xw_aload_n (pc := 10) C0 1 dX2_findThing_10 rfl rfl ?_
      refine xw_getR (pc := 11) (f := 0) C0 108 kcX2 dX2_findThing_11 (by decide) tv_61 (xj_107 hKL) xk_28 rfl ((rfl).trans (xe_107_0 hG)) ?_
      refine xw_iload_n (pc := 14) C0 0 dX2_findThing_14 rfl rfl ?_
      have a9 : μ 108 ((i : Int)).toNat = hp_cv (nm (0 + i)) := by rw [Nat.zero_add]; exact (hH.2.1 i (by omega) (by omega)).1
      have n9 : 0 ≤ nm (0 + i) ∧ nm (0 + i) < 10460353203 := by rw [Nat.zero_add]; exact (hK.2.2.2.2.1 i (by omega) (by omega)).2.2.2
      refine xw_lald (pc := 15) (z := hp_cv (nm (0 + i))) C0 dX2_findThing_15 (xj_108 hKL) xk_29 (by omega) (by decide) (xw_rl (by omega)) a9 (fun g3 k3 => ?_)
      have i9 := hp_cvi n9 hv
      refine xw_lload_n (pc := 16) C0 2 dX2_findThing_16 rfl rfl ?_
      refine xw_lcmp (pc := 17) C0 (by omega) (by omega) dX2_findThing_17 (fun r4 g4 k4 c4 => ?_)
      refine xw_if_ne (pc := 18) (tgt := 23) C0 (by omega) dX2_findThing_18 rfl (fun b5 => ?_) (fun b5 => ?_)
      · refine xw_iinc (pc := 23) (L' := [(3, .int (Int32.ofInt ((i : Int) + 1))), (0, .ref (xw_ad al 107)), (1, .long (Int64.ofInt (hp_cv v)))]) C0 0 dX2_findThing_23 rfl (by decide) rfl ?_
        refine xw_goto (pc := 26) (tgt := 2) C0 dX2_findThing_26 rfl ?_
        have e1 : (i : Int) + 1 = ((i + 1 : Nat) : Int) := by omega
        rw [e1]
        refine xw_pk [0, 1, 2] (L' := [(3, .int (Int32.ofInt ((i + 1 : Nat) : Int))), (0, .ref (xw_ad al 107)), (1, .long (Int64.ofInt (hp_cv v)))]) rfl ?_
        refine ih (i + 1) (by omega) (by omega) ?_
        have e2 : (rd 0).toNat - i = ((rd 0).toNat - (i + 1)) + 1 := by omega
        rw [e2, hp_fd0 (by omega)] at hq
        exact hq
      · have e2 : (rd 0).toNat - i = ((rd 0).toNat - (i + 1)) + 1 := by omega
        rw [e2, hp_fd1 (by omega)] at hq
        refine xw_pk [0] (L' := [(3, .int (Int32.ofInt (i : Int)))]) rfl ?_
        exact kw i (by omega) hq.symm
set_option maxRecDepth 20000 in
set_option maxHeartbeats 20000000 in
theorem xh_findThing {l : Launch} {rd nm : Nat → Int} {v : Int} {μ : xw_M} (hG : xw_G xw_GL μ) (hH : hc_H rd nm μ) (hK : hp_ok rd nm) (hv : 0 ≤ v ∧ v < 10460353203) : xw_MetI l vwCl sa_Ts tb_KT0 tc_KL yX2_findThing cX2_findThing 4 (some .int) 2 120 (fun ad => [.ref (ad 107), .long (Int64.ofInt (hp_cv v))]) μ (fun r μ' => μ = μ' ∧ r = hp_f nm 0 (rd 0).toNat v) :=
  xw_of (by decide) (fun _ => Nat.le_of_ble_eq_true rfl) (fun p e s m args below meth c D dA A al w0 sz C0 hU hO hKL hr hlk hA => by
    refine xw_iconst (pc := 0) C0 dX2_findThing_0 ?_
    refine xw_istore_n (pc := 1) (L' := [(3, .int (Int32.ofInt 0)), (0, .ref (xw_ad al 107)), (1, .long (Int64.ofInt (hp_cv v)))]) C0 dX2_findThing_1 rfl (by decide) rfl ?_
    refine xw_pk [0, 1, 2] (L' := [(3, .int (Int32.ofInt ((0 : Nat) : Int))), (0, .ref (xw_ad al 107)), (1, .long (Int64.ofInt (hp_cv v)))]) rfl ?_
    refine xh_findThingL (rd := rd) (nm := nm) (v := v) (q := hp_f nm 0 (rd 0).toNat v) C0 hU hO hKL hG hH hK hv (fun q9 => ?_) (fun i hi q9 => ?_) 100 0 (by have k0 := hK.1; omega) (Nat.zero_le _) rfl
    · refine xw_iconst (pc := 29) C0 dX2_findThing_29 ?_
      refine xw_iret C0 hA hr hlk rfl dX2_findThing_30 ?_
      exact ⟨_, rfl, rfl, q9.symm⟩
    · have k0 := hK.1
      refine xw_iload_n (pc := 21) C0 0 dX2_findThing_21 rfl rfl ?_
      refine xw_iret C0 hA hr hlk rfl dX2_findThing_22 ?_
      exact ⟨_, rfl, rfl, q9.symm⟩)
set_option maxRecDepth 20000 in
set_option maxHeartbeats 20000000 in
theorem xh_findFaultL {l : Launch} {p : Program} {e : Env} {s : State} {m : MethodId} {args : Array Value} {below : List Frame} {meth : Method} {c : Code} {Q : State → Prop} {D : va_G} {dA : Nat → ClassId} {A : Nat → Prop} {al : List (Nat × Nat)} (C0 : sa_C p s m args c D dA A 4 vwCl sa_Ts cX2_findFault yX2_findFault.cls) (hU : sa_U D vwCl dA s) (hO : tb_Ou A s s.heap) (hKL : al.map Prod.snd = tc_KL) {rd nm : Nat → Int} {v q : Int} {μ : xw_M} (hG : xw_G xw_GL μ) (hH : hc_H rd nm μ) (hK : hp_ok rd nm) (hv : 0 ≤ v ∧ v < 10460353203) (kx : q = -1 → xw_W p l e { frames := 2, cells := 0, slots := 0, locals := 120 } s m args below meth c Q D dA A 4 vwCl tb_KT0 al 0 0 μ 29 [(0, .ref (xw_ad al 107))] []) (kw : ∀ i : Nat, (i : Int) < rd 1 → q = (i : Int) → xw_W p l e { frames := 2, cells := 0, slots := 0, locals := 120 } s m args below meth c Q D dA A 4 vwCl tb_KT0 al 0 0 μ 21 [(3, .int (Int32.ofInt (i : Int)))] []) : ∀ (fu9 : Nat) (i : Nat), (((rd 1).toNat : Nat) : Int) - (i : Int) < (fu9 : Int) → i ≤ (rd 1).toNat → hp_fd nm 6 v ((rd 1).toNat - i) i = q → xw_W p l e { frames := 2, cells := 0, slots := 0, locals := 120 } s m args below meth c Q D dA A 4 vwCl tb_KT0 al 0 0 μ 2 [(3, .int (Int32.ofInt (i : Int))), (0, .ref (xw_ad al 107)), (1, .long (Int64.ofInt (hp_cv v)))] [] := by
  intro fu9
  induction fu9 with
  | zero => intro i hm hi hq; exfalso; omega
  | succ fu9 ih =>
    intro i hm hi hq
    have k0 := hK.2.1
    have hc := hH.1.2.1
    have hvr := hp_cvr hv
    refine xw_iload_n (pc := 2) C0 0 dX2_findFault_2 rfl rfl ?_
    refine xw_aload_n (pc := 3) C0 1 dX2_findFault_3 rfl rfl ?_
    refine xw_getI (pc := 4) (f := 14) (z := μ 107 14) C0 kcX2 dX2_findFault_4 (by decide) tv_101 (xj_107 hKL) xk_28 rfl (rfl) (fun g1 k1 => ?_)
    refine xw_icmp_ge (pc := 7) (tgt := 29) C0 (by omega) (by omega) dX2_findFault_7 rfl (fun b2 => ?_) (fun b2 => ?_)
    · have e2 : (rd 1).toNat - i = 0 := by omega
      rw [e2] at hq
      refine xw_pk [1] (L' := [(0, .ref (xw_ad al 107))]) rfl ?_
      exact kx hq.symm
    · refine xw_aload_n (pc := 10) C0 1 dX2_findFault_10 rfl rfl ?_
      refine xw_getR (pc := 11) (f := 7) C0 115 kcX2 dX2_findFault_11 (by decide) tv_81 (xj_107 hKL) xk_28 rfl ((rfl).trans (xe_107_7 hG)) ?_
      refine xw_iload_n (pc := 14) C0 0 dX2_findFault_14 rfl rfl ?_
      have a9 : μ 115 ((i : Int)).toNat = hp_cv (nm (6 + i)) := (hH.2.2.1 i (by omega) (by omega)).1
      have n9 : 0 ≤ nm (6 + i) ∧ nm (6 + i) < 10460353203 := (hK.2.2.2.2.2 i (by omega) (by omega)).2.2.2.2
      refine xw_lald (pc := 15) (z := hp_cv (nm (6 + i))) C0 dX2_findFault_15 (xj_115 hKL) xk_36 (by omega) (by decide) (xw_rl (by omega)) a9 (fun g3 k3 => ?_)
      have i9 := hp_cvi n9 hv
      refine xw_lload_n (pc := 16) C0 2 dX2_findFault_16 rfl rfl ?_
      refine xw_lcmp (pc := 17) C0 (by omega) (by omega) dX2_findFault_17 (fun r4 g4 k4 c4 => ?_)
      refine xw_if_ne (pc := 18) (tgt := 23) C0 (by omega) dX2_findFault_18 rfl (fun b5 => ?_) (fun b5 => ?_)
      · refine xw_iinc (pc := 23) (L' := [(3, .int (Int32.ofInt ((i : Int) + 1))), (0, .ref (xw_ad al 107)), (1, .long (Int64.ofInt (hp_cv v)))]) C0 0 dX2_findFault_23 rfl (by decide) rfl ?_
        refine xw_goto (pc := 26) (tgt := 2) C0 dX2_findFault_26 rfl ?_
        have e1 : (i : Int) + 1 = ((i + 1 : Nat) : Int) := by omega
        rw [e1]
        refine xw_pk [0, 1, 2] (L' := [(3, .int (Int32.ofInt ((i + 1 : Nat) : Int))), (0, .ref (xw_ad al 107)), (1, .long (Int64.ofInt (hp_cv v)))]) rfl ?_
        refine ih (i + 1) (by omega) (by omega) ?_
        have e2 : (rd 1).toNat - i = ((rd 1).toNat - (i + 1)) + 1 := by omega
        rw [e2, hp_fd0 (by omega)] at hq
        exact hq
      · have e2 : (rd 1).toNat - i = ((rd 1).toNat - (i + 1)) + 1 := by omega
        rw [e2, hp_fd1 (by omega)] at hq
        refine xw_pk [0] (L' := [(3, .int (Int32.ofInt (i : Int)))]) rfl ?_
        exact kw i (by omega) hq.symm
set_option maxRecDepth 20000 in
set_option maxHeartbeats 20000000 in
theorem xh_findFault {l : Launch} {rd nm : Nat → Int} {v : Int} {μ : xw_M} (hG : xw_G xw_GL μ) (hH : hc_H rd nm μ) (hK : hp_ok rd nm) (hv : 0 ≤ v ∧ v < 10460353203) : xw_MetI l vwCl sa_Ts tb_KT0 tc_KL yX2_findFault cX2_findFault 4 (some .int) 2 120 (fun ad => [.ref (ad 107), .long (Int64.ofInt (hp_cv v))]) μ (fun r μ' => μ = μ' ∧ r = hp_f nm 6 (rd 1).toNat v) :=
  xw_of (by decide) (fun _ => Nat.le_of_ble_eq_true rfl) (fun p e s m args below meth c D dA A al w0 sz C0 hU hO hKL hr hlk hA => by
    refine xw_iconst (pc := 0) C0 dX2_findFault_0 ?_
    refine xw_istore_n (pc := 1) (L' := [(3, .int (Int32.ofInt 0)), (0, .ref (xw_ad al 107)), (1, .long (Int64.ofInt (hp_cv v)))]) C0 dX2_findFault_1 rfl (by decide) rfl ?_
    refine xw_pk [0, 1, 2] (L' := [(3, .int (Int32.ofInt ((0 : Nat) : Int))), (0, .ref (xw_ad al 107)), (1, .long (Int64.ofInt (hp_cv v)))]) rfl ?_
    refine xh_findFaultL (rd := rd) (nm := nm) (v := v) (q := hp_f nm 6 (rd 1).toNat v) C0 hU hO hKL hG hH hK hv (fun q9 => ?_) (fun i hi q9 => ?_) 100 0 (by have k0 := hK.2.1; omega) (Nat.zero_le _) rfl
    · refine xw_iconst (pc := 29) C0 dX2_findFault_29 ?_
      refine xw_iret C0 hA hr hlk rfl dX2_findFault_30 ?_
      exact ⟨_, rfl, rfl, q9.symm⟩
    · have k0 := hK.2.1
      refine xw_iload_n (pc := 21) C0 0 dX2_findFault_21 rfl rfl ?_
      refine xw_iret C0 hA hr hlk rfl dX2_findFault_22 ?_
      exact ⟨_, rfl, rfl, q9.symm⟩)
theorem hc_TF {t : Nat → Int} {n lim pz : Nat} {ML : List (Nat × Nat × Nat)} {μ μ' : xw_M} (h : hc_T t n lim pz μ) (hF : xw_F ML μ μ') (hd : (xw_o ML 104 2 && (xw_o ML 104 3 && (xw_o ML 104 4 && (xw_o ML 104 5 && (xw_o ML 104 6 && xw_o ML 104 7))))) = true) : hc_T t n lim pz μ' := by
  simp only [Bool.and_eq_true] at hd
  obtain ⟨d2, d3, d4, d5, d6, d7⟩ := hd
  obtain ⟨h1, h2, h3, h4, h5, h6, h7, h8⟩ := h
  refine ⟨h1, (hF _ _ d2).trans h2, (hF _ _ d3).trans h3, fun q => ⟨(hF _ _ d5).trans (h4 q).1, (hF _ _ d6).trans (h4 q).2⟩, fun q => (hF _ _ d6).trans (h5 q), fun q => (hF _ _ d7).trans (h6 q), fun q => (hF _ _ d7).trans (h7 q), fun q => (hF _ _ d4).trans (h8 q)⟩
theorem xw_ui {ν μ : xw_M} {j k i : Nat} {x : Int} (h : ∀ i : Nat, ν j i = μ j i) : xw_u ν j k x j i = if i = k then x else μ j i := by
  unfold xw_u
  by_cases hi : i = k
  · rw [if_pos ⟨rfl, hi⟩, if_pos hi]
  · rw [if_neg (fun q => hi q.2), if_neg hi]
    exact h i
set_option maxRecDepth 20000 in
set_option maxHeartbeats 20000000 in
theorem xh_takeThing {l : Launch} {t rd nm : Nat → Int} {n lim pz : Nat} {μ : xw_M} (hS : hc_S t n lim μ) (hT : hc_T t n lim pz μ) (hw : μ 104 8 = 0) (hH : hc_H rd nm μ) (hK : hp_ok rd nm) : xw_MetI l vwCl sa_Ts tb_KT0 tc_KL yX6_takeThing cX6_takeThing 3 (some .int) 5 187 (fun ad => [.ref (ad 104), .ref (ad 107)]) μ (fun r μ' => hc_V t n lim (hp_one t n lim nm 0 (rd 0).toNat pz) r μ' ∧ xw_F [(104, 2, 9)] μ μ') :=
  xw_of (by decide) (fun _ => Nat.le_of_ble_eq_true rfl) (fun p e s m args below meth c D dA A al w0 sz C0 hU hO hKL hr hlk hA => by
    have n_μ := hS.2.2.1
    have l_μ := hS.2.2.2.2.1
    have b_μ := hS.2.2.2.2.2
    obtain ⟨hp9, c2, c3, c4, c5, c6, c7, c8⟩ := id hT
    have hpl := hp_plb (t := t) (lim := lim) hp9
    have hkb := hp_kb t n lim pz
    have k0 := hK.1
    refine xw_aload_n (pc := 0) C0 0 dX6_takeThing_0 rfl rfl ?_
    refine xw_callVI (pc := 1) (μ := μ) (ci := 6) (rest := []) (As := []) C0 hU hO sa_Tg hKL (xh_isName (l := l) hS hT hw) tv_555 dX6_takeThing_1 tv_573 tv_553 tv_554 tv_9 rfl yb_X6_isName (by decide) rfl rfl rfl (by decide) (Nat.le_of_ble_eq_true rfl) (xj_104 hKL) xk_17 (fun r1 m1 w1 => ?_)
    rcases w1 with ⟨w1, rfl, rfl⟩ | ⟨w1, rfl, W1, F1⟩
    · refine xw_if_eq (pc := 4) (tgt := 18) C0 (by omega) dX6_takeThing_4 rfl (fun b2 => ?_) (fun b2 => ?_)
      · exfalso
        omega
      · refine xw_aload_n (pc := 7) C0 1 dX6_takeThing_7 rfl rfl ?_
        refine xw_aload_n (pc := 8) C0 0 dX6_takeThing_8 rfl rfl ?_
        refine xw_getL (pc := 9) (f := 5) (z := μ 104 5) C0 kcX6 dX6_takeThing_9 (by decide) tv_294 (xj_104 hKL) xk_17 rfl (rfl) (fun g3 k3 => ?_)
        have hv9 := hp_wb (t := t) (n := n) (lim := lim) (p := pz) (by omega)
        refine xw_nL (congrArg Int64.ofInt (c4 (by omega)).1) ?_
        refine xw_callVI (pc := 12) (μ := μ) (ci := 2) (rest := []) (As := [.long (Int64.ofInt (hp_cv (hp_w t n pz)))]) C0 hU hO sa_Tg hKL (xh_findThing (l := l) (rd := rd) (nm := nm) (v := hp_w t n pz) hS.1 hH hK hv9) tv_560 dX6_takeThing_12 tv_574 tv_558 tv_559 tv_4 rfl yb_X2_findThing (by decide) rfl rfl rfl (by decide) (Nat.le_of_ble_eq_true rfl) (xj_107 hKL) xk_28 (fun r4 m4 w4 => ?_)
        obtain ⟨rfl, w4⟩ := w4
        have u4 := hp_fb nm 0 (rd 0).toNat (hp_w t n pz)
        have z4 := hK.1
        refine xw_goto (pc := 15) (tgt := 19) C0 dX6_takeThing_15 rfl ?_
        refine xw_istore_n (pc := 19) (L' := [(2, .int (Int32.ofInt r4)), (0, .ref (xw_ad al 104)), (1, .ref (xw_ad al 107))]) C0 dX6_takeThing_19 rfl (by decide) rfl ?_
        refine xw_iload_n (pc := 20) C0 0 dX6_takeThing_20 rfl rfl ?_
        refine xw_iconst (pc := 21) C0 dX6_takeThing_21 ?_
        refine xw_icmp_ne (pc := 22) (tgt := 34) C0 (by omega) (by omega) dX6_takeThing_22 rfl (fun b5 => ?_) (fun b5 => ?_)
        · refine xw_aload_n (pc := 34) C0 1 dX6_takeThing_34 rfl rfl ?_
          refine xw_callVV (pc := 35) (μ := μ) (ci := 6) (rest := []) (As := []) C0 hU hO sa_Tg hKL (xh_step (l := l) (pz := hp_x t n pz) hS (c8 (by omega)) (hp_xb (lim := lim) hp9 (by omega))) tv_509 dX6_takeThing_35 tv_506 tv_507 tv_508 tv_9 rfl yb_X6_step (by decide) rfl rfl rfl (by decide) (Nat.le_of_ble_eq_true rfl) (xj_104 hKL) xk_17 (fun m6 w6 => ?_)
          obtain ⟨T6, F6⟩ := w6
          have hS_m6 := hc_SF hS F6 (by decide)
          have n_m6 := hS_m6.2.2.1
          have l_m6 := hS_m6.2.2.2.2.1
          have b_m6 := hS_m6.2.2.2.2.2
          have a6 := T6
          refine xw_iload_n (pc := 38) C0 0 dX6_takeThing_38 rfl rfl ?_
          refine xw_iret C0 hA hr hlk rfl dX6_takeThing_39 ?_
          have eo : hp_one t n lim nm 0 (rd 0).toNat pz = .inr (hp_f nm 0 (rd 0).toNat (hp_w t n pz), hp_x t n pz) := by
            unfold hp_one
            rw [if_pos (by omega), if_neg (by omega)]
          exact ⟨_, rfl, Or.inl ⟨_, _, eo, by omega, by omega, T6, (F6 104 8 rfl).trans hw⟩, ((xw_F.rf (ML := [(104, 2, 9)])).tr F6 (fun j i h => xw_o_sub (by decide) j i h))⟩
        · refine xw_aload_n (pc := 25) C0 1 dX6_takeThing_25 rfl rfl ?_
          refine xw_iconst (pc := 26) C0 dX6_takeThing_26 ?_
          refine xw_callVI (pc := 27) (μ := μ) (ci := 6) (rest := []) (As := [.int (Int32.ofInt 3)]) C0 hU hO sa_Tg hKL (xh_refuse (l := l) (v := 3) (by omega) (by omega)) tv_546 dX6_takeThing_27 tv_556 tv_544 tv_545 tv_9 rfl yb_X6_refuse (by decide) rfl rfl rfl (by decide) (Nat.le_of_ble_eq_true rfl) (xj_104 hKL) xk_17 (fun r7 m7 w7 => ?_)
          obtain ⟨rfl, w7⟩ := w7
          rcases w7.symm with ⟨w7, -⟩ | ⟨-, x7, y7, F7⟩
          · exfalso
            omega
          have hS_m7 := hc_SF hS F7 (by decide)
          have n_m7 := hS_m7.2.2.1
          have l_m7 := hS_m7.2.2.2.2.1
          have b_m7 := hS_m7.2.2.2.2.2
          refine xw_pop (pc := 30) C0 dX6_takeThing_30 rfl ?_
          refine xw_goto (pc := 31) (tgt := 38) C0 dX6_takeThing_31 rfl ?_
          refine xw_iload_n (pc := 38) C0 0 dX6_takeThing_38 rfl rfl ?_
          refine xw_iret C0 hA hr hlk rfl dX6_takeThing_39 ?_
          have eo : hp_one t n lim nm 0 (rd 0).toNat pz = .inl (hp_bad t n lim 3 pz) := by
            unfold hp_one
            rw [if_pos (by omega), if_pos (by omega)]
          exact ⟨_, rfl, Or.inr ⟨_, eo, by omega, hc_Wb ⟨by decide, by decide⟩ x7 (y7.trans c3)⟩, ((xw_F.rf (ML := [(104, 2, 9)])).tr F7 (fun j i h => xw_o_sub (by decide) j i h))⟩
    · have hS_m1 := hc_SF hS F1 (by decide)
      have n_m1 := hS_m1.2.2.1
      have l_m1 := hS_m1.2.2.2.2.1
      have b_m1 := hS_m1.2.2.2.2.2
      have q1 : m1 104 8 = 1 := W1.2.1
      have pl1 : m1 104 3 = μ 104 3 := F1 104 3 rfl
      refine xw_if_eq (pc := 4) (tgt := 18) C0 (by omega) dX6_takeThing_4 rfl (fun b8 => ?_) (fun b8 => ?_)
      · refine xw_iconst (pc := 18) C0 dX6_takeThing_18 ?_
        refine xw_istore_n (pc := 19) (L' := [(2, .int (Int32.ofInt (-1))), (0, .ref (xw_ad al 104)), (1, .ref (xw_ad al 107))]) C0 dX6_takeThing_19 rfl (by decide) rfl ?_
        refine xw_iload_n (pc := 20) C0 0 dX6_takeThing_20 rfl rfl ?_
        refine xw_iconst (pc := 21) C0 dX6_takeThing_21 ?_
        refine xw_icmp_ne (pc := 22) (tgt := 34) C0 (by omega) (by omega) dX6_takeThing_22 rfl (fun b10 => ?_) (fun b10 => ?_)
        · exfalso
          omega
        · refine xw_aload_n (pc := 25) C0 1 dX6_takeThing_25 rfl rfl ?_
          refine xw_iconst (pc := 26) C0 dX6_takeThing_26 ?_
          refine xw_callVI (pc := 27) (μ := m1) (ci := 6) (rest := []) (As := [.int (Int32.ofInt 3)]) C0 hU hO sa_Tg hKL (xh_refuse (l := l) (v := 3) (by omega) (by omega)) tv_546 dX6_takeThing_27 tv_556 tv_544 tv_545 tv_9 rfl yb_X6_refuse (by decide) rfl rfl rfl (by decide) (Nat.le_of_ble_eq_true rfl) (xj_104 hKL) xk_17 (fun r11 m11 w11 => ?_)
          obtain ⟨rfl, w11⟩ := w11
          rcases w11 with ⟨w11, -⟩ | ⟨-, rfl⟩
          · exfalso
            omega
          refine xw_pop (pc := 30) C0 dX6_takeThing_30 rfl ?_
          refine xw_goto (pc := 31) (tgt := 38) C0 dX6_takeThing_31 rfl ?_
          refine xw_iload_n (pc := 38) C0 0 dX6_takeThing_38 rfl rfl ?_
          refine xw_iret C0 hA hr hlk rfl dX6_takeThing_39 ?_
          have eo : hp_one t n lim nm 0 (rd 0).toNat pz = .inl (hp_bad t n lim 1 pz) := if_neg (by omega)
          exact ⟨_, rfl, Or.inr ⟨_, eo, rfl, W1⟩, ((xw_F.rf (ML := [(104, 2, 9)])).tr F1 (fun j i h => xw_o_sub (by decide) j i h))⟩
      · exfalso
        omega)
