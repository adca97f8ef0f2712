theorem hr_ui {ν μ : xw_M} {j k i : Nat} {x : Int} (h : ∀ i : Nat, ν j i = μ j i) : xw_u ν j k x j i = if i = k then x else μ j i := xw_ui h
noncomputable def hr_B (t : Nat → Int) (n lim : Nat) (o : Sum hp_E (Int × Nat)) (told : Bool) (r : Int) (μ : xw_M) : Prop := (∃ (v : Int) (pz : Nat), o = .inr (v, pz) ∧ r = 1 ∧ hr_T t n lim pz μ ∧ (told = true → μ 200 13 = v)) ∨ (∃ e : hp_E, o = .inl e ∧ r = 0 ∧ hr_W e μ)
/-- what is read so far -/
noncomputable def hr_H (rd nm : Nat → Int) (μ : xw_M) : Prop := (∀ k : Nat, k < 77 → μ 203 k = rd k) ∧ (∀ k : Nat, k < 6 → (k : Int) < rd 0 → μ 208 k = nm k) ∧ (∀ k : Nat, k < 8 → (k : Int) < rd 1 → μ 208 (6 + k) = nm (6 + k))
noncomputable def hr_hj (ML : List (Nat × Nat × Nat)) : Bool := ML.all (fun q => !(Nat.beq q.1 203)) && ML.all (fun q => !(Nat.beq q.1 208))
theorem hr_HF {rd nm : Nat → Int} {ML : List (Nat × Nat × Nat)} {μ μ' : xw_M} (h : hr_H rd nm μ) (hF : xw_F ML μ μ') (hd : hr_hj ML = true) : hr_H rd nm μ' := by
  unfold hr_hj at hd
  rw [Bool.and_eq_true] at hd
  obtain ⟨h1, h2, h3⟩ := h
  exact ⟨fun k hk => (hF _ _ (xw_oj hd.1 k)).trans (h1 k hk), fun k a b => (hF _ _ (xw_oj hd.2 k)).trans (h2 k a b), fun k a b => (hF _ _ (xw_oj hd.2 _)).trans (h3 k a b)⟩
noncomputable def hr_Z (μ : xw_M) : Prop := ∃ rd nm : Nat → Int, hp_ok rd nm ∧ ∀ k : Nat, k < 77 → μ 203 k = rd k
theorem hr_ZF {ML : List (Nat × Nat × Nat)} {μ μ' : xw_M} (h : hr_Z μ) (hF : xw_F ML μ μ') (hd : ML.all (fun q => !(Nat.beq q.1 203)) = true) : hr_Z μ' := by
  obtain ⟨rd, nm, h1, h2⟩ := h
  exact ⟨rd, nm, h1, fun k hk => (hF _ _ (xw_oj hd k)).trans (h2 k hk)⟩
theorem hr_HZ {rd nm : Nat → Int} {μ : xw_M} (hK : hp_ok rd nm) (h : hr_H rd nm μ) : hr_Z μ := ⟨rd, nm, hK, h.1⟩
/-- a slot beyond what is told -/
theorem hp_okU {rd nm : Nat → Int} {i : Nat} {x : Int} (hK : hp_ok rd nm) (h3 : 3 ≤ i) (h53 : i < 53) (h : ∀ k : Nat, (k < 6 → (k : Int) < rd 0 → ¬ i = 3 + k ∧ ¬ i = 9 + k ∧ ¬ i = 15 + k) ∧ (k < 8 → (k : Int) < rd 1 → ¬ i = 21 + k ∧ ¬ i = 29 + k ∧ ¬ i = 37 + k ∧ ¬ i = 45 + k)) : hp_ok (hp_up rd i x) nm := by
  obtain ⟨k0, k1, k2, k3, k4, k5⟩ := hK
  have e : ∀ k : Nat, ¬ k = i → hp_up rd i x k = rd k := fun k hk => hp_upn hk
  refine ⟨?_, ?_, ?_, fun k hk => ?_, fun k hk hl => ?_, fun k hk hl => ?_⟩
  · rw [e 0 (by omega)]; exact k0
  · rw [e 1 (by omega)]; exact k1
  · rw [e 2 (by omega)]; exact k2
  · rw [e (53 + k) (by omega)]; exact k3 k hk
  · rw [e 0 (by omega)] at hl
    have h9 := (h k).1 hk hl
    rw [e (3 + k) (by omega), e (9 + k) (by omega), e (15 + k) (by omega)]
    exact k4 k hk hl
  · rw [e 1 (by omega)] at hl
    have h9 := (h k).2 hk hl
    rw [e 0 (by omega), e (21 + k) (by omega), e (29 + k) (by omega), e (37 + k) (by omega), e (45 + k) (by omega)]
    exact k5 k hk hl
theorem hr_HU {rd nm : Nat → Int} {μ μ' : xw_M} {i : Nat} {x : Int} (h : hr_H rd nm μ) (h3 : 3 ≤ i) (hu : ∀ k : Nat, μ' 203 k = if k = i then x else μ 203 k) (hn : ∀ k : Nat, μ' 208 k = μ 208 k) : hr_H (hp_up rd i x) nm μ' := by
  obtain ⟨h1, h2, h4⟩ := h
  refine ⟨fun k hk => ?_, fun k a b => ?_, fun k a b => ?_⟩
  · rw [hu]
    by_cases e : k = i
    · rw [if_pos e, e, hp_upg]
    · rw [if_neg e, hp_upn e]
      exact h1 k hk
  · rw [hp_upn (by omega)] at b
    rw [hn]
    exact h2 k a b
  · rw [hp_upn (by omega)] at b
    rw [hn]
    exact h4 k a b
set_option maxRecDepth 20000 in
set_option maxHeartbeats 20000000 in
theorem xr_readNumber {l : Launch} {t : Nat → Int} {n lim pz : Nat} {μ : xw_M} {a b : Int} (hS : hr_S t n lim μ) (hT : hr_T t n lim pz μ) (ha : 0 ≤ a ∧ a ≤ 999) (hb : 0 ≤ b ∧ b ≤ 999) : xw_MetI l vwCl sa_Ts tb_KT0 tc_KL yX12_readNumber cX12_readNumber 3 (some .boolean) 4 165 (fun ad => [.ref (ad 200), .int (Int32.ofInt a), .int (Int32.ofInt b)]) μ (fun r μ' => hr_B t n lim (hp_num t n lim a b pz) true r μ' ∧ xw_F [(200, 5, 13)] μ μ') :=
  xw_of (by decide) (fun _ => Nat.le_of_ble_eq_true rfl) (fun p e s m args below meth c D dA A al w0 sz C0 hU hO hKL hr hlk hA => by
    have n_μ := hS.2.2.1
    have l_μ := hS.2.2.2.1
    have b_μ := hS.2.2.2.2
    obtain ⟨hp9, c2, c3, c4, c5, c6, c7⟩ := id hT
    have hpl := hp_plb (t := t) (lim := lim) hp9
    have hkb := hp_kb t n lim pz
    refine xw_aload_n (pc := 0) C0 0 dX12_readNumber_0 rfl rfl ?_
    refine xw_getI (pc := 1) (f := 7) (z := μ 200 7) C0 kcX12 dX12_readNumber_1 (by decide) tv_1268 (xj_200 hKL) xk_0 rfl (rfl) (fun g1 k1 => ?_)
    refine xw_iconst (pc := 4) C0 dX12_readNumber_4 ?_
    refine xw_icmp_eq (pc := 5) (tgt := 14) C0 (by omega) (by omega) dX12_readNumber_5 rfl (fun b2 => ?_) (fun b2 => ?_)
    · refine xw_aload_n (pc := 14) C0 0 dX12_readNumber_14 rfl rfl ?_
      refine xw_getI (pc := 15) (f := 8) (z := μ 200 8) C0 kcX12 dX12_readNumber_15 (by decide) tv_1269 (xj_200 hKL) xk_0 rfl (rfl) (fun g3 k3 => ?_)
      refine xw_iload_n (pc := 18) C0 1 dX12_readNumber_18 rfl rfl ?_
      refine xw_iload_n (pc := 19) C0 2 dX12_readNumber_19 rfl rfl ?_
      refine xw_callSI (pc := 20) (μ := μ) (rest := []) (As := [.int (Int32.ofInt (μ 200 8)), .int (Int32.ofInt a), .int (Int32.ofInt b)]) C0 hU hO sa_Tg hKL (xm_isIn (l := l) (v := μ 200 8) (a := a) (b := b) (by omega) (by omega) (by omega)) tv_1481 dX12_readNumber_20 tv_1479 tv_1480 tv_13 yb_X12_isIn (by decide) rfl rfl rfl (by decide) (Nat.le_of_ble_eq_true rfl) (fun r4 m4 w4 => ?_)
      obtain ⟨rfl, w4⟩ := w4
      rcases w4 with ⟨w4, rfl⟩ | ⟨w4, rfl⟩
      · refine xw_if_ne (pc := 23) (tgt := 32) C0 (by omega) dX12_readNumber_23 rfl (fun b5 => ?_) (fun b5 => ?_)
        · refine xw_aload_n (pc := 32) C0 0 dX12_readNumber_32 rfl rfl ?_
          refine xw_aload_n (pc := 33) C0 0 dX12_readNumber_33 rfl rfl ?_
          refine xw_getI (pc := 34) (f := 8) (z := μ 200 8) C0 kcX12 dX12_readNumber_34 (by decide) tv_1269 (xj_200 hKL) xk_0 rfl (rfl) (fun g6 k6 => ?_)
          refine xw_putI (pc := 37) (f := 13) C0 kcX12 dX12_readNumber_37 (by decide) tv_1274 rfl rfl (xj_200 hKL) xk_0 rfl (by omega) (by omega) ?_
          refine xw_aload_n (pc := 40) C0 0 dX12_readNumber_40 rfl rfl ?_
          have Ft1 : xw_F [(200, 13, 13)] μ (xw_u μ 200 13 (μ 200 8)) := ((xw_F.rf (ML := [(200, 13, 13)])).u (show (200, 13, 13) ∈ _ by decide) ⟨by decide, by decide⟩)
          have vt1_200_13 : (xw_u μ 200 13 (μ 200 8)) 200 13 = μ 200 8 := xw_ug
          generalize (xw_u μ 200 13 (μ 200 8)) = t1 at Ft1 vt1_200_13 ⊢
          have hS_t1 := hr_SF hS Ft1 (by decide)
          have n_t1 := hS_t1.2.2.1
          have l_t1 := hS_t1.2.2.2.1
          have b_t1 := hS_t1.2.2.2.2
          refine xw_callVV (pc := 41) (μ := t1) (ci := 12) (rest := []) (As := []) C0 hU hO sa_Tg hKL (xr_go (l := l) (pz := hp_x t n pz) hS_t1 (by have q9 := c7 (by omega); have q8 : t1 200 5 = μ 200 5 := Ft1 200 5 rfl; omega) (hp_xb (lim := lim) hp9 (by omega))) tv_1425 dX12_readNumber_41 tv_1422 tv_1424 tq_X12_go tv_13 rfl yb_X12_go (by decide) rfl rfl rfl (by decide) (Nat.le_of_ble_eq_true rfl) (xj_200 hKL) xk_0 (fun m7 w7 => ?_)
          obtain ⟨T7, F7⟩ := w7
          have hS_m7 := hr_SF hS_t1 F7 (by decide)
          have n_m7 := hS_m7.2.2.1
          have l_m7 := hS_m7.2.2.2.1
          have b_m7 := hS_m7.2.2.2.2
          refine xw_iconst (pc := 44) C0 dX12_readNumber_44 ?_
          refine xw_iret C0 hA hr hlk rfl dX12_readNumber_45 ?_
          have eo : hp_num t n lim a b pz = .inr (hp_u t n pz, hp_x t n pz) := by
            unfold hp_num
            rw [if_pos (by omega), if_pos ⟨by omega, by omega⟩]
          have y13 : m7 200 13 = t1 200 13 := (F7 200 13 rfl).trans rfl
          exact ⟨_, rfl, Or.inl ⟨_, _, eo, rfl, T7, fun _ => by omega⟩, (((xw_F.rf (ML := [(200, 5, 13)])).tr Ft1 (fun j i h => xw_o_sub (by decide) j i h)).tr F7 (fun j i h => xw_o_sub (by decide) j i h))⟩
        · exfalso
          omega
      · refine xw_if_ne (pc := 23) (tgt := 32) C0 (by omega) dX12_readNumber_23 rfl (fun b8 => ?_) (fun b8 => ?_)
        · exfalso
          omega
        · refine xw_aload_n (pc := 26) C0 0 dX12_readNumber_26 rfl rfl ?_
          refine xw_iconst (pc := 27) C0 dX12_readNumber_27 ?_
          refine xw_callVI (pc := 28) (μ := μ) (ci := 12) (rest := []) (As := [.int (Int32.ofInt 2)]) C0 hU hO sa_Tg hKL (xr_bad (l := l) (v := 2) hS hT (by omega) (by omega)) tv_1463 dX12_readNumber_28 tv_1460 tv_1462 tq_X12_bad tv_13 rfl yb_X12_bad (by decide) rfl rfl rfl (by decide) (Nat.le_of_ble_eq_true rfl) (xj_200 hKL) xk_0 (fun r10 m10 w10 => ?_)
          obtain ⟨rfl, W10, F10⟩ := w10
          refine xw_iret C0 hA hr hlk rfl dX12_readNumber_31 ?_
          have eo : hp_num t n lim a b pz = .inl (hp_bad t n lim 2 pz) := by
            unfold hp_num
            rw [if_pos (by omega), if_neg (by omega)]
          exact ⟨_, rfl, Or.inr ⟨_, eo, rfl, W10⟩, ((xw_F.rf (ML := [(200, 5, 13)])).tr F10 (fun j i h => xw_o_sub (by decide) j i h))⟩
    · refine xw_aload_n (pc := 8) C0 0 dX12_readNumber_8 rfl rfl ?_
      refine xw_iconst (pc := 9) C0 dX12_readNumber_9 ?_
      refine xw_callVI (pc := 10) (μ := μ) (ci := 12) (rest := []) (As := [.int (Int32.ofInt 1)]) C0 hU hO sa_Tg hKL (xr_bad (l := l) (v := 1) hS hT (by omega) (by omega)) tv_1463 dX12_readNumber_10 tv_1460 tv_1462 tq_X12_bad tv_13 rfl yb_X12_bad (by decide) rfl rfl rfl (by decide) (Nat.le_of_ble_eq_true rfl) (xj_200 hKL) xk_0 (fun r11 m11 w11 => ?_)
      obtain ⟨rfl, W11, F11⟩ := w11
      refine xw_iret C0 hA hr hlk rfl dX12_readNumber_13 ?_
      have eo : hp_num t n lim a b pz = .inl (hp_bad t n lim 1 pz) := by
        unfold hp_num
        rw [if_neg (by omega)]
      exact ⟨_, rfl, Or.inr ⟨_, eo, rfl, W11⟩, ((xw_F.rf (ML := [(200, 5, 13)])).tr F11 (fun j i h => xw_o_sub (by decide) j i h))⟩)
set_option maxRecDepth 20000 in
set_option maxHeartbeats 20000000 in
theorem xr_isSign {l : Launch} {t : Nat → Int} {n lim pz : Nat} {μ : xw_M} {v : Int} (hS : hr_S t n lim μ) (hT : hr_T t n lim pz μ) (hv : 0 ≤ v ∧ v ≤ 255) : xw_MetI l vwCl sa_Ts tb_KT0 tc_KL yX12_isSign cX12_isSign 2 (some .boolean) 2 120 (fun ad => [.ref (ad 200), .int (Int32.ofInt v)]) μ (fun r μ' => μ = μ' ∧ (((hp_k t n lim pz = 4 ∧ hp_s t n pz = v) ∧ r = 1) ∨ (¬ (hp_k t n lim pz = 4 ∧ hp_s t n pz = v) ∧ r = 0))) :=
  xw_of (by decide) (fun _ => Nat.le_of_ble_eq_true rfl) (fun p e s m args below meth c D dA A al w0 sz C0 hU hO hKL hr hlk hA => by
    have n_μ := hS.2.2.1
    have l_μ := hS.2.2.2.1
    have b_μ := hS.2.2.2.2
    obtain ⟨hp9, c2, c3, c4, c5, c6, c7⟩ := id hT
    have hpl := hp_plb (t := t) (lim := lim) hp9
    have hkb := hp_kb t n lim pz
    refine xw_aload_n (pc := 0) C0 0 dX12_isSign_0 rfl rfl ?_
    refine xw_getI (pc := 1) (f := 7) (z := μ 200 7) C0 kcX12 dX12_isSign_1 (by decide) tv_1268 (xj_200 hKL) xk_0 rfl (rfl) (fun g1 k1 => ?_)
    refine xw_iconst (pc := 4) C0 dX12_isSign_4 ?_
    refine xw_icmp_ne (pc := 5) (tgt := 20) C0 (by omega) (by omega) dX12_isSign_5 rfl (fun b2 => ?_) (fun b2 => ?_)
    · refine xw_iconst (pc := 20) C0 dX12_isSign_20 ?_
      refine xw_iret C0 hA hr hlk rfl dX12_isSign_21 ?_
      exact ⟨_, rfl, rfl, Or.inr ⟨(by omega), rfl⟩⟩
    · refine xw_aload_n (pc := 8) C0 0 dX12_isSign_8 rfl rfl ?_
      refine xw_getI (pc := 9) (f := 9) (z := μ 200 9) C0 kcX12 dX12_isSign_9 (by decide) tv_1270 (xj_200 hKL) xk_0 rfl (rfl) (fun g3 k3 => ?_)
      refine xw_iload_n (pc := 12) C0 1 dX12_isSign_12 rfl rfl ?_
      refine xw_icmp_ne (pc := 13) (tgt := 20) C0 (by omega) (by omega) dX12_isSign_13 rfl (fun b4 => ?_) (fun b4 => ?_)
      · refine xw_iconst (pc := 20) C0 dX12_isSign_20 ?_
        refine xw_iret C0 hA hr hlk rfl dX12_isSign_21 ?_
        exact ⟨_, rfl, rfl, Or.inr ⟨(by omega), rfl⟩⟩
      · refine xw_iconst (pc := 16) C0 dX12_isSign_16 ?_
        refine xw_goto (pc := 17) (tgt := 21) C0 dX12_isSign_17 rfl ?_
        refine xw_iret C0 hA hr hlk rfl dX12_isSign_21 ?_
        exact ⟨_, rfl, rfl, Or.inl ⟨(by omega), rfl⟩⟩)
set_option maxRecDepth 20000 in
set_option maxHeartbeats 20000000 in
theorem xr_readEnd {l : Launch} {t : Nat → Int} {n lim pz : Nat} {μ : xw_M} (hS : hr_S t n lim μ) (hT : hr_T t n lim pz μ) : xw_MetI l vwCl sa_Ts tb_KT0 tc_KL yX12_readEnd cX12_readEnd 1 (some .boolean) 4 165 (fun ad => [.ref (ad 200)]) μ (fun r μ' => hr_B t n lim (hp_end t n lim pz) false r μ' ∧ xw_F [(200, 5, 13)] μ μ') :=
  xw_of (by decide) (fun _ => Nat.le_of_ble_eq_true rfl) (fun p e s m args below meth c D dA A al w0 sz C0 hU hO hKL hr hlk hA => by
    have n_μ := hS.2.2.1
    have l_μ := hS.2.2.2.1
    have b_μ := hS.2.2.2.2
    obtain ⟨hp9, c2, c3, c4, c5, c6, c7⟩ := id hT
    have hpl := hp_plb (t := t) (lim := lim) hp9
    have hkb := hp_kb t n lim pz
    refine xw_aload_n (pc := 0) C0 0 dX12_readEnd_0 rfl rfl ?_
    refine xw_bipush (pc := 1) C0 dX12_readEnd_1 (by decide) ?_
    refine xw_callVI (pc := 3) (μ := μ) (ci := 12) (rest := []) (As := [.int (Int32.ofInt 59)]) C0 hU hO sa_Tg hKL (xr_isSign (l := l) hS hT (by omega)) tv_1505 dX12_readEnd_3 tv_1502 tv_1504 tq_X12_isSign tv_13 rfl yb_X12_isSign (by decide) rfl rfl rfl (by decide) (Nat.le_of_ble_eq_true rfl) (xj_200 hKL) xk_0 (fun r1 m1 w1 => ?_)
    obtain ⟨rfl, w1⟩ := w1
    rcases w1 with ⟨w1, rfl⟩ | ⟨w1, rfl⟩
    · refine xw_if_ne (pc := 6) (tgt := 15) C0 (by omega) dX12_readEnd_6 rfl (fun b2 => ?_) (fun b2 => ?_)
      · refine xw_aload_n (pc := 15) C0 0 dX12_readEnd_15 rfl rfl ?_
        refine xw_callVV (pc := 16) (μ := μ) (ci := 12) (rest := []) (As := []) C0 hU hO sa_Tg hKL (xr_go (l := l) (pz := hp_x t n pz) hS (c7 (by omega)) (hp_xb (lim := lim) hp9 (by omega))) tv_1425 dX12_readEnd_16 tv_1422 tv_1424 tq_X12_go tv_13 rfl yb_X12_go (by decide) rfl rfl rfl (by decide) (Nat.le_of_ble_eq_true rfl) (xj_200 hKL) xk_0 (fun m3 w3 => ?_)
        obtain ⟨T3, F3⟩ := w3
        have hS_m3 := hr_SF hS F3 (by decide)
        have n_m3 := hS_m3.2.2.1
        have l_m3 := hS_m3.2.2.2.1
        have b_m3 := hS_m3.2.2.2.2
        refine xw_iconst (pc := 19) C0 dX12_readEnd_19 ?_
        refine xw_iret C0 hA hr hlk rfl dX12_readEnd_20 ?_
        exact ⟨_, rfl, Or.inl ⟨0, hp_x t n pz, if_pos ⟨by omega, by omega⟩, rfl, T3, fun q9 => absurd q9 (by decide)⟩, ((xw_F.rf (ML := [(200, 5, 13)])).tr F3 (fun j i h => xw_o_sub (by decide) j i h))⟩
      · exfalso
        omega
    · refine xw_if_ne (pc := 6) (tgt := 15) C0 (by omega) dX12_readEnd_6 rfl (fun b4 => ?_) (fun b4 => ?_)
      · exfalso
        omega
      · refine xw_aload_n (pc := 9) C0 0 dX12_readEnd_9 rfl rfl ?_
        refine xw_iconst (pc := 10) C0 dX12_readEnd_10 ?_
        refine xw_callVI (pc := 11) (μ := μ) (ci := 12) (rest := []) (As := [.int (Int32.ofInt 1)]) C0 hU hO sa_Tg hKL (xr_bad (l := l) (v := 1) hS hT (by omega) (by omega)) tv_1463 dX12_readEnd_11 tv_1460 tv_1462 tq_X12_bad tv_13 rfl yb_X12_bad (by decide) rfl rfl rfl (by decide) (Nat.le_of_ble_eq_true rfl) (xj_200 hKL) xk_0 (fun r5 m5 w5 => ?_)
        obtain ⟨rfl, W5, F5⟩ := w5
        refine xw_iret C0 hA hr hlk rfl dX12_readEnd_14 ?_
        exact ⟨_, rfl, Or.inr ⟨_, if_neg (by omega), rfl, W5⟩, ((xw_F.rf (ML := [(200, 5, 13)])).tr F5 (fun j i h => xw_o_sub (by decide) j i h))⟩)
set_option maxRecDepth 20000 in
set_option maxHeartbeats 20000000 in
theorem xr_begin {l : Launch} {t : Nat → Int} {n lim : Nat} {μ : xw_M} (hG : xw_G xw_GL μ) (ht : ∀ i : Nat, μ 201 i = t i) (htb : ∀ i : Nat, i < 940 → 0 ≤ t i ∧ t i ≤ 255) (hn : μ 200 2 = (n : Int)) (hn9 : n ≤ 940) (hl9 : lim ≤ 900) : xw_MetV l vwCl sa_Ts tb_KT0 tc_KL yX12_begin cX12_begin 2 none 4 165 (fun ad => [.ref (ad 200), .int (Int32.ofInt (lim : Int))]) μ (fun μ' => hr_S t n lim μ' ∧ hr_T t n lim 0 μ' ∧ μ' 200 2 = 0 ∧ xw_F [(200, 0, 0), (200, 2, 12)] μ μ') :=
  xw_of (by decide) (fun _ => Nat.le_of_ble_eq_true rfl) (fun p e s m args below meth c D dA A al w0 sz C0 hU hO hKL hr hlk hA => by
    refine xw_aload_n (pc := 0) C0 0 dX12_begin_0 rfl rfl ?_
    refine xw_iconst (pc := 1) C0 dX12_begin_1 ?_
    refine xw_putI (pc := 2) (f := 0) C0 kcX12 dX12_begin_2 (by decide) tv_1261 rfl rfl (xj_200 hKL) xk_0 rfl (by omega) (by omega) ?_
    refine xw_aload_n (pc := 5) C0 0 dX12_begin_5 rfl rfl ?_
    refine xw_aload_n (pc := 6) C0 0 dX12_begin_6 rfl rfl ?_
    have Ft1 : xw_F [(200, 0, 0)] μ (xw_u μ 200 0 0) := ((xw_F.rf (ML := [(200, 0, 0)])).u (show (200, 0, 0) ∈ _ by decide) ⟨by decide, by decide⟩)
    have vt1_200_0 : (xw_u μ 200 0 0) 200 0 = 0 := xw_ug
    generalize (xw_u μ 200 0 0) = t1 at Ft1 vt1_200_0 ⊢
    have hG_t1 := xw_GF hG Ft1 (by decide)
    refine xw_callVI (pc := 7) (μ := t1) (ci := 12) (rest := [.ref (xw_ad al 200)]) (As := []) C0 hU hO sa_Tg hKL (xm_take (l := l) hG_t1) tv_1421 dX12_begin_7 tv_1418 tv_1420 tq_X12_take tv_13 rfl yb_X12_take (by decide) rfl rfl rfl (by decide) (Nat.le_of_ble_eq_true rfl) (xj_200 hKL) xk_0 (fun r1 m1 w1 => ?_)
    obtain ⟨rfl, w1⟩ := w1
    have tn : t1 200 2 = (n : Int) := (Ft1 200 2 rfl).trans hn
    rw [tn] at w1
    subst w1
    refine xw_putI (pc := 10) (f := 3) C0 kcX12 dX12_begin_10 (by decide) tv_1264 rfl rfl (xj_200 hKL) xk_0 rfl (by omega) (by omega) ?_
    refine xw_aload_n (pc := 13) C0 0 dX12_begin_13 rfl rfl ?_
    refine xw_iload_n (pc := 14) C0 1 dX12_begin_14 rfl rfl ?_
    refine xw_putI (pc := 15) (f := 4) C0 kcX12 dX12_begin_15 (by decide) tv_1265 rfl rfl (xj_200 hKL) xk_0 rfl (by omega) (by omega) ?_
    refine xw_aload_n (pc := 18) C0 0 dX12_begin_18 rfl rfl ?_
    refine xw_iconst (pc := 19) C0 dX12_begin_19 ?_
    refine xw_putI (pc := 20) (f := 10) C0 kcX12 dX12_begin_20 (by decide) tv_1271 rfl rfl (xj_200 hKL) xk_0 rfl (by omega) (by omega) ?_
    refine xw_aload_n (pc := 23) C0 0 dX12_begin_23 rfl rfl ?_
    refine xw_iconst (pc := 24) C0 dX12_begin_24 ?_
    refine xw_putI (pc := 25) (f := 5) C0 kcX12 dX12_begin_25 (by decide) tv_1266 rfl rfl (xj_200 hKL) xk_0 rfl (by omega) (by omega) ?_
    refine xw_aload_n (pc := 28) C0 0 dX12_begin_28 rfl rfl ?_
    have Ft2 : xw_F [(200, 2, 2), (200, 3, 3), (200, 4, 4), (200, 5, 5), (200, 10, 10)] t1 (xw_u (xw_u (xw_u (xw_u (xw_u t1 200 2 0) 200 3 (n : Int)) 200 4 (lim : Int)) 200 10 0) 200 5 0) := ((((((xw_F.rf (ML := [(200, 2, 2), (200, 3, 3), (200, 4, 4), (200, 5, 5), (200, 10, 10)])).u (show (200, 2, 2) ∈ _ by decide) ⟨by decide, by decide⟩).u (show (200, 3, 3) ∈ _ by decide) ⟨by decide, by decide⟩).u (show (200, 4, 4) ∈ _ by decide) ⟨by decide, by decide⟩).u (show (200, 10, 10) ∈ _ by decide) ⟨by decide, by decide⟩).u (show (200, 5, 5) ∈ _ by decide) ⟨by decide, by decide⟩)
    have vt2_200_5 : (xw_u (xw_u (xw_u (xw_u (xw_u t1 200 2 0) 200 3 (n : Int)) 200 4 (lim : Int)) 200 10 0) 200 5 0) 200 5 = 0 := xw_ug
    have vt2_200_10 : (xw_u (xw_u (xw_u (xw_u (xw_u t1 200 2 0) 200 3 (n : Int)) 200 4 (lim : Int)) 200 10 0) 200 5 0) 200 10 = 0 := (xw_un (by decide)).trans xw_ug
    have vt2_200_4 : (xw_u (xw_u (xw_u (xw_u (xw_u t1 200 2 0) 200 3 (n : Int)) 200 4 (lim : Int)) 200 10 0) 200 5 0) 200 4 = (lim : Int) := (xw_un (by decide)).trans ((xw_un (by decide)).trans xw_ug)
    have vt2_200_3 : (xw_u (xw_u (xw_u (xw_u (xw_u t1 200 2 0) 200 3 (n : Int)) 200 4 (lim : Int)) 200 10 0) 200 5 0) 200 3 = (n : Int) := (xw_un (by decide)).trans ((xw_un (by decide)).trans ((xw_un (by decide)).trans xw_ug))
    have vt2_200_2 : (xw_u (xw_u (xw_u (xw_u (xw_u t1 200 2 0) 200 3 (n : Int)) 200 4 (lim : Int)) 200 10 0) 200 5 0) 200 2 = 0 := (xw_un (by decide)).trans ((xw_un (by decide)).trans ((xw_un (by decide)).trans ((xw_un (by decide)).trans xw_ug)))
    generalize (xw_u (xw_u (xw_u (xw_u (xw_u t1 200 2 0) 200 3 (n : Int)) 200 4 (lim : Int)) 200 10 0) 200 5 0) = t2 at Ft2 vt2_200_5 vt2_200_10 vt2_200_4 vt2_200_3 vt2_200_2 ⊢
    have FF := (((xw_F.rf (ML := [(200, 0, 0), (200, 2, 12)])).tr Ft1 (fun j i h => xw_o_sub (by decide) j i h)).tr Ft2 (fun j i h => xw_o_sub (by decide) j i h))
    have hS_t2 : hr_S t n lim t2 := ⟨xw_GF hG FF (by decide), fun i => by rw [FF 201 i (xw_oj (by decide) i)]; exact ht i, vt2_200_3, vt2_200_4, hn9, hl9, htb⟩
    refine xw_callVV (pc := 29) (μ := t2) (ci := 12) (rest := []) (As := []) C0 hU hO sa_Tg hKL (xr_go (l := l) (pz := 0) hS_t2 vt2_200_5 (Nat.zero_le _)) tv_1425 dX12_begin_29 tv_1422 tv_1424 tq_X12_go tv_13 rfl yb_X12_go (by decide) rfl rfl rfl (by decide) (Nat.le_of_ble_eq_true rfl) (xj_200 hKL) xk_0 (fun m2 w2 => ?_)
    obtain ⟨T2, F2⟩ := w2
    refine xw_vret C0 hA hr hlk dX12_begin_32 ?_
    exact ⟨rfl, hr_SF hS_t2 F2 (by decide), T2, (F2 200 2 rfl).trans vt2_200_2, ((((xw_F.rf (ML := [(200, 0, 0), (200, 2, 12)])).tr Ft1 (fun j i h => xw_o_sub (by decide) j i h)).tr Ft2 (fun j i h => xw_o_sub (by decide) j i h)).tr F2 (fun j i h => xw_o_sub (by decide) j i h))⟩)
set_option maxRecDepth 20000 in
set_option maxHeartbeats 20000000 in
theorem xr_fiL {l : Launch} {p : Program} {e : Env} {s : State} {m : MethodId} {args : Array Value} {below : List Frame} {meth : Method} {c : Code} {Q : State → Prop} {D : va_G} {dA : Nat → ClassId} {A : Nat → Prop} {al : List (Nat × Nat)} (C0 : sa_C p s m args c D dA A 6 vwCl sa_Ts cX12_findIn yX12_findIn.cls) (hU : sa_U D vwCl dA s) (hO : tb_Ou A s s.heap) (hKL : al.map Prod.snd = tc_KL) {nm : Nat → Int} {base m9 : Nat} {v q : Int} {μ : xw_M} (hN : ∀ i : Nat, i < m9 → μ 208 (base + i) = nm (base + i)) (hbm : base + m9 ≤ 14) (hv : -9223372036854775808 ≤ v ∧ v ≤ 9223372036854775807) (kx : q = -1 → xw_W p l e { frames := 2, cells := 0, slots := 0, locals := 120 } s m args below meth c Q D dA A 6 vwCl tb_KT0 al 0 0 μ 29 [(0, .ref (xw_ad al 208))] []) (kw : ∀ i : Nat, q = (i : Int) → xw_W p l e { frames := 2, cells := 0, slots := 0, locals := 120 } s m args below meth c Q D dA A 6 vwCl tb_KT0 al 0 0 μ 20 [(5, .int (Int32.ofInt (i : Int)))] []) : ∀ (fu9 : Nat) (i : Nat), ((m9 : Nat) : Int) - (i : Int) < (fu9 : Int) → i ≤ m9 → hp_fd nm base v (m9 - i) i = q → xw_W p l e { frames := 2, cells := 0, slots := 0, locals := 120 } s m args below meth c Q D dA A 6 vwCl tb_KT0 al 0 0 μ 3 [(5, .int (Int32.ofInt (i : Int))), (0, .ref (xw_ad al 208)), (1, .int (Int32.ofInt ((base : Nat) : Int))), (2, .int (Int32.ofInt ((m9 : Nat) : Int))), (3, .long (Int64.ofInt v))] [] := by
  intro fu9
  induction fu9 with
  | zero => intro i hm hi hq; exfalso; omega
  | succ fu9 ih =>
    intro i hm hi hq
    refine xw_iload (pc := 3) C0 0 dX12_findIn_3 rfl ?_
    refine xw_iload_n (pc := 5) C0 3 dX12_findIn_5 rfl rfl ?_
    refine xw_icmp_ge (pc := 6) (tgt := 29) C0 (by omega) (by omega) dX12_findIn_6 rfl (fun b1 => ?_) (fun b1 => ?_)
    · have e2 : m9 - i = 0 := by omega
      rw [e2] at hq
      refine xw_pk [1] (L' := [(0, .ref (xw_ad al 208))]) rfl ?_
      exact kx hq.symm
    · refine xw_aload_n (pc := 9) C0 1 dX12_findIn_9 rfl rfl ?_
      refine xw_iload_n (pc := 10) C0 2 dX12_findIn_10 rfl rfl ?_
      refine xw_iload (pc := 11) C0 0 dX12_findIn_11 rfl ?_
      refine xw_iadd (pc := 13) C0 dX12_findIn_13 ?_
      have e9 : ((base : Nat) : Int) + (i : Int) = ((base + i : Nat) : Int) := by omega
      rw [e9]
      refine xw_lald (pc := 14) (z := nm (base + i)) C0 dX12_findIn_14 (xj_208 hKL) xk_79 (by omega) (by decide) (xw_rl (by omega)) (hN i (by omega)) (fun g2 k2 => ?_)
      refine xw_lload_n (pc := 15) C0 4 dX12_findIn_15 rfl rfl ?_
      refine xw_lcmp (pc := 16) C0 (by omega) (by omega) dX12_findIn_16 (fun r3 g3 k3 c3 => ?_)
      refine xw_if_ne (pc := 17) (tgt := 23) C0 (by omega) dX12_findIn_17 rfl (fun b4 => ?_) (fun b4 => ?_)
      · refine xw_iinc (pc := 23) (L' := [(5, .int (Int32.ofInt ((i : Int) + 1))), (0, .ref (xw_ad al 208)), (1, .int (Int32.ofInt ((base : Nat) : Int))), (2, .int (Int32.ofInt ((m9 : Nat) : Int))), (3, .long (Int64.ofInt v))]) C0 0 dX12_findIn_23 rfl (by decide) rfl ?_
        refine xw_goto (pc := 26) (tgt := 3) C0 dX12_findIn_26 rfl ?_
        have e1 : (i : Int) + 1 = ((i + 1 : Nat) : Int) := by omega
        rw [e1]
        refine xw_pk [0, 1, 2, 3, 4] (L' := [(5, .int (Int32.ofInt ((i + 1 : Nat) : Int))), (0, .ref (xw_ad al 208)), (1, .int (Int32.ofInt ((base : Nat) : Int))), (2, .int (Int32.ofInt ((m9 : Nat) : Int))), (3, .long (Int64.ofInt v))]) rfl ?_
        refine ih (i + 1) (by omega) (by omega) ?_
        have e2 : m9 - i = (m9 - (i + 1)) + 1 := by omega
        rw [e2, hp_fd0 (by omega)] at hq
        exact hq
      · have e2 : m9 - i = (m9 - (i + 1)) + 1 := by omega
        rw [e2, hp_fd1 (by omega)] at hq
        refine xw_pk [0] (L' := [(5, .int (Int32.ofInt (i : Int)))]) rfl ?_
        exact kw i hq.symm
set_option maxRecDepth 20000 in
set_option maxHeartbeats 20000000 in
theorem xr_findIn {l : Launch} {nm : Nat → Int} {base m9 : Nat} {v : Int} {μ : xw_M} (hN : ∀ i : Nat, i < m9 → μ 208 (base + i) = nm (base + i)) (hbm : base + m9 ≤ 14) (hv : -9223372036854775808 ≤ v ∧ v ≤ 9223372036854775807) : xw_MetI l vwCl sa_Ts tb_KT0 tc_KL yX12_findIn cX12_findIn 6 (some .int) 2 120 (fun ad => [.ref (ad 208), .int (Int32.ofInt ((base : Nat) : Int)), .int (Int32.ofInt ((m9 : Nat) : Int)), .long (Int64.ofInt v)]) μ (fun r μ' => μ = μ' ∧ r = hp_f nm base m9 v) :=
  xw_of (by decide) (fun _ => Nat.le_of_ble_eq_true rfl) (fun p e s m args below meth c D dA A al w0 sz C0 hU hO hKL hr hlk hA => by
    refine xw_iconst (pc := 0) C0 dX12_findIn_0 ?_
    refine xw_istore (pc := 1) (L' := [(5, .int (Int32.ofInt 0)), (0, .ref (xw_ad al 208)), (1, .int (Int32.ofInt ((base : Nat) : Int))), (2, .int (Int32.ofInt ((m9 : Nat) : Int))), (3, .long (Int64.ofInt v))]) C0 dX12_findIn_1 (by decide) rfl ?_
    refine xw_pk [0, 1, 2, 3, 4] (L' := [(5, .int (Int32.ofInt ((0 : Nat) : Int))), (0, .ref (xw_ad al 208)), (1, .int (Int32.ofInt ((base : Nat) : Int))), (2, .int (Int32.ofInt ((m9 : Nat) : Int))), (3, .long (Int64.ofInt v))]) rfl ?_
    refine xr_fiL (nm := nm) (base := base) (m9 := m9) (v := v) (q := hp_f nm base m9 v) C0 hU hO hKL hN hbm hv (fun q9 => ?_) (fun i q9 => ?_) 100 0 (by omega) (Nat.zero_le _) rfl
    · refine xw_iconst (pc := 29) C0 dX12_findIn_29 ?_
      refine xw_iret C0 hA hr hlk rfl dX12_findIn_30 ?_
      exact ⟨_, rfl, rfl, q9.symm⟩
    · have u9 := hp_fb nm base m9 v
      refine xw_iload (pc := 20) C0 0 dX12_findIn_20 rfl ?_
      refine xw_iret C0 hA hr hlk rfl dX12_findIn_22 ?_
      exact ⟨_, rfl, rfl, q9.symm⟩)
set_option maxRecDepth 20000 in
set_option maxHeartbeats 20000000 in
theorem xr_readOne {l : Launch} {t nm : Nat → Int} {n lim pz base m9 : Nat} {μ : xw_M} (hS : hr_S t n lim μ) (hT : hr_T t n lim pz μ) (hN : ∀ i : Nat, i < m9 → μ 208 (base + i) = nm (base + i)) (hbm : base + m9 ≤ 14) : xw_MetI l vwCl sa_Ts tb_KT0 tc_KL yX12_readOne cX12_readOne 3 (some .boolean) 5 189 (fun ad => [.ref (ad 200), .int (Int32.ofInt ((base : Nat) : Int)), .int (Int32.ofInt ((m9 : Nat) : Int))]) μ (fun r μ' => hr_B t n lim (hp_one t n lim nm base m9 pz) true r μ' ∧ xw_F [(200, 5, 13)] μ μ') :=
  xw_of (by decide) (fun _ => Nat.le_of_ble_eq_true rfl) (fun p e s m args below meth c D dA A al w0 sz C0 hU hO hKL hr hlk hA => by
    have n_μ := hS.2.2.1
    have l_μ := hS.2.2.2.1
    have b_μ := hS.2.2.2.2
    obtain ⟨hp9, c2, c3, c4, c5, c6, c7⟩ := id hT
    have hpl := hp_plb (t := t) (lim := lim) hp9
    have hkb := hp_kb t n lim pz
    refine xw_aload_n (pc := 0) C0 0 dX12_readOne_0 rfl rfl ?_
    refine xw_callVI (pc := 1) (μ := μ) (ci := 12) (rest := []) (As := []) C0 hU hO sa_Tg hKL (xr_isName (l := l) hS hT) tv_1471 dX12_readOne_1 tv_1468 tv_1470 tq_X12_isName tv_13 rfl yb_X12_isName (by decide) rfl rfl rfl (by decide) (Nat.le_of_ble_eq_true rfl) (xj_200 hKL) xk_0 (fun r1 m1 w1 => ?_)
    obtain ⟨rfl, w1⟩ := w1
    rcases w1 with ⟨w1, rfl⟩ | ⟨w1, rfl⟩
    · refine xw_if_ne (pc := 4) (tgt := 13) C0 (by omega) dX12_readOne_4 rfl (fun b2 => ?_) (fun b2 => ?_)
      · refine xw_aload_n (pc := 13) C0 0 dX12_readOne_13 rfl rfl ?_
        refine xw_aload_n (pc := 14) C0 0 dX12_readOne_14 rfl rfl ?_
        refine xw_getR (pc := 15) (f := 20) C0 208 kcX12 dX12_readOne_15 (by decide) tv_1281 (xj_200 hKL) xk_0 rfl ((rfl).trans (xe_200_20 hS.1)) ?_
        refine xw_iload_n (pc := 18) C0 1 dX12_readOne_18 rfl rfl ?_
        refine xw_iload_n (pc := 19) C0 2 dX12_readOne_19 rfl rfl ?_
        refine xw_aload_n (pc := 20) C0 0 dX12_readOne_20 rfl rfl ?_
        refine xw_getL (pc := 21) (f := 12) (z := μ 200 12) C0 kcX12 dX12_readOne_21 (by decide) tv_1273 (xj_200 hKL) xk_0 rfl (rfl) (fun g3 k3 => ?_)
        have hw9 := hp_wb (t := t) (n := n) (lim := lim) (p := pz) (by omega)
        refine xw_nL (congrArg Int64.ofInt (c4 (by omega))) ?_
        refine xw_callSI (pc := 24) (μ := μ) (rest := [.ref (xw_ad al 200)]) (As := [.ref (xw_ad al 208), .int (Int32.ofInt ((base : Nat) : Int)), .int (Int32.ofInt ((m9 : Nat) : Int)), .long (Int64.ofInt (hp_w t n pz))]) C0 hU hO sa_Tg hKL (xr_findIn (l := l) (nm := nm) (base := base) (m9 := m9) (v := hp_w t n pz) hN hbm (by omega)) tv_1474 dX12_readOne_24 tv_1472 tv_1473 tv_13 yb_X12_findIn (by decide) rfl rfl rfl (by decide) (Nat.le_of_ble_eq_true rfl) (fun r4 m4 w4 => ?_)
        obtain ⟨rfl, w4⟩ := w4
        have u4 := hp_fb nm base m9 (hp_w t n pz)
        refine xw_putI (pc := 27) (f := 13) C0 kcX12 dX12_readOne_27 (by decide) tv_1274 rfl rfl (xj_200 hKL) xk_0 rfl (by omega) (by omega) ?_
        refine xw_aload_n (pc := 30) C0 0 dX12_readOne_30 rfl rfl ?_
        refine xw_getI (pc := 31) (f := 13) (z := r4) C0 kcX12 dX12_readOne_31 (by decide) tv_1274 (xj_200 hKL) xk_0 rfl (xw_ug) (fun g5 k5 => ?_)
        refine xw_iconst (pc := 34) C0 dX12_readOne_34 ?_
        refine xw_icmp_ne (pc := 35) (tgt := 44) C0 (by omega) (by omega) dX12_readOne_35 rfl (fun b6 => ?_) (fun b6 => ?_)
        · refine xw_aload_n (pc := 44) C0 0 dX12_readOne_44 rfl rfl ?_
          have Ft1 : xw_F [(200, 13, 13)] μ (xw_u μ 200 13 r4) := ((xw_F.rf (ML := [(200, 13, 13)])).u (show (200, 13, 13) ∈ _ by decide) ⟨by decide, by decide⟩)
          have vt1_200_13 : (xw_u μ 200 13 r4) 200 13 = r4 := xw_ug
          generalize (xw_u μ 200 13 r4) = t1 at Ft1 vt1_200_13 ⊢
          have hS_t1 := hr_SF hS Ft1 (by decide)
          have n_t1 := hS_t1.2.2.1
          have l_t1 := hS_t1.2.2.2.1
          have b_t1 := hS_t1.2.2.2.2
          refine xw_callVV (pc := 45) (μ := t1) (ci := 12) (rest := []) (As := []) C0 hU hO sa_Tg hKL (xr_go (l := l) (pz := hp_x t n pz) hS_t1 (by have q9 := c7 (by omega); have q8 : t1 200 5 = μ 200 5 := Ft1 200 5 rfl; omega) (hp_xb (lim := lim) hp9 (by omega))) tv_1425 dX12_readOne_45 tv_1422 tv_1424 tq_X12_go tv_13 rfl yb_X12_go (by decide) rfl rfl rfl (by decide) (Nat.le_of_ble_eq_true rfl) (xj_200 hKL) xk_0 (fun m7 w7 => ?_)
          obtain ⟨T7, F7⟩ := w7
          have hS_m7 := hr_SF hS_t1 F7 (by decide)
          have n_m7 := hS_m7.2.2.1
          have l_m7 := hS_m7.2.2.2.1
          have b_m7 := hS_m7.2.2.2.2
          refine xw_iconst (pc := 48) C0 dX12_readOne_48 ?_
          refine xw_iret C0 hA hr hlk rfl dX12_readOne_49 ?_
          have eo : hp_one t n lim nm base m9 pz = .inr (hp_f nm base m9 (hp_w t n pz), hp_x t n pz) := by
            unfold hp_one
            rw [if_pos (by omega), if_neg (by omega)]
          have y13 : m7 200 13 = t1 200 13 := (F7 200 13 rfl).trans rfl
          exact ⟨_, rfl, Or.inl ⟨_, _, eo, rfl, T7, fun _ => by omega⟩, (((xw_F.rf (ML := [(200, 5, 13)])).tr Ft1 (fun j i h => xw_o_sub (by decide) j i h)).tr F7 (fun j i h => xw_o_sub (by decide) j i h))⟩
        · refine xw_aload_n (pc := 38) C0 0 dX12_readOne_38 rfl rfl ?_
          refine xw_iconst (pc := 39) C0 dX12_readOne_39 ?_
          have Ft2 : xw_F [(200, 13, 13)] μ (xw_u μ 200 13 r4) := ((xw_F.rf (ML := [(200, 13, 13)])).u (show (200, 13, 13) ∈ _ by decide) ⟨by decide, by decide⟩)
          have vt2_200_13 : (xw_u μ 200 13 r4) 200 13 = r4 := xw_ug
          generalize (xw_u μ 200 13 r4) = t2 at Ft2 vt2_200_13 ⊢
          have hS_t2 := hr_SF hS Ft2 (by decide)
          have n_t2 := hS_t2.2.2.1
          have l_t2 := hS_t2.2.2.2.1
          have b_t2 := hS_t2.2.2.2.2
          refine xw_callVI (pc := 40) (μ := t2) (ci := 12) (rest := []) (As := [.int (Int32.ofInt 3)]) C0 hU hO sa_Tg hKL (xr_bad (l := l) (v := 3) hS_t2 (hr_TF hT Ft2 (by decide)) (by omega) (by omega)) tv_1463 dX12_readOne_40 tv_1460 tv_1462 tq_X12_bad tv_13 rfl yb_X12_bad (by decide) rfl rfl rfl (by decide) (Nat.le_of_ble_eq_true rfl) (xj_200 hKL) xk_0 (fun r8 m8 w8 => ?_)
          obtain ⟨rfl, W8, F8⟩ := w8
          refine xw_iret C0 hA hr hlk rfl dX12_readOne_43 ?_
          have eo : hp_one t n lim nm base m9 pz = .inl (hp_bad t n lim 3 pz) := by
            unfold hp_one
            rw [if_pos (by omega), if_pos (by omega)]
          exact ⟨_, rfl, Or.inr ⟨_, eo, rfl, W8⟩, (((xw_F.rf (ML := [(200, 5, 13)])).tr Ft2 (fun j i h => xw_o_sub (by decide) j i h)).tr F8 (fun j i h => xw_o_sub (by decide) j i h))⟩
      · exfalso
        omega
    · refine xw_if_ne (pc := 4) (tgt := 13) C0 (by omega) dX12_readOne_4 rfl (fun b10 => ?_) (fun b10 => ?_)
      · exfalso
        omega
      · refine xw_aload_n (pc := 7) C0 0 dX12_readOne_7 rfl rfl ?_
        refine xw_iconst (pc := 8) C0 dX12_readOne_8 ?_
        refine xw_callVI (pc := 9) (μ := μ) (ci := 12) (rest := []) (As := [.int (Int32.ofInt 1)]) C0 hU hO sa_Tg hKL (xr_bad (l := l) (v := 1) hS hT (by omega) (by omega)) tv_1463 dX12_readOne_9 tv_1460 tv_1462 tq_X12_bad tv_13 rfl yb_X12_bad (by decide) rfl rfl rfl (by decide) (Nat.le_of_ble_eq_true rfl) (xj_200 hKL) xk_0 (fun r11 m11 w11 => ?_)
        obtain ⟨rfl, W11, F11⟩ := w11
        refine xw_iret C0 hA hr hlk rfl dX12_readOne_12 ?_
        have eo : hp_one t n lim nm base m9 pz = .inl (hp_bad t n lim 1 pz) := if_neg (by omega)
        exact ⟨_, rfl, Or.inr ⟨_, eo, rfl, W11⟩, ((xw_F.rf (ML := [(200, 5, 13)])).tr F11 (fun j i h => xw_o_sub (by decide) j i h))⟩)
