/-! the reference's reader -/
noncomputable def hr_S (t : Nat → Int) (n lim : Nat) (μ : xw_M) : Prop := xw_G xw_GL μ ∧ (∀ i : Nat, μ 201 i = t i) ∧ μ 200 3 = (n : Int) ∧ μ 200 4 = (lim : Int) ∧ n ≤ 940 ∧ lim ≤ 900 ∧ ∀ i : Nat, i < 940 → 0 ≤ t i ∧ t i ≤ 255
noncomputable def hr_dj (ML : List (Nat × Nat × Nat)) : Bool := xw_GL.all (fun q => xw_o ML q.1 q.2.1) && (ML.all (fun q => !(Nat.beq q.1 201)) && (xw_o ML 200 3 && xw_o ML 200 4))
theorem hr_SF {t : Nat → Int} {n lim : Nat} {ML : List (Nat × Nat × Nat)} {μ μ' : xw_M} (h : hr_S t n lim μ) (hF : xw_F ML μ μ') (hd : hr_dj ML = true) : hr_S t n lim μ' := by
  unfold hr_dj at hd
  simp only [Bool.and_eq_true] at hd
  obtain ⟨d1, d2, d3, d4⟩ := hd
  obtain ⟨h1, h2, h3, h4, h5⟩ := h
  exact ⟨xw_GF h1 hF d1, fun i => by rw [hF 201 i (xw_oj d2 i)]; exact h2 i, (hF _ _ d3).trans h3, (hF _ _ d4).trans h4, h5⟩
noncomputable def hr_T (t : Nat → Int) (n lim pz : Nat) (μ : xw_M) : Prop := pz ≤ n ∧ μ 200 7 = hp_k t n lim pz ∧ μ 200 6 = ((hp_pl t n lim pz : Nat) : Int) ∧ (hp_k t n lim pz = 2 → μ 200 12 = hp_w t n pz) ∧ (hp_k t n lim pz = 3 → μ 200 8 = hp_u t n pz) ∧ (hp_k t n lim pz = 4 → μ 200 9 = hp_s t n pz) ∧ (2 ≤ hp_k t n lim pz → μ 200 5 = ((hp_x t n pz : Nat) : Int))
theorem hr_TF {t : Nat → Int} {n lim pz : Nat} {ML : List (Nat × Nat × Nat)} {μ μ' : xw_M} (h : hr_T t n lim pz μ) (hF : xw_F ML μ μ') (hd : (xw_o ML 200 5 && (xw_o ML 200 6 && (xw_o ML 200 7 && (xw_o ML 200 8 && (xw_o ML 200 9 && xw_o ML 200 12))))) = true) : hr_T t n lim pz μ' := by
  simp only [Bool.and_eq_true] at hd
  obtain ⟨d5, d6, d7, d8, d9, d12⟩ := hd
  obtain ⟨h1, h2, h3, h4, h5, h6, h7⟩ := h
  exact ⟨h1, (hF _ _ d7).trans h2, (hF _ _ d6).trans h3, fun q => (hF _ _ d12).trans (h4 q), fun q => (hF _ _ d8).trans (h5 q), fun q => (hF _ _ d9).trans (h6 q), fun q => (hF _ _ d5).trans (h7 q)⟩
noncomputable def hr_W (e : hp_E) (μ : xw_M) : Prop := μ 200 10 = e.1 ∧ μ 200 11 = e.2
theorem hp_lra {t : Nat → Int} {i : Nat} : ∀ k : Nat, (∀ q : Nat, q < k → 0 ≤ t (i + q) ∧ t (i + q) ≤ 255) → -(10 * (((27 ^ k : Nat) : Int) - 1)) ≤ hp_lr t i k ∧ hp_lr t i k ≤ 10 * (((27 ^ k : Nat) : Int) - 1)
  | 0, _ => by show -(10 * (((1 : Nat) : Int) - 1)) ≤ 0 ∧ 0 ≤ 10 * (((1 : Nat) : Int) - 1); decide
  | k + 1, h => by
    have h1 := hp_lra k (fun q hq => h q (by omega))
    have h2 := h k (by omega)
    rw [hp_lr1, Nat.pow_succ]
    generalize hp_lr t i k = x at h1
    generalize 27 ^ k = y at h1
    omega
theorem hp_lra7 {t : Nat → Int} {i k : Nat} (hk : k ≤ 6) (h : ∀ q : Nat, q < k → 0 ≤ t (i + q) ∧ t (i + q) ≤ 255) : -10000000000 ≤ hp_lr t i k ∧ hp_lr t i k ≤ 10000000000 := by
  have h1 := hp_lra k h
  have h2 : 27 ^ k ≤ 27 ^ 6 := Nat.pow_le_pow_right (by decide) hk
  have e6 : (27 : Nat) ^ 6 = 387420489 := by decide
  rw [e6] at h2
  omega
set_option maxRecDepth 20000 in
set_option maxHeartbeats 20000000 in
theorem xr_isLetter {l : Launch} {μ : xw_M} {v : Int} (hv : -2147483648 ≤ v ∧ v ≤ 2147483647) : xw_MetI l vwCl sa_Ts tb_KT0 tc_KL yX12_isLetter cX12_isLetter 1 (some .boolean) 2 120 (fun ad => [.int (Int32.ofInt v)]) μ (fun r μ' => μ = μ' ∧ (((97 ≤ v ∧ v ≤ 122) ∧ r = 1) ∨ (¬ (97 ≤ v ∧ v ≤ 122) ∧ r = 0))) :=
  xw_of (by decide) (fun _ => Nat.le_of_ble_eq_true rfl) (fun p e s m args below meth c D dA A al w0 sz C0 hU hO hKL hr hlk hA => by
    refine xw_iload_n (pc := 0) C0 0 dX12_isLetter_0 rfl rfl ?_
    refine xw_bipush (pc := 1) C0 dX12_isLetter_1 (by decide) ?_
    refine xw_icmp_lt (pc := 3) (tgt := 16) C0 (by omega) (by omega) dX12_isLetter_3 rfl (fun b1 => ?_) (fun b1 => ?_)
    · refine xw_iconst (pc := 16) C0 dX12_isLetter_16 ?_
      refine xw_iret C0 hA hr hlk rfl dX12_isLetter_17 ?_
      exact ⟨_, rfl, rfl, Or.inr ⟨(by omega), rfl⟩⟩
    · refine xw_iload_n (pc := 6) C0 0 dX12_isLetter_6 rfl rfl ?_
      refine xw_bipush (pc := 7) C0 dX12_isLetter_7 (by decide) ?_
      refine xw_icmp_gt (pc := 9) (tgt := 16) C0 (by omega) (by omega) dX12_isLetter_9 rfl (fun b2 => ?_) (fun b2 => ?_)
      · refine xw_iconst (pc := 16) C0 dX12_isLetter_16 ?_
        refine xw_iret C0 hA hr hlk rfl dX12_isLetter_17 ?_
        exact ⟨_, rfl, rfl, Or.inr ⟨(by omega), rfl⟩⟩
      · refine xw_iconst (pc := 12) C0 dX12_isLetter_12 ?_
        refine xw_goto (pc := 13) (tgt := 17) C0 dX12_isLetter_13 rfl ?_
        refine xw_iret C0 hA hr hlk rfl dX12_isLetter_17 ?_
        exact ⟨_, rfl, rfl, Or.inl ⟨(by omega), rfl⟩⟩)
set_option maxRecDepth 20000 in
set_option maxHeartbeats 20000000 in
theorem xr_isDigit {l : Launch} {μ : xw_M} {v : Int} (hv : -2147483648 ≤ v ∧ v ≤ 2147483647) : xw_MetI l vwCl sa_Ts tb_KT0 tc_KL yX12_isDigit cX12_isDigit 1 (some .boolean) 2 120 (fun ad => [.int (Int32.ofInt v)]) μ (fun r μ' => μ = μ' ∧ (((48 ≤ v ∧ v ≤ 57) ∧ r = 1) ∨ (¬ (48 ≤ v ∧ v ≤ 57) ∧ r = 0))) :=
  xw_of (by decide) (fun _ => Nat.le_of_ble_eq_true rfl) (fun p e s m args below meth c D dA A al w0 sz C0 hU hO hKL hr hlk hA => by
    refine xw_iload_n (pc := 0) C0 0 dX12_isDigit_0 rfl rfl ?_
    refine xw_bipush (pc := 1) C0 dX12_isDigit_1 (by decide) ?_
    refine xw_icmp_lt (pc := 3) (tgt := 16) C0 (by omega) (by omega) dX12_isDigit_3 rfl (fun b1 => ?_) (fun b1 => ?_)
    · refine xw_iconst (pc := 16) C0 dX12_isDigit_16 ?_
      refine xw_iret C0 hA hr hlk rfl dX12_isDigit_17 ?_
      exact ⟨_, rfl, rfl, Or.inr ⟨(by omega), rfl⟩⟩
    · refine xw_iload_n (pc := 6) C0 0 dX12_isDigit_6 rfl rfl ?_
      refine xw_bipush (pc := 7) C0 dX12_isDigit_7 (by decide) ?_
      refine xw_icmp_gt (pc := 9) (tgt := 16) C0 (by omega) (by omega) dX12_isDigit_9 rfl (fun b2 => ?_) (fun b2 => ?_)
      · refine xw_iconst (pc := 16) C0 dX12_isDigit_16 ?_
        refine xw_iret C0 hA hr hlk rfl dX12_isDigit_17 ?_
        exact ⟨_, rfl, rfl, Or.inr ⟨(by omega), rfl⟩⟩
      · refine xw_iconst (pc := 12) C0 dX12_isDigit_12 ?_
        refine xw_goto (pc := 13) (tgt := 17) C0 dX12_isDigit_13 rfl ?_
        refine xw_iret C0 hA hr hlk rfl dX12_isDigit_17 ?_
        exact ⟨_, rfl, rfl, Or.inl ⟨(by omega), rfl⟩⟩)
set_option maxRecDepth 20000 in
set_option maxHeartbeats 20000000 in
theorem xr_tapeAt {l : Launch} {t : Nat → Int} {n lim x9 : Nat} {μ : xw_M} (hS : hr_S t n lim μ) (hx : x9 ≤ 940) : xw_MetI l vwCl sa_Ts tb_KT0 tc_KL yX12_tapeAt cX12_tapeAt 2 (some .int) 2 120 (fun ad => [.ref (ad 200), .int (Int32.ofInt (x9 : Int))]) μ (fun r μ' => μ = μ' ∧ ((x9 < n ∧ r = t (x9)) ∨ (¬ x9 < n ∧ r = 0))) :=
  xw_of (by decide) (fun _ => Nat.le_of_ble_eq_true rfl) (fun p e s m args below meth c D dA A al w0 sz C0 hU hO hKL hr hlk hA => by
    have n_μ := hS.2.2.1
    have l_μ := hS.2.2.2.1
    have b_μ := hS.2.2.2.2
    refine xw_iload_n (pc := 0) C0 1 dX12_tapeAt_0 rfl rfl ?_
    refine xw_aload_n (pc := 1) C0 0 dX12_tapeAt_1 rfl rfl ?_
    refine xw_getI (pc := 2) (f := 3) (z := μ 200 3) C0 kcX12 dX12_tapeAt_2 (by decide) tv_1264 (xj_200 hKL) xk_0 rfl (rfl) (fun g1 k1 => ?_)
    refine xw_icmp_ge (pc := 5) (tgt := 17) C0 (by omega) (by omega) dX12_tapeAt_5 rfl (fun b2 => ?_) (fun b2 => ?_)
    · refine xw_iconst (pc := 17) C0 dX12_tapeAt_17 ?_
      refine xw_iret C0 hA hr hlk rfl dX12_tapeAt_18 ?_
      exact ⟨_, rfl, rfl, Or.inr ⟨by omega, rfl⟩⟩
    · refine xw_aload_n (pc := 8) C0 0 dX12_tapeAt_8 rfl rfl ?_
      refine xw_getR (pc := 9) (f := 1) C0 201 kcX12 dX12_tapeAt_9 (by decide) tv_1262 (xj_200 hKL) xk_0 rfl ((rfl).trans (xe_200_1 hS.1)) ?_
      refine xw_iload_n (pc := 12) C0 1 dX12_tapeAt_12 rfl rfl ?_
      refine xw_iald (pc := 13) (z := t (x9)) C0 dX12_tapeAt_13 (xj_201 hKL) xk_2 (by omega) (by decide) (xw_rl (by omega)) (hS.2.1 _) (fun g3 k3 => ?_)
      refine xw_goto (pc := 14) (tgt := 18) C0 dX12_tapeAt_14 rfl ?_
      refine xw_iret C0 hA hr hlk rfl dX12_tapeAt_18 ?_
      exact ⟨_, rfl, rfl, Or.inl ⟨by omega, rfl⟩⟩)
set_option maxRecDepth 20000 in
set_option maxHeartbeats 20000000 in
theorem xr_goA {l : Launch} {p : Program} {e : Env} {s : State} {m : MethodId} {args : Array Value} {below : List Frame} {meth : Method} {c : Code} {Q : State → Prop} {D : va_G} {dA : Nat → ClassId} {A : Nat → Prop} {al : List (Nat × Nat)} (C0 : sa_C p s m args c D dA A 5 vwCl sa_Ts cX12_go yX12_go.cls) (hU : sa_U D vwCl dA s) (hO : tb_Ou A s s.heap) (hKL : al.map Prod.snd = tc_KL) {t : Nat → Int} {n lim q : Nat} {μ : xw_M} (kx : ∀ ν : xw_M, ν 200 5 = (q : Int) → xw_F [(200, 5, 5)] μ ν → hr_S t n lim ν → xw_W p l e { frames := 3, cells := 0, slots := 0, locals := 141 } s m args below meth c Q D dA A 5 vwCl tb_KT0 al 0 0 ν 52 [(0, .ref (xw_ad al 200))] []) : ∀ (fu9 : Nat) (i : Nat) (ν : xw_M), (n : Int) - (i : Int) < (fu9 : Int) → i ≤ n → hp_i t n i = q → ν 200 5 = (i : Int) → xw_F [(200, 5, 5)] μ ν → hr_S t n lim ν → xw_W p l e { frames := 3, cells := 0, slots := 0, locals := 141 } s m args below meth c Q D dA A 5 vwCl tb_KT0 al 0 0 ν 0 [(0, .ref (xw_ad al 200))] [] := by
  intro fu9
  induction fu9 with
  | zero => intro i ν hm hi hq h5 hF hS_ν; exfalso; omega
  | succ fu9 ih =>
    intro i ν hm hi hq h5 hF hS_ν
    have n_ν := hS_ν.2.2.1
    have l_ν := hS_ν.2.2.2.1
    have b_ν := hS_ν.2.2.2.2
    refine xw_aload_n (pc := 0) C0 0 dX12_go_0 rfl rfl ?_
    refine xw_getI (pc := 1) (f := 5) (z := ν 200 5) C0 kcX12 dX12_go_1 (by decide) tv_1266 (xj_200 hKL) xk_0 rfl (rfl) (fun g1 k1 => ?_)
    refine xw_nI (congrArg Int32.ofInt h5) ?_
    refine xw_aload_n (pc := 4) C0 0 dX12_go_4 rfl rfl ?_
    refine xw_getI (pc := 5) (f := 3) (z := ν 200 3) C0 kcX12 dX12_go_5 (by decide) tv_1264 (xj_200 hKL) xk_0 rfl (rfl) (fun g2 k2 => ?_)
    refine xw_icmp_ge (pc := 8) (tgt := 52) C0 (by omega) (by omega) dX12_go_8 rfl (fun b3 => ?_) (fun b3 => ?_)
    · have e9 : q = i := hq.symm.trans (hp_i0 (by omega))
      subst e9
      refine xw_pk [0] (L' := [(0, .ref (xw_ad al 200))]) rfl ?_
      exact kx ν h5 hF hS_ν
    · refine xw_aload_n (pc := 11) C0 0 dX12_go_11 rfl rfl ?_
      refine xw_getR (pc := 12) (f := 1) C0 201 kcX12 dX12_go_12 (by decide) tv_1262 (xj_200 hKL) xk_0 rfl ((rfl).trans (xe_200_1 hS_ν.1)) ?_
      refine xw_aload_n (pc := 15) C0 0 dX12_go_15 rfl rfl ?_
      refine xw_getI (pc := 16) (f := 5) (z := ν 200 5) C0 kcX12 dX12_go_16 (by decide) tv_1266 (xj_200 hKL) xk_0 rfl (rfl) (fun g4 k4 => ?_)
      refine xw_nI (congrArg Int32.ofInt h5) ?_
      refine xw_iald (pc := 19) (z := t (i)) C0 dX12_go_19 (xj_201 hKL) xk_2 (by omega) (by decide) (xw_rl (by omega)) (hS_ν.2.1 _) (fun g5 k5 => ?_)
      refine xw_bipush (pc := 20) C0 dX12_go_20 (by decide) ?_
      refine xw_icmp_eq (pc := 22) (tgt := 39) C0 (by omega) (by omega) dX12_go_22 rfl (fun b6 => ?_) (fun b6 => ?_)
      · refine xw_aload_n (pc := 39) C0 0 dX12_go_39 rfl rfl ?_
        refine xw_dup (pc := 40) C0 dX12_go_40 rfl ?_
        refine xw_getI (pc := 41) (f := 5) (z := ν 200 5) C0 kcX12 dX12_go_41 (by decide) tv_1266 (xj_200 hKL) xk_0 rfl (rfl) (fun g7 k7 => ?_)
        refine xw_nI (congrArg Int32.ofInt h5) ?_
        refine xw_iconst (pc := 44) C0 dX12_go_44 ?_
        refine xw_iadd (pc := 45) C0 dX12_go_45 ?_
        refine xw_putI (pc := 46) (f := 5) C0 kcX12 dX12_go_46 (by decide) tv_1266 rfl rfl (xj_200 hKL) xk_0 rfl (by omega) (by omega) ?_
        refine xw_goto (pc := 49) (tgt := 0) C0 dX12_go_49 rfl ?_
        have Ft1 : xw_F [(200, 5, 5)] ν (xw_u ν 200 5 ((i : Int) + 1)) := ((xw_F.rf (ML := [(200, 5, 5)])).u (show (200, 5, 5) ∈ _ by decide) ⟨by decide, by decide⟩)
        have vt1_200_5 : (xw_u ν 200 5 ((i : Int) + 1)) 200 5 = (i : Int) + 1 := xw_ug
        generalize (xw_u ν 200 5 ((i : Int) + 1)) = t1 at Ft1 vt1_200_5 ⊢
        have hS_t1 := hr_SF hS_ν Ft1 (by decide)
        have n_t1 := hS_t1.2.2.1
        have l_t1 := hS_t1.2.2.2.1
        have b_t1 := hS_t1.2.2.2.2
        have e1 : (i : Int) + 1 = ((i + 1 : Nat) : Int) := by omega
        refine xw_pk [0] (L' := [(0, .ref (xw_ad al 200))]) rfl ?_
        exact ih (i + 1) t1 (by omega) (by omega) ((hp_i1 (by omega) (by omega)).symm.trans hq) (by omega) (hF.tr Ft1 (fun j i h => h)) hS_t1
      · refine xw_aload_n (pc := 25) C0 0 dX12_go_25 rfl rfl ?_
        refine xw_getR (pc := 26) (f := 1) C0 201 kcX12 dX12_go_26 (by decide) tv_1262 (xj_200 hKL) xk_0 rfl ((rfl).trans (xe_200_1 hS_ν.1)) ?_
        refine xw_aload_n (pc := 29) C0 0 dX12_go_29 rfl rfl ?_
        refine xw_getI (pc := 30) (f := 5) (z := ν 200 5) C0 kcX12 dX12_go_30 (by decide) tv_1266 (xj_200 hKL) xk_0 rfl (rfl) (fun g8 k8 => ?_)
        refine xw_nI (congrArg Int32.ofInt h5) ?_
        refine xw_iald (pc := 33) (z := t (i)) C0 dX12_go_33 (xj_201 hKL) xk_2 (by omega) (by decide) (xw_rl (by omega)) (hS_ν.2.1 _) (fun g10 k10 => ?_)
        refine xw_bipush (pc := 34) C0 dX12_go_34 (by decide) ?_
        refine xw_icmp_ne (pc := 36) (tgt := 52) C0 (by omega) (by omega) dX12_go_36 rfl (fun b11 => ?_) (fun b11 => ?_)
        · have e9 : q = i := hq.symm.trans (hp_i0 (by omega))
          subst e9
          refine xw_pk [0] (L' := [(0, .ref (xw_ad al 200))]) rfl ?_
          exact kx ν h5 hF hS_ν
        · refine xw_aload_n (pc := 39) C0 0 dX12_go_39 rfl rfl ?_
          refine xw_dup (pc := 40) C0 dX12_go_40 rfl ?_
          refine xw_getI (pc := 41) (f := 5) (z := ν 200 5) C0 kcX12 dX12_go_41 (by decide) tv_1266 (xj_200 hKL) xk_0 rfl (rfl) (fun g12 k12 => ?_)
          refine xw_nI (congrArg Int32.ofInt h5) ?_
          refine xw_iconst (pc := 44) C0 dX12_go_44 ?_
          refine xw_iadd (pc := 45) C0 dX12_go_45 ?_
          refine xw_putI (pc := 46) (f := 5) C0 kcX12 dX12_go_46 (by decide) tv_1266 rfl rfl (xj_200 hKL) xk_0 rfl (by omega) (by omega) ?_
          refine xw_goto (pc := 49) (tgt := 0) C0 dX12_go_49 rfl ?_
          have Ft2 : xw_F [(200, 5, 5)] ν (xw_u ν 200 5 ((i : Int) + 1)) := ((xw_F.rf (ML := [(200, 5, 5)])).u (show (200, 5, 5) ∈ _ by decide) ⟨by decide, by decide⟩)
          have vt2_200_5 : (xw_u ν 200 5 ((i : Int) + 1)) 200 5 = (i : Int) + 1 := xw_ug
          generalize (xw_u ν 200 5 ((i : Int) + 1)) = t2 at Ft2 vt2_200_5 ⊢
          have hS_t2 := hr_SF hS_ν Ft2 (by decide)
          have n_t2 := hS_t2.2.2.1
          have l_t2 := hS_t2.2.2.2.1
          have b_t2 := hS_t2.2.2.2.2
          have e1 : (i : Int) + 1 = ((i + 1 : Nat) : Int) := by omega
          refine xw_pk [0] (L' := [(0, .ref (xw_ad al 200))]) rfl ?_
          exact ih (i + 1) t2 (by omega) (by omega) ((hp_i1 (by omega) (by omega)).symm.trans hq) (by omega) (hF.tr Ft2 (fun j i h => h)) hS_t2
set_option maxRecDepth 20000 in
set_option maxHeartbeats 20000000 in
theorem xr_gB1 {l : Launch} {p : Program} {e : Env} {s : State} {m : MethodId} {args : Array Value} {below : List Frame} {meth : Method} {c : Code} {Q : State → Prop} {D : va_G} {dA : Nat → ClassId} {A : Nat → Prop} {al : List (Nat × Nat)} (C0 : sa_C p s m args c D dA A 5 vwCl sa_Ts cX12_go yX12_go.cls) (hU : sa_U D vwCl dA s) (hO : tb_Ou A s s.heap) (hKL : al.map Prod.snd = tc_KL) {t : Nat → Int} {n lim q k : Nat} {lt gd : Int} {ν : xw_M} (hS_ν : hr_S t n lim ν) (h5 : ν 200 5 = ((q + k : Nat) : Int)) (h6 : ν 200 6 = (q : Int)) (hk : q + k ≤ n) (kx : (q + k < n ∧ ((97 ≤ t (q + k) ∧ t (q + k) ≤ 122) ∨ (48 ≤ t (q + k) ∧ t (q + k) ≤ 57))) → xw_W p l e { frames := 3, cells := 0, slots := 0, locals := 141 } s m args below meth c Q D dA A 5 vwCl tb_KT0 al 0 0 ν 243 [(2, .int (Int32.ofInt lt)), (3, .int (Int32.ofInt gd)), (0, .ref (xw_ad al 200))] []) (ky : ¬ (q + k < n ∧ ((97 ≤ t (q + k) ∧ t (q + k) ≤ 122) ∨ (48 ≤ t (q + k) ∧ t (q + k) ≤ 57))) → xw_W p l e { frames := 3, cells := 0, slots := 0, locals := 141 } s m args below meth c Q D dA A 5 vwCl tb_KT0 al 0 0 ν 350 [(2, .int (Int32.ofInt lt)), (3, .int (Int32.ofInt gd)), (0, .ref (xw_ad al 200))] []) : xw_W p l e { frames := 3, cells := 0, slots := 0, locals := 141 } s m args below meth c Q D dA A 5 vwCl tb_KT0 al 0 0 ν 215 [(2, .int (Int32.ofInt lt)), (3, .int (Int32.ofInt gd)), (0, .ref (xw_ad al 200))] [] := by
  have n_ν := hS_ν.2.2.1
  have l_ν := hS_ν.2.2.2.1
  have b_ν := hS_ν.2.2.2.2
  have T_ν := b_ν.2.2 (q + k)
  refine xw_aload_n (pc := 215) C0 2 dX12_go_215 rfl rfl ?_
  refine xw_aload_n (pc := 216) C0 2 dX12_go_216 rfl rfl ?_
  refine xw_getI (pc := 217) (f := 5) (z := ν 200 5) C0 kcX12 dX12_go_217 (by decide) tv_1266 (xj_200 hKL) xk_0 rfl (rfl) (fun g1 k1 => ?_)
  refine xw_nI (congrArg Int32.ofInt h5) ?_
  refine xw_callVI (pc := 220) (μ := ν) (ci := 12) (rest := []) (As := [.int (Int32.ofInt ((q + k : Nat) : Int))]) C0 hU hO sa_Tg hKL (xr_tapeAt (l := l) (x9 := q + k) hS_ν (by omega)) tv_1435 dX12_go_220 tv_1432 tv_1434 tq_X12_tapeAt tv_13 rfl yb_X12_tapeAt (by decide) rfl rfl rfl (by decide) (Nat.le_of_ble_eq_true rfl) (xj_200 hKL) xk_0 (fun r2 m2 w2 => ?_)
  obtain ⟨rfl, w2⟩ := w2
  have u2 := hS_ν.2.2.2.2.2.2 (q + k)
  refine xw_callSI (pc := 223) (μ := ν) (rest := []) (As := [.int (Int32.ofInt r2)]) C0 hU hO sa_Tg hKL (xr_isLetter (l := l) (v := r2) (by omega)) tv_1428 dX12_go_223 tv_1426 tv_1427 tv_13 yb_X12_isLetter (by decide) rfl rfl rfl (by decide) (Nat.le_of_ble_eq_true rfl) (fun r3 m3 w3 => ?_)
  obtain ⟨rfl, w3⟩ := w3
  rcases w3 with ⟨w3, rfl⟩ | ⟨w3, rfl⟩
  · refine xw_if_ne (pc := 226) (tgt := 243) C0 (by omega) dX12_go_226 rfl (fun b4 => ?_) (fun b4 => ?_)
    · refine xw_pk [0, 1, 2] (L' := [(2, .int (Int32.ofInt lt)), (3, .int (Int32.ofInt gd)), (0, .ref (xw_ad al 200))]) rfl ?_
      exact kx ⟨by omega, by omega⟩
    · exfalso
      omega
  · refine xw_if_ne (pc := 226) (tgt := 243) C0 (by omega) dX12_go_226 rfl (fun b5 => ?_) (fun b5 => ?_)
    · exfalso
      omega
    · refine xw_aload_n (pc := 229) C0 2 dX12_go_229 rfl rfl ?_
      refine xw_aload_n (pc := 230) C0 2 dX12_go_230 rfl rfl ?_
      refine xw_getI (pc := 231) (f := 5) (z := ν 200 5) C0 kcX12 dX12_go_231 (by decide) tv_1266 (xj_200 hKL) xk_0 rfl (rfl) (fun g6 k6 => ?_)
      refine xw_nI (congrArg Int32.ofInt h5) ?_
      refine xw_callVI (pc := 234) (μ := ν) (ci := 12) (rest := []) (As := [.int (Int32.ofInt ((q + k : Nat) : Int))]) C0 hU hO sa_Tg hKL (xr_tapeAt (l := l) (x9 := q + k) hS_ν (by omega)) tv_1435 dX12_go_234 tv_1432 tv_1434 tq_X12_tapeAt tv_13 rfl yb_X12_tapeAt (by decide) rfl rfl rfl (by decide) (Nat.le_of_ble_eq_true rfl) (xj_200 hKL) xk_0 (fun r7 m7 w7 => ?_)
      obtain ⟨rfl, w7⟩ := w7
      have u7 := hS_ν.2.2.2.2.2.2 (q + k)
      refine xw_callSI (pc := 237) (μ := ν) (rest := []) (As := [.int (Int32.ofInt r7)]) C0 hU hO sa_Tg hKL (xr_isDigit (l := l) (v := r7) (by omega)) tv_1431 dX12_go_237 tv_1429 tv_1430 tv_13 yb_X12_isDigit (by decide) rfl rfl rfl (by decide) (Nat.le_of_ble_eq_true rfl) (fun r8 m8 w8 => ?_)
      obtain ⟨rfl, w8⟩ := w8
      rcases w8 with ⟨w8, rfl⟩ | ⟨w8, rfl⟩
      · refine xw_if_eq (pc := 240) (tgt := 350) C0 (by omega) dX12_go_240 rfl (fun b10 => ?_) (fun b10 => ?_)
        · exfalso
          omega
        · refine xw_pk [0, 1, 2] (L' := [(2, .int (Int32.ofInt lt)), (3, .int (Int32.ofInt gd)), (0, .ref (xw_ad al 200))]) rfl ?_
          exact kx ⟨by omega, by omega⟩
      · refine xw_if_eq (pc := 240) (tgt := 350) C0 (by omega) dX12_go_240 rfl (fun b11 => ?_) (fun b11 => ?_)
        · refine xw_pk [0, 1, 2] (L' := [(2, .int (Int32.ofInt lt)), (3, .int (Int32.ofInt gd)), (0, .ref (xw_ad al 200))]) rfl ?_
          exact ky (by omega)
        · exfalso
          omega
set_option maxRecDepth 20000 in
set_option maxHeartbeats 20000000 in
theorem xr_gB2 {l : Launch} {p : Program} {e : Env} {s : State} {m : MethodId} {args : Array Value} {below : List Frame} {meth : Method} {c : Code} {Q : State → Prop} {D : va_G} {dA : Nat → ClassId} {A : Nat → Prop} {al : List (Nat × Nat)} (C0 : sa_C p s m args c D dA A 5 vwCl sa_Ts cX12_go yX12_go.cls) (hU : sa_U D vwCl dA s) (hO : tb_Ou A s s.heap) (hKL : al.map Prod.snd = tc_KL) {t : Nat → Int} {n lim q k : Nat} {lt gd : Int} {ν : xw_M} (hS_ν : hr_S t n lim ν) (h5 : ν 200 5 = ((q + k : Nat) : Int)) (h6 : ν 200 6 = (q : Int)) (hk : q + k ≤ n) (hlt : lt = 0 ∨ lt = 1) (hgd : gd = 0 ∨ gd = 1) (hq : q + k < n) (kk : ∀ g9 : Int, (g9 = 0 ∨ g9 = 1) → (g9 = 1 ↔ gd = 1 ∧ ((97 ≤ t (q + k) ∧ t (q + k) ≤ 122) ↔ lt = 1)) → xw_W p l e { frames := 3, cells := 0, slots := 0, locals := 141 } s m args below meth c Q D dA A 5 vwCl tb_KT0 al 0 0 ν 273 [(3, .int (Int32.ofInt g9)), (4, .int (Int32.ofInt (t (q + k)))), (2, .int (Int32.ofInt lt)), (0, .ref (xw_ad al 200))] []) : xw_W p l e { frames := 3, cells := 0, slots := 0, locals := 141 } s m args below meth c Q D dA A 5 vwCl tb_KT0 al 0 0 ν 243 [(2, .int (Int32.ofInt lt)), (3, .int (Int32.ofInt gd)), (0, .ref (xw_ad al 200))] [] := by
  have n_ν := hS_ν.2.2.1
  have l_ν := hS_ν.2.2.2.1
  have b_ν := hS_ν.2.2.2.2
  have T_ν := b_ν.2.2 (q + k)
  refine xw_aload_n (pc := 243) C0 2 dX12_go_243 rfl rfl ?_
  refine xw_getR (pc := 244) (f := 1) C0 201 kcX12 dX12_go_244 (by decide) tv_1262 (xj_200 hKL) xk_0 rfl ((rfl).trans (xe_200_1 hS_ν.1)) ?_
  refine xw_aload_n (pc := 247) C0 2 dX12_go_247 rfl rfl ?_
  refine xw_getI (pc := 248) (f := 5) (z := ν 200 5) C0 kcX12 dX12_go_248 (by decide) tv_1266 (xj_200 hKL) xk_0 rfl (rfl) (fun g1 k1 => ?_)
  refine xw_nI (congrArg Int32.ofInt h5) ?_
  refine xw_iald (pc := 251) (z := t (q + k)) C0 dX12_go_251 (xj_201 hKL) xk_2 (by omega) (by decide) (xw_rl (by omega)) (hS_ν.2.1 _) (fun g2 k2 => ?_)
  refine xw_istore (pc := 252) (L' := [(4, .int (Int32.ofInt (t (q + k)))), (2, .int (Int32.ofInt lt)), (3, .int (Int32.ofInt gd)), (0, .ref (xw_ad al 200))]) C0 dX12_go_252 (by decide) rfl ?_
  refine xw_iload_n (pc := 254) C0 2 dX12_go_254 rfl rfl ?_
  refine xw_if_eq (pc := 255) (tgt := 271) C0 (by omega) dX12_go_255 rfl (fun b3 => ?_) (fun b3 => ?_)
  · refine xw_iconst (pc := 271) C0 dX12_go_271 ?_
    refine xw_istore_n (pc := 272) (L' := [(3, .int (Int32.ofInt 0)), (4, .int (Int32.ofInt (t (q + k)))), (2, .int (Int32.ofInt lt)), (0, .ref (xw_ad al 200))]) C0 dX12_go_272 rfl (by decide) rfl ?_
    refine xw_pk [0, 1, 2, 3] (L' := [(3, .int (Int32.ofInt 0)), (4, .int (Int32.ofInt (t (q + k)))), (2, .int (Int32.ofInt lt)), (0, .ref (xw_ad al 200))]) rfl ?_
    exact kk 0 (by omega) (by omega)
  · refine xw_iload (pc := 258) C0 0 dX12_go_258 rfl ?_
    refine xw_callSI (pc := 260) (μ := ν) (rest := []) (As := [.int (Int32.ofInt (t (q + k)))]) C0 hU hO sa_Tg hKL (xr_isLetter (l := l) (v := t (q + k)) (by omega)) tv_1428 dX12_go_260 tv_1426 tv_1427 tv_13 yb_X12_isLetter (by decide) rfl rfl rfl (by decide) (Nat.le_of_ble_eq_true rfl) (fun r4 m4 w4 => ?_)
    obtain ⟨rfl, w4⟩ := w4
    rcases w4 with ⟨w4, rfl⟩ | ⟨w4, rfl⟩
    · refine xw_iload_n (pc := 263) C0 1 dX12_go_263 rfl rfl ?_
      refine xw_icmp_ne (pc := 264) (tgt := 271) C0 (by omega) (by omega) dX12_go_264 rfl (fun b5 => ?_) (fun b5 => ?_)
      · refine xw_iconst (pc := 271) C0 dX12_go_271 ?_
        refine xw_istore_n (pc := 272) (L' := [(3, .int (Int32.ofInt 0)), (4, .int (Int32.ofInt (t (q + k)))), (2, .int (Int32.ofInt lt)), (0, .ref (xw_ad al 200))]) C0 dX12_go_272 rfl (by decide) rfl ?_
        refine xw_pk [0, 1, 2, 3] (L' := [(3, .int (Int32.ofInt 0)), (4, .int (Int32.ofInt (t (q + k)))), (2, .int (Int32.ofInt lt)), (0, .ref (xw_ad al 200))]) rfl ?_
        exact kk 0 (by omega) (by omega)
      · refine xw_iconst (pc := 267) C0 dX12_go_267 ?_
        refine xw_goto (pc := 268) (tgt := 272) C0 dX12_go_268 rfl ?_
        refine xw_istore_n (pc := 272) (L' := [(3, .int (Int32.ofInt 1)), (4, .int (Int32.ofInt (t (q + k)))), (2, .int (Int32.ofInt lt)), (0, .ref (xw_ad al 200))]) C0 dX12_go_272 rfl (by decide) rfl ?_
        refine xw_pk [0, 1, 2, 3] (L' := [(3, .int (Int32.ofInt 1)), (4, .int (Int32.ofInt (t (q + k)))), (2, .int (Int32.ofInt lt)), (0, .ref (xw_ad al 200))]) rfl ?_
        exact kk 1 (by omega) (by omega)
    · refine xw_iload_n (pc := 263) C0 1 dX12_go_263 rfl rfl ?_
      refine xw_icmp_ne (pc := 264) (tgt := 271) C0 (by omega) (by omega) dX12_go_264 rfl (fun b6 => ?_) (fun b6 => ?_)
      · refine xw_iconst (pc := 271) C0 dX12_go_271 ?_
        refine xw_istore_n (pc := 272) (L' := [(3, .int (Int32.ofInt 0)), (4, .int (Int32.ofInt (t (q + k)))), (2, .int (Int32.ofInt lt)), (0, .ref (xw_ad al 200))]) C0 dX12_go_272 rfl (by decide) rfl ?_
        refine xw_pk [0, 1, 2, 3] (L' := [(3, .int (Int32.ofInt 0)), (4, .int (Int32.ofInt (t (q + k)))), (2, .int (Int32.ofInt lt)), (0, .ref (xw_ad al 200))]) rfl ?_
        exact kk 0 (by omega) (by omega)
      · refine xw_iconst (pc := 267) C0 dX12_go_267 ?_
        refine xw_goto (pc := 268) (tgt := 272) C0 dX12_go_268 rfl ?_
        refine xw_istore_n (pc := 272) (L' := [(3, .int (Int32.ofInt 1)), (4, .int (Int32.ofInt (t (q + k)))), (2, .int (Int32.ofInt lt)), (0, .ref (xw_ad al 200))]) C0 dX12_go_272 rfl (by decide) rfl ?_
        refine xw_pk [0, 1, 2, 3] (L' := [(3, .int (Int32.ofInt 1)), (4, .int (Int32.ofInt (t (q + k)))), (2, .int (Int32.ofInt lt)), (0, .ref (xw_ad al 200))]) rfl ?_
        exact kk 1 (by omega) (by omega)
set_option maxRecDepth 20000 in
set_option maxHeartbeats 20000000 in
theorem xr_gB3 {l : Launch} {p : Program} {e : Env} {s : State} {m : MethodId} {args : Array Value} {below : List Frame} {meth : Method} {c : Code} {Q : State → Prop} {D : va_G} {dA : Nat → ClassId} {A : Nat → Prop} {al : List (Nat × Nat)} (C0 : sa_C p s m args c D dA A 5 vwCl sa_Ts cX12_go yX12_go.cls) (hU : sa_U D vwCl dA s) (hO : tb_Ou A s s.heap) (hKL : al.map Prod.snd = tc_KL) {t : Nat → Int} {n lim q k : Nat} {lt g9 : Int} {ν : xw_M} (hS_ν : hr_S t n lim ν) (h5 : ν 200 5 = ((q + k : Nat) : Int)) (h6 : ν 200 6 = (q : Int)) (hk : q + k ≤ n) (hq : q + k < n) (h12 : k ≤ 7 → ν 200 12 = hp_lr t q k) (kk : ∀ ν1 : xw_M, xw_F [(200, 12, 12)] ν ν1 → (k < 7 → ν1 200 12 = 27 * ν 200 12 + t (q + k) - 96) → xw_W p l e { frames := 3, cells := 0, slots := 0, locals := 141 } s m args below meth c Q D dA A 5 vwCl tb_KT0 al 0 0 ν1 307 [(3, .int (Int32.ofInt g9)), (4, .int (Int32.ofInt (t (q + k)))), (2, .int (Int32.ofInt lt)), (0, .ref (xw_ad al 200))] []) : xw_W p l e { frames := 3, cells := 0, slots := 0, locals := 141 } s m args below meth c Q D dA A 5 vwCl tb_KT0 al 0 0 ν 273 [(3, .int (Int32.ofInt g9)), (4, .int (Int32.ofInt (t (q + k)))), (2, .int (Int32.ofInt lt)), (0, .ref (xw_ad al 200))] [] := by
  have n_ν := hS_ν.2.2.1
  have l_ν := hS_ν.2.2.2.1
  have b_ν := hS_ν.2.2.2.2
  have T_ν := b_ν.2.2 (q + k)
  refine xw_aload_n (pc := 273) C0 3 dX12_go_273 rfl rfl ?_
  refine xw_getI (pc := 274) (f := 5) (z := ν 200 5) C0 kcX12 dX12_go_274 (by decide) tv_1266 (xj_200 hKL) xk_0 rfl (rfl) (fun g1 k1 => ?_)
  refine xw_nI (congrArg Int32.ofInt h5) ?_
  refine xw_aload_n (pc := 277) C0 3 dX12_go_277 rfl rfl ?_
  refine xw_getI (pc := 278) (f := 6) (z := ν 200 6) C0 kcX12 dX12_go_278 (by decide) tv_1267 (xj_200 hKL) xk_0 rfl (rfl) (fun g2 k2 => ?_)
  refine xw_nI (congrArg Int32.ofInt h6) ?_
  refine xw_isub (pc := 281) C0 dX12_go_281 ?_
  refine xw_bipush (pc := 282) C0 dX12_go_282 (by decide) ?_
  refine xw_icmp_ge (pc := 284) (tgt := 307) C0 (by omega) (by omega) dX12_go_284 rfl (fun b3 => ?_) (fun b3 => ?_)
  · refine xw_pk [0, 1, 2, 3] (L' := [(3, .int (Int32.ofInt g9)), (4, .int (Int32.ofInt (t (q + k)))), (2, .int (Int32.ofInt lt)), (0, .ref (xw_ad al 200))]) rfl ?_
    exact kk ν xw_F.rf (fun q9 => by omega)
  · have hw7 := h12 (by omega)
    have hb7 := hp_lra7 (t := t) (i := q) (k := k) (by omega) (fun q9 hq9 => b_ν.2.2 (q + q9) (by omega))
    refine xw_aload_n (pc := 287) C0 3 dX12_go_287 rfl rfl ?_
    refine xw_ldc2 (pc := 288) (z := 27) C0 dX12_go_288 tv_1436 (by decide) ?_
    refine xw_aload_n (pc := 291) C0 3 dX12_go_291 rfl rfl ?_
    refine xw_getL (pc := 292) (f := 12) (z := ν 200 12) C0 kcX12 dX12_go_292 (by decide) tv_1273 (xj_200 hKL) xk_0 rfl (rfl) (fun g4 k4 => ?_)
    refine xw_lmul (pc := 295) C0 dX12_go_295 ?_
    refine xw_iload (pc := 296) C0 1 dX12_go_296 rfl ?_
    refine xw_i2l (pc := 298) C0 (by omega) dX12_go_298 ?_
    refine xw_ladd (pc := 299) C0 dX12_go_299 ?_
    refine xw_ldc2 (pc := 300) (z := 96) C0 dX12_go_300 tv_1437 (by decide) ?_
    refine xw_lsub (pc := 303) C0 dX12_go_303 ?_
    refine xw_putL (pc := 304) (f := 12) C0 kcX12 dX12_go_304 (by decide) tv_1273 rfl rfl (xj_200 hKL) xk_0 rfl (by omega) (by omega) ?_
    have Ft1 : xw_F [(200, 12, 12)] ν (xw_u ν 200 12 (((27 * (ν 200 12)) + (t (q + k))) - 96)) := ((xw_F.rf (ML := [(200, 12, 12)])).u (show (200, 12, 12) ∈ _ by decide) ⟨by decide, by decide⟩)
    have vt1_200_12 : (xw_u ν 200 12 (((27 * (ν 200 12)) + (t (q + k))) - 96)) 200 12 = ((27 * (ν 200 12)) + (t (q + k))) - 96 := xw_ug
    generalize (xw_u ν 200 12 (((27 * (ν 200 12)) + (t (q + k))) - 96)) = t1 at Ft1 vt1_200_12 ⊢
    have hS_t1 := hr_SF hS_ν Ft1 (by decide)
    have n_t1 := hS_t1.2.2.1
    have l_t1 := hS_t1.2.2.2.1
    have b_t1 := hS_t1.2.2.2.2
    refine xw_pk [0, 1, 2, 3] (L' := [(3, .int (Int32.ofInt g9)), (4, .int (Int32.ofInt (t (q + k)))), (2, .int (Int32.ofInt lt)), (0, .ref (xw_ad al 200))]) rfl ?_
    exact kk t1 Ft1 (fun q9 => by omega)
set_option maxRecDepth 20000 in
set_option maxHeartbeats 20000000 in
theorem xr_gB4 {l : Launch} {p : Program} {e : Env} {s : State} {m : MethodId} {args : Array Value} {below : List Frame} {meth : Method} {c : Code} {Q : State → Prop} {D : va_G} {dA : Nat → ClassId} {A : Nat → Prop} {al : List (Nat × Nat)} (C0 : sa_C p s m args c D dA A 5 vwCl sa_Ts cX12_go yX12_go.cls) (hU : sa_U D vwCl dA s) (hO : tb_Ou A s s.heap) (hKL : al.map Prod.snd = tc_KL) {t : Nat → Int} {n lim q k : Nat} {lt g9 : Int} {ν : xw_M} (hS_ν : hr_S t n lim ν) (h5 : ν 200 5 = ((q + k : Nat) : Int)) (h6 : ν 200 6 = (q : Int)) (hk : q + k ≤ n) (hq : q + k < n) (hb : k < 3 → 0 ≤ ν 200 8 ∧ ν 200 8 ≤ 8214) (kk : ∀ ν1 : xw_M, xw_F [(200, 8, 8)] ν ν1 → (k < 3 → ν1 200 8 = 10 * ν 200 8 + t (q + k) - 48) → xw_W p l e { frames := 3, cells := 0, slots := 0, locals := 141 } s m args below meth c Q D dA A 5 vwCl tb_KT0 al 0 0 ν1 337 [(3, .int (Int32.ofInt g9)), (4, .int (Int32.ofInt (t (q + k)))), (2, .int (Int32.ofInt lt)), (0, .ref (xw_ad al 200))] []) : xw_W p l e { frames := 3, cells := 0, slots := 0, locals := 141 } s m args below meth c Q D dA A 5 vwCl tb_KT0 al 0 0 ν 307 [(3, .int (Int32.ofInt g9)), (4, .int (Int32.ofInt (t (q + k)))), (2, .int (Int32.ofInt lt)), (0, .ref (xw_ad al 200))] [] := by
  have n_ν := hS_ν.2.2.1
  have l_ν := hS_ν.2.2.2.1
  have b_ν := hS_ν.2.2.2.2
  have T_ν := b_ν.2.2 (q + k)
  refine xw_aload_n (pc := 307) C0 3 dX12_go_307 rfl rfl ?_
  refine xw_getI (pc := 308) (f := 5) (z := ν 200 5) C0 kcX12 dX12_go_308 (by decide) tv_1266 (xj_200 hKL) xk_0 rfl (rfl) (fun g1 k1 => ?_)
  refine xw_nI (congrArg Int32.ofInt h5) ?_
  refine xw_aload_n (pc := 311) C0 3 dX12_go_311 rfl rfl ?_
  refine xw_getI (pc := 312) (f := 6) (z := ν 200 6) C0 kcX12 dX12_go_312 (by decide) tv_1267 (xj_200 hKL) xk_0 rfl (rfl) (fun g2 k2 => ?_)
  refine xw_nI (congrArg Int32.ofInt h6) ?_
  refine xw_isub (pc := 315) C0 dX12_go_315 ?_
  refine xw_iconst (pc := 316) C0 dX12_go_316 ?_
  refine xw_icmp_ge (pc := 317) (tgt := 337) C0 (by omega) (by omega) dX12_go_317 rfl (fun b3 => ?_) (fun b3 => ?_)
  · refine xw_pk [0, 1, 2, 3] (L' := [(3, .int (Int32.ofInt g9)), (4, .int (Int32.ofInt (t (q + k)))), (2, .int (Int32.ofInt lt)), (0, .ref (xw_ad al 200))]) rfl ?_
    exact kk ν xw_F.rf (fun q9 => by omega)
  · have hb3 := hb (by omega)
    refine xw_aload_n (pc := 320) C0 3 dX12_go_320 rfl rfl ?_
    refine xw_bipush (pc := 321) C0 dX12_go_321 (by decide) ?_
    refine xw_aload_n (pc := 323) C0 3 dX12_go_323 rfl rfl ?_
    refine xw_getI (pc := 324) (f := 8) (z := ν 200 8) C0 kcX12 dX12_go_324 (by decide) tv_1269 (xj_200 hKL) xk_0 rfl (rfl) (fun g4 k4 => ?_)
    refine xw_imul (pc := 327) C0 dX12_go_327 ?_
    refine xw_iload (pc := 328) C0 1 dX12_go_328 rfl ?_
    refine xw_iadd (pc := 330) C0 dX12_go_330 ?_
    refine xw_bipush (pc := 331) C0 dX12_go_331 (by decide) ?_
    refine xw_isub (pc := 333) C0 dX12_go_333 ?_
    refine xw_putI (pc := 334) (f := 8) C0 kcX12 dX12_go_334 (by decide) tv_1269 rfl rfl (xj_200 hKL) xk_0 rfl (by omega) (by omega) ?_
    have Ft1 : xw_F [(200, 8, 8)] ν (xw_u ν 200 8 (((10 * (ν 200 8)) + (t (q + k))) - 48)) := ((xw_F.rf (ML := [(200, 8, 8)])).u (show (200, 8, 8) ∈ _ by decide) ⟨by decide, by decide⟩)
    have vt1_200_8 : (xw_u ν 200 8 (((10 * (ν 200 8)) + (t (q + k))) - 48)) 200 8 = ((10 * (ν 200 8)) + (t (q + k))) - 48 := xw_ug
    generalize (xw_u ν 200 8 (((10 * (ν 200 8)) + (t (q + k))) - 48)) = t1 at Ft1 vt1_200_8 ⊢
    have hS_t1 := hr_SF hS_ν Ft1 (by decide)
    have n_t1 := hS_t1.2.2.1
    have l_t1 := hS_t1.2.2.2.1
    have b_t1 := hS_t1.2.2.2.2
    refine xw_pk [0, 1, 2, 3] (L' := [(3, .int (Int32.ofInt g9)), (4, .int (Int32.ofInt (t (q + k)))), (2, .int (Int32.ofInt lt)), (0, .ref (xw_ad al 200))]) rfl ?_
    exact kk t1 Ft1 (fun q9 => by omega)
set_option maxRecDepth 20000 in
set_option maxHeartbeats 20000000 in
theorem xr_goB {l : Launch} {p : Program} {e : Env} {s : State} {m : MethodId} {args : Array Value} {below : List Frame} {meth : Method} {c : Code} {Q : State → Prop} {D : va_G} {dA : Nat → ClassId} {A : Nat → Prop} {al : List (Nat × Nat)} (C0 : sa_C p s m args c D dA A 5 vwCl sa_Ts cX12_go yX12_go.cls) (hU : sa_U D vwCl dA s) (hO : tb_Ou A s s.heap) (hKL : al.map Prod.snd = tc_KL) {t : Nat → Int} {n lim q : Nat} {lt : Int} {μ : xw_M} (hlt : lt = 0 ∨ lt = 1) (kx : ∀ (k : Nat) (gd : Int) (ν : xw_M), q + k = hp_e t n q → q + k ≤ n → ν 200 5 = ((q + k : Nat) : Int) → ν 200 6 = (q : Int) → ((gd = 0 ∨ gd = 1) ∧ (lt = 1 → (gd = 1 ↔ hp_dg t q k = 0)) ∧ (lt = 0 → (gd = 1 ↔ hp_dg t q k = k))) → (k ≤ 7 → ν 200 12 = hp_lr t q k) → (k ≤ 3 → ν 200 8 = hp_nf t q k) → xw_F [(200, 5, 5), (200, 8, 8), (200, 12, 12)] μ ν → hr_S t n lim ν → xw_W p l e { frames := 3, cells := 0, slots := 0, locals := 141 } s m args below meth c Q D dA A 5 vwCl tb_KT0 al 0 0 ν 350 [(2, .int (Int32.ofInt lt)), (3, .int (Int32.ofInt gd)), (0, .ref (xw_ad al 200))] []) : ∀ (fu9 : Nat) (k : Nat) (gd : Int) (ν : xw_M), (n : Int) - ((q + k : Nat) : Int) < (fu9 : Int) → q + k ≤ n → hp_e t n (q + k) = hp_e t n q → ν 200 5 = ((q + k : Nat) : Int) → ν 200 6 = (q : Int) → ((gd = 0 ∨ gd = 1) ∧ (lt = 1 → (gd = 1 ↔ hp_dg t q k = 0)) ∧ (lt = 0 → (gd = 1 ↔ hp_dg t q k = k))) → (k ≤ 7 → ν 200 12 = hp_lr t q k) → (k ≤ 3 → ν 200 8 = hp_nf t q k) → xw_F [(200, 5, 5), (200, 8, 8), (200, 12, 12)] μ ν → hr_S t n lim ν → xw_W p l e { frames := 3, cells := 0, slots := 0, locals := 141 } s m args below meth c Q D dA A 5 vwCl tb_KT0 al 0 0 ν 215 [(2, .int (Int32.ofInt lt)), (3, .int (Int32.ofInt gd)), (0, .ref (xw_ad al 200))] [] := by
  intro fu9
  induction fu9 with
  | zero => intro k gd ν hm hk he h5 h6 hg h12 h8 hF hS_ν; exfalso; omega
  | succ fu9 ih =>
    intro k gd ν hm hk he h5 h6 hg h12 h8 hF hS_ν
    have n_ν := hS_ν.2.2.1
    have b_ν := hS_ν.2.2.2.2
    have T_ν := b_ν.2.2 (q + k)
    have hdl := hp_dgle (t := t) (i := q) k
    refine xr_gB1 (t := t) (n := n) (lim := lim) (q := q) (k := k) (lt := lt) (gd := gd) (ν := ν) C0 hU hO hKL hS_ν h5 h6 hk (fun c1 => ?_) (fun c2 => ?_)
    · refine xr_gB2 (t := t) (n := n) (lim := lim) (q := q) (k := k) (lt := lt) (gd := gd) (ν := ν) C0 hU hO hKL hS_ν h5 h6 hk hlt hg.1 c1.1 (fun g9 hg1 hg2 => ?_)
      refine xr_gB3 (t := t) (n := n) (lim := lim) (q := q) (k := k) (lt := lt) (g9 := g9) (ν := ν) C0 hU hO hKL hS_ν h5 h6 hk c1.1 h12 (fun ν1 F1 w1 => ?_)
      have hS_ν1 := hr_SF hS_ν F1 (by decide)
      have hb3 : k < 3 → 0 ≤ ν1 200 8 ∧ ν1 200 8 ≤ 8214 := fun q3 => by
        have hw3 := h8 (by omega)
        have hb4 := hp_nfb (t := t) (i := q) k (by omega) (fun q9 hq9 => by
          have a3 := hp_erun (t := t) (n := n) (p := q) (q := q + q9) (by omega) (by have := hp_eb (t := t) (n := n) (p := q + k) (by omega); omega)
          omega)
        have z8 : ν1 200 8 = ν 200 8 := F1 200 8 rfl
        omega
      refine xr_gB4 (t := t) (n := n) (lim := lim) (q := q) (k := k) (lt := lt) (g9 := g9) (ν := ν1) C0 hU hO hKL hS_ν1 ((F1 200 5 rfl).trans h5) ((F1 200 6 rfl).trans h6) hk c1.1 hb3 (fun ν2 F2 w2 => ?_)
      have hS_ν2 := hr_SF hS_ν1 F2 (by decide)
      have h52 : ν2 200 5 = ((q + k : Nat) : Int) := (F2 200 5 rfl).trans ((F1 200 5 rfl).trans h5)
      refine xw_aload_n (pc := 337) C0 3 dX12_go_337 rfl rfl ?_
      refine xw_dup (pc := 338) C0 dX12_go_338 rfl ?_
      refine xw_getI (pc := 339) (f := 5) (z := ν2 200 5) C0 kcX12 dX12_go_339 (by decide) tv_1266 (xj_200 hKL) xk_0 rfl (rfl) (fun g1 k1 => ?_)
      refine xw_nI (congrArg Int32.ofInt h52) ?_
      refine xw_iconst (pc := 342) C0 dX12_go_342 ?_
      refine xw_iadd (pc := 343) C0 dX12_go_343 ?_
      refine xw_putI (pc := 344) (f := 5) C0 kcX12 dX12_go_344 (by decide) tv_1266 rfl rfl (xj_200 hKL) xk_0 rfl (by omega) (by omega) ?_
      refine xw_goto (pc := 347) (tgt := 215) C0 dX12_go_347 rfl ?_
      have Ft1 : xw_F [(200, 5, 5)] ν2 (xw_u ν2 200 5 (((q + k : Nat) : Int) + 1)) := ((xw_F.rf (ML := [(200, 5, 5)])).u (show (200, 5, 5) ∈ _ by decide) ⟨by decide, by decide⟩)
      have vt1_200_5 : (xw_u ν2 200 5 (((q + k : Nat) : Int) + 1)) 200 5 = ((q + k : Nat) : Int) + 1 := xw_ug
      generalize (xw_u ν2 200 5 (((q + k : Nat) : Int) + 1)) = t1 at Ft1 vt1_200_5 ⊢
      have hS_t1 := hr_SF hS_ν2 Ft1 (by decide)
      have n_t1 := hS_t1.2.2.1
      have l_t1 := hS_t1.2.2.2.1
      have b_t1 := hS_t1.2.2.2.2
      have ed : (48 ≤ t (q + k) ∧ t (q + k) ≤ 57 ∧ hp_dg t q (k + 1) = hp_dg t q k + 1) ∨ (¬ (48 ≤ t (q + k) ∧ t (q + k) ≤ 57) ∧ hp_dg t q (k + 1) = hp_dg t q k) := by
        by_cases c9 : 48 ≤ t (q + k) ∧ t (q + k) ≤ 57
        · exact Or.inl ⟨c9.1, c9.2, hp_dg1 c9⟩
        · exact Or.inr ⟨c9, hp_dg0 c9⟩
      have y6 : t1 200 6 = (q : Int) := (Ft1 200 6 rfl).trans ((F2 200 6 rfl).trans ((F1 200 6 rfl).trans h6))
      have y8 : t1 200 8 = ν2 200 8 := Ft1 200 8 rfl
      have z8 : ν1 200 8 = ν 200 8 := F1 200 8 rfl
      have y12 : t1 200 12 = ν1 200 12 := (Ft1 200 12 rfl).trans (F2 200 12 rfl)
      have x1 := hp_lr1 t q k
      have x2 := hp_nf1 t q k
      refine xw_pk [2, 0, 3] (L' := [(2, .int (Int32.ofInt lt)), (3, .int (Int32.ofInt g9)), (0, .ref (xw_ad al 200))]) rfl ?_
      refine ih (k + 1) g9 t1 (by omega) (by omega) ((hp_e1 (t := t) (n := n) (p := q + k) c1.1 c1.2).symm.trans he) (by omega) y6 ⟨hg1, ?_, ?_⟩ (fun q1 => ?_) (fun q1 => ?_) (((hF.tr F1 (fun j i h => xw_o_sub (by decide) j i h)).tr F2 (fun j i h => xw_o_sub (by decide) j i h)).tr Ft1 (fun j i h => xw_o_sub (by decide) j i h)) hS_t1
      · have a1 := hg.2.1
        omega
      · have a1 := hg.2.2
        omega
      · have a1 := h12 (by omega)
        have a2 := w1 (by omega)
        omega
      · have a1 := h8 (by omega)
        have a2 := w2 (by omega)
        omega
    · have e9 : hp_e t n (q + k) = q + k := hp_e0 (by omega)
      exact kx k gd ν (by omega) hk h5 h6 hg h12 h8 hF hS_ν
