section TYQ
/-! many templates: each with the places of those that it may come to -/
theorem tb_run_mono {find : Nat → Option tb_op} {leaf leaf' : tb_S → Bool} (h : ∀ S, leaf' S = true → leaf S = true) : ∀ (n : Nat) (S : tb_S), tb_run find leaf' n S = true → tb_run find leaf n S = true := by
  intro n
  induction n with
  | zero => intro S h9; exact h S h9
  | succ n ih =>
    intro S h9
    rw [tb_run_succ] at h9 ⊢
    split at h9
    · rename_i h0
      rw [h S h0]
    · split
      · rfl
      · split at h9
        · cases h9
        · rename_i op h1
          (try rw [h1])
          (try dsimp only)
          split at h9
          · cases h9
          · rename_i sts h2
            (try rw [h2])
            (try dsimp only)
            refine List.all_eq_true.mpr (fun S' hS' => ?_)
            have h3 := List.all_eq_true.mp h9 S' hS'
            rw [tb_nrm_eq] at h3 ⊢
            exact ih S' h3
noncomputable def tb_cand (TS : List (tb_S × tb_l)) (is : List Nat) : List (tb_S × tb_l) := is.filterMap (tb_ge TS)
theorem tb_leaf_mono {n0 : Nat} {TS TC : List (tb_S × tb_l)} (hT : ∀ t ∈ TC, t ∈ TS) {hs : List Nat} {fin : tb_S → Bool} {ρ : Option tb_l} {S : tb_S} (h : tb_leaf tb_Z0 n0 TC hs fin ρ S = true) : tb_leaf tb_Z0 n0 TS hs fin ρ S = true := by
  unfold tb_leaf at h ⊢
  rw [Bool.or_eq_true] at h ⊢
  rcases h with h | h
  · exact Or.inl h
  · right
    split at h
    · cases h
    · rename_i hc
      (try rw [hc])
      (try dsimp only)
      unfold tb_lf at h ⊢
      obtain ⟨t, t1, t2⟩ := List.any_eq_true.mp h
      exact List.any_eq_true.mpr ⟨t, hT t t1, t2⟩
theorem tb_cand_in {TS : List (tb_S × tb_l)} {is : List Nat} : ∀ t ∈ tb_cand TS is, t ∈ TS := by
  intro t ht
  obtain ⟨i, -, h⟩ := List.mem_filterMap.mp ht
  rw [tb_ge_eq] at h
  exact List.mem_of_getElem? h
noncomputable def tb_ckc (K : tb_K) (TS : List (tb_S × tb_l)) (hs : List Nat) (tab : List (Nat × tb_op)) (fin : tb_S → Bool) (fuel : Nat) (t : tb_S × tb_l) (is : List Nat) : Bool := tb_tok K.2.2.2.1.length t && tb_nrm t.1 (tb_run (fun pc => tb_as pc tab) (tb_leaf tb_Z0 K.2.2.2.1.length (tb_cand TS is) hs fin (some t.2)) fuel)
noncomputable def tb_ckl (K : tb_K) (TS : List (tb_S × tb_l)) (hs : List Nat) (tab : List (Nat × tb_op)) (fin : tb_S → Bool) (fuel : Nat) : List (tb_S × tb_l) → List (List Nat) → Bool
  | [], _ => true
  | t :: l, is :: r => tb_ckc K TS hs tab fin fuel t is && tb_ckl K TS hs tab fin fuel l r
  | _ :: _, [] => false
theorem tb_ckl_ok {K : tb_K} {TS : List (tb_S × tb_l)} {hs : List Nat} {tab : List (Nat × tb_op)} {fin : tb_S → Bool} {fuel : Nat} : ∀ {T1 : List (tb_S × tb_l)} {D1 : List (List Nat)}, tb_ckl K TS hs tab fin fuel T1 D1 = true → ∀ t ∈ T1, tb_ck1 K TS hs tab fin fuel t = true
  | [], _, _, t, ht => absurd ht List.not_mem_nil
  | t0 :: l, is :: r, h, t, ht => by
    have h : (tb_ckc K TS hs tab fin fuel t0 is && tb_ckl K TS hs tab fin fuel l r) = true := h
    rw [Bool.and_eq_true] at h
    rcases List.mem_cons.mp ht with rfl | ht
    · have h1 := h.1
      unfold tb_ckc at h1
      unfold tb_ck1
      rw [Bool.and_eq_true] at h1 ⊢
      refine ⟨h1.1, ?_⟩
      have h2 := h1.2
      rw [tb_nrm_eq] at h2 ⊢
      exact tb_run_mono (fun S hS => tb_leaf_mono tb_cand_in hS) _ _ h2
    · exact tb_ckl_ok h.2 t ht
  | _ :: _, [], h, _, _ => by cases h
theorem tb_ckl_app {K : tb_K} {TS T1 T2 : List (tb_S × tb_l)} {D1 : List (List Nat)} {hs : List Nat} {tab : List (Nat × tb_op)} {fin : tb_S → Bool} {fuel : Nat} (h1 : tb_ckl K TS hs tab fin fuel T1 D1 = true) (h2 : ∀ t ∈ T2, tb_ck1 K TS hs tab fin fuel t = true) : ∀ t ∈ T1 ++ T2, tb_ck1 K TS hs tab fin fuel t = true := fun t ht => (List.mem_append.mp ht).elim (tb_ckl_ok h1 t) (h2 t)
noncomputable def tb_ck0c (K : tb_K) (TS : List (tb_S × tb_l)) (hs : List Nat) (tab : List (Nat × tb_op)) (fin : tb_S → Bool) (fuel : Nat) (is : List Nat) : Bool := tb_nrm (0, sa_args 0 K.1, [], (K.2.1, [], K.2.2.1), K.2.2.2.1, 0, 0) (tb_run (fun pc => tb_as pc tab) (tb_leaf tb_Z0 K.2.2.2.1.length (tb_cand TS is) hs fin none) fuel)
theorem tb_ck0c_ok {K : tb_K} {TS : List (tb_S × tb_l)} {hs : List Nat} {tab : List (Nat × tb_op)} {fin : tb_S → Bool} {fuel : Nat} {is : List Nat} (h : tb_ck0c K TS hs tab fin fuel is = true) : tb_ck0 K TS hs tab fin fuel = true := by
  unfold tb_ck0c at h
  unfold tb_ck0
  rw [tb_nrm_eq] at h ⊢
  exact tb_run_mono (fun S hS => tb_leaf_mono tb_cand_in hS) _ _ h
end TYQ
