section TY2
/-! kinds and places -/
noncomputable def tb_knd (G : sa_B) (k : Nat) : Option Nat := match tb_ge G k with
  | some b => match tb_ieq b.1 b.2 && tb_ile tb_KB b.1 with
    | true => some (b.1 - tb_KB).toNat
    | false => none
  | none => none
theorem tb_knd_ok {E : tb_E} {V : sa_V} {G : sa_B} {k κ : Nat} (hI : sa_I V G) (hX : tb_X E V) (h : tb_knd G k = some κ) : (∃ j : Nat, (tb_al E)[j]? = some (sa_ad V k, κ)) ∧ k < G.length := by
  unfold tb_knd at h
  split at h
  · rename_i b hb
    rw [tb_ge_eq] at hb
    split at h
    · rename_i hh
      cases h
      rw [Bool.and_eq_true] at hh
      have hh1 := tb_ieq_ok hh.1
      have hh2 := tb_ile_ok hh.2
      obtain ⟨h1, h2⟩ := hI.1 _ _ hb
      have e1 : (V k).1 = b.1 := by omega
      obtain ⟨j, hj⟩ := hX.2.1 k (by omega)
      rw [e1] at hj
      exact ⟨⟨j, hj⟩, (List.getElem?_eq_some_iff.mp hb).1⟩
    · cases h
  · cases h
noncomputable def tb_sr (Z : tb_Z) (G : sa_B) (k1 k2 : Nat) : Bool := Nat.beq k1 k2 || match tb_knd G k1, tb_knd G k2 with
  | some a, some b => Nat.beq a b && Z.2.1.getD a false
  | _, _ => false
theorem tb_sr_ok {E : tb_E} {V : sa_V} {G : sa_B} {k1 k2 : Nat} {Z : tb_Z} (hz : tb_z E = Z) (hI : sa_I V G) (hX : tb_X E V) (h : tb_sr Z G k1 k2 = true) : sa_ad V k1 = sa_ad V k2 := by
  unfold tb_sr at h
  rw [Bool.or_eq_true] at h
  rcases h with h | h
  · rw [Nat.eq_of_beq_eq_true h]
  · split at h
    · rename_i a b ha hb
      rw [Bool.and_eq_true] at h
      obtain ⟨h1, h2⟩ := h
      have h1 := Nat.eq_of_beq_eq_true h1
      subst h1
      obtain ⟨⟨i, hi⟩, -⟩ := tb_knd_ok hI hX ha
      obtain ⟨⟨j, hj⟩, -⟩ := tb_knd_ok hI hX hb
      have hij := hX.2.2 a (by unfold tb_sg; rw [hz]; exact h2) i j _ _ hi hj
      subst hij
      exact congrArg Prod.fst (Option.some.inj (hi.symm.trans hj))
    · cases h
theorem tb_iv_ix {V : sa_V} {G : sa_B} {q : Nat × Int} {b : Int × Int} (hI : sa_I V G) (h : sa_iv G q = some b) : b.1 ≤ tb_ix V q ∧ tb_ix V q ≤ b.2 ∧ (sa_i V q).toInt = tb_ix V q := by
  obtain ⟨e1, l1, u1⟩ := sa_iv_ok hI h
  unfold tb_ix
  omega
theorem tb_kv_ix {V : sa_V} {G : sa_B} {q : Nat × Int} {a : Int} (hI : sa_I V G) (h : sa_kv G q = some a) : tb_ix V q = a := by
  rw [sa_kv_eq] at h
  split at h
  · rename_i b hb
    split at h
    · rename_i h1
      cases h
      obtain ⟨h2, h3, -⟩ := tb_iv_ix hI hb
      omega
    · cases h
  · cases h
noncomputable def tb_si (G : sa_B) (x y : Nat × Int) : Bool := match Nat.beq x.1 y.1 with
  | true => tb_ieq x.2 y.2
  | false => match sa_kv G x, sa_kv G y with
    | some a, some b => tb_ieq a b
    | _, _ => false
theorem tb_si_ok {V : sa_V} {G : sa_B} {x y : Nat × Int} (hI : sa_I V G) (h : tb_si G x y = true) : tb_ix V x = tb_ix V y := by
  unfold tb_si at h
  split at h
  · rename_i hxy
    unfold tb_ix
    rw [Nat.eq_of_beq_eq_true hxy, tb_ieq_ok h]
  · split at h
    · rename_i a b ha hb
      rw [tb_kv_ix hI ha, tb_kv_ix hI hb]
      exact tb_ieq_ok h
    · cases h
noncomputable def tb_di (G : sa_B) (x y : Nat × Int) : Bool := (Nat.beq x.1 y.1 && Bool.not (tb_ieq x.2 y.2)) || match sa_iv G x, sa_iv G y with
  | some a, some b => decide (a.2 < b.1 ∨ b.2 < a.1)
  | _, _ => false
theorem tb_di_ok {V : sa_V} {G : sa_B} {x y : Nat × Int} (hI : sa_I V G) (h : tb_di G x y = true) : ¬ tb_ix V x = tb_ix V y := by
  unfold tb_di at h
  rw [Bool.or_eq_true] at h
  rcases h with h | h
  · rw [Bool.and_eq_true] at h
    have h1 := Nat.eq_of_beq_eq_true h.1
    have h2 := tb_ine h.2
    unfold tb_ix
    rw [h1]
    omega
  · split at h
    · rename_i a b ha hb
      have h := of_decide_eq_true h
      obtain ⟨h1, h2, -⟩ := tb_iv_ix hI ha
      obtain ⟨h3, h4, -⟩ := tb_iv_ix hI hb
      omega
    · cases h
/-! facts -/
noncomputable def tb_fact (Z : tb_Z) (G : sa_B) (k : Nat) (q : Nat × Int) (l : List tb_f) : Option sa_v := List.rec (motive := fun _ => Option sa_v) none (fun f _ ih => Bool.rec (motive := fun _ => Option sa_v) ih (some f.2.2) (tb_si G f.2.1 q && tb_sr Z G f.1 k)) l
theorem tb_fact_cons {Z : tb_Z} {G : sa_B} {k : Nat} {q : Nat × Int} {f : tb_f} {l : List tb_f} : tb_fact Z G k q (f :: l) = if (tb_si G f.2.1 q && tb_sr Z G f.1 k) = true then some f.2.2 else tb_fact Z G k q l := by
  show (Bool.rec (tb_fact Z G k q l) (some f.2.2) (tb_si G f.2.1 q && tb_sr Z G f.1 k) : Option sa_v) = _
  cases (tb_si G f.2.1 q && tb_sr Z G f.1 k) <;> rfl
theorem tb_fact_ok {E : tb_E} {V : sa_V} {G : sa_B} {Z : tb_Z} {w : va_W} (hz : tb_z E = Z) (hI : sa_I V G) (hX : tb_X E V) {k : Nat} {q : Nat × Int} {v : sa_v} : ∀ {l : List tb_f}, (∀ f ∈ l, tb_fa V w f) → tb_fact Z G k q l = some v → tb_fa V w (k, q, v) ∧ ∃ f ∈ l, f.2.2 = v
  | [], _, h => by cases h
  | f :: l, hf, h => by
    rw [tb_fact_cons] at h
    split at h
    · rename_i hh
      cases h
      rw [Bool.and_eq_true] at hh
      have h1 := hf f List.mem_cons_self
      unfold tb_fa at h1 ⊢
      rw [tb_si_ok hI hh.1, tb_sr_ok hz hI hX hh.2] at h1
      exact ⟨h1, f, List.mem_cons_self, rfl⟩
    · obtain ⟨h1, g, h2, h3⟩ := tb_fact_ok hz hI hX (fun f hf' => hf f (List.mem_cons_of_mem _ hf')) h
      exact ⟨h1, g, List.mem_cons_of_mem _ h2, h3⟩
/-! types over a stretch -/
noncomputable def tb_ov : List (Nat × tb_t) → Nat → Nat → Nat → List tb_t
  | [], _, _, _ => []
  | q :: l, p, a, b => if p + q.1 ≤ a ∨ b < p then tb_ov l (p + q.1) a b else q.2 :: tb_ov l (p + q.1) a b
theorem tb_ov_in {a b i : Nat} {t : tb_t} (h1 : a ≤ i) (h2 : i ≤ b) : ∀ {l : List (Nat × tb_t)} {p : Nat}, p ≤ i → tb_rl l (i - p) = some t → t ∈ tb_ov l p a b
  | [], _, _, h => by cases h
  | q :: l, p, hp, h => by
    unfold tb_rl at h
    unfold tb_ov
    split at h
    · rename_i h3
      cases h
      rw [if_neg (by omega)]
      exact List.mem_cons_self
    · rename_i h3
      rw [show i - p - q.1 = i - (p + q.1) by omega] at h
      have ih := tb_ov_in h1 h2 (l := l) (p := p + q.1) (by omega) h
      split
      · exact ih
      · exact List.mem_cons_of_mem _ ih
noncomputable def tb_tys (k : tb_kd) (a b : Nat) : List tb_t := match k with
  | .inl o => match o.2[a]? with
    | some t => if a = b then [t] else []
    | none => []
  | .inr r => if b < r.2.1 then tb_ov r.2.2 0 a b else []
/-- a kind whose runs reach its end -/
noncomputable def tb_cv (k : tb_kd) : Bool := match k with
  | .inl _ => true
  | .inr r => decide (r.2.1 ≤ (r.2.2.map (fun q => q.1)).sum)
theorem tb_rl_some : ∀ {l : List (Nat × tb_t)} {i : Nat}, i < (l.map (fun q => q.1)).sum → ∃ t, tb_rl l i = some t
  | [], _, h => by simp at h
  | q :: l, i, h => by
    unfold tb_rl
    split
    · exact ⟨_, rfl⟩
    · rename_i h1
      rw [List.map_cons, List.sum_cons] at h
      exact tb_rl_some (by omega)
theorem tb_tys_in {k : tb_kd} {a b i : Nat} (h1 : a ≤ i) (h2 : i ≤ b) (hc : tb_cv k = true) (hn : ¬ tb_tys k a b = []) : ∃ t ∈ tb_tys k a b, tb_ty k i = some t := by
  cases k with
  | inl o =>
    unfold tb_tys at hn ⊢
    dsimp only at hn ⊢
    split at hn
    · rename_i t ht
      split at hn
      · rename_i hab
        rw [if_pos hab]
        have : i = a := by omega
        subst this
        exact ⟨t, List.mem_cons_self, ht⟩
      · exact absurd rfl hn
    · exact absurd rfl hn
  | inr r =>
    unfold tb_tys at hn ⊢
    dsimp only at hn ⊢
    split at hn
    · rename_i hb
      have hc : r.2.1 ≤ (r.2.2.map (fun q => q.1)).sum := of_decide_eq_true hc
      obtain ⟨t, ht⟩ := tb_rl_some (l := r.2.2) (i := i) (by omega)
      rw [if_pos hb]
      refine ⟨t, tb_ov_in h1 h2 (Nat.zero_le _) (by rw [Nat.sub_zero]; exact ht), ?_⟩
      unfold tb_ty
      dsimp only
      rw [if_pos (by omega)]
      exact ht
    · exact absurd rfl hn
/-- one type above all -/
noncomputable def tb_jt : List tb_t → Option tb_t
  | [] => none
  | [t] => some t
  | t :: l => match tb_jt l with
    | some u => if t.1 = u.1 then some (t.1, min t.2.1 u.2.1, max t.2.2 u.2.2) else none
    | none => none
theorem tb_jt_in {t : tb_t} : ∀ {l : List tb_t} {u : tb_t}, tb_jt l = some u → t ∈ l → t.1 = u.1 ∧ u.2.1 ≤ t.2.1 ∧ t.2.2 ≤ u.2.2
  | [], _, h, _ => by cases h
  | [x], u, h, ht => by
    cases h
    rw [List.mem_singleton.mp ht]
    exact ⟨rfl, Int.le_refl _, Int.le_refl _⟩
  | x :: y :: l, u, h, ht => by
    unfold tb_jt at h
    split at h
    · rename_i u' hu
      split at h
      · rename_i h1
        cases h
        rcases List.mem_cons.mp ht with rfl | ht
        · exact ⟨rfl, by show min _ _ ≤ _; omega, by show _ ≤ max _ _; omega⟩
        · obtain ⟨g1, g2, g3⟩ := tb_jt_in hu ht
          exact ⟨by rw [g1]; exact h1.symm, by show min _ _ ≤ _; omega, by show _ ≤ max _ _; omega⟩
      · cases h
    · cases h
/-- a value of a type, as a new sign -/
noncomputable def tb_vn (u : tb_t) (n : Nat) : sa_v := match u.1 with
  | 0 => .inl (n, 0)
  | 1 => .inr (.inr n)
  | _ => .inr (.inl (some n))
noncomputable def tb_bn (u : tb_t) : Int × Int := match u.1 with
  | 0 => u.2
  | 1 => u.2
  | _ => (tb_KB + u.2.1, tb_KB + u.2.2)
theorem tb_slot_new {E : tb_E} {t u : tb_t} {v : Value} (h : tb_vt (tb_al E) t v) (h1 : t.1 = u.1) (h2 : u.2.1 ≤ t.2.1) (h3 : t.2.2 ≤ u.2.2) : ∃ x : sa_x, tb_nx E x ∧ (tb_bn u).1 ≤ x.1 ∧ x.1 ≤ (tb_bn u).2 ∧ ∀ (V : sa_V) (n : Nat), sa_val (sa_upd V n x) (tb_vn u n) = v := by
  obtain ⟨tt, tl, th⟩ := t
  obtain ⟨ut, ul, uh⟩ := u
  dsimp only at h1 h2 h3
  subst h1
  unfold tb_vt at h
  dsimp only at h
  split at h
  · rename_i x
    exact ⟨_, tb_nx_int x, by show ul ≤ x.toInt; omega, by show x.toInt ≤ uh; omega, fun V n => by show Value.int (sa_i _ _) = _; rw [sa_i_new rfl]⟩
  · rename_i x
    exact ⟨_, tb_nx_long x, by show ul ≤ x.toInt; omega, by show x.toInt ≤ uh; omega, fun V n => tb_long_new⟩
  · rename_i a
    obtain ⟨j, κ, g1, g2, g3⟩ := h
    refine ⟨(tb_KB + κ, Int64.ofInt (tb_KB + κ), fun _ => 0, a), ⟨rfl, fun _ => ⟨j, ?_⟩⟩, by show tb_KB + ul ≤ tb_KB + κ; omega, by show tb_KB + (κ : Int) ≤ tb_KB + uh; omega, fun V n => ?_⟩
    · show (tb_al E)[j]? = some (a, (tb_KB + (κ : Int) - tb_KB).toNat)
      rw [show (tb_KB + (κ : Int) - tb_KB).toNat = κ by omega]
      exact g1
    · show Value.ref (sa_ad _ _) = _
      unfold sa_ad
      rw [sa_upd_eq]
  · exact h.elim
/-! what is known of a slot of the one cell of a kind -/
noncomputable def tb_svf (G : sa_B) (κ i : Nat) (f : tb_f) (e : Option (Nat × Int)) : Option (Nat × Int) := match f.2.2 with
  | .inl v => match Nat.beq f.2.1.1 0 && Bool.not (tb_ieq f.2.1.2 (Int.ofNat i)) with
    | true => e
    | false => match tb_knd G f.1, sa_kv G f.2.1 with
      | some κ', some i' => match Nat.beq κ' κ && tb_ieq i' (Int.ofNat i) with
        | true => some v
        | false => e
      | _, _ => e
  | _ => e
noncomputable def tb_sv (G : sa_B) (κ i : Nat) (l : List tb_f) : Option (Nat × Int) := List.rec (motive := fun _ => Option (Nat × Int)) none (fun f _ ih => tb_svf G κ i f ih) l
theorem tb_sv_ok {E : tb_E} {V : sa_V} {G : sa_B} {w : va_W} (hI : sa_I V G) (hX : tb_X E V) {κ i : Nat} {v : Nat × Int} : ∀ {l : List tb_f}, (∀ f ∈ l, tb_fa V w f) → tb_sv G κ i l = some v → ∃ j a : Nat, (tb_al E)[j]? = some (a, κ) ∧ tb_at w a i (.int (sa_i V v))
  | [], _, h => by cases h
  | f :: l, hf, h => by
    have rest : tb_sv G κ i l = some v → ∃ j a : Nat, (tb_al E)[j]? = some (a, κ) ∧ tb_at w a i (.int (sa_i V v)) := fun h => tb_sv_ok hI hX (fun f hf' => hf f (List.mem_cons_of_mem _ hf')) h
    change tb_svf G κ i f (tb_sv G κ i l) = some v at h
    unfold tb_svf at h
    split at h
    · rename_i v' h3
      split at h
      · exact rest h
      · split at h
        · rename_i κ' i' h1 h2
          split at h
          · rename_i hh
            cases h
            rw [Bool.and_eq_true] at hh
            have hk := Nat.eq_of_beq_eq_true hh.1
            have hi : i' = (i : Int) := tb_ieq_ok hh.2
            subst hk
            have hf0 := hf f List.mem_cons_self
            obtain ⟨⟨j, hj⟩, -⟩ := tb_knd_ok hI hX h1
            refine ⟨j, _, hj, ?_⟩
            unfold tb_fa at hf0
            rw [tb_kv_ix hI h2, h3, hi] at hf0
            exact hf0.2
          · exact rest h
        · exact rest h
    · exact rest h
/-- surely within -/
noncomputable def tb_pin (G : sa_B) (F : List tb_f) (p : tb_p) : Bool := match tb_sv G p.1 p.2.1 F with
  | some v => match sa_iv G v with
    | some b => decide (p.2.2.1 ≤ b.1 ∧ b.2 ≤ p.2.2.2)
    | none => false
  | none => false
theorem tb_pin_ok {E : tb_E} {V : sa_V} {G : sa_B} {w : va_W} {F : List tb_f} {p : tb_p} (hI : sa_I V G) (hX : tb_X E V) (hf : ∀ f ∈ F, tb_fa V w f) (h : tb_pin G F p = true) : tb_in (tb_al E) w p := by
  unfold tb_pin at h
  split at h
  · rename_i v hv
    split at h
    · rename_i b hb
      have h := of_decide_eq_true h
      obtain ⟨j, a, h1, h2⟩ := tb_sv_ok hI hX hf hv
      obtain ⟨e1, l1, u1⟩ := sa_iv_ok hI hb
      exact ⟨j, a, _, h1, h2, by omega, by omega⟩
    · cases h
  · cases h
end TY2
