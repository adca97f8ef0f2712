section TY5
/-! one slot changed -/
theorem tb_set_at {A : Nat → Prop} {w : va_W} (hD : va_D A w) {j a i : Nat} {e e' : va_E} {v0 : Value} (hj : w[j]? = some (a, e)) (hr : ∀ i', tb_rd e' i' = if i' = i then some v0 else tb_rd e i') {a' i' : Nat} {v : Value} (hne : ¬ (a' = a ∧ i' = i)) : tb_at (w.set j (a, e')) a' i' v ↔ tb_at w a' i' v := by
  have hl := (List.getElem?_eq_some_iff.mp hj).1
  constructor
  · rintro ⟨j', e9, h1, h2⟩
    by_cases hjj : j' = j
    · subst hjj
      rw [List.getElem?_set_self hl] at h1
      have h3 := Option.some.inj h1
      have h4 : a = a' := congrArg Prod.fst h3
      have h5 : e' = e9 := congrArg Prod.snd h3
      subst h4 h5
      rw [hr, if_neg (fun z => hne ⟨rfl, z⟩)] at h2
      exact ⟨j', e, hj, h2⟩
    · rw [List.getElem?_set_ne (Ne.symm hjj)] at h1
      exact ⟨j', e9, h1, h2⟩
  · rintro ⟨j', e9, h1, h2⟩
    by_cases hjj : j' = j
    · subst hjj
      have h3 := Option.some.inj (hj.symm.trans h1)
      have h4 : a = a' := congrArg Prod.fst h3
      have h5 : e = e9 := congrArg Prod.snd h3
      subst h4 h5
      refine ⟨j', e', List.getElem?_set_self hl, ?_⟩
      rw [hr, if_neg (fun z => hne ⟨rfl, z⟩)]
      exact h2
    · exact ⟨j', e9, by rw [List.getElem?_set_ne (Ne.symm hjj)]; exact h1, h2⟩
theorem tb_set_new {w : va_W} {j a i : Nat} {e e' : va_E} {v0 : Value} (hj : w[j]? = some (a, e)) (hr : ∀ i', tb_rd e' i' = if i' = i then some v0 else tb_rd e i') : tb_at (w.set j (a, e')) a i v0 := ⟨j, e', List.getElem?_set_self (List.getElem?_eq_some_iff.mp hj).1, by rw [hr, if_pos rfl]⟩
theorem tb_set_wk {dA : Nat → ClassId} {al : List (Nat × Nat)} {KT : List tb_kd} {w : va_W} (h : tb_wk dA al KT w) {j a κ i : Nat} {e e' : va_E} {v0 : Value} {kd : tb_kd} (hj : w[j]? = some (a, e)) (hal : al[j]? = some (a, κ)) (hk : KT[κ]? = some kd) (hr : ∀ i', tb_rd e' i' = if i' = i then some v0 else tb_rd e i') (hs : tb_sh dA kd e') (ht : ∀ t, tb_ty kd i = some t → tb_vt al t v0) : tb_wk dA al KT (w.set j (a, e')) := by
  refine ⟨by rw [List.length_set]; exact h.1, fun j' a' κ' hj' => ?_⟩
  obtain ⟨k, e9, h1, h2, h3⟩ := h.2 j' a' κ' hj'
  by_cases hjj : j' = j
  · subst hjj
    have h4 := Option.some.inj (hal.symm.trans hj')
    have h5 : a = a' := congrArg Prod.fst h4
    have h6 : κ = κ' := congrArg Prod.snd h4
    subst h5 h6
    rw [hk] at h1
    cases h1
    have h7 := Option.some.inj (hj.symm.trans h2)
    have h8 : e = e9 := congrArg Prod.snd h7
    subst h8
    refine ⟨kd, e', hk, List.getElem?_set_self (List.getElem?_eq_some_iff.mp hj).1, hs, fun i' t hti => ?_⟩
    by_cases hii : i' = i
    · subst hii
      exact ⟨v0, by rw [hr, if_pos rfl], ht t hti⟩
    · obtain ⟨v, g1, g2⟩ := h3.2 i' t hti
      exact ⟨v, by rw [hr, if_neg hii]; exact g1, g2⟩
  · exact ⟨k, e9, h1, by rw [List.getElem?_set_ne (Ne.symm hjj)]; exact h2, h3⟩
theorem tb_set_fm {E : tb_E} {w : va_W} (h : tb_fm E w) {j a κ i : Nat} {e e' : va_E} {v0 : Value} (hj : w[j]? = some (a, e)) (hal : (tb_al E)[j]? = some (a, κ)) (hr : ∀ i', tb_rd e' i' = if i' = i then some v0 else tb_rd e i') (hm : tb_md (tb_mod E) κ i = true) : tb_fm E (w.set j (a, e')) := by
  intro j' a' κ' e0 e9 i' h1 h2 h3 h4
  by_cases hjj : j' = j
  · subst hjj
    have g4 := Option.some.inj (hal.symm.trans h1)
    have g5 : a = a' := congrArg Prod.fst g4
    have g6 : κ = κ' := congrArg Prod.snd g4
    subst g5 g6
    rw [List.getElem?_set_self (List.getElem?_eq_some_iff.mp hj).1] at h3
    have g7 : e' = e9 := congrArg Prod.snd (Option.some.inj h3)
    subst g7
    have hii : ¬ i' = i := fun z => by rw [z, hm] at h4; cases h4
    rw [hr, if_neg hii]
    exact h j' a κ e0 e i' h1 h2 hj h4
  · rw [List.getElem?_set_ne (Ne.symm hjj)] at h3
    exact h j' a' κ' e0 e9 i' h1 h2 h3 h4
/-! rules -/
noncomputable def tb_slt (al : List (Nat × Nat)) (w : va_W) (κ i : Nat) (x : Int32) : Prop := ∃ j a : Nat, al[j]? = some (a, κ) ∧ tb_at w a i (.int x)
theorem tb_slt_one {E : tb_E} {A : Nat → Prop} {V : sa_V} {w : va_W} {κ i : Nat} {x y : Int32} (hX : tb_X E V) (hD : va_D A w) (hs : tb_sg E κ = true) (h1 : tb_slt (tb_al E) w κ i x) (h2 : tb_slt (tb_al E) w κ i y) : x = y := by
  obtain ⟨j, a, g1, g2⟩ := h1
  obtain ⟨j', a', g3, g4⟩ := h2
  have := hX.2.2 κ hs j j' _ _ g1 g3
  subst this
  have : a = a' := congrArg Prod.fst (Option.some.inj (g1.symm.trans g3))
  subst this
  have h5 := tb_at_one hD g2 g4
  injection h5
theorem tb_in_slt {al : List (Nat × Nat)} {w : va_W} {p : tb_p} : tb_in al w p ↔ ∃ x : Int32, tb_slt al w p.1 p.2.1 x ∧ p.2.2.1 ≤ x.toInt ∧ x.toInt ≤ p.2.2.2 :=
  ⟨fun ⟨j, a, x, h1, h2, h3⟩ => ⟨x, ⟨j, a, h1, h2⟩, h3⟩, fun ⟨x, ⟨j, a, h1, h2⟩, h3⟩ => ⟨j, a, x, h1, h2, h3⟩⟩
/-- surely not within -/
noncomputable def tb_pout (Z : tb_Z) (G : sa_B) (F : List tb_f) (p : tb_p) : Bool := Z.2.1.getD p.1 false && match tb_sv G p.1 p.2.1 F with
  | some v => match sa_iv G v with
    | some b => decide (b.2 < p.2.2.1 ∨ p.2.2.2 < b.1)
    | none => false
  | none => false
theorem tb_pout_ok {E : tb_E} {A : Nat → Prop} {V : sa_V} {G : sa_B} {w : va_W} {Z : tb_Z} {F : List tb_f} {p : tb_p} (hz : tb_z E = Z) (hI : sa_I V G) (hX : tb_X E V) (hD : va_D A w) (hf : ∀ f ∈ F, tb_fa V w f) (h : tb_pout Z G F p = true) : ¬ tb_in (tb_al E) w p := by
  unfold tb_pout at h
  rw [Bool.and_eq_true] at h
  obtain ⟨hs, h⟩ := h
  split at h
  · rename_i v hv
    split at h
    · rename_i b hb
      have h := of_decide_eq_true h
      obtain ⟨j, a, h1, h2⟩ := tb_sv_ok hI hX hf hv
      obtain ⟨e1, l1, u1⟩ := sa_iv_ok hI hb
      intro hin
      obtain ⟨x, g1, g2, g3⟩ := tb_in_slt.mp hin
      have := tb_slt_one hX hD (by unfold tb_sg; rw [hz]; exact hs) g1 ⟨j, a, h1, h2⟩
      subst this
      omega
    · cases h
  · cases h
/-- the same value in two slots -/
noncomputable def tb_sm (Z : tb_Z) (G : sa_B) (F : List tb_f) (p p' : tb_p) : Bool := Z.2.1.getD p.1 false && match tb_sv G p.1 p.2.1 F, tb_sv G p'.1 p'.2.1 F with
  | some v, some v' => decide (v = v') && decide (p'.2.2.1 ≤ p.2.2.1 ∧ p.2.2.2 ≤ p'.2.2.2)
  | _, _ => false
theorem tb_sm_ok {E : tb_E} {A : Nat → Prop} {V : sa_V} {G : sa_B} {w : va_W} {Z : tb_Z} {F : List tb_f} {p p' : tb_p} (hz : tb_z E = Z) (hI : sa_I V G) (hX : tb_X E V) (hD : va_D A w) (hf : ∀ f ∈ F, tb_fa V w f) (h : tb_sm Z G F p p' = true) (hin : tb_in (tb_al E) w p) : tb_in (tb_al E) w p' := by
  unfold tb_sm at h
  rw [Bool.and_eq_true] at h
  obtain ⟨hs, h⟩ := h
  split at h
  · rename_i v v' hv hv'
    rw [Bool.and_eq_true] at h
    have e1 := of_decide_eq_true h.1
    have e2 := of_decide_eq_true h.2
    subst e1
    obtain ⟨j, a, h1, h2⟩ := tb_sv_ok hI hX hf hv
    obtain ⟨j', a', h3, h4⟩ := tb_sv_ok hI hX hf hv'
    obtain ⟨x, g1, g2, g3⟩ := tb_in_slt.mp hin
    have := tb_slt_one hX hD (by unfold tb_sg; rw [hz]; exact hs) g1 ⟨j, a, h1, h2⟩
    subst this
    exact ⟨j', a', _, h3, h4, by omega, by omega⟩
  · cases h
noncomputable def tb_zip2 (f : tb_p → tb_p → Bool) : List tb_p → List tb_p → Bool
  | [], [] => true
  | a :: l, b :: l' => f a b && tb_zip2 f l l'
  | _, _ => false
theorem tb_zip2_ok {f : tb_p → tb_p → Bool} {P Q : tb_p → Prop} (hf : ∀ a b, f a b = true → P a → Q b) : ∀ {l l' : List tb_p}, tb_zip2 f l l' = true → (∀ a ∈ l, P a) → ∀ b ∈ l', Q b
  | [], [], _, _, b, hb => by cases hb
  | a :: l, b' :: l', h, hp, b, hb => by
    have h : (f a b' && tb_zip2 f l l') = true := h
    rw [Bool.and_eq_true] at h
    rcases List.mem_cons.mp hb with rfl | hb
    · exact hf _ _ h.1 (hp a List.mem_cons_self)
    · exact tb_zip2_ok hf h.2 (fun x hx => hp x (List.mem_cons_of_mem _ hx)) b hb
  | [], _ :: _, h, _, _, _ => by cases h
  | _ :: _, [], h, _, _, _ => by cases h
/-- a rule that holds by the facts; dl: where a like rule of other cells may be -/
noncomputable def tb_rok (Z : tb_Z) (G : sa_B) (F : List tb_f) (sus : List Nat) (dl : List (Nat × Nat × Int)) (r : Nat) : Bool := match tb_ge Z.2.2 r with
  | none => true
  | some ru => ru.1.any (tb_pout Z G F) || (tb_pin G F ru.2 || dl.any (fun d => decide (d.1 ≤ r ∧ r ≤ d.2.1) && match tb_ge Z.2.2 ((r : Int) + d.2.2).toNat with
    | some ru' => !(sus.contains ((r : Int) + d.2.2).toNat) && (tb_zip2 (tb_sm Z G F) ru.1 ru'.1 && tb_sm Z G F ru'.2 ru.2)
    | none => false))
theorem tb_rok_ok {E : tb_E} {A : Nat → Prop} {V : sa_V} {G : sa_B} {w : va_W} {Z : tb_Z} {F : List tb_f} {sus : List Nat} {dl : List (Nat × Nat × Int)} {r : Nat} {ru : tb_ru} (hz : tb_z E = Z) (hI : sa_I V G) (hX : tb_X E V) (hD : va_D A w) (hf : ∀ f ∈ F, tb_fa V w f) (hr : ∀ (i : Nat) (r : tb_ru), Z.2.2[i]? = some r → i ∉ sus → tb_rh (tb_al E) w r) (h : tb_rok Z G F sus dl r = true) (hru : Z.2.2[r]? = some ru) : tb_rh (tb_al E) w ru := by
  unfold tb_rok at h
  rw [tb_ge_eq, hru] at h
  dsimp only at h
  rw [Bool.or_eq_true, Bool.or_eq_true] at h
  intro hp
  rcases h with h | h | h
  · obtain ⟨p, h1, h2⟩ := List.any_eq_true.mp h
    exact absurd (hp p h1) (tb_pout_ok hz hI hX hD hf h2)
  · exact tb_pin_ok hI hX hf h
  · obtain ⟨d, -, h2⟩ := List.any_eq_true.mp h
    rw [Bool.and_eq_true] at h2
    obtain ⟨-, h2⟩ := h2
    split at h2
    · rename_i ru' hru'
      rw [tb_ge_eq] at hru'
      rw [Bool.and_eq_true, Bool.and_eq_true] at h2
      obtain ⟨g1, g2, g3⟩ := h2
      have g1 : ((r : Int) + d.2.2).toNat ∉ sus := by simpa using g1
      exact tb_sm_ok hz hI hX hD hf g3 (hr _ ru' hru' g1 (tb_zip2_ok (P := tb_in (tb_al E) w) (Q := tb_in (tb_al E) w) (fun a b hab ha => tb_sm_ok hz hI hX hD hf hab ha) g2 hp))
    · cases h2
/-! which rules speak of a slot -/
abbrev tb_RT : Type := List (Nat × List (Nat × List Nat))
noncomputable def tb_as {α : Type} (k : Nat) (l : List (Nat × α)) : Option α := List.rec (motive := fun _ => Option α) none (fun q _ ih => Bool.rec (motive := fun _ => Option α) ih (some q.2) (Nat.beq q.1 k)) l
theorem tb_as_cons {α : Type} {k : Nat} {q : Nat × α} {l : List (Nat × α)} : tb_as k (q :: l) = if Nat.beq q.1 k = true then some q.2 else tb_as k l := by
  show (Bool.rec (tb_as k l) (some q.2) (Nat.beq q.1 k) : Option α) = _
  cases Nat.beq q.1 k <;> rfl
noncomputable def tb_a2 (RT : tb_RT) (κ i : Nat) : List Nat := match tb_as κ RT with
  | none => []
  | some l => (tb_as i l).getD []
noncomputable def tb_an (RT : tb_RT) (κ a b : Nat) : Bool := match tb_as κ RT with
  | none => false
  | some l => l.any (fun q => decide (a ≤ q.1 ∧ q.1 ≤ b))
noncomputable def tb_rtk (RT : tb_RT) : Nat → List tb_ru → Bool
  | _, [] => true
  | r, ru :: l => (ru.2 :: ru.1).all (fun p => (tb_a2 RT p.1 p.2.1).contains r) && tb_rtk RT (r + 1) l
noncomputable def tb_rtok (Z : tb_Z) (RT : tb_RT) : Bool := tb_rtk RT 0 Z.2.2
theorem tb_rtk_in {RT : tb_RT} : ∀ {l : List tb_ru} {n r : Nat} {ru : tb_ru}, tb_rtk RT n l = true → l[r]? = some ru → ∀ p ∈ ru.2 :: ru.1, n + r ∈ tb_a2 RT p.1 p.2.1
  | [], _, _, _, _, h => by simp at h
  | x :: l, n, r, ru, h, hr => by
    have h : ((x.2 :: x.1).all (fun p => (tb_a2 RT p.1 p.2.1).contains n) && tb_rtk RT (n + 1) l) = true := h
    rw [Bool.and_eq_true] at h
    cases r with
    | zero =>
      rw [List.getElem?_cons_zero] at hr
      cases hr
      intro p hp
      have h2 := List.all_eq_true.mp h.1 p hp
      simpa using h2
    | succ r =>
      rw [List.getElem?_cons_succ] at hr
      intro p hp
      have := tb_rtk_in h.2 hr p hp
      rw [show n + (r + 1) = n + 1 + r by omega]
      exact this
theorem tb_rtok_in {Z : tb_Z} {RT : tb_RT} (h : tb_rtok Z RT = true) {r : Nat} {ru : tb_ru} (hr : Z.2.2[r]? = some ru) {p : tb_p} (hp : p ∈ ru.2 :: ru.1) : r ∈ tb_a2 RT p.1 p.2.1 := by
  have := tb_rtk_in h hr p hp
  rwa [Nat.zero_add] at this
theorem tb_as_mem {α : Type} {k : Nat} {x : α} : ∀ {l : List (Nat × α)}, tb_as k l = some x → (k, x) ∈ l
  | [], h => by cases h
  | q :: l, h => by
    rw [tb_as_cons] at h
    split at h
    · rename_i h1
      cases h
      rw [← Nat.eq_of_beq_eq_true h1]
      exact List.mem_cons_self
    · exact List.mem_cons_of_mem _ (tb_as_mem h)
theorem tb_an_not {RT : tb_RT} {κ a b i : Nat} (h : tb_an RT κ a b = false) (h1 : a ≤ i) (h2 : i ≤ b) (r : Nat) : r ∉ tb_a2 RT κ i := by
  unfold tb_an at h
  unfold tb_a2
  split at h
  · exact List.not_mem_nil
  · rename_i l hl
    cases hi : tb_as i l with
    | none => exact List.not_mem_nil
    | some x =>
      have hm := tb_as_mem hi
      have := (List.any_eq_false.mp h) (i, x) hm
      simp at this
      omega
/-- a rule keeps holding over a change of a slot, if it doesn't speak of it, or if its premise there held before -/
theorem tb_rh_kept {E : tb_E} {A : Nat → Prop} {w : va_W} (hD : va_D A w) {j a κ i : Nat} {e e' : va_E} {v0 : Value} (hwk : ∀ (j a κ : Nat), (tb_al E)[j]? = some (a, κ) → ∃ e, w[j]? = some (a, e)) (hj : w[j]? = some (a, e)) (hal : (tb_al E)[j]? = some (a, κ)) (hr : ∀ i', tb_rd e' i' = if i' = i then some v0 else tb_rd e i') {ru : tb_ru} (h : tb_rh (tb_al E) w ru) (hc : ¬ (ru.2.1 = κ ∧ ru.2.2.1 = i)) (hp : ∀ p ∈ ru.1, p.1 = κ → p.2.1 = i → tb_in (tb_al E) w p) : tb_rh (tb_al E) (w.set j (a, e')) ru := by
  have key : ∀ p : tb_p, ¬ (p.1 = κ ∧ p.2.1 = i) → (tb_in (tb_al E) (w.set j (a, e')) p ↔ tb_in (tb_al E) w p) := by
    intro p hne
    have h0 : ∀ j' a' : Nat, (tb_al E)[j']? = some (a', p.1) → ¬ (a' = a ∧ p.2.1 = i) := by
      rintro j' a' h1 ⟨rfl, h3⟩
      obtain ⟨e9, h4⟩ := hwk j' a' _ h1
      have := hD.1 j' j _ _ h4 hj rfl
      subst this
      exact hne ⟨congrArg Prod.snd (Option.some.inj (h1.symm.trans hal)), h3⟩
    constructor
    · rintro ⟨j', a', x, h1, h2, h3⟩
      exact ⟨j', a', x, h1, (tb_set_at hD hj hr (h0 j' a' h1)).mp h2, h3⟩
    · rintro ⟨j', a', x, h1, h2, h3⟩
      exact ⟨j', a', x, h1, (tb_set_at hD hj hr (h0 j' a' h1)).mpr h2, h3⟩
  intro hpp
  refine (key ru.2 hc).mpr (h (fun p hpm => ?_))
  by_cases hne : p.1 = κ ∧ p.2.1 = i
  · exact hp p hpm hne.1 hne.2
  · exact (key p hne).mp (hpp p hpm)
/-! a store -/
noncomputable def tb_kdis (G : sa_B) (k k' : Nat) : Bool := match G[k]?, G[k']? with
  | some b, some b' => decide (tb_KB ≤ b.1 ∧ tb_KB ≤ b'.1 ∧ (b.2 < b'.1 ∨ b'.2 < b.1))
  | _, _ => false
noncomputable def tb_fitv (G : sa_B) (t : tb_t) (v : sa_v) : Bool := match t.1, v with
  | 0, .inl x => match sa_iv G x with
    | some b => decide (t.2.1 ≤ b.1 ∧ b.2 ≤ t.2.2)
    | none => false
  | 1, .inr (.inr j) => match G[j]? with
    | some b => decide (t.2.1 ≤ b.1 ∧ b.2 ≤ t.2.2 ∧ -9223372036854775808 ≤ b.1 ∧ b.2 ≤ 9223372036854775807)
    | none => false
  | 2, .inr (.inl (some k)) => match G[k]? with
    | some b => decide (0 ≤ t.2.1 ∧ tb_KB + t.2.1 ≤ b.1 ∧ b.2 ≤ tb_KB + t.2.2)
    | none => false
  | _, _ => false
theorem tb_long_val {E : tb_E} {V : sa_V} (hX : tb_X E V) {j : Nat} (h1 : -9223372036854775808 ≤ (V j).1) (h2 : (V j).1 ≤ 9223372036854775807) : (V j).2.1.toInt = (V j).1 := by
  rw [hX.1 j]
  exact Int64.toInt_ofInt_of_le (by simpa using h1) (by simp; omega)
theorem tb_fitv_ok {E : tb_E} {V : sa_V} {G : sa_B} {t : tb_t} {v : sa_v} (hI : sa_I V G) (hX : tb_X E V) (h : tb_fitv G t v = true) : tb_vt (tb_al E) t (sa_val V v) := by
  obtain ⟨tt, tl, th⟩ := t
  unfold tb_fitv at h
  dsimp only at h
  split at h
  · rename_i x
    split at h
    · rename_i b hb
      have h := of_decide_eq_true h
      obtain ⟨e1, l1, u1⟩ := sa_iv_ok hI hb
      show tl ≤ (sa_i V x).toInt ∧ (sa_i V x).toInt ≤ th
      omega
    · cases h
  · rename_i j
    split at h
    · rename_i b hb
      have h := of_decide_eq_true h
      obtain ⟨g1, g2⟩ := hI.1 _ _ hb
      show tl ≤ (V j).2.1.toInt ∧ (V j).2.1.toInt ≤ th
      rw [tb_long_val hX (by omega) (by omega)]
      omega
    · cases h
  · rename_i k
    split at h
    · rename_i b hb
      have h := of_decide_eq_true h
      obtain ⟨g1, g2⟩ := hI.1 _ _ hb
      obtain ⟨j, hj⟩ := hX.2.1 k (by omega)
      exact ⟨j, _, hj, by show tl ≤ _; omega, by show _ ≤ th; omega⟩
    · cases h
  · cases h
noncomputable def tb_pre (Z : tb_Z) (G : sa_B) (F : List tb_f) (κ i r : Nat) : Bool := match tb_ge Z.2.2 r with
  | none => true
  | some ru => decide (¬ (ru.2.1 = κ ∧ ru.2.2.1 = i)) && ru.1.all (fun p => !(decide (p.1 = κ ∧ p.2.1 = i)) || tb_pin G F p)
noncomputable def tb_ns (Z : tb_Z) (RT : tb_RT) (dl : List (Nat × Nat × Int)) (cs : tb_c) (F' : List tb_f) (G : sa_B) (κ i : Nat) : List Nat :=
  ((tb_a2 RT κ i).filter (fun r => !(!(cs.2.1.contains r) && tb_pre Z G cs.1 κ i r)) ++ cs.2.1).filter (fun r => !(tb_rok Z G F' ((tb_a2 RT κ i).filter (fun r => !(!(cs.2.1.contains r) && tb_pre Z G cs.1 κ i r)) ++ cs.2.1) dl r))
noncomputable def tb_sto (Z : tb_Z) (RT : tb_RT) (mod : List (Nat × Nat × Nat)) (dl : List (Nat × Nat × Int)) (cs : tb_c) (G : sa_B) (k : Nat) (q : Nat × Int) (v : sa_v) : Option tb_c := match tb_knd G k, sa_iv G q with
  | some κ, some b => match Z.1[κ]? with
    | some kd => if 0 ≤ b.1 ∧ ¬ tb_tys kd b.1.toNat b.2.toNat = [] ∧ (tb_tys kd b.1.toNat b.2.toNat).all (fun t => tb_fitv G t v) = true ∧ mod.any (fun m => decide (m.1 = κ ∧ m.2.1 ≤ b.1.toNat ∧ b.2.toNat ≤ m.2.2)) = true then
        match tb_an RT κ b.1.toNat b.2.toNat with
        | false => some (cs.1.filter (fun f => tb_di G f.2.1 q || tb_kdis G f.1 k) ++ [(k, q, v)], cs.2)
        | true => if b.1 = b.2 then some (cs.1.filter (fun f => tb_di G f.2.1 q || tb_kdis G f.1 k) ++ [(k, q, v)], tb_ns Z RT dl cs (cs.1.filter (fun f => tb_di G f.2.1 q || tb_kdis G f.1 k) ++ [(k, q, v)]) G κ b.1.toNat, cs.2.2) else none
      else none
    | none => none
  | _, _ => none
theorem tb_sto_ok {D : va_G} {dA : Nat → ClassId} {A : Nat → Prop} {cl : List vw_C} {E : tb_E} {V : sa_V} {cs cs' : tb_c} {G : sa_B} {H H1 : Heap} {Z : tb_Z} {RT : tb_RT} {mod : List (Nat × Nat × Nat)} {dl : List (Nat × Nat × Int)} {k κ : Nat} {q : Nat × Int} {v : sa_v} {w : va_W} {j : Nat} {e e' : va_E} {kd : tb_kd}
    (hz : tb_z E = Z) (hcv : Z.1.all tb_cv = true) (hrt : tb_rtok Z RT = true) (hm : tb_mod E = mod) (hI : sa_I V G) (hX : tb_X E V) (hN : tb_Nw D dA A cl E V cs H w) (h : tb_sto Z RT mod dl cs G k q v = some cs') (hκ : tb_knd G k = some κ) (hkd : Z.1[κ]? = some kd) (hal : (tb_al E)[j]? = some (sa_ad V k, κ)) (hj : w[j]? = some (sa_ad V k, e)) (hs : tb_sh dA kd e') (hr : ∀ i', tb_rd e' i' = if i' = (tb_ix V q).toNat then some (sa_val V v) else tb_rd e i') (hP : va_P D cl (w.set j (sa_ad V k, e')) H1) (hD : va_D A (w.set j (sa_ad V k, e'))) :
    tb_N D dA A cl E V cs' H1 := by
  obtain ⟨n1, n2, n3, n4, n5, n6, n7⟩ := hN
  unfold tb_sto at h
  rw [hκ] at h
  split at h
  · rename_i κ' b hκ' hb
    cases hκ'
    rw [hkd] at h
    dsimp only at h
    split at h
    · rename_i hh
      obtain ⟨h1, h2, h3, h4⟩ := hh
      obtain ⟨q1, q2, -⟩ := tb_iv_ix hI hb
      have hty : ∀ t, tb_ty kd (tb_ix V q).toNat = some t → tb_vt (tb_al E) t (sa_val V v) := by
        intro t ht
        obtain ⟨t', g1, g2⟩ := tb_tys_in (k := kd) (a := b.1.toNat) (b := b.2.toNat) (i := (tb_ix V q).toNat) (by omega) (by omega) (List.all_eq_true.mp hcv kd (List.mem_of_getElem? hkd)) h2
        rw [ht] at g2
        cases g2
        exact tb_fitv_ok hI hX (List.all_eq_true.mp h3 t g1)
      have hmd : tb_md (tb_mod E) κ (tb_ix V q).toNat = true := by
        obtain ⟨m9, g1, g2⟩ := List.any_eq_true.mp h4
        have g2 := of_decide_eq_true g2
        rw [hm]
        exact List.any_eq_true.mpr ⟨m9, g1, decide_eq_true ⟨g2.1, by omega, by omega⟩⟩
      have hW3 := tb_set_wk n3 hj hal (by rw [hz]; exact hkd) hr hs hty
      have hW4 := tb_set_fm n4 hj hal hr hmd
      have hwk : ∀ (j a κ : Nat), (tb_al E)[j]? = some (a, κ) → ∃ e, w[j]? = some (a, e) := fun j a κ hj => by
        obtain ⟨k9, e9, g1, g2, g3⟩ := n3.2 j a κ hj
        exact ⟨e9, g2⟩
      have hF : ∀ f ∈ cs.1.filter (fun f => tb_di G f.2.1 q || tb_kdis G f.1 k) ++ [(k, q, v)], tb_fa V (w.set j (sa_ad V k, e')) f := by
        intro f hf
        rcases List.mem_append.mp hf with hf | hf
        · obtain ⟨f1, f2⟩ := List.mem_filter.mp hf
          obtain ⟨f3, f4⟩ := n5 f f1
          refine ⟨f3, (tb_set_at n2 hj hr ?_).mpr f4⟩
          rintro ⟨z1, z2⟩
          rw [Bool.or_eq_true] at f2
          rcases f2 with f2 | f2
          · have := tb_di_ok hI f2
            omega
          · unfold tb_kdis at f2
            split at f2
            · rename_i b1 b2 hb1 hb2
              have f2 := of_decide_eq_true f2
              obtain ⟨x1, x2⟩ := hI.1 _ _ hb1
              obtain ⟨y1, y2⟩ := hI.1 _ _ hb2
              obtain ⟨j1, g1⟩ := hX.2.1 f.1 (by omega)
              obtain ⟨j2, g2⟩ := hX.2.1 k (by omega)
              obtain ⟨e1, g3⟩ := hwk _ _ _ g1
              obtain ⟨e2, g4⟩ := hwk _ _ _ g2
              have := n2.1 j1 j2 _ _ g3 g4 z1
              subst this
              have := congrArg Prod.snd (Option.some.inj (g1.symm.trans g2))
              have : ((V f.1).1 - tb_KB).toNat = ((V k).1 - tb_KB).toNat := this
              omega
            · cases f2
        · rw [List.mem_singleton.mp hf]
          exact ⟨by show 0 ≤ tb_ix V q; omega, tb_set_new hj hr⟩
      split at h
      · rename_i hn
        cases h
        refine ⟨_, hP, hD, hW3, hW4, hF, fun r ru hru hrs => ?_, n7⟩
        have hno : ∀ p ∈ ru.2 :: ru.1, ¬ (p.1 = κ ∧ p.2.1 = (tb_ix V q).toNat) := by
          rintro p hp ⟨z1, z2⟩
          have := tb_rtok_in hrt (by rw [← hz]; exact hru) hp
          rw [z1, z2] at this
          exact tb_an_not hn (by omega) (by omega) r this
        exact tb_rh_kept n2 hwk hj hal hr (n6 r ru hru hrs) (hno _ List.mem_cons_self) (fun p hp z1 z2 => absurd ⟨z1, z2⟩ (hno p (List.mem_cons_of_mem _ hp)))
      · split at h
        · rename_i hbb
          cases h
          have hix : (tb_ix V q).toNat = b.1.toNat := by omega
          -- rules that are not open before the last look
          have hr1 : ∀ (r : Nat) (ru : tb_ru), Z.2.2[r]? = some ru → r ∉ (tb_a2 RT κ b.1.toNat).filter (fun r => !(!(cs.2.1.contains r) && tb_pre Z G cs.1 κ b.1.toNat r)) ++ cs.2.1 → tb_rh (tb_al E) (w.set j (sa_ad V k, e')) ru := by
            intro r ru hru hrs
            have hs2 : r ∉ cs.2.1 := fun z => hrs (List.mem_append_right _ z)
            have hold := n6 r ru (by rw [hz]; exact hru) hs2
            by_cases hin : r ∈ tb_a2 RT κ b.1.toNat
            · have hpre : tb_pre Z G cs.1 κ b.1.toNat r = true := by
                cases hpp : tb_pre Z G cs.1 κ b.1.toNat r with
                | true => rfl
                | false =>
                  exfalso
                  refine hrs (List.mem_append_left _ (List.mem_filter.mpr ⟨hin, ?_⟩))
                  rw [hpp, Bool.and_false]
                  rfl
              unfold tb_pre at hpre
              rw [tb_ge_eq, hru] at hpre
              dsimp only at hpre
              rw [Bool.and_eq_true] at hpre
              obtain ⟨p1, p2⟩ := hpre
              have p1 := of_decide_eq_true p1
              refine tb_rh_kept n2 hwk hj hal hr hold (by rw [hix]; exact p1) (fun p hp z1 z2 => ?_)
              have p3 := List.all_eq_true.mp p2 p hp
              rw [Bool.or_eq_true] at p3
              rcases p3 with p3 | p3
              · rw [hix] at z2
                rw [decide_eq_true (⟨z1, z2⟩ : p.1 = κ ∧ p.2.1 = b.1.toNat)] at p3
                cases p3
              · exact tb_pin_ok hI hX n5 p3
            · have hno : ∀ p ∈ ru.2 :: ru.1, ¬ (p.1 = κ ∧ p.2.1 = (tb_ix V q).toNat) := by
                rintro p hp ⟨z1, z2⟩
                have := tb_rtok_in hrt hru hp
                rw [z1, z2, hix] at this
                exact hin this
              exact tb_rh_kept n2 hwk hj hal hr hold (hno _ List.mem_cons_self) (fun p hp z1 z2 => absurd ⟨z1, z2⟩ (hno p (List.mem_cons_of_mem _ hp)))
          refine ⟨_, hP, hD, hW3, hW4, hF, fun r ru hru hrs => ?_, n7⟩
          have hru : Z.2.2[r]? = some ru := by rw [← hz]; exact hru
          by_cases hin : r ∈ (tb_a2 RT κ b.1.toNat).filter (fun r => !(!(cs.2.1.contains r) && tb_pre Z G cs.1 κ b.1.toNat r)) ++ cs.2.1
          · have hok : tb_rok Z G (cs.1.filter (fun f => tb_di G f.2.1 q || tb_kdis G f.1 k) ++ [(k, q, v)]) ((tb_a2 RT κ b.1.toNat).filter (fun r => !(!(cs.2.1.contains r) && tb_pre Z G cs.1 κ b.1.toNat r)) ++ cs.2.1) dl r = true := by
              cases hpp : tb_rok Z G (cs.1.filter (fun f => tb_di G f.2.1 q || tb_kdis G f.1 k) ++ [(k, q, v)]) ((tb_a2 RT κ b.1.toNat).filter (fun r => !(!(cs.2.1.contains r) && tb_pre Z G cs.1 κ b.1.toNat r)) ++ cs.2.1) dl r with
              | true => rfl
              | false =>
                exfalso
                refine hrs ?_
                unfold tb_ns
                exact List.mem_filter.mpr ⟨hin, by rw [hpp]; rfl⟩
            exact tb_rok_ok hz hI hX hD hF hr1 hok hru
          · exact hr1 r ru hru hin
        · cases h
    · cases h
  · cases h
end TY5
