section XWL
/-! from the typed machine to the exact one and back -/
theorem xw_vx {al : List (Nat × Nat)} {t : tb_t} {v : Value} (h : tb_vt al t v) : ∃ z : Int, xw_v al t v z ∧ (t.1 = 2 → ∃ j κ a : Nat, z = (j : Int) ∧ al[j]? = some (a, κ) ∧ t.2.1 ≤ (κ : Int) ∧ (κ : Int) ≤ t.2.2) := by
  obtain ⟨k, lo, hi⟩ := t
  match k with
  | 0 => cases v with
    | int x => exact ⟨x.toInt, rfl, fun q => absurd (show (0 : Nat) = 2 from q) (by decide)⟩
    | _ => exact h.elim
  | 1 => cases v with
    | long x => exact ⟨x.toInt, rfl, fun q => absurd (show (1 : Nat) = 2 from q) (by decide)⟩
    | _ => exact h.elim
  | 2 => cases v with
    | ref a =>
      obtain ⟨j, κ, h1, h2, h3⟩ := h
      exact ⟨(j : Int), ⟨j, κ, rfl, h1⟩, fun _ => ⟨j, κ, a, rfl, h1, h2, h3⟩⟩
    | _ => exact h.elim
  | k + 3 => cases v <;> exact h.elim
/-- a memory is read off -/
theorem xw_rdoff {dA : Nat → ClassId} {al : List (Nat × Nat)} {KT : List tb_kd} {w : va_W} (h : tb_wk dA al KT w) : ∃ μ : xw_M, xw_R dA al KT w μ ∧ (∀ (j a κ i : Nat) (k : tb_kd) (lo hi : Int), al[j]? = some (a, κ) → KT[κ]? = some k → tb_ty k i = some (2, lo, hi) → ∃ j' κ' a' : Nat, μ j i = (j' : Int) ∧ al[j']? = some (a', κ') ∧ lo ≤ (κ' : Int) ∧ (κ' : Int) ≤ hi) ∧ ∀ j i : Nat, (∀ (a κ : Nat) (k : tb_kd), al[j]? = some (a, κ) → KT[κ]? = some k → tb_ty k i = none) → μ j i = 0 := by
  have hx : ∀ j i : Nat, ∃ z : Int, (∀ (a κ : Nat) (k : tb_kd) (e : va_E) (t : tb_t) (v : Value), al[j]? = some (a, κ) → KT[κ]? = some k → w[j]? = some (a, e) → tb_ty k i = some t → tb_rd e i = some v → xw_v al t v z ∧ (t.1 = 2 → ∃ j' κ' a' : Nat, z = (j' : Int) ∧ al[j']? = some (a', κ') ∧ t.2.1 ≤ (κ' : Int) ∧ (κ' : Int) ≤ t.2.2)) ∧ ((∀ (a κ : Nat) (k : tb_kd), al[j]? = some (a, κ) → KT[κ]? = some k → tb_ty k i = none) → z = 0) := by
    intro j i
    by_cases hE : ∃ (a κ : Nat) (k : tb_kd) (e : va_E) (t : tb_t) (v : Value), al[j]? = some (a, κ) ∧ KT[κ]? = some k ∧ w[j]? = some (a, e) ∧ tb_ty k i = some t ∧ tb_rd e i = some v
    · obtain ⟨a, κ, k, e, t, v, c1, c2, c3, c4, c5⟩ := hE
      obtain ⟨k', e', d1, d2, d3, d4⟩ := h.2 j a κ c1
      rw [c2] at d1
      cases d1
      rw [c3] at d2
      cases d2
      obtain ⟨v', f1, f2⟩ := d4 i t c4
      rw [c5] at f1
      cases f1
      obtain ⟨z, z1, z2⟩ := xw_vx f2
      refine ⟨z, fun a' κ' k' e' t' v' g1 g2 g3 g4 g5 => ?_, fun hn => ?_⟩
      · rw [c1] at g1
        cases g1
        rw [c2] at g2
        cases g2
        rw [c3] at g3
        cases g3
        rw [c4] at g4
        cases g4
        rw [c5] at g5
        cases g5
        exact ⟨z1, z2⟩
      · rw [hn a κ k c1 c2] at c4
        cases c4
    · exact ⟨0, fun a κ k e t v g1 g2 g3 g4 g5 => absurd ⟨a, κ, k, e, t, v, g1, g2, g3, g4, g5⟩ hE, fun _ => rfl⟩
  refine ⟨fun j i => Classical.choose (hx j i), ⟨h, fun j a κ k e g1 g2 g3 i t v g4 g5 => ((Classical.choose_spec (hx j i)).1 a κ k e t v g1 g2 g3 g4 g5).1⟩, fun j a κ i k lo hi g1 g2 g4 => ?_, fun j i hn => (Classical.choose_spec (hx j i)).2 hn⟩
  obtain ⟨k', e, d1, d2, d3, d4⟩ := h.2 j a κ g1
  rw [g2] at d1
  cases d1
  obtain ⟨v, f1, f2⟩ := d4 i _ g4
  exact ((Classical.choose_spec (hx j i)).1 a κ k e _ v g1 g2 d2 g4 f1).2 rfl
/-- another world, the same but for some slots -/
theorem xw_next {dA : Nat → ClassId} {al : List (Nat × Nat)} {KT : List tb_kd} {w w' : va_W} {μ : xw_M} {mod : List (Nat × Nat × Nat)} (h : xw_R dA al KT w μ) (h' : tb_wk dA al KT w') (hf : ∀ (j a κ : Nat) (e0 e : va_E) (i : Nat), al[j]? = some (a, κ) → w[j]? = some (a, e0) → w'[j]? = some (a, e) → tb_md mod κ i = false → tb_rd e i = tb_rd e0 i) : ∃ μ' : xw_M, xw_R dA al KT w' μ' ∧ ∀ j i : Nat, (∀ a κ : Nat, al[j]? = some (a, κ) → tb_md mod κ i = false) → μ' j i = μ j i := by
  obtain ⟨ν, hν, -, -⟩ := xw_rdoff h'
  have hx : ∀ j i : Nat, ∃ z : Int, ((∀ a κ : Nat, al[j]? = some (a, κ) → tb_md mod κ i = false) → z = μ j i) ∧ (¬ (∀ a κ : Nat, al[j]? = some (a, κ) → tb_md mod κ i = false) → z = ν j i) := by
    intro j i
    by_cases hc : ∀ a κ : Nat, al[j]? = some (a, κ) → tb_md mod κ i = false
    · exact ⟨μ j i, fun _ => rfl, fun q => absurd hc q⟩
    · exact ⟨ν j i, fun q => absurd q hc, fun _ => rfl⟩
  refine ⟨fun j i => Classical.choose (hx j i), ⟨h', fun j a κ k e g1 g2 g3 i t v g4 g5 => ?_⟩, fun j i hq => (Classical.choose_spec (hx j i)).1 hq⟩
  show xw_v al t v (Classical.choose (hx j i))
  by_cases hc : ∀ a κ : Nat, al[j]? = some (a, κ) → tb_md mod κ i = false
  · rw [(Classical.choose_spec (hx j i)).1 hc]
    obtain ⟨k', e0, d1, d2, d3, d4⟩ := h.1.2 j a κ g1
    rw [g2] at d1
    cases d1
    have e1 := hf j a κ e0 e i g1 d2 g3 (hc a κ g1)
    exact h.2 j a κ k e0 g1 g2 d2 i t v g4 (by rw [← e1]; exact g5)
  · rw [(Classical.choose_spec (hx j i)).2 hc]
    exact hν.2 j a κ k e g1 g2 g3 i t v g4 g5
theorem xl_ad {A : Nat → Prop} {w : va_W} {dA : Nat → ClassId} {al : List (Nat × Nat)} {KT : List tb_kd} {μ : xw_M} {j a κ i : Nat} {x : Int32} {k : tb_kd} {lo hi : Int} (hD : va_D A w) (hR : xw_R dA al KT w μ) (hj : al[j]? = some (a, κ)) (hk : KT[κ]? = some k) (ht : tb_ty k i = some (0, lo, hi)) (h : tb_at w a i (.int x)) : x.toInt = μ j i := by
  obtain ⟨e, v, c1, c2, c3, c4, c5⟩ := xw_ld hR hj hk ht
  have e1 : (Value.int x) = v := tb_at_one hD h ⟨j, e, c1, c3⟩
  subst e1
  exact c5
theorem xl_at {dA : Nat → ClassId} {w : va_W} {al : List (Nat × Nat)} {KT : List tb_kd} {μ : xw_M} {j a κ i : Nat} {k : tb_kd} {lo hi : Int} (hR : xw_R dA al KT w μ) (hj : al[j]? = some (a, κ)) (hk : KT[κ]? = some k) (ht : tb_ty k i = some (0, lo, hi)) : tb_at w a i (.int (Int32.ofInt (μ j i))) ∧ lo ≤ μ j i ∧ μ j i ≤ hi := by
  obtain ⟨e, v, c1, c2, c3, c4, c5⟩ := xw_ld hR hj hk ht
  obtain ⟨e1, b1, b2⟩ := xw_int c4 c5
  subst e1
  exact ⟨⟨j, e, c1, c3⟩, b1, b2⟩
/-- rules speak of these slots: all of them numbers, none of them in a list -/
noncomputable def xl_rp (KT : List tb_kd) (ch : List (Nat × Nat × Nat)) (p : tb_p) : Bool := !(tb_md ch p.1 p.2.1) && (match KT[p.1]? with
  | some k => match tb_ty k p.2.1 with
    | some t => Nat.beq t.1 0
    | none => false
  | none => false)
theorem xl_in {dA : Nat → ClassId} {al : List (Nat × Nat)} {KT : List tb_kd} {A A' : Nat → Prop} {w w' : va_W} {μ μ' : xw_M} {ch : List (Nat × Nat × Nat)} {p : tb_p} (hp : xl_rp KT ch p = true) (hD : va_D A w) (hR : xw_R dA al KT w μ) (hR' : xw_R dA al KT w' μ') (hF : ∀ (j a κ i : Nat), al[j]? = some (a, κ) → tb_md ch κ i = false → μ' j i = μ j i) (h : tb_in al w p) : tb_in al w' p := by
  obtain ⟨κ, i, lo, hi⟩ := p
  obtain ⟨j, a, x, c1, c2, c3, c4⟩ := h
  have c1 : al[j]? = some (a, κ) := c1
  have c2 : tb_at w a i (.int x) := c2
  unfold xl_rp at hp
  rw [Bool.and_eq_true] at hp
  obtain ⟨p1, p2⟩ := hp
  have p1 : tb_md ch κ i = false := by
    cases hm : tb_md ch κ i with
    | false => rfl
    | true => rw [show tb_md ch (κ, i, lo, hi).1 (κ, i, lo, hi).2.1 = true from hm] at p1; cases p1
  split at p2
  · rename_i k hk
    split at p2
    · rename_i t ht
      have hk : KT[κ]? = some k := hk
      have ht : tb_ty k i = some t := ht
      obtain ⟨n, b1, b2⟩ := t
      have p2 : n = 0 := Nat.eq_of_beq_eq_true p2
      subst p2
      have e1 := xl_ad hD hR c1 hk ht c2
      obtain ⟨d1, d2, d3⟩ := xl_at hR' c1 hk ht
      have e2 := hF j a κ i c1 p1
      refine ⟨j, a, x, c1, ?_, c3, c4⟩
      rw [e2, ← e1, Int32.ofInt_toInt] at d1
      exact d1
    · cases p2
  · cases p2
theorem xl_rules {dA : Nat → ClassId} {al : List (Nat × Nat)} {KT : List tb_kd} {A A' : Nat → Prop} {w w' : va_W} {μ μ' : xw_M} {ch : List (Nat × Nat × Nat)} {RU : List tb_ru} (hp : RU.all (fun r => xl_rp KT ch r.2 && r.1.all (xl_rp KT ch)) = true) (hD : va_D A w) (hD' : va_D A' w') (hR : xw_R dA al KT w μ) (hR' : xw_R dA al KT w' μ') (hF : ∀ (j a κ i : Nat), al[j]? = some (a, κ) → tb_md ch κ i = false → μ' j i = μ j i) (h : ∀ (i : Nat) (r : tb_ru), RU[i]? = some r → tb_rh al w r) : ∀ (i : Nat) (r : tb_ru), RU[i]? = some r → tb_rh al w' r := by
  intro i r hr hq
  have h1 := List.all_eq_true.mp hp r (List.mem_of_getElem? hr)
  rw [Bool.and_eq_true] at h1
  refine xl_in (A := A) (A' := A') h1.1 hD hR hR' hF (h i r hr (fun p hp9 => ?_))
  exact xl_in (A := A') (A' := A) (List.all_eq_true.mp h1.2 p hp9) hD' hR' hR (fun j a κ i g1 g2 => (hF j a κ i g1 g2).symm) (hq p hp9)
/-- the first memory's references, where a kind has one cell alone -/
theorem xl_one {al : List (Nat × Nat)} {KL : List Nat} (hKL : al.map Prod.snd = KL) {κ j j' a' : Nat} (h1 : ∀ i : Nat, KL[i]? = some κ → i = j) (h : al[j']? = some (a', κ)) : j' = j := by
  refine h1 j' ?_
  rw [← hKL, List.getElem?_map, h]
  rfl
end XWL
