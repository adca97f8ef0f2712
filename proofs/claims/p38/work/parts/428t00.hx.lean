section XWY
variable {p : Program} {l : Launch} {e : Env} {R : Room} {s : State} {m : MethodId} {args : Array Value} {below : List Frame} {meth : Method} {c : Code} {Q : State → Prop} {D : va_G} {dA : Nat → ClassId} {A : Nat → Prop} {nL : Nat} {cl : List vw_C} {KT : List tb_kd} {al : List (Nat × Nat)} {kc ks : Nat} {μ : xw_M} {Ts : List Cond} {cc : ByteArray} {own : String} {pc : Nat} {L : List (Nat × Value)} {st : List Value}
/-! rows of references, rows of yes and no -/
theorem xw_shR {a9 : Nat × Nat × List (Nat × tb_t)} {e : va_E} (h : tb_sh dA (.inr a9) e) (h2 : ¬ a9.1 = 2) (h4 : ¬ a9.1 < 4) : ∃ f : Nat → Option Nat, e = .inl (dA a9.1, a9.2.1, .inr (.inr (.inr (.inr f)))) := by
  unfold tb_sh at h
  dsimp only at h
  rw [if_neg h2, if_neg h4] at h
  exact h
theorem xw_aald (C0 : sa_C p s m args c D dA A nL cl Ts cc own) {j κ n : Nat} {ts : List (Nat × tb_t)} {lo hi i : Int} (j' : Nat) (hd : decode cc pc = .ok (.aaload, 1)) (hj : al[j]? = some (xw_ad al j, κ)) (hk : KT[κ]? = some (.inr (4, n, ts))) (h0 : 0 ≤ i ∧ i < (n : Int)) (hn : n ≤ 2147483647) (ht : tb_rl ts i.toNat = some (2, lo, hi)) (hz : μ j i.toNat = (j' : Int)) (kk : xw_W p l e R s m args below meth c Q D dA A nL cl KT al kc ks μ (pc + 1) L (.ref (xw_ad al j') :: st)) : xw_W p l e R s m args below meth c Q D dA A nL cl KT al kc ks μ pc L (.int (Int32.ofInt i) :: .ref (xw_ad al j) :: st) := by
  intro H locs ls w h1 h2 h3 h4 h5
  obtain ⟨e9, v, c1, c2, c3, c4, c5⟩ := xw_arr (a9 := (4, n, ts)) (i := i.toNat) h4 hj hk (by show i.toNat < n; omega) ht
  rw [hz] at c5
  have hv := xw_ref c4 c5
  subst hv
  obtain ⟨f, rfl⟩ := xw_shR c2 (show ¬ (4 : Nat) = 2 by decide) (show ¬ (4 : Nat) < 4 by decide)
  obtain ⟨i1, i2⟩ := xw_ix (n := n) h0.1 h0.2 (by omega)
  refine va_aldq (D := D) C0.1 C0.2.1 C0.2.2.2.2.2.1 h2 j 4 c1 rfl i1 hd ?_
  rw [i2]
  have c3 : (if i.toNat < n then some (va_rf (f i.toNat)) else none) = some (.ref (xw_ad al j')) := c3
  rw [if_pos (by omega)] at c3
  rw [Option.some.inj c3]
  exact kk H locs ls w h1 h2 h3 h4 h5
theorem xw_zald (C0 : sa_C p s m args c D dA A nL cl Ts cc own) {j κ n : Nat} {ts : List (Nat × tb_t)} {lo hi i z : Int} (hd : decode cc pc = .ok (.baload, 1)) (hj : al[j]? = some (xw_ad al j, κ)) (hk : KT[κ]? = some (.inr (3, n, ts))) (h0 : 0 ≤ i ∧ i < (n : Int)) (hn : n ≤ 2147483647) (ht : tb_rl ts i.toNat = some (0, lo, hi)) (hz : μ j i.toNat = z) (kk : lo ≤ z → z ≤ hi → xw_W p l e R s m args below meth c Q D dA A nL cl KT al kc ks μ (pc + 1) L (.int (Int32.ofInt z) :: st)) : xw_W p l e R s m args below meth c Q D dA A nL cl KT al kc ks μ pc L (.int (Int32.ofInt i) :: .ref (xw_ad al j) :: st) := by
  intro H locs ls w h1 h2 h3 h4 h5
  obtain ⟨e9, v, c1, c2, c3, c4, c5⟩ := xw_arr (a9 := (3, n, ts)) (i := i.toNat) h4 hj hk (by show i.toNat < n; omega) ht
  obtain ⟨rfl, g1, g2⟩ := xw_int c4 c5
  obtain ⟨f, rfl⟩ := xw_shI c2 (show ¬ (3 : Nat) = 2 by decide) (show (3 : Nat) < 4 by decide)
  obtain ⟨i1, i2⟩ := xw_ix (n := n) h0.1 h0.2 (by omega)
  subst hz
  refine va_zald (D := D) C0.1 C0.2.1 C0.2.2.2.2.2.1 h2 j 3 c1 rfl i1 hd ?_
  rw [i2]
  have c3 : (if i.toNat < n then some (Value.int (f i.toNat)) else none) = some (.int (Int32.ofInt (μ j i.toNat))) := c3
  rw [if_pos (by omega)] at c3
  rw [Option.some.inj c3]
  exact kk g1 g2 H locs ls w h1 h2 h3 h4 h5
theorem xw_zast (C0 : sa_C p s m args c D dA A nL cl Ts cc own) {j κ n : Nat} {ts : List (Nat × tb_t)} {lo hi i z : Int} (hd : decode cc pc = .ok (.bastore, 1)) (hj : al[j]? = some (xw_ad al j, κ)) (hk : KT[κ]? = some (.inr (3, n, ts))) (h0 : 0 ≤ i ∧ i < (n : Int)) (hn : n ≤ 2147483647) (ht : tb_rl ts i.toNat = some (0, lo, hi)) (hr : z = 0 ∨ z = 1) (hlo : lo ≤ z ∧ z ≤ hi) (kk : xw_W p l e R s m args below meth c Q D dA A nL cl KT al kc ks (xw_u μ j i.toNat z) (pc + 1) L st) : xw_W p l e R s m args below meth c Q D dA A nL cl KT al kc ks μ pc L (.int (Int32.ofInt z) :: .int (Int32.ofInt i) :: .ref (xw_ad al j) :: st) := by
  intro H locs ls w h1 h2 h3 h4 h5
  obtain ⟨e9, c1, c2⟩ := xw_cell h4 hj hk
  obtain ⟨f, rfl⟩ := xw_shI c2 (show ¬ (3 : Nat) = 2 by decide) (show (3 : Nat) < 4 by decide)
  obtain ⟨i1, i2⟩ := xw_ix (n := n) h0.1 h0.2 (by omega)
  have hnar : vp_nar .boolean (Int32.ofInt z) = Int32.ofInt z := by rcases hr with rfl | rfl <;> rfl
  refine va_zast (D := D) C0.1 C0.2.1 C0.2.2.2.2.2.1 h2 h3 h5 j 3 c1 rfl i1 hd (fun H1 locs1 g1 g2 g3 => ?_)
  rw [i2, hnar] at g1 g2
  refine kk H1 locs1 ls _ h1 g1 g2 (xw_st (k := .inr (3, n, ts)) (v0 := .int (Int32.ofInt z)) h4 hj hk c1 ?_ (fun i' => ?_) (fun t' ht' => ?_)) g3
  · unfold tb_sh
    dsimp only
    rw [if_neg (by decide), if_pos (by decide)]
    exact ⟨_, rfl⟩
  · show (if i' < n then some (Value.int (upd f i.toNat (Int32.ofInt z) i')) else none) = if i' = i.toNat then _ else (if i' < n then some (Value.int (f i')) else none)
    by_cases hi : i' = i.toNat
    · subst hi
      rw [if_pos (by omega), if_pos rfl]
      show some (Value.int (if i.toNat = i.toNat then Int32.ofInt z else f i.toNat)) = _
      rw [if_pos rfl]
    · rw [if_neg hi]
      show (if i' < n then some (Value.int (if i' = i.toNat then Int32.ofInt z else f i')) else none) = _
      rw [if_neg hi]
  · have ht' : (if i.toNat < n then tb_rl ts i.toNat else none) = some t' := ht'
    rw [if_pos (by omega), ht] at ht'
    cases ht'
    exact ⟨show lo ≤ (Int32.ofInt z).toInt ∧ (Int32.ofInt z).toInt ≤ hi by rw [xw_ti (by omega)]; exact hlo, show (Int32.ofInt z).toInt = z from xw_ti (by omega)⟩
theorem xw_Frg {ML : List (Nat × Nat × Nat)} {μ μ' : xw_M} {a b : Nat} (hF : xw_F ML μ μ') (hd : ML.all (fun q => Nat.blt q.1 a || Nat.blt b q.1) = true) : ∀ j i : Nat, a ≤ j → j ≤ b → μ' j i = μ j i := fun j i h1 h2 => hF j i (by
  unfold xw_o
  rw [List.all_eq_true]
  intro q hq
  have h3 := List.all_eq_true.mp hd q hq
  rw [Bool.or_eq_true] at h3
  cases hb : Nat.beq q.1 j with
  | false => rfl
  | true =>
    exfalso
    have e1 := Nat.eq_of_beq_eq_true hb
    rcases h3 with h3 | h3
    · have h4 : q.1 < a := Nat.le_of_ble_eq_true h3
      omega
    · have h4 : b < q.1 := Nat.le_of_ble_eq_true h3
      omega)
theorem xw_oB {ML : List (Nat × Nat × Nat)} {j i a b : Nat} (hd : ML.all (fun q => !(Nat.beq q.1 j) || (Nat.blt b q.2.1 || Nat.blt q.2.2 a)) = true) (h1 : a ≤ i) (h2 : i ≤ b) : xw_o ML j i = true := by
  unfold xw_o
  rw [List.all_eq_true]
  intro q hq
  have h3 := List.all_eq_true.mp hd q hq
  cases e : Nat.beq q.1 j with
  | false => rfl
  | true =>
    rw [e, Bool.not_true, Bool.false_or, Bool.or_eq_true] at h3
    rcases h3 with h3 | h3
    · have h4 : b < q.2.1 := Nat.le_of_ble_eq_true h3
      have h5 : Nat.ble q.2.1 i = false := by
        cases e2 : Nat.ble q.2.1 i with
        | false => rfl
        | true => exact absurd (Nat.le_of_ble_eq_true e2) (by omega)
      rw [h5]
      rfl
    · have h4 : q.2.2 < a := Nat.le_of_ble_eq_true h3
      have h5 : Nat.ble i q.2.2 = false := by
        cases e2 : Nat.ble i q.2.2 with
        | false => rfl
        | true => exact absurd (Nat.le_of_ble_eq_true e2) (by omega)
      rw [h5, Bool.and_false]
      rfl
end XWY
section HXA
/-! what class and reference know of the HOUSE: the House at cell a says what v says -/
noncomputable def hx_E (v : Nat → Int) (a : Nat) (μ : xw_M) : Prop := (μ a 13 = v 0 ∧ μ a 14 = v 1 ∧ μ a 15 = v 2) ∧ (∀ k : Nat, k < 6 → (k : Int) < v 0 → μ (a + 2) k = v (3 + k) ∧ μ (a + 3) k = v (9 + k) ∧ μ (a + 4) k = v (15 + k)) ∧ (∀ k : Nat, k < 8 → (k : Int) < v 1 → μ (a + 9) k = v (21 + k) ∧ μ (a + 10) k = v (29 + k) ∧ μ (a + 11) k = v (37 + k) ∧ μ (a + 12) k = v (45 + k)) ∧ (∀ k : Nat, k < 24 → μ (a + 13) k = v (53 + k))
/-- the House at a says what the one at b said -/
noncomputable def hx_C (a b : Nat) (μ μ' : xw_M) : Prop := (μ' a 13 = μ b 13 ∧ μ' a 14 = μ b 14 ∧ μ' a 15 = μ b 15) ∧ (∀ i : Nat, i < 6 → μ' (a + 1) i = μ (b + 1) i ∧ μ' (a + 2) i = μ (b + 2) i ∧ μ' (a + 3) i = μ (b + 3) i ∧ μ' (a + 4) i = μ (b + 4) i ∧ μ' (a + 5) i = μ (b + 5) i ∧ μ' (a + 6) i = μ (b + 6) i ∧ μ' (a + 7) i = μ (b + 7) i) ∧ (∀ i : Nat, i < 8 → μ' (a + 8) i = μ (b + 8) i ∧ μ' (a + 9) i = μ (b + 9) i ∧ μ' (a + 10) i = μ (b + 10) i ∧ μ' (a + 11) i = μ (b + 11) i ∧ μ' (a + 12) i = μ (b + 12) i) ∧ (∀ i : Nat, i < 24 → μ' (a + 13) i = μ (b + 13) i)
theorem hx_EC {v : Nat → Int} {a b : Nat} {μ μ' : xw_M} (h : hx_E v b μ) (hc : hx_C a b μ μ') : hx_E v a μ' := by
  obtain ⟨⟨h1, h2, h3⟩, h4, h5, h6⟩ := h
  obtain ⟨⟨c1, c2, c3⟩, c4, c5, c6⟩ := hc
  refine ⟨⟨c1.trans h1, c2.trans h2, c3.trans h3⟩, fun k hk hl => ?_, fun k hk hl => ?_, fun k hk => (c6 k hk).trans (h6 k hk)⟩
  · obtain ⟨-, d2, d3, d4, -⟩ := c4 k hk
    obtain ⟨g2, g3, g4⟩ := h4 k hk hl
    exact ⟨d2.trans g2, d3.trans g3, d4.trans g4⟩
  · obtain ⟨-, d2, d3, d4, d5⟩ := c5 k hk
    obtain ⟨g2, g3, g4, g5⟩ := h5 k hk hl
    exact ⟨d2.trans g2, d3.trans g3, d4.trans g4, d5.trans g5⟩
theorem hx_EF {v : Nat → Int} {a : Nat} {μ μ' : xw_M} (h : hx_E v a μ) (f : ∀ j i : Nat, a ≤ j → j ≤ a + 13 → μ' j i = μ j i) : hx_E v a μ' := by
  obtain ⟨⟨h1, h2, h3⟩, h4, h5, h6⟩ := h
  refine ⟨⟨(f a 13 (by omega) (by omega)).trans h1, (f a 14 (by omega) (by omega)).trans h2, (f a 15 (by omega) (by omega)).trans h3⟩, fun k hk hl => ?_, fun k hk hl => ?_, fun k hk => (f (a + 13) k (by omega) (by omega)).trans (h6 k hk)⟩
  · obtain ⟨g2, g3, g4⟩ := h4 k hk hl
    exact ⟨(f (a + 2) k (by omega) (by omega)).trans g2, (f (a + 3) k (by omega) (by omega)).trans g3, (f (a + 4) k (by omega) (by omega)).trans g4⟩
  · obtain ⟨g2, g3, g4, g5⟩ := h5 k hk hl
    exact ⟨(f (a + 9) k (by omega) (by omega)).trans g2, (f (a + 10) k (by omega) (by omega)).trans g3, (f (a + 11) k (by omega) (by omega)).trans g4, (f (a + 12) k (by omega) (by omega)).trans g5⟩
theorem hx_CF {a b : Nat} {μ m m' : xw_M} (h : hx_C a b μ m) (f : ∀ j i : Nat, a ≤ j → j ≤ a + 13 → m' j i = m j i) : hx_C a b μ m' := by
  obtain ⟨⟨h1, h2, h3⟩, h4, h5, h6⟩ := h
  refine ⟨⟨(f a 13 (by omega) (by omega)).trans h1, (f a 14 (by omega) (by omega)).trans h2, (f a 15 (by omega) (by omega)).trans h3⟩, fun k hk => ?_, fun k hk => ?_, fun k hk => (f (a + 13) k (by omega) (by omega)).trans (h6 k hk)⟩
  · obtain ⟨g1, g2, g3, g4, g5, g6, g7⟩ := h4 k hk
    exact ⟨(f (a + 1) k (by omega) (by omega)).trans g1, (f (a + 2) k (by omega) (by omega)).trans g2, (f (a + 3) k (by omega) (by omega)).trans g3, (f (a + 4) k (by omega) (by omega)).trans g4, (f (a + 5) k (by omega) (by omega)).trans g5, (f (a + 6) k (by omega) (by omega)).trans g6, (f (a + 7) k (by omega) (by omega)).trans g7⟩
  · obtain ⟨g1, g2, g3, g4, g5⟩ := h5 k hk
    exact ⟨(f (a + 8) k (by omega) (by omega)).trans g1, (f (a + 9) k (by omega) (by omega)).trans g2, (f (a + 10) k (by omega) (by omega)).trans g3, (f (a + 11) k (by omega) (by omega)).trans g4, (f (a + 12) k (by omega) (by omega)).trans g5⟩
theorem hx_EH {rd nm : Nat → Int} {μ : xw_M} (h : hc_H rd nm μ) : hx_E rd 107 μ := ⟨h.1, fun k hk hl => (h.2.1 k hk hl).2, fun k hk hl => (h.2.2.1 k hk hl).2, h.2.2.2⟩
/-- NAMES: of the House at a, and of the reference's row -/
noncomputable def hx_N (v nm : Nat → Int) (a : Nat) (μ : xw_M) : Prop := (∀ k : Nat, k < 6 → (k : Int) < v 0 → μ (a + 1) k = hp_cv (nm k)) ∧ (∀ k : Nat, k < 8 → (k : Int) < v 1 → μ (a + 8) k = hp_cv (nm (6 + k)))
theorem hx_NC {v nm : Nat → Int} {a b : Nat} {μ μ' : xw_M} (h : hx_N v nm b μ) (hc : hx_C a b μ μ') : hx_N v nm a μ' := ⟨fun k hk hl => ((hc.2.1 k hk).1).trans (h.1 k hk hl), fun k hk hl => ((hc.2.2.1 k hk).1).trans (h.2 k hk hl)⟩
theorem hx_NF {v nm : Nat → Int} {a : Nat} {μ μ' : xw_M} (h : hx_N v nm a μ) (f : ∀ j i : Nat, a ≤ j → j ≤ a + 13 → μ' j i = μ j i) : hx_N v nm a μ' := ⟨fun k hk hl => (f (a + 1) k (by omega) (by omega)).trans (h.1 k hk hl), fun k hk hl => (f (a + 8) k (by omega) (by omega)).trans (h.2 k hk hl)⟩
theorem hx_NH {rd nm : Nat → Int} {μ : xw_M} (h : hc_H rd nm μ) : hx_N rd nm 107 μ := ⟨fun k hk hl => (h.2.1 k hk hl).1, fun k hk hl => (h.2.2.1 k hk hl).1⟩
noncomputable def hx_W (v nm : Nat → Int) (j o : Nat) (μ : xw_M) : Prop := (∀ k : Nat, k < 6 → (k : Int) < v 0 → μ j (k + o) = nm k) ∧ (∀ k : Nat, k < 8 → (k : Int) < v 1 → μ j (6 + k + o) = nm (6 + k))
theorem hx_WF {v nm : Nat → Int} {j o j' o' : Nat} {μ μ' : xw_M} (h : hx_W v nm j o μ) (f : ∀ k : Nat, k < 14 → μ' j' (k + o') = μ j (k + o)) : hx_W v nm j' o' μ' := ⟨fun k hk hl => (f k (by omega)).trans (h.1 k hk hl), fun k hk hl => (f (6 + k) (by omega)).trans (h.2 k hk hl)⟩
/-- the House at a and the reference's row j, from o on, say the same -/
noncomputable def hx_V (j o jn on a : Nat) (μ : xw_M) : Prop := ∃ v nm : Nat → Int, hp_ok v nm ∧ (∀ k : Nat, k < 77 → μ j (k + o) = v k) ∧ hx_E v a μ ∧ hx_N v nm a μ ∧ hx_W v nm jn on μ
noncomputable def hx_P (μ : xw_M) : Prop := hx_V 202 0 207 0 4 μ ∧ (μ 146 3 = μ 210 0 ∧ (μ 210 0 = 1 → hx_V 204 0 209 0 147 μ)) ∧ (μ 173 3 = μ 210 1 ∧ (μ 210 1 = 1 → hx_V 204 379 209 14 174 μ))
theorem hx_VF {j o jn on a : Nat} {μ μ' : xw_M} (h : hx_V j o jn on a μ) (f1 : ∀ k : Nat, k < 77 → μ' j (k + o) = μ j (k + o)) (f2 : ∀ j' i : Nat, a ≤ j' → j' ≤ a + 13 → μ' j' i = μ j' i) (f3 : ∀ k : Nat, k < 14 → μ' jn (k + on) = μ jn (k + on)) : hx_V j o jn on a μ' := by
  obtain ⟨v, nm, h1, h2, h3, h4, h5⟩ := h
  exact ⟨v, nm, h1, fun k hk => (f1 k hk).trans (h2 k hk), hx_EF h3 f2, hx_NF h4 f2, hx_WF h5 f3⟩
theorem hx_PF {μ μ' : xw_M} (h : hx_P μ) (f1 : ∀ k : Nat, k < 77 → μ' 202 k = μ 202 k) (f2 : ∀ k : Nat, k < 77 → μ' 204 k = μ 204 k) (f3 : ∀ k : Nat, k < 77 → μ' 204 (k + 379) = μ 204 (k + 379)) (f4 : ∀ j i : Nat, 4 ≤ j → j ≤ 17 → μ' j i = μ j i) (f5 : ∀ j i : Nat, 147 ≤ j → j ≤ 160 → μ' j i = μ j i) (f6 : ∀ j i : Nat, 174 ≤ j → j ≤ 187 → μ' j i = μ j i) (f8 : ∀ k : Nat, k < 14 → μ' 207 k = μ 207 k) (f9 : ∀ k : Nat, k < 14 → μ' 209 k = μ 209 k) (f10 : ∀ k : Nat, k < 14 → μ' 209 (k + 14) = μ 209 (k + 14)) (f7 : μ' 146 3 = μ 146 3 ∧ μ' 173 3 = μ 173 3 ∧ μ' 210 0 = μ 210 0 ∧ μ' 210 1 = μ 210 1) : hx_P μ' := by
  obtain ⟨h1, ⟨h2, h3⟩, h4, h5⟩ := h
  obtain ⟨g1, g2, g3, g4⟩ := f7
  refine ⟨hx_VF h1 f1 f4 f8, ⟨by rw [g1, g3]; exact h2, fun q => hx_VF (h3 (by rw [← g3]; exact q)) f2 f5 f9⟩, by rw [g2, g4]; exact h4, fun q => hx_VF (h5 (by rw [← g4]; exact q)) f3 f6 f10⟩
/-- a frame that touches none of it -/
noncomputable def hx_fr (ML : List (Nat × Nat × Nat)) : Bool := ML.all (fun q => (!(Nat.beq q.1 207) && !(Nat.beq q.1 209)) && ((Nat.blt q.1 4 || Nat.blt 17 q.1) && ((Nat.blt q.1 147 || Nat.blt 160 q.1) && ((Nat.blt q.1 174 || Nat.blt 187 q.1) && (!(Nat.beq q.1 204) && (!(Nat.beq q.1 146 && (Nat.ble q.2.1 3 && Nat.ble 3 q.2.2)) && (!(Nat.beq q.1 173 && (Nat.ble q.2.1 3 && Nat.ble 3 q.2.2)) && (!(Nat.beq q.1 210) && !(Nat.beq q.1 202 && Nat.blt q.2.1 77)))))))))
theorem hx_Pf {ML : List (Nat × Nat × Nat)} {μ μ' : xw_M} (h : hx_P μ) (hF : xw_F ML μ μ') (hd : hx_fr ML = true) : hx_P μ' := by
  unfold hx_fr at hd
  rw [List.all_eq_true] at hd
  simp only [Bool.and_eq_true, Bool.or_eq_true] at hd
  have cell : ∀ j : Nat, (∀ q ∈ ML, Nat.beq q.1 j = false) → ∀ i : Nat, μ' j i = μ j i := fun j hj i => hF j i (by
    unfold xw_o
    rw [List.all_eq_true]
    intro q hq
    rw [hj q hq]
    rfl)
  have hb : ∀ (x j : Nat), (¬ x = j) → Nat.beq x j = false := fun x j hn => by
    cases e : Nat.beq x j with
    | false => rfl
    | true => exact absurd (Nat.eq_of_beq_eq_true e) hn
  have hl : ∀ x y : Nat, Nat.blt x y = true → x < y := fun x y q => Nat.le_of_ble_eq_true q
  have nt : ∀ b : Bool, (!b) = true → b = false := fun b q => by cases b <;> first | rfl | cases q
  refine hx_PF h (fun k hk => hF 202 k ?_) (fun k _ => cell 204 (fun q hq => nt _ (hd q hq).2.2.2.2.1) k) (fun k _ => cell 204 (fun q hq => nt _ (hd q hq).2.2.2.2.1) _) (fun j i h1 h2 => cell j (fun q hq => hb _ _ (fun e => ?_)) i) (fun j i h1 h2 => cell j (fun q hq => hb _ _ (fun e => ?_)) i) (fun j i h1 h2 => cell j (fun q hq => hb _ _ (fun e => ?_)) i) (fun k _ => cell 207 (fun q hq => nt _ (hd q hq).1.1) k) (fun k _ => cell 209 (fun q hq => nt _ (hd q hq).1.2) k) (fun k _ => cell 209 (fun q hq => nt _ (hd q hq).1.2) _) ⟨hF 146 3 ?_, hF 173 3 ?_, cell 210 (fun q hq => nt _ (hd q hq).2.2.2.2.2.2.2.1) 0, cell 210 (fun q hq => nt _ (hd q hq).2.2.2.2.2.2.2.1) 1⟩
  · unfold xw_o
    rw [List.all_eq_true]
    intro q hq
    have h9 := nt _ (hd q hq).2.2.2.2.2.2.2.2
    cases e : Nat.beq q.1 202 with
    | false => rfl
    | true =>
      rw [e, Bool.true_and] at h9
      have e2 : Nat.ble q.2.1 k = false := by
        cases e3 : Nat.ble q.2.1 k with
        | false => rfl
        | true =>
          have e4 := Nat.le_of_ble_eq_true e3
          have e5 : Nat.blt q.2.1 77 = true := Nat.ble_eq.mpr (show q.2.1 + 1 ≤ 77 by omega)
          rw [e5] at h9
          cases h9
      rw [e2]
      rfl
  · have h9 := (hd q hq).2.1
    rcases h9 with h9 | h9
    · have := hl _ _ h9
      omega
    · have := hl _ _ h9
      omega
  · have h9 := (hd q hq).2.2.1
    rcases h9 with h9 | h9
    · have := hl _ _ h9
      omega
    · have := hl _ _ h9
      omega
  · have h9 := (hd q hq).2.2.2.1
    rcases h9 with h9 | h9
    · have := hl _ _ h9
      omega
    · have := hl _ _ h9
      omega
  · unfold xw_o
    rw [List.all_eq_true]
    intro q hq
    exact (hd q hq).2.2.2.2.2.1
  · unfold xw_o
    rw [List.all_eq_true]
    intro q hq
    exact (hd q hq).2.2.2.2.2.2.1
/-- behind house: told anew, or as it was -/
theorem hx_Ph {ML : List (Nat × Nat × Nat)} {μ μ' : xw_M} (h : hx_P μ) (hF : xw_F ML μ μ') (hd : ML.all (fun q => !(Nat.beq q.1 209) && ((Nat.blt q.1 147 || Nat.blt 160 q.1) && ((Nat.blt q.1 174 || Nat.blt 187 q.1) && (!(Nat.beq q.1 204) && (!(Nat.beq q.1 146) && (!(Nat.beq q.1 173) && !(Nat.beq q.1 210))))))) = true) (hn : hx_V 202 0 207 0 4 μ') : hx_P μ' := by
  rw [List.all_eq_true] at hd
  simp only [Bool.and_eq_true, Bool.or_eq_true] at hd
  have cell : ∀ j : Nat, (∀ q ∈ ML, Nat.beq q.1 j = false) → ∀ i : Nat, μ' j i = μ j i := fun j hj i => hF j i (by
    unfold xw_o
    rw [List.all_eq_true]
    intro q hq
    rw [hj q hq]
    rfl)
  have hb : ∀ (x j : Nat), (¬ x = j) → Nat.beq x j = false := fun x j hn => by
    cases e : Nat.beq x j with
    | false => rfl
    | true => exact absurd (Nat.eq_of_beq_eq_true e) hn
  have hl : ∀ x y : Nat, Nat.blt x y = true → x < y := fun x y q => Nat.le_of_ble_eq_true q
  have nt : ∀ b : Bool, (!b) = true → b = false := fun b q => by cases b <;> first | rfl | cases q
  obtain ⟨-, ⟨h2, h3⟩, h4, h5⟩ := h
  have c1 := cell 146 (fun q hq => nt _ (hd q hq).2.2.2.2.1) 3
  have c2 := cell 173 (fun q hq => nt _ (hd q hq).2.2.2.2.2.1) 3
  have c3 := cell 210 (fun q hq => nt _ (hd q hq).2.2.2.2.2.2)
  have c4 := cell 204 (fun q hq => nt _ (hd q hq).2.2.2.1)
  have c9 := cell 209 (fun q hq => nt _ (hd q hq).1)
  have c5 : ∀ j i : Nat, 147 ≤ j → j ≤ 160 → μ' j i = μ j i := fun j i h1 h2 => cell j (fun q hq => hb _ _ (fun e => by
    rcases (hd q hq).2.1 with h9 | h9
    · have := hl _ _ h9
      omega
    · have := hl _ _ h9
      omega)) i
  have c6 : ∀ j i : Nat, 174 ≤ j → j ≤ 187 → μ' j i = μ j i := fun j i h1 h2 => cell j (fun q hq => hb _ _ (fun e => by
    rcases (hd q hq).2.2.1 with h9 | h9
    · have := hl _ _ h9
      omega
    · have := hl _ _ h9
      omega)) i
  refine ⟨hn, ⟨by rw [c1, c3]; exact h2, fun q => hx_VF (h3 (by rw [← c3 0]; exact q)) (fun k _ => c4 _) c5 (fun k _ => c9 _)⟩, by rw [c2, c3]; exact h4, fun q => hx_VF (h5 (by rw [← c3 1]; exact q)) (fun k _ => c4 _) c6 (fun k _ => c9 _)⟩
/-- behind image of one place, and behind restore -/
theorem hx_VC {j o jn on a j' o' jn' on' a' : Nat} {μ μ' : xw_M} (h : hx_V j o jn on a μ) (f : ∀ k : Nat, k < 77 → μ' j' (k + o') = μ j (k + o)) (fn : ∀ k : Nat, k < 14 → μ' jn' (k + on') = μ jn (k + on)) (hc : hx_C a' a μ μ') : hx_V j' o' jn' on' a' μ' := by
  obtain ⟨v, nm, h1, h2, h3, h4, h5⟩ := h
  exact ⟨v, nm, h1, fun k hk => (f k hk).trans (h2 k hk), hx_EC h3 hc, hx_NC h4 hc, hx_WF h5 fn⟩
end HXA
