section HXW
/-! what LAMPS are by FAULTS: the tape by twos -/
noncomputable def hx_wt (v t : Nat → Int) : Nat → Bool
  | 0 => true
  | m + 1 => hx_wt v t m && decide (0 ≤ t (2 * m) ∧ t (2 * m) < v 0)
theorem hx_wte (v t : Nat → Int) (m : Nat) : hx_wt v t (m + 1) = (hx_wt v t m && decide (0 ≤ t (2 * m) ∧ t (2 * m) < v 0)) := rfl
noncomputable def hx_wo (v t : Nat → Int) (f : Nat) : Nat → Bool
  | 0 => true
  | m + 1 => hx_wo v t f m && hx_sp v (t (2 * m)) (t (2 * m + 1)) f
theorem hx_woe (v t : Nat → Int) (f m : Nat) : hx_wo v t f (m + 1) = (hx_wo v t f m && hx_sp v (t (2 * m)) (t (2 * m + 1)) f) := rfl
theorem hx_wtS {v t : Nat → Int} {m : Nat} (h1 : hx_wt v t m = true) (h2 : 0 ≤ t (2 * m) ∧ t (2 * m) < v 0) : hx_wt v t (m + 1) = true := by
  rw [hx_wte, h1, decide_eq_true h2]
  rfl
theorem hx_wtN {v t : Nat → Int} {m : Nat} (h2 : ¬ (0 ≤ t (2 * m) ∧ t (2 * m) < v 0)) : ∀ n : Nat, m < n → hx_wt v t n = false
  | 0, h => absurd h (Nat.not_lt_zero m)
  | n + 1, h => by
    by_cases e : m = n
    · rw [hx_wte, ← e, decide_eq_false h2, Bool.and_false]
    · rw [hx_wte, hx_wtN h2 n (by omega), Bool.false_and]
theorem hx_woS {v t : Nat → Int} {f m : Nat} (h1 : hx_wo v t f m = true) (h2 : hx_sp v (t (2 * m)) (t (2 * m + 1)) f = true) : hx_wo v t f (m + 1) = true := by
  rw [hx_woe, h1, h2]
  rfl
theorem hx_woN {v t : Nat → Int} {f m : Nat} (h2 : hx_sp v (t (2 * m)) (t (2 * m + 1)) f = false) : ∀ n : Nat, m < n → hx_wo v t f n = false
  | 0, h => absurd h (Nat.not_lt_zero m)
  | n + 1, h => by
    by_cases e : m = n
    · rw [hx_woe, ← e, h2, Bool.and_false]
    · rw [hx_woe, hx_woN h2 n (by omega), Bool.false_and]
theorem hx_bs1 : ∀ m : Nat, ((hx_bs (fun _ => true) m : Nat) : Int) = 2 ^ m - 1
  | 0 => rfl
  | m + 1 => by
    have ih := hx_bs1 m
    have e : (2 : Int) ^ (m + 1) = 2 ^ m * 2 := Int.pow_succ ..
    have e2 : ((2 ^ m : Nat) : Int) = (2 : Int) ^ m := by push_cast; rfl
    rw [hx_bse, if_pos rfl]
    omega
noncomputable def hx_wa (v t : Nat → Int) (n : Int) : Prop := n % 2 = 0 ∧ 2 ≤ n ∧ n ≤ 12 ∧ hx_wt v t (n / 2).toNat = true
noncomputable def hx_wr (v t : Nat → Int) (n : Int) : Nat := hx_bs (fun f => hx_wo v t f (n / 2).toNat) (v 1).toNat
theorem hx_sp1 {v : Nat → Int} {t l : Int} {j : Nat} (h : v (21 + j) = t) : hx_sp v t l j = decide (v (45 + j) = l) := by
  unfold hx_sp
  rw [if_pos h]
theorem hx_sp2 {v : Nat → Int} {t l : Int} {j : Nat} (h : ¬ v (21 + j) = t) : hx_sp v t l j = decide ((18 : Int) = l) := by
  unfold hx_sp
  rw [if_neg h]
/-- of FAULTS that are there the odds are at least one -/
theorem hx_wq {v nm : Nat → Int} {f : Nat} {s : Nat} (hK : hp_ok v nm) (hf : f < 8) (hs : s < 2 ^ (v 1).toNat) (h : (2 : Int) ^ f ≤ (s : Int)) : 1 ≤ v (37 + f) ∧ v (37 + f) ≤ 99 := by
  have k1 := hK.2.1
  have e2 : ((2 ^ f : Nat) : Int) = (2 : Int) ^ f := by push_cast; rfl
  have hm : f < (v 1).toNat := by
    rcases Nat.lt_or_ge f (v 1).toNat with q | q
    · exact q
    · exfalso
      have := Nat.pow_le_pow_right (n := 2) (by decide) q
      omega
  exact (hK.2.2.2.2.2 f hf (by omega)).2.2.1
end HXW
