section HPA
/-! a text, TOKEN by TOKEN: t the bytes, n how many, lim the most told -/
noncomputable def hp_ru (P : Nat → Bool) (n : Nat) : Nat → Nat → Nat
  | 0, p => p
  | k + 1, p => if p < n ∧ P p = true then hp_ru P n k (p + 1) else p
noncomputable def hp_sc (P : Nat → Bool) (n p : Nat) : Nat := hp_ru P n (n - p) p
theorem hp_sc1 {P : Nat → Bool} {n p : Nat} (h : p < n) (hP : P p = true) : hp_sc P n p = hp_sc P n (p + 1) := by
  unfold hp_sc
  obtain ⟨k, hk⟩ : ∃ k, n - p = k + 1 := ⟨n - p - 1, by omega⟩
  rw [hk, show n - (p + 1) = k by omega]
  show (if p < n ∧ P p = true then hp_ru P n k (p + 1) else p) = _
  rw [if_pos ⟨h, hP⟩]
theorem hp_sc0 {P : Nat → Bool} {n p : Nat} (h : ¬ (p < n ∧ P p = true)) : hp_sc P n p = p := by
  unfold hp_sc
  cases n - p with
  | zero => rfl
  | succ k =>
    show (if p < n ∧ P p = true then hp_ru P n k (p + 1) else p) = p
    rw [if_neg h]
theorem hp_ruge {P : Nat → Bool} {n : Nat} : ∀ k p : Nat, p ≤ hp_ru P n k p
  | 0, p => Nat.le_refl p
  | k + 1, p => by
    show p ≤ (if p < n ∧ P p = true then hp_ru P n k (p + 1) else p)
    split
    · exact Nat.le_of_succ_le (hp_ruge k (p + 1))
    · exact Nat.le_refl p
theorem hp_rule {P : Nat → Bool} {n : Nat} : ∀ k p : Nat, p ≤ n → hp_ru P n k p ≤ n
  | 0, p, h => h
  | k + 1, p, h => by
    show (if p < n ∧ P p = true then hp_ru P n k (p + 1) else p) ≤ n
    split
    · rename_i q
      exact hp_rule k (p + 1) q.1
    · exact h
noncomputable def hp_bl (t : Nat → Int) (i : Nat) : Bool := decide (t i = 32 ∨ t i = 10)
noncomputable def hp_al (t : Nat → Int) (i : Nat) : Bool := decide ((97 ≤ t i ∧ t i ≤ 122) ∨ (48 ≤ t i ∧ t i ≤ 57))
/-- behind the blanks; behind the letters and digits -/
noncomputable def hp_i (t : Nat → Int) (n p : Nat) : Nat := hp_sc (hp_bl t) n p
noncomputable def hp_e (t : Nat → Int) (n p : Nat) : Nat := hp_sc (hp_al t) n p
theorem hp_i1 {t : Nat → Int} {n p : Nat} (h : p < n) (hP : t p = 32 ∨ t p = 10) : hp_i t n p = hp_i t n (p + 1) := hp_sc1 h (decide_eq_true hP)
theorem hp_i0 {t : Nat → Int} {n p : Nat} (h : ¬ (p < n ∧ (t p = 32 ∨ t p = 10))) : hp_i t n p = p := hp_sc0 (fun q => h ⟨q.1, of_decide_eq_true q.2⟩)
theorem hp_e1 {t : Nat → Int} {n p : Nat} (h : p < n) (hP : (97 ≤ t p ∧ t p ≤ 122) ∨ (48 ≤ t p ∧ t p ≤ 57)) : hp_e t n p = hp_e t n (p + 1) := hp_sc1 h (decide_eq_true hP)
theorem hp_e0 {t : Nat → Int} {n p : Nat} (h : ¬ (p < n ∧ ((97 ≤ t p ∧ t p ≤ 122) ∨ (48 ≤ t p ∧ t p ≤ 57)))) : hp_e t n p = p := hp_sc0 (fun q => h ⟨q.1, of_decide_eq_true q.2⟩)
theorem hp_ib {t : Nat → Int} {n p : Nat} (h : p ≤ n) : p ≤ hp_i t n p ∧ hp_i t n p ≤ n := ⟨hp_ruge _ _, hp_rule _ _ h⟩
theorem hp_eb {t : Nat → Int} {n p : Nat} (h : p ≤ n) : p ≤ hp_e t n p ∧ hp_e t n p ≤ n := ⟨hp_ruge _ _, hp_rule _ _ h⟩
/-- of the k bytes from i on: how many digits; the WORD by 27; the NUMBER -/
noncomputable def hp_dg (t : Nat → Int) (i : Nat) : Nat → Nat
  | 0 => 0
  | k + 1 => hp_dg t i k + (if 48 ≤ t (i + k) ∧ t (i + k) ≤ 57 then 1 else 0)
noncomputable def hp_lr (t : Nat → Int) (i : Nat) : Nat → Int
  | 0 => 0
  | k + 1 => 27 * hp_lr t i k + t (i + k) - 96
noncomputable def hp_nf (t : Nat → Int) (i : Nat) : Nat → Int
  | 0 => 0
  | k + 1 => 10 * hp_nf t i k + t (i + k) - 48
theorem hp_dgle {t : Nat → Int} {i : Nat} : ∀ k : Nat, hp_dg t i k ≤ k
  | 0 => Nat.le_refl 0
  | k + 1 => by
    have h := hp_dgle (t := t) (i := i) k
    show hp_dg t i k + (if 48 ≤ t (i + k) ∧ t (i + k) ≤ 57 then 1 else 0) ≤ k + 1
    split <;> omega
theorem hp_dg1 {t : Nat → Int} {i k : Nat} (h : 48 ≤ t (i + k) ∧ t (i + k) ≤ 57) : hp_dg t i (k + 1) = hp_dg t i k + 1 := by
  show hp_dg t i k + (if 48 ≤ t (i + k) ∧ t (i + k) ≤ 57 then 1 else 0) = _
  rw [if_pos h]
theorem hp_dg0 {t : Nat → Int} {i k : Nat} (h : ¬ (48 ≤ t (i + k) ∧ t (i + k) ≤ 57)) : hp_dg t i (k + 1) = hp_dg t i k := by
  show hp_dg t i k + (if 48 ≤ t (i + k) ∧ t (i + k) ≤ 57 then 1 else 0) = _
  rw [if_neg h, Nat.add_zero]
/-- the TOKEN behind p: its first byte, how many, sort, place, what follows, what it is -/
noncomputable def hp_n (t : Nat → Int) (n p : Nat) : Nat := hp_e t n (hp_i t n p) - hp_i t n p
noncomputable def hp_rk (t : Nat → Int) (i k : Nat) : Int := if hp_dg t i k = k ∧ k ≤ 3 then 3 else if hp_dg t i k = 0 ∧ k ≤ 7 then 2 else 1
noncomputable def hp_k (t : Nat → Int) (n lim p : Nat) : Int := if lim < n ∧ lim ≤ hp_i t n p then 1 else if n ≤ hp_i t n p then 0 else if (97 ≤ t (hp_i t n p) ∧ t (hp_i t n p) ≤ 122) ∨ (48 ≤ t (hp_i t n p) ∧ t (hp_i t n p) ≤ 57) then hp_rk t (hp_i t n p) (hp_n t n p) else if t (hp_i t n p) = 59 ∨ t (hp_i t n p) = 60 ∨ t (hp_i t n p) = 61 ∨ t (hp_i t n p) = 62 ∨ t (hp_i t n p) = 40 ∨ t (hp_i t n p) = 41 then 4 else 1
noncomputable def hp_pl (t : Nat → Int) (n lim p : Nat) : Nat := if lim < n ∧ lim ≤ hp_i t n p then lim else hp_i t n p
noncomputable def hp_x (t : Nat → Int) (n p : Nat) : Nat := if (97 ≤ t (hp_i t n p) ∧ t (hp_i t n p) ≤ 122) ∨ (48 ≤ t (hp_i t n p) ∧ t (hp_i t n p) ≤ 57) then hp_e t n (hp_i t n p) else hp_i t n p + 1
noncomputable def hp_w (t : Nat → Int) (n p : Nat) : Int := hp_lr t (hp_i t n p) (hp_n t n p)
noncomputable def hp_u (t : Nat → Int) (n p : Nat) : Int := hp_nf t (hp_i t n p) (hp_n t n p)
noncomputable def hp_s (t : Nat → Int) (n p : Nat) : Int := t (hp_i t n p)
theorem hp_rkb (t : Nat → Int) (i k : Nat) : 1 ≤ hp_rk t i k ∧ hp_rk t i k ≤ 3 := by
  unfold hp_rk
  split
  · omega
  · split <;> omega
theorem hp_kb (t : Nat → Int) (n lim p : Nat) : 0 ≤ hp_k t n lim p ∧ hp_k t n lim p ≤ 4 := by
  have h := hp_rkb t (hp_i t n p) (hp_n t n p)
  unfold hp_k
  split
  · omega
  · split
    · omega
    · split
      · omega
      · split <;> omega
/-- the sort, case by case -/
theorem hp_kA {t : Nat → Int} {n lim p : Nat} (h : lim < n ∧ lim ≤ hp_i t n p) : hp_k t n lim p = 1 ∧ hp_pl t n lim p = lim := ⟨if_pos h, if_pos h⟩
theorem hp_kB {t : Nat → Int} {n lim p : Nat} (h : ¬ (lim < n ∧ lim ≤ hp_i t n p)) (h2 : n ≤ hp_i t n p) : hp_k t n lim p = 0 ∧ hp_pl t n lim p = hp_i t n p := by
  refine ⟨?_, if_neg h⟩
  unfold hp_k
  rw [if_neg h, if_pos h2]
theorem hp_kC {t : Nat → Int} {n lim p : Nat} (h : ¬ (lim < n ∧ lim ≤ hp_i t n p)) (h2 : ¬ n ≤ hp_i t n p) (h3 : (97 ≤ t (hp_i t n p) ∧ t (hp_i t n p) ≤ 122) ∨ (48 ≤ t (hp_i t n p) ∧ t (hp_i t n p) ≤ 57)) : hp_k t n lim p = hp_rk t (hp_i t n p) (hp_n t n p) ∧ hp_pl t n lim p = hp_i t n p ∧ hp_x t n p = hp_e t n (hp_i t n p) := by
  refine ⟨?_, if_neg h, if_pos h3⟩
  unfold hp_k
  rw [if_neg h, if_neg h2, if_pos h3]
theorem hp_kD {t : Nat → Int} {n lim p : Nat} (h : ¬ (lim < n ∧ lim ≤ hp_i t n p)) (h2 : ¬ n ≤ hp_i t n p) (h3 : ¬ ((97 ≤ t (hp_i t n p) ∧ t (hp_i t n p) ≤ 122) ∨ (48 ≤ t (hp_i t n p) ∧ t (hp_i t n p) ≤ 57))) (h4 : t (hp_i t n p) = 59 ∨ t (hp_i t n p) = 60 ∨ t (hp_i t n p) = 61 ∨ t (hp_i t n p) = 62 ∨ t (hp_i t n p) = 40 ∨ t (hp_i t n p) = 41) : hp_k t n lim p = 4 ∧ hp_pl t n lim p = hp_i t n p ∧ hp_x t n p = hp_i t n p + 1 := by
  refine ⟨?_, if_neg h, if_neg h3⟩
  unfold hp_k
  rw [if_neg h, if_neg h2, if_neg h3, if_pos h4]
theorem hp_kE {t : Nat → Int} {n lim p : Nat} (h : ¬ (lim < n ∧ lim ≤ hp_i t n p)) (h2 : ¬ n ≤ hp_i t n p) (h3 : ¬ ((97 ≤ t (hp_i t n p) ∧ t (hp_i t n p) ≤ 122) ∨ (48 ≤ t (hp_i t n p) ∧ t (hp_i t n p) ≤ 57))) (h4 : ¬ (t (hp_i t n p) = 59 ∨ t (hp_i t n p) = 60 ∨ t (hp_i t n p) = 61 ∨ t (hp_i t n p) = 62 ∨ t (hp_i t n p) = 40 ∨ t (hp_i t n p) = 41)) : hp_k t n lim p = 1 ∧ hp_pl t n lim p = hp_i t n p := by
  refine ⟨?_, if_neg h⟩
  unfold hp_k
  rw [if_neg h, if_neg h2, if_neg h3, if_neg h4]
theorem hp_k2r {t : Nat → Int} {i k : Nat} (h : hp_rk t i k = 2) : hp_dg t i k = 0 ∧ k ≤ 7 := by
  unfold hp_rk at h
  split at h
  · omega
  · split at h
    · assumption
    · omega
theorem hp_k3r {t : Nat → Int} {i k : Nat} (h : hp_rk t i k = 3) : hp_dg t i k = k ∧ k ≤ 3 := by
  unfold hp_rk at h
  split at h
  · assumption
  · split at h <;> omega
theorem hp_plb {t : Nat → Int} {n lim p : Nat} (h : p ≤ n) : hp_pl t n lim p ≤ n := by
  have := hp_ib (t := t) h
  unfold hp_pl
  split <;> omega
theorem hp_xb {t : Nat → Int} {n lim p : Nat} (h : p ≤ n) (hk : 2 ≤ hp_k t n lim p) : hp_x t n p ≤ n := by
  have h1 := hp_ib (t := t) h
  have h2 := hp_eb (t := t) (n := n) (p := hp_i t n p) h1.2
  have h3 : ¬ n ≤ hp_i t n p := by
    intro q
    unfold hp_k at hk
    by_cases h9 : lim < n ∧ lim ≤ hp_i t n p
    · rw [if_pos h9] at hk
      omega
    · rw [if_neg h9, if_pos q] at hk
      omega
  unfold hp_x
  split <;> omega
/-! the class's WORDS by 256 -/
noncomputable def hp_cf : Nat → Nat → Int
  | 0, _ => 0
  | k + 1, v => if v = 0 then 0 else 256 * hp_cf k (v / 27) + 96 + ((v % 27 : Nat) : Int)
noncomputable def hp_cv (v : Int) : Int := hp_cf 8 v.toNat
theorem hp_cf1 (k v : Nat) : hp_cf (k + 1) v = (if v = 0 then 0 else 256 * hp_cf k (v / 27) + 96 + ((v % 27 : Nat) : Int)) := rfl
theorem hp_cfn : ∀ k v : Nat, 0 ≤ hp_cf k v
  | 0, _ => Int.le_refl 0
  | k + 1, v => by
    have h := hp_cfn k (v / 27)
    rw [hp_cf1]
    split <;> omega
theorem hp_dv {k v : Nat} (h : v < 27 ^ (k + 1)) : v / 27 < 27 ^ k := Nat.div_lt_of_lt_mul (by rw [Nat.pow_succ, Nat.mul_comm] at h; exact h)
theorem hp_cfS : ∀ k v : Nat, v < 27 ^ k → hp_cf (k + 1) v = hp_cf k v
  | 0, v, h => by
    have h : v < 1 := h
    have e : v = 0 := by omega
    subst e
    rfl
  | k + 1, v, h => by
    rw [hp_cf1 (k + 1) v, hp_cf1 k v, hp_cfS k (v / 27) (hp_dv h)]
theorem hp_cfi : ∀ k a b : Nat, a < 27 ^ k → b < 27 ^ k → hp_cf k a = hp_cf k b → a = b
  | 0, a, b, ha, hb, _ => by
    have ha : a < 1 := ha
    have hb : b < 1 := hb
    omega
  | k + 1, a, b, ha, hb, h => by
    have h1 := hp_cfn k (a / 27)
    have h2 := hp_cfn k (b / 27)
    rw [hp_cf1, hp_cf1] at h
    by_cases ha0 : a = 0
    · by_cases hb0 : b = 0
      · omega
      · rw [if_pos ha0, if_neg hb0] at h
        omega
    · by_cases hb0 : b = 0
      · rw [if_neg ha0, if_pos hb0] at h
        omega
      · rw [if_neg ha0, if_neg hb0] at h
        have h4 := hp_cfi k (a / 27) (b / 27) (hp_dv ha) (hp_dv hb) (by omega)
        omega
theorem hp_p7 : (27 : Nat) ^ 7 = 10460353203 := by decide
theorem hp_p8 : (27 : Nat) ^ 8 = 282429536481 := by decide
theorem hp_cvi {a b : Int} (ha : 0 ≤ a ∧ a < 10460353203) (hb : 0 ≤ b ∧ b < 10460353203) : hp_cv a = hp_cv b ↔ a = b := by
  refine ⟨fun h => ?_, fun h => by rw [h]⟩
  have h1 := hp_cfi 8 a.toNat b.toNat (by rw [hp_p8]; omega) (by rw [hp_p8]; omega) h
  omega
theorem hp_cvs {v b : Int} (hv : 0 ≤ v ∧ v < 10460353203) (hb : 97 ≤ b ∧ b ≤ 122) : hp_cv (27 * v + b - 96) = 256 * hp_cv v + b := by
  unfold hp_cv
  have e1 : (27 * v + b - 96).toNat = 27 * v.toNat + (b - 96).toNat := by omega
  have e2 : (27 * v.toNat + (b - 96).toNat) / 27 = v.toNat := by omega
  have e3 : (27 * v.toNat + (b - 96).toNat) % 27 = (b - 96).toNat := by omega
  have e4 : ¬ 27 * v.toNat + (b - 96).toNat = 0 := by omega
  have e5 : hp_cf 8 v.toNat = hp_cf 7 v.toNat := hp_cfS 7 _ (by rw [hp_p7]; omega)
  rw [e1, hp_cf1 7, if_neg e4, e2, e3, e5]
  omega
theorem hp_lr1 (t : Nat → Int) (i k : Nat) : hp_lr t i (k + 1) = 27 * hp_lr t i k + t (i + k) - 96 := rfl
theorem hp_nf1 (t : Nat → Int) (i k : Nat) : hp_nf t i (k + 1) = 10 * hp_nf t i k + t (i + k) - 48 := rfl
/-- k letters: below 27 to the k -/
theorem hp_lrb {t : Nat → Int} {i : Nat} : ∀ k : Nat, (∀ q : Nat, q < k → 97 ≤ t (i + q) ∧ t (i + q) ≤ 122) → 0 ≤ hp_lr t i k ∧ hp_lr t i k < ((27 ^ k : Nat) : Int)
  | 0, _ => ⟨Int.le_refl 0, by show (0 : Int) < ((1 : Nat) : Int); decide⟩
  | k + 1, h => by
    have h1 := hp_lrb k (fun q hq => h q (by omega))
    have h2 := h k (by omega)
    rw [hp_lr1, Nat.pow_succ]
    generalize hp_lr t i k = x at h1
    generalize 27 ^ k = y at h1
    omega
theorem hp_lrb7 {t : Nat → Int} {i k : Nat} (hk : k ≤ 7) (h : ∀ q : Nat, q < k → 97 ≤ t (i + q) ∧ t (i + q) ≤ 122) : 0 ≤ hp_lr t i k ∧ hp_lr t i k < 10460353203 := by
  have h1 := hp_lrb k h
  have h2 : 27 ^ k ≤ 27 ^ 7 := Nat.pow_le_pow_right (by decide) hk
  rw [hp_p7] at h2
  omega
/-- within a run -/
theorem hp_run {P : Nat → Bool} {n : Nat} : ∀ (k p q : Nat), p ≤ q → q < hp_ru P n k p → q < n ∧ P q = true
  | 0, p, q, h1, h2 => by
    have h2 : q < p := h2
    omega
  | k + 1, p, q, h1, h2 => by
    have h2 : q < (if p < n ∧ P p = true then hp_ru P n k (p + 1) else p) := h2
    by_cases hc : p < n ∧ P p = true
    · rw [if_pos hc] at h2
      by_cases hq : q = p
      · subst hq
        exact hc
      · exact hp_run k (p + 1) q (by omega) h2
    · rw [if_neg hc] at h2
      omega
theorem hp_erun {t : Nat → Int} {n p q : Nat} (h1 : p ≤ q) (h2 : q < hp_e t n p) : q < n ∧ ((97 ≤ t q ∧ t q ≤ 122) ∨ (48 ≤ t q ∧ t q ≤ 57)) := by
  have h := hp_run _ _ _ h1 h2
  exact ⟨h.1, of_decide_eq_true h.2⟩
theorem hp_dg0a {t : Nat → Int} {i : Nat} : ∀ k : Nat, hp_dg t i k = 0 → ∀ q : Nat, q < k → ¬ (48 ≤ t (i + q) ∧ t (i + q) ≤ 57)
  | 0, _, q, hq => absurd hq (Nat.not_lt_zero q)
  | k + 1, h, q, hq => by
    have h1 : hp_dg t i k + (if 48 ≤ t (i + k) ∧ t (i + k) ≤ 57 then 1 else 0) = 0 := h
    by_cases hc : 48 ≤ t (i + k) ∧ t (i + k) ≤ 57
    · rw [if_pos hc] at h1
      omega
    · rw [if_neg hc] at h1
      by_cases e : q = k
      · subst e
        exact hc
      · exact hp_dg0a k (by omega) q (by omega)
theorem hp_dgfa {t : Nat → Int} {i : Nat} : ∀ k : Nat, hp_dg t i k = k → ∀ q : Nat, q < k → 48 ≤ t (i + q) ∧ t (i + q) ≤ 57
  | 0, _, q, hq => absurd hq (Nat.not_lt_zero q)
  | k + 1, h, q, hq => by
    have h1 : hp_dg t i k + (if 48 ≤ t (i + k) ∧ t (i + k) ≤ 57 then 1 else 0) = k + 1 := h
    have h2 := hp_dgle (t := t) (i := i) k
    by_cases hc : 48 ≤ t (i + k) ∧ t (i + k) ≤ 57
    · rw [if_pos hc] at h1
      by_cases e : q = k
      · subst e
        exact hc
      · exact hp_dgfa k (by omega) q (by omega)
    · rw [if_neg hc] at h1
      omega
/-- what a sort says -/
theorem hp_k2 {t : Nat → Int} {n lim p : Nat} (hk : hp_k t n lim p = 2) : hp_i t n p < n ∧ hp_n t n p ≤ 7 ∧ ∀ q : Nat, q < hp_n t n p → 97 ≤ t (hp_i t n p + q) ∧ t (hp_i t n p + q) ≤ 122 := by
  by_cases h1 : lim < n ∧ lim ≤ hp_i t n p
  · have := hp_kA h1
    omega
  · by_cases h2 : n ≤ hp_i t n p
    · have := hp_kB h1 h2
      omega
    · by_cases h3 : (97 ≤ t (hp_i t n p) ∧ t (hp_i t n p) ≤ 122) ∨ (48 ≤ t (hp_i t n p) ∧ t (hp_i t n p) ≤ 57)
      · obtain ⟨e1, -, -⟩ := hp_kC h1 h2 h3
        obtain ⟨h4, h5⟩ := hp_k2r (e1.symm.trans hk)
        refine ⟨by omega, h5, fun q hq => ?_⟩
        have h6 := hp_erun (t := t) (n := n) (p := hp_i t n p) (q := hp_i t n p + q) (by omega) (by unfold hp_n at hq; omega)
        have h7 := hp_dg0a _ h4 q hq
        omega
      · by_cases h4 : t (hp_i t n p) = 59 ∨ t (hp_i t n p) = 60 ∨ t (hp_i t n p) = 61 ∨ t (hp_i t n p) = 62 ∨ t (hp_i t n p) = 40 ∨ t (hp_i t n p) = 41
        · have := (hp_kD h1 h2 h3 h4).1
          omega
        · have := (hp_kE h1 h2 h3 h4).1
          omega
theorem hp_wb {t : Nat → Int} {n lim p : Nat} (hk : hp_k t n lim p = 2) : 0 ≤ hp_w t n p ∧ hp_w t n p < 10460353203 := by
  have h := hp_k2 hk
  exact hp_lrb7 h.2.1 h.2.2
theorem hp_nfb {t : Nat → Int} {i : Nat} : ∀ k : Nat, k ≤ 3 → (∀ q : Nat, q < k → 48 ≤ t (i + q) ∧ t (i + q) ≤ 122) → 0 ≤ hp_nf t i k ∧ hp_nf t i k ≤ 8214
  | 0, _, _ => ⟨Int.le_refl 0, by show (0 : Int) ≤ 8214; decide⟩
  | 1, _, h => by
    have h0 := h 0 (by decide)
    show 0 ≤ 10 * (0 : Int) + t (i + 0) - 48 ∧ 10 * (0 : Int) + t (i + 0) - 48 ≤ 8214
    omega
  | 2, _, h => by
    have h0 := h 0 (by decide)
    have h1 := h 1 (by decide)
    show 0 ≤ 10 * (10 * (0 : Int) + t (i + 0) - 48) + t (i + 1) - 48 ∧ 10 * (10 * (0 : Int) + t (i + 0) - 48) + t (i + 1) - 48 ≤ 8214
    omega
  | 3, _, h => by
    have h0 := h 0 (by decide)
    have h1 := h 1 (by decide)
    have h2 := h 2 (by decide)
    show 0 ≤ 10 * (10 * (10 * (0 : Int) + t (i + 0) - 48) + t (i + 1) - 48) + t (i + 2) - 48 ∧ 10 * (10 * (10 * (0 : Int) + t (i + 0) - 48) + t (i + 1) - 48) + t (i + 2) - 48 ≤ 8214
    omega
  | k + 4, h, _ => by omega
/-! keywords, in the class's order -/
noncomputable def hp_KW : List Int := [10793230, 31519426, 3223982, 2020942, 11103, 1615793, 11921, 419, 7657718689, 191610176, 423, 1111, 10631, 12531826, 583, 1369621, 5878, 237292, 90302, 212302449]
noncomputable def hp_KC : List Int := [499967946343, 108187682958948, 439721749620, 427172193651, 7300710, 426835602533, 7367022, 28526, 32497657065465203, 120299592184933, 28530, 6385252, 7237492, 512970877811, 30064, 422776370291, 6840691, 1818324336, 1685026670, 121450625394034]
theorem hp_KWC : hp_KW.map hp_cv = hp_KC := by decide +kernel
theorem hp_KWb : ∀ a ∈ hp_KW, 0 ≤ a ∧ a < 10460353203 := by decide +kernel
noncomputable def hp_ix : List Int → Int → Int → Int
  | [], _, _ => -1
  | a :: r, v, b => if a = v then b else hp_ix r v (b + 1)
noncomputable def hp_kw (v : Int) : Int := hp_ix hp_KW v 0
theorem hp_ixm {v : Int} (hv : 0 ≤ v ∧ v < 10460353203) : ∀ (l : List Int) (b : Int), (∀ a ∈ l, 0 ≤ a ∧ a < 10460353203) → hp_ix (l.map hp_cv) (hp_cv v) b = hp_ix l v b
  | [], _, _ => rfl
  | a :: r, b, h => by
    have h1 := hp_ixm hv r (b + 1) (fun x hx => h x (List.mem_cons_of_mem _ hx))
    have h2 := hp_cvi (h a List.mem_cons_self) hv
    show (if hp_cv a = hp_cv v then b else hp_ix (r.map hp_cv) (hp_cv v) (b + 1)) = (if a = v then b else hp_ix r v (b + 1))
    rw [h1]
    by_cases e : a = v
    · rw [if_pos e, if_pos (h2.mpr e)]
    · rw [if_neg e, if_neg (fun q => e (h2.mp q))]
theorem hp_kwc {v : Int} (hv : 0 ≤ v ∧ v < 10460353203) : hp_ix hp_KC (hp_cv v) 0 = hp_kw v := by
  rw [← hp_KWC]
  exact hp_ixm hv hp_KW 0 hp_KWb
theorem hp_ixg {v : Int} : ∀ (l : List Int) (b : Int), (hp_ix l v b = -1 ∧ ∀ k : Nat, ¬ l[k]? = some v) ∨ (∃ k : Nat, l[k]? = some v ∧ hp_ix l v b = b + (k : Int) ∧ k < l.length)
  | [], _ => Or.inl ⟨rfl, fun k q => by simp at q⟩
  | a :: r, b => by
    by_cases e : a = v
    · refine Or.inr ⟨0, congrArg some e, ?_, Nat.zero_lt_succ _⟩
      show (if a = v then b else hp_ix r v (b + 1)) = _
      rw [if_pos e]
      omega
    · have e1 : hp_ix (a :: r) v b = hp_ix r v (b + 1) := by
        show (if a = v then b else hp_ix r v (b + 1)) = _
        rw [if_neg e]
      rcases hp_ixg r (b + 1) with ⟨h1, h2⟩ | ⟨k, h1, h2, h3⟩
      · refine Or.inl ⟨by rw [e1]; exact h1, fun k q => ?_⟩
        cases k with
        | zero => exact e (Option.some.inj q)
        | succ k => exact h2 k q
      · exact Or.inr ⟨k + 1, h1, by rw [e1, h2]; push_cast; omega, Nat.succ_lt_succ h3⟩
theorem hp_KWi : ∀ i j : Fin 20, hp_KW[(i : Nat)]? = hp_KW[(j : Nat)]? → (i : Nat) = (j : Nat) := by decide +kernel
theorem hp_kwb (v : Int) : -1 ≤ hp_kw v ∧ hp_kw v ≤ 19 := by
  have hl : hp_KW.length = 20 := rfl
  rcases hp_ixg (v := v) hp_KW 0 with ⟨h1, -⟩ | ⟨k, -, h2, h3⟩
  · unfold hp_kw
    omega
  · unfold hp_kw
    omega
theorem hp_kwi {v : Int} {c : Nat} (hc : c < 20) : hp_kw v = (c : Int) ↔ hp_KW[c]? = some v := by
  have hl : hp_KW.length = 20 := rfl
  rcases hp_ixg (v := v) hp_KW 0 with ⟨h1, h2⟩ | ⟨k, h1, h2, h3⟩
  · refine ⟨fun q => ?_, fun q => absurd q (h2 c)⟩
    unfold hp_kw at q
    omega
  · refine ⟨fun q => ?_, fun q => ?_⟩
    · unfold hp_kw at q
      have : k = c := by omega
      rw [← this]
      exact h1
    · have e := hp_KWi ⟨k, by omega⟩ ⟨c, hc⟩ (h1.trans q.symm)
      have e : k = c := e
      unfold hp_kw
      omega
theorem hp_kwn {v : Int} : hp_kw v = -1 ↔ ∀ c : Nat, c < 20 → ¬ hp_KW[c]? = some v := by
  refine ⟨fun h c hc q => ?_, fun h => ?_⟩
  · have := (hp_kwi hc).mpr q
    omega
  · rcases hp_ixg (v := v) hp_KW 0 with ⟨h1, -⟩ | ⟨k, h1, -, h3⟩
    · exact h1
    · exact absurd h1 (h k h3)
end HPA
