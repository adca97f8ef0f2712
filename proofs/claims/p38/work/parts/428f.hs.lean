section HS
/-! evenings: what helped() counts -/
noncomputable def hs_S (t : Nat → Int) : Nat → Int
  | 0 => 0
  | k + 1 => hs_S t k + t (2 * k)
theorem hs_Sb (t : Nat → Int) (h : ∀ i, 0 ≤ t i ∧ t i ≤ 255) : ∀ k : Nat, 0 ≤ hs_S t k ∧ hs_S t k ≤ 255 * (k : Int)
  | 0 => ⟨Int.le_refl _, Int.le_refl _⟩
  | k + 1 => by
    have h1 := hs_Sb t h k
    have h2 := h (2 * k)
    have h3 : hs_S t (k + 1) = hs_S t k + t (2 * k) := rfl
    rw [h3]
    push_cast
    omega
/-- as told: two to ten evenings, one of each sort at least -/
noncomputable def hs_acc (t : Nat → Int) (n : Int) : Prop := n % 2 = 0 ∧ 4 ≤ n ∧ n ≤ 20 ∧ (∀ i : Nat, 2 * (i : Int) < n → t (2 * i) ≤ 1) ∧ 0 < hs_S t (n / 2).toNat ∧ ¬ hs_S t (n / 2).toNat = n / 2
theorem hs_no0 {t : Nat → Int} {n : Int} (h : n < 4 ∨ 20 < n ∨ ¬ n % 2 = 0) : ¬ hs_acc t n := by
  rintro ⟨h1, h2, h3, -⟩
  omega
theorem hs_no1 {t : Nat → Int} {n : Int} {k : Nat} (hk : 2 * (k : Int) < n) (hv : 1 < t (2 * k)) : ¬ hs_acc t n := by
  rintro ⟨-, -, -, h1, -⟩
  have := h1 k hk
  omega
theorem hs_half {n : Int} {k : Nat} (hk : 2 * (k : Int) = n) : (n / 2).toNat = k ∧ n / 2 = (k : Int) := by omega
theorem hs_no2 {t : Nat → Int} {n : Int} {k : Nat} (hk : 2 * (k : Int) = n) (hv : ∀ q : Nat, q < k → t (2 * q) ≤ 1) (h : hs_S t k = 0 ∨ hs_S t k = n / 2) : ¬ hs_acc t n := by
  rintro ⟨-, -, -, -, h1, h2⟩
  obtain ⟨e1, e2⟩ := hs_half hk
  rw [e1] at h1 h2
  omega
theorem hs_yes {t : Nat → Int} {n : Int} {k : Nat} (hk : 2 * (k : Int) = n) (h0 : n % 2 = 0) (h4 : 4 ≤ n) (h20 : n ≤ 20) (hv : ∀ q : Nat, q < k → t (2 * q) ≤ 1) (h1 : 0 < hs_S t k) (h2 : ¬ hs_S t k = n / 2) : hs_acc t n := by
  obtain ⟨e1, e2⟩ := hs_half hk
  refine ⟨h0, h4, h20, fun i hi => hv i (by omega), ?_, ?_⟩
  · rw [e1]; exact h1
  · rw [e1]; exact h2
theorem hs_yesv {t : Nat → Int} {n : Int} {k : Nat} (hk : 2 * (k : Int) = n) : hs_S t k = hs_S t (n / 2).toNat := by rw [(hs_half hk).1]
end HS
section HS2
/-- how many bits of ten are set -/
noncomputable def hs_pc (m : Nat) : Nat := m % 2 + m / 2 % 2 + m / 4 % 2 + m / 8 % 2 + m / 16 % 2 + m / 32 % 2 + m / 64 % 2 + m / 128 % 2 + m / 256 % 2 + m / 512 % 2
/-- how many ways there are below m -/
noncomputable def hs_cnt (d : Int) : Nat → Int
  | 0 => 0
  | m + 1 => hs_cnt d m + (if ((hs_pc m : Nat) : Int) = d then 1 else 0)
theorem hs_cntb (d : Int) : ∀ m : Nat, 0 ≤ hs_cnt d m ∧ hs_cnt d m ≤ (m : Int)
  | 0 => ⟨Int.le_refl _, Int.le_refl _⟩
  | m + 1 => by
    have h1 := hs_cntb d m
    have h3 : hs_cnt d (m + 1) = hs_cnt d m + (if ((hs_pc m : Nat) : Int) = d then 1 else 0) := rfl
    rw [h3]
    push_cast
    split <;> omega
/-- MINUTES of a way -/
noncomputable def hs_M (t : Nat → Int) (m : Nat) : Nat → Int
  | 0 => 0
  | i + 1 => hs_M t m i + (if m / 2 ^ i % 2 = 1 then t (2 * i + 1) else 0)
theorem hs_Mb (t : Nat → Int) (h : ∀ i, 0 ≤ t i ∧ t i ≤ 255) (m : Nat) : ∀ i : Nat, 0 ≤ hs_M t m i ∧ hs_M t m i ≤ 255 * (i : Int)
  | 0 => ⟨Int.le_refl _, Int.le_refl _⟩
  | i + 1 => by
    have h1 := hs_Mb t h m i
    have h2 := h (2 * i + 1)
    have h3 : hs_M t m (i + 1) = hs_M t m i + (if m / 2 ^ i % 2 = 1 then t (2 * i + 1) else 0) := rfl
    rw [h3]
    push_cast
    split <;> omega
/-- how many ways below m are as few MINUTES as they were, or fewer -/
noncomputable def hs_few (t : Nat → Int) (ev : Nat) (d b : Int) : Nat → Int
  | 0 => 0
  | m + 1 => hs_few t ev d b m + (if ((hs_pc m : Nat) : Int) = d ∧ hs_M t m ev ≤ b then 1 else 0)
theorem hs_fewb (t : Nat → Int) (ev : Nat) (d b : Int) : ∀ m : Nat, 0 ≤ hs_few t ev d b m ∧ hs_few t ev d b m ≤ (m : Int)
  | 0 => ⟨Int.le_refl _, Int.le_refl _⟩
  | m + 1 => by
    have h1 := hs_fewb t ev d b m
    have h3 : hs_few t ev d b (m + 1) = hs_few t ev d b m + (if ((hs_pc m : Nat) : Int) = d ∧ hs_M t m ev ≤ b then 1 else 0) := rfl
    rw [h3]
    push_cast
    split <;> omega
/-- the way as it was -/
noncomputable def hs_A (t : Nat → Int) : Nat → Nat
  | 0 => 0
  | k + 1 => hs_A t k + (t (2 * k)).toNat * 2 ^ k
theorem hs_Ab (t : Nat → Int) : ∀ k : Nat, (∀ q : Nat, q < k → t (2 * q) ≤ 1) → hs_A t k < 2 ^ k
  | 0, _ => by show 0 < 1; decide
  | k + 1, h => by
    have h1 := hs_Ab t k (fun q hq => h q (by omega))
    have h2 := h k (by omega)
    have h3 : hs_A t (k + 1) = hs_A t k + (t (2 * k)).toNat * 2 ^ k := rfl
    rw [h3, Nat.pow_succ]
    have h4 : (t (2 * k)).toNat ≤ 1 := by omega
    have h5 : (t (2 * k)).toNat * 2 ^ k ≤ 1 * 2 ^ k := Nat.mul_le_mul_right _ h4
    omega
theorem hs_p2 {k : Nat} (h : k ≤ 10) : 2 ^ k ≤ 1024 := Nat.pow_le_pow_right (by decide) h
set_option maxRecDepth 100000 in
theorem hs_bit0 : ∀ (i : Fin 10) (a : Fin 1024), tb_hb (Int32.ofInt ((a : Nat) : Int)) (Int32.ofInt ((i : Nat) : Int)) = Int32.ofInt (((a : Nat) / 2 ^ (i : Nat) % 2 : Nat) : Int) := by decide +kernel
theorem hs_bit {a i : Nat} (ha : a < 1024) (hi : i < 10) : tb_hb (Int32.ofInt (a : Int)) (Int32.ofInt (i : Int)) = Int32.ofInt ((a / 2 ^ i % 2 : Nat) : Int) := hs_bit0 ⟨i, hi⟩ ⟨a, ha⟩
set_option maxRecDepth 100000 in
theorem hs_shl0 : ∀ (i : Fin 11), Int32.ofInt 1 <<< (Int32.ofInt ((i : Nat) : Int) &&& 31) = Int32.ofInt ((2 ^ (i : Nat) : Nat) : Int) := by decide +kernel
theorem hs_shl {i : Nat} (hi : i ≤ 10) : Int32.ofInt 1 <<< (Int32.ofInt (i : Int) &&& 31) = Int32.ofInt ((2 ^ i : Nat) : Int) := hs_shl0 ⟨i, by omega⟩
set_option maxRecDepth 100000 in
theorem hs_shb0 : ∀ (i : Fin 10) (b : Fin 2), Int32.ofInt ((b : Nat) : Int) <<< (Int32.ofInt ((i : Nat) : Int) &&& 31) = Int32.ofInt (((b : Nat) * 2 ^ (i : Nat) : Nat) : Int) := by decide +kernel
theorem hs_shb {i b : Nat} (hi : i < 10) (hb : b ≤ 1) : Int32.ofInt (b : Int) <<< (Int32.ofInt (i : Int) &&& 31) = Int32.ofInt ((b * 2 ^ i : Nat) : Int) := hs_shb0 ⟨i, hi⟩ ⟨b, by omega⟩
set_option maxRecDepth 100000 in
theorem hs_or0 : ∀ (i : Fin 10) (b : Fin 2) (a : Fin 512), (a : Nat) < 2 ^ (i : Nat) → Int32.ofInt ((a : Nat) : Int) ||| Int32.ofInt (((b : Nat) * 2 ^ (i : Nat) : Nat) : Int) = Int32.ofInt (((a : Nat) + (b : Nat) * 2 ^ (i : Nat) : Nat) : Int) := by decide +kernel
theorem hs_or {i b a : Nat} (hi : i < 10) (hb : b ≤ 1) (ha : a < 2 ^ i) : Int32.ofInt (a : Int) ||| Int32.ofInt ((b * 2 ^ i : Nat) : Int) = Int32.ofInt ((a + b * 2 ^ i : Nat) : Int) := hs_or0 ⟨i, hi⟩ ⟨b, by omega⟩ ⟨a, Nat.lt_of_lt_of_le ha (Nat.pow_le_pow_right (by decide) (show i ≤ 9 by omega))⟩ ha
/-- the lowest bit taken away -/
noncomputable def hs_bl (m : Nat) : Nat := m &&& (m - 1)
set_option maxRecDepth 100000 in
theorem hs_bl0 : ∀ (a : Fin 1024), (a : Nat) = 0 ∨ (Int32.ofInt ((a : Nat) : Int) &&& Int32.ofInt (((a : Nat) : Int) - 1) = Int32.ofInt ((hs_bl (a : Nat) : Nat) : Int) ∧ hs_pc (hs_bl (a : Nat)) + 1 = hs_pc (a : Nat) ∧ hs_bl (a : Nat) < (a : Nat)) := by decide +kernel
theorem hs_bl1 {a : Nat} (ha : a < 1024) (h0 : ¬ a = 0) : Int32.ofInt (a : Int) &&& Int32.ofInt ((a : Int) - 1) = Int32.ofInt ((hs_bl a : Nat) : Int) ∧ hs_pc (hs_bl a) + 1 = hs_pc a ∧ hs_bl a < a := (hs_bl0 ⟨a, ha⟩).resolve_left h0
theorem hs_pcb (m : Nat) : hs_pc m ≤ 10 := by
  unfold hs_pc
  omega
/-- the count of bits as the JDK makes it -/
noncomputable def hs_b1 (x : Int32) : Int32 := x - ((x.toUInt32 >>> ((1 : Int32).toUInt32 &&& Int32.toUInt32 31)).toInt32 &&& 1431655765)
noncomputable def hs_b2 (x : Int32) : Int32 := (x &&& 858993459) + ((x.toUInt32 >>> ((2 : Int32).toUInt32 &&& Int32.toUInt32 31)).toInt32 &&& 858993459)
noncomputable def hs_b3 (x : Int32) : Int32 := (x + (x.toUInt32 >>> ((4 : Int32).toUInt32 &&& Int32.toUInt32 31)).toInt32) &&& 252645135
noncomputable def hs_b4 (x : Int32) : Int32 := x + (x.toUInt32 >>> ((8 : Int32).toUInt32 &&& Int32.toUInt32 31)).toInt32
noncomputable def hs_b5 (x : Int32) : Int32 := x + (x.toUInt32 >>> ((16 : Int32).toUInt32 &&& Int32.toUInt32 31)).toInt32
noncomputable def hs_bc (x : Int32) : Int32 := hs_b5 (hs_b4 (hs_b3 (hs_b2 (hs_b1 x)))) &&& 63
set_option maxRecDepth 100000 in
theorem hs_bc0 : ∀ (a : Fin 1024), hs_bc (Int32.ofInt ((a : Nat) : Int)) = Int32.ofInt ((hs_pc (a : Nat) : Nat) : Int) := by decide +kernel
theorem hs_bc1 {a : Nat} (ha : a < 1024) : hs_bc (Int32.ofInt (a : Int)) = Int32.ofInt ((hs_pc a : Nat) : Int) := hs_bc0 ⟨a, ha⟩
end HS2
section HS3
theorem hs_M1 {t : Nat → Int} {w i : Nat} (h : w / 2 ^ i % 2 = 1) : hs_M t w (i + 1) = hs_M t w i + t (2 * i + 1) := by
  show hs_M t w i + (if w / 2 ^ i % 2 = 1 then t (2 * i + 1) else 0) = _
  rw [if_pos h]
theorem hs_M0 {t : Nat → Int} {w i : Nat} (h : ¬ w / 2 ^ i % 2 = 1) : hs_M t w (i + 1) = hs_M t w i := by
  show hs_M t w i + (if w / 2 ^ i % 2 = 1 then t (2 * i + 1) else 0) = _
  rw [if_neg h, Int.add_zero]
theorem hs_cn1 {d : Int} {m : Nat} (h : ((hs_pc m : Nat) : Int) = d) : hs_cnt d m + 1 = hs_cnt d (m + 1) := by
  show _ = hs_cnt d m + (if ((hs_pc m : Nat) : Int) = d then 1 else 0)
  rw [if_pos h]
theorem hs_cn0 {d : Int} {m : Nat} (h : ¬ ((hs_pc m : Nat) : Int) = d) : hs_cnt d m = hs_cnt d (m + 1) := by
  show _ = hs_cnt d m + (if ((hs_pc m : Nat) : Int) = d then 1 else 0)
  rw [if_neg h, Int.add_zero]
theorem hs_fw1 {t : Nat → Int} {ev : Nat} {d b : Int} {m : Nat} (h : ((hs_pc m : Nat) : Int) = d) (h2 : hs_M t m ev ≤ b) : hs_few t ev d b m + 1 = hs_few t ev d b (m + 1) := by
  show _ = hs_few t ev d b m + (if ((hs_pc m : Nat) : Int) = d ∧ hs_M t m ev ≤ b then 1 else 0)
  rw [if_pos ⟨h, h2⟩]
theorem hs_fw0 {t : Nat → Int} {ev : Nat} {d b : Int} {m : Nat} (h : ¬ ((hs_pc m : Nat) : Int) = d) : hs_few t ev d b m = hs_few t ev d b (m + 1) := by
  show _ = hs_few t ev d b m + (if ((hs_pc m : Nat) : Int) = d ∧ hs_M t m ev ≤ b then 1 else 0)
  rw [if_neg (fun q => h q.1), Int.add_zero]
theorem hs_fw2 {t : Nat → Int} {ev : Nat} {d b : Int} {m : Nat} (h : ¬ hs_M t m ev ≤ b) : hs_few t ev d b m = hs_few t ev d b (m + 1) := by
  show _ = hs_few t ev d b m + (if ((hs_pc m : Nat) : Int) = d ∧ hs_M t m ev ≤ b then 1 else 0)
  rw [if_neg (fun q => h q.2), Int.add_zero]
/-- one slot twice -/
theorem xw_uu {μ : xw_M} {j i : Nat} {x y : Int} : xw_u (xw_u μ j i x) j i y = xw_u μ j i y := by
  funext j' i'
  unfold xw_u
  split <;> rfl
end HS3
section HS4
/-- how many ways; how many with as few MINUTES -/
noncomputable def hs_R (t : Nat → Int) (n : Int) : Int := hs_cnt (hs_S t (n / 2).toNat) (2 ^ (n / 2).toNat)
noncomputable def hs_Fw (t : Nat → Int) (n : Int) : Int := hs_few t (n / 2).toNat (hs_S t (n / 2).toNat) (hs_M t (hs_A t (n / 2).toNat) (n / 2).toNat) (2 ^ (n / 2).toNat)
end HS4
section HS5
noncomputable def hs_P (t : Nat → Int) : Nat → Int
  | 0 => 0
  | k + 1 => hs_P t k + t (2 * k) * t (2 * k + 1)
theorem hs_Mc {t : Nat → Int} {a b k : Nat} : ∀ i : Nat, i ≤ k → hs_M t (a + b * 2 ^ k) i = hs_M t a i
  | 0, _ => rfl
  | i + 1, h => by
    have h1 := hs_Mc (t := t) (a := a) (b := b) (k := k) i (by omega)
    have h2 : (a + b * 2 ^ k) / 2 ^ i % 2 = a / 2 ^ i % 2 := by
      obtain ⟨q, rfl⟩ : ∃ q, k = i + 1 + q := ⟨k - (i + 1), by omega⟩
      have h3 : b * 2 ^ (i + 1 + q) = 2 ^ i * (2 * (b * 2 ^ q)) := by
        rw [Nat.pow_add, Nat.pow_succ]
        ac_rfl
      rw [h3, Nat.add_mul_div_left _ _ (Nat.two_pow_pos i)]
      omega
    show hs_M t (a + b * 2 ^ k) i + (if (a + b * 2 ^ k) / 2 ^ i % 2 = 1 then t (2 * i + 1) else 0) = hs_M t a i + (if a / 2 ^ i % 2 = 1 then t (2 * i + 1) else 0)
    rw [h1, h2]
theorem hs_PM {t : Nat → Int} : ∀ k : Nat, (∀ q : Nat, q < k → 0 ≤ t (2 * q) ∧ t (2 * q) ≤ 1) → hs_P t k = hs_M t (hs_A t k) k
  | 0, _ => rfl
  | k + 1, h => by
    have h1 := hs_PM k (fun q hq => h q (by omega))
    have hA := hs_Ab t k (fun q hq => (h q (by omega)).2)
    obtain ⟨q1, q2⟩ := h k (by omega)
    have e1 : hs_A t (k + 1) = hs_A t k + (t (2 * k)).toNat * 2 ^ k := rfl
    have e2 : hs_M t (hs_A t (k + 1)) (k + 1) = hs_M t (hs_A t (k + 1)) k + (if hs_A t (k + 1) / 2 ^ k % 2 = 1 then t (2 * k + 1) else 0) := rfl
    have e3 : hs_A t (k + 1) / 2 ^ k = (t (2 * k)).toNat := by
      rw [e1, Nat.mul_comm (t (2 * k)).toNat, Nat.add_mul_div_left _ _ (Nat.two_pow_pos k), Nat.div_eq_of_lt hA, Nat.zero_add]
    have e4 : hs_P t (k + 1) = hs_P t k + t (2 * k) * t (2 * k + 1) := rfl
    rw [e4, e2, e3, e1, hs_Mc k (Nat.le_refl _), ← h1]
    have e5 : t (2 * k) = 0 ∨ t (2 * k) = 1 := by omega
    rcases e5 with e | e <;> simp [e]
theorem hs_no3 {t : Nat → Int} {n : Int} (h : ¬ n % 2 = 0 ∨ ¬ (2 ≤ n / 2 ∧ n / 2 ≤ 10)) : ¬ hs_acc t n := by
  rintro ⟨h1, h2, h3, -⟩
  omega
theorem hs_cnz (d : Int) : hs_cnt d 0 = 0 := rfl
theorem hs_Fwb {t : Nat → Int} {n : Int} (h : hs_acc t n) : 0 ≤ hs_Fw t n ∧ hs_Fw t n ≤ 1024 := by
  obtain ⟨h1, h2, h3, -⟩ := h
  have h4 := hs_fewb t (n / 2).toNat (hs_S t (n / 2).toNat) (hs_M t (hs_A t (n / 2).toNat) (n / 2).toNat) (2 ^ (n / 2).toNat)
  have h5 := hs_p2 (k := (n / 2).toNat) (by omega)
  unfold hs_Fw
  omega
end HS5
