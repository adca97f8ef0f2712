section HXS
/-! sets as sums of powers: what a THING is behind; the FAULTS of a THING -/
noncomputable def hx_ahf (rd : Nat → Int) : Nat → Nat → Int
  | 0, _ => 0
  | r + 1, k => if rd (15 + k) < 0 then 0 else hx_ahf rd r (rd (15 + k)).toNat + 2 ^ (rd (15 + k)).toNat
noncomputable def hx_ah (rd : Nat → Int) (k : Nat) : Int := hx_ahf rd 6 k
noncomputable def hx_fo (rd : Nat → Int) (k : Nat) : Nat → Int
  | 0 => 0
  | m + 1 => hx_fo rd k m + (if rd (21 + m) = (k : Int) then 2 ^ m else 0)
theorem hx_ahe (rd : Nat → Int) (r k : Nat) : hx_ahf rd (r + 1) k = if rd (15 + k) < 0 then 0 else hx_ahf rd r (rd (15 + k)).toNat + 2 ^ (rd (15 + k)).toNat := rfl
theorem hx_foe (rd : Nat → Int) (k m : Nat) : hx_fo rd k (m + 1) = hx_fo rd k m + (if rd (21 + m) = (k : Int) then 2 ^ m else 0) := rfl
theorem hx_p2 : ∀ a b : Nat, a ≤ b → (1 : Int) ≤ 2 ^ a ∧ (2 : Int) ^ a ≤ 2 ^ b := by
  have h1 : ∀ a : Nat, (1 : Int) ≤ 2 ^ a := fun a => by
    induction a with
    | zero => decide
    | succ a ih => rw [Int.pow_succ]; omega
  intro a b h
  refine ⟨h1 a, ?_⟩
  obtain ⟨c, rfl⟩ : ∃ c, b = a + c := ⟨b - a, by omega⟩
  induction c with
  | zero => exact Int.le_refl _
  | succ c ih =>
    have ih := ih (by omega)
    have e : (2 : Int) ^ (a + (c + 1)) = 2 ^ (a + c) * 2 := by rw [← Nat.add_assoc, Int.pow_succ]
    have := h1 (a + c)
    rw [e]
    omega
theorem hx_ahS {rd : Nat → Int} : ∀ r k : Nat, k < r → (∀ j : Nat, j ≤ k → rd (15 + j) < (j : Int)) → hx_ahf rd (r + 1) k = hx_ahf rd r k
  | 0, k, h, _ => absurd h (Nat.not_lt_zero k)
  | r + 1, k, h, hb => by
    rw [hx_ahe rd (r + 1) k, hx_ahe rd r k]
    by_cases q : rd (15 + k) < 0
    · rw [if_pos q, if_pos q]
    · have h1 := hb k (Nat.le_refl k)
      rw [if_neg q, if_neg q, hx_ahS r (rd (15 + k)).toNat (by omega) (fun j hj => hb j (by omega))]
theorem hx_ahB {rd : Nat → Int} : ∀ r k : Nat, (∀ j : Nat, j ≤ k → rd (15 + j) < (j : Int)) → 0 ≤ hx_ahf rd r k ∧ hx_ahf rd r k < 2 ^ k
  | 0, k, _ => ⟨Int.le_refl 0, by
    have := (hx_p2 k k (Nat.le_refl k)).1
    show (0 : Int) < 2 ^ k
    omega⟩
  | r + 1, k, hb => by
    rw [hx_ahe]
    by_cases q : rd (15 + k) < 0
    · rw [if_pos q]
      have := (hx_p2 k k (Nat.le_refl k)).1
      omega
    · rw [if_neg q]
      have h1 := hb k (Nat.le_refl k)
      have h2 := hx_ahB r (rd (15 + k)).toNat (fun j hj => hb j (by omega))
      have h3 := hx_p2 ((rd (15 + k)).toNat + 1) k (by omega)
      have h4 := (hx_p2 (rd (15 + k)).toNat (rd (15 + k)).toNat (Nat.le_refl _)).1
      rw [Int.pow_succ] at h3
      omega
theorem hx_ahC {rd rd' : Nat → Int} : ∀ r k : Nat, (∀ j : Nat, j ≤ k → rd' (15 + j) = rd (15 + j)) → (∀ j : Nat, j ≤ k → rd (15 + j) < (j : Int)) → hx_ahf rd' r k = hx_ahf rd r k
  | 0, _, _, _ => rfl
  | r + 1, k, hc, hb => by
    rw [hx_ahe, hx_ahe, hc k (Nat.le_refl k)]
    by_cases q : rd (15 + k) < 0
    · rw [if_pos q, if_pos q]
    · have h1 := hb k (Nat.le_refl k)
      rw [if_neg q, if_neg q, hx_ahC r (rd (15 + k)).toNat (fun j hj => hc j (by omega)) (fun j hj => hb j (by omega))]
theorem hx_ah1 {rd : Nat → Int} {k : Nat} (h6 : k < 6) (hb : ∀ j : Nat, j ≤ k → rd (15 + j) < (j : Int)) : hx_ah rd k = if rd (15 + k) < 0 then 0 else hx_ah rd (rd (15 + k)).toNat + 2 ^ (rd (15 + k)).toNat := by
  unfold hx_ah
  rw [hx_ahe rd 5 k]
  by_cases q : rd (15 + k) < 0
  · rw [if_pos q, if_pos q]
  · have h1 := hb k (Nat.le_refl k)
    rw [if_neg q, if_neg q, hx_ahS 5 (rd (15 + k)).toNat (by omega) (fun j hj => hb j (by omega))]
theorem hx_foB {rd : Nat → Int} {k : Nat} : ∀ m : Nat, 0 ≤ hx_fo rd k m ∧ hx_fo rd k m < 2 ^ m
  | 0 => ⟨Int.le_refl 0, by show (0 : Int) < 2 ^ 0; decide⟩
  | m + 1 => by
    have h := hx_foB (rd := rd) (k := k) m
    have h1 := (hx_p2 m m (Nat.le_refl m)).1
    rw [hx_foe, Int.pow_succ]
    split <;> omega
theorem hx_foC {rd rd' : Nat → Int} {k : Nat} : ∀ m : Nat, (∀ j : Nat, j < m → rd' (21 + j) = rd (21 + j)) → hx_fo rd' k m = hx_fo rd k m
  | 0, _ => rfl
  | m + 1, h => by rw [hx_foe, hx_foe, hx_foC m (fun j hj => h j (by omega)), h m (by omega)]
theorem hx_fo0 {rd : Nat → Int} {k : Nat} : ∀ m : Nat, (∀ j : Nat, j < m → ¬ rd (21 + j) = (k : Int)) → hx_fo rd k m = 0
  | 0, _ => rfl
  | m + 1, h => by rw [hx_foe, hx_fo0 m (fun j hj => h j (by omega)), if_neg (h m (by omega))]; rfl
/-! the machine's bits -/
theorem xb_sh1 : ∀ f : Fin 8, Int32.ofInt 1 <<< (Int32.ofInt ((f : Nat) : Int) &&& 31) = Int32.ofInt (2 ^ (f : Nat)) := by decide +kernel
theorem xb_or1 : ∀ f : Fin 8, ∀ a : Fin 256, (a : Nat) < 2 ^ (f : Nat) → Int32.ofInt ((a : Nat) : Int) ||| Int32.ofInt (2 ^ (f : Nat)) = Int32.ofInt (((a : Nat) : Int) + 2 ^ (f : Nat)) := by decide +kernel
theorem xb_shN {f : Nat} (h : f < 8) : Int32.ofInt 1 <<< (Int32.ofInt (f : Int) &&& 31) = Int32.ofInt (2 ^ f) := xb_sh1 ⟨f, h⟩
theorem xb_shI {f : Int} (h : 0 ≤ f ∧ f < 8) : Int32.ofInt 1 <<< (Int32.ofInt f &&& 31) = Int32.ofInt (2 ^ f.toNat) := by
  have q := xb_shN (f := f.toNat) (by omega)
  rw [show ((f.toNat : Nat) : Int) = f by omega] at q
  exact q
theorem xb_orN {a : Int} {f : Nat} (h : f < 8) (ha : 0 ≤ a ∧ a < 2 ^ f) : Int32.ofInt a ||| Int32.ofInt (2 ^ f) = Int32.ofInt (a + 2 ^ f) := by
  have e : ((2 ^ f : Nat) : Int) = (2 : Int) ^ f := by push_cast; rfl
  have p8 : 2 ^ f ≤ 2 ^ 8 := Nat.pow_le_pow_right (by decide) (by omega)
  have q := xb_or1 ⟨f, h⟩ ⟨a.toNat, by
    have e8 : (2 : Nat) ^ 8 = 256 := by decide
    omega⟩ (by show a.toNat < 2 ^ f; omega)
  have q : Int32.ofInt ((a.toNat : Nat) : Int) ||| Int32.ofInt (2 ^ f) = Int32.ofInt (((a.toNat : Nat) : Int) + 2 ^ f) := q
  rw [show ((a.toNat : Nat) : Int) = a by omega] at q
  exact q
/-- the draft's sets -/
noncomputable def hc_G (rd : Nat → Int) (μ : xw_M) : Prop := ∀ k : Nat, k < 6 → (k : Int) < rd 0 → μ 112 k = hx_ah rd k ∧ μ 114 k = hx_fo rd k (rd 1).toNat
theorem hx_okb {rd nm : Nat → Int} {T : Nat} (hK : hp_ok rd nm) (hT : (T : Int) ≤ rd 0) : ∀ j : Nat, j < T → rd (15 + j) < (j : Int) := fun j hj => by
  have k0 := hK.1
  exact (hK.2.2.2.2.1 j (by omega) (by omega)).2.2.1.2
theorem hc_GT {rd rd' nm : Nat → Int} {μ μ' : xw_M} {T : Nat} {h x : Int} (hG : hc_G rd μ) (hK : hp_ok rd nm) (hT : rd 0 = (T : Int)) (h6 : T < 6) (hh : -1 ≤ h ∧ h < (T : Int)) (e0 : rd' 0 = (T : Int) + 1) (e1 : rd' 1 = rd 1) (e15 : ∀ j : Nat, j < T → rd' (15 + j) = rd (15 + j)) (eT : rd' (15 + T) = h) (e21 : ∀ j : Nat, j < 8 → rd' (21 + j) = rd (21 + j)) (a4 : ∀ i : Nat, μ' 112 i = if i = T then x else μ 112 i) (hx : x = if h < 0 then 0 else hx_ah rd h.toNat + 2 ^ h.toNat) (a5 : ∀ i : Nat, μ' 114 i = if i = T then 0 else μ 114 i) : hc_G rd' μ' := by
  have hb := hx_okb hK (T := T) (by omega)
  have hb' : ∀ j : Nat, j ≤ T → rd' (15 + j) < (j : Int) := fun j hj => by
    by_cases e : j = T
    · rw [e, eT]; exact hh.2
    · rw [e15 j (by omega)]; exact hb j (by omega)
  have k1 := hK.2.1
  intro k hk hl
  rw [a4, a5]
  by_cases e : k = T
  · rw [if_pos e, if_pos e, e]
    refine ⟨?_, ?_⟩
    · rw [hx_ah1 h6 hb', eT, hx]
      by_cases q : h < 0
      · rw [if_pos q, if_pos q]
      · rw [if_neg q, if_neg q]
        unfold hx_ah
        rw [hx_ahC 6 h.toNat (fun j hj => e15 j (by omega)) (fun j hj => hb j (by omega))]
    · refine (hx_fo0 _ (fun j hj => ?_)).symm
      rw [e1] at hj
      rw [e21 j (by omega)]
      have q := (hK.2.2.2.2.2 j (by omega) (by omega)).1
      omega
  · rw [if_neg e, if_neg e]
    have h9 := hG k hk (by omega)
    refine ⟨h9.1.trans ?_, h9.2.trans ?_⟩
    · unfold hx_ah
      exact (hx_ahC 6 k (fun j hj => e15 j (by omega)) (fun j hj => hb j (by omega))).symm
    · rw [e1]
      exact (hx_foC _ (fun j hj => e21 j (by omega))).symm
theorem hc_GF {rd rd' nm : Nat → Int} {μ μ' : xw_M} {F : Nat} {h x : Int} (hG : hc_G rd μ) (hK : hp_ok rd nm) (hF : rd 1 = (F : Int)) (h8 : F < 8) (hh : 0 ≤ h) (e0 : rd' 0 = rd 0) (e1 : rd' 1 = (F : Int) + 1) (e15 : ∀ j : Nat, j < 6 → rd' (15 + j) = rd (15 + j)) (e21 : ∀ j : Nat, j < F → rd' (21 + j) = rd (21 + j)) (eF : rd' (21 + F) = h) (a4 : ∀ i : Nat, μ' 112 i = μ 112 i) (a5 : ∀ i : Nat, μ' 114 i = if i = h.toNat then x else μ 114 i) (hx : x = μ 114 h.toNat + 2 ^ F) : hc_G rd' μ' := by
  have k0 := hK.1
  intro k hk hl
  rw [e0] at hl
  have hb := hx_okb hK (T := k + 1) (by omega)
  have h9 := hG k hk hl
  have n1 : (rd 1).toNat = F := by omega
  have n2 : (rd' 1).toNat = F + 1 := by omega
  rw [n1] at h9
  rw [a4, a5, n2, hx_foe, eF, hx_foC F e21]
  refine ⟨h9.1.trans ?_, ?_⟩
  · unfold hx_ah
    exact (hx_ahC 6 k (fun j hj => e15 j (by omega)) (fun j hj => hb j (by omega))).symm
  · by_cases e : k = h.toNat
    · rw [if_pos e, if_pos (by omega), hx, ← e, h9.2]
    · rw [if_neg e, if_neg (by omega), h9.2, Int.add_zero]
theorem hc_GC {rd rd' nm : Nat → Int} {μ μ' : xw_M} (hG : hc_G rd μ) (hK : hp_ok rd nm) (e0 : rd' 0 = rd 0) (e1 : rd' 1 = rd 1) (e15 : ∀ j : Nat, j < 6 → rd' (15 + j) = rd (15 + j)) (e21 : ∀ j : Nat, j < 8 → rd' (21 + j) = rd (21 + j)) (a4 : ∀ i : Nat, μ' 112 i = μ 112 i) (a5 : ∀ i : Nat, μ' 114 i = μ 114 i) : hc_G rd' μ' := by
  have k0 := hK.1
  have k1 := hK.2.1
  intro k hk hl
  rw [e0] at hl
  have hb := hx_okb hK (T := k + 1) (by omega)
  have h9 := hG k hk hl
  rw [a4, a5, e1]
  refine ⟨h9.1.trans ?_, h9.2.trans ?_⟩
  · unfold hx_ah
    exact (hx_ahC 6 k (fun j hj => e15 j (by omega)) (fun j hj => hb j (by omega))).symm
  · exact (hx_foC _ (fun j hj => e21 j (by omega))).symm
end HXS
section HXQ
/-! a set of FAULTS as bits -/
noncomputable def hx_bs (p : Nat → Bool) : Nat → Nat
  | 0 => 0
  | m + 1 => hx_bs p m + (if p m = true then 2 ^ m else 0)
theorem hx_bse (p : Nat → Bool) (m : Nat) : hx_bs p (m + 1) = hx_bs p m + (if p m = true then 2 ^ m else 0) := rfl
theorem hx_bsB {p : Nat → Bool} : ∀ m : Nat, hx_bs p m < 2 ^ m
  | 0 => by show 0 < 2 ^ 0; decide
  | m + 1 => by
    have h := hx_bsB (p := p) m
    rw [hx_bse, Nat.pow_succ]
    split <;> omega
theorem hx_bsT {p : Nat → Bool} {i : Nat} : ∀ m : Nat, (hx_bs p m).testBit i = (decide (i < m) && p i)
  | 0 => by
    show (0 : Nat).testBit i = _
    rw [Nat.zero_testBit, decide_eq_false (Nat.not_lt_zero i)]
    rfl
  | m + 1 => by
    have ih := hx_bsT (p := p) (i := i) m
    have hB := hx_bsB (p := p) m
    have e2 : 2 ^ (m + 1) = 2 ^ m * 2 := Nat.pow_succ ..
    rw [hx_bse]
    rcases Nat.lt_trichotomy i m with h | h | h
    · rw [decide_eq_true (show i < m + 1 by omega)]
      rw [decide_eq_true h] at ih
      by_cases hp : p m = true
      · rw [if_pos hp, Nat.add_comm, Nat.testBit_two_pow_add_gt h, ih]
      · rw [if_neg hp, Nat.add_zero, ih]
    · subst h
      rw [decide_eq_true (Nat.lt_succ_self i)]
      by_cases hp : p i = true
      · rw [if_pos hp, Nat.add_comm, Nat.testBit_two_pow_add_eq, Nat.testBit_lt_two_pow hB, hp]
        rfl
      · rw [if_neg hp, Nat.add_zero, Nat.testBit_lt_two_pow hB]
        cases hq : p i with
        | false => rfl
        | true => exact absurd hq hp
    · have e3 : 2 ^ (m + 1) ≤ 2 ^ i := Nat.pow_le_pow_right (by decide) h
      rw [decide_eq_false (show ¬ i < m + 1 by omega)]
      by_cases hp : p m = true
      · rw [if_pos hp, Nat.testBit_lt_two_pow (by omega)]
        rfl
      · rw [if_neg hp, Nat.add_zero, Nat.testBit_lt_two_pow (by omega)]
        rfl
theorem hx_bsA {p q : Nat → Bool} (m : Nat) : hx_bs p m &&& hx_bs q m = hx_bs (fun j => p j && q j) m := Nat.eq_of_testBit_eq (fun i => by
  rw [Nat.testBit_and, hx_bsT, hx_bsT, hx_bsT]
  cases decide (i < m) <;> cases p i <;> cases q i <;> rfl)
theorem hx_bsC {p q : Nat → Bool} : ∀ m : Nat, (∀ j : Nat, j < m → p j = q j) → hx_bs p m = hx_bs q m
  | 0, _ => rfl
  | m + 1, h => by rw [hx_bse, hx_bse, hx_bsC m (fun j hj => h j (by omega)), h m (by omega)]
/-- without one of them -/
theorem hx_bsR {p : Nat → Bool} {f : Nat} : ∀ m : Nat, hx_bs p m = hx_bs (fun j => p j && !(Nat.beq j f)) m + (if f < m ∧ p f = true then 2 ^ f else 0)
  | 0 => by
    rw [if_neg (fun q => Nat.not_lt_zero f q.1)]
    rfl
  | m + 1 => by
    have h := hx_bsR (p := p) (f := f) m
    rw [hx_bse, hx_bse, h]
    by_cases e : m = f
    · subst e
      have e0 : (if m < m ∧ p m = true then 2 ^ m else 0) = 0 := if_neg (fun q => absurd q.1 (Nat.lt_irrefl m))
      have e1 : (if (p m && !(Nat.beq m m)) = true then 2 ^ m else 0) = 0 := if_neg (by
        rw [Nat.beq_refl, Bool.not_true, Bool.and_false]
        exact Bool.false_ne_true)
      have e2 : (if m < m + 1 ∧ p m = true then 2 ^ m else 0) = (if p m = true then 2 ^ m else 0) := by
        by_cases hp : p m = true
        · rw [if_pos ⟨Nat.lt_succ_self m, hp⟩, if_pos hp]
        · rw [if_neg (fun q => hp q.2), if_neg hp]
      rw [e0, e1, e2]
    · have eb : Nat.beq m f = false := by
        cases hb : Nat.beq m f with
        | false => rfl
        | true => exact absurd (Nat.eq_of_beq_eq_true hb) e
      rw [eb, Bool.not_false, Bool.and_true]
      have ec : (if f < m + 1 ∧ p f = true then 2 ^ f else 0) = (if f < m ∧ p f = true then 2 ^ f else 0) := by
        by_cases hf : f < m ∧ p f = true
        · rw [if_pos hf, if_pos ⟨by omega, hf.2⟩]
        · rw [if_neg hf, if_neg (fun q => hf ⟨by omega, q.2⟩)]
      rw [ec]
      omega
/-- none among the first f -/
theorem hx_bs0 {p : Nat → Bool} : ∀ m : Nat, hx_bs p m = 0 ↔ ∀ j : Nat, j < m → p j = false
  | 0 => ⟨fun _ j hj => absurd hj (Nat.not_lt_zero j), fun _ => rfl⟩
  | m + 1 => by
    have ih := hx_bs0 (p := p) m
    have h2 : 0 < 2 ^ m := Nat.pow_pos (by decide)
    rw [hx_bse]
    refine ⟨fun h j hj => ?_, fun h => ?_⟩
    · by_cases hp : p m = true
      · rw [if_pos hp] at h
        omega
      · rw [if_neg hp] at h
        by_cases e : j = m
        · rw [e]
          cases hq : p m with
          | false => rfl
          | true => exact absurd hq hp
        · exact ih.mp (by omega) j (by omega)
    · rw [if_neg (by rw [h m (by omega)]; decide), ih.mpr (fun j hj => h j (by omega))]
/-! the machine's bits of small numbers -/
theorem xb_anN {a b : Nat} (ha : a < 256) (hb : b < 256) : Int32.ofInt (a : Int) &&& Int32.ofInt (b : Int) = Int32.ofInt ((a &&& b : Nat) : Int) := Int32.toBitVec_inj.1 (by
  simp only [Int32.toBitVec_and, Int32.toBitVec_ofInt, BitVec.ofInt_natCast, BitVec.ofNat_and])
theorem xb_ntG {p q : Nat → Bool} {m : Nat} (h : m ≤ 8) : Int32.ofInt ((hx_bs p m : Nat) : Int) &&& (Int32.ofInt ((hx_bs q m : Nat) : Int) ^^^ Int32.ofInt (-1)) = Int32.ofInt ((hx_bs (fun j => p j && !(q j)) m : Nat) : Int) := Int32.toBitVec_inj.1 (by
  simp only [Int32.toBitVec_and, Int32.toBitVec_xor, Int32.toBitVec_ofInt, BitVec.ofInt_natCast]
  have b1 := hx_bsB (p := p) m
  have b2 := hx_bsB (p := q) m
  have b3 := hx_bsB (p := fun j => p j && !(q j)) m
  have b4 : 2 ^ m ≤ 2 ^ 8 := Nat.pow_le_pow_right (by decide) h
  have e8 : (2 : Nat) ^ 8 = 256 := by decide
  have e32 : (2 : Nat) ^ 32 = 4294967296 := by decide
  rw [show BitVec.ofInt 32 (-1) = BitVec.allOnes 32 by decide, BitVec.xor_allOnes]
  refine BitVec.eq_of_toNat_eq ?_
  rw [BitVec.toNat_and, BitVec.toNat_not, BitVec.toNat_ofNat, BitVec.toNat_ofNat, BitVec.toNat_ofNat, Nat.mod_eq_of_lt (show hx_bs p m < 2 ^ 32 by omega), Nat.mod_eq_of_lt (show hx_bs q m < 2 ^ 32 by omega), Nat.mod_eq_of_lt (show hx_bs (fun j => p j && !(q j)) m < 2 ^ 32 by omega), show 2 ^ 32 - 1 - hx_bs q m = 2 ^ 32 - (hx_bs q m + 1) by omega]
  refine Nat.eq_of_testBit_eq (fun i => ?_)
  rw [Nat.testBit_and, Nat.testBit_two_pow_sub_succ (show hx_bs q m < 2 ^ 32 by omega), hx_bsT, hx_bsT, hx_bsT]
  by_cases hi : i < m
  · rw [decide_eq_true hi, decide_eq_true (show i < 32 by omega)]
    cases p i <;> cases q i <;> rfl
  · rw [decide_eq_false hi]
    rfl)
theorem xb_nt1 : ∀ f : Fin 8, ∀ a : Fin 256, Int32.ofInt ((a : Nat) : Int) &&& (Int32.ofInt (2 ^ (f : Nat)) ^^^ Int32.ofInt (-1)) = Int32.ofInt (((a : Nat) - (if (a : Nat).testBit (f : Nat) = true then 2 ^ (f : Nat) else 0) : Nat) : Int) := by decide +kernel
end HXQ
