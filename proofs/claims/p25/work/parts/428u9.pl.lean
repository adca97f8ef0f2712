section HXB
/-! the row of DEEDS that costs the fewest MINUTES: (cost, how long, the row) -/
abbrev hx_pB : Type := Int × Int × (Nat → Int)
noncomputable def hx_sm (W : Nat → Int) : Nat → Int
  | 0 => 0
  | m + 1 => hx_sm W m + W m
theorem hx_sme (W : Nat → Int) (m : Nat) : hx_sm W (m + 1) = hx_sm W m + W m := rfl
theorem hx_smB {W : Nat → Int} : ∀ m : Nat, (∀ f : Nat, f < m → 0 ≤ W f ∧ W f ≤ 171072) → 0 ≤ hx_sm W m ∧ hx_sm W m ≤ 171072 * (m : Int)
  | 0, _ => ⟨Int.le_refl 0, by show (0 : Int) ≤ 171072 * ((0 : Nat) : Int); decide⟩
  | m + 1, h => by
    have ih := hx_smB m (fun f hf => h f (by omega))
    have h1 := h m (by omega)
    rw [hx_sme]
    omega
theorem hx_smC {W W' : Nat → Int} : ∀ m : Nat, (∀ f : Nat, f < m → W f = W' f) → hx_sm W m = hx_sm W' m
  | 0, _ => rfl
  | m + 1, h => by rw [hx_sme, hx_sme, hx_smC m (fun f hf => h f (by omega)), h m (by omega)]
noncomputable def hx_nw (v W : Nat → Int) (d f : Nat) : Int := W f / 12 * (12 - v (53 + (3 * f + d)))
theorem hx_mul {a b A B : Int} (ha : 0 ≤ a ∧ a ≤ A) (hb : 0 ≤ b ∧ b ≤ B) : 0 ≤ a * b ∧ a * b ≤ A * B := ⟨Int.mul_nonneg ha.1 hb.1, Int.mul_le_mul ha.2 hb.2 hb.1 (Int.le_trans ha.1 ha.2)⟩
theorem hx_nwB {v W nm : Nat → Int} {d f : Nat} (hK : hp_ok v nm) (hd : d ≤ 2) (hf : f < 8) (h : 0 ≤ W f ∧ W f ≤ 171072) : 0 ≤ hx_nw v W d f ∧ hx_nw v W d f ≤ 171072 := by
  have h1 := hK.2.2.2.1 (3 * f + d) (by omega)
  have h2 := hx_mul (a := W f / 12) (b := 12 - v (53 + (3 * f + d))) (A := 14256) (B := 12) (by omega) (by omega)
  unfold hx_nw
  omega
noncomputable def hx_pm (v : Nat → Int) (T d : Nat) : Int := if d = 0 then v (9 + T) + v (3 + T) else if d = 1 then 2 else if d = 2 then 60 else 120
theorem hx_pmB {v nm : Nat → Int} {T : Nat} (hK : hp_ok v nm) (hT : (T : Int) < v 0) (d : Nat) : 0 ≤ hx_pm v T d ∧ hx_pm v T d ≤ 120 := by
  have k0 := hK.1
  have q := hK.2.2.2.2.1 T (by omega) hT
  have q1 := q.1
  have q2 := q.2.1
  unfold hx_pm
  split
  · omega
  · split
    · omega
    · split <;> omega
theorem hx_pm0 (v : Nat → Int) (T : Nat) : hx_pm v T 0 = v (9 + T) + v (3 + T) ∧ hx_pm v T 1 = 2 ∧ hx_pm v T 2 = 60 ∧ hx_pm v T 3 = 120 := ⟨rfl, rfl, rfl, rfl⟩
noncomputable def hx_ru (row : Nat → Int) (k : Nat) (x : Int) : Nat → Int := fun i => if i = k then x else row i
noncomputable def hx_kp (B : hx_pB) (z c : Int) (row : Nat → Int) : hx_pB := if c < B.1 then (c, z, row) else B
noncomputable def hx_S (v : Nat → Int) (T : Nat) : Nat → Nat → (Nat → Int) → Nat → Int → (Nat → Int) → hx_pB → hx_pB
  | 0, _, _, _, _, _, B => B
  | n + 1, k, W, dn, c, row, B =>
    if hx_sm W 8 = 0 then hx_kp B (k : Int) c row
    else hx_kp ((fun B2 : hx_pB => if dn.testBit 2 = true then B2 else hx_S v T n (k + 1) (hx_nw v W 2) (dn + 2 ^ 2) (c + hx_sm W 8 * hx_pm v T 2) (hx_ru row k 2) B2) ((fun B1 : hx_pB => if dn.testBit 1 = true then B1 else hx_S v T n (k + 1) (hx_nw v W 1) (dn + 2 ^ 1) (c + hx_sm W 8 * hx_pm v T 1) (hx_ru row k 1) B1) (if dn.testBit 0 = true then B else hx_S v T n (k + 1) (hx_nw v W 0) (dn + 2 ^ 0) (c + hx_sm W 8 * hx_pm v T 0) (hx_ru row k 0) B))) ((k : Int) + 1) (c + hx_sm W 8 * 120) (hx_ru row k 3)
/-- one DEED tried, or not since it was -/
noncomputable def hx_sd (v : Nat → Int) (T n k : Nat) (W : Nat → Int) (dn : Nat) (c : Int) (row : Nat → Int) (d : Nat) (B : hx_pB) : hx_pB := if dn.testBit d = true then B else hx_S v T n (k + 1) (hx_nw v W d) (dn + 2 ^ d) (c + hx_sm W 8 * hx_pm v T d) (hx_ru row k (d : Int)) B
theorem hx_Se {v : Nat → Int} {T n k : Nat} {W : Nat → Int} {dn : Nat} {c : Int} {row : Nat → Int} {B : hx_pB} (h : ¬ hx_sm W 8 = 0) : hx_S v T (n + 1) k W dn c row B = hx_kp (hx_sd v T n k W dn c row 2 (hx_sd v T n k W dn c row 1 (hx_sd v T n k W dn c row 0 B))) ((k : Int) + 1) (c + hx_sm W 8 * 120) (hx_ru row k 3) := by
  show (if hx_sm W 8 = 0 then _ else _) = _
  rw [if_neg h]
  rfl
theorem hx_Sz {v : Nat → Int} {T n k : Nat} {W : Nat → Int} {dn : Nat} {c : Int} {row : Nat → Int} {B : hx_pB} (h : hx_sm W 8 = 0) : hx_S v T (n + 1) k W dn c row B = hx_kp B (k : Int) c row := by
  show (if hx_sm W 8 = 0 then _ else _) = _
  rw [if_pos h]
theorem hx_sdT {v : Nat → Int} {T n k : Nat} {W : Nat → Int} {dn : Nat} {c : Int} {row : Nat → Int} {d : Nat} {B : hx_pB} (h : dn.testBit d = true) : hx_sd v T n k W dn c row d B = B := if_pos h
theorem hx_sdF {v : Nat → Int} {T n k : Nat} {W : Nat → Int} {dn : Nat} {c : Int} {row : Nat → Int} {d : Nat} {B : hx_pB} (h : dn.testBit d = false) : hx_sd v T n k W dn c row d B = hx_S v T n (k + 1) (hx_nw v W d) (dn + 2 ^ d) (c + hx_sm W 8 * hx_pm v T d) (hx_ru row k (d : Int)) B := if_neg (by rw [h]; exact Bool.false_ne_true)
/-- how the class says it: at the planner; how the reference -/
noncomputable def hx_bC (B : hx_pB) (μ : xw_M) : Prop := ((B.1 = 2000000000 ∧ μ 137 2 = -1) ∨ (B.1 < 2000000000 ∧ 0 ≤ B.1 ∧ μ 137 2 = B.1)) ∧ (B.1 < 2000000000 → μ 137 1 = B.2.1 ∧ (∀ i : Nat, i < 4 → (i : Int) < B.2.1 → μ 138 i = B.2.2 i))
noncomputable def hx_bR (B : hx_pB) (μ : xw_M) : Prop := (0 ≤ B.1 ∧ B.1 ≤ 2000000000 ∧ μ 200 31 = B.1) ∧ (B.1 < 2000000000 → μ 200 30 = B.2.1 ∧ (∀ i : Nat, i < 4 → (i : Int) < B.2.1 → μ 214 i = B.2.2 i))
theorem hx_kpT {B : hx_pB} {z c : Int} {row : Nat → Int} (h : c < B.1) : hx_kp B z c row = (c, z, row) := if_pos h
theorem hx_kpF {B : hx_pB} {z c : Int} {row : Nat → Int} (h : ¬ c < B.1) : hx_kp B z c row = B := if_neg h
/-- bits of what was done -/
theorem xb_pr1 : ∀ a : Fin 8, ∀ u : Fin 3, tb_hb (Int32.ofInt ((a : Nat) : Int)) (Int32.ofInt ((u : Nat) : Int)) = Int32.ofInt (if (a : Nat).testBit (u : Nat) = true then 1 else 0) := by decide +kernel
theorem xb_pr2 : ∀ a : Fin 8, ∀ u : Fin 3, (a : Nat).testBit (u : Nat) = true ∨ (Int32.ofInt ((a : Nat) : Int) ||| Int32.ofInt (2 ^ (u : Nat)) = Int32.ofInt (((a : Nat) + 2 ^ (u : Nat) : Nat) : Int) ∧ (a : Nat) + 2 ^ (u : Nat) < 8 ∧ hs_pc ((a : Nat) + 2 ^ (u : Nat)) = hs_pc (a : Nat) + 1) := by decide +kernel
theorem xb_pr3 : ∀ a : Fin 8, hs_pc (a : Nat) = 3 → (a : Nat) = 7 := by decide +kernel
theorem xb_prB {a u : Nat} (ha : a < 8) (hu : u < 3) : tb_hb (Int32.ofInt (a : Int)) (Int32.ofInt (u : Int)) = Int32.ofInt (if a.testBit u = true then 1 else 0) := xb_pr1 ⟨a, ha⟩ ⟨u, hu⟩
theorem xb_prO {a u : Nat} (ha : a < 8) (hu : u < 3) (h : a.testBit u = false) : Int32.ofInt (a : Int) ||| Int32.ofInt (2 ^ u) = Int32.ofInt ((a + 2 ^ u : Nat) : Int) ∧ a + 2 ^ u < 8 ∧ hs_pc (a + 2 ^ u) = hs_pc a + 1 := (xb_pr2 ⟨a, ha⟩ ⟨u, hu⟩).resolve_left (by
  show ¬ a.testBit u = true
  rw [h]
  exact Bool.false_ne_true)
/-! the common divisor -/
theorem hx_gcS {a b : Nat} : Nat.gcd b (a % b) = Nat.gcd a b := by
  rw [Nat.gcd_comm a b, Nat.gcd_rec b a, Nat.gcd_comm]
theorem hx_euH {a b : Nat} (hb : 0 < b) (h : b ≤ a) : 2 * (b * (a % b)) ≤ a * b := by
  have h3 := Nat.div_add_mod a b
  have h4 : b * 1 ≤ b * (a / b) := Nat.mul_le_mul_left b (Nat.div_pos h hb)
  have h6 := Nat.mod_lt a hb
  have h5 : b + a % b ≤ a := by omega
  have h7 := Nat.mul_le_mul_right b h5
  have h8 := Nat.mul_le_mul_right b (Nat.le_of_lt h6)
  rw [Nat.add_mul] at h7
  rw [Nat.mul_comm b (a % b)]
  omega
theorem hx_euE {a b e : Nat} (hb : 0 < b) (h : b ≤ a) (he : a * b < 2 ^ e) : ∃ e' : Nat, e = e' + 1 ∧ b * (a % b) < 2 ^ e' := by
  have h1 := hx_euH hb h
  have h2 : 1 * 1 ≤ a * b := Nat.mul_le_mul (Nat.le_trans hb h) hb
  cases e with
  | zero =>
    exfalso
    have : (2 : Nat) ^ 0 = 1 := rfl
    omega
  | succ e =>
    refine ⟨e, rfl, ?_⟩
    rw [Nat.pow_succ] at he
    omega
theorem hx_eu0 {a b : Nat} (ha : a ≤ 2147483647) (hb : b ≤ 2147483647) : a * b < 2 ^ 62 := by
  have h := Nat.mul_le_mul ha hb
  have h2 : (2147483647 : Nat) * 2147483647 < 2 ^ 62 := by decide
  omega
noncomputable def hx_lt (w : Int) (A B : Nat) : Int := (if w = 0 then (A : Int) else (B : Int)) / ((Nat.gcd A B : Nat) : Int)
/-! the start -/
noncomputable def hx_w0 (v : Nat → Int) (p : Nat → Bool) (M f : Nat) : Int := if (decide (f < M) && p f) = true then v (37 + f) * 1728 else 0
theorem hx_w0B {v nm : Nat → Int} {p : Nat → Bool} {f : Nat} (hK : hp_ok v nm) (hf : f < 8) : 0 ≤ hx_w0 v p (v 1).toNat f ∧ hx_w0 v p (v 1).toNat f ≤ 171072 := by
  unfold hx_w0
  split
  · rename_i h
    rw [Bool.and_eq_true] at h
    have h1 := of_decide_eq_true h.1
    have q := (hK.2.2.2.2.2 f hf (by omega)).2.2.1
    omega
  · omega
theorem hx_smP {W : Nat → Int} {f : Nat} : ∀ m : Nat, (∀ j : Nat, j < m → 0 ≤ W j) → f < m → W f ≤ hx_sm W m
  | 0, _, h => absurd h (Nat.not_lt_zero f)
  | m + 1, hW, h => by
    rw [hx_sme]
    have h0 : ∀ n : Nat, n ≤ m → 0 ≤ hx_sm W n := fun n => by
      induction n with
      | zero => intro _; exact Int.le_refl 0
      | succ n ih =>
        intro hn
        have := ih (by omega)
        have := hW n (by omega)
        rw [hx_sme]
        omega
    have h9 := h0 m (Nat.le_refl m)
    by_cases e : f = m
    · subst e
      have := hW f (by omega)
      omega
    · have ih := hx_smP (W := W) (f := f) m (fun j hj => hW j (by omega)) (by omega)
      have := hW m (by omega)
      omega
theorem hx_w0P {v nm : Nat → Int} {p : Nat → Bool} {f : Nat} (hK : hp_ok v nm) (hf : f < (v 1).toNat) (hp : p f = true) : 1728 ≤ hx_sm (hx_w0 v p (v 1).toNat) 8 := by
  have k1 := hK.2.1
  have h1 := hx_smP (W := hx_w0 v p (v 1).toNat) (f := f) 8 (fun j hj => (hx_w0B hK hj).1) (by omega)
  have h2 : hx_w0 v p (v 1).toNat f = v (37 + f) * 1728 := if_pos (by rw [decide_eq_true hf, hp]; rfl)
  have q := (hK.2.2.2.2.2 f (by omega) (by omega)).2.2.1
  omega
theorem xb_b9 {p : Nat → Bool} {m u : Nat} (h : m ≤ 8) (hu : u < 8) : tb_hb (Int32.ofInt ((hx_bs p m : Nat) : Int)) (Int32.ofInt (u : Int)) = Int32.ofInt (if (decide (u < m) && p u) = true then 1 else 0) := by
  have hB := hx_bsB (p := p) m
  have h1 : 2 ^ m ≤ 2 ^ 8 := Nat.pow_le_pow_right (by decide) h
  have e8 : (2 : Nat) ^ 8 = 256 := by decide
  have q := xb_b81 ⟨hx_bs p m, by omega⟩ ⟨u, hu⟩
  have q : tb_hb (Int32.ofInt ((hx_bs p m : Nat) : Int)) (Int32.ofInt (u : Int)) = Int32.ofInt (if (hx_bs p m).testBit u = true then 1 else 0) := q
  rw [hx_bsT] at q
  exact q
theorem hx_kpL (B : hx_pB) (z c : Int) (row : Nat → Int) : (hx_kp B z c row).1 ≤ c ∧ (0 ≤ B.1 → 0 ≤ c → 0 ≤ (hx_kp B z c row).1) := by
  by_cases h : c < B.1
  · rw [hx_kpT h]
    exact ⟨Int.le_refl c, fun _ h2 => h2⟩
  · rw [hx_kpF h]
    exact ⟨by omega, fun h1 _ => h1⟩
/-- all of it -/
noncomputable def hx_pS (v : Nat → Int) (p : Nat → Bool) (T : Nat) : hx_pB := hx_S v T 4 0 (hx_w0 v p (v 1).toNat) 0 0 (fun _ => 0) (2000000000, 0, fun _ => 0)
theorem hx_pSL {v nm : Nat → Int} {p : Nat → Bool} {T : Nat} (hK : hp_ok v nm) (hs : ¬ hx_sm (hx_w0 v p (v 1).toNat) 8 = 0) : (hx_pS v p T).1 ≤ 164229120 := by
  have s9 := hx_smB (W := hx_w0 v p (v 1).toNat) 8 (fun f hf => hx_w0B hK hf)
  have e : hx_pS v p T = _ := hx_Se (n := 3) hs
  rw [e]
  have := (hx_kpL (hx_sd v T 3 0 (hx_w0 v p (v 1).toNat) 0 0 (fun _ => 0) 2 (hx_sd v T 3 0 (hx_w0 v p (v 1).toNat) 0 0 (fun _ => 0) 1 (hx_sd v T 3 0 (hx_w0 v p (v 1).toNat) 0 0 (fun _ => 0) 0 (2000000000, 0, fun _ => 0)))) (((0 : Nat) : Int) + 1) (0 + hx_sm (hx_w0 v p (v 1).toNat) 8 * 120) (hx_ru (fun _ => 0) 0 3)).1
  omega
theorem hx_bsE {p : Nat → Bool} {m : Nat} (h : ¬ hx_bs p m = 0) : ∃ j : Nat, j < m ∧ p j = true := Classical.byContradiction (fun hn => h ((hx_bs0 m).mpr (fun j hj => by
  cases hp : p j with
  | false => rfl
  | true => exact absurd ⟨j, hj, hp⟩ hn)))
/-! which sets are right -/
theorem hx_sb {p : Nat → Bool} {q : Nat → Bool} {m : Nat} : hx_bs (fun j => p j && !(q j)) m = 0 ↔ ∀ j : Nat, j < m → p j = true → q j = true := by
  rw [hx_bs0]
  constructor
  · intro h j hj hp
    have h1 := h j hj
    rw [hp, Bool.true_and] at h1
    cases hq : q j with
    | true => rfl
    | false =>
      rw [hq] at h1
      cases h1
  · intro h j hj
    cases hp : p j with
    | false => rfl
    | true => rw [h j hj hp]; rfl
/-- bits beyond those of a set -/
theorem xb_sub {x y : Int} {m : Nat} (hm : m < 256) (hx : -2147483648 ≤ x ∧ x ≤ 2147483647) (hy : -2147483648 ≤ y ∧ y ≤ 2147483647) (h : Int32.ofInt x &&& (Int32.ofInt (m : Int) ^^^ Int32.ofInt (-1)) = Int32.ofInt y) : y = 0 ↔ 0 ≤ x ∧ ∀ i : Nat, x.toNat.testBit i = true → m.testBit i = true := by
  have e32 : (2 : Nat) ^ 32 = 4294967296 := by decide
  have hX := congrArg (fun z : Int32 => z.toBitVec.toNat) h
  simp only [Int32.toBitVec_and, Int32.toBitVec_xor, Int32.toBitVec_ofInt, BitVec.ofInt_natCast] at hX
  rw [show BitVec.ofInt 32 (-1) = BitVec.allOnes 32 by decide, BitVec.xor_allOnes, BitVec.toNat_and, BitVec.toNat_not, BitVec.toNat_ofNat, Nat.mod_eq_of_lt (show m < 2 ^ 32 by omega), show 2 ^ 32 - 1 - m = 2 ^ 32 - (m + 1) by omega, BitVec.toNat_ofInt, BitVec.toNat_ofInt] at hX
  have hxn : (x % ((2 ^ 32 : Nat) : Int)).toNat = if x < 0 then (x + 4294967296).toNat else x.toNat := by
    rw [e32]
    split <;> omega
  have hyn : (y % ((2 ^ 32 : Nat) : Int)).toNat = 0 ↔ y = 0 := by
    rw [e32]
    omega
  rw [← hyn, ← hX]
  generalize hn : (x % ((2 ^ 32 : Nat) : Int)).toNat = n at hxn ⊢
  have hn9 : n < 2 ^ 32 := by
    rw [hxn, e32]
    split <;> omega
  have key : n &&& (2 ^ 32 - (m + 1)) = 0 ↔ ∀ i : Nat, n.testBit i = true → m.testBit i = true := by
    constructor
    · intro z i hi
      have z2 : (n &&& (2 ^ 32 - (m + 1))).testBit i = (0 : Nat).testBit i := congrArg (fun q : Nat => q.testBit i) z
      have h32 : i < 32 := by
        rcases Nat.lt_or_ge i 32 with q | q
        · exact q
        · rw [Nat.testBit_lt_two_pow (Nat.lt_of_lt_of_le hn9 (Nat.pow_le_pow_right (by decide) q))] at hi
          cases hi
      rw [Nat.testBit_and, Nat.zero_testBit, Nat.testBit_two_pow_sub_succ (show m < 2 ^ 32 by omega), hi, decide_eq_true h32, Bool.true_and, Bool.true_and] at z2
      cases hq : m.testBit i with
      | true => rfl
      | false =>
        rw [hq] at z2
        cases z2
    · intro z
      refine Nat.eq_of_testBit_eq (fun i => ?_)
      rw [Nat.testBit_and, Nat.zero_testBit, Nat.testBit_two_pow_sub_succ (show m < 2 ^ 32 by omega)]
      cases hi : n.testBit i with
      | false => rfl
      | true =>
        rw [z i hi, Bool.not_true, Bool.and_false]
        rfl
  rw [key, hxn]
  by_cases q : x < 0
  · rw [if_pos q]
    constructor
    · intro z
      exfalso
      have h31 : (x + 4294967296).toNat.testBit 31 = true := by
        rw [Nat.testBit_eq_decide_div_mod_eq]
        have e31 : (2 : Nat) ^ 31 = 2147483648 := by decide
        rw [e31]
        exact decide_eq_true (by omega)
      have h1 := z 31 h31
      rw [Nat.testBit_lt_two_pow (show m < 2 ^ 31 by
        have e31 : (2 : Nat) ^ 31 = 2147483648 := by decide
        omega)] at h1
      cases h1
    · intro z
      omega
  · rw [if_neg q]
    exact ⟨fun z => ⟨by omega, z⟩, fun z => z.2⟩
/-- the class's test and the reference's are one -/
theorem hx_pA {v nm : Nat → Int} {T : Nat} {s y : Int} (hK : hp_ok v nm) (hs : -2147483648 ≤ s ∧ s ≤ 2147483647) (hy : -2147483648 ≤ y ∧ y ≤ 2147483647) (h : Int32.ofInt s &&& (Int32.ofInt ((hx_bs (hx_hm v T) (v 1).toNat : Nat) : Int) ^^^ Int32.ofInt (-1)) = Int32.ofInt y) : (¬ s = 0 ∧ y = 0) ↔ ((1 ≤ s ∧ s < 2 ^ (v 1).toNat) ∧ ∀ f : Nat, f < 8 → s.toNat.testBit f = true → v (21 + f) = (T : Int)) := by
  have k1 := hK.2.1
  have hB := hx_b8 (p := hx_hm v T) (m := (v 1).toNat) (by omega)
  have hP := hx_bsB (p := hx_hm v T) (v 1).toNat
  have e2p : ((2 ^ (v 1).toNat : Nat) : Int) = (2 : Int) ^ (v 1).toNat := by push_cast; rfl
  rw [xb_sub hB hs hy h]
  constructor
  · intro ⟨h0, h1, h2⟩
    have hlt : s.toNat < 2 ^ (v 1).toNat := Nat.lt_pow_two_of_testBit _ (fun i hi => by
      cases hq : s.toNat.testBit i with
      | false => rfl
      | true =>
        have h3 := h2 i hq
        rw [hx_bsT, decide_eq_false (show ¬ i < (v 1).toNat by omega)] at h3
        cases h3)
    refine ⟨⟨by omega, by omega⟩, fun f hf hq => ?_⟩
    have h3 := h2 f hq
    rw [hx_bsT, Bool.and_eq_true] at h3
    exact of_decide_eq_true h3.2
  · intro ⟨h1, h2⟩
    refine ⟨by omega, by omega, fun i hi => ?_⟩
    have hlt : s.toNat < 2 ^ (v 1).toNat := by omega
    have him : i < (v 1).toNat := by
      rcases Nat.lt_or_ge i (v 1).toNat with q | q
      · exact q
      · rw [Nat.testBit_lt_two_pow (Nat.lt_of_lt_of_le hlt (Nat.pow_le_pow_right (by decide) q))] at hi
        cases hi
    rw [hx_bsT, decide_eq_true him, Bool.true_and]
    exact decide_eq_true (h2 i (by omega) hi)
/-- what is taken: a THING, FAULTS of it alone, which of both -/
noncomputable def hx_plk (v : Nat → Int) (t9 s9 w9 : Int) : Prop := (0 ≤ t9 ∧ t9 < v 0) ∧ ((1 ≤ s9 ∧ s9 < 2 ^ (v 1).toNat) ∧ ∀ f : Nat, f < 8 → s9.toNat.testBit f = true → v (21 + f) = t9) ∧ (0 ≤ w9 ∧ w9 ≤ 1)
noncomputable def hx_pq (v : Nat → Int) (t9 s9 : Int) : hx_pB := hx_pS v (fun j => s9.toNat.testBit j) t9.toNat
noncomputable def hx_pw (v : Nat → Int) (s9 : Int) : Nat := (hx_sm (hx_w0 v (fun j => s9.toNat.testBit j) (v 1).toNat) 8).toNat
noncomputable def hx_pr (v : Nat → Int) (t9 s9 w9 : Int) : Int := hx_lt w9 (hx_pq v t9 s9).1.toNat (hx_pw v s9)
/-- a set that is taken -/
theorem hx_pN {v nm : Nat → Int} {s9 : Int} (hK : hp_ok v nm) (h : 1 ≤ s9 ∧ s9 < 2 ^ (v 1).toNat) : s9 = ((hx_bs (fun j => s9.toNat.testBit j) (v 1).toNat : Nat) : Int) ∧ 1728 ≤ hx_sm (hx_w0 v (fun j => s9.toNat.testBit j) (v 1).toNat) 8 := by
  have e2p : ((2 ^ (v 1).toNat : Nat) : Int) = (2 : Int) ^ (v 1).toNat := by push_cast; rfl
  have e : hx_bs (fun j => s9.toNat.testBit j) (v 1).toNat = s9.toNat := hx_wB (by omega)
  refine ⟨by rw [e]; omega, ?_⟩
  obtain ⟨j, hj, hp⟩ := hx_bsE (p := fun j => s9.toNat.testBit j) (m := (v 1).toNat) (by rw [e]; omega)
  exact hx_w0P hK hj hp
theorem hx_ltB {w : Int} {A B : Nat} (hA : A ≤ 2147483647) (hB : B ≤ 2147483647) : 0 ≤ hx_lt w A B ∧ hx_lt w A B ≤ 2147483647 := by
  unfold hx_lt
  have key : ∀ x : Int, 0 ≤ x → x ≤ 2147483647 → 0 ≤ x / ((Nat.gcd A B : Nat) : Int) ∧ x / ((Nat.gcd A B : Nat) : Int) ≤ 2147483647 := fun x h1 h2 => ⟨Int.ediv_nonneg h1 (Int.natCast_nonneg _), Int.le_trans (Int.ediv_le_self _ h1) h2⟩
  split
  · exact key _ (by omega) (by omega)
  · exact key _ (by omega) (by omega)
theorem hx_prB {v nm : Nat → Int} {t9 s9 w9 : Int} (hK : hp_ok v nm) (h : hx_plk v t9 s9 w9) : 0 ≤ hx_pr v t9 s9 w9 ∧ hx_pr v t9 s9 w9 ≤ 2147483647 := by
  have h1 := (hx_pN hK h.2.1.1).2
  have h2 := hx_pSL (v := v) (nm := nm) (p := fun j => s9.toNat.testBit j) (T := t9.toNat) hK (by omega)
  have h3 := hx_smB (W := hx_w0 v (fun j => s9.toNat.testBit j) (v 1).toNat) 8 (fun f hf => hx_w0B hK hf)
  unfold hx_pr hx_pq hx_pw
  exact hx_ltB (by omega) (by omega)
/-- what both have kept of it -/
theorem hx_bCR {B : hx_pB} {μ μ' : xw_M} (hB : B.1 < 2000000000) (h1 : hx_bC B μ) (h2 : hx_bR B μ') : μ 137 1 = μ' 200 30 ∧ ∀ i : Nat, i < 4 → (i : Int) < μ' 200 30 → μ 138 i = μ' 214 i := by
  have a := h1.2 hB
  have b := h2.2 hB
  refine ⟨a.1.trans b.1.symm, fun i hi hl => ?_⟩
  have hl : (i : Int) < B.2.1 := by have q := b.1; omega
  exact (a.2 i hi hl).trans (b.2 i hi hl).symm
end HXB
