section HXZ
noncomputable def hx_sp (v : Nat → Int) (t l : Int) (j : Nat) : Bool := decide ((if v (21 + j) = t then v (45 + j) else 18) = l)
noncomputable def hx_al (v : Nat → Int) (F j : Nat) : Bool := decide (v (21 + j) = v (21 + F)) && decide (v (45 + j) = v (45 + F))
noncomputable def hx_kn (v : Nat → Int) : Nat → Nat
  | 0 => 0
  | f + 1 => hx_kn v f + (if hx_bs (hx_al v f) f = 0 then 1 else 0)
theorem hx_kne (v : Nat → Int) (f : Nat) : hx_kn v (f + 1) = hx_kn v f + (if hx_bs (hx_al v f) f = 0 then 1 else 0) := rfl
theorem xb_orB {p : Nat → Bool} {k : Nat} (h : k < 8) : Int32.ofInt ((hx_bs p k : Nat) : Int) ||| Int32.ofInt (2 ^ k) = Int32.ofInt ((hx_bs p k + 2 ^ k : Nat) : Int) := by
  have e : ((2 ^ k : Nat) : Int) = (2 : Int) ^ k := by push_cast; rfl
  have hB := hx_bsB (p := p) k
  rw [xb_orN h ⟨by omega, by omega⟩, ← e, ← Int.natCast_add]
theorem hx_b8 {p : Nat → Bool} {m : Nat} (h : m ≤ 8) : hx_bs p m < 256 := by
  have hB := hx_bsB (p := p) m
  have h1 : 2 ^ m ≤ 2 ^ 8 := Nat.pow_le_pow_right (by decide) h
  have e8 : (2 : Nat) ^ 8 = 256 := by decide
  omega
theorem hx_fob {v : Nat → Int} {k : Nat} : ∀ m : Nat, hx_fo v k m = ((hx_bs (fun j => decide (v (21 + j) = (k : Int))) m : Nat) : Int)
  | 0 => rfl
  | m + 1 => by
    rw [hx_foe, hx_bse, hx_fob m]
    by_cases q : v (21 + m) = (k : Int)
    · rw [if_pos q, if_pos (decide_eq_true q)]
      push_cast
      rfl
    · rw [if_neg q, if_neg (by rw [decide_eq_false q]; decide)]
      rfl
theorem hx_bsM {p : Nat → Bool} {f : Nat} : ∀ d : Nat, hx_bs p (f + d) % 2 ^ f = hx_bs p f
  | 0 => Nat.mod_eq_of_lt (hx_bsB f)
  | d + 1 => by
    have ih := hx_bsM (p := p) (f := f) d
    show hx_bs p (f + d + 1) % 2 ^ f = _
    rw [hx_bse]
    split
    · obtain ⟨c, hc⟩ : ∃ c, 2 ^ (f + d) = 2 ^ f * c := ⟨2 ^ d, Nat.pow_add 2 f d⟩
      rw [hc, Nat.add_mul_mod_self_left, ih]
    · rw [Nat.add_zero, ih]
theorem xb_md {a f : Nat} (ha : a < 256) (hf : f < 8) : Int32.ofInt (a : Int) &&& Int32.ofInt (2 ^ f - 1) = Int32.ofInt ((a % 2 ^ f : Nat) : Int) := by
  have e : ((2 ^ f : Nat) : Int) = (2 : Int) ^ f := by push_cast; rfl
  have h0 : 0 < 2 ^ f := Nat.pow_pos (by decide)
  have h1 : 2 ^ f ≤ 2 ^ 7 := Nat.pow_le_pow_right (by decide) (by omega)
  have e7 : (2 : Nat) ^ 7 = 128 := by decide
  have e1 : (2 : Int) ^ f - 1 = ((2 ^ f - 1 : Nat) : Int) := by omega
  rw [e1, xb_anN ha (by omega), Nat.and_two_pow_sub_one_eq_mod]
theorem xb_ntB {a f : Nat} (ha : a < 256) (hf : f < 8) : Int32.ofInt (a : Int) &&& (Int32.ofInt (2 ^ f) ^^^ Int32.ofInt (-1)) = Int32.ofInt ((a - (if a.testBit f = true then 2 ^ f else 0) : Nat) : Int) := xb_nt1 ⟨f, hf⟩ ⟨a, ha⟩
theorem hx_alk (v : Nat → Int) (F : Nat) : hx_al v F F = true := by
  unfold hx_al
  rw [decide_eq_true rfl, decide_eq_true rfl]
  rfl
theorem hx_ntA {v : Nat → Int} {m F : Nat} (hF : F < m) : hx_bs (hx_al v F) m - (if (hx_bs (hx_al v F) m).testBit F = true then 2 ^ F else 0) = hx_bs (fun j => hx_al v F j && !(Nat.beq j F)) m := by
  have h1 := hx_bsR (p := hx_al v F) (f := F) m
  have h2 := hx_bsT (p := hx_al v F) (i := F) m
  rw [decide_eq_true hF, hx_alk] at h2
  rw [if_pos ⟨hF, hx_alk v F⟩] at h1
  rw [if_pos (show (hx_bs (hx_al v F) m).testBit F = true by rw [h2]; rfl)]
  omega
end HXZ
section HXT
/-! what a THING is behind, one by one; the MINUTES till it is UP -/
noncomputable def hx_chf (v : Nat → Int) : Nat → Nat → Nat → Bool
  | 0, _, _ => false
  | r + 1, k, u => if v (15 + k) < 0 then false else (Nat.beq u (v (15 + k)).toNat || hx_chf v r (v (15 + k)).toNat u)
noncomputable def hx_ch (v : Nat → Int) (k u : Nat) : Bool := hx_chf v 6 k u
theorem hx_che (v : Nat → Int) (r k u : Nat) : hx_chf v (r + 1) k u = if v (15 + k) < 0 then false else (Nat.beq u (v (15 + k)).toNat || hx_chf v r (v (15 + k)).toNat u) := rfl
theorem hx_chS {v : Nat → Int} {u : Nat} : ∀ r k : Nat, k < r → (∀ j : Nat, j ≤ k → v (15 + j) < (j : Int)) → hx_chf v (r + 1) k u = hx_chf v r k u
  | 0, k, h, _ => absurd h (Nat.not_lt_zero k)
  | r + 1, k, h, hb => by
    rw [hx_che v (r + 1) k, hx_che v r k]
    by_cases q : v (15 + k) < 0
    · rw [if_pos q, if_pos q]
    · have h1 := hb k (Nat.le_refl k)
      rw [if_neg q, if_neg q, hx_chS r (v (15 + k)).toNat (by omega) (fun j hj => hb j (by omega))]
theorem hx_chl {v : Nat → Int} {u : Nat} : ∀ r k : Nat, (∀ j : Nat, j ≤ k → v (15 + j) < (j : Int)) → hx_chf v r k u = true → u < k
  | 0, k, _, h => by cases h
  | r + 1, k, hb, h => by
    rw [hx_che] at h
    have h1 := hb k (Nat.le_refl k)
    by_cases q : v (15 + k) < 0
    · rw [if_pos q] at h
      cases h
    · rw [if_neg q, Bool.or_eq_true] at h
      rcases h with h | h
      · have := Nat.eq_of_beq_eq_true h
        omega
      · have := hx_chl r (v (15 + k)).toNat (fun j hj => hb j (by omega)) h
        omega
theorem hx_ch1 {v : Nat → Int} {k u : Nat} (h6 : k < 6) (hb : ∀ j : Nat, j ≤ k → v (15 + j) < (j : Int)) : hx_ch v k u = if v (15 + k) < 0 then false else (Nat.beq u (v (15 + k)).toNat || hx_ch v (v (15 + k)).toNat u) := by
  unfold hx_ch
  rw [hx_che v 5 k]
  by_cases q : v (15 + k) < 0
  · rw [if_pos q, if_pos q]
  · have h1 := hb k (Nat.le_refl k)
    rw [if_neg q, if_neg q, hx_chS 5 (v (15 + k)).toNat (by omega) (fun j hj => hb j (by omega))]
theorem hx_beqn {a b : Nat} (h : ¬ a = b) : Nat.beq a b = false := by
  cases hb : Nat.beq a b with
  | false => rfl
  | true => exact absurd (Nat.eq_of_beq_eq_true hb) h
theorem hx_chf0 {v : Nat → Int} {k u : Nat} (hb : ∀ j : Nat, j ≤ k → v (15 + j) < (j : Int)) (h : k ≤ u) : hx_ch v k u = false := by
  cases hc : hx_ch v k u with
  | false => rfl
  | true =>
    have := hx_chl 6 k hb hc
    omega
theorem hx_bsZ {p : Nat → Bool} {a : Nat} : ∀ d : Nat, (∀ j : Nat, a ≤ j → j < a + d → p j = false) → hx_bs p (a + d) = hx_bs p a
  | 0, _ => rfl
  | d + 1, h => by
    have ih := hx_bsZ d (fun j h1 h2 => h j h1 (by omega))
    show hx_bs p (a + d + 1) = _
    rw [hx_bse, ih, h (a + d) (by omega) (by omega)]
    rfl
/-- the set as bits -/
theorem hx_ahbs {v : Nat → Int} : ∀ k : Nat, k < 6 → (∀ j : Nat, j ≤ k → v (15 + j) < (j : Int)) → hx_ah v k = ((hx_bs (hx_ch v k) k : Nat) : Int) := by
  intro k
  induction k using Nat.strongRecOn with
  | _ k ih =>
    intro h6 hb
    have h1 := hb k (Nat.le_refl k)
    rw [hx_ah1 h6 hb]
    by_cases q : v (15 + k) < 0
    · have e : hx_bs (hx_ch v k) k = 0 := (hx_bs0 k).mpr (fun j hj => by rw [hx_ch1 h6 hb, if_pos q])
      rw [if_pos q, e]
      rfl
    · obtain ⟨b, hB⟩ : ∃ b : Nat, v (15 + k) = (b : Int) := ⟨(v (15 + k)).toNat, by omega⟩
      have hbk : b < k := by omega
      have e0 : (v (15 + k)).toNat = b := by omega
      have hcb : ∀ u : Nat, hx_ch v k u = (Nat.beq u b || hx_ch v b u) := fun u => by rw [hx_ch1 h6 hb, if_neg q, e0]
      have hbb : ∀ j : Nat, j ≤ b → v (15 + j) < (j : Int) := fun j hj => hb j (by omega)
      have z := hx_bsZ (p := hx_ch v k) (a := b + 1) (k - (b + 1)) (fun j j1 j2 => by
        rw [hcb, hx_beqn (by omega), hx_chf0 hbb (by omega)]
        rfl)
      rw [show b + 1 + (k - (b + 1)) = k by omega] at z
      have c := hx_bsC (p := hx_ch v k) (q := hx_ch v b) b (fun j hj => by
        rw [hcb, hx_beqn (by omega)]
        rfl)
      rw [if_neg q, e0, ih b hbk (by omega) hbb, z, hx_bse, hcb b, Nat.beq_refl, c]
      rw [if_pos (by rfl)]
      push_cast
      rfl
/-- one bit of it, by the machine -/
theorem xb_bt1 : ∀ a : Fin 64, ∀ u : Fin 6, tb_hb (Int32.ofInt ((a : Nat) : Int)) (Int32.ofInt ((u : Nat) : Int)) = Int32.ofInt (if (a : Nat).testBit (u : Nat) = true then 1 else 0) := by decide +kernel
theorem xb_btC {v : Nat → Int} {k u : Nat} (h6 : k < 6) (hu : u < k) : tb_hb (Int32.ofInt ((hx_bs (hx_ch v k) k : Nat) : Int)) (Int32.ofInt (u : Int)) = Int32.ofInt (if hx_ch v k u = true then 1 else 0) := by
  have hB := hx_bsB (p := hx_ch v k) k
  have h1 : 2 ^ k ≤ 2 ^ 6 := Nat.pow_le_pow_right (by decide) (by omega)
  have e6 : (2 : Nat) ^ 6 = 64 := by decide
  have q := xb_bt1 ⟨hx_bs (hx_ch v k) k, by omega⟩ ⟨u, by omega⟩
  have q : tb_hb (Int32.ofInt ((hx_bs (hx_ch v k) k : Nat) : Int)) (Int32.ofInt (u : Int)) = Int32.ofInt (if (hx_bs (hx_ch v k) k).testBit u = true then 1 else 0) := q
  rw [hx_bsT, decide_eq_true hu, Bool.true_and] at q
  exact q
/-! the greatest -/
noncomputable def hx_m (a b : Int) : Int := if b ≤ a then a else b
theorem hx_mc (a b : Int) : hx_m a b = hx_m b a := by
  unfold hx_m
  by_cases h : b ≤ a
  · rw [if_pos h]
    by_cases h2 : a ≤ b
    · rw [if_pos h2]; omega
    · rw [if_neg h2]
  · rw [if_neg h, if_pos (by omega)]
theorem xw_max {p : Program} {l : Launch} {e : Env} {R : Room} {s : State} {m : MethodId} {args : Array Value} {below : List Frame} {meth : Method} {c : Code} {Q : State → Prop} {D : va_G} {dA : Nat → ClassId} {A : Nat → Prop} {nL : Nat} {cl : List vw_C} {KT : List tb_kd} {al : List (Nat × Nat)} {kc ks : Nat} {μ : xw_M} {Ts : List Cond} {cc : ByteArray} {own : String} {pc idx : Nat} {L : List (Nat × Value)} {rest : List Value} {a b : Int} (C0 : sa_C p s m args c D dA A nL cl Ts cc own) (ha : -2147483648 ≤ a ∧ a ≤ 2147483647) (hb9 : -2147483648 ≤ b ∧ b ≤ 2147483647) (hd : decode cc pc = .ok (.invokestatic idx, 3)) (w1 : Cond.methodLink own idx Lib.Math.max.name ∈ Ts) (w2 : Cond.static Lib.Math.max.name ∈ Ts) (w4 : Cond.initialized "java/lang/Math" ∈ Ts) (w5 : Cond.code Lib.Math.max.name Lib.Math.max.code 2 (some .int) ∈ Ts) (hfr : 1 ≤ R.frames) (hlc : 21 ≤ R.locals) (hcat : (rest.map (fun v => v.category)).sum ≤ 8) (hkc : kc ≤ R.cells ∧ ks ≤ R.slots) (kk : xw_W p l e R s m args below meth c Q D dA A nL cl KT al kc ks μ (pc + 3) L (.int (Int32.ofInt (hx_m a b)) :: rest)) : xw_W p l e R s m args below meth c Q D dA A nL cl KT al kc ks μ pc L (.int (Int32.ofInt b) :: .int (Int32.ofInt a) :: rest) := by
  intro H locs ls w h1 h2 h3 h4 h5
  obtain ⟨hx, hb, hts, hown, hml, hK, hA⟩ := C0
  refine va_mmax hx hb (by rw [hml]; exact h1.1.symm) hown (hts _ w1) (hts _ w2) (hts _ w4) (hts _ w5) hfr (by omega) hkc.1 hkc.2 hd ?_
  have q1 := xw_ti (a := a) ha
  have q2 := xw_ti (a := b) hb9
  have e9 : (if Int32.ofInt a < Int32.ofInt b then Int32.ofInt b else Int32.ofInt a) = Int32.ofInt (hx_m a b) := by
    unfold hx_m
    by_cases h : b ≤ a
    · rw [if_pos h, if_neg (by rw [Int32.lt_iff_toInt_lt, q1, q2]; omega)]
    · rw [if_neg h, if_pos (by rw [Int32.lt_iff_toInt_lt, q1, q2]; omega)]
  rw [e9]
  exact kk H locs ls w h1 h2 h3 h4 h5
noncomputable def hx_rtf (v : Nat → Int) : Nat → Nat → Int
  | 0, _ => 0
  | r + 1, k => if v (15 + k) < 0 then v (9 + k) + v (3 + k) else hx_m (hx_rtf v r (v (15 + k)).toNat) (v (9 + k) + v (3 + k))
noncomputable def hx_rt (v : Nat → Int) (k : Nat) : Int := hx_rtf v 6 k
theorem hx_rte (v : Nat → Int) (r k : Nat) : hx_rtf v (r + 1) k = if v (15 + k) < 0 then v (9 + k) + v (3 + k) else hx_m (hx_rtf v r (v (15 + k)).toNat) (v (9 + k) + v (3 + k)) := rfl
theorem hx_rtS {v : Nat → Int} : ∀ r k : Nat, k < r → (∀ j : Nat, j ≤ k → v (15 + j) < (j : Int)) → hx_rtf v (r + 1) k = hx_rtf v r k
  | 0, k, h, _ => absurd h (Nat.not_lt_zero k)
  | r + 1, k, h, hb => by
    rw [hx_rte v (r + 1) k, hx_rte v r k]
    by_cases q : v (15 + k) < 0
    · rw [if_pos q, if_pos q]
    · have h1 := hb k (Nat.le_refl k)
      rw [if_neg q, if_neg q, hx_rtS r (v (15 + k)).toNat (by omega) (fun j hj => hb j (by omega))]
theorem hx_rt1 {v : Nat → Int} {k : Nat} (h6 : k < 6) (hb : ∀ j : Nat, j ≤ k → v (15 + j) < (j : Int)) : hx_rt v k = if v (15 + k) < 0 then v (9 + k) + v (3 + k) else hx_m (hx_rt v (v (15 + k)).toNat) (v (9 + k) + v (3 + k)) := by
  unfold hx_rt
  rw [hx_rte v 5 k]
  by_cases q : v (15 + k) < 0
  · rw [if_pos q, if_pos q]
  · have h1 := hb k (Nat.le_refl k)
    rw [if_neg q, if_neg q, hx_rtS 5 (v (15 + k)).toNat (by omega) (fun j hj => hb j (by omega))]
noncomputable def hx_mx (v : Nat → Int) (t : Nat) : Nat → Int
  | 0 => 0
  | m + 1 => if m = t ∨ hx_ch v t m = true then hx_m (hx_mx v t m) (v (9 + m) + v (3 + m)) else hx_mx v t m
theorem hx_mxe (v : Nat → Int) (t m : Nat) : hx_mx v t (m + 1) = if m = t ∨ hx_ch v t m = true then hx_m (hx_mx v t m) (v (9 + m) + v (3 + m)) else hx_mx v t m := rfl
theorem hx_mxC {v : Nat → Int} {t b : Nat} : ∀ m : Nat, (∀ u : Nat, u < m → ((u = t ∨ hx_ch v t u = true) ↔ (u = b ∨ hx_ch v b u = true))) → hx_mx v t m = hx_mx v b m
  | 0, _ => rfl
  | m + 1, h => by
    have ih := hx_mxC m (fun u hu => h u (by omega))
    rw [hx_mxe, hx_mxe, ih]
    by_cases q : m = t ∨ hx_ch v t m = true
    · rw [if_pos q, if_pos ((h m (by omega)).mp q)]
    · rw [if_neg q, if_neg (fun z => q ((h m (by omega)).mpr z))]
theorem hx_mxZ {v : Nat → Int} {t a : Nat} : ∀ d : Nat, (∀ u : Nat, a ≤ u → u < a + d → ¬ (u = t ∨ hx_ch v t u = true)) → hx_mx v t (a + d) = hx_mx v t a
  | 0, _ => rfl
  | d + 1, h => by
    show hx_mx v t (a + d + 1) = _
    rw [hx_mxe, if_neg (h (a + d) (by omega) (by omega))]
    exact hx_mxZ d (fun u h1 h2 => h u h1 (by omega))
/-- the greatest of all that it is behind -/
theorem hx_mxr {v : Nat → Int} : ∀ t : Nat, t < 6 → (∀ j : Nat, j ≤ t → v (15 + j) < (j : Int)) → (∀ j : Nat, j ≤ t → 1 ≤ v (3 + j) ∧ 0 ≤ v (9 + j)) → hx_mx v t (t + 1) = hx_rt v t := by
  intro t
  induction t using Nat.strongRecOn with
  | _ t ih =>
    intro h6 hb hp
    have h1 := hb t (Nat.le_refl t)
    have h2 := hp t (Nat.le_refl t)
    rw [hx_mxe, if_pos (Or.inl rfl), hx_rt1 h6 hb]
    by_cases q : v (15 + t) < 0
    · have z := hx_mxZ (v := v) (t := t) (a := 0) t (fun u u1 u2 => fun z => by
        rcases z with z | z
        · omega
        · rw [hx_ch1 h6 hb, if_pos q] at z
          cases z)
      rw [Nat.zero_add] at z
      rw [if_pos q, z]
      show hx_m 0 (v (9 + t) + v (3 + t)) = _
      unfold hx_m
      rw [if_neg (by omega)]
    · obtain ⟨b, hB⟩ : ∃ b : Nat, v (15 + t) = (b : Int) := ⟨(v (15 + t)).toNat, by omega⟩
      have hbt : b < t := by omega
      have e0 : (v (15 + t)).toNat = b := by omega
      have hcb : ∀ u : Nat, hx_ch v t u = (Nat.beq u b || hx_ch v b u) := fun u => by rw [hx_ch1 h6 hb, if_neg q, e0]
      have hbb : ∀ j : Nat, j ≤ b → v (15 + j) < (j : Int) := fun j hj => hb j (by omega)
      have z := hx_mxZ (v := v) (t := t) (a := b + 1) (t - (b + 1)) (fun u u1 u2 => fun z => by
        rcases z with z | z
        · omega
        · rw [hcb, hx_beqn (by omega), hx_chf0 hbb (by omega)] at z
          cases z)
      rw [show b + 1 + (t - (b + 1)) = t by omega] at z
      have c := hx_mxC (v := v) (t := t) (b := b) (b + 1) (fun u hu => by
        rw [hcb]
        constructor
        · intro z
          rcases z with z | z
          · omega
          · rw [Bool.or_eq_true] at z
            rcases z with z | z
            · exact Or.inl (Nat.eq_of_beq_eq_true z)
            · exact Or.inr z
        · intro z
          rcases z with z | z
          · rw [z, Nat.beq_refl]
            exact Or.inr rfl
          · rw [z, Bool.or_true]
            exact Or.inr rfl)
      rw [if_neg q, e0, z, c, ih b hbt (by omega) hbb (fun j hj => hp j (by omega))]
theorem hx_mxB {v : Nat → Int} {t : Nat} : ∀ m : Nat, (∀ j : Nat, j < m → v (9 + j) + v (3 + j) ≤ 50) → 0 ≤ hx_mx v t m ∧ hx_mx v t m ≤ 50
  | 0, _ => ⟨Int.le_refl 0, by show (0 : Int) ≤ 50; decide⟩
  | m + 1, h => by
    have ih := hx_mxB (v := v) (t := t) m (fun j hj => h j (by omega))
    have h1 := h m (by omega)
    rw [hx_mxe]
    split
    · unfold hx_m
      split <;> omega
    · exact ih
theorem hx_tf (b : Bool) : b = true ∨ b = false := by cases b <;> first | exact Or.inl rfl | exact Or.inr rfl
/-- of a HOUSE that is told -/
theorem hx_okR {v nm : Nat → Int} {T : Nat} (hK : hp_ok v nm) (hT : (T : Int) < v 0) : (∀ j : Nat, j ≤ T → v (15 + j) < (j : Int)) ∧ (∀ j : Nat, j ≤ T → 1 ≤ v (3 + j) ∧ 0 ≤ v (9 + j)) ∧ (∀ j : Nat, j < T + 1 → v (9 + j) + v (3 + j) ≤ 50) := by
  have k0 := hK.1
  refine ⟨fun j hj => ?_, fun j hj => ?_, fun j hj => ?_⟩
  · exact (hK.2.2.2.2.1 j (by omega) (by omega)).2.2.1.2
  · have q := hK.2.2.2.2.1 j (by omega) (by omega)
    exact ⟨q.1.1, q.2.1.1⟩
  · have q := hK.2.2.2.2.1 j (by omega) (by omega)
    have q1 := q.1.2
    have q2 := q.2.1.2
    omega
theorem hx_rtB {v nm : Nat → Int} {T : Nat} (hK : hp_ok v nm) (hT : (T : Int) < v 0) : 0 ≤ hx_rt v T ∧ hx_rt v T ≤ 50 := by
  have k0 := hK.1
  obtain ⟨h1, h2, h3⟩ := hx_okR hK hT
  rw [← hx_mxr T (by omega) h1 h2]
  exact hx_mxB (T + 1) h3
/-- what it is behind, first -/
theorem hx_rtN {v nm : Nat → Int} {T : Nat} (hK : hp_ok v nm) (hT : (T : Int) < v 0) : (v (15 + T) = -1 → hx_rt v T = v (9 + T) + v (3 + T)) ∧ (∀ b : Nat, v (15 + T) = (b : Int) → hx_rt v T = hx_m (hx_rt v b) (v (9 + T) + v (3 + T))) := by
  have k0 := hK.1
  obtain ⟨h1, h2, h3⟩ := hx_okR hK hT
  have e := hx_rt1 (v := v) (k := T) (by omega) h1
  refine ⟨fun q => ?_, fun b q => ?_⟩
  · rw [e, if_pos (by omega)]
  · rw [e, if_neg (by omega), show (v (15 + T)).toNat = b by omega]
theorem xb_btN {v nm : Nat → Int} {T u : Nat} (hK : hp_ok v nm) (hT : (T : Int) < v 0) (hu : u < T) : tb_hb (Int32.ofInt (hx_ah v T)) (Int32.ofInt (u : Int)) = Int32.ofInt (if hx_ch v T u = true then 1 else 0) := by
  have k0 := hK.1
  obtain ⟨h1, -, -⟩ := hx_okR hK hT
  rw [hx_ahbs T (by omega) h1]
  exact xb_btC (by omega) hu
end HXT
section HXK
/-! a set of FAULTS counted; what may be left behind a look -/
noncomputable def hx_pc (p : Nat → Bool) : Nat → Nat
  | 0 => 0
  | m + 1 => hx_pc p m + (if p m = true then 1 else 0)
theorem hx_pce (p : Nat → Bool) (m : Nat) : hx_pc p (m + 1) = hx_pc p m + (if p m = true then 1 else 0) := rfl
theorem hx_pcB {p : Nat → Bool} : ∀ m : Nat, hx_pc p m ≤ m
  | 0 => Nat.le_refl 0
  | m + 1 => by
    have ih := hx_pcB (p := p) m
    rw [hx_pce]
    split <;> omega
theorem hx_pcC {p q : Nat → Bool} : ∀ m : Nat, (∀ j : Nat, j < m → p j = q j) → hx_pc p m = hx_pc q m
  | 0, _ => rfl
  | m + 1, h => by rw [hx_pce, hx_pce, hx_pcC m (fun j hj => h j (by omega)), h m (by omega)]
theorem hx_pc0 {p : Nat → Bool} : ∀ m : Nat, (∀ j : Nat, j < m → p j = false) → hx_pc p m = 0
  | 0, _ => rfl
  | m + 1, h => by
    rw [hx_pce, hx_pc0 m (fun j hj => h j (by omega)), h m (by omega)]
    rfl
theorem hx_pcs : ∀ m : Fin 8, ∀ a : Fin 256, (a : Nat) < 2 ^ (m : Nat) → hs_pc ((a : Nat) + 2 ^ (m : Nat)) = hs_pc (a : Nat) + 1 := by decide +kernel
theorem hx_pcN {p : Nat → Bool} : ∀ m : Nat, m ≤ 8 → hs_pc (hx_bs p m) = hx_pc p m
  | 0, _ => by
    show hs_pc 0 = 0
    decide
  | m + 1, h => by
    have ih := hx_pcN (p := p) m (by omega)
    have hB := hx_bsB (p := p) m
    have h1 : 2 ^ m ≤ 2 ^ 8 := Nat.pow_le_pow_right (by decide) (by omega)
    have e8 : (2 : Nat) ^ 8 = 256 := by decide
    rw [hx_bse, hx_pce]
    by_cases q : p m = true
    · rw [if_pos q, if_pos q, ← ih]
      exact hx_pcs ⟨m, by omega⟩ ⟨hx_bs p m, by omega⟩ hB
    · rw [if_neg q, if_neg q, Nat.add_zero, Nat.add_zero]
      exact ih
/-- a number as a set -/
theorem hx_wB {w m : Nat} (h : w < 2 ^ m) : hx_bs (fun j => w.testBit j) m = w := Nat.eq_of_testBit_eq (fun i => by
  rw [hx_bsT]
  by_cases hi : i < m
  · rw [decide_eq_true hi]
    rfl
  · rw [decide_eq_false hi]
    exact (Nat.testBit_lt_two_pow (Nat.lt_of_lt_of_le h (Nat.pow_le_pow_right (by decide) (by omega)))).symm)
theorem xb_b81 : ∀ a : Fin 256, ∀ u : Fin 8, tb_hb (Int32.ofInt ((a : Nat) : Int)) (Int32.ofInt ((u : Nat) : Int)) = Int32.ofInt (if (a : Nat).testBit (u : Nat) = true then 1 else 0) := by decide +kernel
theorem xb_b8 {p : Nat → Bool} {m u : Nat} (h : m ≤ 8) (hu : u < m) : tb_hb (Int32.ofInt ((hx_bs p m : Nat) : Int)) (Int32.ofInt (u : Int)) = Int32.ofInt (if p u = true then 1 else 0) := by
  have hB := hx_bsB (p := p) m
  have h1 : 2 ^ m ≤ 2 ^ 8 := Nat.pow_le_pow_right (by decide) h
  have e8 : (2 : Nat) ^ 8 = 256 := by decide
  have q := xb_b81 ⟨hx_bs p m, by omega⟩ ⟨u, by omega⟩
  have q : tb_hb (Int32.ofInt ((hx_bs p m : Nat) : Int)) (Int32.ofInt (u : Int)) = Int32.ofInt (if (hx_bs p m).testBit u = true then 1 else 0) := q
  rw [hx_bsT, decide_eq_true hu, Bool.true_and] at q
  exact q
/-- beyond the first k bits there is none -/
theorem xb_msk {x y : Int} {k : Nat} (hx : -2147483648 ≤ x ∧ x ≤ 2147483647) (hy : -2147483648 ≤ y ∧ y ≤ 2147483647) (hk : k ≤ 8) (h : Int32.ofInt x &&& (Int32.ofInt (2 ^ k - 1) ^^^ Int32.ofInt (-1)) = Int32.ofInt y) : y = 0 ↔ 0 ≤ x ∧ x < 2 ^ k := by
  have e1 : (2 : Int) ^ k - 1 = ((2 ^ k - 1 : Nat) : Int) := by
    have h2 : 1 ≤ 2 ^ k := Nat.pow_pos (by decide)
    have e : ((2 ^ k : Nat) : Int) = (2 : Int) ^ k := by push_cast; rfl
    omega
  have e0 : ((2 ^ k : Nat) : Int) = (2 : Int) ^ k := by push_cast; rfl
  have b1 : 2 ^ k ≤ 2 ^ 8 := Nat.pow_le_pow_right (by decide) hk
  have b0 : 1 ≤ 2 ^ k := Nat.pow_pos (by decide)
  have e8 : (2 : Nat) ^ 8 = 256 := by decide
  have e32 : (2 : Nat) ^ 32 = 4294967296 := by decide
  have hX := congrArg (fun z : Int32 => z.toBitVec.toNat) h
  simp only [Int32.toBitVec_and, Int32.toBitVec_xor, Int32.toBitVec_ofInt, e1, BitVec.ofInt_natCast] at hX
  rw [show BitVec.ofInt 32 (-1) = BitVec.allOnes 32 by decide, BitVec.xor_allOnes, BitVec.toNat_and, BitVec.toNat_not, BitVec.toNat_ofNat, Nat.mod_eq_of_lt (show 2 ^ k - 1 < 2 ^ 32 by omega), show 2 ^ 32 - 1 - (2 ^ k - 1) = 2 ^ 32 - ((2 ^ k - 1) + 1) by omega, BitVec.toNat_ofInt, BitVec.toNat_ofInt] at hX
  have hxn : (x % ((2 ^ 32 : Nat) : Int)).toNat = if x < 0 then (x + 4294967296).toNat else x.toNat := by
    rw [e32]
    split <;> omega
  have hyn : (y % ((2 ^ 32 : Nat) : Int)).toNat = 0 ↔ y = 0 := by
    rw [e32]
    omega
  rw [← hyn, ← hX]
  generalize hn : (x % ((2 ^ 32 : Nat) : Int)).toNat = n at hxn ⊢
  have hn9 : n < 2 ^ 32 := by
    rw [hxn, e32]
    split <;> omega
  have key : n &&& (2 ^ 32 - ((2 ^ k - 1) + 1)) = 0 ↔ n < 2 ^ k := by
    constructor
    · intro z
      refine Nat.lt_pow_two_of_testBit n (fun i hi => ?_)
      have z2 : (n &&& (2 ^ 32 - ((2 ^ k - 1) + 1))).testBit i = (0 : Nat).testBit i := congrArg (fun q : Nat => q.testBit i) z
      rw [Nat.testBit_and, Nat.zero_testBit, Nat.testBit_two_pow_sub_succ (show 2 ^ k - 1 < 2 ^ 32 by omega), Nat.testBit_two_pow_sub_one, decide_eq_false (show ¬ i < k by omega)] at z2
      by_cases h32 : i < 32
      · rw [decide_eq_true h32] at z2
        simpa using z2
      · exact Nat.testBit_lt_two_pow (Nat.lt_of_lt_of_le hn9 (Nat.pow_le_pow_right (by decide) (by omega)))
    · intro z
      refine Nat.eq_of_testBit_eq (fun i => ?_)
      rw [Nat.testBit_and, Nat.zero_testBit, Nat.testBit_two_pow_sub_succ (show 2 ^ k - 1 < 2 ^ 32 by omega), Nat.testBit_two_pow_sub_one]
      by_cases hi : i < k
      · rw [decide_eq_true hi, Bool.not_true, Bool.and_false, Bool.and_false]
      · rw [Nat.testBit_lt_two_pow (Nat.lt_of_lt_of_le z (Nat.pow_le_pow_right (by decide) (by omega)))]
        rfl
  rw [key, hxn]
  split <;> omega
theorem hx_mS (a b : Int) : (b ≤ a ∧ hx_m a b = a) ∨ (a < b ∧ hx_m a b = b) := by
  unfold hx_m
  by_cases h : b ≤ a
  · exact Or.inl ⟨h, if_pos h⟩
  · exact Or.inr ⟨by omega, if_neg h⟩
/-! the class's most -/
noncomputable def hx_nt (v : Nat → Int) (p : Nat → Bool) (T : Nat) (j : Nat) : Bool := p j && !(decide (v (21 + j) = (T : Int)))
noncomputable def hx_pa (v : Nat → Int) (p : Nat → Bool) (F : Nat) (j : Nat) : Bool := p j && hx_al v F j
noncomputable def hx_ml (v : Nat → Int) (p : Nat → Bool) (T M : Nat) : Nat → Int
  | 0 => ((hx_pc (hx_nt v p T) M : Nat) : Int)
  | f + 1 => if p f = true ∧ v (21 + f) = (T : Int) then hx_m (hx_ml v p T M f) ((hx_pc (hx_pa v p f) M : Nat) : Int) else hx_ml v p T M f
theorem hx_mle (v : Nat → Int) (p : Nat → Bool) (T M f : Nat) : hx_ml v p T M (f + 1) = if p f = true ∧ v (21 + f) = (T : Int) then hx_m (hx_ml v p T M f) ((hx_pc (hx_pa v p f) M : Nat) : Int) else hx_ml v p T M f := rfl
theorem hx_mlB {v : Nat → Int} {p : Nat → Bool} {T M : Nat} : ∀ f : Nat, 0 ≤ hx_ml v p T M f ∧ hx_ml v p T M f ≤ (M : Int)
  | 0 => by
    have := hx_pcB (p := hx_nt v p T) M
    show 0 ≤ ((hx_pc (hx_nt v p T) M : Nat) : Int) ∧ ((hx_pc (hx_nt v p T) M : Nat) : Int) ≤ (M : Int)
    omega
  | f + 1 => by
    have ih := hx_mlB (v := v) (p := p) (T := T) (M := M) f
    have := hx_pcB (p := hx_pa v p f) M
    have hs := hx_mS (hx_ml v p T M f) ((hx_pc (hx_pa v p f) M : Nat) : Int)
    rw [hx_mle]
    split
    · omega
    · exact ih
/-! the reference's -/
noncomputable def hx_gp (v : Nat → Int) (p : Nat → Bool) (T f : Nat) (j : Nat) : Bool := p f && (p j && ((hx_al v f j && decide (v (21 + f) = (T : Int))) || (!(decide (v (21 + f) = (T : Int))) && !(decide (v (21 + j) = (T : Int))))))
noncomputable def hx_gm (v : Nat → Int) (p : Nat → Bool) (T M : Nat) : Nat → Int
  | 0 => 0
  | f + 1 => hx_m (hx_gm v p T M f) ((hx_pc (hx_gp v p T f) M : Nat) : Int)
theorem hx_gme (v : Nat → Int) (p : Nat → Bool) (T M f : Nat) : hx_gm v p T M (f + 1) = hx_m (hx_gm v p T M f) ((hx_pc (hx_gp v p T f) M : Nat) : Int) := rfl
theorem hx_gmB {v : Nat → Int} {p : Nat → Bool} {T M : Nat} : ∀ f : Nat, 0 ≤ hx_gm v p T M f ∧ hx_gm v p T M f ≤ (M : Int)
  | 0 => ⟨Int.le_refl 0, by show (0 : Int) ≤ (M : Int); omega⟩
  | f + 1 => by
    have ih := hx_gmB (v := v) (p := p) (T := T) (M := M) f
    have := hx_pcB (p := hx_gp v p T f) M
    have hs := hx_mS (hx_gm v p T M f) ((hx_pc (hx_gp v p T f) M : Nat) : Int)
    rw [hx_gme]
    omega
/-- those of the THING alone -/
noncomputable def hx_ma (v : Nat → Int) (p : Nat → Bool) (T M : Nat) : Nat → Int
  | 0 => 0
  | f + 1 => if p f = true ∧ v (21 + f) = (T : Int) then hx_m (hx_ma v p T M f) ((hx_pc (hx_pa v p f) M : Nat) : Int) else hx_ma v p T M f
theorem hx_mae (v : Nat → Int) (p : Nat → Bool) (T M f : Nat) : hx_ma v p T M (f + 1) = if p f = true ∧ v (21 + f) = (T : Int) then hx_m (hx_ma v p T M f) ((hx_pc (hx_pa v p f) M : Nat) : Int) else hx_ma v p T M f := rfl
theorem hx_maB {v : Nat → Int} {p : Nat → Bool} {T M : Nat} : ∀ f : Nat, 0 ≤ hx_ma v p T M f
  | 0 => Int.le_refl 0
  | f + 1 => by
    have ih := hx_maB (v := v) (p := p) (T := T) (M := M) f
    have hs := hx_mS (hx_ma v p T M f) ((hx_pc (hx_pa v p f) M : Nat) : Int)
    rw [hx_mae]
    split
    · omega
    · exact ih
theorem hx_mA (a b c : Int) : hx_m (hx_m a b) c = hx_m a (hx_m b c) := by
  have a1 := hx_mS a b
  have a2 := hx_mS (hx_m a b) c
  have a3 := hx_mS b c
  have a4 := hx_mS a (hx_m b c)
  omega
theorem hx_mlA {v : Nat → Int} {p : Nat → Bool} {T M : Nat} : ∀ f : Nat, hx_ml v p T M f = hx_m ((hx_pc (hx_nt v p T) M : Nat) : Int) (hx_ma v p T M f)
  | 0 => by
    show ((hx_pc (hx_nt v p T) M : Nat) : Int) = hx_m ((hx_pc (hx_nt v p T) M : Nat) : Int) 0
    have hs := hx_mS ((hx_pc (hx_nt v p T) M : Nat) : Int) 0
    omega
  | f + 1 => by
    have ih := hx_mlA (v := v) (p := p) (T := T) (M := M) f
    rw [hx_mle, hx_mae, ih]
    split
    · exact hx_mA _ _ _
    · rfl
theorem hx_gmA {v : Nat → Int} {p : Nat → Bool} {T M : Nat} : ∀ f : Nat, ∃ c : Int, hx_gm v p T M f = hx_m c (hx_ma v p T M f) ∧ ((c = 0 ∧ ∀ j : Nat, j < f → hx_nt v p T j = false) ∨ c = ((hx_pc (hx_nt v p T) M : Nat) : Int))
  | 0 => ⟨0, (by
    have hs := hx_mS 0 0
    show (0 : Int) = hx_m 0 0
    omega), Or.inl ⟨rfl, fun j hj => absurd hj (Nat.not_lt_zero j)⟩⟩
  | f + 1 => by
    obtain ⟨c, h1, h2⟩ := hx_gmA (v := v) (p := p) (T := T) (M := M) f
    have hm := hx_maB (v := v) (p := p) (T := T) (M := M) f
    have hc : 0 ≤ c := by
      rcases h2 with h2 | h2 <;> omega
    rw [hx_gme, hx_mae, h1]
    by_cases q : p f = true
    · by_cases r : v (21 + f) = (T : Int)
      · have e : hx_pc (hx_gp v p T f) M = hx_pc (hx_pa v p f) M := hx_pcC M (fun j _ => by
          unfold hx_gp hx_pa
          rw [q, decide_eq_true r, Bool.true_and, Bool.and_true, Bool.not_true, Bool.false_and, Bool.or_false])
        refine ⟨c, ?_, ?_⟩
        · rw [if_pos ⟨q, r⟩, e]
          exact hx_mA _ _ _
        · rcases h2 with ⟨g1, g2⟩ | h2
          · refine Or.inl ⟨g1, fun j hj => ?_⟩
            by_cases ej : j = f
            · rw [ej]
              unfold hx_nt
              rw [decide_eq_true r, Bool.not_true, Bool.and_false]
            · exact g2 j (by omega)
          · exact Or.inr h2
      · have e : hx_pc (hx_gp v p T f) M = hx_pc (hx_nt v p T) M := hx_pcC M (fun j _ => by
          unfold hx_gp hx_nt
          rw [q, decide_eq_false r, Bool.true_and, Bool.and_false, Bool.not_false, Bool.true_and, Bool.false_or])
        refine ⟨((hx_pc (hx_nt v p T) M : Nat) : Int), ?_, Or.inr rfl⟩
        rw [if_neg (fun z => r z.2), e]
        rcases h2 with ⟨g1, g2⟩ | h2
        · have a1 := hx_mS c (hx_ma v p T M f)
          have a2 := hx_mS (hx_m c (hx_ma v p T M f)) ((hx_pc (hx_nt v p T) M : Nat) : Int)
          have a3 := hx_mS ((hx_pc (hx_nt v p T) M : Nat) : Int) (hx_ma v p T M f)
          omega
        · have a1 := hx_mS c (hx_ma v p T M f)
          have a2 := hx_mS (hx_m c (hx_ma v p T M f)) ((hx_pc (hx_nt v p T) M : Nat) : Int)
          have a3 := hx_mS ((hx_pc (hx_nt v p T) M : Nat) : Int) (hx_ma v p T M f)
          omega
    · have q2 : p f = false := by
        cases z : p f with
        | false => rfl
        | true => exact absurd z q
      have e : hx_pc (hx_gp v p T f) M = 0 := hx_pc0 M (fun j _ => by
        unfold hx_gp
        rw [q2, Bool.false_and])
      refine ⟨c, ?_, ?_⟩
      · rw [if_neg (fun z => q z.1), e]
        have a1 := hx_mS c (hx_ma v p T M f)
        have a2 := hx_mS (hx_m c (hx_ma v p T M f)) ((0 : Nat) : Int)
        omega
      · rcases h2 with ⟨g1, g2⟩ | h2
        · refine Or.inl ⟨g1, fun j hj => ?_⟩
          by_cases ej : j = f
          · rw [ej]
            unfold hx_nt
            rw [q2, Bool.false_and]
          · exact g2 j (by omega)
        · exact Or.inr h2
theorem hx_gml {v : Nat → Int} {p : Nat → Bool} {T M : Nat} : hx_gm v p T M M = hx_ml v p T M M := by
  obtain ⟨c, h1, h2⟩ := hx_gmA (v := v) (p := p) (T := T) (M := M) M
  rw [h1, hx_mlA]
  rcases h2 with ⟨g1, g2⟩ | h2
  · rw [g1, hx_pc0 M g2]
    try rfl
  · rw [h2]
/-! where to look -/
noncomputable def hx_bb (v : Nat → Int) (p : Nat → Bool) (M : Nat) : Nat → Nat
  | 0 => 0
  | k + 1 => if hx_ml v p k M M < hx_ml v p (hx_bb v p M k) M M then k else hx_bb v p M k
theorem hx_bbe (v : Nat → Int) (p : Nat → Bool) (M k : Nat) : hx_bb v p M (k + 1) = if hx_ml v p k M M < hx_ml v p (hx_bb v p M k) M M then k else hx_bb v p M k := rfl
theorem hx_bbB {v : Nat → Int} {p : Nat → Bool} {M : Nat} : ∀ k : Nat, hx_bb v p M k ≤ k ∧ (1 ≤ k → hx_bb v p M k < k)
  | 0 => ⟨Nat.le_refl 0, fun h => absurd h (by decide)⟩
  | k + 1 => by
    have ih := hx_bbB (v := v) (p := p) (M := M) k
    rw [hx_bbe]
    split
    · exact ⟨by omega, fun _ => by omega⟩
    · exact ⟨by omega, fun _ => by omega⟩
theorem hx_bb1 (v : Nat → Int) (p : Nat → Bool) (M : Nat) : hx_bb v p M 1 = 0 := by
  rw [hx_bbe]
  split <;> rfl
/-- a HOUSE with FAULTS has THINGS -/
theorem hx_okT {v nm : Nat → Int} (hK : hp_ok v nm) (h : 1 ≤ v 1) : 1 ≤ v 0 := by
  have q := (hK.2.2.2.2.2 0 (by decide) (by show ((0 : Nat) : Int) < v 1; omega)).1
  omega
theorem xb_sh9 : ∀ f : Fin 9, Int32.ofInt 1 <<< (Int32.ofInt ((f : Nat) : Int) &&& 31) = Int32.ofInt (2 ^ (f : Nat)) := by decide +kernel
theorem xb_shM {f : Nat} (h : f ≤ 8) : Int32.ofInt 1 <<< (Int32.ofInt (f : Int) &&& 31) = Int32.ofInt (2 ^ f) := xb_sh9 ⟨f, by omega⟩
theorem hx_bcN {q : Nat → Bool} {m : Nat} (h : m ≤ 8) : hs_bc (Int32.ofInt ((hx_bs q m : Nat) : Int)) = Int32.ofInt ((hx_pc q m : Nat) : Int) := by
  have hB := hx_bsB (p := q) m
  have h1 : 2 ^ m ≤ 2 ^ 8 := Nat.pow_le_pow_right (by decide) h
  have e8 : (2 : Nat) ^ 8 = 256 := by decide
  rw [hs_bc1 (by omega), hx_pcN m h]
noncomputable def hx_hm (v : Nat → Int) (T : Nat) (j : Nat) : Bool := decide (v (21 + j) = (T : Int))
noncomputable def hx_ph (v : Nat → Int) (p : Nat → Bool) (T : Nat) (j : Nat) : Bool := p j && hx_hm v T j
theorem hx_phT {v : Nat → Int} {p : Nat → Bool} {T j : Nat} (h : hx_ph v p T j = true) : p j = true ∧ v (21 + j) = (T : Int) := by
  unfold hx_ph hx_hm at h
  rw [Bool.and_eq_true] at h
  exact ⟨h.1, of_decide_eq_true h.2⟩
theorem hx_phF {v : Nat → Int} {p : Nat → Bool} {T j : Nat} (h : hx_ph v p T j = false) : ¬ (p j = true ∧ v (21 + j) = (T : Int)) := fun z => by
  unfold hx_ph hx_hm at h
  rw [z.1, decide_eq_true z.2] at h
  cases h
theorem hx_gp1 {v : Nat → Int} {p : Nat → Bool} {T f j : Nat} (h1 : p f = true) (h2 : p j = true) (h3 : hx_al v f j = true) (h4 : v (21 + f) = (T : Int)) : hx_gp v p T f j = true := by
  unfold hx_gp
  rw [h1, h2, h3, decide_eq_true h4]
  rfl
theorem hx_gp2 {v : Nat → Int} {p : Nat → Bool} {T f j : Nat} (h1 : p f = true) (h2 : p j = true) (h4 : ¬ v (21 + f) = (T : Int)) (h5 : ¬ v (21 + j) = (T : Int)) : hx_gp v p T f j = true := by
  unfold hx_gp
  rw [h1, h2, decide_eq_false h4, decide_eq_false h5, Bool.and_false]
  rfl
theorem hx_gp3 {v : Nat → Int} {p : Nat → Bool} {T f j : Nat} (h1 : p f = false) : hx_gp v p T f j = false := by
  unfold hx_gp
  rw [h1]
  rfl
theorem hx_gp4 {v : Nat → Int} {p : Nat → Bool} {T f j : Nat} (h1 : p j = false) : hx_gp v p T f j = false := by
  unfold hx_gp
  rw [h1, Bool.false_and, Bool.and_false]
theorem hx_gp5 {v : Nat → Int} {p : Nat → Bool} {T f j : Nat} (h3 : hx_al v f j = false) (h4 : v (21 + f) = (T : Int)) : hx_gp v p T f j = false := by
  unfold hx_gp
  rw [h3, decide_eq_true h4, Bool.false_and, Bool.not_true, Bool.false_and, Bool.or_false, Bool.and_false, Bool.and_false]
theorem hx_gp6 {v : Nat → Int} {p : Nat → Bool} {T f j : Nat} (h4 : ¬ v (21 + f) = (T : Int)) (h5 : v (21 + j) = (T : Int)) : hx_gp v p T f j = false := by
  unfold hx_gp
  rw [decide_eq_false h4, decide_eq_true h5, Bool.and_false, Bool.not_true, Bool.and_false, Bool.or_false, Bool.and_false, Bool.and_false]
/-- the best so far, none at first -/
noncomputable def hx_b0 (v : Nat → Int) (p : Nat → Bool) (M : Nat) : Nat → Int
  | 0 => -1
  | k + 1 => ((hx_bb v p M (k + 1) : Nat) : Int)
theorem hx_b0S (v : Nat → Int) (p : Nat → Bool) (M k : Nat) : (k = 0 ∧ hx_b0 v p M k = -1) ∨ (1 ≤ k ∧ hx_b0 v p M k = ((hx_bb v p M k : Nat) : Int)) := by
  cases k with
  | zero => exact Or.inl ⟨rfl, rfl⟩
  | succ k => exact Or.inr ⟨by omega, rfl⟩
/-- where to look, what is left behind it -/
noncomputable def hx_lk (v : Nat → Int) (s : Nat) : Nat := hx_bb v (fun j => s.testBit j) (v 1).toNat (v 0).toNat
noncomputable def hx_lf (v : Nat → Int) (s : Nat) : Int := hx_ml v (fun j => s.testBit j) (hx_lk v s) (v 1).toNat (v 1).toNat
end HXK
