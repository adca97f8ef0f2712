section HSE
/-! the text of a SENTENCE: what is wrong; or what follows, and how many ONES there are -/
abbrev hq_R : Type := Sum hp_E (Nat × Nat)
noncomputable def hq_bd {τ : Type} (a : hq_R) (f : Nat → Nat → Sum hp_E τ) : Sum hp_E τ := match a with
  | .inl e => .inl e
  | .inr q => f q.1 q.2
theorem hq_bdl {τ : Type} (e : hp_E) (f : Nat → Nat → Sum hp_E τ) : hq_bd (.inl e) f = .inl e := rfl
theorem hq_bdr {τ : Type} (p o : Nat) (f : Nat → Nat → Sum hp_E τ) : hq_bd (.inr (p, o)) f = f p o := rfl
noncomputable def hq_nu (a : Sum hp_E (Int × Nat)) (o : Nat) : hq_R := match a with
  | .inl e => .inl e
  | .inr q => .inr (q.2, o)
theorem hq_nul (e : hp_E) (o : Nat) : hq_nu (.inl e) o = .inl e := rfl
theorem hq_nur (v : Int) (p o : Nat) : hq_nu (.inr (v, p)) o = .inr (p, o) := rfl
/-- others joined by a WORD -/
noncomputable def hq_lp (t : Nat → Int) (n lim : Nat) (kw : Int) (F : Nat → Nat → hq_R) : Nat → Nat → Nat → hq_R
  | 0, p, o => .inr (p, o)
  | f + 1, p, o => if hp_k t n lim p = 2 ∧ hp_kw (hp_w t n p) = kw then hq_bd (F (hp_x t n p) o) (fun p1 o1 => hq_lp t n lim kw F f p1 o1) else .inr (p, o)
theorem hq_lp0 {t : Nat → Int} {n lim : Nat} {kw : Int} {F : Nat → Nat → hq_R} {p o : Nat} : hq_lp t n lim kw F 0 p o = .inr (p, o) := rfl
theorem hq_lpN {t : Nat → Int} {n lim : Nat} {kw : Int} {F : Nat → Nat → hq_R} {f p o : Nat} (h : ¬ (hp_k t n lim p = 2 ∧ hp_kw (hp_w t n p) = kw)) : hq_lp t n lim kw F f p o = .inr (p, o) := by
  cases f with
  | zero => rfl
  | succ f => exact if_neg h
theorem hq_lpL {t : Nat → Int} {n lim : Nat} {kw : Int} {F : Nat → Nat → hq_R} {f p o : Nat} {e : hp_E} (h : hp_k t n lim p = 2 ∧ hp_kw (hp_w t n p) = kw) (h2 : F (hp_x t n p) o = .inl e) : hq_lp t n lim kw F (f + 1) p o = .inl e := by
  show (if hp_k t n lim p = 2 ∧ hp_kw (hp_w t n p) = kw then hq_bd (F (hp_x t n p) o) (fun p1 o1 => hq_lp t n lim kw F f p1 o1) else (.inr (p, o) : hq_R)) = _
  rw [if_pos h, h2]
  rfl
theorem hq_lpR {t : Nat → Int} {n lim : Nat} {kw : Int} {F : Nat → Nat → hq_R} {f p o p1 o1 : Nat} (h : hp_k t n lim p = 2 ∧ hp_kw (hp_w t n p) = kw) (h2 : F (hp_x t n p) o = .inr (p1, o1)) : hq_lp t n lim kw F (f + 1) p o = hq_lp t n lim kw F f p1 o1 := by
  show (if hp_k t n lim p = 2 ∧ hp_kw (hp_w t n p) = kw then hq_bd (F (hp_x t n p) o) (fun p1 o1 => hq_lp t n lim kw F f p1 o1) else (.inr (p, o) : hq_R)) = _
  rw [if_pos h, h2]
  rfl
noncomputable def hq_jn (t : Nat → Int) (n lim : Nat) (kw : Int) (F : Nat → Nat → hq_R) (p o : Nat) : hq_R := hq_bd (F p o) (fun p1 o1 => hq_lp t n lim kw F 20 p1 o1)
theorem hq_jnL {t : Nat → Int} {n lim : Nat} {kw : Int} {F : Nat → Nat → hq_R} {p o : Nat} {e : hp_E} (h : F p o = .inl e) : hq_jn t n lim kw F p o = .inl e := by
  unfold hq_jn
  rw [h]
  rfl
theorem hq_jnR {t : Nat → Int} {n lim : Nat} {kw : Int} {F : Nat → Nat → hq_R} {p o p1 o1 : Nat} (h : F p o = .inr (p1, o1)) : hq_jn t n lim kw F p o = hq_lp t n lim kw F 20 p1 o1 := by
  unfold hq_jn
  rw [h]
  rfl
/-- a bracket's end -/
noncomputable def hq_en (t : Nat → Int) (n lim p : Nat) : Sum hp_E (Int × Nat) := if hp_k t n lim p = 4 ∧ hp_s t n p = 41 then .inr (0, hp_x t n p) else .inl (hp_bad t n lim 1 p)
noncomputable def hq_pa (t : Nat → Int) (n lim : Nat) (a : hq_R) : hq_R := hq_bd a (fun p o => hq_nu (hq_en t n lim p) o)
noncomputable def hq_cp (t : Nat → Int) (n lim p o : Nat) : hq_R := if hp_k t n lim p = 4 ∧ (hp_s t n p = 60 ∨ hp_s t n p = 61 ∨ hp_s t n p = 62) then hq_nu (hp_num t n lim 0 999 (hp_x t n p)) o else .inl (hp_bad t n lim 1 p)
noncomputable def hq_bo (t : Nat → Int) (n lim : Nat) (nm : Nat → Int) (m0 m1 : Nat) (F : Nat → Nat → hq_R) (p o : Nat) : hq_R :=
  if hp_k t n lim p = 4 then hq_pa t n lim (hq_jn t n lim 10 (hq_jn t n lim 11 F) (hp_x t n p) (o + 1))
  else if hp_kw (hp_w t n p) = 12 then F (hp_x t n p) (o + 1)
  else if hp_kw (hp_w t n p) = 16 then hq_nu (hp_one t n lim nm 6 m1 (hp_x t n p)) (o + 1)
  else if hp_kw (hp_w t n p) = 1 then hq_nu (hp_one t n lim nm 0 m0 (hp_x t n p)) (o + 1)
  else if 17 ≤ hp_kw (hp_w t n p) then hq_cp t n lim (hp_x t n p) (o + 1)
  else .inr (hp_x t n p, o + 1)
noncomputable def hq_is (t : Nat → Int) (n lim p : Nat) : Prop := (hp_k t n lim p = 2 ∧ (hp_kw (hp_w t n p) = 1 ∨ 12 ≤ hp_kw (hp_w t n p))) ∨ (hp_k t n lim p = 4 ∧ hp_s t n p = 40)
noncomputable def hq_ib (t : Nat → Int) (n lim p : Nat) : Bool := (decide (hp_k t n lim p = 2) && (decide (hp_kw (hp_w t n p) = 1) || decide (12 ≤ hp_kw (hp_w t n p)))) || (decide (hp_k t n lim p = 4) && decide (hp_s t n p = 40))
theorem hq_ibt {t : Nat → Int} {n lim p : Nat} : hq_ib t n lim p = true ↔ ((hp_k t n lim p = 2 ∧ (hp_kw (hp_w t n p) = 1 ∨ 12 ≤ hp_kw (hp_w t n p))) ∨ (hp_k t n lim p = 4 ∧ hp_s t n p = 40)) := by
  unfold hq_ib
  rw [Bool.or_eq_true, Bool.and_eq_true, Bool.and_eq_true, Bool.or_eq_true, decide_eq_true_eq, decide_eq_true_eq, decide_eq_true_eq, decide_eq_true_eq, decide_eq_true_eq]
noncomputable def hq_on (t : Nat → Int) (n lim : Nat) (nm : Nat → Int) (m0 m1 : Nat) : Nat → Nat → Nat → hq_R
  | 0, p, _ => if hq_ib t n lim p = true then .inl (hp_bad t n lim 4 p) else .inl (hp_bad t n lim 1 p)
  | d + 1, p, o => if hq_ib t n lim p = true then (if 20 ≤ o then .inl (hp_bad t n lim 4 p) else hq_bo t n lim nm m0 m1 (hq_on t n lim nm m0 m1 d) p o) else .inl (hp_bad t n lim 1 p)
noncomputable def hq_se (t : Nat → Int) (n : Nat) (nm : Nat → Int) (m0 m1 : Nat) : Sum hp_E Nat := hq_bd (hq_jn t n 200 10 (hq_jn t n 200 11 (hq_on t n 200 nm m0 m1 8)) 0 0) (fun p o => if hp_k t n 200 p = 0 then .inr o else .inl (hp_bad t n 200 1 p))
/-! case by case -/
theorem hq_onN {t : Nat → Int} {n lim : Nat} {nm : Nat → Int} {m0 m1 d p o : Nat} (h : ¬ ((hp_k t n lim p = 2 ∧ (hp_kw (hp_w t n p) = 1 ∨ 12 ≤ hp_kw (hp_w t n p))) ∨ (hp_k t n lim p = 4 ∧ hp_s t n p = 40))) : hq_on t n lim nm m0 m1 d p o = .inl (hp_bad t n lim 1 p) := by
  have h : ¬ hq_ib t n lim p = true := fun q => h (hq_ibt.mp q)
  cases d with
  | zero => exact if_neg h
  | succ d => exact if_neg h
theorem hq_onM {t : Nat → Int} {n lim : Nat} {nm : Nat → Int} {m0 m1 d p o : Nat} (h : (hp_k t n lim p = 2 ∧ (hp_kw (hp_w t n p) = 1 ∨ 12 ≤ hp_kw (hp_w t n p))) ∨ (hp_k t n lim p = 4 ∧ hp_s t n p = 40)) (h2 : d = 0 ∨ 20 ≤ o) : hq_on t n lim nm m0 m1 d p o = .inl (hp_bad t n lim 4 p) := by
  have h := hq_ibt.mpr h
  cases d with
  | zero => exact if_pos h
  | succ d =>
    have h2 : 20 ≤ o := by omega
    show (if hq_ib t n lim p = true then (if 20 ≤ o then (.inl (hp_bad t n lim 4 p) : hq_R) else hq_bo t n lim nm m0 m1 (hq_on t n lim nm m0 m1 d) p o) else .inl (hp_bad t n lim 1 p)) = _
    rw [if_pos h, if_pos h2]
theorem hq_onO {t : Nat → Int} {n lim : Nat} {nm : Nat → Int} {m0 m1 d p o : Nat} (h : (hp_k t n lim p = 2 ∧ (hp_kw (hp_w t n p) = 1 ∨ 12 ≤ hp_kw (hp_w t n p))) ∨ (hp_k t n lim p = 4 ∧ hp_s t n p = 40)) (h2 : ¬ 20 ≤ o) : hq_on t n lim nm m0 m1 (d + 1) p o = hq_bo t n lim nm m0 m1 (hq_on t n lim nm m0 m1 d) p o := by
  have h := hq_ibt.mpr h
  show (if hq_ib t n lim p = true then (if 20 ≤ o then (.inl (hp_bad t n lim 4 p) : hq_R) else hq_bo t n lim nm m0 m1 (hq_on t n lim nm m0 m1 d) p o) else .inl (hp_bad t n lim 1 p)) = _
  rw [if_pos h, if_neg h2]
theorem hq_boP {t : Nat → Int} {n lim : Nat} {nm : Nat → Int} {m0 m1 p o : Nat} {F : Nat → Nat → hq_R} (h : hp_k t n lim p = 4) : hq_bo t n lim nm m0 m1 F p o = hq_pa t n lim (hq_jn t n lim 10 (hq_jn t n lim 11 F) (hp_x t n p) (o + 1)) := if_pos h
theorem hq_boT {t : Nat → Int} {n lim : Nat} {nm : Nat → Int} {m0 m1 p o : Nat} {F : Nat → Nat → hq_R} (h : ¬ hp_k t n lim p = 4) (h2 : hp_kw (hp_w t n p) = 12) : hq_bo t n lim nm m0 m1 F p o = F (hp_x t n p) (o + 1) := by
  unfold hq_bo
  rw [if_neg h, if_pos h2]
theorem hq_boH {t : Nat → Int} {n lim : Nat} {nm : Nat → Int} {m0 m1 p o : Nat} {F : Nat → Nat → hq_R} (h : ¬ hp_k t n lim p = 4) (h2 : hp_kw (hp_w t n p) = 16) : hq_bo t n lim nm m0 m1 F p o = hq_nu (hp_one t n lim nm 6 m1 (hp_x t n p)) (o + 1) := by
  unfold hq_bo
  rw [if_neg h, if_neg (by omega), if_pos h2]
theorem hq_boB {t : Nat → Int} {n lim : Nat} {nm : Nat → Int} {m0 m1 p o : Nat} {F : Nat → Nat → hq_R} (h : ¬ hp_k t n lim p = 4) (h2 : hp_kw (hp_w t n p) = 1) : hq_bo t n lim nm m0 m1 F p o = hq_nu (hp_one t n lim nm 0 m0 (hp_x t n p)) (o + 1) := by
  unfold hq_bo
  rw [if_neg h, if_neg (by omega), if_neg (by omega), if_pos h2]
theorem hq_boC {t : Nat → Int} {n lim : Nat} {nm : Nat → Int} {m0 m1 p o : Nat} {F : Nat → Nat → hq_R} (h : ¬ hp_k t n lim p = 4) (h2 : 17 ≤ hp_kw (hp_w t n p)) : hq_bo t n lim nm m0 m1 F p o = hq_cp t n lim (hp_x t n p) (o + 1) := by
  unfold hq_bo
  rw [if_neg h, if_neg (by omega), if_neg (by omega), if_neg (by omega), if_pos h2]
theorem hq_boW {t : Nat → Int} {n lim : Nat} {nm : Nat → Int} {m0 m1 p o : Nat} {F : Nat → Nat → hq_R} (h : ¬ hp_k t n lim p = 4) (h2 : 13 ≤ hp_kw (hp_w t n p) ∧ hp_kw (hp_w t n p) ≤ 15) : hq_bo t n lim nm m0 m1 F p o = .inr (hp_x t n p, o + 1) := by
  unfold hq_bo
  rw [if_neg h, if_neg (by omega), if_neg (by omega), if_neg (by omega), if_neg (by omega)]
theorem hq_paL {t : Nat → Int} {n lim : Nat} {a : hq_R} {e : hp_E} (h : a = .inl e) : hq_pa t n lim a = .inl e := by
  rw [h]
  rfl
theorem hq_paR {t : Nat → Int} {n lim : Nat} {a : hq_R} {p o : Nat} (h : a = .inr (p, o)) : hq_pa t n lim a = hq_nu (hq_en t n lim p) o := by
  rw [h]
  rfl
theorem hq_cpN {t : Nat → Int} {n lim p o : Nat} (h : ¬ (hp_k t n lim p = 4 ∧ (hp_s t n p = 60 ∨ hp_s t n p = 61 ∨ hp_s t n p = 62))) : hq_cp t n lim p o = .inl (hp_bad t n lim 1 p) := if_neg h
theorem hq_cpY {t : Nat → Int} {n lim p o : Nat} (h : hp_k t n lim p = 4 ∧ (hp_s t n p = 60 ∨ hp_s t n p = 61 ∨ hp_s t n p = 62)) : hq_cp t n lim p o = hq_nu (hp_num t n lim 0 999 (hp_x t n p)) o := if_pos h
/-! how many ONES: one more at least, twenty at most -/
noncomputable def hq_gd (F : Nat → Nat → hq_R) : Prop := ∀ p o p1 o1 : Nat, o ≤ 20 → F p o = .inr (p1, o1) → o + 1 ≤ o1 ∧ o1 ≤ 20
theorem hq_lpg {t : Nat → Int} {n lim : Nat} {kw : Int} {F : Nat → Nat → hq_R} (hF : hq_gd F) : ∀ f p o p1 o1 : Nat, o ≤ 20 → hq_lp t n lim kw F f p o = .inr (p1, o1) → o ≤ o1 ∧ o1 ≤ 20
  | 0, p, o, p1, o1, ho, h => by
    have h : (.inr (p, o) : hq_R) = .inr (p1, o1) := h
    cases h
    exact ⟨Nat.le_refl _, ho⟩
  | f + 1, p, o, p1, o1, ho, h => by
    by_cases hk : hp_k t n lim p = 2 ∧ hp_kw (hp_w t n p) = kw
    · cases hf : F (hp_x t n p) o with
      | inl e =>
        rw [hq_lpL hk hf] at h
        cases h
      | inr q =>
        obtain ⟨p2, o2⟩ := q
        rw [hq_lpR hk hf] at h
        have h1 := hF _ _ _ _ ho hf
        have h2 := hq_lpg hF f p2 o2 p1 o1 h1.2 h
        omega
    · rw [hq_lpN hk] at h
      cases h
      exact ⟨Nat.le_refl _, ho⟩
theorem hq_jng {t : Nat → Int} {n lim : Nat} {kw : Int} {F : Nat → Nat → hq_R} (hF : hq_gd F) : hq_gd (hq_jn t n lim kw F) := fun p o p1 o1 ho h => by
  cases hf : F p o with
  | inl e =>
    rw [hq_jnL hf] at h
    cases h
  | inr q =>
    obtain ⟨p2, o2⟩ := q
    rw [hq_jnR hf] at h
    have h1 := hF _ _ _ _ ho hf
    have h2 := hq_lpg hF 20 p2 o2 p1 o1 h1.2 h
    omega
theorem hq_nug {a : Sum hp_E (Int × Nat)} {o p1 o1 : Nat} (h : hq_nu a o = .inr (p1, o1)) : o1 = o := by
  cases a with
  | inl e => cases h
  | inr q =>
    have h : (.inr (q.2, o) : hq_R) = .inr (p1, o1) := h
    cases h
    rfl
theorem hq_ong {t : Nat → Int} {n lim : Nat} {nm : Nat → Int} {m0 m1 : Nat} : ∀ d : Nat, hq_gd (hq_on t n lim nm m0 m1 d)
  | 0 => fun p o p1 o1 ho h => by
    have h : (if hq_ib t n lim p = true then (.inl (hp_bad t n lim 4 p) : hq_R) else .inl (hp_bad t n lim 1 p)) = .inr (p1, o1) := h
    split at h <;> cases h
  | d + 1 => fun p o p1 o1 ho h => by
    have ih := hq_ong (t := t) (n := n) (lim := lim) (nm := nm) (m0 := m0) (m1 := m1) d
    have h : (if hq_ib t n lim p = true then (if 20 ≤ o then (.inl (hp_bad t n lim 4 p) : hq_R) else hq_bo t n lim nm m0 m1 (hq_on t n lim nm m0 m1 d) p o) else .inl (hp_bad t n lim 1 p)) = .inr (p1, o1) := h
    split at h
    · split at h
      · cases h
      · rename_i h20
        unfold hq_bo at h
        split at h
        · unfold hq_pa at h
          cases hf : hq_jn t n lim 10 (hq_jn t n lim 11 (hq_on t n lim nm m0 m1 d)) (hp_x t n p) (o + 1) with
          | inl e =>
            rw [hf] at h
            cases h
          | inr q =>
            obtain ⟨p2, o2⟩ := q
            rw [hf, hq_bdr] at h
            have h1 := hq_jng (hq_jng ih) _ _ _ _ (by omega) hf
            have h2 := hq_nug h
            omega
        · split at h
          · have h1 := ih _ _ _ _ (by omega) h
            omega
          · split at h
            · have h1 := hq_nug h
              omega
            · split at h
              · have h1 := hq_nug h
                omega
              · split at h
                · unfold hq_cp at h
                  split at h
                  · have h1 := hq_nug h
                    omega
                  · cases h
                · cases h
                  omega
    · cases h
end HSE
