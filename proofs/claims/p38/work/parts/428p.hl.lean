section HPB
/-! the text of a HOUSE, LINE by LINE: rd what is told (THINGS, FAULTS, 'cures', then their rows), nm NAMES -/
noncomputable def hp_fd (nm : Nat → Int) (base : Nat) (v : Int) : Nat → Nat → Int
  | 0, _ => -1
  | r + 1, i => if nm (base + i) = v then (i : Int) else hp_fd nm base v r (i + 1)
noncomputable def hp_f (nm : Nat → Int) (base m : Nat) (v : Int) : Int := hp_fd nm base v m 0
theorem hp_fd1 {nm : Nat → Int} {base r i : Nat} {v : Int} (h : nm (base + i) = v) : hp_fd nm base v (r + 1) i = (i : Int) := by
  show (if nm (base + i) = v then (i : Int) else hp_fd nm base v r (i + 1)) = _
  rw [if_pos h]
theorem hp_fd0 {nm : Nat → Int} {base r i : Nat} {v : Int} (h : ¬ nm (base + i) = v) : hp_fd nm base v (r + 1) i = hp_fd nm base v r (i + 1) := by
  show (if nm (base + i) = v then (i : Int) else hp_fd nm base v r (i + 1)) = _
  rw [if_neg h]
theorem hp_fdb {nm : Nat → Int} {base : Nat} {v : Int} : ∀ r i : Nat, hp_fd nm base v r i = -1 ∨ ((i : Int) ≤ hp_fd nm base v r i ∧ hp_fd nm base v r i < ((i + r : Nat) : Int))
  | 0, _ => Or.inl rfl
  | r + 1, i => by
    have h := hp_fdb (nm := nm) (base := base) (v := v) r (i + 1)
    by_cases e : nm (base + i) = v
    · rw [hp_fd1 e]
      omega
    · rw [hp_fd0 e]
      omega
theorem hp_fb (nm : Nat → Int) (base m : Nat) (v : Int) : hp_f nm base m v = -1 ∨ (0 ≤ hp_f nm base m v ∧ hp_f nm base m v < (m : Int)) := by
  have h := hp_fdb (nm := nm) (base := base) (v := v) m 0
  unfold hp_f
  omega
theorem hp_fdc {nm nm' : Nat → Int} {base : Nat} {v : Int} : ∀ r i : Nat, (∀ k : Nat, i ≤ k → k < i + r → nm' (base + k) = nm (base + k)) → hp_fd nm' base v r i = hp_fd nm base v r i
  | 0, _, _ => rfl
  | r + 1, i, h => by
    have h1 := hp_fdc (v := v) r (i + 1) (fun k a b => h k (by omega) (by omega))
    show (if nm' (base + i) = v then (i : Int) else hp_fd nm' base v r (i + 1)) = (if nm (base + i) = v then (i : Int) else hp_fd nm base v r (i + 1))
    rw [h1, h i (Nat.le_refl i) (by omega)]
theorem hp_fc {nm nm' : Nat → Int} {base m : Nat} {v : Int} (h : ∀ k : Nat, k < m → nm' (base + k) = nm (base + k)) : hp_f nm' base m v = hp_f nm base m v := hp_fdc m 0 (fun k _ b => h k (by omega))
/-- what is wrong, or what comes out and what follows -/
abbrev hp_E : Type := Int × Int
noncomputable def hp_bd {τ : Type} (a : Sum hp_E (Int × Nat)) (f : Int → Nat → Sum hp_E τ) : Sum hp_E τ := match a with
  | .inl e => .inl e
  | .inr q => f q.1 q.2
theorem hp_bdl {τ : Type} (e : hp_E) (f : Int → Nat → Sum hp_E τ) : hp_bd (.inl e) f = .inl e := rfl
theorem hp_bdr {τ : Type} (x : Int) (p : Nat) (f : Int → Nat → Sum hp_E τ) : hp_bd (.inr (x, p)) f = f x p := rfl
noncomputable def hp_bad (t : Nat → Int) (n lim : Nat) (k : Int) (p : Nat) : hp_E := (k, ((hp_pl t n lim p : Nat) : Int))
noncomputable def hp_num (t : Nat → Int) (n lim : Nat) (a b : Int) (p : Nat) : Sum hp_E (Int × Nat) := if hp_k t n lim p = 3 then (if a ≤ hp_u t n p ∧ hp_u t n p ≤ b then .inr (hp_u t n p, hp_x t n p) else .inl (hp_bad t n lim 2 p)) else .inl (hp_bad t n lim 1 p)
noncomputable def hp_one (t : Nat → Int) (n lim : Nat) (nm : Nat → Int) (base m p : Nat) : Sum hp_E (Int × Nat) := if hp_k t n lim p = 2 ∧ hp_kw (hp_w t n p) = -1 then (if hp_f nm base m (hp_w t n p) = -1 then .inl (hp_bad t n lim 3 p) else .inr (hp_f nm base m (hp_w t n p), hp_x t n p)) else .inl (hp_bad t n lim 1 p)
noncomputable def hp_new (t : Nat → Int) (n lim : Nat) (rd nm : Nat → Int) (p : Nat) : Sum hp_E (Int × Nat) := if hp_k t n lim p = 2 ∧ hp_kw (hp_w t n p) = -1 then (if hp_f nm 0 (rd 0).toNat (hp_w t n p) = -1 ∧ hp_f nm 6 (rd 1).toNat (hp_w t n p) = -1 then .inr (hp_w t n p, hp_x t n p) else .inl (hp_bad t n lim 3 p)) else .inl (hp_bad t n lim 1 p)
noncomputable def hp_end (t : Nat → Int) (n lim p : Nat) : Sum hp_E (Int × Nat) := if hp_k t n lim p = 4 ∧ hp_s t n p = 59 then .inr (0, hp_x t n p) else .inl (hp_bad t n lim 1 p)
noncomputable def hp_up (rd : Nat → Int) (i : Nat) (x : Int) : Nat → Int := fun k => if k = i then x else rd k
theorem hp_upg {rd : Nat → Int} {i : Nat} {x : Int} : hp_up rd i x i = x := if_pos rfl
theorem hp_upn {rd : Nat → Int} {i k : Nat} {x : Int} (h : ¬ k = i) : hp_up rd i x k = rd k := if_neg h
abbrev hp_H : Type := Nat × (Nat → Int) × (Nat → Int)
/-- the rest of a LINE behind what it tells: what stands there now -/
noncomputable def hp_T (rd nm : Nat → Int) (v b w h : Int) (p : Nat) : hp_H := (p, hp_up (hp_up (hp_up (hp_up rd (3 + (rd 0).toNat) b) (9 + (rd 0).toNat) w) (15 + (rd 0).toNat) h) 0 (rd 0 + 1), hp_up nm (rd 0).toNat v)
noncomputable def hp_F (rd nm : Nat → Int) (v h a b c : Int) (p : Nat) : hp_H := (p, hp_up (hp_up (hp_up (hp_up (hp_up rd (21 + (rd 1).toNat) h) (29 + (rd 1).toNat) a) (37 + (rd 1).toNat) b) (45 + (rd 1).toNat) c) 1 (rd 1 + 1), hp_up nm (6 + (rd 1).toNat) v)
noncomputable def hp_C (rd nm : Nat → Int) (f d c : Int) (p : Nat) : hp_H := (p, hp_up (hp_up rd (53 + 3 * f + d).toNat c) 2 (rd 2 + 1), nm)
noncomputable def hp_beh (t : Nat → Int) (n lim : Nat) (rd nm : Nat → Int) (p : Nat) : Sum hp_E (Int × Nat) := if hp_k t n lim p = 2 ∧ hp_kw (hp_w t n p) = 1 then hp_one t n lim nm 0 (rd 0).toNat (hp_x t n p) else .inr (-1, p)
noncomputable def hp_thing (t : Nat → Int) (n lim : Nat) (rd nm : Nat → Int) (p : Nat) : Sum hp_E hp_H :=
  if 6 ≤ rd 0 then .inl (hp_bad t n lim 4 p) else
  hp_bd (hp_new t n lim rd nm (hp_x t n p)) (fun v p1 => hp_bd (hp_num t n lim 1 30 p1) (fun b p2 => hp_bd (hp_num t n lim 0 20 p2) (fun w p3 => hp_bd (hp_beh t n lim rd nm p3) (fun h p4 => hp_bd (hp_end t n lim p4) (fun _ p5 => .inr (hp_T rd nm v b w h p5))))))
noncomputable def hp_fault (t : Nat → Int) (n lim : Nat) (rd nm : Nat → Int) (p : Nat) : Sum hp_E hp_H :=
  if 8 ≤ rd 1 then .inl (hp_bad t n lim 4 p) else
  hp_bd (hp_new t n lim rd nm (hp_x t n p)) (fun v p1 => hp_bd (hp_one t n lim nm 0 (rd 0).toNat p1) (fun h p2 => hp_bd (hp_num t n lim 0 200 p2) (fun a p3 => hp_bd (hp_num t n lim 1 99 p3) (fun b p4 => hp_bd (hp_num t n lim 1 15 p4) (fun c p5 => hp_bd (hp_end t n lim p5) (fun _ p6 => .inr (hp_F rd nm v h a b c p6)))))))
/-- the DEED here: 0 to 2; -1 none -/
noncomputable def hp_dd (t : Nat → Int) (n lim p : Nat) : Int := if hp_k t n lim p = 2 ∧ 4 ≤ hp_kw (hp_w t n p) ∧ hp_kw (hp_w t n p) ≤ 6 then hp_kw (hp_w t n p) - 4 else -1
noncomputable def hp_cure (t : Nat → Int) (n lim : Nat) (rd nm : Nat → Int) (p : Nat) : Sum hp_E hp_H :=
  if 16 ≤ rd 2 then .inl (hp_bad t n lim 4 p) else
  hp_bd (hp_one t n lim nm 6 (rd 1).toNat (hp_x t n p)) (fun f p1 => if hp_dd t n lim p1 = -1 then .inl (hp_bad t n lim 1 p1) else if 0 < rd (53 + 3 * f + hp_dd t n lim p1).toNat then .inl (hp_bad t n lim 3 p1) else
  hp_bd (hp_num t n lim 1 12 (hp_x t n p1)) (fun c p2 => hp_bd (hp_end t n lim p2) (fun _ p3 => .inr (hp_C rd nm f (hp_dd t n lim p1) c p3))))
noncomputable def hp_line (t : Nat → Int) (n lim : Nat) (rd nm : Nat → Int) (p : Nat) : Sum hp_E hp_H :=
  if hp_k t n lim p = 2 ∧ hp_kw (hp_w t n p) = 0 then hp_thing t n lim rd nm p else if hp_k t n lim p = 2 ∧ hp_kw (hp_w t n p) = 2 then hp_fault t n lim rd nm p else if hp_k t n lim p = 2 ∧ hp_kw (hp_w t n p) = 3 then hp_cure t n lim rd nm p else .inl (hp_bad t n lim 1 p)
/-- all LINES: how many, what is told then -/
noncomputable def hp_all (t : Nat → Int) (n lim : Nat) : Nat → Int → (Nat → Int) → (Nat → Int) → Nat → Sum hp_E (Int × (Nat → Int) × (Nat → Int))
  | 0, _, _, _, _ => .inl (0, 0)
  | k + 1, m, rd, nm, p => if hp_k t n lim p = 0 then .inr (m, rd, nm) else match hp_line t n lim rd nm p with
    | .inl e => .inl e
    | .inr q => hp_all t n lim k (m + 1) q.2.1 q.2.2 q.1
noncomputable def hp_res (t : Nat → Int) (n : Nat) : Sum hp_E (Int × (Nat → Int) × (Nat → Int)) := hp_all t n 900 32 0 (fun _ => 0) (fun _ => 0) 0
theorem hp_allE {t : Nat → Int} {n lim k : Nat} {m : Int} {rd nm : Nat → Int} {p : Nat} (h : hp_k t n lim p = 0) : hp_all t n lim (k + 1) m rd nm p = .inr (m, rd, nm) := by
  show (if hp_k t n lim p = 0 then (.inr (m, rd, nm) : Sum hp_E (Int × (Nat → Int) × (Nat → Int))) else _) = _
  rw [if_pos h]
theorem hp_allL {t : Nat → Int} {n lim k : Nat} {m : Int} {rd nm : Nat → Int} {p : Nat} {e : hp_E} (h : ¬ hp_k t n lim p = 0) (h2 : hp_line t n lim rd nm p = .inl e) : hp_all t n lim (k + 1) m rd nm p = .inl e := by
  show (if hp_k t n lim p = 0 then (.inr (m, rd, nm) : Sum hp_E (Int × (Nat → Int) × (Nat → Int))) else match hp_line t n lim rd nm p with
    | .inl e => .inl e
    | .inr q => hp_all t n lim k (m + 1) q.2.1 q.2.2 q.1) = _
  rw [if_neg h, h2]
  first | done | rfl
theorem hp_allR {t : Nat → Int} {n lim k : Nat} {m : Int} {rd nm rd' nm' : Nat → Int} {p p' : Nat} (h : ¬ hp_k t n lim p = 0) (h2 : hp_line t n lim rd nm p = .inr (p', rd', nm')) : hp_all t n lim (k + 1) m rd nm p = hp_all t n lim k (m + 1) rd' nm' p' := by
  show (if hp_k t n lim p = 0 then (.inr (m, rd, nm) : Sum hp_E (Int × (Nat → Int) × (Nat → Int))) else match hp_line t n lim rd nm p with
    | .inl e => .inl e
    | .inr q => hp_all t n lim k (m + 1) q.2.1 q.2.2 q.1) = _
  rw [if_neg h, h2]
  first | done | rfl
/-! what holds of all that is told: bounds -/
noncomputable def hp_ok (rd nm : Nat → Int) : Prop := (0 ≤ rd 0 ∧ rd 0 ≤ 6) ∧ (0 ≤ rd 1 ∧ rd 1 ≤ 8) ∧ (0 ≤ rd 2 ∧ rd 2 ≤ 16) ∧ (∀ k : Nat, k < 24 → 0 ≤ rd (53 + k) ∧ rd (53 + k) ≤ 12) ∧ (∀ k : Nat, k < 6 → (k : Int) < rd 0 → (1 ≤ rd (3 + k) ∧ rd (3 + k) ≤ 30) ∧ (0 ≤ rd (9 + k) ∧ rd (9 + k) ≤ 20) ∧ (-1 ≤ rd (15 + k) ∧ rd (15 + k) < (k : Int)) ∧ (0 ≤ nm k ∧ nm k < 10460353203)) ∧ (∀ k : Nat, k < 8 → (k : Int) < rd 1 → (0 ≤ rd (21 + k) ∧ rd (21 + k) < rd 0) ∧ (0 ≤ rd (29 + k) ∧ rd (29 + k) ≤ 200) ∧ (1 ≤ rd (37 + k) ∧ rd (37 + k) ≤ 99) ∧ (1 ≤ rd (45 + k) ∧ rd (45 + k) ≤ 15) ∧ (0 ≤ nm (6 + k) ∧ nm (6 + k) < 10460353203))
theorem hp_ok0 : hp_ok (fun _ => 0) (fun _ => 0) := ⟨⟨by decide, by decide⟩, ⟨by decide, by decide⟩, ⟨by decide, by decide⟩, fun _ _ => ⟨Int.le_refl 0, by show (0 : Int) ≤ 12; decide⟩, fun k _ h => by simp at h; omega, fun k _ h => by simp at h; omega⟩
theorem hp_numR {t : Nat → Int} {n lim : Nat} {a b x : Int} {p p' : Nat} (h : hp_num t n lim a b p = .inr (x, p')) : (a ≤ x ∧ x ≤ b) ∧ p' = hp_x t n p ∧ hp_k t n lim p = 3 := by
  unfold hp_num at h
  split at h
  · split at h
    · rename_i h1 h2
      cases h
      exact ⟨h2, rfl, h1⟩
    · cases h
  · cases h
theorem hp_oneR {t : Nat → Int} {n lim : Nat} {nm : Nat → Int} {base m : Nat} {x : Int} {p p' : Nat} (h : hp_one t n lim nm base m p = .inr (x, p')) : (0 ≤ x ∧ x < (m : Int)) ∧ p' = hp_x t n p ∧ hp_k t n lim p = 2 := by
  unfold hp_one at h
  split at h
  · split at h
    · cases h
    · rename_i h1 h2
      cases h
      have h3 := hp_fb nm base m (hp_w t n p)
      exact ⟨by omega, rfl, h1.1⟩
  · cases h
theorem hp_newR {t : Nat → Int} {n lim : Nat} {rd nm : Nat → Int} {x : Int} {p p' : Nat} (h : hp_new t n lim rd nm p = .inr (x, p')) : (0 ≤ x ∧ x < 10460353203) ∧ p' = hp_x t n p ∧ hp_k t n lim p = 2 := by
  unfold hp_new at h
  split at h
  · split at h
    · rename_i h1 h2
      cases h
      exact ⟨hp_wb h1.1, rfl, h1.1⟩
    · cases h
  · cases h
theorem hp_endR {t : Nat → Int} {n lim : Nat} {x : Int} {p p' : Nat} (h : hp_end t n lim p = .inr (x, p')) : p' = hp_x t n p ∧ hp_k t n lim p = 4 := by
  unfold hp_end at h
  split at h
  · rename_i h1
    cases h
    exact ⟨rfl, h1.1⟩
  · cases h
theorem hp_okT {rd nm : Nat → Int} {v b w h : Int} {p : Nat} (hk : hp_ok rd nm) (h6 : rd 0 < 6) (hv : 0 ≤ v ∧ v < 10460353203) (hb : 1 ≤ b ∧ b ≤ 30) (hw : 0 ≤ w ∧ w ≤ 20) (hh : -1 ≤ h ∧ h < rd 0) : hp_ok (hp_T rd nm v b w h p).2.1 (hp_T rd nm v b w h p).2.2 := by
  obtain ⟨k0, k1, k2, k3, k4, k5⟩ := hk
  obtain ⟨T, hT⟩ : ∃ T : Nat, rd 0 = (T : Int) := ⟨(rd 0).toNat, by omega⟩
  unfold hp_T hp_ok
  simp only [hT, Int.toNat_natCast]
  rw [hT] at k0 h6 hh k4 k5
  refine ⟨?_, ?_, ?_, fun k hk => ?_, fun k hk hl => ?_, fun k hk hl => ?_⟩
  · rw [hp_upg]; omega
  · rw [hp_upn (by omega), hp_upn (by omega), hp_upn (by omega), hp_upn (by omega)]; exact k1
  · rw [hp_upn (by omega), hp_upn (by omega), hp_upn (by omega), hp_upn (by omega)]; exact k2
  · rw [hp_upn (by omega), hp_upn (by omega), hp_upn (by omega), hp_upn (by omega)]; exact k3 k hk
  · rw [hp_upg] at hl
    by_cases e : k = T
    · subst e
      refine ⟨?_, ?_, ?_, ?_⟩
      · rw [hp_upn (by omega), hp_upn (by omega), hp_upn (by omega), hp_upg]; exact hb
      · rw [hp_upn (by omega), hp_upn (by omega), hp_upg]; exact hw
      · rw [hp_upn (by omega), hp_upg]; exact hh
      · rw [hp_upg]; exact hv
    · have h9 := k4 k hk (by omega)
      refine ⟨?_, ?_, ?_, ?_⟩
      · rw [hp_upn (by omega), hp_upn (by omega), hp_upn (by omega), hp_upn (by omega)]; exact h9.1
      · rw [hp_upn (by omega), hp_upn (by omega), hp_upn (by omega), hp_upn (by omega)]; exact h9.2.1
      · rw [hp_upn (by omega), hp_upn (by omega), hp_upn (by omega), hp_upn (by omega)]; exact h9.2.2.1
      · rw [hp_upn (by omega)]; exact h9.2.2.2
  · rw [hp_upn (k := 1) (by omega), hp_upn (k := 1) (by omega), hp_upn (k := 1) (by omega), hp_upn (k := 1) (by omega)] at hl
    have h9 := k5 k hk hl
    refine ⟨?_, ?_, ?_, ?_, ?_⟩
    · rw [hp_upn (by omega), hp_upn (by omega), hp_upn (by omega), hp_upn (by omega), hp_upg]; omega
    · rw [hp_upn (by omega), hp_upn (by omega), hp_upn (by omega), hp_upn (by omega)]; exact h9.2.1
    · rw [hp_upn (by omega), hp_upn (by omega), hp_upn (by omega), hp_upn (by omega)]; exact h9.2.2.1
    · rw [hp_upn (by omega), hp_upn (by omega), hp_upn (by omega), hp_upn (by omega)]; exact h9.2.2.2.1
    · rw [hp_upn (by omega)]; exact h9.2.2.2.2
theorem hp_okF {rd nm : Nat → Int} {v h a b c : Int} {p : Nat} (hk : hp_ok rd nm) (h8 : rd 1 < 8) (hv : 0 ≤ v ∧ v < 10460353203) (hh : 0 ≤ h ∧ h < rd 0) (ha : 0 ≤ a ∧ a ≤ 200) (hb : 1 ≤ b ∧ b ≤ 99) (hc : 1 ≤ c ∧ c ≤ 15) : hp_ok (hp_F rd nm v h a b c p).2.1 (hp_F rd nm v h a b c p).2.2 := by
  obtain ⟨k0, k1, k2, k3, k4, k5⟩ := hk
  obtain ⟨F, hF⟩ : ∃ F : Nat, rd 1 = (F : Int) := ⟨(rd 1).toNat, by omega⟩
  unfold hp_F hp_ok
  simp only [hF, Int.toNat_natCast]
  rw [hF] at k1 h8 k5
  have e0 : hp_up (hp_up (hp_up (hp_up (hp_up rd (21 + F) h) (29 + F) a) (37 + F) b) (45 + F) c) 1 ((F : Int) + 1) 0 = rd 0 := by rw [hp_upn (by omega), hp_upn (by omega), hp_upn (by omega), hp_upn (by omega), hp_upn (by omega)]
  refine ⟨?_, ?_, ?_, fun k hk => ?_, fun k hk hl => ?_, fun k hk hl => ?_⟩
  · rw [e0]; exact k0
  · rw [hp_upg]; omega
  · rw [hp_upn (by omega), hp_upn (by omega), hp_upn (by omega), hp_upn (by omega), hp_upn (by omega)]; exact k2
  · rw [hp_upn (by omega), hp_upn (by omega), hp_upn (by omega), hp_upn (by omega), hp_upn (by omega)]; exact k3 k hk
  · rw [e0] at hl
    have h9 := k4 k hk hl
    refine ⟨?_, ?_, ?_, ?_⟩
    · rw [hp_upn (by omega), hp_upn (by omega), hp_upn (by omega), hp_upn (by omega), hp_upn (by omega)]; exact h9.1
    · rw [hp_upn (by omega), hp_upn (by omega), hp_upn (by omega), hp_upn (by omega), hp_upn (by omega)]; exact h9.2.1
    · rw [hp_upn (by omega), hp_upn (by omega), hp_upn (by omega), hp_upn (by omega), hp_upn (by omega)]; exact h9.2.2.1
    · rw [hp_upn (by omega)]; exact h9.2.2.2
  · rw [hp_upg] at hl
    by_cases e : k = F
    · subst e
      refine ⟨?_, ?_, ?_, ?_, ?_⟩
      · rw [e0, hp_upn (by omega), hp_upn (by omega), hp_upn (by omega), hp_upn (by omega), hp_upg]; exact hh
      · rw [hp_upn (by omega), hp_upn (by omega), hp_upn (by omega), hp_upg]; exact ha
      · rw [hp_upn (by omega), hp_upn (by omega), hp_upg]; exact hb
      · rw [hp_upn (by omega), hp_upg]; exact hc
      · rw [hp_upg]; exact hv
    · have h9 := k5 k hk (by omega)
      refine ⟨?_, ?_, ?_, ?_, ?_⟩
      · rw [e0, hp_upn (by omega), hp_upn (by omega), hp_upn (by omega), hp_upn (by omega), hp_upn (by omega)]; exact h9.1
      · rw [hp_upn (by omega), hp_upn (by omega), hp_upn (by omega), hp_upn (by omega), hp_upn (by omega)]; exact h9.2.1
      · rw [hp_upn (by omega), hp_upn (by omega), hp_upn (by omega), hp_upn (by omega), hp_upn (by omega)]; exact h9.2.2.1
      · rw [hp_upn (by omega), hp_upn (by omega), hp_upn (by omega), hp_upn (by omega), hp_upn (by omega)]; exact h9.2.2.2.1
      · rw [hp_upn (by omega)]; exact h9.2.2.2.2
theorem hp_okC {rd nm : Nat → Int} {f d c : Int} {p : Nat} (hk : hp_ok rd nm) (h16 : rd 2 < 16) (hf : 0 ≤ f ∧ f < rd 1) (hd : 0 ≤ d ∧ d ≤ 2) (hc : 1 ≤ c ∧ c ≤ 12) : hp_ok (hp_C rd nm f d c p).2.1 (hp_C rd nm f d c p).2.2 := by
  obtain ⟨k0, k1, k2, k3, k4, k5⟩ := hk
  obtain ⟨J, hJ⟩ : ∃ J : Nat, 53 + 3 * f + d = ((53 + J : Nat) : Int) ∧ J < 24 := ⟨(3 * f + d).toNat, by omega, by omega⟩
  obtain ⟨hJ, hJ2⟩ := hJ
  have eJ : (53 + 3 * f + d).toNat = 53 + J := by omega
  unfold hp_C hp_ok
  simp only [eJ]
  have q : ∀ k : Nat, ¬ k = 2 → ¬ k = 53 + J → hp_up (hp_up rd (53 + J) c) 2 (rd 2 + 1) k = rd k := fun k h1 h2 => by rw [hp_upn h1, hp_upn h2]
  refine ⟨?_, ?_, ?_, fun k hk => ?_, fun k hk hl => ?_, fun k hk hl => ?_⟩
  · rw [q 0 (by omega) (by omega)]; exact k0
  · rw [q 1 (by omega) (by omega)]; exact k1
  · rw [hp_upg]; omega
  · by_cases e : k = J
    · subst e
      rw [hp_upn (by omega), hp_upg]; omega
    · rw [q _ (by omega) (by omega)]; exact k3 k hk
  · rw [q 0 (by omega) (by omega)] at hl
    rw [q (3 + k) (by omega) (by omega), q (9 + k) (by omega) (by omega), q (15 + k) (by omega) (by omega)]
    exact k4 k hk hl
  · rw [q 1 (by omega) (by omega)] at hl
    rw [q 0 (by omega) (by omega), q (21 + k) (by omega) (by omega), q (29 + k) (by omega) (by omega), q (37 + k) (by omega) (by omega), q (45 + k) (by omega) (by omega)]
    exact k5 k hk hl
end HPB
