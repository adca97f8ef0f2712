section XWO
noncomputable def xl_ge (q : Nat × Nat × Nat) : Bool := match tc_KL[q.1]? with
  | some κ => match tb_KT0[κ]? with
    | some k => match tb_ty k q.2.1 with
      | some t => Nat.beq t.1 2 && (decide (t.2.1 = t.2.2) && (List.range 220).all (fun i => match tc_KL[i]? with
        | some κ' => !(decide ((κ' : Int) = t.2.1)) || Nat.beq i q.2.2
        | none => true))
      | none => false
    | none => false
  | none => false
/-- a field that leads to one cell at the start -/
noncomputable def xl_rf (c : sa_c) (i : Nat) : Option Nat := match c.2 with
  | .inl o => match tb_ge o.2 i with
    | some (.inr (.inl (some k))) => some k
    | _ => none
  | _ => none
theorem xl_rfo {V : sa_V} {dA : Nat → ClassId} {c : sa_c} {i k : Nat} (h : xl_rf c i = some k) : tb_rd (sa_e V dA c).2 i = some (.ref (sa_ad V k)) := by
  obtain ⟨s, x⟩ := c
  rcases x with o | a
  · unfold xl_rf at h
    dsimp only at h
    split at h
    · rename_i k9 hk
      cases h
      rw [tb_ge_eq] at hk
      show (o.2.map (sa_val V))[i]? = _
      rw [List.getElem?_map, hk]
      rfl
    · cases h
  · have h : (none : Option Nat) = some k := h
    cases h
noncomputable def xl_gt (q : Nat × Nat × Nat) : Bool := match tc_KL[q.1]? with
  | some κ => match tb_KT0[κ]? with
    | some kd => match tb_ty kd q.2.1 with
      | some t => Nat.beq t.1 2
      | none => false
    | none => false
  | none => false
noncomputable def xl_gf (q : Nat × Nat × Nat) : Bool := match tb_ge tc_cs q.1 with
  | some c => match tb_ge tc_cs q.2.2 with
    | some c' => match xl_rf c q.2.1 with
      | some k => Nat.beq k c'.1 && xl_gt q
      | none => false
    | none => false
  | none => false
set_option maxRecDepth 200000 in
theorem xl_gr1 : xw_GL.all (fun q => xl_ge q || xl_gf q) = true := by decide +kernel
theorem xl_gfo {V : sa_V} {dA : Nat → ClassId} {A : Nat → Prop} {μ : xw_M} (hD : va_D A (tc_cs.map (sa_e V dA))) (hR : xw_R dA (tc_al V tc_cs tc_KL) tb_KT0 (tc_cs.map (sa_e V dA)) μ) {q : Nat × Nat × Nat} (h1 : xl_gf q = true) : μ q.1 q.2.1 = (q.2.2 : Int) := by
  unfold xl_gf at h1
  split at h1
  · rename_i c hc
    rw [tb_ge_eq] at hc
    split at h1
    · rename_i c' hc'
      rw [tb_ge_eq] at hc'
      split at h1
      · rename_i k hk
        rw [Bool.and_eq_true] at h1
        obtain ⟨f1, f2⟩ := h1
        have f1 : k = c'.1 := Nat.eq_of_beq_eq_true f1
        unfold xl_gt at f2
        split at f2
        · rename_i κ hκ
          split at f2
          · rename_i kd hkd
            split at f2
            · rename_i t ht
              obtain ⟨n, lo, hi⟩ := t
              have f2 : n = 2 := Nat.eq_of_beq_eq_true f2
              subst f2
              have a1 := tc_al_mk V tc_cs tc_KL q.1 κ c hc hκ
              have w1 : (tc_cs.map (sa_e V dA))[q.1]? = some (sa_ad V c.1, (sa_e V dA c).2) := by
                rw [List.getElem?_map, hc]
                rfl
              have v1 := hR.2 q.1 _ κ kd _ a1 hkd w1 q.2.1 _ _ ht (xl_rfo hk)
              obtain ⟨j', κ', e1, e2⟩ := v1
              obtain ⟨c9, d1, d2, d3⟩ := tc_al_get V tc_cs tc_KL j' _ κ' e2
              have w2 : (tc_cs.map (sa_e V dA))[j']? = some (sa_e V dA c9) := by
                rw [List.getElem?_map, d1]
                rfl
              have w3 : (tc_cs.map (sa_e V dA))[q.2.2]? = some (sa_e V dA c') := by
                rw [List.getElem?_map, hc']
                rfl
              have e9 := hD.1 j' q.2.2 _ _ w2 w3 (by
                show sa_ad V c9.1 = sa_ad V c'.1
                rw [← d3, f1])
              rw [e1, e9]
            · cases f2
          · cases f2
        · cases f2
      · cases h1
    · cases h1
  · cases h1
theorem xl_len : tc_KL.length = 220 := by decide +kernel
theorem xl_gr0 {al : List (Nat × Nat)} {μ : xw_M} (hgf : ∀ q : Nat × Nat × Nat, xl_gf q = true → μ q.1 q.2.1 = (q.2.2 : Int)) (hKL : al.map Prod.snd = tc_KL) (h : ∀ (j a κ i : Nat) (k : tb_kd) (lo hi : Int), al[j]? = some (a, κ) → tb_KT0[κ]? = some k → tb_ty k i = some (2, lo, hi) → ∃ j' κ' a' : Nat, μ j i = (j' : Int) ∧ al[j']? = some (a', κ') ∧ lo ≤ (κ' : Int) ∧ (κ' : Int) ≤ hi) : xw_G xw_GL μ := by
  intro q hq
  have h1 := List.all_eq_true.mp xl_gr1 q hq
  rw [Bool.or_eq_true] at h1
  rcases h1 with h1 | h1
  case inr => exact hgf q h1
  unfold xl_ge at h1
  split at h1
  · rename_i κ hκ
    split at h1
    · rename_i k hk
      split at h1
      · rename_i t ht
        obtain ⟨n, lo, hi⟩ := t
        rw [Bool.and_eq_true, Bool.and_eq_true] at h1
        obtain ⟨c1, c2, c3⟩ := h1
        have c1 : n = 2 := Nat.eq_of_beq_eq_true c1
        subst c1
        have c2 : lo = hi := of_decide_eq_true c2
        subst c2
        obtain ⟨j', κ', a', d1, d2, d3, d4⟩ := h q.1 (xw_ad al q.1) κ q.2.1 k lo lo (xw_al hKL hκ) hk ht
        have e1 : tc_KL[j']? = some κ' := by rw [← hKL, List.getElem?_map, d2]; rfl
        have e2 : j' < 220 := by rw [← xl_len]; exact (List.getElem?_eq_some_iff.mp e1).1
        have e3 := List.all_eq_true.mp c3 j' (List.mem_range.mpr e2)
        simp only [e1] at e3
        rw [Bool.or_eq_true] at e3
        rcases e3 with e3 | e3
        · exfalso
          have e4 : ((κ' : Nat) : Int) = lo := by omega
          rw [show decide (((κ' : Nat) : Int) = lo) = true from decide_eq_true e4] at e3
          cases e3
        · rw [d1, Nat.eq_of_beq_eq_true e3]
      · cases h1
    · cases h1
  · cases h1
set_option maxRecDepth 200000 in
set_option maxHeartbeats 4000000 in
theorem xl_ez : (List.range 940).all (fun i => tc_z0 tc_G tc_cs 2 i && tc_z0 tc_G tc_cs 201 i) = true := by decide +kernel
theorem xl_k2 : tc_KL[2]? = some 22 := by decide +kernel
theorem xl_t22 {i : Nat} (h : i < 940) : tb_ty (.inr (1, 940, [(940, (0, (-128), 127))])) i = some (0, (-128), 127) := by
  show (if i < 940 then tb_rl [(940, (0, (-128), 127))] i else none) = _
  rw [if_pos h]
  exact xw_rl h
theorem xl_n2 {i : Nat} (h : ¬ i < 940) : tb_ty (.inr (0, 940, [(940, (0, 0, 255))])) i = none := if_neg h
theorem xl_n22 {i : Nat} (h : ¬ i < 940) : tb_ty (.inr (1, 940, [(940, (0, (-128), 127))])) i = none := if_neg h
theorem xl_zr {V : sa_V} {dA : Nat → ClassId} {A : Nat → Prop} {μ : xw_M} {j i κ : Nat} {k : tb_kd} {lo hi : Int} (hI : sa_I V tc_G) (hD : va_D A (tc_cs.map (sa_e V dA))) (hR : xw_R dA (tc_al V tc_cs tc_KL) tb_KT0 (tc_cs.map (sa_e V dA)) μ) (hz : tc_z0 tc_G tc_cs j i = true) (hj : tc_KL[j]? = some κ) (hk : tb_KT0[κ]? = some k) (ht : tb_ty k i = some (0, lo, hi)) : μ j i = 0 := by
  obtain ⟨c9, p9, t9⟩ := tc_z0_ok (dA := dA) hI hz
  exact (xl_ad hD hR (tc_al_mk V tc_cs tc_KL j κ c9 p9 hj) hk ht t9).symm
noncomputable def xl_zc (z : Int) (G : sa_B) (cs : List sa_c) (j i : Nat) : Bool := match tb_ge cs j with
  | some c => match tc_rd c i with
    | some q => match sa_iv G q with
      | some b => tb_ieq b.1 z && tb_ieq b.2 z
      | none => false
    | none => false
  | none => false
theorem xl_zc_ok {z : Int} {V : sa_V} {dA : Nat → ClassId} {G : sa_B} {cs : List sa_c} {j i : Nat} (hI : sa_I V G) (h : xl_zc z G cs j i = true) : ∃ c9 : sa_c, cs[j]? = some c9 ∧ tb_at (cs.map (sa_e V dA)) (sa_ad V c9.1) i (.int (Int32.ofInt z)) := by
  unfold xl_zc at h
  split at h
  · rename_i c hc
    rw [tb_ge_eq] at hc
    split at h
    · rename_i q hq
      split at h
      · rename_i b hb
        rw [Bool.and_eq_true] at h
        have b1 := tb_ieq_ok h.1
        have b2 := tb_ieq_ok h.2
        obtain ⟨e1, l1, u1⟩ := sa_iv_ok hI hb
        have e8 : (sa_i V q).toInt = z := by omega
        have e9 : sa_i V q = Int32.ofInt z := by rw [← e8, Int32.ofInt_toInt]
        exact ⟨c, hc, j, (sa_e V dA c).2, by rw [List.getElem?_map, hc]; rfl, by rw [tc_rd_ok hq, e9]⟩
      · cases h
    · cases h
  · cases h
theorem xl_zv {z : Int} {V : sa_V} {dA : Nat → ClassId} {A : Nat → Prop} {μ : xw_M} {j i κ : Nat} {k : tb_kd} {lo hi : Int} (hr : -2147483648 ≤ z ∧ z ≤ 2147483647) (hI : sa_I V tc_G) (hD : va_D A (tc_cs.map (sa_e V dA))) (hR : xw_R dA (tc_al V tc_cs tc_KL) tb_KT0 (tc_cs.map (sa_e V dA)) μ) (hz : xl_zc z tc_G tc_cs j i = true) (hj : tc_KL[j]? = some κ) (hk : tb_KT0[κ]? = some k) (ht : tb_ty k i = some (0, lo, hi)) : μ j i = z := by
  obtain ⟨c9, p9, t9⟩ := xl_zc_ok (dA := dA) hI hz
  exact (xl_ad hD hR (tc_al_mk V tc_cs tc_KL j κ c9 p9 hj) hk ht t9).symm.trans (xw_ti hr)
set_option maxRecDepth 200000 in
theorem xl_ezA : (List.range 77).all (fun i => tc_z0 tc_G tc_cs 202 i) = true := by decide +kernel
set_option maxRecDepth 200000 in
theorem xl_ezC : (List.range 24).all (fun i => tc_z0 tc_G tc_cs 17 i) = true := by decide +kernel
theorem xl_ent {V : sa_V} {dA : Nat → ClassId} {A : Nat → Prop} (hI : sa_I V tc_G) (hD : va_D A (tc_cs.map (sa_e V dA))) (hwk : tb_wk dA (tc_al V tc_cs tc_KL) tb_KT0 (tc_cs.map (sa_e V dA))) (hKL : (tc_al V tc_cs tc_KL).map Prod.snd = tc_KL) : ∃ μ : xw_M, xw_R dA (tc_al V tc_cs tc_KL) tb_KT0 (tc_cs.map (sa_e V dA)) μ ∧ xl_Φ μ := by
  obtain ⟨μ, hR, hg, hn⟩ := xw_rdoff hwk
  have hs : ∀ (j a κ : Nat), (tc_al V tc_cs tc_KL)[j]? = some (a, κ) → tc_KL[j]? = some κ := fun j a κ h => by
    have h9 : ((tc_al V tc_cs tc_KL).map Prod.snd)[j]? = some κ := by rw [List.getElem?_map, h]; rfl
    rw [hKL] at h9
    exact h9
  have zA : ∀ k : Nat, k < 77 → μ 202 k = 0 := fun k hk => by
    obtain ⟨lo, hi, e9, -, -⟩ := hr_n0 ⟨k, by omega⟩
    exact xl_zr hI hD hR (List.all_eq_true.mp xl_ezA k (List.mem_range.mpr hk)) (show tc_KL[202]? = some 1 by decide +kernel) xk_1 (show tb_ty (.inr (0, 379, hr_NT)) k = some (0, lo, hi) by
      show (if k < 379 then tb_rl hr_NT k else none) = _
      rw [if_pos (by omega)]
      exact e9)
  have zC : ∀ k : Nat, k < 24 → μ 17 k = 0 := fun k hk => xl_zr hI hD hR (List.all_eq_true.mp xl_ezC k (List.mem_range.mpr hk)) (show tc_KL[17]? = some 41 by decide +kernel) xk_41 (show tb_ty (.inr (0, 24, [(24, (0, (-2147483648), 2147483647))])) k = some (0, -2147483648, 2147483647) by
    show (if k < 24 then tb_rl [(24, (0, (-2147483648), 2147483647))] k else none) = _
    rw [if_pos hk]
    exact xw_rl hk)
  have e0 : μ 210 0 = 0 := (xl_zr (lo := _) (hi := _) hI hD hR (show tc_z0 tc_G tc_cs 210 0 = true by decide +kernel) (show tc_KL[210]? = some 81 by decide +kernel) xk_81 (show tb_ty _ 0 = some (0, _, _) from rfl))
  have e1 : μ 210 1 = 0 := (xl_zr (lo := _) (hi := _) hI hD hR (show tc_z0 tc_G tc_cs 210 1 = true by decide +kernel) (show tc_KL[210]? = some 81 by decide +kernel) xk_81 (show tb_ty _ 1 = some (0, _, _) from rfl))
  have hP9 : hx_P μ := ⟨⟨fun _ => 0, fun _ => 0, hp_ok0, zA, ⟨⟨(xl_zr (lo := _) (hi := _) hI hD hR (show tc_z0 tc_G tc_cs 4 13 = true by decide +kernel) (show tc_KL[4]? = some 28 by decide +kernel) xk_28 (show tb_ty _ 13 = some (0, _, _) from rfl)), (xl_zr (lo := _) (hi := _) hI hD hR (show tc_z0 tc_G tc_cs 4 14 = true by decide +kernel) (show tc_KL[4]? = some 28 by decide +kernel) xk_28 (show tb_ty _ 14 = some (0, _, _) from rfl)), (xl_zr (lo := _) (hi := _) hI hD hR (show tc_z0 tc_G tc_cs 4 15 = true by decide +kernel) (show tc_KL[4]? = some 28 by decide +kernel) xk_28 (show tb_ty _ 15 = some (0, _, _) from rfl))⟩, fun k _ (h : (k : Int) < 0) => absurd h (by omega), fun k _ (h : (k : Int) < 0) => absurd h (by omega), zC⟩, ⟨fun k _ (h : (k : Int) < 0) => absurd h (by omega), fun k _ (h : (k : Int) < 0) => absurd h (by omega)⟩, ⟨fun k _ (h : (k : Int) < 0) => absurd h (by omega), fun k _ (h : (k : Int) < 0) => absurd h (by omega)⟩⟩, ⟨(xl_zr (lo := _) (hi := _) hI hD hR (show tc_z0 tc_G tc_cs 146 3 = true by decide +kernel) (show tc_KL[146]? = some 25 by decide +kernel) xk_25 (show tb_ty _ 3 = some (0, _, _) from rfl)).trans e0.symm, fun q => absurd q (by rw [e0]; decide)⟩, (xl_zr (lo := _) (hi := _) hI hD hR (show tc_z0 tc_G tc_cs 173 3 = true by decide +kernel) (show tc_KL[173]? = some 26 by decide +kernel) xk_26 (show tb_ty _ 3 = some (0, _, _) from rfl)).trans e1.symm, fun q => absurd q (by rw [e1]; decide)⟩
  refine ⟨μ, hR, ⟨xl_gr0 (fun q hq => xl_gfo hD hR hq) hKL hg, fun i => ?_, (xl_zv (z := 0) (by decide) hI hD hR (by decide +kernel) (show tc_KL[1]? = some 19 by decide +kernel) xk_19 (show tb_ty _ 1 = some (0, _, _) from rfl)).trans (xl_zv (z := 0) (by decide) hI hD hR (by decide +kernel) (show tc_KL[200]? = some 0 by decide +kernel) xk_0 (show tb_ty _ 2 = some (0, _, _) from rfl)).symm, (xl_zv (z := -1) (by decide) hI hD hR (by decide +kernel) (show tc_KL[0]? = some 27 by decide +kernel) xk_27 (show tb_ty _ 14 = some (0, _, _) from rfl)).trans (xl_zv (z := -1) (by decide) hI hD hR (by decide +kernel) (show tc_KL[200]? = some 0 by decide +kernel) xk_0 (show tb_ty _ 32 = some (0, _, _) from rfl)).symm⟩, hP9⟩
  by_cases hi : i < 940
  · have h9 := List.all_eq_true.mp xl_ez i (List.mem_range.mpr hi)
    rw [Bool.and_eq_true] at h9
    rw [xl_zr hI hD hR h9.1 xl_k2 xk_22 (xl_t22 hi), xl_zr hI hD hR h9.2 xl_k201 xk_2 (xl_t2 hi)]
    rfl
  · have h1 : μ 2 i = 0 := hn 2 i (fun a κ k g1 g2 => by
      have g3 := hs 2 a κ g1
      rw [xl_k2] at g3
      cases g3
      rw [xk_22] at g2
      cases g2
      exact xl_n22 hi)
    have h2 : μ 201 i = 0 := hn 201 i (fun a κ k g1 g2 => by
      have g3 := hs 201 a κ g1
      rw [xl_k201] at g3
      cases g3
      rw [xk_2] at g2
      cases g2
      exact xl_n2 hi)
    rw [h1, h2]
    rfl
end XWO
