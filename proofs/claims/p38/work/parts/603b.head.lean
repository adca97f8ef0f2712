noncomputable def tc_z0 (G : sa_B) (cs : List sa_c) (j i : Nat) : Bool := match tb_ge cs j with
  | some c => match tc_rd c i with
    | some q => match sa_iv G q with
      | some b => tb_ieq b.1 0 && tb_ieq b.2 0
      | none => false
    | none => false
  | none => false
theorem tc_z0_ok {V : sa_V} {dA : Nat → ClassId} {G : sa_B} {cs : List sa_c} {j i : Nat} (hI : sa_I V G) (h : tc_z0 G cs j i = true) : ∃ c9 : sa_c, cs[j]? = some c9 ∧ tb_at (cs.map (sa_e V dA)) (sa_ad V c9.1) i (.int (Int32.ofInt ((0 : Int) + 0))) := by
  unfold tc_z0 at h
  split at h
  · rename_i c hc
    rw [tb_ge_eq] at hc
    split at h
    · rename_i q hq
      split at h
      · rename_i b hb
        rw [Bool.and_eq_true] at h
        have b1 := tb_ieq_ok h.1
        have b2 := tb_ieq_ok h.2
        obtain ⟨e1, l1, u1⟩ := sa_iv_ok hI hb
        have e8 : (sa_i V q).toInt = (0 : Int) + 0 := by omega
        have e9 : sa_i V q = Int32.ofInt ((0 : Int) + 0) := by rw [← e8, Int32.ofInt_toInt]
        exact ⟨c, hc, j, (sa_e V dA c).2, by rw [List.getElem?_map, hc]; rfl, by rw [tc_rd_ok hq, e9]⟩
      · cases h
    · cases h
  · cases h
noncomputable def tc_hd (G : sa_B) (cs : List sa_c) : Bool := tc_z0 G cs 1 1 && (tc_z0 G cs 200 2 && (tc_z0 G cs 0 14 && (tc_z0 G cs 200 32)))
noncomputable def tc_Uz (k : Nat) : Int := if k = 13 then tb_KB + 19 else if k = 14 then tb_KB + 0 else if k = 15 then tb_KB + 27 else 0
def tc_Ua (a13 a14 a15 k : Nat) : Nat := if k = 13 then a13 else if k = 14 then a14 else if k = 15 then a15 else 0
noncomputable def tc_U (a13 a14 a15 : Nat) : sa_V := fun k => (tc_Uz k, Int64.ofInt (tc_Uz k), fun _ => 0, tc_Ua a13 a14 a15 k)
theorem tc_h1 (a13 a14 a15 : Nat) : ∀ (j : Nat) (q : Int × Int), tl_R9[j]? = some q → q.1 ≤ (tc_U a13 a14 a15 (13 + j)).1 ∧ (tc_U a13 a14 a15 (13 + j)).1 ≤ q.2 := by
  intro j q hq
  match j, hq with
  | 0, hq => cases hq; exact ⟨Int.le_refl _, Int.le_refl _⟩
  | 1, hq => cases hq; exact ⟨Int.le_refl _, Int.le_refl _⟩
  | 2, hq => cases hq; exact ⟨Int.le_refl _, Int.le_refl _⟩
  | 3, hq => cases hq; exact ⟨show (0 : Int) ≤ 0 by decide, show (0 : Int) ≤ 940 by decide⟩
  | 4, hq => cases hq; exact ⟨show (-2147483648 : Int) ≤ 0 by decide, show (0 : Int) ≤ 2147483647 by decide⟩
  | j + 5, hq => simp [tl_R9] at hq
theorem tc_k13 : tc_KL[1]? = some 19 := by decide +kernel
theorem tc_k14 : tc_KL[200]? = some 0 := by decide +kernel
theorem tc_k15 : tc_KL[0]? = some 27 := by decide +kernel
theorem tc_h2 {al : List (Nat × Nat)} (a13 a14 a15 k : Nat) (m13 : al[1]? = some (a13, 19)) (m14 : al[200]? = some (a14, 0)) (m15 : al[0]? = some (a15, 27)) (hk : tb_KB ≤ (tc_U a13 a14 a15 k).1) : ∃ j : Nat, al[j]? = some (sa_ad (tc_U a13 a14 a15) k, ((tc_U a13 a14 a15 k).1 - tb_KB).toNat) := by
  by_cases k13 : k = 13
  · subst k13
    exact ⟨1, m13⟩
  by_cases k14 : k = 14
  · subst k14
    exact ⟨200, m14⟩
  by_cases k15 : k = 15
  · subst k15
    exact ⟨0, m15⟩
  exfalso
  have hk : tb_KB ≤ tc_Uz k := hk
  unfold tc_Uz tb_KB at hk
  rw [if_neg k13, if_neg k14, if_neg k15] at hk
  omega
theorem tc_h3 {w : va_W} (a13 a14 a15 : Nat) (t0 : tb_at w a13 1 (.int (Int32.ofInt ((0 : Int) + 0)))) (t1 : tb_at w a14 2 (.int (Int32.ofInt ((0 : Int) + 0)))) (t2 : tb_at w a15 14 (.int (Int32.ofInt ((0 : Int) + 0)))) (t3 : tb_at w a14 32 (.int (Int32.ofInt ((0 : Int) + 0)))) : ∀ f ∈ tl_F9, tb_fa (tc_U a13 a14 a15) w f := by
  intro f hf
  simp only [tl_F9, List.mem_cons, List.not_mem_nil, or_false] at hf
  rcases hf with rfl | rfl | rfl | rfl
  · exact ⟨show (0 : Int) ≤ 0 + 1 by decide, t0⟩
  · exact ⟨show (0 : Int) ≤ 0 + 2 by decide, t1⟩
  · exact ⟨show (0 : Int) ≤ 0 + 14 by decide, t2⟩
  · exact ⟨show (0 : Int) ≤ 0 + 32 by decide, t3⟩
theorem tc_head {V : sa_V} {dA : Nat → ClassId} {G : sa_B} {cs : List sa_c} {mod9 : List (Nat × Nat × Nat)} (hI : sa_I V G) (hh : tc_hd G cs = true) (h3 : ∀ κ : Nat, tb_sg (tc_al V cs tc_KL, cs.map (sa_e V dA), mod9, tb_Z0) κ = true → ∀ (i j a b : Nat), (tc_al V cs tc_KL)[i]? = some (a, κ) → (tc_al V cs tc_KL)[j]? = some (b, κ) → i = j) : ∃ U : sa_V, (∀ (j : Nat) (q : Int × Int), tl_R9[j]? = some q → q.1 ≤ (U (13 + j)).1 ∧ (U (13 + j)).1 ≤ q.2) ∧ (U 0).1 = 0 ∧ tb_X (tc_al V cs tc_KL, cs.map (sa_e V dA), mod9, tb_Z0) U ∧ ∀ f ∈ tl_F9, tb_fa U (cs.map (sa_e V dA)) f := by
  unfold tc_hd at hh
  simp only [Bool.and_eq_true] at hh
  obtain ⟨g0, g1, g2, g3⟩ := hh
  obtain ⟨c0, p0, t0⟩ := tc_z0_ok (dA := dA) hI g0
  obtain ⟨c1, p1, t1⟩ := tc_z0_ok (dA := dA) hI g1
  obtain ⟨c2, p2, t2⟩ := tc_z0_ok (dA := dA) hI g2
  obtain ⟨c3, p3, t3⟩ := tc_z0_ok (dA := dA) hI g3
  have e3 := Option.some.inj (p1.symm.trans p3)
  rw [← e3] at t3
  exact ⟨tc_U (sa_ad V c0.1) (sa_ad V c1.1) (sa_ad V c2.1), tc_h1 (sa_ad V c0.1) (sa_ad V c1.1) (sa_ad V c2.1), rfl, ⟨fun k => rfl, fun k hk => tc_h2 (sa_ad V c0.1) (sa_ad V c1.1) (sa_ad V c2.1) k (tc_al_mk V cs tc_KL 1 19 c0 p0 tc_k13) (tc_al_mk V cs tc_KL 200 0 c1 p1 tc_k14) (tc_al_mk V cs tc_KL 0 27 c2 p2 tc_k15) hk, h3⟩, tc_h3 (sa_ad V c0.1) (sa_ad V c1.1) (sa_ad V c2.1) t0 t1 t2 t3⟩
