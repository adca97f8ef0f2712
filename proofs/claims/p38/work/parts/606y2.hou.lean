section XWH
/-! the law's case house by hand: what may change, the rules that speak of what is told -/
theorem xw_Fm {ML : List (Nat × Nat × Nat)} {μ μ' : xw_M} {j0 : Nat} (hF : xw_F ML μ μ') (h : ∀ k : Nat, μ' j0 k = μ j0 k) : xw_F (ML.filter (fun q => !(Nat.beq q.1 j0))) μ μ' := fun j i ho => by
  by_cases e : j = j0
  · rw [e]
    exact h i
  · refine hF j i ?_
    unfold xw_o at ho ⊢
    rw [List.all_eq_true] at ho ⊢
    intro q hq
    cases h9 : Nat.beq q.1 j with
    | false => rfl
    | true =>
      have e9 : q.1 = j := Nat.eq_of_beq_eq_true h9
      have e8 : Nat.beq q.1 j0 = false := by
        cases h8 : Nat.beq q.1 j0 with
        | false => rfl
        | true => exact absurd (e9.symm.trans (Nat.eq_of_beq_eq_true h8)) e
      have h7 := ho q (List.mem_filter.mpr ⟨hq, by rw [e8]; rfl⟩)
      rw [h9] at h7
      exact h7
noncomputable def xl_hm (μ : xw_M) (j : Nat) : Prop := ∃ rd nm : Nat → Int, hp_ok rd nm ∧ ∀ k : Nat, k < 77 → μ j k = rd k
noncomputable def xl_HH (μ μ' : xw_M) : Prop := xl_hm μ' 203 ∧ ((∀ k : Nat, μ' 202 k = μ 202 k) ∨ (xl_hm μ' 202 ∧ ∀ k : Nat, 139 ≤ k → k < 379 → μ' 202 k = 0))
noncomputable def xl_w9 (κ : Nat) (r : tb_ru) : Bool := Nat.beq r.2.1 κ && r.1.any (fun q => Nat.beq q.1 κ && ((Nat.beq q.2.1 0 && (Nat.beq r.2.2.1 15 && (decide (1 ≤ q.2.2.1) && (decide (r.2.2.2.1 ≤ -1) && decide (-1 ≤ r.2.2.2.2))))) || (Nat.beq q.2.1 1 && (Nat.ble 37 r.2.2.1 && (Nat.ble r.2.2.1 44 && (decide ((r.2.2.1 : Int) - 36 ≤ q.2.2.1) && (decide (r.2.2.2.1 ≤ 1) && decide (99 ≤ r.2.2.2.2))))))))
noncomputable def xl_z9 (κ : Nat) (r : tb_ru) : Bool := r.1.any (fun q => Nat.beq q.1 κ && (Nat.ble 139 q.2.1 && (Nat.ble q.2.1 378 && decide (1 ≤ q.2.2.1))))
theorem xl_nm {KT : List tb_kd} {q : tb_p} (hp : xl_rp KT [] q = true) : ∃ (k : tb_kd) (lo hi : Int), KT[q.1]? = some k ∧ tb_ty k q.2.1 = some (0, lo, hi) := by
  unfold xl_rp at hp
  rw [Bool.and_eq_true] at hp
  obtain ⟨-, p2⟩ := hp
  split at p2
  · rename_i k hk
    split at p2
    · rename_i t ht
      obtain ⟨n, b1, b2⟩ := t
      have p2 : n = 0 := Nat.eq_of_beq_eq_true p2
      subst p2
      exact ⟨k, b1, b2, hk, ht⟩
    · cases p2
  · cases p2
theorem xl_inR {dA : Nat → ClassId} {al : List (Nat × Nat)} {KT : List tb_kd} {KL : List Nat} {A : Nat → Prop} {w : va_W} {μ : xw_M} {q : tb_p} {j : Nat} (hp : xl_rp KT [] q = true) (hKL : al.map Prod.snd = KL) (h1 : ∀ i : Nat, KL[i]? = some q.1 → i = j) (hD : va_D A w) (hR : xw_R dA al KT w μ) (h : tb_in al w q) : q.2.2.1 ≤ μ j q.2.1 ∧ μ j q.2.1 ≤ q.2.2.2 := by
  obtain ⟨k, lo, hi, hk, ht⟩ := xl_nm hp
  obtain ⟨j', a, x, c1, c2, c3, c4⟩ := h
  have e := xl_one hKL h1 c1
  subst e
  have e1 := xl_ad hD hR c1 hk ht c2
  rw [← e1]
  exact ⟨c3, c4⟩
theorem xl_inL {dA : Nat → ClassId} {al : List (Nat × Nat)} {KT : List tb_kd} {A : Nat → Prop} {w : va_W} {μ : xw_M} {q : tb_p} {j a : Nat} (hp : xl_rp KT [] q = true) (hj : al[j]? = some (a, q.1)) (hD : va_D A w) (hR : xw_R dA al KT w μ) (h : q.2.2.1 ≤ μ j q.2.1 ∧ μ j q.2.1 ≤ q.2.2.2) : tb_in al w q := by
  obtain ⟨k, lo, hi, hk, ht⟩ := xl_nm hp
  have d := xl_at hR hj hk ht
  have e := xl_ad hD hR hj hk ht d.1
  exact ⟨j, a, _, hj, d.1, by rw [e]; exact h.1, by rw [e]; exact h.2⟩
theorem xl_told {dA : Nat → ClassId} {al : List (Nat × Nat)} {KT : List tb_kd} {KL : List Nat} {A : Nat → Prop} {w : va_W} {μ : xw_M} {r : tb_ru} {κ j a : Nat} (hw : xl_w9 κ r = true) (hp : (xl_rp KT [] r.2 && r.1.all (xl_rp KT [])) = true) (hKL : al.map Prod.snd = KL) (h1 : ∀ i : Nat, KL[i]? = some κ → i = j) (hj : al[j]? = some (a, κ)) (hD : va_D A w) (hR : xw_R dA al KT w μ) (hm : xl_hm μ j) : tb_rh al w r := by
  intro hq
  rw [Bool.and_eq_true] at hp
  unfold xl_w9 at hw
  rw [Bool.and_eq_true, List.any_eq_true] at hw
  obtain ⟨w1, q, w2, w3⟩ := hw
  have e1 : r.2.1 = κ := Nat.eq_of_beq_eq_true w1
  rw [Bool.and_eq_true] at w3
  obtain ⟨w4, w5⟩ := w3
  have e2 : q.1 = κ := Nat.eq_of_beq_eq_true w4
  have b := xl_inR (List.all_eq_true.mp hp.2 q w2) hKL (by rw [e2]; exact h1) hD hR (hq q w2)
  refine xl_inL (a := a) hp.1 (by rw [e1]; exact hj) hD hR ?_
  obtain ⟨rd, nm, hK, hm⟩ := hm
  obtain ⟨k0, k1, k2, k3, k4, k5⟩ := hK
  rw [Bool.or_eq_true] at w5
  rcases w5 with w5 | w5
  · simp only [Bool.and_eq_true, decide_eq_true_eq] at w5
    obtain ⟨x1, x2, x3, x4, x5⟩ := w5
    have x1 : q.2.1 = 0 := Nat.eq_of_beq_eq_true x1
    have x2 : r.2.2.1 = 15 := Nat.eq_of_beq_eq_true x2
    rw [x1, hm 0 (by omega)] at b
    rw [x2, hm 15 (by omega)]
    have h4 := (k4 0 (by omega) (by omega)).2.2.1
    have h4 : -1 ≤ rd 15 ∧ rd 15 < ((0 : Nat) : Int) := h4
    exact ⟨by omega, by omega⟩
  · simp only [Bool.and_eq_true, decide_eq_true_eq] at w5
    obtain ⟨x1, x2, x3, x4, x5, x6⟩ := w5
    have x1 : q.2.1 = 1 := Nat.eq_of_beq_eq_true x1
    have x2 : 37 ≤ r.2.2.1 := Nat.le_of_ble_eq_true x2
    have x3 : r.2.2.1 ≤ 44 := Nat.le_of_ble_eq_true x3
    rw [x1, hm 1 (by omega)] at b
    rw [hm r.2.2.1 (by omega)]
    obtain ⟨f, hf⟩ : ∃ f : Nat, r.2.2.1 = 37 + f := ⟨r.2.2.1 - 37, by omega⟩
    rw [hf] at x3 x4 ⊢
    have h4 := (k5 f (by omega) (by omega)).2.2.1
    exact ⟨by omega, by omega⟩
theorem xl_zer {dA : Nat → ClassId} {al : List (Nat × Nat)} {KT : List tb_kd} {KL : List Nat} {A : Nat → Prop} {w : va_W} {μ : xw_M} {r : tb_ru} {κ j : Nat} (hw : xl_z9 κ r = true) (hp : (xl_rp KT [] r.2 && r.1.all (xl_rp KT [])) = true) (hKL : al.map Prod.snd = KL) (h1 : ∀ i : Nat, KL[i]? = some κ → i = j) (hD : va_D A w) (hR : xw_R dA al KT w μ) (hz : ∀ k : Nat, 139 ≤ k → k < 379 → μ j k = 0) : tb_rh al w r := by
  intro hq
  exfalso
  rw [Bool.and_eq_true] at hp
  unfold xl_z9 at hw
  rw [List.any_eq_true] at hw
  obtain ⟨q, w2, w3⟩ := hw
  simp only [Bool.and_eq_true, decide_eq_true_eq] at w3
  obtain ⟨w4, w5, w6, w7⟩ := w3
  have e2 : q.1 = κ := Nat.eq_of_beq_eq_true w4
  have w5 : 139 ≤ q.2.1 := Nat.le_of_ble_eq_true w5
  have w6 : q.2.1 ≤ 378 := Nat.le_of_ble_eq_true w6
  have b := xl_inR (List.all_eq_true.mp hp.2 q w2) hKL (by rw [e2]; exact h1) hD hR (hq q w2)
  rw [hz q.2.1 w5 (by omega)] at b
  omega
/-- untouched: no slot of its kind is, or not this one -/
noncomputable def xl_rq (KT : List tb_kd) (ch : List (Nat × Nat × Nat)) (p : tb_p) : Bool := (ch.all (fun q => !(Nat.beq q.1 p.1)) && xl_rp KT [] p) || xl_rp KT ch p
theorem xl_rqo {KT : List tb_kd} {ch : List (Nat × Nat × Nat)} {p : tb_p} (h : xl_rq KT ch p = true) : xl_rp KT ch p = true := by
  unfold xl_rq at h
  rw [Bool.or_eq_true] at h
  rcases h with h | h
  · rw [Bool.and_eq_true] at h
    obtain ⟨h1, h2⟩ := h
    unfold xl_rp at h2 ⊢
    rw [Bool.and_eq_true] at h2
    rw [xl_mdn h1 p.2.1]
    exact h2.2
  · exact h
/-- of each rule: untouched, or about what is told, or its premise is nought -/
noncomputable def xl_rk (KT : List tb_kd) (ch : List (Nat × Nat × Nat)) (κr κn : Nat) (ok : Bool) (r : tb_ru) : Bool := (xl_rq KT ch r.2 && r.1.all (xl_rq KT ch)) || ((xl_rp KT [] r.2 && r.1.all (xl_rp KT [])) && (xl_w9 κr r || (ok && (xl_w9 κn r || xl_z9 κn r))))
theorem xl_rulesH {dA : Nat → ClassId} {al : List (Nat × Nat)} {KT : List tb_kd} {KL : List Nat} {A A' : Nat → Prop} {w w' : va_W} {μ μ' : xw_M} {ch : List (Nat × Nat × Nat)} {RU : List tb_ru} {κr κn jr jn ar an : Nat} {ok : Bool} (hp : RU.all (xl_rk KT ch κr κn ok) = true) (hKL : al.map Prod.snd = KL) (h1 : ∀ i : Nat, KL[i]? = some κr → i = jr) (h2 : ∀ i : Nat, KL[i]? = some κn → i = jn) (hjr : al[jr]? = some (ar, κr)) (hjn : al[jn]? = some (an, κn)) (hD : va_D A w) (hD' : va_D A' w') (hR : xw_R dA al KT w μ) (hR' : xw_R dA al KT w' μ') (hF : ∀ (j a κ i : Nat), al[j]? = some (a, κ) → tb_md ch κ i = false → μ' j i = μ j i) (hm : xl_hm μ' jr) (hn : ok = true → xl_hm μ' jn ∧ ∀ k : Nat, 139 ≤ k → k < 379 → μ' jn k = 0) (h : ∀ (i : Nat) (r : tb_ru), RU[i]? = some r → tb_rh al w r) : ∀ (i : Nat) (r : tb_ru), RU[i]? = some r → tb_rh al w' r := by
  intro i r hr
  have h9 := List.all_eq_true.mp hp r (List.mem_of_getElem? hr)
  unfold xl_rk at h9
  rw [Bool.or_eq_true] at h9
  rcases h9 with h9 | h9
  · intro hq
    rw [Bool.and_eq_true] at h9
    refine xl_in (A := A) (A' := A') (xl_rqo h9.1) hD hR hR' hF (h i r hr (fun p hp9 => ?_))
    exact xl_in (A := A') (A' := A) (xl_rqo (List.all_eq_true.mp h9.2 p hp9)) hD' hR' hR (fun j a κ i g1 g2 => (hF j a κ i g1 g2).symm) (hq p hp9)
  · rw [Bool.and_eq_true] at h9
    obtain ⟨a9, b9⟩ := h9
    rw [Bool.or_eq_true] at b9
    rcases b9 with b9 | b9
    · exact xl_told b9 a9 hKL h1 hjr hD' hR' hm
    · rw [Bool.and_eq_true] at b9
      obtain ⟨c9, d9⟩ := b9
      obtain ⟨n1, n2⟩ := hn c9
      rw [Bool.or_eq_true] at d9
      rcases d9 with d9 | d9
      · exact xl_told d9 a9 hKL h2 hjn hD' hR' n1
      · exact xl_zer d9 a9 hKL h2 hD' hR' n2
noncomputable def xl_CHC : List (Nat × Nat × Nat) := [(0, 13, 13), (1, 1, 1), (4, 13, 15), (5, 0, 5), (6, 0, 5), (7, 0, 5), (8, 0, 5), (9, 0, 5), (10, 0, 5), (11, 0, 5), (12, 0, 7), (13, 0, 7), (14, 0, 7), (15, 0, 7), (16, 0, 7), (17, 0, 23), (18, 6, 11), (19, 0, 5), (20, 0, 5), (21, 0, 5), (22, 0, 7), (23, 0, 7), (24, 0, 7), (25, 4, 5), (31, 1, 2), (103, 2, 2), (104, 0, 9), (107, 13, 15), (108, 0, 5), (109, 0, 5), (110, 0, 5), (111, 0, 5), (112, 0, 5), (113, 0, 5), (114, 0, 5), (115, 0, 7), (116, 0, 7), (117, 0, 7), (118, 0, 7), (119, 0, 7), (120, 0, 23)]
noncomputable def xl_CHR : List (Nat × Nat × Nat) := [(200, 0, 0), (200, 2, 13), (200, 23, 23), (202, 0, 378), (203, 0, 76), (207, 0, 13), (208, 0, 13)]
noncomputable def xl_CHX : List (Nat × Nat × Nat) := xl_CHC ++ xl_CHR
set_option maxRecDepth 200000 in
theorem xl_rchO : tb_RU0.all (xl_rk tb_KT0 (xl_ck xl_CHX) 8 1 true) = true := by decide +kernel
set_option maxRecDepth 200000 in
theorem xl_rchE : tb_RU0.all (xl_rk tb_KT0 (xl_ck (xl_CHX.filter (fun q => !(Nat.beq q.1 202)))) 8 1 false) = true := by decide +kernel
theorem xl_k202 : tc_KL[202]? = some 1 := by decide +kernel
theorem xl_k203 : tc_KL[203]? = some 8 := by decide +kernel
theorem xl_o202 : ∀ q : Nat, tc_KL[q]? = some 1 → q = 202 := by
  intro q h
  have h1 : q < 220 := by
    have := (List.getElem?_eq_some_iff.mp h).1
    have h2 : tc_KL.length = 220 := by decide +kernel
    omega
  have h3 : ∀ q : Fin 220, tc_KL[(q : Nat)]? = some 1 → (q : Nat) = 202 := by decide +kernel
  exact h3 ⟨q, h1⟩ h
theorem xl_o203 : ∀ q : Nat, tc_KL[q]? = some 8 → q = 203 := by
  intro q h
  have h1 : q < 220 := by
    have := (List.getElem?_eq_some_iff.mp h).1
    have h2 : tc_KL.length = 220 := by decide +kernel
    omega
  have h3 : ∀ q : Fin 220, tc_KL[(q : Nat)]? = some 8 → (q : Nat) = 203 := by decide +kernel
  exact h3 ⟨q, h1⟩ h
theorem xl_finH {p : Program} {l : Launch} {e : Env} {s : State} {m : MethodId} {args : Array Value} {below : List Frame} {meth : Method} {c : Code} {Q : State → Prop} {D : va_G} {dA : Nat → ClassId} {A : Nat → Prop} {al : List (Nat × Nat)} {w : va_W} {μ μ' : xw_M} {kc ks kc' ks' : Nat} {Lo : List (Nat × Value)} (hKL : al.map Prod.snd = tc_KL) (hD : va_D A w) (hR : xw_R dA al tb_KT0 w μ) (hru : ∀ (i : Nat) (r : tb_ru), tb_RU0[i]? = some r → tb_rh al w r) (nxt : ∀ (H : Heap) (locs : List Loc) (ls : Array Slot), lv_has ls 7 Lo → xl_I D dA A al H → va_S A s.heap H locs → W p l e room_1 s m args below meth c H locs kc ks Q (F0 m 23 ls [])) (hF : xw_F xl_CHX μ μ') (hH : xl_HH μ μ') (hΦ : xl_Φ μ') (h1 : kc' ≤ kc) (h2 : ks' ≤ ks) : xw_W p l e room_1 s m args below meth c Q D dA A 7 vwCl tb_KT0 al kc' ks' μ' 23 Lo [] := by
  intro H locs ls w' g1 g2 g3 g4 g5
  refine W.widen h1 h2 (nxt H locs ls g1 ⟨w', μ', g2, g3, g4, ?_, hΦ⟩ g5)
  obtain ⟨a1, a2⟩ := hH
  rcases a2 with a2 | a2
  · exact xl_rulesH xl_rchE hKL xl_o203 xl_o202 (xw_al hKL xl_k203) (xw_al hKL xl_k202) hD g3 hR g4 (fun j a κ i q1 q2 => xw_Fm hF a2 j i (xl_cko (by rw [← hKL, List.getElem?_map, q1]; rfl) q2)) a1 (fun q => by cases q) hru
  · exact xl_rulesH xl_rchO hKL xl_o203 xl_o202 (xw_al hKL xl_k203) (xw_al hKL xl_k202) hD g3 hR g4 (fun j a κ i q1 q2 => hF j i (xl_cko (by rw [← hKL, List.getElem?_map, q1]; rfl) q2)) a1 (fun _ => a2) hru
/-- house() of both -/
theorem xl_houseΦ {μ m1 m2 : xw_M} {t : Nat → Int} {n : Nat} {r1 r2 : Int} (hΦ : xl_Φ0 μ) (w1 : ((∃ q : Int × (Nat → Int) × (Nat → Int), hp_res t n = .inr q ∧ r1 = q.1 ∧ hp_ok q.2.1 q.2.2) ∨ (∃ e9 : hp_E, hp_res t n = .inl e9 ∧ r1 = -1 - e9.2)) ∧ m1 1 1 = 0 ∧ xw_F xl_CHC μ m1) (w2 : ((∃ q : Int × (Nat → Int) × (Nat → Int), hp_res t n = .inr q ∧ r2 = q.1 ∧ hp_ok q.2.1 q.2.2 ∧ (∀ k : Nat, k < 77 → m2 203 k = q.2.1 k) ∧ (∀ k : Nat, k < 77 → m2 202 k = q.2.1 k) ∧ (∀ k : Nat, 139 ≤ k → k < 379 → m2 202 k = 0)) ∨ (∃ e9 : hp_E, hp_res t n = .inl e9 ∧ r2 = -1 - e9.2 ∧ hr_Z m2 ∧ ∀ k : Nat, m2 202 k = m1 202 k)) ∧ m2 200 2 = 0 ∧ xw_F xl_CHR m1 m2) : xw_F xl_CHX μ m2 ∧ xl_HH μ m2 ∧ xl_Φ0 m2 ∧ r1 = r2 := by
  obtain ⟨a1, a2, a3⟩ := w1
  obtain ⟨b1, b2, b3⟩ := w2
  obtain ⟨hG, hT, e1, e2⟩ := hΦ
  have hF : xw_F xl_CHX μ m2 := (a3.mono (fun j i h => xw_o_sub (by decide +kernel) j i h)).tr b3 (fun j i h => xw_o_sub (by decide +kernel) j i h)
  have hn : ∀ i : Nat, m1 202 i = μ 202 i := fun i => a3 202 i (xw_oj (by decide +kernel) i)
  refine ⟨hF, ?_, ⟨xw_GF hG hF (by decide +kernel), fun i => ?_, ?_, ?_⟩, ?_⟩
  · rcases b1 with ⟨q, c1, c2, c3, c4, c5, c6⟩ | ⟨e, c1, c2, c3, c4⟩
    · exact ⟨⟨_, _, c3, c4⟩, Or.inr ⟨⟨_, _, c3, c5⟩, c6⟩⟩
    · exact ⟨c3, Or.inl (fun k => (c4 k).trans (hn k))⟩
  · rw [hF 2 i (xw_oj (by decide +kernel) i), hF 201 i (xw_oj (by decide +kernel) i)]
    exact hT i
  · have d1 : m2 1 1 = m1 1 1 := b3 1 1 (by decide +kernel)
    rw [d1, a2, b2]
  · have d1 : m2 0 14 = μ 0 14 := hF 0 14 (by decide +kernel)
    have d2 : m2 200 32 = μ 200 32 := hF 200 32 (by decide +kernel)
    rw [d1, d2]
    exact e2
  · rcases a1 with ⟨q, c1, c2, -⟩ | ⟨e, c1, c2⟩ <;> rcases b1 with ⟨q', d1, d2, -⟩ | ⟨e', d1, d2, -⟩
    · have h := c1.symm.trans d1
      cases h
      rw [c2, d2]
    · have h := c1.symm.trans d1
      cases h
    · have h := c1.symm.trans d1
      cases h
    · have h := c1.symm.trans d1
      cases h
      rw [c2, d2]
end XWH
