section XWV
/-! rules between slots when rows are copied: T says of slots where what stands there stood before -/
abbrev xl_t5 : Type := Nat × Nat × Nat × Nat × Nat
noncomputable def xl_tf (T : List xl_t5) (p : tb_p) : Option xl_t5 := T.find? (fun x => Nat.beq x.1 p.1 && (Nat.ble x.2.1 p.2.1 && Nat.ble p.2.1 x.2.2.1))
noncomputable def xl_ts (T : List xl_t5) (p : tb_p) : tb_p := match xl_tf T p with
  | some x => (x.2.2.2.1, p.2.1 - x.2.1 + x.2.2.2.2, p.2.2)
  | none => p
noncomputable def xl_tk (KT : List tb_kd) (ch : List (Nat × Nat × Nat)) (T : List xl_t5) (p : tb_p) : Bool := match xl_tf T p with
  | some _ => xl_rp KT [] p && xl_rp KT [] (xl_ts T p)
  | none => xl_rq KT ch p
noncomputable def xl_tm (RU : List tb_ru) (x : tb_ru) : Bool := RU.any (fun y => Nat.beq y.2.1 x.2.1 && (Nat.beq y.2.2.1 x.2.2.1 && decide (y = x)))
noncomputable def xl_tr (KT : List tb_kd) (ch : List (Nat × Nat × Nat)) (T : List xl_t5) (RU : List tb_ru) (r : tb_ru) : Bool := (xl_tk KT ch T r.2 && r.1.all (xl_tk KT ch T)) && (((xl_tf T r.2).isNone && r.1.all (fun p => (xl_tf T p).isNone)) || xl_tm RU (r.1.map (xl_ts T), xl_ts T r.2))
theorem xl_tok {dA : Nat → ClassId} {al : List (Nat × Nat)} {KT : List tb_kd} {KL : List Nat} {A A' : Nat → Prop} {w w' : va_W} {μ μ' : xw_M} {ch : List (Nat × Nat × Nat)} {T : List xl_t5} {jo : Nat → Nat} {p : tb_p} (hk : xl_tk KT ch T p = true) (hKL : al.map Prod.snd = KL) (hu : ∀ x ∈ T, (∀ i : Nat, KL[i]? = some x.1 → i = jo x.1) ∧ (∀ i : Nat, KL[i]? = some x.2.2.2.1 → i = jo x.2.2.2.1) ∧ KL[jo x.1]? = some x.1 ∧ KL[jo x.2.2.2.1]? = some x.2.2.2.1) (hV : ∀ x ∈ T, ∀ i : Nat, x.2.1 ≤ i → i ≤ x.2.2.1 → μ' (jo x.1) i = μ (jo x.2.2.2.1) (i - x.2.1 + x.2.2.2.2)) (hD : va_D A w) (hD' : va_D A' w') (hR : xw_R dA al KT w μ) (hR' : xw_R dA al KT w' μ') (hF : ∀ (j a κ i : Nat), al[j]? = some (a, κ) → tb_md ch κ i = false → μ' j i = μ j i) : tb_in al w' p ↔ tb_in al w (xl_ts T p) := by
  unfold xl_tk at hk
  cases hx : xl_tf T p with
  | none =>
    rw [hx] at hk
    have hk : xl_rp KT ch p = true := xl_rqo hk
    have e : xl_ts T p = p := by
      unfold xl_ts
      rw [hx]
    rw [e]
    exact ⟨fun h => xl_in (A := A') (A' := A) hk hD' hR' hR (fun j a κ i g1 g2 => (hF j a κ i g1 g2).symm) h, fun h => xl_in (A := A) (A' := A') hk hD hR hR' hF h⟩
  | some x =>
    rw [hx] at hk
    have hk : (xl_rp KT [] p && xl_rp KT [] (xl_ts T p)) = true := hk
    rw [Bool.and_eq_true] at hk
    have e : xl_ts T p = (x.2.2.2.1, p.2.1 - x.2.1 + x.2.2.2.2, p.2.2) := by
      unfold xl_ts
      rw [hx]
    have hm : x ∈ T := List.mem_of_find?_eq_some hx
    have hq := List.find?_some hx
    rw [Bool.and_eq_true, Bool.and_eq_true] at hq
    have q1 : x.1 = p.1 := Nat.eq_of_beq_eq_true hq.1
    have q2 : x.2.1 ≤ p.2.1 := Nat.le_of_ble_eq_true hq.2.1
    have q3 : p.2.1 ≤ x.2.2.1 := Nat.le_of_ble_eq_true hq.2.2
    obtain ⟨u1, u2, u3, u4⟩ := hu x hm
    have v := hV x hm p.2.1 q2 q3
    refine ⟨fun h => ?_, fun h => ?_⟩
    · have b := xl_inR (j := jo x.1) hk.1 hKL (by rw [← q1]; exact u1) hD' hR' h
      rw [v] at b
      rw [e] at hk ⊢
      exact xl_inL (a := xw_ad al (jo x.2.2.2.1)) hk.2 (xw_al hKL u4) hD hR b
    · rw [e] at hk h
      have b := xl_inR (j := jo x.2.2.2.1) hk.2 hKL u2 hD hR h
      have b : p.2.2.1 ≤ μ (jo x.2.2.2.1) (p.2.1 - x.2.1 + x.2.2.2.2) ∧ μ (jo x.2.2.2.1) (p.2.1 - x.2.1 + x.2.2.2.2) ≤ p.2.2.2 := b
      rw [← v] at b
      exact xl_inL (a := xw_ad al (jo x.1)) hk.1 (by rw [← q1]; exact xw_al hKL u3) hD' hR' b
theorem xl_ruleM {dA : Nat → ClassId} {al : List (Nat × Nat)} {KT : List tb_kd} {KL : List Nat} {A A' : Nat → Prop} {w w' : va_W} {μ μ' : xw_M} {ch : List (Nat × Nat × Nat)} {T : List xl_t5} {RU : List tb_ru} {r : tb_ru} {jo : Nat → Nat} (hp : xl_tr KT ch T RU r = true) (hKL : al.map Prod.snd = KL) (hu : ∀ x ∈ T, (∀ i : Nat, KL[i]? = some x.1 → i = jo x.1) ∧ (∀ i : Nat, KL[i]? = some x.2.2.2.1 → i = jo x.2.2.2.1) ∧ KL[jo x.1]? = some x.1 ∧ KL[jo x.2.2.2.1]? = some x.2.2.2.1) (hV : ∀ x ∈ T, ∀ i : Nat, x.2.1 ≤ i → i ≤ x.2.2.1 → μ' (jo x.1) i = μ (jo x.2.2.2.1) (i - x.2.1 + x.2.2.2.2)) (hD : va_D A w) (hD' : va_D A' w') (hR : xw_R dA al KT w μ) (hR' : xw_R dA al KT w' μ') (hF : ∀ (j a κ i : Nat), al[j]? = some (a, κ) → tb_md ch κ i = false → μ' j i = μ j i) (h : ∀ (i : Nat) (r : tb_ru), RU[i]? = some r → tb_rh al w r) (i : Nat) (hr : RU[i]? = some r) : tb_rh al w' r := by
  intro hq
  have h9 := hp
  unfold xl_tr at h9
  rw [Bool.and_eq_true, Bool.and_eq_true] at h9
  obtain ⟨⟨k1, k2⟩, k3⟩ := h9
  have g : ∀ p : tb_p, xl_tk KT ch T p = true → (tb_in al w' p ↔ tb_in al w (xl_ts T p)) := fun p hk => xl_tok hk hKL hu hV hD hD' hR hR' hF
  obtain ⟨j, hj⟩ : ∃ j : Nat, RU[j]? = some (r.1.map (xl_ts T), xl_ts T r.2) := by
    rw [Bool.or_eq_true] at k3
    rcases k3 with k3 | k3
    · rw [Bool.and_eq_true] at k3
      have n9 : ∀ p : tb_p, (xl_tf T p).isNone = true → xl_ts T p = p := fun p hn => by
        unfold xl_ts
        cases hx : xl_tf T p with
        | none => rfl
        | some x =>
          rw [hx] at hn
          cases hn
      refine ⟨i, ?_⟩
      rw [hr, n9 r.2 k3.1]
      have e : r.1.map (xl_ts T) = r.1 := by
        have e2 : r.1.map (xl_ts T) = r.1.map id := List.map_congr_left (fun p hp9 => n9 p (List.all_eq_true.mp k3.2 p hp9))
        rw [e2, List.map_id]
      rw [e]
    · unfold xl_tm at k3
      rw [List.any_eq_true] at k3
      obtain ⟨y, y1, y2⟩ := k3
      rw [Bool.and_eq_true, Bool.and_eq_true] at y2
      have e : y = (r.1.map (xl_ts T), xl_ts T r.2) := of_decide_eq_true y2.2.2
      obtain ⟨j, hj⟩ := List.getElem?_of_mem y1
      exact ⟨j, hj.trans (congrArg some e)⟩
  refine (g r.2 k1).mpr (h j _ hj (fun p hp9 => ?_))
  have hp9 : p ∈ r.1.map (xl_ts T) := hp9
  obtain ⟨q, z1, rfl⟩ := List.mem_map.mp hp9
  exact (g q (List.all_eq_true.mp k2 q z1)).mp (hq q z1)
theorem xl_rulesM {dA : Nat → ClassId} {al : List (Nat × Nat)} {KT : List tb_kd} {KL : List Nat} {A A' : Nat → Prop} {w w' : va_W} {μ μ' : xw_M} {ch : List (Nat × Nat × Nat)} {T : List xl_t5} {RU : List tb_ru} {jo : Nat → Nat} (hp : RU.all (xl_tr KT ch T RU) = true) (hKL : al.map Prod.snd = KL) (hu : ∀ x ∈ T, (∀ i : Nat, KL[i]? = some x.1 → i = jo x.1) ∧ (∀ i : Nat, KL[i]? = some x.2.2.2.1 → i = jo x.2.2.2.1) ∧ KL[jo x.1]? = some x.1 ∧ KL[jo x.2.2.2.1]? = some x.2.2.2.1) (hV : ∀ x ∈ T, ∀ i : Nat, x.2.1 ≤ i → i ≤ x.2.2.1 → μ' (jo x.1) i = μ (jo x.2.2.2.1) (i - x.2.1 + x.2.2.2.2)) (hD : va_D A w) (hD' : va_D A' w') (hR : xw_R dA al KT w μ) (hR' : xw_R dA al KT w' μ') (hF : ∀ (j a κ i : Nat), al[j]? = some (a, κ) → tb_md ch κ i = false → μ' j i = μ j i) (h : ∀ (i : Nat) (r : tb_ru), RU[i]? = some r → tb_rh al w r) : ∀ (i : Nat) (r : tb_ru), RU[i]? = some r → tb_rh al w' r := fun i r hr => xl_ruleM (List.all_eq_true.mp hp r (List.mem_of_getElem? hr)) hKL hu hV hD hD' hR hR' hF h i hr
/-- where each kind lies -/
noncomputable def xl_jo (κ : Nat) : Nat := tc_KL.findIdx (fun q => Nat.beq q κ)
noncomputable def xl_ju (κ : Nat) : Bool := Nat.blt (xl_jo κ) 220 && (List.range 220).all (fun i => match tc_KL[i]? with
  | some q => !(Nat.beq q κ) || Nat.beq i (xl_jo κ)
  | none => true)
theorem xl_juo {κ : Nat} (h : xl_ju κ = true) : (∀ i : Nat, tc_KL[i]? = some κ → i = xl_jo κ) ∧ tc_KL[xl_jo κ]? = some κ := by
  unfold xl_ju at h
  rw [Bool.and_eq_true] at h
  obtain ⟨h1, h2⟩ := h
  have hlen : tc_KL.length = 220 := by decide +kernel
  have u : ∀ i : Nat, tc_KL[i]? = some κ → i = xl_jo κ := fun i hi => by
    have i1 : i < 220 := by rw [← hlen]; exact (List.getElem?_eq_some_iff.mp hi).1
    have h3 := List.all_eq_true.mp h2 i (List.mem_range.mpr i1)
    simp only [hi, Nat.beq_refl, Bool.not_true, Bool.false_or] at h3
    exact Nat.eq_of_beq_eq_true h3
  refine ⟨u, ?_⟩
  have h1 : xl_jo κ < tc_KL.length := by rw [hlen]; exact Nat.le_of_ble_eq_true h1
  have h4 := List.findIdx_getElem (w := h1)
  have h5 : tc_KL[xl_jo κ]'h1 = κ := Nat.eq_of_beq_eq_true h4
  rw [List.getElem?_eq_getElem h1, h5]
/-- image, restore: tables, frames -/
noncomputable def xl_mt : List (List xl_t5 × List (Nat × Nat × Nat)) := [([(10, 0, 378, 1, 0), (56, 0, 39, 50, 0), (58, 0, 39, 52, 0)], [(147, 13, 15), (148, 0, 5), (149, 0, 5), (150, 0, 5), (151, 0, 5), (152, 0, 5), (153, 0, 5), (154, 0, 5), (155, 0, 7), (156, 0, 7), (157, 0, 7), (158, 0, 7), (159, 0, 7), (160, 0, 23), (161, 6, 11), (162, 0, 5), (163, 0, 5), (164, 0, 5), (165, 0, 7), (166, 0, 7), (167, 0, 7), (168, 4, 5), (169, 0, 39), (170, 0, 39), (171, 0, 39), (146, 3, 3), (200, 0, 0), (204, 0, 378), (209, 0, 13), (210, 0, 0)]), ([(1, 0, 378, 10, 0), (50, 0, 39, 56, 0), (52, 0, 39, 58, 0)], [(4, 13, 15), (5, 0, 5), (6, 0, 5), (7, 0, 5), (8, 0, 5), (9, 0, 5), (10, 0, 5), (11, 0, 5), (12, 0, 7), (13, 0, 7), (14, 0, 7), (15, 0, 7), (16, 0, 7), (17, 0, 23), (18, 6, 11), (19, 0, 5), (20, 0, 5), (21, 0, 5), (22, 0, 7), (23, 0, 7), (24, 0, 7), (25, 4, 5), (26, 0, 39), (27, 0, 39), (28, 0, 39), (31, 1, 2), (200, 0, 0), (202, 0, 378), (207, 0, 13), (200, 23, 23)]), ([(10, 379, 757, 1, 0), (61, 0, 39, 50, 0), (63, 0, 39, 52, 0)], [(174, 13, 15), (175, 0, 5), (176, 0, 5), (177, 0, 5), (178, 0, 5), (179, 0, 5), (180, 0, 5), (181, 0, 5), (182, 0, 7), (183, 0, 7), (184, 0, 7), (185, 0, 7), (186, 0, 7), (187, 0, 23), (188, 6, 11), (189, 0, 5), (190, 0, 5), (191, 0, 5), (192, 0, 7), (193, 0, 7), (194, 0, 7), (195, 4, 5), (196, 0, 39), (197, 0, 39), (198, 0, 39), (173, 3, 3), (200, 0, 0), (204, 379, 757), (209, 14, 27), (210, 1, 1)]), ([(1, 0, 378, 10, 379), (50, 0, 39, 61, 0), (52, 0, 39, 63, 0)], [(4, 13, 15), (5, 0, 5), (6, 0, 5), (7, 0, 5), (8, 0, 5), (9, 0, 5), (10, 0, 5), (11, 0, 5), (12, 0, 7), (13, 0, 7), (14, 0, 7), (15, 0, 7), (16, 0, 7), (17, 0, 23), (18, 6, 11), (19, 0, 5), (20, 0, 5), (21, 0, 5), (22, 0, 7), (23, 0, 7), (24, 0, 7), (25, 4, 5), (26, 0, 39), (27, 0, 39), (28, 0, 39), (31, 1, 2), (200, 0, 0), (202, 0, 378), (207, 0, 13), (200, 23, 23)]), ([], [(200, 0, 0)])]
noncomputable def xl_Mv (μ μ' : xw_M) : Prop := ∃ q ∈ xl_mt, xw_F q.2 μ μ' ∧ ∀ x ∈ q.1, ∀ i : Nat, x.2.1 ≤ i → i ≤ x.2.2.1 → μ' (xl_jo x.1) i = μ (xl_jo x.2.2.2.1) (i - x.2.1 + x.2.2.2.2)
set_option maxRecDepth 200000 in
theorem xl_mtr0 : tb_RU0.all (xl_tr tb_KT0 (xl_ck [(147, 13, 15), (148, 0, 5), (149, 0, 5), (150, 0, 5), (151, 0, 5), (152, 0, 5), (153, 0, 5), (154, 0, 5), (155, 0, 7), (156, 0, 7), (157, 0, 7), (158, 0, 7), (159, 0, 7), (160, 0, 23), (161, 6, 11), (162, 0, 5), (163, 0, 5), (164, 0, 5), (165, 0, 7), (166, 0, 7), (167, 0, 7), (168, 4, 5), (169, 0, 39), (170, 0, 39), (171, 0, 39), (146, 3, 3), (200, 0, 0), (204, 0, 378), (209, 0, 13), (210, 0, 0)]) [(10, 0, 378, 1, 0), (56, 0, 39, 50, 0), (58, 0, 39, 52, 0)] tb_RU0) = true := by decide +kernel
set_option maxRecDepth 200000 in
theorem xl_mtr1 : tb_RU0.all (xl_tr tb_KT0 (xl_ck [(4, 13, 15), (5, 0, 5), (6, 0, 5), (7, 0, 5), (8, 0, 5), (9, 0, 5), (10, 0, 5), (11, 0, 5), (12, 0, 7), (13, 0, 7), (14, 0, 7), (15, 0, 7), (16, 0, 7), (17, 0, 23), (18, 6, 11), (19, 0, 5), (20, 0, 5), (21, 0, 5), (22, 0, 7), (23, 0, 7), (24, 0, 7), (25, 4, 5), (26, 0, 39), (27, 0, 39), (28, 0, 39), (31, 1, 2), (200, 0, 0), (202, 0, 378), (207, 0, 13), (200, 23, 23)]) [(1, 0, 378, 10, 0), (50, 0, 39, 56, 0), (52, 0, 39, 58, 0)] tb_RU0) = true := by decide +kernel
set_option maxRecDepth 200000 in
theorem xl_mtr2 : tb_RU0.all (xl_tr tb_KT0 (xl_ck [(174, 13, 15), (175, 0, 5), (176, 0, 5), (177, 0, 5), (178, 0, 5), (179, 0, 5), (180, 0, 5), (181, 0, 5), (182, 0, 7), (183, 0, 7), (184, 0, 7), (185, 0, 7), (186, 0, 7), (187, 0, 23), (188, 6, 11), (189, 0, 5), (190, 0, 5), (191, 0, 5), (192, 0, 7), (193, 0, 7), (194, 0, 7), (195, 4, 5), (196, 0, 39), (197, 0, 39), (198, 0, 39), (173, 3, 3), (200, 0, 0), (204, 379, 757), (209, 14, 27), (210, 1, 1)]) [(10, 379, 757, 1, 0), (61, 0, 39, 50, 0), (63, 0, 39, 52, 0)] tb_RU0) = true := by decide +kernel
set_option maxRecDepth 200000 in
theorem xl_mtr3 : tb_RU0.all (xl_tr tb_KT0 (xl_ck [(4, 13, 15), (5, 0, 5), (6, 0, 5), (7, 0, 5), (8, 0, 5), (9, 0, 5), (10, 0, 5), (11, 0, 5), (12, 0, 7), (13, 0, 7), (14, 0, 7), (15, 0, 7), (16, 0, 7), (17, 0, 23), (18, 6, 11), (19, 0, 5), (20, 0, 5), (21, 0, 5), (22, 0, 7), (23, 0, 7), (24, 0, 7), (25, 4, 5), (26, 0, 39), (27, 0, 39), (28, 0, 39), (31, 1, 2), (200, 0, 0), (202, 0, 378), (207, 0, 13), (200, 23, 23)]) [(1, 0, 378, 10, 379), (50, 0, 39, 61, 0), (52, 0, 39, 63, 0)] tb_RU0) = true := by decide +kernel
set_option maxRecDepth 200000 in
theorem xl_mtr4 : tb_RU0.all (xl_tr tb_KT0 (xl_ck [(200, 0, 0)]) [] tb_RU0) = true := by decide +kernel
theorem xl_mtr : ∀ q ∈ xl_mt, tb_RU0.all (xl_tr tb_KT0 (xl_ck q.2) q.1 tb_RU0) = true := by
  intro q hq
  unfold xl_mt at hq
  simp only [List.mem_cons, List.not_mem_nil, or_false] at hq
  rcases hq with rfl | rfl | rfl | rfl | rfl
  · exact xl_mtr0
  · exact xl_mtr1
  · exact xl_mtr2
  · exact xl_mtr3
  · exact xl_mtr4
set_option maxRecDepth 200000 in
theorem xl_mtu : xl_mt.all (fun q => q.1.all (fun x => xl_ju x.1 && xl_ju x.2.2.2.1)) = true := by decide +kernel
theorem xl_finM {p : Program} {l : Launch} {e : Env} {s : State} {m : MethodId} {args : Array Value} {below : List Frame} {meth : Method} {c : Code} {Q : State → Prop} {D : va_G} {dA : Nat → ClassId} {A : Nat → Prop} {al : List (Nat × Nat)} {w : va_W} {μ μ' : xw_M} {kc ks kc' ks' : Nat} {Lo : List (Nat × Value)} (hKL : al.map Prod.snd = tc_KL) (hD : va_D A w) (hR : xw_R dA al tb_KT0 w μ) (hru : ∀ (i : Nat) (r : tb_ru), tb_RU0[i]? = some r → tb_rh al w r) (nxt : ∀ (H : Heap) (locs : List Loc) (ls : Array Slot), lv_has ls 7 Lo → xl_I D dA A al H → va_S A s.heap H locs → W p l e room_1 s m args below meth c H locs kc ks Q (F0 m 23 ls [])) (hM : xl_Mv μ μ') (hΦ : xl_Φ μ') (h1 : kc' ≤ kc) (h2 : ks' ≤ ks) : xw_W p l e room_1 s m args below meth c Q D dA A 7 vwCl tb_KT0 al kc' ks' μ' 23 Lo [] := by
  intro H locs ls w' g1 g2 g3 g4 g5
  refine W.widen h1 h2 (nxt H locs ls g1 ⟨w', μ', g2, g3, g4, ?_, hΦ⟩ g5)
  obtain ⟨q, hq, hF, hV⟩ := hM
  have r1 := xl_mtr q hq
  have r2 := List.all_eq_true.mp xl_mtu q hq
  refine xl_rulesM r1 hKL (fun x hx => ?_) hV hD g3 hR g4 (fun j a κ i q1 q2 => hF j i (xl_cko (by rw [← hKL, List.getElem?_map, q1]; rfl) q2)) hru
  have r3 := List.all_eq_true.mp r2 x hx
  rw [Bool.and_eq_true] at r3
  exact ⟨(xl_juo r3.1).1, (xl_juo r3.2).1, (xl_juo r3.1).2, (xl_juo r3.2).2⟩
/-- both know the same HOUSE still -/
theorem xl_houseX {μ m1 m2 : xw_M} {t : Nat → Int} {n : Nat} {r1 r2 : Int} (hΦ : xl_Φ0 μ) (hP : hx_P μ) (w1 : ((∃ q : Int × (Nat → Int) × (Nat → Int), hp_res t n = .inr q ∧ r1 = q.1 ∧ hp_ok q.2.1 q.2.2 ∧ hx_E q.2.1 4 m1 ∧ hx_N q.2.1 q.2.2 4 m1) ∨ (∃ e9 : hp_E, hp_res t n = .inl e9 ∧ r1 = -1 - e9.2 ∧ ∀ j i : Nat, 4 ≤ j → j ≤ 17 → m1 j i = μ j i)) ∧ m1 1 1 = 0 ∧ xw_F xl_CHC μ m1) (w2 : ((∃ q : Int × (Nat → Int) × (Nat → Int), hp_res t n = .inr q ∧ r2 = q.1 ∧ hp_ok q.2.1 q.2.2 ∧ (∀ k : Nat, k < 77 → m2 203 k = q.2.1 k) ∧ (∀ k : Nat, k < 77 → m2 202 k = q.2.1 k) ∧ (∀ k : Nat, 139 ≤ k → k < 379 → m2 202 k = 0) ∧ hx_W q.2.1 q.2.2 207 0 m2) ∨ (∃ e9 : hp_E, hp_res t n = .inl e9 ∧ r2 = -1 - e9.2 ∧ hr_Z m2 ∧ (∀ k : Nat, m2 202 k = m1 202 k) ∧ ∀ k : Nat, m2 207 k = m1 207 k)) ∧ m2 200 2 = 0 ∧ xw_F xl_CHR m1 m2) : xw_F xl_CHX μ m2 ∧ xl_HH μ m2 ∧ xl_Φ0 m2 ∧ hx_P m2 ∧ r1 = r2 := by
  have b := xl_houseΦ hΦ (show ((∃ q : Int × (Nat → Int) × (Nat → Int), hp_res t n = .inr q ∧ r1 = q.1 ∧ hp_ok q.2.1 q.2.2) ∨ (∃ e9 : hp_E, hp_res t n = .inl e9 ∧ r1 = -1 - e9.2)) ∧ m1 1 1 = 0 ∧ xw_F xl_CHC μ m1 from ⟨by
    rcases w1.1 with ⟨q, c1, c2, c3, -⟩ | ⟨e, c1, c2, -⟩
    · exact Or.inl ⟨q, c1, c2, c3⟩
    · exact Or.inr ⟨e, c1, c2⟩, w1.2.1, w1.2.2⟩) ⟨by
    rcases w2.1 with ⟨q, c1, c2, c3, c4, c5, c6, -⟩ | ⟨e, c1, c2, c3, c4, -⟩
    · exact Or.inl ⟨q, c1, c2, c3, c4, c5, c6⟩
    · exact Or.inr ⟨e, c1, c2, c3, c4⟩, w2.2.1, w2.2.2⟩
  refine ⟨b.1, b.2.1, b.2.2.1, ?_, b.2.2.2⟩
  obtain ⟨a1, a2, a3⟩ := w1
  obtain ⟨b1, b2, b3⟩ := w2
  have fr := xw_Frg (a := 4) (b := 17) b3 (by decide +kernel)
  refine hx_Ph hP b.1 (by decide +kernel) ?_
  rcases a1 with ⟨q, c1, c2, c3, c4⟩ | ⟨e, c1, c2, c3⟩
  · rcases b1 with ⟨q', d1, d2, d3, d4, d5, d6, d7⟩ | ⟨e', d1, d2, d3, d4⟩
    · have h := c1.symm.trans d1
      cases h
      exact ⟨_, _, c3, d5, hx_EF c4.1 fr, hx_NF c4.2 fr, d7⟩
    · have h := c1.symm.trans d1
      cases h
  · rcases b1 with ⟨q', d1, d2, d3, d4, d5, d6⟩ | ⟨e', d1, d2, d3, d4, d9⟩
    · have h := c1.symm.trans d1
      cases h
    · exact hx_VF hP.1 (fun k _ => (d4 _).trans (a3 202 _ (xw_oj (by decide +kernel) _))) (fun j i h1 h2 => (fr j i h1 h2).trans (c3 j i h1 h2)) (fun k _ => (d9 _).trans (a3 207 _ (xw_oj (by decide +kernel) _)))
theorem xl_Pf {ML : List (Nat × Nat × Nat)} {μ μ' : xw_M} (hΦ : xl_Φ0 μ) (hF : xw_F ML μ μ') (hd : (xw_GL.all (fun q => xw_o ML q.1 q.2.1) && (ML.all (fun q => !(Nat.beq q.1 2)) && (ML.all (fun q => !(Nat.beq q.1 201)) && (xw_o ML 1 1 && (xw_o ML 200 2 && (xw_o ML 0 14 && xw_o ML 200 32)))))) = true) : xl_Φ0 μ' := by
  simp only [Bool.and_eq_true] at hd
  obtain ⟨d1, d2, d3, d4, d5, d6, d7⟩ := hd
  obtain ⟨hG, hT, e1, e2⟩ := hΦ
  exact ⟨xw_GF hG hF d1, fun i => by rw [hF 2 i (xw_oj d2 i), hF 201 i (xw_oj d3 i)]; exact hT i, by rw [hF _ _ d4, hF _ _ d5]; exact e1, by rw [hF _ _ d6, hF _ _ d7]; exact e2⟩
theorem xl_th {μ m2 : xw_M} (hΦ : xl_Φ0 μ) (hP : hx_P μ) (hF : xw_F [(200, 0, 0)] μ m2) : xl_Mv μ m2 ∧ xl_Φ0 m2 ∧ hx_P m2 := ⟨⟨([], [(200, 0, 0)]), List.mem_cons_of_mem _ (List.mem_cons_of_mem _ (List.mem_cons_of_mem _ (List.mem_cons_of_mem _ List.mem_cons_self))), hF, fun x hx => absurd hx List.not_mem_nil⟩, xl_Pf hΦ hF (by decide +kernel), hx_Pf hP hF (by decide +kernel)⟩
theorem xl_imgX0 {μ m1 m2 : xw_M} {r1 r2 : Int} (hΦ : xl_Φ0 μ) (hP : hx_P μ) (w1 : r1 = 1 ∧ hx_C 147 4 μ m1 ∧ ((∀ i : Nat, i < 40 → m1 169 i = μ 26 i) ∧ (∀ i : Nat, i < 40 → m1 171 i = μ 28 i)) ∧ m1 146 3 = 1 ∧ xw_F [(147, 13, 15), (148, 0, 5), (149, 0, 5), (150, 0, 5), (151, 0, 5), (152, 0, 5), (153, 0, 5), (154, 0, 5), (155, 0, 7), (156, 0, 7), (157, 0, 7), (158, 0, 7), (159, 0, 7), (160, 0, 23), (161, 6, 11), (162, 0, 5), (163, 0, 5), (164, 0, 5), (165, 0, 7), (166, 0, 7), (167, 0, 7), (168, 4, 5), (169, 0, 39), (170, 0, 39), (171, 0, 39), (146, 3, 3)] μ m1) (w2 : r2 = 1 ∧ (∀ i : Nat, i < 379 → m2 204 (i + 0) = m1 202 i) ∧ m2 210 0 = 1 ∧ (∀ i : Nat, i < 14 → m2 209 (i + 0) = m1 207 i) ∧ xw_F [(200, 0, 0), (204, 0, 378), (209, 0, 13), (210, 0, 0)] m1 m2) : xl_Mv μ m2 ∧ xl_Φ0 m2 ∧ hx_P m2 := by
  obtain ⟨a1, a2, a3, a4, a5⟩ := w1
  obtain ⟨b1, b2, b3, b9, b4⟩ := w2
  have hF : xw_F [(147, 13, 15), (148, 0, 5), (149, 0, 5), (150, 0, 5), (151, 0, 5), (152, 0, 5), (153, 0, 5), (154, 0, 5), (155, 0, 7), (156, 0, 7), (157, 0, 7), (158, 0, 7), (159, 0, 7), (160, 0, 23), (161, 6, 11), (162, 0, 5), (163, 0, 5), (164, 0, 5), (165, 0, 7), (166, 0, 7), (167, 0, 7), (168, 4, 5), (169, 0, 39), (170, 0, 39), (171, 0, 39), (146, 3, 3), (200, 0, 0), (204, 0, 378), (209, 0, 13), (210, 0, 0)] μ m2 := (a5.mono (fun j i h => xw_o_sub (by decide) j i h)).tr b4 (fun j i h => xw_o_sub (by decide) j i h)
  have v9 : ∀ i : Nat, i < 379 → m2 204 (i + 0) = μ 202 i := fun i hi => (b2 i hi).trans (a5 202 i (xw_oj (by decide) i))
  obtain ⟨p1, ⟨p2, p3⟩, p4, p5⟩ := hP
  refine ⟨⟨([(10, 0, 378, 1, 0), (56, 0, 39, 50, 0), (58, 0, 39, 52, 0)], [(147, 13, 15), (148, 0, 5), (149, 0, 5), (150, 0, 5), (151, 0, 5), (152, 0, 5), (153, 0, 5), (154, 0, 5), (155, 0, 7), (156, 0, 7), (157, 0, 7), (158, 0, 7), (159, 0, 7), (160, 0, 23), (161, 6, 11), (162, 0, 5), (163, 0, 5), (164, 0, 5), (165, 0, 7), (166, 0, 7), (167, 0, 7), (168, 4, 5), (169, 0, 39), (170, 0, 39), (171, 0, 39), (146, 3, 3), (200, 0, 0), (204, 0, 378), (209, 0, 13), (210, 0, 0)]), List.mem_cons_self, hF, ?_⟩, xl_Pf hΦ hF (by decide +kernel), hx_VF p1 (fun k hk => hF 202 _ (xw_oj (by decide) _)) (xw_Frg (a := 4) (b := 17) hF (by decide)) (fun k hk => hF 207 _ (xw_oj (by decide) _)), ⟨((b4 146 3 (by decide)).trans a4).trans b3.symm, fun _ => hx_VC (j := 202) (o := 0) (jn := 207) (on := 0) (a := 4) p1 (fun k hk => v9 k (by omega)) (fun k hk => (b9 k hk).trans (a5 207 _ (xw_oj (by decide) _))) (hx_CF a2 (xw_Frg (a := 147) (b := 160) b4 (by decide)))⟩, (hF 173 3 (by decide)).trans (p4.trans (hF 210 1 (by decide)).symm), fun q => hx_VF (p5 ((hF 210 1 (by decide)).symm.trans q)) (fun k hk => hF 204 _ (xw_oB (a := 379) (b := 455) (by decide) (by omega) (by omega))) (xw_Frg (a := 174) (b := 187) hF (by decide)) (fun k hk => hF 209 _ (xw_oB (a := 14) (b := 27) (by decide) (by omega) (by omega)))⟩
  · intro x hx
    simp only [List.mem_cons, List.not_mem_nil, or_false] at hx
    rcases hx with rfl | rfl | rfl
    · intro i h1 h2
      have h1 : 0 ≤ i := h1
      have h2 : i ≤ 378 := h2
      show m2 (xl_jo 10) i = μ (xl_jo 1) (i - 0 + 0)
      rw [show xl_jo 10 = 204 by decide +kernel, show xl_jo 1 = 202 by decide +kernel]
      rw [Nat.sub_zero, Nat.add_zero]
      exact v9 i (by omega)
    · intro i h1 h2
      have h1 : 0 ≤ i := h1
      have h2 : i ≤ 39 := h2
      show m2 (xl_jo 56) i = μ (xl_jo 50) (i - 0 + 0)
      rw [show xl_jo 56 = 169 by decide +kernel, show xl_jo 50 = 26 by decide +kernel]
      exact (b4 169 i (xw_oj (by decide) i)).trans (a3.1 i (by omega))
    · intro i h1 h2
      have h1 : 0 ≤ i := h1
      have h2 : i ≤ 39 := h2
      show m2 (xl_jo 58) i = μ (xl_jo 52) (i - 0 + 0)
      rw [show xl_jo 58 = 171 by decide +kernel, show xl_jo 52 = 28 by decide +kernel]
      exact (b4 171 i (xw_oj (by decide) i)).trans (a3.2 i (by omega))
theorem xl_rstX0 {μ m1 m2 : xw_M} {r1 r2 : Int} (hΦ : xl_Φ0 μ) (hP : hx_P μ) (w1 : (μ 146 3 = 0 ∧ r1 = 0 ∧ μ = m1) ∨ (μ 146 3 = 1 ∧ r1 = 1 ∧ hx_C 4 147 μ m1 ∧ ((∀ i : Nat, i < 40 → m1 26 i = μ 169 i) ∧ (∀ i : Nat, i < 40 → m1 28 i = μ 171 i)) ∧ xw_F [(4, 13, 15), (5, 0, 5), (6, 0, 5), (7, 0, 5), (8, 0, 5), (9, 0, 5), (10, 0, 5), (11, 0, 5), (12, 0, 7), (13, 0, 7), (14, 0, 7), (15, 0, 7), (16, 0, 7), (17, 0, 23), (18, 6, 11), (19, 0, 5), (20, 0, 5), (21, 0, 5), (22, 0, 7), (23, 0, 7), (24, 0, 7), (25, 4, 5), (26, 0, 39), (27, 0, 39), (28, 0, 39), (31, 1, 2)] μ m1)) (w2 : (m1 210 0 = 0 ∧ r2 = 0 ∧ xw_F [(200, 0, 0)] m1 m2) ∨ (m1 210 0 = 1 ∧ r2 = 1 ∧ (∀ i : Nat, i < 379 → m2 202 i = m1 204 (i + 0)) ∧ (∀ i : Nat, i < 14 → m2 207 i = m1 209 (i + 0)) ∧ xw_F [(200, 0, 0), (202, 0, 378), (207, 0, 13), (200, 23, 23)] m1 m2)) : xl_Mv μ m2 ∧ xl_Φ0 m2 ∧ hx_P m2 := by
  rcases w1 with ⟨a0, a1, rfl⟩ | ⟨a0, a1, a2, a3, a5⟩
  · rcases w2 with ⟨b0, b1, b2⟩ | ⟨b0, b1, b2, b9, b4⟩
    · exact xl_th hΦ hP b2
    · exfalso
      have q9 := hP.2.1.1
      omega
  · have q8 : m1 210 0 = μ 210 0 := a5 210 0 (by decide)
    have q7 := hP.2.1.1
    rcases w2 with ⟨b0, b1, b2⟩ | ⟨b0, b1, b2, b9, b4⟩
    · exfalso
      omega
    · have hF : xw_F [(4, 13, 15), (5, 0, 5), (6, 0, 5), (7, 0, 5), (8, 0, 5), (9, 0, 5), (10, 0, 5), (11, 0, 5), (12, 0, 7), (13, 0, 7), (14, 0, 7), (15, 0, 7), (16, 0, 7), (17, 0, 23), (18, 6, 11), (19, 0, 5), (20, 0, 5), (21, 0, 5), (22, 0, 7), (23, 0, 7), (24, 0, 7), (25, 4, 5), (26, 0, 39), (27, 0, 39), (28, 0, 39), (31, 1, 2), (200, 0, 0), (202, 0, 378), (207, 0, 13), (200, 23, 23)] μ m2 := (a5.mono (fun j i h => xw_o_sub (by decide) j i h)).tr b4 (fun j i h => xw_o_sub (by decide) j i h)
      have v9 : ∀ i : Nat, i < 379 → m2 202 i = μ 204 (i + 0) := fun i hi => (b2 i hi).trans (a5 204 _ (xw_oj (by decide) _))
      obtain ⟨p1, ⟨p2, p3⟩, p4, p5⟩ := hP
      refine ⟨⟨([(1, 0, 378, 10, 0), (50, 0, 39, 56, 0), (52, 0, 39, 58, 0)], [(4, 13, 15), (5, 0, 5), (6, 0, 5), (7, 0, 5), (8, 0, 5), (9, 0, 5), (10, 0, 5), (11, 0, 5), (12, 0, 7), (13, 0, 7), (14, 0, 7), (15, 0, 7), (16, 0, 7), (17, 0, 23), (18, 6, 11), (19, 0, 5), (20, 0, 5), (21, 0, 5), (22, 0, 7), (23, 0, 7), (24, 0, 7), (25, 4, 5), (26, 0, 39), (27, 0, 39), (28, 0, 39), (31, 1, 2), (200, 0, 0), (202, 0, 378), (207, 0, 13), (200, 23, 23)]), List.mem_cons_of_mem _ List.mem_cons_self, hF, ?_⟩, xl_Pf hΦ hF (by decide +kernel), hx_VC (j := 204) (o := 0) (jn := 209) (on := 0) (a := 147) (p3 (by omega)) (fun k hk => v9 k (by omega)) (fun k hk => (b9 k hk).trans (a5 209 _ (xw_oj (by decide) _))) (hx_CF a2 (xw_Frg (a := 4) (b := 17) b4 (by decide))), ⟨(hF 146 3 (by decide)).trans (p2.trans (hF 210 0 (by decide)).symm), fun q => hx_VF (p3 ((hF 210 0 (by decide)).symm.trans q)) (fun k hk => hF 204 _ (xw_oj (by decide) _)) (xw_Frg (a := 147) (b := 160) hF (by decide)) (fun k hk => hF 209 _ (xw_oj (by decide) _))⟩, (hF 173 3 (by decide)).trans (p4.trans (hF 210 1 (by decide)).symm), fun q => hx_VF (p5 ((hF 210 1 (by decide)).symm.trans q)) (fun k hk => hF 204 _ (xw_oj (by decide) _)) (xw_Frg (a := 174) (b := 187) hF (by decide)) (fun k hk => hF 209 _ (xw_oj (by decide) _))⟩
      · intro x hx
        simp only [List.mem_cons, List.not_mem_nil, or_false] at hx
        rcases hx with rfl | rfl | rfl
        · intro i h1 h2
          have h1 : 0 ≤ i := h1
          have h2 : i ≤ 378 := h2
          show m2 (xl_jo 1) i = μ (xl_jo 10) (i - 0 + 0)
          rw [show xl_jo 1 = 202 by decide +kernel, show xl_jo 10 = 204 by decide +kernel]
          rw [Nat.sub_zero, Nat.add_zero]
          exact v9 i (by omega)
        · intro i h1 h2
          have h1 : 0 ≤ i := h1
          have h2 : i ≤ 39 := h2
          show m2 (xl_jo 50) i = μ (xl_jo 56) (i - 0 + 0)
          rw [show xl_jo 50 = 26 by decide +kernel, show xl_jo 56 = 169 by decide +kernel]
          exact (b4 26 i (xw_oj (by decide) i)).trans (a3.1 i (by omega))
        · intro i h1 h2
          have h1 : 0 ≤ i := h1
          have h2 : i ≤ 39 := h2
          show m2 (xl_jo 52) i = μ (xl_jo 58) (i - 0 + 0)
          rw [show xl_jo 52 = 28 by decide +kernel, show xl_jo 58 = 171 by decide +kernel]
          exact (b4 28 i (xw_oj (by decide) i)).trans (a3.2 i (by omega))
theorem xl_imgX1 {μ m1 m2 : xw_M} {r1 r2 : Int} (hΦ : xl_Φ0 μ) (hP : hx_P μ) (w1 : r1 = 1 ∧ hx_C 174 4 μ m1 ∧ ((∀ i : Nat, i < 40 → m1 196 i = μ 26 i) ∧ (∀ i : Nat, i < 40 → m1 198 i = μ 28 i)) ∧ m1 173 3 = 1 ∧ xw_F [(174, 13, 15), (175, 0, 5), (176, 0, 5), (177, 0, 5), (178, 0, 5), (179, 0, 5), (180, 0, 5), (181, 0, 5), (182, 0, 7), (183, 0, 7), (184, 0, 7), (185, 0, 7), (186, 0, 7), (187, 0, 23), (188, 6, 11), (189, 0, 5), (190, 0, 5), (191, 0, 5), (192, 0, 7), (193, 0, 7), (194, 0, 7), (195, 4, 5), (196, 0, 39), (197, 0, 39), (198, 0, 39), (173, 3, 3)] μ m1) (w2 : r2 = 1 ∧ (∀ i : Nat, i < 379 → m2 204 (i + 379) = m1 202 i) ∧ m2 210 1 = 1 ∧ (∀ i : Nat, i < 14 → m2 209 (i + 14) = m1 207 i) ∧ xw_F [(200, 0, 0), (204, 379, 757), (209, 14, 27), (210, 1, 1)] m1 m2) : xl_Mv μ m2 ∧ xl_Φ0 m2 ∧ hx_P m2 := by
  obtain ⟨a1, a2, a3, a4, a5⟩ := w1
  obtain ⟨b1, b2, b3, b9, b4⟩ := w2
  have hF : xw_F [(174, 13, 15), (175, 0, 5), (176, 0, 5), (177, 0, 5), (178, 0, 5), (179, 0, 5), (180, 0, 5), (181, 0, 5), (182, 0, 7), (183, 0, 7), (184, 0, 7), (185, 0, 7), (186, 0, 7), (187, 0, 23), (188, 6, 11), (189, 0, 5), (190, 0, 5), (191, 0, 5), (192, 0, 7), (193, 0, 7), (194, 0, 7), (195, 4, 5), (196, 0, 39), (197, 0, 39), (198, 0, 39), (173, 3, 3), (200, 0, 0), (204, 379, 757), (209, 14, 27), (210, 1, 1)] μ m2 := (a5.mono (fun j i h => xw_o_sub (by decide) j i h)).tr b4 (fun j i h => xw_o_sub (by decide) j i h)
  have v9 : ∀ i : Nat, i < 379 → m2 204 (i + 379) = μ 202 i := fun i hi => (b2 i hi).trans (a5 202 i (xw_oj (by decide) i))
  obtain ⟨p1, ⟨p2, p3⟩, p4, p5⟩ := hP
  refine ⟨⟨([(10, 379, 757, 1, 0), (61, 0, 39, 50, 0), (63, 0, 39, 52, 0)], [(174, 13, 15), (175, 0, 5), (176, 0, 5), (177, 0, 5), (178, 0, 5), (179, 0, 5), (180, 0, 5), (181, 0, 5), (182, 0, 7), (183, 0, 7), (184, 0, 7), (185, 0, 7), (186, 0, 7), (187, 0, 23), (188, 6, 11), (189, 0, 5), (190, 0, 5), (191, 0, 5), (192, 0, 7), (193, 0, 7), (194, 0, 7), (195, 4, 5), (196, 0, 39), (197, 0, 39), (198, 0, 39), (173, 3, 3), (200, 0, 0), (204, 379, 757), (209, 14, 27), (210, 1, 1)]), List.mem_cons_of_mem _ (List.mem_cons_of_mem _ List.mem_cons_self), hF, ?_⟩, xl_Pf hΦ hF (by decide +kernel), hx_VF p1 (fun k hk => hF 202 _ (xw_oj (by decide) _)) (xw_Frg (a := 4) (b := 17) hF (by decide)) (fun k hk => hF 207 _ (xw_oj (by decide) _)), ⟨(hF 146 3 (by decide)).trans (p2.trans (hF 210 0 (by decide)).symm), fun q => hx_VF (p3 ((hF 210 0 (by decide)).symm.trans q)) (fun k hk => hF 204 _ (xw_oB (a := 0) (b := 76) (by decide) (by omega) (by omega))) (xw_Frg (a := 147) (b := 160) hF (by decide)) (fun k hk => hF 209 _ (xw_oB (a := 0) (b := 13) (by decide) (by omega) (by omega)))⟩, ((b4 173 3 (by decide)).trans a4).trans b3.symm, fun _ => hx_VC (j := 202) (o := 0) (jn := 207) (on := 0) (a := 4) p1 (fun k hk => v9 k (by omega)) (fun k hk => (b9 k hk).trans (a5 207 _ (xw_oj (by decide) _))) (hx_CF a2 (xw_Frg (a := 174) (b := 187) b4 (by decide)))⟩
  · intro x hx
    simp only [List.mem_cons, List.not_mem_nil, or_false] at hx
    rcases hx with rfl | rfl | rfl
    · intro i h1 h2
      have h1 : 379 ≤ i := h1
      have h2 : i ≤ 757 := h2
      show m2 (xl_jo 10) i = μ (xl_jo 1) (i - 379 + 0)
      rw [show xl_jo 10 = 204 by decide +kernel, show xl_jo 1 = 202 by decide +kernel]
      rw [Nat.add_zero]
      have q9 := v9 (i - 379) (by omega)
      rw [show i - 379 + 379 = i by omega] at q9
      exact q9
    · intro i h1 h2
      have h1 : 0 ≤ i := h1
      have h2 : i ≤ 39 := h2
      show m2 (xl_jo 61) i = μ (xl_jo 50) (i - 0 + 0)
      rw [show xl_jo 61 = 196 by decide +kernel, show xl_jo 50 = 26 by decide +kernel]
      exact (b4 196 i (xw_oj (by decide) i)).trans (a3.1 i (by omega))
    · intro i h1 h2
      have h1 : 0 ≤ i := h1
      have h2 : i ≤ 39 := h2
      show m2 (xl_jo 63) i = μ (xl_jo 52) (i - 0 + 0)
      rw [show xl_jo 63 = 198 by decide +kernel, show xl_jo 52 = 28 by decide +kernel]
      exact (b4 198 i (xw_oj (by decide) i)).trans (a3.2 i (by omega))
theorem xl_rstX1 {μ m1 m2 : xw_M} {r1 r2 : Int} (hΦ : xl_Φ0 μ) (hP : hx_P μ) (w1 : (μ 173 3 = 0 ∧ r1 = 0 ∧ μ = m1) ∨ (μ 173 3 = 1 ∧ r1 = 1 ∧ hx_C 4 174 μ m1 ∧ ((∀ i : Nat, i < 40 → m1 26 i = μ 196 i) ∧ (∀ i : Nat, i < 40 → m1 28 i = μ 198 i)) ∧ xw_F [(4, 13, 15), (5, 0, 5), (6, 0, 5), (7, 0, 5), (8, 0, 5), (9, 0, 5), (10, 0, 5), (11, 0, 5), (12, 0, 7), (13, 0, 7), (14, 0, 7), (15, 0, 7), (16, 0, 7), (17, 0, 23), (18, 6, 11), (19, 0, 5), (20, 0, 5), (21, 0, 5), (22, 0, 7), (23, 0, 7), (24, 0, 7), (25, 4, 5), (26, 0, 39), (27, 0, 39), (28, 0, 39), (31, 1, 2)] μ m1)) (w2 : (m1 210 1 = 0 ∧ r2 = 0 ∧ xw_F [(200, 0, 0)] m1 m2) ∨ (m1 210 1 = 1 ∧ r2 = 1 ∧ (∀ i : Nat, i < 379 → m2 202 i = m1 204 (i + 379)) ∧ (∀ i : Nat, i < 14 → m2 207 i = m1 209 (i + 14)) ∧ xw_F [(200, 0, 0), (202, 0, 378), (207, 0, 13), (200, 23, 23)] m1 m2)) : xl_Mv μ m2 ∧ xl_Φ0 m2 ∧ hx_P m2 := by
  rcases w1 with ⟨a0, a1, rfl⟩ | ⟨a0, a1, a2, a3, a5⟩
  · rcases w2 with ⟨b0, b1, b2⟩ | ⟨b0, b1, b2, b9, b4⟩
    · exact xl_th hΦ hP b2
    · exfalso
      have q9 := hP.2.2.1
      omega
  · have q8 : m1 210 1 = μ 210 1 := a5 210 1 (by decide)
    have q7 := hP.2.2.1
    rcases w2 with ⟨b0, b1, b2⟩ | ⟨b0, b1, b2, b9, b4⟩
    · exfalso
      omega
    · have hF : xw_F [(4, 13, 15), (5, 0, 5), (6, 0, 5), (7, 0, 5), (8, 0, 5), (9, 0, 5), (10, 0, 5), (11, 0, 5), (12, 0, 7), (13, 0, 7), (14, 0, 7), (15, 0, 7), (16, 0, 7), (17, 0, 23), (18, 6, 11), (19, 0, 5), (20, 0, 5), (21, 0, 5), (22, 0, 7), (23, 0, 7), (24, 0, 7), (25, 4, 5), (26, 0, 39), (27, 0, 39), (28, 0, 39), (31, 1, 2), (200, 0, 0), (202, 0, 378), (207, 0, 13), (200, 23, 23)] μ m2 := (a5.mono (fun j i h => xw_o_sub (by decide) j i h)).tr b4 (fun j i h => xw_o_sub (by decide) j i h)
      have v9 : ∀ i : Nat, i < 379 → m2 202 i = μ 204 (i + 379) := fun i hi => (b2 i hi).trans (a5 204 _ (xw_oj (by decide) _))
      obtain ⟨p1, ⟨p2, p3⟩, p4, p5⟩ := hP
      refine ⟨⟨([(1, 0, 378, 10, 379), (50, 0, 39, 61, 0), (52, 0, 39, 63, 0)], [(4, 13, 15), (5, 0, 5), (6, 0, 5), (7, 0, 5), (8, 0, 5), (9, 0, 5), (10, 0, 5), (11, 0, 5), (12, 0, 7), (13, 0, 7), (14, 0, 7), (15, 0, 7), (16, 0, 7), (17, 0, 23), (18, 6, 11), (19, 0, 5), (20, 0, 5), (21, 0, 5), (22, 0, 7), (23, 0, 7), (24, 0, 7), (25, 4, 5), (26, 0, 39), (27, 0, 39), (28, 0, 39), (31, 1, 2), (200, 0, 0), (202, 0, 378), (207, 0, 13), (200, 23, 23)]), List.mem_cons_of_mem _ (List.mem_cons_of_mem _ (List.mem_cons_of_mem _ List.mem_cons_self)), hF, ?_⟩, xl_Pf hΦ hF (by decide +kernel), hx_VC (j := 204) (o := 379) (jn := 209) (on := 14) (a := 174) (p5 (by omega)) (fun k hk => v9 k (by omega)) (fun k hk => (b9 k hk).trans (a5 209 _ (xw_oj (by decide) _))) (hx_CF a2 (xw_Frg (a := 4) (b := 17) b4 (by decide))), ⟨(hF 146 3 (by decide)).trans (p2.trans (hF 210 0 (by decide)).symm), fun q => hx_VF (p3 ((hF 210 0 (by decide)).symm.trans q)) (fun k hk => hF 204 _ (xw_oj (by decide) _)) (xw_Frg (a := 147) (b := 160) hF (by decide)) (fun k hk => hF 209 _ (xw_oj (by decide) _))⟩, (hF 173 3 (by decide)).trans (p4.trans (hF 210 1 (by decide)).symm), fun q => hx_VF (p5 ((hF 210 1 (by decide)).symm.trans q)) (fun k hk => hF 204 _ (xw_oj (by decide) _)) (xw_Frg (a := 174) (b := 187) hF (by decide)) (fun k hk => hF 209 _ (xw_oj (by decide) _))⟩
      · intro x hx
        simp only [List.mem_cons, List.not_mem_nil, or_false] at hx
        rcases hx with rfl | rfl | rfl
        · intro i h1 h2
          have h1 : 0 ≤ i := h1
          have h2 : i ≤ 378 := h2
          show m2 (xl_jo 1) i = μ (xl_jo 10) (i - 0 + 379)
          rw [show xl_jo 1 = 202 by decide +kernel, show xl_jo 10 = 204 by decide +kernel]
          rw [Nat.sub_zero]
          exact v9 i (by omega)
        · intro i h1 h2
          have h1 : 0 ≤ i := h1
          have h2 : i ≤ 39 := h2
          show m2 (xl_jo 50) i = μ (xl_jo 61) (i - 0 + 0)
          rw [show xl_jo 50 = 26 by decide +kernel, show xl_jo 61 = 196 by decide +kernel]
          exact (b4 26 i (xw_oj (by decide) i)).trans (a3.1 i (by omega))
        · intro i h1 h2
          have h1 : 0 ≤ i := h1
          have h2 : i ≤ 39 := h2
          show m2 (xl_jo 52) i = μ (xl_jo 63) (i - 0 + 0)
          rw [show xl_jo 52 = 28 by decide +kernel, show xl_jo 63 = 198 by decide +kernel]
          exact (b4 28 i (xw_oj (by decide) i)).trans (a3.2 i (by omega))
theorem xl_Pw {ML : List (Nat × Nat × Nat)} {μ μ' : xw_M} (hΦ : xl_Φ0 μ) (hF : xw_F ML μ μ') (z1 : μ' 1 1 = 0) (z2 : μ' 200 2 = 0) (hd : (xw_GL.all (fun q => xw_o ML q.1 q.2.1) && (ML.all (fun q => !(Nat.beq q.1 2)) && (ML.all (fun q => !(Nat.beq q.1 201)) && (xw_o ML 0 14 && xw_o ML 200 32)))) = true) : xl_Φ0 μ' := by
  simp only [Bool.and_eq_true] at hd
  obtain ⟨d1, d2, d3, d6, d7⟩ := hd
  obtain ⟨hG, hT, e1, e2⟩ := hΦ
  exact ⟨xw_GF hG hF d1, fun i => by rw [hF 2 i (xw_oj d2 i), hF 201 i (xw_oj d3 i)]; exact hT i, by rw [z1, z2], by rw [hF _ _ d6, hF _ _ d7]; exact e2⟩
theorem hx_DH {v nm : Nat → Int} {μ : xw_M} (h : hx_E v 4 μ) (h2 : hx_N v nm 4 μ) : hd_H v nm μ := ⟨h.1, fun k hk hl => ⟨h2.1 k hk hl, h.2.1 k hk hl⟩, fun k hk hl => ⟨h2.2 k hk hl, h.2.2.1 k hk hl⟩, h.2.2.2⟩
theorem hx_DM {v nm : Nat → Int} {μ : xw_M} (hN : ∀ k : Nat, k < 77 → μ 202 k = v k) (h : hx_W v nm 207 0 μ) : hr_M v nm μ := ⟨⟨hN 0 (by decide), hN 1 (by decide)⟩, fun k hk hl => h.1 k hk hl, fun k hk hl => h.2 k hk hl⟩
/-- rules of one premise: read at a memory, and written -/
theorem xl_tmI {RU : List tb_ru} {x : tb_ru} (h : xl_tm RU x = true) : ∃ j : Nat, RU[j]? = some x := by
  unfold xl_tm at h
  rw [List.any_eq_true] at h
  obtain ⟨y, y1, y2⟩ := h
  rw [Bool.and_eq_true, Bool.and_eq_true] at y2
  have e : y = x := of_decide_eq_true y2.2.2
  obtain ⟨j, hj⟩ := List.getElem?_of_mem y1
  exact ⟨j, hj.trans (congrArg some e)⟩
theorem xl_jx {κ j : Nat} (h : xl_ju κ = true) (e : xl_jo κ = j) : (∀ i : Nat, tc_KL[i]? = some κ → i = j) ∧ tc_KL[j]? = some κ := by
  rw [← e]
  exact xl_juo h
theorem xl_r1 {dA : Nat → ClassId} {A : Nat → Prop} {al : List (Nat × Nat)} {w : va_W} {μ : xw_M} {κ i κ2 i2 j j2 : Nat} {lo hi lo2 hi2 : Int} (hKL : al.map Prod.snd = tc_KL) (hD : va_D A w) (hR : xw_R dA al tb_KT0 w μ) (hru : ∀ (i : Nat) (r : tb_ru), tb_RU0[i]? = some r → tb_rh al w r) (hm : xl_tm tb_RU0 (([(κ, i, lo, hi)], (κ2, i2, lo2, hi2)) : tb_ru) = true) (hp : xl_rp tb_KT0 [] ((κ, i, lo, hi) : tb_p) = true) (hq : xl_rp tb_KT0 [] ((κ2, i2, lo2, hi2) : tb_p) = true) (h1 : (∀ q : Nat, tc_KL[q]? = some κ → q = j) ∧ tc_KL[j]? = some κ) (h2 : (∀ q : Nat, tc_KL[q]? = some κ2 → q = j2) ∧ tc_KL[j2]? = some κ2) (h : lo ≤ μ j i ∧ μ j i ≤ hi) : lo2 ≤ μ j2 i2 ∧ μ j2 i2 ≤ hi2 := by
  obtain ⟨n, hn⟩ := xl_tmI hm
  have h3 := hru n _ hn
  refine xl_inR (q := ((κ2, i2, lo2, hi2) : tb_p)) hq hKL h2.1 hD hR (h3 (fun p9 hp9 => ?_))
  have e : p9 = ((κ, i, lo, hi) : tb_p) := List.mem_singleton.mp hp9
  rw [e]
  exact xl_inL (q := ((κ, i, lo, hi) : tb_p)) (a := xw_ad al j) hp (xw_al hKL h1.2) hD hR h
theorem xl_w1 {dA : Nat → ClassId} {A : Nat → Prop} {al : List (Nat × Nat)} {w : va_W} {μ : xw_M} {κ i κ2 i2 j j2 : Nat} {lo hi lo2 hi2 : Int} (hKL : al.map Prod.snd = tc_KL) (hD : va_D A w) (hR : xw_R dA al tb_KT0 w μ) (hp : xl_rp tb_KT0 [] ((κ, i, lo, hi) : tb_p) = true) (hq : xl_rp tb_KT0 [] ((κ2, i2, lo2, hi2) : tb_p) = true) (h1 : (∀ q : Nat, tc_KL[q]? = some κ → q = j) ∧ tc_KL[j]? = some κ) (h2 : (∀ q : Nat, tc_KL[q]? = some κ2 → q = j2) ∧ tc_KL[j2]? = some κ2) (h : lo ≤ μ j i ∧ μ j i ≤ hi → lo2 ≤ μ j2 i2 ∧ μ j2 i2 ≤ hi2) : tb_rh al w (([(κ, i, lo, hi)], (κ2, i2, lo2, hi2)) : tb_ru) := by
  intro hq9
  have b : lo ≤ μ j i ∧ μ j i ≤ hi := xl_inR (q := ((κ, i, lo, hi) : tb_p)) hp hKL h1.1 hD hR (hq9 _ List.mem_cons_self)
  exact xl_inL (q := ((κ2, i2, lo2, hi2) : tb_p)) (a := xw_ad al j2) hq (xw_al hKL h2.2) hD hR (h b)
noncomputable def xl_Rs (μ : xw_M) : Prop := hd_R μ ∧ hd_R0 μ ∧ hr_R μ ∧ hr_Rn μ
noncomputable def xl_Ms (μ μ' : xw_M) : Prop := xw_F [(0, 13, 13), (1, 1, 1), (129, 0, 9), (132, 4, 5), (133, 0, 39), (134, 0, 39), (135, 0, 39), (25, 4, 5), (26, 0, 39), (27, 0, 39), (28, 0, 39), (200, 0, 0), (200, 2, 13), (200, 41, 44), (218, 0, 239), (202, 137, 378)] μ μ' ∧ xl_Rs μ'
theorem xl_j3W : (∀ i : Nat, tc_KL[i]? = some 4 → i = 133) ∧ tc_KL[133]? = some 4 := xl_jx (by decide +kernel) (by decide +kernel)
theorem xl_j3N : (∀ i : Nat, tc_KL[i]? = some 5 → i = 135) ∧ tc_KL[135]? = some 5 := xl_jx (by decide +kernel) (by decide +kernel)
theorem xl_j0W : (∀ i : Nat, tc_KL[i]? = some 50 → i = 26) ∧ tc_KL[26]? = some 50 := xl_jx (by decide +kernel) (by decide +kernel)
theorem xl_j0N : (∀ i : Nat, tc_KL[i]? = some 52 → i = 28) ∧ tc_KL[28]? = some 52 := xl_jx (by decide +kernel) (by decide +kernel)
theorem xl_jND : (∀ i : Nat, tc_KL[i]? = some 6 → i = 218) ∧ tc_KL[218]? = some 6 := xl_jx (by decide +kernel) (by decide +kernel)
theorem xl_jNW : (∀ i : Nat, tc_KL[i]? = some 1 → i = 202) ∧ tc_KL[202]? = some 1 := xl_jx (by decide +kernel) (by decide +kernel)
noncomputable def xl_A3 (i : Nat) : tb_ru := ([(4, i, 16, 16)], (5, i, 0, 7))
noncomputable def xl_B3 (i : Nat) : tb_ru := ([(4, i, 1, 1)], (5, i, 0, 5))
set_option maxRecDepth 200000 in
theorem xl_sm3 (i : Nat) (hi : i < 40) : xl_tm tb_RU0 (([(4, i, 16, 16)], (5, i, 0, 7)) : tb_ru) = true ∧ xl_tm tb_RU0 (([(4, i, 1, 1)], (5, i, 0, 5)) : tb_ru) = true := by
  have h : ∀ i : Fin 40, xl_tm tb_RU0 (([(4, (i : Nat), 16, 16)], (5, (i : Nat), 0, 7)) : tb_ru) = true ∧ xl_tm tb_RU0 (([(4, (i : Nat), 1, 1)], (5, (i : Nat), 0, 5)) : tb_ru) = true := by decide +kernel
  exact h ⟨i, hi⟩
theorem xl_sk3 (i : Nat) (hi : i < 40) : (xl_rp tb_KT0 [] ((4, i, 16, 16) : tb_p) = true ∧ xl_rp tb_KT0 [] ((5, i, 0, 7) : tb_p) = true) ∧ xl_rp tb_KT0 [] ((4, i, 1, 1) : tb_p) = true ∧ xl_rp tb_KT0 [] ((5, i, 0, 5) : tb_p) = true := by
  have h : ∀ i : Fin 40, (xl_rp tb_KT0 [] ((4, (i : Nat), 16, 16) : tb_p) = true ∧ xl_rp tb_KT0 [] ((5, (i : Nat), 0, 7) : tb_p) = true) ∧ xl_rp tb_KT0 [] ((4, (i : Nat), 1, 1) : tb_p) = true ∧ xl_rp tb_KT0 [] ((5, (i : Nat), 0, 5) : tb_p) = true := by decide +kernel
  exact h ⟨i, hi⟩
noncomputable def xl_A0 (i : Nat) : tb_ru := ([(50, i, 16, 16)], (52, i, 0, 7))
noncomputable def xl_B0 (i : Nat) : tb_ru := ([(50, i, 1, 1)], (52, i, 0, 5))
set_option maxRecDepth 200000 in
theorem xl_sm0 (i : Nat) (hi : i < 40) : xl_tm tb_RU0 (([(50, i, 16, 16)], (52, i, 0, 7)) : tb_ru) = true ∧ xl_tm tb_RU0 (([(50, i, 1, 1)], (52, i, 0, 5)) : tb_ru) = true := by
  have h : ∀ i : Fin 40, xl_tm tb_RU0 (([(50, (i : Nat), 16, 16)], (52, (i : Nat), 0, 7)) : tb_ru) = true ∧ xl_tm tb_RU0 (([(50, (i : Nat), 1, 1)], (52, (i : Nat), 0, 5)) : tb_ru) = true := by decide +kernel
  exact h ⟨i, hi⟩
theorem xl_sk0 (i : Nat) (hi : i < 40) : (xl_rp tb_KT0 [] ((50, i, 16, 16) : tb_p) = true ∧ xl_rp tb_KT0 [] ((52, i, 0, 7) : tb_p) = true) ∧ xl_rp tb_KT0 [] ((50, i, 1, 1) : tb_p) = true ∧ xl_rp tb_KT0 [] ((52, i, 0, 5) : tb_p) = true := by
  have h : ∀ i : Fin 40, (xl_rp tb_KT0 [] ((50, (i : Nat), 16, 16) : tb_p) = true ∧ xl_rp tb_KT0 [] ((52, (i : Nat), 0, 7) : tb_p) = true) ∧ xl_rp tb_KT0 [] ((50, (i : Nat), 1, 1) : tb_p) = true ∧ xl_rp tb_KT0 [] ((52, (i : Nat), 0, 5) : tb_p) = true := by decide +kernel
  exact h ⟨i, hi⟩
noncomputable def xl_AN (i : Nat) : tb_ru := ([(6, 4 * i, 1, 3)], (6, 4 * i + 1, 0, (i : Int) - 1))
noncomputable def xl_BN (i : Nat) : tb_ru := ([(6, 4 * i, 2, 3)], (6, 4 * i + 2, 0, (i : Int) - 1))
set_option maxRecDepth 200000 in
theorem xl_smN (i : Nat) (hi : i < 60) : xl_tm tb_RU0 (([(6, 4 * i, 1, 3)], (6, 4 * i + 1, 0, (i : Int) - 1)) : tb_ru) = true ∧ xl_tm tb_RU0 (([(6, 4 * i, 2, 3)], (6, 4 * i + 2, 0, (i : Int) - 1)) : tb_ru) = true := by
  have h : ∀ i : Fin 60, xl_tm tb_RU0 (([(6, 4 * (i : Nat), 1, 3)], (6, 4 * (i : Nat) + 1, 0, ((i : Nat) : Int) - 1)) : tb_ru) = true ∧ xl_tm tb_RU0 (([(6, 4 * (i : Nat), 2, 3)], (6, 4 * (i : Nat) + 2, 0, ((i : Nat) : Int) - 1)) : tb_ru) = true := by decide +kernel
  exact h ⟨i, hi⟩
set_option maxRecDepth 200000 in
theorem xl_skN (i : Nat) (hi : i < 60) : (xl_rp tb_KT0 [] ((6, 4 * i, 1, 3) : tb_p) = true ∧ xl_rp tb_KT0 [] ((6, 4 * i + 1, 0, (i : Int) - 1) : tb_p) = true) ∧ xl_rp tb_KT0 [] ((6, 4 * i, 2, 3) : tb_p) = true ∧ xl_rp tb_KT0 [] ((6, 4 * i + 2, 0, (i : Int) - 1) : tb_p) = true := by
  have h : ∀ i : Fin 60, (xl_rp tb_KT0 [] ((6, 4 * (i : Nat), 1, 3) : tb_p) = true ∧ xl_rp tb_KT0 [] ((6, 4 * (i : Nat) + 1, 0, ((i : Nat) : Int) - 1) : tb_p) = true) ∧ xl_rp tb_KT0 [] ((6, 4 * (i : Nat), 2, 3) : tb_p) = true ∧ xl_rp tb_KT0 [] ((6, 4 * (i : Nat) + 2, 0, ((i : Nat) : Int) - 1) : tb_p) = true := by decide +kernel
  exact h ⟨i, hi⟩
noncomputable def xl_AW (i : Nat) : tb_ru := ([(1, 139 + 4 * i, 1, 3)], (1, 139 + (4 * i + 1), 0, (i : Int) - 1))
noncomputable def xl_BW (i : Nat) : tb_ru := ([(1, 139 + 4 * i, 2, 3)], (1, 139 + (4 * i + 2), 0, (i : Int) - 1))
set_option maxRecDepth 200000 in
theorem xl_smW (i : Nat) (hi : i < 60) : xl_tm tb_RU0 (([(1, 139 + 4 * i, 1, 3)], (1, 139 + (4 * i + 1), 0, (i : Int) - 1)) : tb_ru) = true ∧ xl_tm tb_RU0 (([(1, 139 + 4 * i, 2, 3)], (1, 139 + (4 * i + 2), 0, (i : Int) - 1)) : tb_ru) = true := by
  have h : ∀ i : Fin 60, xl_tm tb_RU0 (([(1, 139 + 4 * (i : Nat), 1, 3)], (1, 139 + (4 * (i : Nat) + 1), 0, ((i : Nat) : Int) - 1)) : tb_ru) = true ∧ xl_tm tb_RU0 (([(1, 139 + 4 * (i : Nat), 2, 3)], (1, 139 + (4 * (i : Nat) + 2), 0, ((i : Nat) : Int) - 1)) : tb_ru) = true := by decide +kernel
  exact h ⟨i, hi⟩
set_option maxRecDepth 200000 in
theorem xl_skW (i : Nat) (hi : i < 60) : (xl_rp tb_KT0 [] ((1, 139 + 4 * i, 1, 3) : tb_p) = true ∧ xl_rp tb_KT0 [] ((1, 139 + (4 * i + 1), 0, (i : Int) - 1) : tb_p) = true) ∧ xl_rp tb_KT0 [] ((1, 139 + 4 * i, 2, 3) : tb_p) = true ∧ xl_rp tb_KT0 [] ((1, 139 + (4 * i + 2), 0, (i : Int) - 1) : tb_p) = true := by
  have h : ∀ i : Fin 60, (xl_rp tb_KT0 [] ((1, 139 + 4 * (i : Nat), 1, 3) : tb_p) = true ∧ xl_rp tb_KT0 [] ((1, 139 + (4 * (i : Nat) + 1), 0, ((i : Nat) : Int) - 1) : tb_p) = true) ∧ xl_rp tb_KT0 [] ((1, 139 + 4 * (i : Nat), 2, 3) : tb_p) = true ∧ xl_rp tb_KT0 [] ((1, 139 + (4 * (i : Nat) + 2), 0, ((i : Nat) : Int) - 1) : tb_p) = true := by decide +kernel
  exact h ⟨i, hi⟩
theorem xl_rsd {dA : Nat → ClassId} {A : Nat → Prop} {al : List (Nat × Nat)} {w : va_W} {μ : xw_M} (hKL : al.map Prod.snd = tc_KL) (hD : va_D A w) (hR : xw_R dA al tb_KT0 w μ) (hru : ∀ (i : Nat) (r : tb_ru), tb_RU0[i]? = some r → tb_rh al w r) : xl_Rs μ := by
  refine ⟨fun i hi => ?_, fun i hi => ?_, fun i hi => ?_, fun i hi => ?_⟩
  · obtain ⟨a1, a2⟩ := xl_sm3 i hi
    obtain ⟨b1, b2⟩ := xl_sk3 i hi
    exact ⟨fun q => xl_r1 hKL hD hR hru a1 b1.1 b1.2 xl_j3W xl_j3N ⟨by omega, by omega⟩, fun q => xl_r1 hKL hD hR hru a2 b2.1 b2.2 xl_j3W xl_j3N ⟨by omega, by omega⟩⟩
  · obtain ⟨a1, a2⟩ := xl_sm0 i hi
    obtain ⟨b1, b2⟩ := xl_sk0 i hi
    exact ⟨fun q => xl_r1 hKL hD hR hru a1 b1.1 b1.2 xl_j0W xl_j0N ⟨by omega, by omega⟩, fun q => xl_r1 hKL hD hR hru a2 b2.1 b2.2 xl_j0W xl_j0N ⟨by omega, by omega⟩⟩
  · obtain ⟨a1, a2⟩ := xl_smN i hi
    obtain ⟨b1, b2⟩ := xl_skN i hi
    refine ⟨fun q1 q2 => ?_, fun q1 q2 => ?_⟩
    · have c1 : (0 : Int) ≤ μ 218 (4 * i + 1) ∧ μ 218 (4 * i + 1) ≤ (i : Int) - 1 := xl_r1 hKL hD hR hru a1 b1.1 b1.2 xl_jND xl_jND ⟨q1, q2⟩
      omega
    · have c1 : (0 : Int) ≤ μ 218 (4 * i + 2) ∧ μ 218 (4 * i + 2) ≤ (i : Int) - 1 := xl_r1 hKL hD hR hru a2 b2.1 b2.2 xl_jND xl_jND ⟨q1, q2⟩
      omega
  · obtain ⟨a1, a2⟩ := xl_smW i hi
    obtain ⟨b1, b2⟩ := xl_skW i hi
    refine ⟨fun q1 q2 => ?_, fun q1 q2 => ?_⟩
    · have c1 : (0 : Int) ≤ μ 202 (139 + (4 * i + 1)) ∧ μ 202 (139 + (4 * i + 1)) ≤ (i : Int) - 1 := xl_r1 hKL hD hR hru a1 b1.1 b1.2 xl_jNW xl_jNW ⟨q1, q2⟩
      omega
    · have c1 : (0 : Int) ≤ μ 202 (139 + (4 * i + 2)) ∧ μ 202 (139 + (4 * i + 2)) ≤ (i : Int) - 1 := xl_r1 hKL hD hR hru a2 b2.1 b2.2 xl_jNW xl_jNW ⟨q1, q2⟩
      omega
/-- the rules that a SENTENCE writes anew -/
noncomputable def xl_sr (r : tb_ru) : Bool := Nat.beq r.2.1 5 || (Nat.beq r.2.1 52 || (Nat.beq r.2.1 6 || (Nat.beq r.2.1 1 && Nat.ble 139 r.2.2.1)))
noncomputable def xl_sf (r : tb_ru) : Bool := (Nat.blt r.2.2.1 40 && (decide (r = xl_A3 r.2.2.1) || (decide (r = xl_B3 r.2.2.1) || (decide (r = xl_A0 r.2.2.1) || decide (r = xl_B0 r.2.2.1))))) || ((Nat.blt (r.2.2.1 / 4) 60 && (decide (r = xl_AN (r.2.2.1 / 4)) || decide (r = xl_BN (r.2.2.1 / 4)))) || (Nat.blt ((r.2.2.1 - 139) / 4) 60 && (decide (r = xl_AW ((r.2.2.1 - 139) / 4)) || decide (r = xl_BW ((r.2.2.1 - 139) / 4)))))
set_option maxRecDepth 200000 in
theorem xl_ms0 : tb_RU0.all (fun r => xl_sr r || xl_tr tb_KT0 (xl_ck [(0, 13, 13), (1, 1, 1), (129, 0, 9), (132, 4, 5), (133, 0, 39), (134, 0, 39), (135, 0, 39), (25, 4, 5), (26, 0, 39), (27, 0, 39), (28, 0, 39), (200, 0, 0), (200, 2, 13), (200, 41, 44), (218, 0, 239), (202, 137, 378)]) [] tb_RU0 r) = true := by decide +kernel
set_option maxRecDepth 200000 in
theorem xl_ms1 : tb_RU0.all (fun r => !(xl_sr r) || xl_sf r) = true := by decide +kernel
theorem xl_sfo {r : tb_ru} (h : xl_sf r = true) : (∃ i : Nat, i < 40 ∧ (r = xl_A3 i ∨ r = xl_B3 i ∨ r = xl_A0 i ∨ r = xl_B0 i)) ∨ (∃ i : Nat, i < 60 ∧ (r = xl_AN i ∨ r = xl_BN i ∨ r = xl_AW i ∨ r = xl_BW i)) := by
  unfold xl_sf at h
  simp only [Bool.and_eq_true, Bool.or_eq_true, decide_eq_true_eq] at h
  rcases h with ⟨h1, h2⟩ | ⟨h1, h2⟩ | ⟨h1, h2⟩
  · exact Or.inl ⟨_, Nat.le_of_ble_eq_true h1, h2⟩
  · refine Or.inr ⟨_, Nat.le_of_ble_eq_true h1, ?_⟩
    rcases h2 with h2 | h2
    · exact Or.inl h2
    · exact Or.inr (Or.inl h2)
  · refine Or.inr ⟨_, Nat.le_of_ble_eq_true h1, ?_⟩
    rcases h2 with h2 | h2
    · exact Or.inr (Or.inr (Or.inl h2))
    · exact Or.inr (Or.inr (Or.inr h2))
theorem xl_rsw {dA : Nat → ClassId} {A : Nat → Prop} {al : List (Nat × Nat)} {w : va_W} {μ : xw_M} (hKL : al.map Prod.snd = tc_KL) (hD : va_D A w) (hR : xw_R dA al tb_KT0 w μ) (hL : xl_Rs μ) {r : tb_ru} (h : xl_sf r = true) : tb_rh al w r := by
  obtain ⟨h3, h0, hn, hw⟩ := hL
  rcases xl_sfo h with ⟨i, hi, h | h | h | h⟩ | ⟨i, hi, h | h | h | h⟩
  · rw [h]
    exact xl_w1 hKL hD hR (xl_sk3 i hi).1.1 (xl_sk3 i hi).1.2 xl_j3W xl_j3N (fun q => (h3 i hi).1 (by omega))
  · rw [h]
    exact xl_w1 hKL hD hR (xl_sk3 i hi).2.1 (xl_sk3 i hi).2.2 xl_j3W xl_j3N (fun q => (h3 i hi).2 (by omega))
  · rw [h]
    exact xl_w1 hKL hD hR (xl_sk0 i hi).1.1 (xl_sk0 i hi).1.2 xl_j0W xl_j0N (fun q => (h0 i hi).1 (by omega))
  · rw [h]
    exact xl_w1 hKL hD hR (xl_sk0 i hi).2.1 (xl_sk0 i hi).2.2 xl_j0W xl_j0N (fun q => (h0 i hi).2 (by omega))
  · rw [h]
    exact xl_w1 hKL hD hR (xl_skN i hi).1.1 (xl_skN i hi).1.2 xl_jND xl_jND (fun q => by
      have c1 := (hn i hi).1 q.1 q.2
      omega)
  · rw [h]
    exact xl_w1 hKL hD hR (xl_skN i hi).2.1 (xl_skN i hi).2.2 xl_jND xl_jND (fun q => by
      have c1 := (hn i hi).2 q.1 q.2
      omega)
  · rw [h]
    exact xl_w1 hKL hD hR (xl_skW i hi).1.1 (xl_skW i hi).1.2 xl_jNW xl_jNW (fun q => by
      have c1 := (hw i hi).1 q.1 q.2
      omega)
  · rw [h]
    exact xl_w1 hKL hD hR (xl_skW i hi).2.1 (xl_skW i hi).2.2 xl_jNW xl_jNW (fun q => by
      have c1 := (hw i hi).2 q.1 q.2
      omega)
theorem xl_finS {p : Program} {l : Launch} {e : Env} {s : State} {m : MethodId} {args : Array Value} {below : List Frame} {meth : Method} {c : Code} {Q : State → Prop} {D : va_G} {dA : Nat → ClassId} {A : Nat → Prop} {al : List (Nat × Nat)} {w : va_W} {μ μ' : xw_M} {kc ks kc' ks' : Nat} {Lo : List (Nat × Value)} (hKL : al.map Prod.snd = tc_KL) (hD : va_D A w) (hR : xw_R dA al tb_KT0 w μ) (hru : ∀ (i : Nat) (r : tb_ru), tb_RU0[i]? = some r → tb_rh al w r) (nxt : ∀ (H : Heap) (locs : List Loc) (ls : Array Slot), lv_has ls 7 Lo → xl_I D dA A al H → va_S A s.heap H locs → W p l e room_1 s m args below meth c H locs kc ks Q (F0 m 23 ls [])) (hM : xl_Ms μ μ') (hΦ : xl_Φ μ') (h1 : kc' ≤ kc) (h2 : ks' ≤ ks) : xw_W p l e room_1 s m args below meth c Q D dA A 7 vwCl tb_KT0 al kc' ks' μ' 23 Lo [] := by
  intro H locs ls w' g1 g2 g3 g4 g5
  refine W.widen h1 h2 (nxt H locs ls g1 ⟨w', μ', g2, g3, g4, ?_, hΦ⟩ g5)
  obtain ⟨hF, hL⟩ := hM
  intro i r hr
  have h0 := List.all_eq_true.mp xl_ms0 r (List.mem_of_getElem? hr)
  have k0 := List.all_eq_true.mp xl_ms1 r (List.mem_of_getElem? hr)
  cases hl : xl_sr r with
  | false =>
    rw [hl, Bool.false_or] at h0
    exact xl_ruleM (jo := fun _ => 0) h0 hKL (fun x hx => absurd hx List.not_mem_nil) (fun x hx => absurd hx List.not_mem_nil) hD g3 hR g4 (fun j a κ i q1 q2 => hF j i (xl_cko (by rw [← hKL, List.getElem?_map, q1]; rfl) q2)) hru i hr
  | true =>
    rw [hl, Bool.not_true, Bool.false_or] at k0
    exact xl_rsw hKL g3 g4 hL k0
theorem xl_seX {μ m1 m2 : xw_M} {t rd nm : Nat → Int} {n : Nat} {r1 r2 : Int} (hΦ : xl_Φ0 μ) (hP : hx_P μ) (w1 : ((∃ o : Nat, hq_se t n nm (rd 0).toNat (rd 1).toNat = .inr o ∧ r1 = (o : Int)) ∨ (∃ e9 : hp_E, hq_se t n nm (rd 0).toNat (rd 1).toNat = .inl e9 ∧ r1 = -1 - e9.2)) ∧ m1 1 1 = 0 ∧ hd_R m1 ∧ hd_R0 m1 ∧ xw_F [(0, 13, 13), (1, 1, 1), (129, 0, 9), (132, 4, 5), (133, 0, 39), (134, 0, 39), (135, 0, 39), (25, 4, 5), (26, 0, 39), (27, 0, 39), (28, 0, 39)] μ m1) (w2 : ((∃ o : Nat, hq_se t n nm (rd 0).toNat (rd 1).toNat = .inr o ∧ r2 = (o : Int)) ∨ (∃ e9 : hp_E, hq_se t n nm (rd 0).toNat (rd 1).toNat = .inl e9 ∧ r2 = -1 - e9.2)) ∧ m2 200 2 = 0 ∧ hr_R m2 ∧ hr_Rn m2 ∧ xw_F [(200, 0, 0), (200, 2, 13), (200, 41, 44), (218, 0, 239), (202, 137, 378)] m1 m2) : xl_Ms μ m2 ∧ xl_Φ0 m2 ∧ hx_P m2 ∧ r1 = r2 := by
  obtain ⟨a1, a2, a3, a4, a5⟩ := w1
  obtain ⟨b1, b2, b3, b4, b5⟩ := w2
  have hF : xw_F [(0, 13, 13), (1, 1, 1), (129, 0, 9), (132, 4, 5), (133, 0, 39), (134, 0, 39), (135, 0, 39), (25, 4, 5), (26, 0, 39), (27, 0, 39), (28, 0, 39), (200, 0, 0), (200, 2, 13), (200, 41, 44), (218, 0, 239), (202, 137, 378)] μ m2 := (a5.mono (fun j i h => xw_o_sub (by decide) j i h)).tr b5 (fun j i h => xw_o_sub (by decide) j i h)
  have hR0 : hd_R0 m2 := fun i hi => by
    rw [b5 26 i (xw_oj (by decide) i), b5 28 i (xw_oj (by decide) i)]
    exact a4 i hi
  refine ⟨⟨hF, hd_RF a3 b5 (by decide), hR0, b3, b4⟩, xl_Pw hΦ hF ((b5 1 1 (by decide)).trans a2) b2 (by decide +kernel), hx_Pf hP hF (by decide +kernel), ?_⟩
  rcases a1 with ⟨o, c1, c2⟩ | ⟨e, c1, c2⟩
  · rcases b1 with ⟨o', d1, d2⟩ | ⟨e', d1, d2⟩
    · have h := c1.symm.trans d1
      cases h
      exact c2.trans d2.symm
    · have h := c1.symm.trans d1
      cases h
  · rcases b1 with ⟨o', d1, d2⟩ | ⟨e', d1, d2⟩
    · have h := c1.symm.trans d1
      cases h
    · have h := c1.symm.trans d1
      cases h
      exact c2.trans d2.symm

end XWV
