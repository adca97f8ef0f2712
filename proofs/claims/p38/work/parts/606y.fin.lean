section XWN
theorem xl_snd (V : sa_V) : ∀ (cs : List sa_c) (KL : List Nat), cs.length = KL.length → (tc_al V cs KL).map Prod.snd = KL
  | [], [], _ => rfl
  | [], κ :: r, h => by cases h
  | c :: l, [], h => by cases h
  | c :: l, κ :: r, h => by
    show κ :: (tc_al V l r).map Prod.snd = κ :: r
    rw [xl_snd V l r (Nat.succ.inj h)]
/-! the law's cases by hand: what may change, how they end -/
noncomputable def xl_CH : List (Nat × Nat × Nat) := [(1, 1, 1), (2, 0, 939), (200, 2, 2), (200, 0, 0), (201, 0, 939), (0, 14, 14), (200, 32, 32), (219, 0, 0)]
noncomputable def xl_ck (CH : List (Nat × Nat × Nat)) : List (Nat × Nat × Nat) := CH.map (fun q => ((tc_KL[q.1]?).getD 0, q.2))
theorem xl_cko {CH : List (Nat × Nat × Nat)} {j κ i : Nat} (hj : tc_KL[j]? = some κ) (h : tb_md (xl_ck CH) κ i = false) : xw_o CH j i = true := by
  unfold xw_o
  rw [List.all_eq_true]
  intro q hq
  cases hb : (Nat.beq q.1 j && (Nat.ble q.2.1 i && Nat.ble i q.2.2)) with
  | false => rfl
  | true =>
    exfalso
    rw [Bool.and_eq_true, Bool.and_eq_true] at hb
    have e1 := Nat.eq_of_beq_eq_true hb.1
    have e2 := Nat.le_of_ble_eq_true hb.2.1
    have e3 := Nat.le_of_ble_eq_true hb.2.2
    have h1 : tb_md (xl_ck CH) κ i = true := by
      unfold tb_md
      rw [List.any_eq_true]
      refine ⟨(κ, q.2), ?_, decide_eq_true ⟨rfl, e2, e3⟩⟩
      unfold xl_ck
      refine List.mem_map.mpr ⟨q, hq, ?_⟩
      rw [e1, hj]
      rfl
    rw [h1] at h
    cases h
set_option maxRecDepth 200000 in
theorem xl_rch : tb_RU0.all (fun r => xl_rp tb_KT0 (xl_ck xl_CH) r.2 && r.1.all (xl_rp tb_KT0 (xl_ck xl_CH))) = true := by decide +kernel
theorem xl_t2 {i : Nat} (h : i < 940) : tb_ty (.inr (0, 940, [(940, (0, 0, 255))])) i = some (0, 0, 255) := by
  show (if i < 940 then tb_rl [(940, (0, 0, 255))] i else none) = _
  rw [if_pos h]
  exact xw_rl h
theorem xl_k201 : tc_KL[201]? = some 2 := by decide +kernel
theorem xl_fin {p : Program} {l : Launch} {e : Env} {s : State} {m : MethodId} {args : Array Value} {below : List Frame} {meth : Method} {c : Code} {Q : State → Prop} {D : va_G} {dA : Nat → ClassId} {A : Nat → Prop} {al : List (Nat × Nat)} {w : va_W} {μ μ' : xw_M} {kc ks kc' ks' : Nat} {Lo : List (Nat × Value)} (hKL : al.map Prod.snd = tc_KL) (hD : va_D A w) (hR : xw_R dA al tb_KT0 w μ) (hru : ∀ (i : Nat) (r : tb_ru), tb_RU0[i]? = some r → tb_rh al w r) (nxt : ∀ (H : Heap) (locs : List Loc) (ls : Array Slot), lv_has ls 7 Lo → xl_I D dA A al H → va_S A s.heap H locs → W p l e room_1 s m args below meth c H locs kc ks Q (F0 m 23 ls [])) (hF : xw_F xl_CH μ μ') (hΦ : (∀ i : Nat, i < 940 → 0 ≤ μ' 201 i ∧ μ' 201 i ≤ 255) → xl_Φ μ') (h1 : kc' ≤ kc) (h2 : ks' ≤ ks) : xw_W p l e room_1 s m args below meth c Q D dA A 7 vwCl tb_KT0 al kc' ks' μ' 23 Lo [] := by
  intro H locs ls w' g1 g2 g3 g4 g5
  refine W.widen h1 h2 (nxt H locs ls g1 ⟨w', μ', g2, g3, g4, ?_, hΦ (fun i hi => ?_)⟩ g5)
  · exact xl_rules xl_rch hD g3 hR g4 (fun j a κ i q1 q2 => hF j i (xl_cko (by rw [← hKL, List.getElem?_map, q1]; rfl) q2)) hru
  · exact (xl_at g4 (xw_al hKL xl_k201) xk_2 (xl_t2 hi)).2
theorem xl_kc {kc ks : Nat} (h : kc ≤ 3000 ∧ ks ≤ 50000) : kc + 0 ≤ room_1.cells ∧ ks + 0 ≤ room_1.slots := ⟨Nat.le_trans h.1 (by decide), Nat.le_trans h.2 (by decide)⟩
theorem xl_kc1 {kc ks : Nat} (h : kc ≤ 3000 ∧ ks ≤ 50000) : kc + 1 ≤ room_1.cells ∧ ks + 6 ≤ room_1.slots := ⟨Nat.le_trans (Nat.succ_le_succ h.1) (by decide), Nat.le_trans (Nat.add_le_add_right h.2 6) (by decide)⟩
/-- a chunk fed to both -/
theorem xl_feedΦ {μ m1 m2 : xw_M} {bs : List Int} {r1 r2 : Int} (hΦ : xl_Φ0 μ) (hs : 0 ≤ μ 1 1 ∧ μ 1 1 ≤ 940) (w1 : (940 < μ 1 1 + 20 ∧ m1 = μ ∧ r1 = -1) ∨ (μ 1 1 + 20 ≤ 940 ∧ xb_W 2 1 1 (μ 1 1) 20 bs μ m1 ∧ r1 = μ 1 1 + 20)) (w2 : (940 < m1 200 2 + 20 ∧ m2 = (xw_u m1 200 0 0) ∧ r2 = -1) ∨ (m1 200 2 + 20 ≤ 940 ∧ xb_W 201 200 2 (m1 200 2) 20 bs (xw_u m1 200 0 0) m2 ∧ r2 = m1 200 2 + 20)) : xw_F xl_CH μ m2 ∧ r1 = r2 ∧ ((∀ i : Nat, i < 940 → 0 ≤ m2 201 i ∧ m2 201 i ≤ 255) → xl_Φ0 m2) := by
  obtain ⟨hG, hT, e1, e2⟩ := hΦ
  rcases w1 with ⟨a1, a2, a3⟩ | ⟨a1, a2, a3⟩
  · rw [a2] at w2
    clear a2
    rcases w2 with ⟨b1, b2, b3⟩ | ⟨b1, b2, b3⟩
    · rw [b2]
      clear b2
      have hF : xw_F xl_CH μ (xw_u μ 200 0 0) := xw_F.rf.u (show (200, 0, 0) ∈ xl_CH by unfold xl_CH; decide) ⟨Nat.le_refl _, Nat.le_refl _⟩
      refine ⟨hF, by omega, fun _ => ⟨xw_GF hG hF (by decide +kernel), fun i => ?_, ?_, ?_⟩⟩
      · rw [xw_un (fun q => absurd q.1 (by decide)), xw_un (fun q => absurd q.1 (by decide))]
        exact hT i
      · rw [xw_un (by decide), xw_un (by decide)]
        exact e1
      · rw [xw_un (by decide), xw_un (by decide)]
        exact e2
    · exfalso
      omega
  · have F1 := a2.F hs.1 (by omega)
    have g1 : m1 200 2 = μ 200 2 := F1 200 2 rfl
    rcases w2 with ⟨b1, b2, b3⟩ | ⟨b1, b2, b3⟩
    · exfalso
      omega
    · have F2 : xw_F [(200, 0, 0)] m1 (xw_u m1 200 0 0) := xw_F.rf.u List.mem_cons_self ⟨Nat.le_refl _, Nat.le_refl _⟩
      have F3 := b2.F (by omega) (by omega)
      have hF : xw_F xl_CH μ m2 := ((F1.mono (fun j i h => xw_o_sub (by decide) j i h)).tr F2 (fun j i h => xw_o_sub (by decide) j i h)).tr F3 (fun j i h => xw_o_sub (by decide) j i h)
      refine ⟨hF, by omega, fun hb => ⟨xw_GF hG hF (by decide +kernel), fun i => ?_, ?_, ?_⟩⟩
      · have d2 : m2 2 i = m1 2 i := (b2.2.2.2 2 i (fun q => absurd q.1 (by decide)) (fun q => absurd q.1 (by decide))).trans (xw_un (fun q => absurd q.1 (by decide)))
        by_cases hin : (μ 1 1).toNat ≤ i ∧ i < (μ 1 1).toNat + 20
        · obtain ⟨k, rfl⟩ : ∃ k, i = (μ 1 1).toNat + k := ⟨i - (μ 1 1).toNat, by omega⟩
          obtain ⟨x, hx⟩ : ∃ x, bs[k]? = some x := ⟨bs[k]'(by have := a2.1; omega), List.getElem?_eq_getElem _⟩
          have c1 := a2.2.2.1 k x hx
          have c2 := b2.2.2.1 k x hx
          rw [g1, ← e1] at c2
          have c3 := hb ((μ 1 1).toNat + k) (by omega)
          rw [d2, c1, ← c2]
          omega
        · have d3 : m2 201 i = m1 201 i := (b2.2.2.2 201 i (fun q => absurd q.1 (by decide)) (fun q => hin (by rw [g1, ← e1] at q; exact q.2))).trans (xw_un (fun q => absurd q.1 (by decide)))
          have d4 : m1 201 i = μ 201 i := a2.2.2.2 201 i (fun q => absurd q.1 (by decide)) (fun q => absurd q.1 (by decide))
          have d5 : m1 2 i = μ 2 i := a2.2.2.2 2 i (fun q => absurd q.1 (by decide)) (fun q => hin q.2)
          rw [d2, d5, d3, d4]
          exact hT i
      · have d1 : m2 1 1 = m1 1 1 := (b2.2.2.2 1 1 (by decide) (fun q => absurd q.1 (by decide))).trans (xw_un (by decide))
        have d2 := a2.2.1
        have d3 := b2.2.1
        omega
      · have d6 : m2 0 14 = m1 0 14 := (b2.2.2.2 0 14 (by decide) (fun q => absurd q.1 (by decide))).trans (xw_un (by decide))
        have d7 : m1 0 14 = μ 0 14 := a2.2.2.2 0 14 (by decide) (fun q => absurd q.1 (by decide))
        have d8 : m2 200 32 = m1 200 32 := (b2.2.2.2 200 32 (by decide) (fun q => absurd q.1 (by decide))).trans (xw_un (by decide))
        have d9 : m1 200 32 = μ 200 32 := a2.2.2.2 200 32 (by decide) (fun q => absurd q.1 (by decide))
        omega
/-- helped() of both -/
theorem xl_helpΦ {μ m1 m2 : xw_M} {r1 r2 : Int} (hΦ : xl_Φ0 μ) (w1 : (hs_acc (fun i => μ 2 i % 256) (μ 1 1) ∧ r1 = 0 ∧ xw_u (xw_u (xw_u μ 0 14 (hs_R (fun i => μ 2 i % 256) (μ 1 1))) 1 1 0) 219 0 (hs_Fw (fun i => μ 2 i % 256) (μ 1 1)) = m1) ∨ (¬ hs_acc (fun i => μ 2 i % 256) (μ 1 1) ∧ r1 = 1 ∧ xw_u μ 1 1 0 = m1)) (w2 : (hs_acc (fun i => m1 201 i) (m1 200 2) ∧ xw_u (xw_u (xw_u m1 200 0 0) 200 2 0) 200 32 (hs_R (fun i => m1 201 i) (m1 200 2)) = m2 ∧ r2 = hs_Fw (fun i => m1 201 i) (m1 200 2)) ∨ (¬ hs_acc (fun i => m1 201 i) (m1 200 2) ∧ xw_u (xw_u (xw_u m1 200 0 0) 200 2 0) 200 0 1 = m2 ∧ r2 = 0)) : xw_F xl_CH μ m2 ∧ xl_Φ0 m2 ∧ ((r1 = 0 ∧ m2 200 0 = 0 ∧ m2 219 0 = r2) ∨ (r1 = 1 ∧ m2 200 0 = 1)) := by
  obtain ⟨hG, hT, e1, e2⟩ := hΦ
  have hTT : (fun i => μ 2 i % 256) = (fun i => μ 201 i) := funext hT
  have k1 : (0, 14, 14) ∈ xl_CH := by unfold xl_CH; decide
  have k2 : (1, 1, 1) ∈ xl_CH := by unfold xl_CH; decide
  have k3 : (219, 0, 0) ∈ xl_CH := by unfold xl_CH; decide
  have k4 : (200, 0, 0) ∈ xl_CH := by unfold xl_CH; decide
  have k5 : (200, 2, 2) ∈ xl_CH := by unfold xl_CH; decide
  have k6 : (200, 32, 32) ∈ xl_CH := by unfold xl_CH; decide
  have kk : ∀ x : Nat, x ≤ x ∧ x ≤ x := fun x => ⟨Nat.le_refl _, Nat.le_refl _⟩
  have hA : hs_acc (fun i => m1 201 i) (m1 200 2) ↔ hs_acc (fun i => μ 2 i % 256) (μ 1 1) := by
    have h2 : (fun i => m1 201 i) = (fun i => μ 201 i) ∧ m1 200 2 = μ 200 2 := by
      rcases w1 with ⟨-, -, w⟩ | ⟨-, -, w⟩
      · rw [← w]
        exact ⟨funext (fun i => ((xw_un (fun q => absurd q.1 (by decide))).trans (xw_un (fun q => absurd q.1 (by decide)))).trans (xw_un (fun q => absurd q.1 (by decide)))), ((xw_un (by decide)).trans (xw_un (by decide))).trans (xw_un (by decide))⟩
      · rw [← w]
        exact ⟨funext (fun i => xw_un (fun q => absurd q.1 (by decide))), xw_un (by decide)⟩
    rw [h2.1, h2.2, hTT, e1]
  rcases w1 with ⟨a1, a2, a3⟩ | ⟨a1, a2, a3⟩
  · rcases w2 with ⟨b1, b2, b3⟩ | ⟨b1, b2, b3⟩
    · have h3 : (fun i => m1 201 i) = (fun i => μ 201 i) := by
        rw [← a3]
        exact funext (fun i => ((xw_un (fun q => absurd q.1 (by decide))).trans (xw_un (fun q => absurd q.1 (by decide)))).trans (xw_un (fun q => absurd q.1 (by decide))))
      have h4 : m1 200 2 = μ 200 2 := by
        rw [← a3]
        exact ((xw_un (by decide)).trans (xw_un (by decide))).trans (xw_un (by decide))
      have F1 : xw_F xl_CH μ m1 := by rw [← a3]; exact ((xw_F.rf.u k1 (kk _)).u k2 (kk _)).u k3 (kk _)
      have F2 : xw_F xl_CH m1 m2 := by rw [← b2]; exact ((xw_F.rf.u k4 (kk _)).u k5 (kk _)).u k6 (kk _)
      have hF := F1.tr F2 (fun j i h => h)
      have c1 : m2 0 14 = m1 0 14 := by rw [← b2]; exact ((xw_un (by decide)).trans (xw_un (by decide))).trans (xw_un (by decide))
      have c2 : m1 0 14 = hs_R (fun i => μ 2 i % 256) (μ 1 1) := by rw [← a3]; exact ((xw_un (by decide)).trans (xw_un (by decide))).trans xw_ug
      have c3 : m2 200 32 = hs_R (fun i => m1 201 i) (m1 200 2) := by rw [← b2]; exact xw_ug
      have c4 : m2 1 1 = m1 1 1 := by rw [← b2]; exact ((xw_un (by decide)).trans (xw_un (by decide))).trans (xw_un (by decide))
      have c5 : m1 1 1 = 0 := by rw [← a3]; exact (xw_un (by decide)).trans xw_ug
      have c6 : m2 200 2 = 0 := by rw [← b2]; exact (xw_un (by decide)).trans xw_ug
      have c7 : m2 200 0 = 0 := by rw [← b2]; exact ((xw_un (by decide)).trans (xw_un (by decide))).trans xw_ug
      have c8 : m2 219 0 = m1 219 0 := by rw [← b2]; exact ((xw_un (by decide)).trans (xw_un (by decide))).trans (xw_un (by decide))
      have c9 : m1 219 0 = hs_Fw (fun i => μ 2 i % 256) (μ 1 1) := by rw [← a3]; exact xw_ug
      have t1 : ∀ i : Nat, m2 2 i = μ 2 i := fun i => by
        rw [← b2, ← a3]
        exact (((xw_un (fun q => absurd q.1 (by decide))).trans (xw_un (fun q => absurd q.1 (by decide)))).trans (xw_un (fun q => absurd q.1 (by decide)))).trans (((xw_un (fun q => absurd q.1 (by decide))).trans (xw_un (fun q => absurd q.1 (by decide)))).trans (xw_un (fun q => absurd q.1 (by decide))))
      have t2 : ∀ i : Nat, m2 201 i = μ 201 i := fun i => by
        rw [← b2]
        exact (((xw_un (fun q => absurd q.1 (by decide))).trans (xw_un (fun q => absurd q.1 (by decide)))).trans (xw_un (fun q => absurd q.1 (by decide)))).trans (congrFun h3 i)
      refine ⟨hF, ⟨xw_GF hG hF (by decide +kernel), fun i => by rw [t1, t2]; exact hT i, by rw [c4, c5, c6], ?_⟩, Or.inl ⟨a2, c7, ?_⟩⟩
      · rw [c1, c2, c3, h3, h4, hTT, e1]
      · rw [c8, c9, b3, h3, h4, hTT, e1]
    · exact absurd (hA.mpr a1) b1
  · rcases w2 with ⟨b1, b2, b3⟩ | ⟨b1, b2, b3⟩
    · exact absurd (hA.mp b1) a1
    · have F1 : xw_F xl_CH μ m1 := by rw [← a3]; exact xw_F.rf.u k2 (kk _)
      have F2 : xw_F xl_CH m1 m2 := by rw [← b2]; exact ((xw_F.rf.u k4 (kk _)).u k5 (kk _)).u k4 (kk _)
      have hF := F1.tr F2 (fun j i h => h)
      have t1 : ∀ i : Nat, m2 2 i = μ 2 i := fun i => by
        rw [← b2, ← a3]
        exact (((xw_un (fun q => absurd q.1 (by decide))).trans (xw_un (fun q => absurd q.1 (by decide)))).trans (xw_un (fun q => absurd q.1 (by decide)))).trans (xw_un (fun q => absurd q.1 (by decide)))
      have t2 : ∀ i : Nat, m2 201 i = μ 201 i := fun i => by
        rw [← b2, ← a3]
        exact (((xw_un (fun q => absurd q.1 (by decide))).trans (xw_un (fun q => absurd q.1 (by decide)))).trans (xw_un (fun q => absurd q.1 (by decide)))).trans (xw_un (fun q => absurd q.1 (by decide)))
      have c1 : m2 0 14 = μ 0 14 := by rw [← b2, ← a3]; exact (((xw_un (by decide)).trans (xw_un (by decide))).trans (xw_un (by decide))).trans (xw_un (by decide))
      have c3 : m2 200 32 = μ 200 32 := by rw [← b2, ← a3]; exact (((xw_un (by decide)).trans (xw_un (by decide))).trans (xw_un (by decide))).trans (xw_un (by decide))
      have c4 : m2 1 1 = 0 := by rw [← b2, ← a3]; exact (((xw_un (by decide)).trans (xw_un (by decide))).trans (xw_un (by decide))).trans xw_ug
      have c6 : m2 200 2 = 0 := by rw [← b2]; exact (xw_un (by decide)).trans xw_ug
      have c7 : m2 200 0 = 1 := by rw [← b2]; exact xw_ug
      exact ⟨hF, ⟨xw_GF hG hF (by decide +kernel), fun i => by rw [t1, t2]; exact hT i, by rw [c4, c6], by rw [c1, c3]; exact e2⟩, Or.inr ⟨a2, c7⟩⟩
end XWN
