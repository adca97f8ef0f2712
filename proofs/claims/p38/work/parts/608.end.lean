def lw_At (p : Program) (s : State) (m : MethodId) (meth : Method) (c : Code) (b L : Nat) (xs : Nat → Int32) : Prop :=
  p.tables.exec = Jvm.exec ∧ c.code = code ∧ meth.sig.returnType = ret ∧ c.maxLocals = 7 ∧ s.vm.findClass R_law = some m.cls ∧ (∀ w ∈ lw_tbl, w.before #[Value.ref b] s = true) ∧ va_X b L xs s s.heap ∧ b < s.heap.size ∧ meth.locks = false ∧ (Jvm.Cond.and given_1 narrow_1).before #[Value.ref b] s = true
def tc_V1 (b L : Nat) : sa_V := fun k => if k = 1 then (0, 0, fun _ => 0, b) else if k = 2 then ((L : Int), 0, fun _ => 0, 0) else (0, 0, fun _ => 0, 0)
set_option maxHeartbeats 4000000 in
set_option maxRecDepth 100000 in
theorem whole_start {p : Program} {e : Env} {s : State} {m : MethodId} {below : List Frame} {meth : Method} {c : Code} (l : Launch) (hl : l.stackTraces = false) {b L : Nat} {xs : Nat → Int32} (hL : L ≤ 3072) (C0 : lw_At p s m meth c b L xs) : W p l e room_1 s m #[Value.ref b] below meth c s.heap [] 0 0 (lw_Z below #[Value.ref b] s) (entryFrame m ([Value.ref b] : List Value).toArray 7) := by
  obtain ⟨hx, hb, hr, hml, hown, hts, hX, hbl, hlocks, hgv⟩ := id C0
  have hts' : ∀ w ∈ sa_Ts, w.before #[Value.ref b] s = true := fun w h => hts w (List.mem_filter.mp h).1
  have htb : ∀ (w : Cond) (i : Nat), tables_1[i]? = some w → w.before #[Value.ref b] s = true := fun w i h => hts w (List.mem_append_right _ (List.mem_of_getElem? h))
  obtain ⟨c0, iS0, hKn0⟩ := u_known (C := RX0) (T := TX0) (N := 2) (n := 2) hts' kcX0.2.1 (hts' _ tw_34)
  obtain ⟨c1, iS1, hKn1⟩ := u_known (C := RX1) (T := TX1) (N := 3) (n := 3) hts' kcX1.2.1 (hts' _ tw_251)
  obtain ⟨c2, iS2, hKn2⟩ := u_known (C := RX2) (T := TX2) (N := 16) (n := 16) hts' kcX2.2.1 (hts' _ tw_56)
  obtain ⟨c3, iS3, hKn3⟩ := u_known (C := RX3) (T := TX3) (N := 3) (n := 3) hts' kcX3.2.1 (hts' _ tw_272)
  obtain ⟨c4, iS4, hKn4⟩ := u_known (C := RX4) (T := TX4) (N := 6) (n := 6) hts' kcX4.2.1 (hts' _ tw_343)
  obtain ⟨c5, iS5, hKn5⟩ := u_known (C := RX5) (T := TX5) (N := 7) (n := 7) hts' kcX5.2.1 (hts' _ tw_391)
  obtain ⟨c6, iS6, hKn6⟩ := u_known (C := RX6) (T := TX6) (N := 10) (n := 10) hts' kcX6.2.1 (hts' _ tw_278)
  obtain ⟨c7, iS7, hKn7⟩ := u_known (C := RX7) (T := TX7) (N := 6) (n := 6) hts' kcX7.2.1 (hts' _ tw_207)
  obtain ⟨c8, iS8, hKn8⟩ := u_known (C := RX8) (T := TX8) (N := 2) (n := 2) hts' kcX8.2.1 (hts' _ tw_372)
  obtain ⟨c9, iS9, hKn9⟩ := u_known (C := RX9) (T := TX9) (N := 13) (n := 13) hts' kcX9.2.1 (hts' _ tw_144)
  obtain ⟨c10, iS10, hKn10⟩ := u_known (C := RX10) (T := TX10) (N := 4) (n := 4) hts' kcX10.2.1 (hts' _ tw_50)
  obtain ⟨c11, iS11, hKn11⟩ := u_known (C := RX11) (T := TX11) (N := 17) (n := 17) hts' kcX11.2.1 (hts' _ tw_26)
  obtain ⟨c12, iS12, hKn12⟩ := u_known (C := RX12) (T := TX12) (N := 45) (n := 45) hts' kcX12.2.1 (hts' _ tw_1256)
  obtain ⟨dC, dI, hKc⟩ : ∃ (dC : Nat → ClassId) (dI : Nat → Nat → Nat), ∀ (k : Nat) (q : vw_C), vwCl[k]? = some q → u_Kn s q.1 q.2.1 q.2.2 (dC k) (dI k) := by
    refine ⟨fun k => if k = 0 then c0 else if k = 1 then c1 else if k = 2 then c2 else if k = 3 then c3 else if k = 4 then c4 else if k = 5 then c5 else if k = 6 then c6 else if k = 7 then c7 else if k = 8 then c8 else if k = 9 then c9 else if k = 10 then c10 else if k = 11 then c11 else c12, fun k => if k = 0 then iS0 else if k = 1 then iS1 else if k = 2 then iS2 else if k = 3 then iS3 else if k = 4 then iS4 else if k = 5 then iS5 else if k = 6 then iS6 else if k = 7 then iS7 else if k = 8 then iS8 else if k = 9 then iS9 else if k = 10 then iS10 else if k = 11 then iS11 else iS12, ?_⟩
    intro k q hq
    match k, hq with
    | 0, hq => cases hq; exact hKn0
    | 1, hq => cases hq; exact hKn1
    | 2, hq => cases hq; exact hKn2
    | 3, hq => cases hq; exact hKn3
    | 4, hq => cases hq; exact hKn4
    | 5, hq => cases hq; exact hKn5
    | 6, hq => cases hq; exact hKn6
    | 7, hq => cases hq; exact hKn7
    | 8, hq => cases hq; exact hKn8
    | 9, hq => cases hq; exact hKn9
    | 10, hq => cases hq; exact hKn10
    | 11, hq => cases hq; exact hKn11
    | 12, hq => cases hq; exact hKn12
    | k + 13, hq => simp [vwCl] at hq
  obtain ⟨aI, kI, pI, fI, gI, eI⟩ := Cond.arrayClass_spec (hts' _ tw_142)
  obtain ⟨aB, kB, pB, fB, gB, eB⟩ := Cond.arrayClass_spec (hts' _ tw_48)
  obtain ⟨aJ, kJ, pJ, fJ, gJ, eJ⟩ := Cond.arrayClass_spec (hts' _ tw_141)
  obtain ⟨aZ, kZ, pZ, fZ, gZ, eZ⟩ := Cond.arrayClass_spec (hts' _ tw_1397)
  have hoW : (Cond.arrayOver (.object "OffThenOn$World")).before #[Value.ref b] s = true := htb _ 249 (by decide +kernel)
  have hoS : (Cond.arrayOver (.object "OffThenOn$State")).before #[Value.ref b] s = true := htb _ 257 (by decide +kernel)
  obtain ⟨pW, aW, kW, q1W, -, gW, eW, fW⟩ := Cond.arrayOver_spec hoW
  obtain ⟨pS, aS, kS, q1S, -, gS, eS, fS⟩ := Cond.arrayOver_spec hoS
  obtain ⟨dA, hdA⟩ : ∃ dA : Nat → ClassId, dA 0 = aI ∧ dA 1 = aB ∧ dA 2 = aJ ∧ dA 3 = aZ ∧ dA 4 = aW ∧ dA 5 = aS := ⟨fun k => if k = 0 then aI else if k = 1 then aB else if k = 2 then aJ else if k = 3 then aZ else if k = 4 then aW else aS, rfl, rfl, rfl, rfl, rfl, rfl⟩
  obtain ⟨d0, d1, d2, d3, d4, d5⟩ := hdA
  have hK : va_K (dC, dI) vwCl (sa_tys dA) s := by
    refine ⟨hKc, fun k q hq => ?_⟩
    match k, hq with
    | 0, hq => cases hq; rw [d0]; exact ⟨fun n z => ⟨fun k h => (by cases h), kI, gI, pI, eI⟩, fI⟩
    | 1, hq => cases hq; rw [d1]; exact ⟨fun n z => ⟨fun k h => (by cases h), kB, gB, pB, eB⟩, fB⟩
    | 2, hq => cases hq; rw [d2]; exact ⟨fun n z => ⟨fun k h => (by cases h), kJ, gJ, pJ, eJ⟩, fJ⟩
    | 3, hq => cases hq; rw [d3]; exact ⟨fun n z => ⟨fun k h => (by cases h), kZ, gZ, pZ, eZ⟩, fZ⟩
    | 4, hq => cases hq; rw [d4]; exact ⟨fun n z => ⟨fun k h => (by cases h), kW, gW, pW, eW⟩, kW, pW, gW, eW, q1W, fW⟩
    | 5, hq => cases hq; rw [d5]; exact ⟨fun n z => ⟨fun k h => (by cases h), kS, gS, pS, eS⟩, kS, pS, gS, eS, q1S, fS⟩
    | k + 6, hq => simp [sa_tys] at hq
  have hA : ∀ q : Nat, s.heap.size ≤ q → (fun q : Nat => s.heap.size ≤ q) q := fun _ h => h
  have hnA : ∀ a : Nat, a < s.heap.size → ¬ (fun q : Nat => s.heap.size ≤ q) a := fun a h => Nat.not_le.mpr h
  have hU : sa_U (dC, dI) vwCl dA s := ⟨hK, va_AO.of (htb _ 249 (by decide +kernel)), va_AO.of (htb _ 257 (by decide +kernel)), fun q hq => by
    have hm : ∀ q ∈ sa_NL, Cond.methodLinkNest q.1 q.2.1 q.2.2.1 q.2.2.2 ∈ tables_1 := by decide +kernel
    exact va_Nw.of rfl (hts _ (List.mem_append_right _ (hm q hq)))⟩
  have hfl := flat_of_before _ hgv
  have hZ : sa_ZZ (fun q : Nat => s.heap.size ≤ q) s s.heap := by
    refine ⟨⟨vx_Zqof (htb _ 1150 (by decide +kernel)) (htb _ 15 (by decide +kernel)) (hfl _ (by decide +kernel)) hnA, vx_Zqof (htb _ 1152 (by decide +kernel)) (htb _ 15 (by decide +kernel)) (hfl _ (by decide +kernel)) hnA⟩, fun w hw => ?_⟩
    have hm : ∀ w ∈ sa_XW, w ∈ tables_1 := by decide +kernel
    exact va_Nw.of (sa_XW_on w hw) (hts _ (List.mem_append_right _ (hm w hw)))
  have hC : sa_C p s m #[Value.ref b] c (dC, dI) dA (fun q : Nat => s.heap.size ≤ q) 7 vwCl sa_Ts code R_law := ⟨hx, hb, hts', hown, hml, hK, hA⟩
  have hfm : ∀ w ∈ flatC (Jvm.Cond.and given_1 narrow_1), w.before #[Value.ref b] s = true := hfl
  have hKW : ∀ j, j < 20 → Cond.eq (.elem (.static "OffThenOn" "KEYWORDS" "[J") (.int (Int32.ofNat j))) (.long (tb_kwl.getD j 0)) ∈ flatC (Jvm.Cond.and given_1 narrow_1) := by decide +kernel
  obtain ⟨tk, k1, k2⟩ := va_Tof (tm := .static "OffThenOn" "KEYWORDS" "[J") (ty := .long) (N := 20) (f := fun j => .long (tb_kwl.getD j 0)) (A := fun q : Nat => s.heap.size ≤ q) (by decide) (hfl _ (by decide +kernel)) (va_eqt (hfl _ (by decide +kernel))) (fun j hj => va_eqtl (hfm _ (hKW j hj))) hnA
  have m1 : ∀ i, i < 6 → Cond.exactly (.string "OffThenOn" (tb_lix.getD i 0)) "java/lang/String" ∈ flatC (Jvm.Cond.and given_1 narrow_1) := by decide +kernel
  have m2 : ∀ i, i < 6 → Cond.eq (.field (.string "OffThenOn" (tb_lix.getD i 0)) "java/lang/String" "coder" "B") (.int 0) ∈ flatC (Jvm.Cond.and given_1 narrow_1) := by decide +kernel
  have m3 : ∀ i, i < 6 → Cond.arrayOf (.field (.string "OffThenOn" (tb_lix.getD i 0)) "java/lang/String" "value" "[B") .byte ∈ flatC (Jvm.Cond.and given_1 narrow_1) := by decide +kernel
  have m4 : ∀ i, i < 6 → Cond.eq (.length (.field (.string "OffThenOn" (tb_lix.getD i 0)) "java/lang/String" "value" "[B")) (.int (Int32.ofNat (tb_len.getD i 0))) ∈ flatC (Jvm.Cond.and given_1 narrow_1) := by decide +kernel
  have m5 : ∀ i, i < 6 → ∀ j, j < tb_len.getD i 0 → Cond.eq (.elem (.field (.string "OffThenOn" (tb_lix.getD i 0)) "java/lang/String" "value" "[B") (.int (Int32.ofNat j))) (.int ((tb_byt.getD i []).getD j 0)) ∈ flatC (Jvm.Cond.and given_1 narrow_1) := by decide +kernel
  have m6 : ∀ i, i < 6 → ∀ j, j < 6 → i ≠ j → Cond.not (Cond.eq (.string "OffThenOn" (tb_lix.getD i 0)) (.string "OffThenOn" (tb_lix.getD j 0))) ∈ flatC (Jvm.Cond.and given_1 narrow_1) ∨ Cond.not (Cond.eq (.string "OffThenOn" (tb_lix.getD j 0)) (.string "OffThenOn" (tb_lix.getD i 0))) ∈ flatC (Jvm.Cond.and given_1 narrow_1) := by decide +kernel
  have m7 : ∀ i, i < 6 → Cond.stringRef "OffThenOn" (tb_lix.getD i 0) (tb_ltx.getD i "") ∈ tables_1 := by decide +kernel
  obtain ⟨adK, adV, s1, s2⟩ := vk_Sof (args := #[Value.ref b]) (s := s) (N := 6) (tm := fun i => .string "OffThenOn" (tb_lix.getD i 0)) (len := tb_len) (byt := tb_byt) (A := fun q : Nat => s.heap.size ≤ q) (by decide) (fun i hi => hfm _ (m1 i hi)) (fun i hi => hfm _ (m2 i hi)) (fun i hi => hfm _ (m3 i hi)) (fun i hi => hfm _ (m4 i hi)) (fun i hi j hj => hfm _ (m5 i hi j hj)) (fun i j hi hj hij => (m6 i hi j hj hij).imp (hfm _) (hfm _)) hnA
  have hO : tb_Ou (fun q : Nat => s.heap.size ≤ q) s s.heap := ⟨hZ, tk, adK, adV, va_Zof (htb _ 531 (by decide +kernel)) (htb _ 1 (by decide +kernel)) k1 hnA, ⟨fun j => tb_kwl.getD j 0, k2, fun _ _ => rfl⟩, s1, va_Zof (htb _ 889 (by decide +kernel)) (htb _ 21 (by decide +kernel)) (va_eqt (hfl _ (by decide +kernel))) hnA, fun i hi => vk_R.of (A := #[Value.ref b]) (hts _ (List.mem_append_right _ (m7 i hi))) (s2 i hi), va_Nw.of rfl (htb _ 530 (by decide +kernel)), va_Zqof (htb _ 905 (by decide +kernel)) (htb _ 23 (by decide +kernel)) (hfl _ (by decide +kernel)) hnA⟩
  have hS : va_S (fun q : Nat => s.heap.size ≤ q) s.heap s.heap [] := va_S.rf
  have hln := lv_entry ([.ref b]) (n := 7) (Nat.le_of_ble_eq_true rfl)
  rw [lg_entry_eq]
  have hI : sa_I (tc_V1 b L) [(0, 0), (0, 0), (0, 3072)] := by
    refine ⟨fun i q hq => ?_, rfl⟩
    match i, hq with
    | 0, hq => cases hq; exact ⟨Int.le_refl _, Int.le_refl _⟩
    | 1, hq => cases hq; exact ⟨Int.le_refl _, Int.le_refl _⟩
    | 2, hq => cases hq; exact ⟨Int.natCast_nonneg L, Int.ofNat_le.mpr hL⟩
    | i + 3, hq => simp at hq
  have hW := sa_run_ok (p := p) (l := l) (e := e) (R := room_1) (s := s) (m := m) (args := #[Value.ref b]) (below := below) (meth := meth) (c := c) (Q := lw_Z below #[Value.ref b] s) (D := (dC, dI)) (dA := dA) (A := fun q : Nat => s.heap.size ≤ q) (nL := 7) (cl := vwCl) (n0 := 3) (V0 := tc_V1 b L)
    (fun pc op h => ent_rows hC hU (pc, op) (sa_fd_mem h)) (fun S _ h => by
      have hS9 := tcx_e h
      have h : tc_fin S = true := by rw [hS9]; exact ent_tc
      obtain ⟨pc, lo, st, cs, G, kc, ks⟩ := S
      have hcs : cs = tc_cs := congrArg (fun S : sa_S => S.2.2.2.1) hS9
      have hGs : G = tc_G := congrArg (fun S : sa_S => S.2.2.2.2.1) hS9
      clear hS9
      intro V H locs ls hG
      simp only [tc_fin, Bool.and_eq_true, decide_eq_true_eq] at h
      obtain ⟨q1, q2, q3, q4, q5, q6, q7, q8, q9, q10, q11, q12, q13, q14, q15, q16⟩ := h
      have q1 : pc = 23 := Nat.eq_of_beq_eq_true q1
      subst q1
      subst q2
      have hG : sa_G (dC, dI) dA (fun q : Nat => s.heap.size ≤ q) 7 vwCl 3 (tc_V1 b L) s.heap V lo cs G H locs ls := hG
      have a0 := sa_look_at hG.2.1 q8
      have a1 := sa_look_at hG.2.1 q9
      have a2 := sa_look_at hG.2.1 q10
      have a3 := sa_look_at hG.2.1 q11
      have a4 := sa_look_at hG.2.1 q12
      have z0 : sa_val V (.inr (.inl (some 1))) = .ref b := by
        show Value.ref (V 1).2.2.2 = _
        rw [hG.1.2.2 1 (by decide)]
        rfl
      have z4 : sa_val V (.inl (0, 0)) = .int (Int32.ofInt ((0 : Nat) : Int)) := by
        show Value.int (sa_i V (0, 0)) = _
        rw [sa_i_0 hG.1.1]
        rfl
      rw [z0] at a0
      rw [z4] at a4
      have hlv : lv_has ls 7 [(0, .ref b), (1, .ref (sa_ad V 3)), (2, .ref (sa_ad V 203)), (3, .ref (sa_ad V 222)), (4, .int (Int32.ofInt ((0 : Nat) : Int)))] := ⟨hG.2.1.1, hG.2.1.2.1, by
        intro q hq
        simp only [List.mem_cons, List.not_mem_nil, or_false] at hq
        rcases hq with rfl | rfl | rfl | rfl | rfl
        · exact a0
        · exact a1
        · exact a2
        · exact a3
        · exact a4⟩
      have fnd : ∀ (j k : Nat), cs[j]?.map (fun q => q.1) = some k → ∃ c9 : sa_c, cs[j]? = some c9 ∧ c9.1 = k := by
        intro j k h9
        cases hc9 : cs[j]? with
        | none => rw [hc9] at h9; cases h9
        | some c9 =>
          rw [hc9] at h9
          exact ⟨c9, rfl, Option.some.inj h9⟩
      obtain ⟨cx, x1, x2⟩ := fnd _ _ q13
      obtain ⟨cm, y1, y2⟩ := fnd _ _ q14
      obtain ⟨co, w1, w2⟩ := fnd _ _ q15
      have ex : (tc_al V cs tc_KL)[0]? = some (sa_ad V 3, 27) := by rw [← x2]; exact tc_al_mk V cs tc_KL _ _ cx x1 tc_KLx
      have em : (tc_al V cs tc_KL)[200]? = some (sa_ad V 203, 0) := by rw [← y2]; exact tc_al_mk V cs tc_KL _ _ cm y1 tc_KLm
      have eo : (tc_al V cs tc_KL)[219]? = some (sa_ad V 222, 87) := by rw [← w2]; exact tc_al_mk V cs tc_KL _ _ co w1 tc_KLo
      have h3 : ∀ κ : Nat, tb_sg (tc_al V cs tc_KL, cs.map (sa_e V dA), tb_modL, tb_Z0) κ = true → ∀ (i j a b : Nat), (tc_al V cs tc_KL)[i]? = some (a, κ) → (tc_al V cs tc_KL)[j]? = some (b, κ) → i = j := by
        intro κ hκ i j a b9 h1 h2
        obtain ⟨c1, -, g1, -⟩ := tc_al_get V cs tc_KL i a κ h1
        obtain ⟨c2, -, g2, -⟩ := tc_al_get V cs tc_KL j b9 κ h2
        exact tc_one_ok q5 κ hκ i j g1 g2
      have hKL : (tc_al V cs tc_KL).map Prod.snd = tc_KL := xl_snd V cs tc_KL (by rw [hcs]; decide +kernel)
      have hN : xl_I (dC, dI) dA (fun q : Nat => s.heap.size ≤ q) (tc_al V cs tc_KL) H := by
        have hwk := tc_wk (dA := dA) hG.1.1 q3
        have hD9 := hG.2.2.2.1
        have hI9 := hG.1.1
        have hP9 := hG.2.2.1
        have hr9 : ∀ (i : Nat) (r : tb_ru), tb_RU0[i]? = some r → tb_rh (tc_al V cs tc_KL) (cs.map (sa_e V dA)) r := fun i r hr => tc_ru_ok hG.1.1 hG.2.2.2.1 (List.all_eq_true.mp q4 r (List.mem_of_getElem? hr))
        subst hcs
        subst hGs
        obtain ⟨μ, hR, hΦ⟩ := xl_ent hI9 hD9 hwk hKL
        exact ⟨_, μ, hP9, hD9, hR, hr9, hΦ⟩
      have q6 : kc ≤ 220 := q6
      have q7 : ks ≤ 6394 := q7
      show W p l e room_1 s m #[Value.ref b] below meth c H locs kc ks (lw_Z below #[Value.ref b] s) (F0 m 23 ls [])
      refine W.widen (k := 0 + (220 + 0)) (n := 0 + (6394 + 0 * 6)) (by omega) (by omega) ?_
      have hsp := xl_sp (e := e) (below := below) (meth := meth) (xs := xs) (al := tc_al V cs tc_KL) hl hC hU hO hKL hX hbl (hnA b hbl) hL
      rw [xw_ada ex, xw_ada em, xw_ada eo] at hsp
      exact xl_loop (al := tc_al V cs tc_KL) (kc0 := 220) (ks0 := 6394) (tab := t_law) hKL hL (by decide) (by decide) hC hr hlocks hX hbl (fun w => h3) ex em eo (fun w i hi => law_rows hl hX hbl (hnA b hbl) hi hL hC hU hO rfl rfl) hsp law_r0 law_r1 law_r2 law_r3 3073 0 0 (by omega) (by omega) (by omega) H locs ls hlv hN hG.2.2.2.2) 60 _ ent_run
  refine hW (tc_V1 b L) s.heap [] _ ⟨⟨hI, Nat.le_refl _, fun _ _ => rfl⟩, ?_, fun k q h => by simp at h, ⟨fun i j p q h => by simp at h, fun k q h => by simp at h⟩, hS⟩
  exact hln
set_option maxHeartbeats 4000000 in
theorem lw_walk (l : Launch) (hl : l.stackTraces = false) (b : Addr) (xs : List Int32) : MetFree l x (headSpec (Jvm.Cond.code x code maxLocals ret :: tables_1) room_1) (lw_P b xs) (fun _ _ _ _ _ => True) lw_Q := by
  refine MetFree.of_bodyS (code := code) (maxLocals := maxLocals) (ret := ret) (by decide) ?_ ?_
  · intro args s m h hn
    obtain ⟨meth, c, h1, h2, h3, h4, h5, h6, -, -⟩ := Cond.code_spec hn (atoms_spec (ws := Jvm.Cond.code x code maxLocals ret :: tables_1) h _ List.mem_cons_self)
    exact ⟨meth, c, h1, h2, h3, h4, h5, h6⟩
  · intro p e s m args below meth c s₁ B hml0 hP _
    obtain ⟨rfl, hx, hbd, hgv⟩ := hP
    obtain ⟨scr, harrAt, hlist, hof, hsmall⟩ := hx
    obtain ⟨hcb, hkn, -, -⟩ := State.arrayAt?_spec harrAt
    have hown : s.vm.findClass R_law = some m.cls := findClass_of_methodNamed B.named
    have hts0 : ∀ c ∈ (Jvm.Cond.code x code maxLocals ret :: tables_1), c.before #[Value.ref b] s = true := atoms_spec (ws := Jvm.Cond.code x code maxLocals ret :: tables_1) B.pre
    have hts : ∀ w ∈ lw_tbl, w.before #[Value.ref b] s = true := k2_hts_sels lw_privs (fun w hw => hts0 w (List.mem_cons_of_mem _ hw)) lw_privs_ok
    have hml : c.maxLocals = 7 := B.maxLocals_eq (hts0 _ List.mem_cons_self)
    have X₀ : Stand p l e room_1 s m #[Value.ref b] below meth c s₁ [] 0 0 := Stand.of_body B
    have hh0 : s₁.heap = s.heap := by rw [B.state]; rfl
    have hsz : scr.slots.size = xs.length := by rw [← Array.length_toList, hlist, List.length_map]
    have hval : ∀ j : Nat, j < xs.length → scr.slots[j]? = some (.int (xs.getD j 0)) := fun j hj => by
      rw [← Array.getElem?_toList, hlist]
      simp [hj]
    have hbl : b < s.heap.size := (Array.getElem?_eq_some_iff.mp hcb).1
    have hX : va_X b xs.length (fun j => xs.getD j 0) s s.heap := ⟨scr, hcb, hof, hkn, hsz, hval⟩
    have K : W p l e room_1 s m #[Value.ref b] below meth c s₁.heap [] 0 0 (lw_Z below #[Value.ref b] s) (entryFrame m ([Value.ref b] : List Value).toArray 7) := by
      rw [hh0]
      exact whole_start l hl hbd ⟨B.exec, B.bytes, B.returns, hml, hown, hts, hX, hbl, B.notSynchronized, hgv⟩
    obtain ⟨t, a1, o, b1, b2, b3⟩ := K s₁ rfl X₀
    exact ⟨t, o, a1, b1, b2, b3⟩
theorem lw_pre_spec {args : Array Value} {s : State} (h : (Jvm.Cond.and given_1 narrow_1).before args s = true) (hr : rest_1_c.before args s = true) : ∃ (b : Addr) (xs : List Int32), lw_P b xs args s := by
  have hs := flat_of_before _ h
  have hq := flat_of_before _ hr
  have hc : (Cond.count 1).before args s = true := hs _ (by decide +kernel)
  have harr : (Cond.arrayOf (.arg 0) .int).before args s = true := hs _ (by decide +kernel)
  have hle : (Cond.le (.length (.arg 0)) (.int 3072)).before args s = true := hs _ (by decide +kernel)
  have hlen : (Cond.isInt (.length (.arg 0))).before args s = true := hq _ (by decide +kernel)
  have hall : (Cond.all (.arg 0) (.isInt (.elem (.arg 0) (.index 0)))).before args s = true := hq _ (by decide +kernel)
  obtain ⟨b, xs, hb, hx⟩ := State.ints_of_pre rfl harr hlen hall
  have hsm : xs.length < 2 ^ 31 := hx.choose_spec.2.2.2
  have hev : (Term.length (.arg 0)).eval args s none [] s = some (.int xs.length.toInt32) := hx.length_eval hb
  have hv := Cond.le_ints hev (show (Term.int 3072).eval args s none [] s = some (.int 3072) from rfl)
  have hd : xs.length.toInt32 ≤ 3072 := by
    simpa [Cond.before, Cond.holds, hv] using hle
  have hN : xs.length ≤ 3072 := (Int32.ofNat_le_ofNat hsm (by decide)).mp (show Int32.ofNat xs.length ≤ Int32.ofNat 3072 from hd)
  exact ⟨b, xs, Cond.one_arg hc (show args[0]? = some (.ref b) from hb), hx, hN, h⟩
theorem lw_comes (l : Launch) (hl : l.stackTraces = false) : Comes l x (Jvm.Cond.code x code maxLocals ret :: tables_1) room_1 (fun tb e args s => Calls_1 tb e args s ∧ rest_1 tb e args s ∧ Pre_1 tb e args s)
    (fun _ _ args s o t => lw_Q args s o t) := by
  intro p e ha hc hk s m args below hf hfit hheap happ hpre
  obtain ⟨b, xs, hP⟩ := lw_pre_spec hpre.2.2 hpre.2.1
  obtain ⟨k, o, h1, h2, h3, hQ⟩ := lw_walk l hl b xs p e ha hc hk s m args below hf ((Spec.applies_iff_loose hf).mp happ).1 hP trivial
  exact ⟨k, o, h1, h2, h3, hQ⟩
theorem lw_frame {s t : State} {o : Outcome} {args : Array Value} (h : Framed s o t [] 601024 7293034) :
    Framed s o t (fieldLocs frame_1_writes args s ++ arrayLocs frame_1_arrays args s ++ staticLocs frame_1_statics s) 601024 7293034 := h
theorem lw_limb (L : Cond) (hL : ∀ (args : Array Value) (s t : State), L.after args s (.returned (some (.int 1))) t = true) :
    ArmFor flags0 classFile x code maxLocals ret World_1 tables_1 room_1 Calls_1 rest_1 Pre_1
      (fun tb e a s o t => postC L tb e a s o t ∧ Framed s o t (fieldLocs frame_1_writes a s ++ arrayLocs frame_1_arrays a s ++ staticLocs frame_1_statics s) 601024 7293034) := by
  intro l hfl _ _ p e ha hc hk s m args below hf hfit hheap happ hpre
  obtain ⟨k, o, h1, h2, h3, rfl, hF⟩ := lw_comes l (by unfold Launch.stackTraces; rw [hfl]; decide +kernel) p e ha hc hk s m args below hf hfit hheap happ hpre
  exact ⟨k, _, h1, h2, h3, hL args s _, lw_frame hF⟩
