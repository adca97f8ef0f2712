section TYT
/-! throws, caught -/
noncomputable def tb_up (mc ms : Nat) (S : tb_S) : tb_S := (S.1, S.2.1, S.2.2.1, S.2.2.2.1, S.2.2.2.2.1, S.2.2.2.2.2.1 + mc, S.2.2.2.2.2.2 + ms)
noncomputable def tb_RunG (p : Program) (l : Launch) (e : Env) (R : Room) (s : State) (m : MethodId) (args : Array Value) (below : List Frame) (meth : Method) (c : Code) (H : Heap) (locs : List Loc) (cells slots mc ms : Nat) (g : JFrame) (rest : List Value) (Qa : State → Outcome → State → Prop) (free : Addr → Prop) (Q : State → Prop) : Prop :=
  ∀ T : State, T.heap = H → Stand p l e R s m args below meth c T locs cells slots →
    (∃ (v : Option Value) (st₀ t T' : State) (L : List Loc), st₀.heap = H ∧ Stand p l e R s m args below meth c T' (locs ++ L) (cells + mc) (slots + ms) ∧ (∀ q ∈ L, free q.base) ∧ T'.heap = t.heap ∧ T'.vm = t.vm ∧ Qa st₀ (.returned v) t ∧ Goes p e below T g T' { g with pc := g.pc + 3, stack := v.toList ++ rest }) ∨ ∃ t : State, Steps p.tables e below (T.setTop g) t ∧ Q t
theorem tb_RunG.of {p : Program} {l : Launch} {e : Env} {R : Room} {s : State} {m : MethodId} {args : Array Value} {below : List Frame} {meth : Method} {c : Code} {H : Heap} {locs : List Loc} {cells slots mc ms : Nat} {g : JFrame} {rest : List Value} {Qa : State → Outcome → State → Prop} {free : Addr → Prop} {Q : State → Prop} (h : va_Run p l e R s m args below meth c H locs cells slots mc ms g rest Qa free) : tb_RunG p l e R s m args below meth c H locs cells slots mc ms g rest Qa free Q := fun T hT X => Or.inl (h T hT X)
theorem tb_call_okG {p : Program} {l : Launch} {e : Env} {R : Room} {s : State} {m : MethodId} {args : Array Value} {below : List Frame} {meth : Method} {c : Code} {Q : State → Prop} {D : va_G} {dA : Nat → ClassId} {A : Nat → Prop} {nL : Nat} {cl : List vw_C} {n0 : Nat} {V0 : sa_V} {E : tb_E} {mc ms : Nat} {Z : tb_Z} {K : tb_K} {pc : Nat} {lo : sa_L} {st : List sa_v} {cs : tb_c} {G : sa_B} {kc ks : Nat} {sts : List tb_S} {V : sa_V} {H : Heap} {locs : List Loc} {ls : Array Slot} {a : Array Value}
    (hz : tb_z E = Z) (hA : ∀ q, s.heap.size ≤ q → A q) (h : tb_c0 Z (tb_mod E) K (pc, lo, st, cs, G, kc, ks) = some sts) (k : ∀ S' ∈ sts, tb_W p l e R s m args below meth c Q D dA A nL cl n0 V0 E (tb_up mc ms S')) (hG : tb_G D dA A nL cl n0 V0 E s.heap V lo cs G H locs ls)
    (vr : ∀ (As rest : List sa_v) (V1 : sa_V) (w : va_W), st = As.reverse ++ rest → As.map (sa_val V) = K.1.map (sa_val V1) → As.length = K.1.length → sa_I V1 K.2.2.2.1 → tb_X (tb_al E, w, K.2.2.2.2.2, tb_z E) V1 → ((rest.map (sa_val V)).map (fun v => v.category)).sum ≤ 8 → tb_P0 D dA cl (tb_al E, w, K.2.2.2.2.2, tb_z E) V1 K H → tb_Nw D dA A cl E V cs H w → (∀ q, va_A w H.size q → A q) →
      tb_RunG p l e R s m args below meth c H locs kc ks mc ms (F0 m pc ls (st.map (sa_val V))) (rest.map (sa_val V)) (tb_Q D dA cl H.size (tb_al E, w, K.2.2.2.2.2, tb_z E) V1 K a) (va_A w H.size) Q) :
    W p l e R s m args below meth c H locs kc ks Q (F0 m pc ls (st.map (sa_val V))) := by
  unfold tb_c0 at h
  rw [tb_tab_eq] at h
  change tb_c0g Z (tb_mod E) K (pc, lo, st, cs, G, kc, ks) (tb_cg Z K (pc, lo, st, cs, G, kc, ks)) = some sts at h
  unfold tb_c0g at h
  dsimp only at h
  split at h
  · rename_i hh
    obtain ⟨hlen, f1, f2, f3, f4, f5, f6⟩ := hh
    generalize hg : tb_cg Z K (pc, lo, st, cs, G, kc, ks) = g at h f1 f6
    generalize has : (st.take K.1.length).reverse = As at f1
    generalize hre : st.drop K.1.length = rest at h f4 f5
    cases h
    have hst : st = As.reverse ++ rest := by rw [← has, ← hre, List.reverse_reverse, List.take_append_drop]
    obtain ⟨w, hN⟩ := hG.2.2.1
    have hN : tb_Nw D dA A cl E V cs H w := hN
    obtain ⟨n1, n2, n3, n4, n5, n6, n7⟩ := hN
    have hI := hG.1.1
    have hX := hG.2.2.2.1
    have hg' : g = tb_gn K.2.2.2.1.length (tb_sb 1 (tb_bind Z 1 K.1 (st.take K.1.length).reverse K.2.1 cs.1 G)) := by rw [← hg]; rfl
    have hfit := f1
    rw [hg'] at f1
    obtain ⟨e1, e2, e3, e4, e5⟩ := tb_fit_ok hz hI hX n5 n7 f1
    rw [← hg'] at e1 e2 e3 e4 e5
    have b4 : ∀ j b, K.2.2.2.1[j]? = some b → (g j).1 < G.length := by
      intro j b hj
      unfold tb_fit at hfit
      simp only [Bool.and_eq_true] at hfit
      obtain ⟨b', hb', -⟩ := tb_bkF_ok hfit.2.2.1 j b hj
      exact (List.getElem?_eq_some_iff.mp hb').1
    have hwf := f5
    simp only [tb_wf_old, Bool.and_eq_true, decide_eq_true_eq] at hwf
    obtain ⟨⟨⟨w0, w1⟩, w2⟩, w3⟩ := hwf
    simp only [tb_wfc, Bool.and_eq_true, List.all_eq_true] at w3
    have hF : ∀ q, va_A w H.size q → A q := by
      intro q hq
      rcases hq with ⟨k9, e9, hq⟩ | hq
      · exact n2.2 k9 _ hq
      · exact hA q (Nat.le_trans hG.2.2.2.2.1 hq)
    have hAl : As.length = K.1.length := by
      have := congrArg List.length e3
      rw [List.length_map, List.length_map] at this
      exact this.symm
    have vrun := vr As rest (tb_pl V g) w hst e3.symm hAl e1 e2 (by rw [sa_sum]; exact f4) ⟨n1, n2.weaken (fun _ _ _ _ => trivial), n3, e4, fun i r hr => n6 i r hr (by rw [show cs.2.1 = [] from f2]; exact List.not_mem_nil), e5⟩ ⟨n1, n2, n3, n4, n5, n6, n7⟩ hF
    intro T hT X
    rcases vrun T hT X with ⟨v, st₀, t, T', L, t0, X', hL, x1, x2, ⟨⟨o, ho, V', hV', hI', hX', hoc, w', m1, m2, m3, m4, m5, m6, m7⟩, hzz, hkk⟩, stp⟩ | hgoal
    rotate_left
    · exact hgoal
    rw [t0] at hzz hkk
    obtain ⟨Vn, hVn⟩ : ∃ Vn : sa_V, Vn = (fun j => if j < G.length then V j else V' (K.2.2.2.1.length + (j - G.length))) := ⟨_, rfl⟩
    have vlt : ∀ j, j < G.length → Vn j = V j := fun j hj => by rw [hVn]; exact if_pos hj
    have vge : ∀ j, Vn (G.length + j) = V' (K.2.2.2.1.length + j) := fun j => by
      rw [hVn]
      show (if G.length + j < G.length then _ else _) = _
      rw [if_neg (by omega), show G.length + j - G.length = j by omega]
    have hXn : tb_X E Vn := by
      refine ⟨fun j => ?_, fun j hj => ?_, hX.2.2⟩
      · by_cases hl : j < G.length
        · rw [vlt j hl]; exact hX.1 j
        · have := vge (j - G.length)
          rw [show G.length + (j - G.length) = j by omega] at this
          rw [this]; exact hX'.1 _
      · by_cases hl : j < G.length
        · unfold sa_ad
          rw [vlt j hl] at hj ⊢
          exact hX.2.1 j hj
        · have hh := vge (j - G.length)
          rw [show G.length + (j - G.length) = j by omega] at hh
          unfold sa_ad
          rw [hh] at hj ⊢
          exact hX'.2.1 _ hj
    have hVV : V' = tb_pl Vn (tb_g2 g K.2.2.2.1.length G.length) := by
      funext j
      by_cases hj : j < K.2.2.2.1.length
      · have hj2 := b4 j _ (List.getElem?_eq_getElem hj)
        rw [hV' j hj]
        unfold tb_pl tb_g2
        rw [if_pos hj, vlt _ hj2]
      · unfold tb_pl tb_g2
        rw [if_neg hj]
        show _ = ((Vn (G.length + (j - K.2.2.2.1.length))).1 + 0, Int64.ofInt ((Vn (G.length + (j - K.2.2.2.1.length))).1 + 0), (Vn (G.length + (j - K.2.2.2.1.length))).2.2)
        rw [vge, show K.2.2.2.1.length + (j - K.2.2.2.1.length) = j by omega, Int.add_zero, ← hX'.1 j]
    have agree : ∀ v : sa_v, sa_wfv G.length v = true → sa_val Vn v = sa_val V v := by
      intro v hv
      rcases v with q | (_ | j) | j
      · show Value.int (Int32.ofInt ((Vn q.1).1 + q.2)) = _
        rw [vlt _ (of_decide_eq_true hv)]
        rfl
      · rfl
      · show Value.ref (Vn j).2.2.2 = _
        rw [vlt _ (of_decide_eq_true hv)]
        rfl
      · show Value.long (Vn j).2.1 = _
        rw [vlt _ (of_decide_eq_true hv)]
        rfl
    have hoo := List.all_eq_true.mp f6 o ho
    unfold tb_oo at hoo
    rw [Bool.and_eq_true] at hoo
    have hN' : tb_N D dA A cl E Vn (cs.1.filter (tb_sv1 G K.2.2.2.2.2) ++ o.2.1.map (tb_sf (tb_g2 g K.2.2.2.1.length G.length)), [], cs.2.2 ++ o.2.2.1.map (tb_sL (tb_g2 g K.2.2.2.1.length G.length))) T'.heap := by
      refine ⟨w', by rw [x1]; exact m1, m2.weaken (fun j q hj hq => hF _ hq), m3, tb_fm_call (E' := (tb_al E, w, K.2.2.2.2.2, tb_z E)) rfl rfl f3 n3 n4 m4, fun f hf => ?_, fun i r hr _ => m6 i r hr List.not_mem_nil, fun x hx => ?_⟩
      · rcases List.mem_append.mp hf with hf | hf
        · obtain ⟨q1, q2⟩ := List.mem_filter.mp hf
          have q3 := tb_sv1_ok (E' := (tb_al E, w, K.2.2.2.2.2, tb_z E)) rfl rfl rfl hI hX n2 n3 m3 m4 (n5 f q1) q2
          have q4 := w3.1 f q1
          simp only [tb_wff, Bool.and_eq_true, decide_eq_true_eq] at q4
          unfold tb_fa tb_ix sa_ad at q3 ⊢
          rw [vlt _ q4.1, vlt _ q4.2.1, agree _ q4.2.2]
          exact q3
        · obtain ⟨f9, q1, rfl⟩ := List.mem_map.mp hf
          have q2 := m5 f9 q1
          have q3 := List.all_eq_true.mp hoo.2 f9 q1
          unfold tb_fa at q2 ⊢
          show 0 ≤ tb_ix Vn (sa_sq _ f9.2.1) ∧ tb_at w' (sa_ad Vn (tb_g2 g K.2.2.2.1.length G.length f9.1).1) (tb_ix Vn (sa_sq _ f9.2.1)).toNat (sa_val Vn (sa_sv _ f9.2.2))
          rw [tb_ix_pl, tb_val_pl hXn q3, ← hVV]
          have q4 : sa_ad Vn (tb_g2 g K.2.2.2.1.length G.length f9.1).1 = sa_ad V' f9.1 := by rw [hVV]; rfl
          rw [q4]
          exact q2
      · rcases List.mem_append.mp hx with hx | hx
        · have q1 := n7 x hx
          unfold tb_lo at q1 ⊢
          rw [tb_ev_agree vlt (w3.2 x hx)]
          exact q1
        · obtain ⟨l9, q1, rfl⟩ := List.mem_map.mp hx
          have q2 : tb_ev V' l9.1 ≤ l9.2 := m7 l9 q1
          rw [hVV, tb_sl_ev (by rw [vlt 0 w0]; exact hI.2)] at q2
          show tb_ev Vn (tb_sl (tb_g2 g K.2.2.2.1.length G.length) l9.1).1 ≤ l9.2 - (tb_sl (tb_g2 g K.2.2.2.1.length G.length) l9.1).2
          omega
    have hIV : sa_I Vn G := ⟨fun i b hi => by rw [vlt i (List.getElem?_eq_some_iff.mp hi).1]; exact hI.1 i b hi, by rw [vlt 0 w0]; exact hI.2⟩
    obtain ⟨hrf1, hrf2⟩ := tb_rg_ok (V := Vn) (g := g) (Go := o.2.2.2) (List.range K.2.2.2.1.length) G hIV (fun j hj b hb => by
      have hjl := List.mem_range.mp hj
      have hj2 := b4 j _ (List.getElem?_eq_getElem hjl)
      have h9 := hI'.1 j b hb
      rw [hV' j hjl] at h9
      rw [vlt _ hj2]
      exact h9)
    have hIn : sa_I Vn (tb_rg g o.2.2.2 (List.range K.2.2.2.1.length) G ++ o.2.2.2.drop K.2.2.2.1.length) := by
      refine ⟨fun i b hi => ?_, hIV.2⟩
      by_cases hl : i < G.length
      · rw [List.getElem?_append_left (by rw [hrf2]; exact hl)] at hi
        exact hrf1.1 i b hi
      · rw [List.getElem?_append_right (by rw [hrf2]; omega), hrf2, List.getElem?_drop] at hi
        have h9 := hI'.1 _ b hi
        have e9 : Vn i = V' (K.2.2.2.1.length + (i - G.length)) := by
          have := vge (i - G.length)
          rwa [show G.length + (i - G.length) = i by omega] at this
        rw [e9]
        exact h9
    have hk9 := k (tb_end K (pc, lo, st, cs, G, kc, ks) g rest o) (List.mem_filter.mpr ⟨List.mem_map.mpr ⟨o, ho, rfl⟩, List.all_eq_true.mpr (fun b hb9 => decide_eq_true (by
      obtain ⟨i9, hi9⟩ := List.getElem?_of_mem hb9
      have h9 := hIn.1 i9 b hi9
      omega))⟩)
    have hSn : va_S A s.heap T'.heap (locs ++ L) := ⟨Nat.le_trans hG.2.2.2.2.1 (by rw [x1]; exact hzz), fun q h1 h2 => by rw [x1, hkk q (Nat.lt_of_lt_of_le h1 hG.2.2.2.2.1) (fun z => h2 (hF q z))]; exact hG.2.2.2.2.2.1 q h1 h2, fun q hq => by
      rcases List.mem_append.mp hq with h | h
      · exact hG.2.2.2.2.2.2 q h
      · exact hF _ (hL q h)⟩
    have hlvn : lv_has ls nL (sa_lv Vn lo) := by
      have : sa_lv Vn lo = sa_lv V lo := List.map_congr_left (fun q hq => by rw [agree _ (List.all_eq_true.mp w1 q hq)])
      rw [this]
      exact hG.2.1
    obtain ⟨t2, a1, b1⟩ := hk9 Vn T'.heap (locs ++ L) ls ⟨⟨hIn, by show n0 ≤ (tb_rg g o.2.2.2 (List.range K.2.2.2.1.length) G ++ o.2.2.2.drop K.2.2.2.1.length).length; rw [List.length_append, hrf2]; exact Nat.le_trans hG.1.2.1 (Nat.le_add_right _ _), fun j hj => by rw [vlt j (Nat.lt_of_lt_of_le hj hG.1.2.1)]; exact hG.1.2.2 j hj⟩, hlvn, hN', hXn, hSn⟩ T' rfl (show Stand p l e R s m args below meth c T' (locs ++ L) (kc + mc) (ks + ms) from X')
    refine ⟨t2, stp t2 ?_, b1⟩
    have hrs : rest.map (sa_val Vn) = rest.map (sa_val V) := List.map_congr_left (fun v hv => agree v (List.all_eq_true.mp w2 v hv))
    have hstk : (match o.1 with | some v => sa_sv (tb_g2 g K.2.2.2.1.length G.length) v :: rest | none => rest).map (sa_val Vn) = v.toList ++ rest.map (sa_val V) := by
      have hoc := Outcome.returned.inj hoc
      subst hoc
      cases ho1 : o.1 with
      | none => exact hrs
      | some v9 =>
        have q3 := hoo.1
        rw [ho1] at q3
        show sa_val Vn (sa_sv _ v9) :: rest.map (sa_val Vn) = sa_val V' v9 :: rest.map (sa_val V)
        rw [hrs, tb_val_pl hXn q3, ← hVV]
    have a2 : Steps p.tables e below (T'.setTop (F0 m (pc + 3) ls ((match o.1 with | some v => sa_sv (tb_g2 g K.2.2.2.1.length G.length) v :: rest | none => rest).map (sa_val Vn)))) t2 := a1
    rw [hstk] at a2
    exact a2
  · cases h
/-- a call of one of some contracts, that makes cells, or that may end otherwise -/
theorem tb_calls_okG {p : Program} {l : Launch} {e : Env} {R : Room} {s : State} {m : MethodId} {args : Array Value} {below : List Frame} {meth : Method} {c : Code} {Q : State → Prop} {D : va_G} {dA : Nat → ClassId} {A : Nat → Prop} {nL : Nat} {cl : List vw_C} {n0 : Nat} {V0 : sa_V} {E : tb_E} {mc ms : Nat} {Z : tb_Z} {Ks : List tb_K} {mod : List (Nat × Nat × Nat)} {grd : tb_S → Bool} {pc : Nat} {lo : sa_L} {st : List sa_v} {cs : tb_c} {G : sa_B} {kc ks : Nat} {sts : List tb_S} {V : sa_V} {H : Heap} {locs : List Loc} {ls : Array Slot} {a : Array Value}
    (hz : tb_z E = Z) (hcv : Z.1.all tb_cv = true) (hm : tb_mod E = mod) (hA : ∀ q, s.heap.size ≤ q → A q) (h : to_cs Z mod grd Ks (pc, lo, st, cs, G, kc, ks) = some sts) (k : ∀ S' ∈ sts, tb_W p l e R s m args below meth c Q D dA A nL cl n0 V0 E (tb_up mc ms S')) (hG : tb_G D dA A nL cl n0 V0 E s.heap V lo cs G H locs ls)
    (vr : ∀ (K : tb_K) (x : tb_c × sa_B) (V2 : sa_V), K ∈ Ks → grd (pc, lo, st, x.1, x.2, kc, ks) = true → tb_G D dA A nL cl n0 V0 E s.heap V2 lo x.1 x.2 H locs ls → st.map (sa_val V2) = st.map (sa_val V) → ∀ (As rest : List sa_v) (V1 : sa_V) (w : va_W), st = As.reverse ++ rest → As.map (sa_val V2) = K.1.map (sa_val V1) → As.length = K.1.length → sa_I V1 K.2.2.2.1 → tb_X (tb_al E, w, K.2.2.2.2.2, tb_z E) V1 → ((rest.map (sa_val V2)).map (fun v => v.category)).sum ≤ 8 → tb_P0 D dA cl (tb_al E, w, K.2.2.2.2.2, tb_z E) V1 K H → tb_Nw D dA A cl E V2 x.1 H w → (∀ q, va_A w H.size q → A q) →
      tb_RunG p l e R s m args below meth c H locs kc ks mc ms (F0 m pc ls (st.map (sa_val V2))) (rest.map (sa_val V2)) (tb_Q D dA cl H.size (tb_al E, w, K.2.2.2.2.2, tb_z E) V1 K a) (va_A w H.size) Q) :
    W p l e R s m args below meth c H locs kc ks Q (F0 m pc ls (st.map (sa_val V))) := by
  obtain ⟨K, hK, h1⟩ := tb_pick h
  unfold to_c1 at h1
  split at h1
  · rename_i x hx
    split at h1
    · rename_i hgrd
      rw [tb_nrm_eq] at h1
      obtain ⟨V2, g1, g2⟩ := tb_gh_ok hz hcv _ _ _ _ V hG hx
      dsimp only at g1 h1
      rw [← g2]
      subst hm
      exact tb_call_okG hz hA h1 k g1 (vr K x V2 hK hgrd g1 g2)
    · cases h1
  · cases h1
/-- what holds behind a throw -/
noncomputable def tb_QX (D : va_G) (dA : Nat → ClassId) (cl : List vw_C) (sz : Nat) (E : tb_E) (V : sa_V) : String → State → State → Prop := fun x st t => x = sa_NSE ∧ tb_N D dA (va_A (tb_w0 E) sz) cl E V ([], [], []) t.heap ∧ va_F (va_A (tb_w0 E) sz) st t
noncomputable def tb_MetT (l : Launch) (cl : List vw_C) (Ts : List Cond) (Z : tb_Z) (y : MethodName) (cc : ByteArray) (maxL : Nat) (ret : Option FieldType) (fr lc : Nat) (K : tb_K) : Prop :=
  ∀ (D : va_G) (dA : Nat → ClassId) (sz : Nat) (V : sa_V) (E : tb_E), sa_I V K.2.2.2.1 → tb_X E V → tb_z E = Z → tb_mod E = K.2.2.2.2.2 → vx_Met l y (Cond.code y cc maxL ret :: Ts) { frames := fr, cells := 1, slots := 6, locals := lc } (tb_P tb_X0 D dA cl sz E V K) (tb_Q D dA cl sz E V K) (tb_QX D dA cl sz E V) 1 6 (va_A (tb_w0 E) sz)
noncomputable def tb_finT (tp : List Nat) (S : tb_S) : Bool := tp.contains S.1 && (decide (S.2.2.2.2.2.1 ≤ 0) && (decide (S.2.2.2.2.2.2 ≤ 0) && (decide (S.2.2.2.1.2.1 = []) && decide ((S.2.2.1.map sa_cat).sum ≤ 8))))
noncomputable def sa_thr (Ts : List Cond) (own : String) (cc : ByteArray) (pc : Nat) : Prop := ∃ ik ic : Nat, decode cc pc = .ok (.new ik, 3) ∧ decode cc (pc + 3) = .ok (.dup, 1) ∧ decode cc (pc + 4) = .ok (.invokespecial ic, 3) ∧ decode cc (pc + 7) = .ok (.athrow, 1) ∧ Cond.classLink own ik sa_NSE ∈ Ts ∧ ∀ w ∈ vx_at0 own ic sa_NSE sa_nm, w ∈ Ts ∨ w ∈ sa_XW
theorem tb_methodT {l : Launch} (hl : l.stackTraces = false) {Z : tb_Z} {y : MethodName} {cc : ByteArray} {mL : Nat} {ret : Option FieldType} {fr lc : Nat} {K : tb_K} (hy : plainName y.cls = true) (hini : Cond.initialized sa_NSE ∈ sa_Ts) (rets tp : List Nat) (tab : List (Nat × tb_op)) (TS : List (tb_S × tb_l)) (hs : List Nat) (fuel : Nat) (hfr : 6 ≤ fr) (hlc : 100 ≤ lc)
    (hd : ∀ pc ∈ rets, decode cc pc = .ok (tb_ri ret, 1)) (hthr : ∀ pc ∈ tp, sa_thr sa_Ts y.cls cc pc)
    (hops : ∀ (p : Program) (e : Env) (s : State) (m : MethodId) (args : Array Value) (below : List Frame) (meth : Method) (c : Code) (Q : State → Prop) (D : va_G) (dA : Nat → ClassId) (A : Nat → Prop) (n0 : Nat) (V0 : sa_V) (E : tb_E), sa_C p s m args c D dA A mL vwCl sa_Ts cc y.cls → sa_U D vwCl dA s → tb_Ou A s s.heap → tb_z E = Z → tb_mod E = K.2.2.2.2.2 → ∀ q ∈ tab, tb_snd p l e { frames := fr, cells := 1, slots := 6, locals := lc } s m args below meth c Q D dA A mL vwCl n0 V0 E q.1 q.2)
    (hlen : (K.1.map sa_cat).sum ≤ mL) (hrun : tb_chk Z K TS hs (fun pc => tb_as pc tab) (fun S => tb_fin Z rets ret K S || tb_finT tp S) fuel = true) : tb_MetT l vwCl sa_Ts Z y cc mL ret fr lc K := by
  intro D dA sz V E hI hX hz hm
  refine vx_ofW (cc := cc) (maxL := mL) (ret := ret) hy rfl ?_
  intro p e s m args below meth c s₁ B hml hno hv
  obtain ⟨hargs, hsz, ⟨hP, hD0, hwk, hfa, hru, hlo⟩, hU, hXX⟩ := hv
  subst hargs
  have hts0 := atoms_spec (ws := Cond.code y cc mL ret :: sa_Ts) B.pre
  have hts : ∀ w ∈ sa_Ts, w.before (K.1.map (sa_val V)).toArray s = true := fun w hw => hts0 w (List.mem_cons_of_mem _ hw)
  have hown : s.vm.findClass y.cls = some m.cls := findClass_of_methodNamed B.named
  subst hsz
  have hD := hD0.self (sz := s.heap.size)
  have hS : va_S (va_A (tb_w0 E) s.heap.size) s.heap s.heap [] := va_S.rf
  have hl9 := lv_entry (K.1.map (sa_val V)) (n := mL) (by rw [sa_sl_len]; exact hlen)
  rw [sa_args_lv] at hl9
  rw [lg_entry_eq]
  have hC : sa_C p s m (K.1.map (sa_val V)).toArray c D dA (va_A (tb_w0 E) s.heap.size) mL vwCl sa_Ts cc y.cls := ⟨B.exec, B.bytes, hts, hown, hml, hU.1, fun q h => Or.inr h⟩
  obtain ⟨⟨⟨hz1, hz2⟩, hz3⟩, hO2⟩ := id hXX
  have hW := tb_chk_ok (p := p) (l := l) (e := e) (R := { frames := fr, cells := 1, slots := 6, locals := lc }) (s := s) (m := m) (args := (K.1.map (sa_val V)).toArray) (below := below) (meth := meth) (c := c) (Q := vx_MQ below (tb_Q D dA vwCl s.heap.size E V K) (tb_QX D dA vwCl s.heap.size E V) (K.1.map (sa_val V)).toArray s 1 6 (va_A (tb_w0 E) s.heap.size)) (D := D) (dA := dA) (A := va_A (tb_w0 E) s.heap.size) (nL := mL) (cl := vwCl) (V0 := V) (E := E) hz
    (fun n1 V1 q1 q2 pc op h => hops p e s m _ below meth c _ D dA _ _ _ E hC hU hXX hz hm (pc, op) (tb_as_mem h)) (fun n1 V1 S g1 g2 h => by
      rw [Bool.or_eq_true] at h
      rcases h with h | h
      · have hk := tb_fin_ok (s := s) (p := p) (l := l) (e := e) (R := { frames := fr, cells := 1, slots := 6, locals := lc }) (m := m) (args := (K.1.map (sa_val V)).toArray) (below := below) (nL := mL) (mc := 1) (ms := 6) (D := D) (dA := dA) (cl := vwCl) hz B.exec B.bytes B.notSynchronized B.returns rfl hd g1 g2 S h
        intro V2 H locs ls hG
        exact vx_ret (hk V2 H locs ls hG)
      · obtain ⟨pc, lo, st, cs, G, kc, ks⟩ := S
        intro V2 H locs ls hG
        simp only [tb_finT, Bool.and_eq_true, decide_eq_true_eq] at h
        obtain ⟨h1, h2, h3, h5, h4⟩ := h
        have hpc : pc ∈ tp := by simpa using h1
        obtain ⟨ik, ic, d0, d3, d4, d7, hck, hat⟩ := hthr pc hpc
        have hxw : ∀ w ∈ sa_XW, w.before (K.1.map (sa_val V)).toArray s = true := fun w hw => va_Nw.use (sa_XW_on w hw) (hz3 w hw)
        exact vx_throw0 (cls := sa_NSE) (names := sa_nm) B.exec B.bytes hl hown (by decide +kernel) (by decide +kernel) (hts _ hck) (hts _ hini) (fun w hw => (hat w hw).elim (hts w) (hxw w))
          (fun w hw => by
            rcases List.mem_cons.mp hw with rfl | hw
            · rfl
            · rcases List.mem_cons.mp hw with rfl | hw
              · rfl
              · rcases hat w hw with h9 | h9
                · unfold vx_ot; rw [sa_Tg w h9, Bool.or_true]
                · unfold vx_ot; rw [sa_XW_on w h9, Bool.true_or])
          hz1 hz2 hG.2.2.2.2 (by rw [hml]; exact hG.2.1.1) d0 d3 d4 d7 (fun x hx => (hno x hx).elim) (show 2 + 3 < fr by omega) (by
            rw [sa_sum]
            have e9 : (13 * (sa_nm.length + 1) + 42) = 81 := rfl
            rw [e9]
            show (st.map sa_cat).sum + 81 ≤ lc
            have h4 : (st.map sa_cat).sum ≤ 8 := h4
            omega) (show kc + 1 ≤ 1 by omega) (show ks + 6 ≤ 6 by omega) B.notSynchronized (fun t _ t1 t2 => ⟨rfl, by
              obtain ⟨w, n1', n2, n3, n4, n5, n6, n7⟩ := hG.2.2.1
              have h5 : cs.2.1 = [] := h5
              refine ⟨w, n1'.kept (fun k9 q9 hk9 => ?_), n2, n3, n4, fun f hf => absurd hf List.not_mem_nil, fun i r hr _ => n6 i r hr (by rw [h5]; exact List.not_mem_nil), fun x hx => absurd hx List.not_mem_nil⟩
              have hat9 := n1' k9 q9 hk9
              refine t2 _ ?_
              unfold va_at at hat9
              split at hat9
              · exact (Array.getElem?_eq_some_iff.mp hat9).1
              · obtain ⟨r9, -, ob⟩ := hat9
                obtain ⟨cell9, q9, -⟩ := ob
                exact (Array.getElem?_eq_some_iff.mp q9).1, Nat.le_trans hG.2.2.2.2.1 t1, fun q q1 q2 => (t2 q (Nat.lt_of_lt_of_le q1 hG.2.2.2.2.1)).trans (hG.2.2.2.2.2.1 q q1 q2)⟩) (fun z hz => hG.2.2.2.2.2.2 z hz) (show kc + 1 ≤ 1 by omega) (show ks + 6 ≤ 6 by omega)) hrun
  exact hW V s.heap [] _ ⟨⟨hI, Nat.le_refl _, fun _ _ => rfl⟩, hl9, ⟨tb_w0 E, hP, hD, hwk, fun j a κ e0 e9 i h1 h2 h3 _ => by
    have := congrArg Prod.snd (Option.some.inj (h2.symm.trans h3))
    have : e0 = e9 := this
    rw [this], hfa, fun i r hr _ => hru i r hr, hlo⟩, hX, hS⟩
/-- a call that may throw, where the throw is caught -/
noncomputable def to_cX (Z : tb_Z) (mod : List (Nat × Nat × Nat)) (grd : tb_S → Bool) (hp : Nat) (K : tb_K) : tb_op := fun S => match to_cs Z mod grd [K] S with
  | some sts => if tb_wf S.2.2.2.2.1.length S.2.1 [] ([], [], []) = true ∧ K.2.2.2.2.2.all (tb_mi mod) = true then some (sts.map (tb_up 1 6) ++ [(hp, S.2.1, [.inr (.inl (some S.2.2.2.2.1.length))], ([], [], []), S.2.2.2.2.1 ++ [(0, 0)], S.2.2.2.2.2.1 + 1, S.2.2.2.2.2.2 + 6)]) else none
  | none => none
theorem tn_cX {p : Program} {l : Launch} {e : Env} {R : Room} {s : State} {m : MethodId} {args : Array Value} {below : List Frame} {meth : Method} {c : Code} {Q : State → Prop} {D : va_G} {dA : Nat → ClassId} {A : Nat → Prop} {nL : Nat} {cl : List vw_C} {n0 : Nat} {V0 : sa_V} {E : tb_E} {cc : ByteArray} {own : String} (C0 : sa_C p s m args c D dA A nL cl sa_Ts cc own) {Z : tb_Z} {mod : List (Nat × Nat × Nat)} (hz : tb_z E = Z) (hcv : Z.1.all tb_cv = true) (hm : tb_mod E = mod) {pc hp : Nat} {K : tb_K} {y : MethodName} {cy : ByteArray} {mL fr lc idx n maxC maxS : Nat} {ret : Option FieldType} {ci N : Nat} {T : u_T} {xe : ExceptionTableEntry} (hU : sa_U D cl dA s) (hO : tb_Ou A s s.heap) (hM : tb_MetT l cl sa_Ts Z y cy mL ret fr lc K) (hcode : Cond.code y cy mL ret ∈ sa_Ts) (hd : decode cc pc = .ok (.invokevirtual idx, 3)) (w1 : Cond.methodLink own idx y ∈ sa_Ts) (w2 : Cond.instanceMethod y ∈ sa_Ts) (w3 : Cond.selects y.cls y y ∈ sa_Ts) (w4 : Cond.initialized y.cls ∈ sa_Ts) (hcl : cl[ci]? = some (y.cls, T, N)) (hy : sa_arg y n) (hn : K.1.length = n + 1) (hR : fr + 1 ≤ R.frames ∧ 8 + (mL + 11) + lc ≤ R.locals) (hC : maxC + 1 ≤ R.cells) (hS0 : maxS + 6 ≤ R.slots)
    (hsplit : c.exceptionTable.toList = [xe]) (hcov : covers xe pc = true) (hct : xe.catchType ≠ 0) (hlk : Cond.classLink own xe.catchType sa_NSE ∈ sa_Ts) (hhp : xe.handlerPc = hp) : tb_snd p l e R s m args below meth c Q D dA A nL cl n0 V0 E pc (to_cX Z mod (tb_gV Z ci (n + 1) maxC maxS) hp K) := by
  obtain ⟨hx, hb, hts, hown, hml, hK, hA⟩ := C0
  rintro ⟨pc, lo, st, cs, G, kc, ks⟩ sts rfl h k V H locs ls hG
  unfold to_cX at h
  split at h
  · rename_i sts0 hsts0
    dsimp only at h
    split at h
    · rename_i hh
      obtain ⟨hwf, hmi⟩ := hh
      cases h
      refine tb_calls_okG (mc := 1) (ms := 6) (a := #[]) hz hcv hm hA hsts0 (fun S' hS' => k _ (List.mem_append_left _ (List.mem_map.mpr ⟨S', hS', rfl⟩))) hG (fun K9 x V2 hKm hgr hG2 hsv As rest V1 w hst hargs hAl hI1 hX1 hsum hP0 hNw hF => ?_)
      have hK9 : K9 = K := by simpa using hKm
      subst hK9
      unfold tb_gV at hgr
      rw [Bool.and_eq_true, Bool.and_eq_true] at hgr
      obtain ⟨⟨r1, r2⟩, hgr⟩ := hgr
      have r1 : kc ≤ maxC := of_decide_eq_true r1
      have r2 : ks ≤ maxS := of_decide_eq_true r2
      dsimp only at hgr
      split at hgr
      · rename_i b As0 heq
        split at hgr
        · rename_i κ hκ
          split at hgr
          · rename_i o ho
            have ho1 : o.1 = ci := of_decide_eq_true hgr
            have e1 := (sa_take hst (hAl.trans hn)).symm.trans heq
            subst e1
            obtain ⟨j, e9, j1, j2, ⟨fs, rfl, j4⟩, j5⟩ := tb_cell hz hG2.1.1 hG2.2.2.2.1 hNw hκ ho
            rw [ho1] at j2
            have rv := va_recv (D := D) hK hNw.1 hcl j2
            have hrun := vx_runV (p := p) (e := e) (m := m) (below := below) (meth := meth) (c := c) (H := H) (locs := locs) (cells := kc) (slots := ks) (C := y.cls) (bytes := cy) (maxL := mL) (ret := ret) (b := sa_ad V2 b) (As := As0.map (sa_val V2)) (rest := rest.map (sa_val V2)) (n := n) (g := F0 m pc ls (st.map (sa_val V2))) ⟨hx, hb, hml, hown, hts⟩ (hM D dA H.size V1 (tb_al E, w, K9.2.2.2.2.2, tb_z E) hI1 hX1 hz rfl) (cwV n hts (sa_goodV sa_Tg hcode (by intro u hu; simp only [List.mem_cons, List.not_mem_nil, or_false] at hu; rcases hu with rfl | rfl | rfl | rfl <;> assumption)) rfl rfl rfl ⟨rfl, hy⟩ hR) ⟨tb_blind tb_X0_bl, rv, tb_preP hU hargs hP0 (fun U hUH hW => tb_Ou.call hO hG2.2.2.2.2 hF hUH hW)⟩ rfl (by rw [List.length_map]; rw [List.length_cons] at hAl; omega) hG2.2.1.1 (by show st.map (sa_val V2) = _; rw [show st = _ from hst]; exact sa_stk) (lv_room hsum) hd ⟨by omega, by omega⟩
            intro T9 hT9 X9
            rcases hrun T9 hT9 X9 with hret | ⟨q, st₀, t, T', L, Ex, ce, t0, X', hL, e1, e2, ⟨hE, ⟨w', m1, m2, m3, m4, m5, m6, m7⟩, hzz, hkk⟩, hce, hcv9, hcls, stp⟩
            · exact Or.inl hret
            · subst hE
              right
              rw [t0] at hzz hkk
              have hSn : va_S A s.heap T'.heap (locs ++ L) := ⟨Nat.le_trans hG.2.2.2.2.1 (by rw [e1]; exact hzz), fun q h1 h2 => by rw [e1, hkk q (Nat.lt_of_lt_of_le h1 hG.2.2.2.2.1) (fun z => h2 (hF q z))]; exact hG.2.2.2.2.2.1 q h1 h2, fun q hq => by
                rcases List.mem_append.mp hq with h | h
                · exact hG.2.2.2.2.2.2 q h
                · exact hF _ (hL q h)⟩
              have hN9 : tb_N D dA A cl E V ([], [], []) T'.heap := ⟨w', by rw [e1]; exact m1, m2.weaken (fun j q hj hq => hF _ hq), m3, tb_fm_call (E' := (tb_al E, w, K9.2.2.2.2.2, tb_z E)) rfl rfl (by rw [hm]; exact hmi) hNw.2.2.1 hNw.2.2.2.1 m4, fun f hf => absurd hf List.not_mem_nil, fun i r hr _ => m6 i r hr List.not_mem_nil, fun x hx => absurd hx List.not_mem_nil⟩
              have hG9 : tb_G D dA A nL cl n0 V0 E s.heap V lo ([], [], []) G T'.heap (locs ++ L) ls := ⟨hG.1, hG.2.1, hN9, hG.2.2.2.1, hSn⟩
              obtain ⟨g1, -⟩ := tb_G_upd (x := (0, Int64.ofInt 0, fun _ => 0, q)) (b := (0, 0)) (st := []) hG9 hwf ⟨Int.le_refl _, Int.le_refl _⟩ ⟨rfl, fun h => absurd (show (1180591620717411303424 : Int) ≤ 0 from h) (by decide)⟩
              have hWk := k _ (List.mem_append_right _ List.mem_cons_self) _ T'.heap (locs ++ L) ls g1
              have hWk2 : W p l e R s m args below meth c T'.heap (locs ++ L) (kc + 1) (ks + 6) Q (F0 m xe.handlerPc ls [.ref q]) := by
                rw [hhp]
                have e5 : sa_val (sa_upd V G.length (0, Int64.ofInt 0, fun _ => 0, q)) (.inr (.inl (some G.length))) = .ref q := by
                  show Value.ref (sa_ad _ _) = _
                  unfold sa_ad
                  rw [sa_upd_eq]
                have h5 : W p l e R s m args below meth c T'.heap (locs ++ L) (kc + 1) (ks + 6) Q (F0 m hp ls [sa_val (sa_upd V G.length (0, Int64.ofInt 0, fun _ => 0, q)) (.inr (.inl (some G.length)))]) := hWk
                rw [e5] at h5
                exact h5
              have hcast : (Cond.castable sa_NSE sa_NSE).before args s = true := va_Nw.use rfl (hO.1.2 _ (List.mem_cons_self))
              obtain ⟨t2, a1, b1⟩ := sa_caught (pc := pc) (rest := rest.map (sa_val V2)) hown hsplit hcov hct (hts _ hlk) hcast (by rw [e1]; exact hce) hcv9 hcls hWk2 T' rfl X'
              exact ⟨t2, stp.trans a1, b1⟩
          · cases hgr
        · cases hgr
      · cases hgr
    · cases h
  · cases h
/-- a method with a table of its own, that returns -/
noncomputable def tb_MetH (l : Launch) (cl : List vw_C) (Ts : List Cond) (Z : tb_Z) (y : MethodName) (cc : ByteArray) (maxL : Nat) (ret : Option FieldType) (hh : List (Nat × Nat × Nat × Nat)) (fr lc : Nat) (K : tb_K) : Prop :=
  ∀ (D : va_G) (dA : Nat → ClassId) (sz : Nat) (V : sa_V) (E : tb_E), sa_I V K.2.2.2.1 → tb_X E V → tb_z E = Z → tb_mod E = K.2.2.2.2.2 → Met l y (Cond.codeWith y cc maxL ret hh :: Ts) { frames := fr, cells := 1, slots := 6, locals := lc } (tb_P tb_X0 D dA cl sz E V K) (tb_Q D dA cl sz E V K) 1 6 (va_A (tb_w0 E) sz)
end TYT
