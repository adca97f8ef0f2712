section TYA
/-! what a call leaves as it was -/
noncomputable def tb_sv1 (G : sa_B) (mod : List (Nat × Nat × Nat)) (f : tb_f) : Bool := match G[f.1]?, sa_iv G f.2.1 with
  | some b, some i => decide (tb_KB ≤ b.1) && mod.all (fun m => decide (tb_KB + (m.1 : Int) < b.1 ∨ b.2 < tb_KB + (m.1 : Int) ∨ i.2 < (m.2.1 : Int) ∨ (m.2.2 : Int) < i.1))
  | _, _ => false
theorem tb_sv1_ok {A : Nat → Prop} {dA : Nat → ClassId} {E E' : tb_E} {V : sa_V} {G : sa_B} {w w' : va_W} {mod : List (Nat × Nat × Nat)} {f : tb_f} (hE : tb_al E' = tb_al E) (hw0 : tb_w0 E' = w) (hmod : tb_mod E' = mod) (hI : sa_I V G) (hX : tb_X E V) (hD : va_D A w) (hwk : tb_wk dA (tb_al E) (tb_z E).1 w) (hwk' : tb_wk dA (tb_al E) (tb_z E).1 w') (hfm : tb_fm E' w') (hf : tb_fa V w f) (h : tb_sv1 G mod f = true) : tb_fa V w' f := by
  unfold tb_sv1 at h
  split at h
  · rename_i b i hb hi
    rw [Bool.and_eq_true] at h
    obtain ⟨h1, h2⟩ := h
    have h1 := of_decide_eq_true h1
    obtain ⟨g1, g2⟩ := hI.1 _ _ hb
    obtain ⟨q1, q2, -⟩ := tb_iv_ix hI hi
    obtain ⟨j, hj⟩ := hX.2.1 f.1 (by omega)
    obtain ⟨f1, j2, e, f2, f3⟩ := hf
    obtain ⟨k1, e1, -, c2, -⟩ := hwk.2 j _ _ hj
    obtain ⟨k2, e2, -, d2, -⟩ := hwk'.2 j _ _ hj
    have := hD.1 j j2 _ _ c2 f2 rfl
    subst this
    have hee : e1 = e := congrArg Prod.snd (Option.some.inj (c2.symm.trans f2))
    subst hee
    refine ⟨f1, j, e2, d2, ?_⟩
    rw [hfm j _ _ e1 e2 (tb_ix V f.2.1).toNat (by rw [hE]; exact hj) (by rw [hw0]; exact c2) d2 ?_]
    · exact f3
    · rw [hmod]
      cases hm : tb_md mod ((V f.1).1 - tb_KB).toNat (tb_ix V f.2.1).toNat with
      | false => rfl
      | true =>
        exfalso
        obtain ⟨m9, m1, m2⟩ := List.any_eq_true.mp hm
        have m2 := of_decide_eq_true m2
        have m3 := of_decide_eq_true (List.all_eq_true.mp h2 m9 m1)
        omega
  · cases h
noncomputable def tb_mi (mod : List (Nat × Nat × Nat)) (m : Nat × Nat × Nat) : Bool := mod.any (fun m' => decide (m'.1 = m.1 ∧ m'.2.1 ≤ m.2.1 ∧ m.2.2 ≤ m'.2.2))
theorem tb_fm_call {dA : Nat → ClassId} {E E' : tb_E} {w w' : va_W} (hE : tb_al E' = tb_al E) (hw0 : tb_w0 E' = w) (hmod : (tb_mod E').all (tb_mi (tb_mod E)) = true) (hwk : tb_wk dA (tb_al E) (tb_z E).1 w) (h : tb_fm E w) (h' : tb_fm E' w') : tb_fm E w' := by
  intro j a κ e0 e i h1 h2 h3 h4
  obtain ⟨k1, e1, -, c2, -⟩ := hwk.2 j _ _ h1
  have h5 : tb_md (tb_mod E') κ i = false := by
    cases hm : tb_md (tb_mod E') κ i with
    | false => rfl
    | true =>
      exfalso
      obtain ⟨m9, m1, m2⟩ := List.any_eq_true.mp hm
      have m2 := of_decide_eq_true m2
      obtain ⟨m8, m3, m4⟩ := List.any_eq_true.mp (List.all_eq_true.mp hmod m9 m1)
      have m4 := of_decide_eq_true m4
      have : tb_md (tb_mod E) κ i = true := List.any_eq_true.mpr ⟨m8, m3, decide_eq_true (by omega)⟩
      rw [this] at h4
      cases h4
  rw [h' j a κ e1 e i (by rw [hE]; exact h1) (by rw [hw0]; exact c2) h3 h5]
  exact h j a κ e0 e1 i h1 h2 c2 h4
/-! the state behind a call -/
noncomputable def tb_rg (g : Nat → Nat × Int) (Go : sa_B) : List Nat → sa_B → sa_B
  | [], G => G
  | k :: l, G => match Go[k]? with
    | some b => tb_rg g Go l (sa_lw (sa_hi G (g k).1 (b.2 - (g k).2)) (g k).1 (b.1 - (g k).2))
    | none => tb_rg g Go l G
theorem tb_rg_ok {V : sa_V} {g : Nat → Nat × Int} {Go : sa_B} : ∀ (l : List Nat) (G : sa_B), sa_I V G → (∀ k ∈ l, ∀ b, Go[k]? = some b → b.1 ≤ (V (g k).1).1 + (g k).2 ∧ (V (g k).1).1 + (g k).2 ≤ b.2) → sa_I V (tb_rg g Go l G) ∧ (tb_rg g Go l G).length = G.length
  | [], G, h, _ => ⟨h, rfl⟩
  | k :: l, G, h, hb => by
    unfold tb_rg
    split
    · rename_i b hk
      obtain ⟨b1, b2⟩ := hb k List.mem_cons_self b hk
      obtain ⟨r1, r2⟩ := tb_rg_ok l _ (sa_I_lw (s := (g k).1) (z := b.1 - (g k).2) (sa_I_hi (s := (g k).1) (z := b.2 - (g k).2) h (by omega)) (by omega)) (fun k' hk' => hb k' (List.mem_cons_of_mem _ hk'))
      exact ⟨r1, by rw [r2, sa_lw_len, sa_hi_len]⟩
    · exact tb_rg_ok l G h (fun k' hk' => hb k' (List.mem_cons_of_mem _ hk'))
noncomputable def tb_g2 (g : Nat → Nat × Int) (n0 n : Nat) (k : Nat) : Nat × Int := if k < n0 then g k else (n + (k - n0), 0)
noncomputable def tb_sf (g : Nat → Nat × Int) (f : tb_f) : tb_f := ((g f.1).1, sa_sq g f.2.1, sa_sv g f.2.2)
noncomputable def tb_sL (g : Nat → Nat × Int) (l : tb_l) : tb_l := ((tb_sl g l.1).1, l.2 - (tb_sl g l.1).2)
noncomputable def tb_end (K : tb_K) (S : tb_S) (g : Nat → Nat × Int) (rest : List sa_v) (o : tb_O) : tb_S :=
  (S.1 + 3, S.2.1, (match o.1 with | some v => sa_sv (tb_g2 g K.2.2.2.1.length S.2.2.2.2.1.length) v :: rest | none => rest), (S.2.2.2.1.1.filter (tb_sv1 S.2.2.2.2.1 K.2.2.2.2.2) ++ o.2.1.map (tb_sf (tb_g2 g K.2.2.2.1.length S.2.2.2.2.1.length)), [], S.2.2.2.1.2.2 ++ o.2.2.1.map (tb_sL (tb_g2 g K.2.2.2.1.length S.2.2.2.2.1.length))), tb_rg g o.2.2.2 (List.range K.2.2.2.1.length) S.2.2.2.2.1 ++ o.2.2.2.drop K.2.2.2.1.length, S.2.2.2.2.2)
noncomputable def tb_oo (g : Nat → Nat × Int) (o : tb_O) : Bool := (match o.1 with | some v => tb_o0 g v | none => true) && o.2.1.all (fun f => tb_o0 g f.2.2)
noncomputable def tb_cg (Z : tb_Z) (K : tb_K) (S : tb_S) : Nat → Nat × Int := tb_gn K.2.2.2.1.length (tb_sb 1 (tb_bind Z 1 K.1 (S.2.2.1.take K.1.length).reverse K.2.1 S.2.2.2.1.1 S.2.2.2.2.1))
noncomputable def tb_c0g (Z : tb_Z) (mod : List (Nat × Nat × Nat)) (K : tb_K) (S : tb_S) (g : Nat → Nat × Int) : Option (List tb_S) :=
  if K.1.length ≤ S.2.2.1.length ∧ tb_fit Z g K.1 (S.2.2.1.take K.1.length).reverse K.2.1 K.2.2.1 K.2.2.2.1 S.2.2.2.1 S.2.2.2.2.1 = true ∧ S.2.2.2.1.2.1 = [] ∧ K.2.2.2.2.2.all (tb_mi mod) = true ∧ (((S.2.2.1.drop K.1.length).map sa_cat).sum ≤ 8) ∧ tb_wf S.2.2.2.2.1.length S.2.1 (S.2.2.1.drop K.1.length) S.2.2.2.1 = true ∧ K.2.2.2.2.1.all (tb_oo (tb_g2 g K.2.2.2.1.length S.2.2.2.2.1.length)) = true
  then some ((K.2.2.2.2.1.map (tb_end K S g (S.2.2.1.drop K.1.length))).filter (fun S' => S'.2.2.2.2.1.all (fun b => decide (b.1 ≤ b.2)))) else none
noncomputable def tb_c0 (Z : tb_Z) (mod : List (Nat × Nat × Nat)) (K : tb_K) : tb_op := fun S => tb_tab K.2.2.2.1.length 1 (tb_bind Z 1 K.1 (S.2.2.1.take K.1.length).reverse K.2.1 S.2.2.2.1.1 S.2.2.2.2.1) (tb_c0g Z mod K S)
theorem tb_call_ok {p : Program} {l : Launch} {e : Env} {R : Room} {s : State} {m : MethodId} {args : Array Value} {below : List Frame} {meth : Method} {c : Code} {Q : State → Prop} {D : va_G} {dA : Nat → ClassId} {A : Nat → Prop} {nL : Nat} {cl : List vw_C} {n0 : Nat} {V0 : sa_V} {E : tb_E} {Z : tb_Z} {K : tb_K} {pc : Nat} {lo : sa_L} {st : List sa_v} {cs : tb_c} {G : sa_B} {kc ks : Nat} {sts : List tb_S} {V : sa_V} {H : Heap} {locs : List Loc} {ls : Array Slot} {a : Array Value}
    (hz : tb_z E = Z) (hA : ∀ q, s.heap.size ≤ q → A q) (h : tb_c0 Z (tb_mod E) K (pc, lo, st, cs, G, kc, ks) = some sts) (k : ∀ S' ∈ sts, tb_W p l e R s m args below meth c Q D dA A nL cl n0 V0 E S') (hG : tb_G D dA A nL cl n0 V0 E s.heap V lo cs G H locs ls)
    (vr : ∀ (As rest : List sa_v) (V1 : sa_V) (w : va_W), st = As.reverse ++ rest → As.map (sa_val V) = K.1.map (sa_val V1) → As.length = K.1.length → sa_I V1 K.2.2.2.1 → tb_X (tb_al E, w, K.2.2.2.2.2, tb_z E) V1 → ((rest.map (sa_val V)).map (fun v => v.category)).sum ≤ 8 → tb_P0 D dA cl (tb_al E, w, K.2.2.2.2.2, tb_z E) V1 K H → tb_Nw D dA A cl E V cs H w → (∀ q, va_A w H.size q → A q) →
      va_Run p l e R s m args below meth c H locs kc ks 0 0 (F0 m pc ls (st.map (sa_val V))) (rest.map (sa_val V)) (tb_Q D dA cl H.size (tb_al E, w, K.2.2.2.2.2, tb_z E) V1 K a) (va_A w H.size)) :
    W p l e R s m args below meth c H locs kc ks Q (F0 m pc ls (st.map (sa_val V))) := by
  unfold tb_c0 at h
  rw [tb_tab_eq] at h
  change tb_c0g Z (tb_mod E) K (pc, lo, st, cs, G, kc, ks) (tb_cg Z K (pc, lo, st, cs, G, kc, ks)) = some sts at h
  unfold tb_c0g at h
  dsimp only at h
  split at h
  · rename_i hh
    obtain ⟨hlen, f1, f2, f3, f4, f5, f6⟩ := hh
    generalize hg : tb_cg Z K (pc, lo, st, cs, G, kc, ks) = g at h f1 f6
    generalize has : (st.take K.1.length).reverse = As at f1
    generalize hre : st.drop K.1.length = rest at h f4 f5
    cases h
    have hst : st = As.reverse ++ rest := by rw [← has, ← hre, List.reverse_reverse, List.take_append_drop]
    obtain ⟨w, hN⟩ := hG.2.2.1
    have hN : tb_Nw D dA A cl E V cs H w := hN
    obtain ⟨n1, n2, n3, n4, n5, n6, n7⟩ := hN
    have hI := hG.1.1
    have hX := hG.2.2.2.1
    have hg' : g = tb_gn K.2.2.2.1.length (tb_sb 1 (tb_bind Z 1 K.1 (st.take K.1.length).reverse K.2.1 cs.1 G)) := by rw [← hg]; rfl
    have hfit := f1
    rw [hg'] at f1
    obtain ⟨e1, e2, e3, e4, e5⟩ := tb_fit_ok hz hI hX n5 n7 f1
    rw [← hg'] at e1 e2 e3 e4 e5
    have b4 : ∀ j b, K.2.2.2.1[j]? = some b → (g j).1 < G.length := by
      intro j b hj
      unfold tb_fit at hfit
      simp only [Bool.and_eq_true] at hfit
      obtain ⟨b', hb', -⟩ := tb_bkF_ok hfit.2.2.1 j b hj
      exact (List.getElem?_eq_some_iff.mp hb').1
    have hwf := f5
    simp only [tb_wf_old, Bool.and_eq_true, decide_eq_true_eq] at hwf
    obtain ⟨⟨⟨w0, w1⟩, w2⟩, w3⟩ := hwf
    simp only [tb_wfc, Bool.and_eq_true, List.all_eq_true] at w3
    have hF : ∀ q, va_A w H.size q → A q := by
      intro q hq
      rcases hq with ⟨k9, e9, hq⟩ | hq
      · exact n2.2 k9 _ hq
      · exact hA q (Nat.le_trans hG.2.2.2.2.1 hq)
    have hAl : As.length = K.1.length := by
      have := congrArg List.length e3
      rw [List.length_map, List.length_map] at this
      exact this.symm
    have vrun := vr As rest (tb_pl V g) w hst e3.symm hAl e1 e2 (by rw [sa_sum]; exact f4) ⟨n1, n2.weaken (fun _ _ _ _ => trivial), n3, e4, fun i r hr => n6 i r hr (by rw [show cs.2.1 = [] from f2]; exact List.not_mem_nil), e5⟩ ⟨n1, n2, n3, n4, n5, n6, n7⟩ hF
    intro T hT X
    obtain ⟨v, st₀, t, T', L, t0, X', hL, x1, x2, ⟨⟨o, ho, V', hV', hI', hX', hoc, w', m1, m2, m3, m4, m5, m6, m7⟩, hzz, hkk⟩, stp⟩ := vrun T hT X
    rw [t0] at hzz hkk
    obtain ⟨Vn, hVn⟩ : ∃ Vn : sa_V, Vn = (fun j => if j < G.length then V j else V' (K.2.2.2.1.length + (j - G.length))) := ⟨_, rfl⟩
    have vlt : ∀ j, j < G.length → Vn j = V j := fun j hj => by rw [hVn]; exact if_pos hj
    have vge : ∀ j, Vn (G.length + j) = V' (K.2.2.2.1.length + j) := fun j => by
      rw [hVn]
      show (if G.length + j < G.length then _ else _) = _
      rw [if_neg (by omega), show G.length + j - G.length = j by omega]
    have hXn : tb_X E Vn := by
      refine ⟨fun j => ?_, fun j hj => ?_, hX.2.2⟩
      · by_cases hl : j < G.length
        · rw [vlt j hl]; exact hX.1 j
        · have := vge (j - G.length)
          rw [show G.length + (j - G.length) = j by omega] at this
          rw [this]; exact hX'.1 _
      · by_cases hl : j < G.length
        · unfold sa_ad
          rw [vlt j hl] at hj ⊢
          exact hX.2.1 j hj
        · have hh := vge (j - G.length)
          rw [show G.length + (j - G.length) = j by omega] at hh
          unfold sa_ad
          rw [hh] at hj ⊢
          exact hX'.2.1 _ hj
    have hVV : V' = tb_pl Vn (tb_g2 g K.2.2.2.1.length G.length) := by
      funext j
      by_cases hj : j < K.2.2.2.1.length
      · have hj2 := b4 j _ (List.getElem?_eq_getElem hj)
        rw [hV' j hj]
        unfold tb_pl tb_g2
        rw [if_pos hj, vlt _ hj2]
      · unfold tb_pl tb_g2
        rw [if_neg hj]
        show _ = ((Vn (G.length + (j - K.2.2.2.1.length))).1 + 0, Int64.ofInt ((Vn (G.length + (j - K.2.2.2.1.length))).1 + 0), (Vn (G.length + (j - K.2.2.2.1.length))).2.2)
        rw [vge, show K.2.2.2.1.length + (j - K.2.2.2.1.length) = j by omega, Int.add_zero, ← hX'.1 j]
    have agree : ∀ v : sa_v, sa_wfv G.length v = true → sa_val Vn v = sa_val V v := by
      intro v hv
      rcases v with q | (_ | j) | j
      · show Value.int (Int32.ofInt ((Vn q.1).1 + q.2)) = _
        rw [vlt _ (of_decide_eq_true hv)]
        rfl
      · rfl
      · show Value.ref (Vn j).2.2.2 = _
        rw [vlt _ (of_decide_eq_true hv)]
        rfl
      · show Value.long (Vn j).2.1 = _
        rw [vlt _ (of_decide_eq_true hv)]
        rfl
    have hoo := List.all_eq_true.mp f6 o ho
    unfold tb_oo at hoo
    rw [Bool.and_eq_true] at hoo
    have hN' : tb_N D dA A cl E Vn (cs.1.filter (tb_sv1 G K.2.2.2.2.2) ++ o.2.1.map (tb_sf (tb_g2 g K.2.2.2.1.length G.length)), [], cs.2.2 ++ o.2.2.1.map (tb_sL (tb_g2 g K.2.2.2.1.length G.length))) T'.heap := by
      refine ⟨w', by rw [x1]; exact m1, m2.weaken (fun j q hj hq => hF _ hq), m3, tb_fm_call (E' := (tb_al E, w, K.2.2.2.2.2, tb_z E)) rfl rfl f3 n3 n4 m4, fun f hf => ?_, fun i r hr _ => m6 i r hr List.not_mem_nil, fun x hx => ?_⟩
      · rcases List.mem_append.mp hf with hf | hf
        · obtain ⟨q1, q2⟩ := List.mem_filter.mp hf
          have q3 := tb_sv1_ok (E' := (tb_al E, w, K.2.2.2.2.2, tb_z E)) rfl rfl rfl hI hX n2 n3 m3 m4 (n5 f q1) q2
          have q4 := w3.1 f q1
          simp only [tb_wff, Bool.and_eq_true, decide_eq_true_eq] at q4
          unfold tb_fa tb_ix sa_ad at q3 ⊢
          rw [vlt _ q4.1, vlt _ q4.2.1, agree _ q4.2.2]
          exact q3
        · obtain ⟨f9, q1, rfl⟩ := List.mem_map.mp hf
          have q2 := m5 f9 q1
          have q3 := List.all_eq_true.mp hoo.2 f9 q1
          unfold tb_fa at q2 ⊢
          show 0 ≤ tb_ix Vn (sa_sq _ f9.2.1) ∧ tb_at w' (sa_ad Vn (tb_g2 g K.2.2.2.1.length G.length f9.1).1) (tb_ix Vn (sa_sq _ f9.2.1)).toNat (sa_val Vn (sa_sv _ f9.2.2))
          rw [tb_ix_pl, tb_val_pl hXn q3, ← hVV]
          have q4 : sa_ad Vn (tb_g2 g K.2.2.2.1.length G.length f9.1).1 = sa_ad V' f9.1 := by rw [hVV]; rfl
          rw [q4]
          exact q2
      · rcases List.mem_append.mp hx with hx | hx
        · have q1 := n7 x hx
          unfold tb_lo at q1 ⊢
          rw [tb_ev_agree vlt (w3.2 x hx)]
          exact q1
        · obtain ⟨l9, q1, rfl⟩ := List.mem_map.mp hx
          have q2 : tb_ev V' l9.1 ≤ l9.2 := m7 l9 q1
          rw [hVV, tb_sl_ev (by rw [vlt 0 w0]; exact hI.2)] at q2
          show tb_ev Vn (tb_sl (tb_g2 g K.2.2.2.1.length G.length) l9.1).1 ≤ l9.2 - (tb_sl (tb_g2 g K.2.2.2.1.length G.length) l9.1).2
          omega
    have hIV : sa_I Vn G := ⟨fun i b hi => by rw [vlt i (List.getElem?_eq_some_iff.mp hi).1]; exact hI.1 i b hi, by rw [vlt 0 w0]; exact hI.2⟩
    obtain ⟨hrf1, hrf2⟩ := tb_rg_ok (V := Vn) (g := g) (Go := o.2.2.2) (List.range K.2.2.2.1.length) G hIV (fun j hj b hb => by
      have hjl := List.mem_range.mp hj
      have hj2 := b4 j _ (List.getElem?_eq_getElem hjl)
      have h9 := hI'.1 j b hb
      rw [hV' j hjl] at h9
      rw [vlt _ hj2]
      exact h9)
    have hIn : sa_I Vn (tb_rg g o.2.2.2 (List.range K.2.2.2.1.length) G ++ o.2.2.2.drop K.2.2.2.1.length) := by
      refine ⟨fun i b hi => ?_, hIV.2⟩
      by_cases hl : i < G.length
      · rw [List.getElem?_append_left (by rw [hrf2]; exact hl)] at hi
        exact hrf1.1 i b hi
      · rw [List.getElem?_append_right (by rw [hrf2]; omega), hrf2, List.getElem?_drop] at hi
        have h9 := hI'.1 _ b hi
        have e9 : Vn i = V' (K.2.2.2.1.length + (i - G.length)) := by
          have := vge (i - G.length)
          rwa [show G.length + (i - G.length) = i by omega] at this
        rw [e9]
        exact h9
    have hk9 := k (tb_end K (pc, lo, st, cs, G, kc, ks) g rest o) (List.mem_filter.mpr ⟨List.mem_map.mpr ⟨o, ho, rfl⟩, List.all_eq_true.mpr (fun b hb9 => decide_eq_true (by
      obtain ⟨i9, hi9⟩ := List.getElem?_of_mem hb9
      have h9 := hIn.1 i9 b hi9
      omega))⟩)
    have hSn : va_S A s.heap T'.heap (locs ++ L) := ⟨Nat.le_trans hG.2.2.2.2.1 (by rw [x1]; exact hzz), fun q h1 h2 => by rw [x1, hkk q (Nat.lt_of_lt_of_le h1 hG.2.2.2.2.1) (fun z => h2 (hF q z))]; exact hG.2.2.2.2.2.1 q h1 h2, fun q hq => by
      rcases List.mem_append.mp hq with h | h
      · exact hG.2.2.2.2.2.2 q h
      · exact hF _ (hL q h)⟩
    have hlvn : lv_has ls nL (sa_lv Vn lo) := by
      have : sa_lv Vn lo = sa_lv V lo := List.map_congr_left (fun q hq => by rw [agree _ (List.all_eq_true.mp w1 q hq)])
      rw [this]
      exact hG.2.1
    obtain ⟨t2, a1, b1⟩ := hk9 Vn T'.heap (locs ++ L) ls ⟨⟨hIn, by show n0 ≤ (tb_rg g o.2.2.2 (List.range K.2.2.2.1.length) G ++ o.2.2.2.drop K.2.2.2.1.length).length; rw [List.length_append, hrf2]; exact Nat.le_trans hG.1.2.1 (Nat.le_add_right _ _), fun j hj => by rw [vlt j (Nat.lt_of_lt_of_le hj hG.1.2.1)]; exact hG.1.2.2 j hj⟩, hlvn, hN', hXn, hSn⟩ T' rfl (show Stand p l e R s m args below meth c T' (locs ++ L) kc ks from X')
    refine ⟨t2, stp t2 ?_, b1⟩
    have hrs : rest.map (sa_val Vn) = rest.map (sa_val V) := List.map_congr_left (fun v hv => agree v (List.all_eq_true.mp w2 v hv))
    have hstk : (match o.1 with | some v => sa_sv (tb_g2 g K.2.2.2.1.length G.length) v :: rest | none => rest).map (sa_val Vn) = v.toList ++ rest.map (sa_val V) := by
      have hoc := Outcome.returned.inj hoc
      subst hoc
      cases ho1 : o.1 with
      | none => exact hrs
      | some v9 =>
        have q3 := hoo.1
        rw [ho1] at q3
        show sa_val Vn (sa_sv _ v9) :: rest.map (sa_val Vn) = sa_val V' v9 :: rest.map (sa_val V)
        rw [hrs, tb_val_pl hXn q3, ← hVV]
    have a2 : Steps p.tables e below (T'.setTop (F0 m (pc + 3) ls ((match o.1 with | some v => sa_sv (tb_g2 g K.2.2.2.1.length G.length) v :: rest | none => rest).map (sa_val Vn)))) t2 := a1
    rw [hstk] at a2
    exact a2
  · cases h
end TYA
