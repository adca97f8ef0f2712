section SAC2
/-- behind a call -/
theorem sa_call_okF2 {p : Program} {l : Launch} {e : Env} {R : Room} {s : State} {m : MethodId} {args : Array Value} {below : List Frame} {meth : Method} {c : Code} {Q : State → Prop} {D : va_G} {dA : Nat → ClassId} {A : Nat → Prop} {nL : Nat} {cl : List vw_C} {n0 : Nat} {V0 : sa_V} {K : sa_K} {maxC maxS pc : Nat} {lo : sa_L} {st : List sa_v} {cs : List sa_c} {G : sa_B} {kc ks : Nat} {sts : List sa_S} {V : sa_V} {H : Heap} {locs : List Loc} {ls : Array Slot} {a : Array Value}
    (hA : ∀ q, s.heap.size ≤ q → A q) (h : so_call K maxC maxS (pc, lo, st, cs, G, kc, ks) = some sts) (k : ∀ S' ∈ sts, sa_W p l e R s m args below meth c Q D dA A nL cl n0 V0 S') (hG : sa_G D dA A nL cl n0 V0 s.heap V lo cs G H locs ls)
    (vr : ∀ (As rest : List sa_v) (V1 : sa_V), st = As.reverse ++ rest → As.map (sa_val V) = K.1.map (sa_val V1) → As.length = K.1.length → sa_I V1 K.2.2.1 → ((rest.map (sa_val V)).map (fun v => v.category)).sum ≤ 8 → va_P D cl (K.2.1.map (sa_e V1 dA)) H → va_D (fun _ => True) (K.2.1.map (sa_e V1 dA)) → (∀ q, va_A (K.2.1.map (sa_e V1 dA)) H.size q → A q) → kc + K.2.2.2.2.1 ≤ maxC → ks + K.2.2.2.2.2 ≤ maxS →
      va_Run p l e R s m args below meth c H locs kc ks K.2.2.2.2.1 K.2.2.2.2.2 (F0 m pc ls (st.map (sa_val V))) (rest.map (sa_val V)) (sa_Q D dA cl H.size V1 K a) (va_A (K.2.1.map (sa_e V1 dA)) H.size)) :
    W p l e R s m args below meth c H locs kc ks Q (F0 m pc ls (st.map (sa_val V))) := by
  unfold so_call at h
  dsimp only at h
  split at h
  · rename_i hh
    obtain ⟨hlen, hfit⟩ := hh
    generalize hr : sa_rof K (pc, lo, st, cs, G, kc, ks) = r at h hfit
    generalize hC : sa_cof K (pc, lo, st, cs, G, kc, ks) r = isC at h hfit
    generalize has : (st.take K.1.length).reverse = As at hfit
    generalize hre : st.drop K.1.length = rest at h hfit
    simp only [sa_fitK, Bool.and_eq_true, decide_eq_true_eq] at hfit
    obtain ⟨⟨⟨⟨⟨⟨⟨⟨f1, f2⟩, f3⟩, f4⟩, f5⟩, f6⟩, f7⟩, f8⟩, f9⟩ := hfit
    cases h
    have hst : st = As.reverse ++ rest := by rw [← has, ← hre, List.reverse_reverse, List.take_append_drop]
    have hwf := f9
    simp only [sa_wf, Bool.and_eq_true, decide_eq_true_eq] at hwf
    obtain ⟨⟨⟨w0, w1⟩, w2⟩, w3⟩ := hwf
    -- the callee's start
    have b4 : ∀ j b, K.2.2.1[j]? = some b → (sa_sb r j).1 < G.length ∧ b.1 ≤ (sa_pl V (sa_sb r) j).1 ∧ (sa_pl V (sa_sb r) j).1 ≤ b.2 := by
      intro j b hj
      have hjl := (List.getElem?_eq_some_iff.mp hj).1
      have h4 := List.all_eq_true.mp f4 j (List.mem_range.mpr hjl)
      rw [hj] at h4
      split at h4
      · rename_i b1 b' e1 e2
        cases e1
        have h4 := of_decide_eq_true h4
        obtain ⟨g1, g2⟩ := hG.1.1.1 _ _ e2
        refine ⟨(List.getElem?_eq_some_iff.mp e2).1, ?_, ?_⟩
        · show b.1 ≤ (V _).1 + _
          omega
        · show (V _).1 + _ ≤ b.2
          omega
      · cases h4
    have hI1 : sa_I (sa_pl V (sa_sb r)) K.2.2.1 := by
      refine ⟨fun j b hj => (b4 j b hj).2, ?_⟩
      show (V (sa_sb r 0).1).1 + (sa_sb r 0).2 = 0
      rw [f8]
      show (V 0).1 + 0 = 0
      rw [hG.1.1.2]
      rfl
    have hCe : isC.map (fun i => (cs.map (sa_e V dA))[i]?) = (K.2.1.map (sa_e (sa_pl V (sa_sb r)) dA)).map some := by
      have := congrArg (List.map (Option.map (sa_e V dA))) (sa_eql_ok f2)
      rw [List.map_map, List.map_map, List.map_map] at this
      rw [List.map_map]
      refine Eq.trans (List.map_congr_left (fun i _ => ?_)) (this.trans (List.map_congr_left (fun q _ => ?_)))
      · show (cs.map (sa_e V dA))[i]? = Option.map (sa_e V dA) cs[i]?
        rw [List.getElem?_map]
      · show some (sa_e V dA (sa_sc (sa_sb r) q)) = some (sa_e (sa_pl V (sa_sb r)) dA q)
        rw [sa_e_pl]
    have hP1 := hG.2.2.1.sub isC (sa_fm hCe)
    have hD1 := (hG.2.2.2.1.sub isC f3 hCe)
    have hF := va_free (wc := K.2.1.map (sa_e (sa_pl V (sa_sb r)) dA)) hG.2.2.2.1 hG.2.2.2.2 hA isC hCe
    have hargs : As.map (sa_val V) = K.1.map (sa_val (sa_pl V (sa_sb r))) := by
      rw [← f1, List.map_map]
      exact List.map_congr_left (fun v _ => sa_val_pl V _ v)
    have hAl : As.length = K.1.length := by rw [← f1, List.length_map]
    have vrun := vr As rest (sa_pl V (sa_sb r)) hst hargs hAl hI1 (by rw [sa_sum]; exact f5) hP1 (hD1.weaken (fun _ _ _ _ => trivial)) hF f6 f7
    intro T hT X
    obtain ⟨v, st₀, t, T', L, t0, X', hL, e1, e2, ⟨⟨o, ho, V', hV', hI', hoc, hPo, hDo⟩, hz, hkk⟩, stp⟩ := vrun T hT X
    rw [t0] at hz hkk
    obtain ⟨Vn, hVn⟩ : ∃ Vn : sa_V, Vn = (fun j => if j < G.length then V j else V' (K.2.2.1.length + (j - G.length))) := ⟨_, rfl⟩
    have vlt : ∀ j, j < G.length → Vn j = V j := fun j hj => by rw [hVn]; exact if_pos hj
    have vge : ∀ j, Vn (G.length + j) = V' (K.2.2.1.length + j) := fun j => by
      rw [hVn]
      show (if G.length + j < G.length then _ else _) = _
      rw [if_neg (by omega), show G.length + j - G.length = j by omega]
    have hVV : V' = sa_pl Vn (sa_g2 r K.2.2.1.length G.length) := by
      funext j
      by_cases hj : j < K.2.2.1.length
      · have hj2 := (b4 j _ (List.getElem?_eq_getElem hj)).1
        unfold sa_pl sa_g2
        rw [if_pos hj, vlt _ hj2, hV' j hj]
        rfl
      · unfold sa_pl sa_g2
        rw [if_neg hj]
        show _ = ((Vn (G.length + (j - K.2.2.1.length))).1 + 0, (Vn (G.length + (j - K.2.2.1.length))).2)
        rw [vge, show K.2.2.1.length + (j - K.2.2.1.length) = j by omega, Int.add_zero]
    have agree : ∀ v : sa_v, sa_wfv G.length v = true → sa_val Vn v = sa_val V v := by
      intro v hv
      rcases v with q | (_ | j) | j
      · show Value.int (Int32.ofInt ((Vn q.1).1 + q.2)) = _
        rw [vlt _ (of_decide_eq_true hv)]
        rfl
      · rfl
      · show Value.ref (Vn j).2.2.2 = _
        rw [vlt _ (of_decide_eq_true hv)]
        rfl
      · show Value.long (Vn j).2.1 = _
        rw [vlt _ (of_decide_eq_true hv)]
        rfl
    have agreeC : ∀ q : sa_c, sa_wfc G.length q = true → sa_e Vn dA q = sa_e V dA q := by
      intro q hq
      obtain ⟨j, o9 | a9⟩ := q
      · simp only [sa_wfc, Bool.and_eq_true, decide_eq_true_eq, List.all_eq_true] at hq
        show (sa_ad Vn j, Sum.inr (o9.1, o9.2.map (sa_val Vn))) = (sa_ad V j, Sum.inr (o9.1, o9.2.map (sa_val V)))
        unfold sa_ad
        rw [vlt _ hq.1]
        congr 3
        exact List.map_congr_left (fun v hv => agree v (hq.2 v hv))
      · simp only [sa_wfc, Bool.and_eq_true, decide_eq_true_eq] at hq
        have ha : sa_arr Vn a9.2 = sa_arr V a9.2 := by
          obtain ⟨hq1, hq2⟩ := hq
          obtain ⟨t9, l9 | q9 | l9⟩ := a9
          · have hh : ∀ q ∈ l9, q.1 < G.length := fun q hq => of_decide_eq_true (List.all_eq_true.mp hq2 q hq)
            show (l9.length, _) = (l9.length, _)
            congr 2
            funext i
            unfold sa_f
            split
            · rename_i q hq
              unfold sa_i
              rw [vlt _ (hh q (List.mem_of_getElem? hq))]
            · rfl
          · have hh : q9.2 < G.length := of_decide_eq_true hq2
            show (q9.1, _) = (q9.1, _)
            rw [vlt _ hh]
          · have hh : ∀ o ∈ l9, _ := List.all_eq_true.mp hq2
            show (l9.length, _) = (l9.length, _)
            congr 5
            funext i
            unfold sa_g
            rw [List.getD_eq_getElem?_getD]
            cases hj : l9[i]? with
            | none => rfl
            | some o =>
              cases o with
              | none => rfl
              | some k9 =>
                have hk9 : k9 < G.length := of_decide_eq_true (hh _ (List.mem_of_getElem? hj))
                show some (sa_ad _ _) = some (sa_ad _ _)
                unfold sa_ad
                rw [vlt _ hk9]
        show (sa_ad Vn j, Sum.inl (dA a9.1, sa_arr Vn a9.2)) = (sa_ad V j, Sum.inl (dA a9.1, sa_arr V a9.2))
        rw [ha]
        unfold sa_ad
        rw [vlt _ hq.1]
    -- the cells
    have hmemR : ∀ q ∈ (sa_rest cs isC).filterMap (fun i => cs[i]?), sa_wfc G.length q = true := by
      intro q hq
      obtain ⟨i, -, hi⟩ := List.mem_filterMap.mp hq
      exact List.all_eq_true.mp w3 q (List.mem_of_getElem? hi)
    have hRe : (sa_rest cs isC).map (fun i => (cs.map (sa_e V dA))[i]?) = (((sa_rest cs isC).filterMap (fun i => cs[i]?)).map (sa_e Vn dA)).map some := by
      have key : ∀ l : List Nat, (∀ i ∈ l, i < cs.length) → l.map (fun i => cs[i]?) = (l.filterMap (fun i => cs[i]?)).map some := by
        intro l
        induction l with
        | nil => intro _; rfl
        | cons i l ih =>
          intro hl
          have hi := hl i List.mem_cons_self
          rw [List.map_cons, List.filterMap_cons_some (List.getElem?_eq_getElem hi), List.map_cons, ih (fun j hj => hl j (List.mem_cons_of_mem _ hj)), List.getElem?_eq_getElem hi]
      have h1 := key (sa_rest cs isC) (fun i hi => List.mem_range.mp (List.mem_filter.mp hi).1)
      have h2 := congrArg (List.map (Option.map (sa_e V dA))) h1
      rw [List.map_map, List.map_map] at h2
      rw [List.map_map]
      refine Eq.trans (List.map_congr_left (fun i _ => ?_)) (h2.trans (List.map_congr_left (fun q hq => ?_)))
      · show (cs.map (sa_e V dA))[i]? = Option.map (sa_e V dA) cs[i]?
        rw [List.getElem?_map]
      · show some (sa_e V dA q) = some (sa_e Vn dA q)
        rw [agreeC q (hmemR q hq)]
    obtain ⟨hPj, hDj⟩ := va_join (H1 := T'.heap) hG.2.2.1 hG.2.2.2.1 isC (sa_rest cs isC) hCe hRe (sa_nd_filter _ _) (fun i hi hi2 => by
      have := (List.mem_filter.mp hi).2
      simp at this
      exact this hi2) (fun q h1 h2 => by rw [e1]; exact hkk q h1 h2) hF (by rw [← e1] at hPo; exact hPo) hDo
    have hcells : ((sa_rest cs isC).filterMap (fun i => cs[i]?) ++ o.2.1.map (sa_sc (sa_g2 r K.2.2.1.length G.length))).map (sa_e Vn dA) = ((sa_rest cs isC).filterMap (fun i => cs[i]?)).map (sa_e Vn dA) ++ o.2.1.map (sa_e V' dA) := by
      rw [List.map_append, List.map_map]
      congr 1
      apply List.map_congr_left
      intro q _
      rw [hVV]
      exact sa_e_pl Vn _ dA q
    rw [← hcells] at hPj hDj
    -- the bounds
    have hIV : sa_I Vn G := ⟨fun i b hi => by rw [vlt i (List.getElem?_eq_some_iff.mp hi).1]; exact hG.1.1.1 i b hi, by rw [vlt 0 w0]; exact hG.1.1.2⟩
    obtain ⟨hrf1, hrf2⟩ := sa_rf_ok (V := Vn) (r := r) (Go := o.2.2) (List.range K.2.2.1.length) G hIV (fun j hj b hb => by
      have hjl := List.mem_range.mp hj
      have hj2 := (b4 j _ (List.getElem?_eq_getElem hjl)).1
      have h9 := hI'.1 j b hb
      rw [hV' j hjl] at h9
      rw [vlt _ hj2]
      exact h9)
    have hIn : sa_I Vn (sa_rf r o.2.2 (List.range K.2.2.1.length) G ++ o.2.2.drop K.2.2.1.length) := by
      refine ⟨fun i b hi => ?_, hIV.2⟩
      by_cases hl : i < G.length
      · rw [List.getElem?_append_left (by rw [hrf2]; exact hl)] at hi
        exact hrf1.1 i b hi
      · rw [List.getElem?_append_right (by rw [hrf2]; omega), hrf2, List.getElem?_drop] at hi
        have h9 := hI'.1 _ b hi
        have e9 : Vn i = V' (K.2.2.1.length + (i - G.length)) := by
          have := vge (i - G.length)
          rwa [show G.length + (i - G.length) = i by omega] at this
        rw [e9]
        exact h9
    -- the state behind it
    have hk9 := k (sa_end K (pc, lo, st, cs, G, kc, ks) r isC rest o) (List.mem_filter.mpr ⟨List.mem_map.mpr ⟨o, ho, rfl⟩, List.all_eq_true.mpr (fun b hb9 => decide_eq_true (by
      obtain ⟨i9, hi9⟩ := List.getElem?_of_mem hb9
      have h9 := hIn.1 i9 b hi9
      omega))⟩)
    have hSn : va_S A s.heap T'.heap (locs ++ L) := ⟨Nat.le_trans hG.2.2.2.2.1 (by rw [e1]; exact hz), fun q h1 h2 => by rw [e1, hkk q (Nat.lt_of_lt_of_le h1 hG.2.2.2.2.1) (fun z => h2 (hF q z))]; exact hG.2.2.2.2.2.1 q h1 h2, fun q hq => by
      rcases List.mem_append.mp hq with h | h
      · exact hG.2.2.2.2.2.2 q h
      · exact hF _ (hL q h)⟩
    have hlv : sa_lv Vn lo = sa_lv V lo := List.map_congr_left (fun q hq => by rw [agree _ (List.all_eq_true.mp w1 q hq)])
    have hrs : rest.map (sa_val Vn) = rest.map (sa_val V) := List.map_congr_left (fun q hq => agree _ (List.all_eq_true.mp w2 q hq))
    have hWn := hk9 Vn T'.heap (locs ++ L) ls ⟨⟨hIn, by show n0 ≤ (sa_rf r o.2.2 (List.range K.2.2.1.length) G ++ o.2.2.drop K.2.2.1.length).length; rw [List.length_append, hrf2]; exact Nat.le_trans hG.1.2.1 (Nat.le_add_right _ _), fun j hj => by rw [vlt j (Nat.lt_of_lt_of_le hj hG.1.2.1)]; exact hG.1.2.2 j hj⟩, by show lv_has ls nL (sa_lv Vn lo); rw [hlv]; exact hG.2.1, hPj, hDj, hSn⟩
    obtain ⟨t2, a1, b1⟩ := hWn T' rfl X'
    refine ⟨t2, stp t2 ?_, b1⟩
    have hv : v = o.1.map (sa_val V') := Outcome.returned.inj hoc
    have hstk : (match o.1 with | some v => sa_sv (sa_g2 r K.2.2.1.length G.length) v :: rest | none => rest).map (sa_val Vn) = v.toList ++ rest.map (sa_val V) := by
      rw [hv]
      cases o.1 with
      | none => exact hrs
      | some u =>
        show sa_val Vn (sa_sv _ u) :: rest.map (sa_val Vn) = sa_val V' u :: rest.map (sa_val V)
        rw [hrs, sa_val_pl, ← hVV]
    have a2 : Steps p.tables e below (T'.setTop (F0 m (pc + 3) ls ((match o.1 with | some v => sa_sv (sa_g2 r K.2.2.1.length G.length) v :: rest | none => rest).map (sa_val Vn)))) t2 := a1
    rw [hstk] at a2
    exact a2
  · cases h
/-- a call that throws, and is caught here -/
def so_callX2 (ci : Nat) (K : sa_K) (hp maxC maxS : Nat) : sa_op := fun S => match (S.2.2.1.take K.1.length).reverse with
  | .inr (.inl (some a)) :: _ => match sa_find a S.2.2.2.1 0 with
    | some (_, .inl (cj, _)) => if cj = ci ∧ K.1.length ≤ S.2.2.1.length ∧ sa_fitK K S (sa_rof K S) (sa_cof K S (sa_rof K S)) (S.2.2.1.take K.1.length).reverse (S.2.2.1.drop K.1.length) maxC maxS = true then some [(hp, S.2.1, [.inr (.inl (some S.2.2.2.2.1.length))], (sa_rest S.2.2.2.1 (sa_cof K S (sa_rof K S))).filterMap (fun i => S.2.2.2.1[i]?), S.2.2.2.2.1 ++ [(0, 0)], S.2.2.2.2.2.1 + K.2.2.2.2.1, S.2.2.2.2.2.2 + K.2.2.2.2.2)] else none
    | _ => none
  | _ => none
theorem sn_callX2 {p : Program} {l : Launch} {e : Env} {R : Room} {s : State} {m : MethodId} {args : Array Value} {below : List Frame} {meth : Method} {c : Code} {Q : State → Prop} {D : va_G} {dA : Nat → ClassId} {A : Nat → Prop} {nL : Nat} {cl : List vw_C} {n0 : Nat} {V0 : sa_V} {Ts : List Cond} {cc : ByteArray} {own : String} (C0 : sa_C p s m args c D dA A nL cl Ts cc own) {pc : Nat} {K : sa_K} {y : MethodName} {cy : ByteArray} {mL fr lc idx n maxC maxS hp : Nat} {ret : Option FieldType} {ci N : Nat} {T : u_T} {xe : ExceptionTableEntry} (hU : sa_U D cl dA s) (hg : ∀ w ∈ Ts, goodWord w = true) (hM : sa_MetX2 l cl Ts y cy mL ret fr lc K) (hcode : Cond.code y cy mL ret ∈ Ts)
    (hd : decode cc pc = .ok (.invokevirtual idx, 3)) (w1 : Cond.methodLink own idx y ∈ Ts) (w2 : Cond.instanceMethod y ∈ Ts) (w3 : Cond.selects y.cls y y ∈ Ts) (w4 : Cond.initialized y.cls ∈ Ts) (hcl : cl[ci]? = some (y.cls, T, N)) (hy : sa_arg y n) (hn : K.1.length = n + 1) (hR : fr + 1 ≤ R.frames ∧ 8 + (mL + 11) + lc ≤ R.locals) (hC : maxC ≤ R.cells) (hS0 : maxS ≤ R.slots)
    (hZ : sa_ZZ2 A s s.heap) (hsplit : c.exceptionTable.toList = [xe]) (hcov : covers xe pc = true) (hct : xe.catchType ≠ 0) (hlk : Cond.classLink own xe.catchType sa_NSE2 ∈ Ts) (hhp : xe.handlerPc = hp) : sa_snd p l e R s m args below meth c Q D dA A nL cl n0 V0 pc (so_callX2 ci K hp maxC maxS) := by
  obtain ⟨hx, hb, hts, hown, hml, hK, hA⟩ := C0
  rintro ⟨pc, lo, st, cs, G, kc, ks⟩ sts rfl h k V H locs ls hG
  unfold so_callX2 at h
  dsimp only at h
  split at h
  · rename_i b As0 heq
    split at h
    · rename_i j cj fs hj
      split at h
      · rename_i hh
        obtain ⟨hcj, hlen, hfit⟩ := hh
        subst hcj
        generalize hr : sa_rof K (pc, lo, st, cs, G, kc, ks) = r at h hfit
        generalize hC9 : sa_cof K (pc, lo, st, cs, G, kc, ks) r = isC at h hfit
        generalize hre : st.drop K.1.length = rest at hfit
        rw [heq] at hfit
        simp only [sa_fitK, Bool.and_eq_true, decide_eq_true_eq] at hfit
        obtain ⟨⟨⟨⟨⟨⟨⟨⟨f1, f2⟩, f3⟩, f4⟩, f5⟩, f6⟩, f7⟩, f8⟩, f9⟩ := hfit
        cases h
        have hst : st = (.inr (.inl (some b)) :: As0).reverse ++ rest := by rw [← heq, ← hre, List.reverse_reverse, List.take_append_drop]
        have hwf := f9
        simp only [sa_wf, Bool.and_eq_true, decide_eq_true_eq] at hwf
        obtain ⟨⟨⟨wf0, wf1⟩, wf2⟩, wf3⟩ := hwf
        have b4 : ∀ j b, K.2.2.1[j]? = some b → b.1 ≤ (sa_pl V (sa_sb r) j).1 ∧ (sa_pl V (sa_sb r) j).1 ≤ b.2 := by
          intro j b hj
          have hjl := (List.getElem?_eq_some_iff.mp hj).1
          have h4 := List.all_eq_true.mp f4 j (List.mem_range.mpr hjl)
          rw [hj] at h4
          split at h4
          · rename_i b1 b' e1 e2
            cases e1
            have h4 := of_decide_eq_true h4
            obtain ⟨g1, g2⟩ := hG.1.1.1 _ _ e2
            refine ⟨?_, ?_⟩
            · show b.1 ≤ (V _).1 + _
              omega
            · show (V _).1 + _ ≤ b.2
              omega
          · cases h4
        have hI1 : sa_I (sa_pl V (sa_sb r)) K.2.2.1 := by
          refine ⟨b4, ?_⟩
          show (V (sa_sb r 0).1).1 + (sa_sb r 0).2 = 0
          rw [f8]
          show (V 0).1 + 0 = 0
          rw [hG.1.1.2]
          rfl
        have hCe : isC.map (fun i => (cs.map (sa_e V dA))[i]?) = (K.2.1.map (sa_e (sa_pl V (sa_sb r)) dA)).map some := by
          have := congrArg (List.map (Option.map (sa_e V dA))) (sa_eql_ok f2)
          rw [List.map_map, List.map_map, List.map_map] at this
          rw [List.map_map]
          refine Eq.trans (List.map_congr_left (fun i _ => ?_)) (this.trans (List.map_congr_left (fun q _ => ?_)))
          · show (cs.map (sa_e V dA))[i]? = Option.map (sa_e V dA) cs[i]?
            rw [List.getElem?_map]
          · show some (sa_e V dA (sa_sc (sa_sb r) q)) = some (sa_e (sa_pl V (sa_sb r)) dA q)
            rw [sa_e_pl]
        have hP1 := hG.2.2.1.sub isC (sa_fm hCe)
        have hD1 := (hG.2.2.2.1.sub isC f3 hCe)
        have hF := va_free (wc := K.2.1.map (sa_e (sa_pl V (sa_sb r)) dA)) hG.2.2.2.1 hG.2.2.2.2 hA isC hCe
        have hargs : (.inr (.inl (some b)) :: As0 : List sa_v).map (sa_val V) = K.1.map (sa_val (sa_pl V (sa_sb r))) := by
          rw [← f1, List.map_map]
          exact List.map_congr_left (fun v _ => sa_val_pl V _ v)
        have hAl : As0.length = n := by
          have := congrArg List.length f1
          rw [List.length_map, List.length_cons, hn] at this
          omega
        have rv := va_recv (D := D) hK hG.2.2.1 hcl (sa_find_0 (V := V) (dA := dA) hj)
        have hrun := vx_runV (p := p) (e := e) (m := m) (below := below) (meth := meth) (c := c) (H := H) (locs := locs) (cells := kc) (slots := ks) (C := y.cls) (bytes := cy) (maxL := mL) (ret := ret) (b := sa_ad V b) (As := As0.map (sa_val V)) (rest := rest.map (sa_val V)) (n := n) (g := F0 m pc ls (st.map (sa_val V))) ⟨hx, hb, hml, hown, hts⟩ (hM D dA H.size (sa_pl V (sa_sb r)) hI1) (cwV n hts (sa_goodV hg hcode (by intro u hu; simp only [List.mem_cons, List.not_mem_nil, or_false] at hu; rcases hu with rfl | rfl | rfl | rfl <;> assumption)) rfl rfl rfl ⟨rfl, hy⟩ hR)
          ⟨sa_blindX2, rv, fun U hUH hW => ⟨sa_pre hU hargs hP1 (hD1.weaken (fun _ _ _ _ => trivial)) U hUH hW, sa_ZZ2.call hZ hG.2.2.2.2 hF hUH hW⟩⟩ rfl (by rw [List.length_map]; exact hAl) hG.2.1.1 (by show st.map (sa_val V) = _; rw [hst]; exact sa_stk) (lv_room (by rw [sa_sum]; exact f5)) hd ⟨Nat.le_trans f6 hC, Nat.le_trans f7 hS0⟩
        intro T9 hT9 X9
        rcases hrun T9 hT9 X9 with ⟨v, st₀, t, T', L, t0, X', hL, e1, e2, hq, stp⟩ | ⟨q, st₀, t, T', L, E, ce, t0, X', hL, e1, e2, ⟨hE, hz, hkk⟩, hce, hcv, hcls, stp⟩
        · exact hq.elim
        · subst hE
          rw [t0] at hz hkk
          have hmemR : ∀ q ∈ (sa_rest cs isC).filterMap (fun i => cs[i]?), sa_wfc G.length q = true := by
            intro q hq
            obtain ⟨i, -, hi⟩ := List.mem_filterMap.mp hq
            exact List.all_eq_true.mp wf3 q (List.mem_of_getElem? hi)
          have hRe : (sa_rest cs isC).map (fun i => (cs.map (sa_e V dA))[i]?) = (((sa_rest cs isC).filterMap (fun i => cs[i]?)).map (sa_e V dA)).map some := by
            have key : ∀ l : List Nat, (∀ i ∈ l, i < cs.length) → l.map (fun i => cs[i]?) = (l.filterMap (fun i => cs[i]?)).map some := by
              intro l
              induction l with
              | nil => intro _; rfl
              | cons i l ih =>
                intro hl
                have hi := hl i List.mem_cons_self
                rw [List.map_cons, List.filterMap_cons_some (List.getElem?_eq_getElem hi), List.map_cons, ih (fun j hj => hl j (List.mem_cons_of_mem _ hj)), List.getElem?_eq_getElem hi]
            have h1 := key (sa_rest cs isC) (fun i hi => List.mem_range.mp (List.mem_filter.mp hi).1)
            have h2 := congrArg (List.map (Option.map (sa_e V dA))) h1
            rw [List.map_map, List.map_map] at h2
            rw [List.map_map]
            refine Eq.trans (List.map_congr_left (fun i _ => ?_)) h2
            show (cs.map (sa_e V dA))[i]? = Option.map (sa_e V dA) cs[i]?
            rw [List.getElem?_map]
          obtain ⟨hPj, hDj⟩ := va_join (H1 := T'.heap) (w1 := []) hG.2.2.1 hG.2.2.2.1 isC (sa_rest cs isC) hCe hRe (sa_nd_filter _ _) (fun i hi hi2 => by
            have := (List.mem_filter.mp hi).2
            simp at this
            exact this hi2) (fun q h1 h2 => by rw [e1]; exact hkk q h1 h2) hF (fun k q h => by simp at h) ⟨fun i j p q h => by simp at h, fun k q h => by simp at h⟩
          rw [List.append_nil] at hPj hDj
          have hSn : va_S A s.heap T'.heap (locs ++ L) := ⟨Nat.le_trans hG.2.2.2.2.1 (by rw [e1]; exact hz), fun q h1 h2 => by rw [e1, hkk q (Nat.lt_of_lt_of_le h1 hG.2.2.2.2.1) (fun z => h2 (hF q z))]; exact hG.2.2.2.2.2.1 q h1 h2, fun q hq => by
            rcases List.mem_append.mp hq with h | h
            · exact hG.2.2.2.2.2.2 q h
            · exact hF _ (hL q h)⟩
          have hG2 : sa_G D dA A nL cl n0 V0 s.heap V lo ((sa_rest cs isC).filterMap (fun i => cs[i]?)) G T'.heap (locs ++ L) ls := ⟨hG.1, hG.2.1, hPj, hDj, hSn⟩
          have hw9 : sa_wf G.length lo [] ((sa_rest cs isC).filterMap (fun i => cs[i]?)) = true := by
            simp only [sa_wf, Bool.and_eq_true, decide_eq_true_eq]
            exact ⟨⟨⟨wf0, wf1⟩, rfl⟩, List.all_eq_true.mpr hmemR⟩
          obtain ⟨g1, -⟩ := sa_G_upd (x := (0, 0, fun _ => 0, q)) (b := (0, 0)) hG2 hw9 ⟨Int.le_refl _, Int.le_refl _⟩
          have hWk := k _ List.mem_cons_self _ T'.heap (locs ++ L) ls g1
          have hWk2 : W p l e R s m args below meth c T'.heap (locs ++ L) (kc + K.2.2.2.2.1) (ks + K.2.2.2.2.2) Q (F0 m xe.handlerPc ls [.ref q]) := by
            rw [hhp]
            have e5 : sa_val (sa_upd V G.length (0, 0, fun _ => 0, q)) (.inr (.inl (some G.length))) = .ref q := by
              show Value.ref (sa_ad _ _) = _
              unfold sa_ad
              rw [sa_upd_eq]
            have h5 : W p l e R s m args below meth c T'.heap (locs ++ L) (kc + K.2.2.2.2.1) (ks + K.2.2.2.2.2) Q (F0 m hp ls [sa_val (sa_upd V G.length (0, 0, fun _ => 0, q)) (.inr (.inl (some G.length)))]) := hWk
            rw [e5] at h5
            exact h5
          have hcast : (Cond.castable sa_NSE2 sa_NSE2).before args s = true := va_Nw.use rfl (hZ.2 _ (List.mem_cons_self))
          obtain ⟨t2, a1, b1⟩ := sa_caught (pc := pc) (rest := rest.map (sa_val V)) hown hsplit hcov hct (hts _ hlk) hcast (by rw [e1]; exact hce) hcv hcls hWk2 T' rfl X'
          exact ⟨t2, stp.trans a1, b1⟩
      · cases h
    · cases h
  · cases h
/-- a method with a table of its own, that returns -/
def sa_MetH2 (l : Launch) (cl : List vw_C) (Ts : List Cond) (y : MethodName) (cc : ByteArray) (maxL : Nat) (ret : Option FieldType) (hh : List (Nat × Nat × Nat × Nat)) (fr lc : Nat) (K : sa_K) : Prop :=
  ∀ (D : va_G) (dA : Nat → ClassId) (sz : Nat) (V : sa_V), sa_I V K.2.2.1 → Met l y (Cond.codeWith y cc maxL ret hh :: Ts) { frames := fr, cells := K.2.2.2.2.1, slots := K.2.2.2.2.2, locals := lc } (sa_PX2 D dA cl sz V K) (sa_Q D dA cl sz V K) K.2.2.2.2.1 K.2.2.2.2.2 (va_A (K.2.1.map (sa_e V dA)) sz)
theorem sa_methodH2 {l : Launch} {cl : List vw_C} {Ts : List Cond} {y : MethodName} {cc : ByteArray} {mL : Nat} {ret : Option FieldType} {hh : List (Nat × Nat × Nat × Nat)} {fr lc : Nat} {K : sa_K} (hy : plainName y.cls = true) (rets : List Nat) (tab : List (Nat × sa_op)) (fuel : Nat)
    (hd : ∀ pc ∈ rets, decode cc pc = .ok (sa_ri ret, 1))
    (hops : ∀ (p : Program) (e : Env) (s : State) (m : MethodId) (args : Array Value) (below : List Frame) (meth : Method) (c : Code) (Q : State → Prop) (D : va_G) (dA : Nat → ClassId) (A : Nat → Prop) (n0 : Nat) (V0 : sa_V), sa_C p s m args c D dA A mL cl Ts cc y.cls → sa_U D cl dA s → sa_ZZ2 A s s.heap → c.exceptionTable.toList = tableOf hh → ∀ q ∈ tab, sa_snd p l e { frames := fr, cells := K.2.2.2.2.1, slots := K.2.2.2.2.2, locals := lc } s m args below meth c Q D dA A mL cl n0 V0 q.1 q.2)
    (hlen : (K.1.map sa_cat).sum ≤ mL) (hrun : sa_run (fun pc => sa_fd pc tab) (sa_fin rets ret K) fuel (0, sa_args 0 K.1, [], K.2.1, K.2.2.1, 0, 0) = true) : sa_MetH2 l cl Ts y cc mL ret hh fr lc K := by
  intro D dA sz V hI
  refine va_MetW (cc := cc) (maxL := mL) (ret := ret) (hh := hh) hy rfl ?_
  intro p e s m args below meth c s₁ B hml hv
  obtain ⟨⟨hargs, hsz, hP, hU, hD0⟩, hZ⟩ := hv
  subst hargs
  have hts0 := atoms_spec (ws := Cond.codeWith y cc mL ret hh :: Ts) B.pre
  have htab := vx_table (x := y) B (hts0 _ List.mem_cons_self)
  have hown : s.vm.findClass y.cls = some m.cls := findClass_of_methodNamed B.named
  subst hsz
  have hD := hD0.self (sz := s.heap.size)
  have hS : va_S (va_A (K.2.1.map (sa_e V dA)) s.heap.size) s.heap s.heap [] := va_S.rf
  have hl := lv_entry (K.1.map (sa_val V)) (n := mL) (by rw [sa_sl_len]; exact hlen)
  rw [sa_args_lv] at hl
  rw [lg_entry_eq]
  have hC : sa_C p s m (K.1.map (sa_val V)).toArray c D dA (va_A (K.2.1.map (sa_e V dA)) s.heap.size) mL cl Ts cc y.cls := ⟨B.exec, B.bytes, fun w hw => hts0 w (List.mem_cons_of_mem _ hw), hown, hml, hU.1, fun q h => Or.inr h⟩
  have hW := sa_run_ok (p := p) (l := l) (e := e) (R := { frames := fr, cells := K.2.2.2.2.1, slots := K.2.2.2.2.2, locals := lc }) (s := s) (m := m) (args := (K.1.map (sa_val V)).toArray) (below := below) (meth := meth) (c := c) (Q := MQ below (sa_Q D dA cl s.heap.size V K) (K.1.map (sa_val V)).toArray s K.2.2.2.2.1 K.2.2.2.2.2 (va_A (K.2.1.map (sa_e V dA)) s.heap.size)) (D := D) (dA := dA) (A := va_A (K.2.1.map (sa_e V dA)) s.heap.size) (nL := mL) (cl := cl) (n0 := K.2.2.1.length) (V0 := V)
    (fun pc op h => hops p e s m _ below meth c _ D dA _ _ V hC hU hZ htab (pc, op) (sa_fd_mem h)) (fun S _ h => sa_fin_ok B.exec B.bytes B.notSynchronized B.returns rfl hd S h) fuel _ hrun
  exact hW V s.heap [] _ ⟨⟨hI, Nat.le_refl _, fun _ _ => rfl⟩, hl, hP, hD, hS⟩
theorem sn_callSH2 {p : Program} {l : Launch} {e : Env} {R : Room} {s : State} {m : MethodId} {args : Array Value} {below : List Frame} {meth : Method} {c : Code} {Q : State → Prop} {D : va_G} {dA : Nat → ClassId} {A : Nat → Prop} {nL : Nat} {cl : List vw_C} {n0 : Nat} {V0 : sa_V} {Ts : List Cond} {cc : ByteArray} {own : String} (C0 : sa_C p s m args c D dA A nL cl Ts cc own) {pc : Nat} {K : sa_K} {y : MethodName} {cy : ByteArray} {mL fr lc idx n maxC maxS : Nat} {ret : Option FieldType} {hh : List (Nat × Nat × Nat × Nat)} (hU : sa_U D cl dA s) (hZ : sa_ZZ2 A s s.heap) (hg : ∀ w ∈ Ts, goodWord w = true) (hM : sa_MetH2 l cl Ts y cy mL ret hh fr lc K) (hcode : Cond.codeWith y cy mL ret hh ∈ Ts)
    (hd : decode cc pc = .ok (.invokestatic idx, 3)) (w1 : Cond.methodLink own idx y ∈ Ts) (w2 : Cond.static y ∈ Ts) (w4 : Cond.initialized y.cls ∈ Ts) (hy : sa_arg y n) (hn : K.1.length = n) (hR : fr + 1 ≤ R.frames ∧ 8 + (mL + 11) + lc ≤ R.locals) (hC : maxC ≤ R.cells) (hS0 : maxS ≤ R.slots) : sa_snd p l e R s m args below meth c Q D dA A nL cl n0 V0 pc (so_call K maxC maxS) := by
  obtain ⟨hx, hb, hts, hown, hml, hK, hA⟩ := C0
  rintro ⟨pc, lo, st, cs, G, kc, ks⟩ sts rfl h k V H locs ls hG
  refine sa_call_okF2 (a := #[]) hA h k hG (fun As rest V1 hst hargs hAl hI1 hsum hP1 hD1 hF1 hc1 hs1 => ?_)
  exact vx_runSW (bytes := cy) (maxL := mL) (ret := ret) (hh := hh) (As := As.map (sa_val V)) (n := n) ⟨hx, hb, hml, hown, hts⟩ (hM D dA H.size V1 hI1) (vx_cwSW n hts (sa_goodV hg hcode (by intro u hu; simp only [List.mem_cons, List.not_mem_nil, or_false] at hu; rcases hu with rfl | rfl | rfl <;> assumption)) rfl rfl rfl hy hR) ⟨sa_blindX2, fun U hUH hW => ⟨sa_pre hU hargs hP1 hD1 U hUH hW, sa_ZZ2.call hZ hG.2.2.2.2 hF1 hUH hW⟩⟩ rfl (by rw [List.length_map, hAl, hn]) hG.2.1.1 (by show st.map (sa_val V) = _; rw [show st = _ from hst, List.map_append, List.map_reverse]) (lv_room hsum) hd ⟨Nat.le_trans hc1 hC, Nat.le_trans hs1 hS0⟩
end SAC2
