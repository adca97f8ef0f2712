section TYH
theorem tb_room {l : Launch} {y : MethodName} {ws : List Cond} {f f' lc lc' c0 s0 : Nat} {Pc : Array Value → State → Prop} {Qc : Array Value → State → Outcome → State → Prop} {mc ms : Nat} {free : Addr → Prop} (h : Met l y ws { frames := f, cells := c0, slots := s0, locals := lc } Pc Qc mc ms free) (hf : f ≤ f') (hl : lc ≤ lc') : Met l y ws { frames := f', cells := c0, slots := s0, locals := lc' } Pc Qc mc ms free := by
  intro p e ha hc hk s m args below hfr happ hp hk'
  refine h p e ha hc hk s m args below hfr ?_ hp hk'
  unfold Spec.appliesLoose at happ ⊢
  rw [hfr] at happ ⊢
  dsimp only [headSpec] at happ ⊢
  simp only [Bool.and_eq_true] at happ ⊢
  obtain ⟨⟨h1, h2⟩, h3⟩ := happ
  refine ⟨⟨h1, ?_⟩, h3⟩
  unfold State.hasRoom at h2 ⊢
  simp only [Bool.and_eq_true, decide_eq_true_eq] at h2 ⊢
  obtain ⟨⟨⟨⟨a1, a2, a3, a4, a5, a6⟩, a7⟩, a8⟩, a9⟩ := h2
  exact ⟨⟨⟨⟨by omega, by omega, by omega, by omega, by omega, a6⟩, a7⟩, a8⟩, a9⟩
theorem tb_Met_room {l : Launch} {cl : List vw_C} {Ts : List Cond} {Z : tb_Z} {y : MethodName} {cc : ByteArray} {mL : Nat} {ret : Option FieldType} {fr lc fr' lc' : Nat} {K : tb_K} (h : tb_Met l cl Ts Z y cc mL ret fr lc K) (hf : fr ≤ fr') (hl : lc ≤ lc') : tb_Met l cl Ts Z y cc mL ret fr' lc' K := fun D dA sz V E h1 h2 h3 h4 => tb_room (h D dA sz V E h1 h2 h3 h4) hf hl
/-! two contracts side by side -/
noncomputable def tb_gle (G G' : sa_B) : Bool := decide (G.length = G'.length) && (List.range G'.length).all (fun i => match G[i]?, G'[i]? with
  | some b, some b' => decide (b'.1 ≤ b.1 ∧ b.2 ≤ b'.2)
  | _, _ => false)
theorem tb_gle_ok {V : sa_V} {G G' : sa_B} (h : tb_gle G G' = true) (hI : sa_I V G) : sa_I V G' := by
  unfold tb_gle at h
  rw [Bool.and_eq_true] at h
  refine ⟨fun i b' hi => ?_, hI.2⟩
  have h1 := List.all_eq_true.mp h.2 i (List.mem_range.mpr (List.getElem?_eq_some_iff.mp hi).1)
  rw [hi] at h1
  split at h1
  · rename_i b b1 hb hb1
    cases hb1
    have h1 := of_decide_eq_true h1
    have := hI.1 i b hb
    omega
  · cases h1
noncomputable def tb_ole (os os' : List tb_O) : Bool := os.all (fun o => os'.any (fun o' => decide (o.1 = o'.1) && (decide (o.2.1 = o'.2.1) && (decide (o.2.2.1 = o'.2.2.1) && tb_gle o.2.2.2 o'.2.2.2))))
theorem tb_Met_ole {l : Launch} {cl : List vw_C} {Ts : List Cond} {Z : tb_Z} {y : MethodName} {cc : ByteArray} {mL : Nat} {ret : Option FieldType} {fr lc : Nat} {a : List sa_v} {F : List tb_f} {L : List tb_l} {GU GP GV : sa_B} {OU OP OV : List tb_O} {mod : List (Nat × Nat × Nat)} (hP : tb_Met l cl Ts Z y cc mL ret fr lc (a, F, L, GP, OP, mod)) (hV : tb_Met l cl Ts Z y cc mL ret fr lc (a, F, L, GV, OV, mod)) (j : Nat) (n : Int) (h1 : GU[j]? = some (0, n)) (h2 : GP = GU.set j (n, n)) (h3 : GV = GU.set j (0, n - 1)) (h4 : tb_ole OP OU = true) (h5 : tb_ole OV OU = true) : tb_Met l cl Ts Z y cc mL ret fr lc (a, F, L, GU, OU, mod) := by
  intro D dA sz V E hI hX hz hm
  have hj := (List.getElem?_eq_some_iff.mp h1).1
  have key : ∀ (GX : sa_B) (OX : List tb_O), GX.length = GU.length → tb_ole OX OU = true → sa_I V GX → tb_Met l cl Ts Z y cc mL ret fr lc (a, F, L, GX, OX, mod) → Met l y (Cond.code y cc mL ret :: Ts) { frames := fr, cells := 0, slots := 0, locals := lc } (tb_P tb_X0 D dA cl sz E V (a, F, L, GU, OU, mod)) (tb_Q D dA cl sz E V (a, F, L, GU, OU, mod)) 0 0 (va_A (tb_w0 E) sz) := by
    intro GX OX hlen hle hIX hM
    refine MetFree.mono (hM D dA sz V E hIX hX hz hm) (fun _ _ h => h) (fun _ _ _ _ _ h => h) (fun a9 s9 o9 t9 _ hq => ?_)
    obtain ⟨⟨⟨o, ho, V', g1, g2, g3⟩, g4⟩, g5⟩ := hq
    obtain ⟨o', ho', hh⟩ := List.any_eq_true.mp (List.all_eq_true.mp hle o ho)
    simp only [Bool.and_eq_true] at hh
    have e1 := of_decide_eq_true hh.1
    have e2 := of_decide_eq_true hh.2.1
    have e3 := of_decide_eq_true hh.2.2.1
    refine ⟨⟨⟨o', ho', V', fun k hk => g1 k (by show k < GX.length; rw [hlen]; exact hk), tb_gle_ok hh.2.2.2 g2, ?_⟩, g4⟩, g5⟩
    rw [← e1, ← e2, ← e3]
    exact g3
  have h0 := hI.1 j _ h1
  by_cases hn : (V j).1 = n
  · refine key GP OP (by rw [h2, List.length_set]) h4 ?_ hP
    rw [h2]
    refine ⟨fun i b hi => ?_, hI.2⟩
    by_cases hij : i = j
    · subst hij
      rw [List.getElem?_set_self hj] at hi
      cases hi
      exact ⟨by show n ≤ _; omega, by show _ ≤ n; omega⟩
    · rw [List.getElem?_set_ne (Ne.symm hij)] at hi
      exact hI.1 i b hi
  · refine key GV OV (by rw [h3, List.length_set]) h5 ?_ hV
    rw [h3]
    refine ⟨fun i b hi => ?_, hI.2⟩
    by_cases hij : i = j
    · subst hij
      rw [List.getElem?_set_self hj] at hi
      cases hi
      exact ⟨h0.1, by show _ ≤ n - 1; have := h0.2; dsimp only at this; omega⟩
    · rw [List.getElem?_set_ne (Ne.symm hij)] at hi
      exact hI.1 i b hi
/-! the greater of two -/
noncomputable def to_max (maxC maxS : Nat) : tb_op := fun S => match S.2.2.1 with
  | .inl y :: .inl x :: rest => match sa_iv S.2.2.2.2.1 x, sa_iv S.2.2.2.2.1 y with
    | some a, some b => if S.2.2.2.2.2.1 ≤ maxC ∧ S.2.2.2.2.2.2 ≤ maxS ∧ (rest.map sa_cat).sum ≤ 8 then tb_push (S.1 + 3) S.2.1 rest S.2.2.2.1 S.2.2.2.2.1 S.2.2.2.2.2.1 S.2.2.2.2.2.2 (.inr (max a.1 b.1, max a.2 b.2)) else none
    | _, _ => none
  | _ => none
theorem tn_max {p : Program} {l : Launch} {e : Env} {R : Room} {s : State} {m : MethodId} {args : Array Value} {below : List Frame} {meth : Method} {c : Code} {Q : State → Prop} {D : va_G} {dA : Nat → ClassId} {A : Nat → Prop} {nL : Nat} {cl : List vw_C} {n0 : Nat} {V0 : sa_V} {E : tb_E} {Ts : List Cond} {cc : ByteArray} {own : String} (C0 : sa_C p s m args c D dA A nL cl Ts cc own) {pc : Nat} {idx maxC maxS : Nat} (hd : decode cc pc = .ok (.invokestatic idx, 3)) (w1 : Cond.methodLink own idx Lib.Math.max.name ∈ Ts) (w2 : Cond.static Lib.Math.max.name ∈ Ts) (w4 : Cond.initialized "java/lang/Math" ∈ Ts) (w5 : Cond.code Lib.Math.max.name Lib.Math.max.code 2 (some .int) ∈ Ts) (hfr : 1 ≤ R.frames) (hlc : 21 ≤ R.locals) (hC : maxC ≤ R.cells) (hS0 : maxS ≤ R.slots) : tb_snd p l e R s m args below meth c Q D dA A nL cl n0 V0 E pc (to_max maxC maxS) := by
  obtain ⟨hx, hb, hts, hown, hml, hK, hA⟩ := C0
  rintro ⟨pc, lo, st, cs, G, kc, ks⟩ sts rfl h k V H locs ls hG
  unfold to_max at h
  dsimp only at h
  split at h
  · rename_i y x rest
    split at h
    · rename_i a b ha hb9
      split at h
      · rename_i hh
        obtain ⟨h1, h2, h3⟩ := hh
        obtain ⟨e1, l1, u1⟩ := sa_iv_ok hG.1.1 ha
        obtain ⟨e2, l2, u2⟩ := sa_iv_ok hG.1.1 hb9
        refine va_mmax hx hb (by rw [hml]; exact hG.2.1.1.symm) hown (hts _ w1) (hts _ w2) (hts _ w4) (hts _ w5) hfr (by rw [sa_sum]; omega) (Nat.le_trans h1 hC) (Nat.le_trans h2 hS0) hd (tb_push_ok hG ?_ h k)
        split
        · rename_i hlt
          rw [Int32.lt_iff_toInt_lt] at hlt
          exact ⟨by show max _ _ ≤ _; omega, by show _ ≤ max _ _; omega⟩
        · rename_i hlt
          rw [Int32.lt_iff_toInt_lt] at hlt
          exact ⟨by show max _ _ ≤ _; omega, by show _ ≤ max _ _; omega⟩
      · cases h
    · cases h
  · cases h
/-! many slots of one cell changed -/
theorem tm_at {A : Nat → Prop} {w : va_W} (hD : va_D A w) {j a : Nat} {e e' : va_E} {P : Nat → Prop} (hj : w[j]? = some (a, e)) (hr : ∀ i', ¬ P i' → tb_rd e' i' = tb_rd e i') {a' i' : Nat} {v : Value} (hne : ¬ (a' = a ∧ P i')) : tb_at (w.set j (a, e')) a' i' v ↔ tb_at w a' i' v := by
  have hl := (List.getElem?_eq_some_iff.mp hj).1
  constructor
  · rintro ⟨j', e9, h1, h2⟩
    by_cases hjj : j' = j
    · subst hjj
      rw [List.getElem?_set_self hl] at h1
      have h3 := Option.some.inj h1
      have h4 : a = a' := congrArg Prod.fst h3
      have h5 : e' = e9 := congrArg Prod.snd h3
      subst h4 h5
      rw [hr _ (fun z => hne ⟨rfl, z⟩)] at h2
      exact ⟨j', e, hj, h2⟩
    · rw [List.getElem?_set_ne (Ne.symm hjj)] at h1
      exact ⟨j', e9, h1, h2⟩
  · rintro ⟨j', e9, h1, h2⟩
    by_cases hjj : j' = j
    · subst hjj
      have h3 := Option.some.inj (hj.symm.trans h1)
      have h4 : a = a' := congrArg Prod.fst h3
      have h5 : e = e9 := congrArg Prod.snd h3
      subst h4 h5
      refine ⟨j', e', List.getElem?_set_self hl, ?_⟩
      rw [hr _ (fun z => hne ⟨rfl, z⟩)]
      exact h2
    · exact ⟨j', e9, by rw [List.getElem?_set_ne (Ne.symm hjj)]; exact h1, h2⟩
theorem tm_wk {dA : Nat → ClassId} {al : List (Nat × Nat)} {KT : List tb_kd} {w : va_W} (h : tb_wk dA al KT w) {j a κ : Nat} {e e' : va_E} {P : Nat → Prop} {kd : tb_kd} (hj : w[j]? = some (a, e)) (hal : al[j]? = some (a, κ)) (hk : KT[κ]? = some kd) (hr : ∀ i', ¬ P i' → tb_rd e' i' = tb_rd e i') (hs : tb_sh dA kd e') (ht : ∀ i t, P i → tb_ty kd i = some t → ∃ v, tb_rd e' i = some v ∧ tb_vt al t v) (hPd : ∀ i, P i ∨ ¬ P i) : tb_wk dA al KT (w.set j (a, e')) := by
  refine ⟨by rw [List.length_set]; exact h.1, fun j' a' κ' hj' => ?_⟩
  obtain ⟨k, e9, h1, h2, h3⟩ := h.2 j' a' κ' hj'
  by_cases hjj : j' = j
  · subst hjj
    have h4 := Option.some.inj (hal.symm.trans hj')
    have h5 : a = a' := congrArg Prod.fst h4
    have h6 : κ = κ' := congrArg Prod.snd h4
    subst h5 h6
    rw [hk] at h1
    cases h1
    have h7 := Option.some.inj (hj.symm.trans h2)
    have h8 : e = e9 := congrArg Prod.snd h7
    subst h8
    refine ⟨kd, e', hk, List.getElem?_set_self (List.getElem?_eq_some_iff.mp hj).1, hs, fun i' t hti => ?_⟩
    rcases hPd i' with hii | hii
    · exact ht i' t hii hti
    · obtain ⟨v, g1, g2⟩ := h3.2 i' t hti
      exact ⟨v, by rw [hr _ hii]; exact g1, g2⟩
  · exact ⟨k, e9, h1, by rw [List.getElem?_set_ne (Ne.symm hjj)]; exact h2, h3⟩
theorem tm_fm {E : tb_E} {w : va_W} (h : tb_fm E w) {j a κ : Nat} {e e' : va_E} {P : Nat → Prop} (hj : w[j]? = some (a, e)) (hal : (tb_al E)[j]? = some (a, κ)) (hr : ∀ i', ¬ P i' → tb_rd e' i' = tb_rd e i') (hm : ∀ i, P i → tb_md (tb_mod E) κ i = true) : tb_fm E (w.set j (a, e')) := by
  intro j' a' κ' e0 e9 i' h1 h2 h3 h4
  by_cases hjj : j' = j
  · subst hjj
    have g4 := Option.some.inj (hal.symm.trans h1)
    have g5 : a = a' := congrArg Prod.fst g4
    have g6 : κ = κ' := congrArg Prod.snd g4
    subst g5 g6
    rw [List.getElem?_set_self (List.getElem?_eq_some_iff.mp hj).1] at h3
    have g7 : e' = e9 := congrArg Prod.snd (Option.some.inj h3)
    subst g7
    have hii : ¬ P i' := fun z => by rw [hm i' z] at h4; cases h4
    rw [hr _ hii]
    exact h j' a κ e0 e i' h1 h2 hj h4
  · rw [List.getElem?_set_ne (Ne.symm hjj)] at h3
    exact h j' a' κ' e0 e9 i' h1 h2 h3 h4
theorem tm_rh {E : tb_E} {A : Nat → Prop} {w : va_W} (hD : va_D A w) {j a κ : Nat} {e e' : va_E} {P : Nat → Prop} (hwk : ∀ (j a κ : Nat), (tb_al E)[j]? = some (a, κ) → ∃ e, w[j]? = some (a, e)) (hj : w[j]? = some (a, e)) (hal : (tb_al E)[j]? = some (a, κ)) (hr : ∀ i', ¬ P i' → tb_rd e' i' = tb_rd e i') {ru : tb_ru} (h : tb_rh (tb_al E) w ru) (hc : ∀ p ∈ ru.2 :: ru.1, ¬ (p.1 = κ ∧ P p.2.1)) : tb_rh (tb_al E) (w.set j (a, e')) ru := by
  have key : ∀ p : tb_p, ¬ (p.1 = κ ∧ P p.2.1) → (tb_in (tb_al E) (w.set j (a, e')) p ↔ tb_in (tb_al E) w p) := by
    intro p hne
    have h0 : ∀ j' a' : Nat, (tb_al E)[j']? = some (a', p.1) → ¬ (a' = a ∧ P p.2.1) := by
      rintro j' a' h1 ⟨rfl, h3⟩
      obtain ⟨e9, h4⟩ := hwk j' a' _ h1
      have := hD.1 j' j _ _ h4 hj rfl
      subst this
      exact hne ⟨congrArg Prod.snd (Option.some.inj (h1.symm.trans hal)), h3⟩
    constructor
    · rintro ⟨j', a', x, h1, h2, h3⟩
      exact ⟨j', a', x, h1, (tm_at hD hj hr (h0 j' a' h1)).mp h2, h3⟩
    · rintro ⟨j', a', x, h1, h2, h3⟩
      exact ⟨j', a', x, h1, (tm_at hD hj hr (h0 j' a' h1)).mpr h2, h3⟩
  intro hpp
  exact (key ru.2 (hc _ List.mem_cons_self)).mpr (h (fun p hpm => (key p (hc p (List.mem_cons_of_mem _ hpm))).mp (hpp p hpm)))
theorem tb_vt_mono {al : List (Nat × Nat)} {t t' : tb_t} {v : Value} (h : tb_vt al t v) (h1 : t.1 = t'.1) (h2 : t'.2.1 ≤ t.2.1) (h3 : t.2.2 ≤ t'.2.2) : tb_vt al t' v := by
  obtain ⟨a, b, c⟩ := t
  obtain ⟨a', b', c'⟩ := t'
  dsimp only at h1 h2 h3
  subst h1
  unfold tb_vt at h ⊢
  dsimp only at h ⊢
  split at h
  · omega
  · omega
  · obtain ⟨j, κ, g1, g2, g3⟩ := h
    exact ⟨j, κ, g1, by omega, by omega⟩
  · exact h.elim
/-- all of a row looked at -/
noncomputable def tb_lda0 (Z : tb_Z) (lo : sa_L) (st : List sa_v) (k : Nat) : Nat → Nat → tb_c × sa_B → Option (tb_c × sa_B)
  | 0, _, x => some x
  | n + 1, i, x => if tb_wf x.2.length lo st x.1 = true then match tb_load Z [] x.1 x.2 k (0, (i : Int)) with
    | some y => tb_lda0 Z lo st k n (i + 1) y.2
    | none => none
    else none
theorem tb_lda0_ok {D : va_G} {dA : Nat → ClassId} {A : Nat → Prop} {nL : Nat} {cl : List vw_C} {n0 : Nat} {V0 : sa_V} {E : tb_E} {H0 : Heap} {lo : sa_L} {st : List sa_v} {k : Nat} {H : Heap} {locs : List Loc} {ls : Array Slot} {Z : tb_Z} (hz : tb_z E = Z) (hcv : Z.1.all tb_cv = true) : ∀ (n i : Nat) (x y : tb_c × sa_B) (V : sa_V), tb_G D dA A nL cl n0 V0 E H0 V lo x.1 x.2 H locs ls → tb_lda0 Z lo st k n i x = some y → ∃ V' : sa_V, tb_G D dA A nL cl n0 V0 E H0 V' lo y.1 y.2 H locs ls ∧ st.map (sa_val V') = st.map (sa_val V)
  | 0, _, x, y, V, hG, h => by cases h; exact ⟨V, hG, rfl⟩
  | n + 1, i, x, y, V, hG, h => by
    unfold tb_lda0 at h
    split at h
    · rename_i hw
      split at h
      · rename_i z hl
        obtain ⟨V1, g1, g2⟩ := tb_load_sil hz hcv hG hw (show _ = some (z.1, z.2.1, z.2.2) from hl)
        obtain ⟨V2, g3, g4⟩ := tb_lda0_ok hz hcv n (i + 1) z.2 y V1 g1 h
        exact ⟨V2, g3, g4.trans g2⟩
      · cases h
    · cases h
noncomputable def tb_lda (Z : tb_Z) (d n : Nat) : tb_op := fun S => match S.2.2.1[d]? with
  | some (.inr (.inl (some k))) => match tb_lda0 Z S.2.1 S.2.2.1 k n 0 (S.2.2.2.1, S.2.2.2.2.1) with
    | some y => some [(S.1, S.2.1, S.2.2.1, y.1, y.2, S.2.2.2.2.2)]
    | none => none
  | _ => none
theorem tn_lda {p : Program} {l : Launch} {e : Env} {R : Room} {s : State} {m : MethodId} {args : Array Value} {below : List Frame} {meth : Method} {c : Code} {Q : State → Prop} {D : va_G} {dA : Nat → ClassId} {A : Nat → Prop} {nL : Nat} {cl : List vw_C} {n0 : Nat} {V0 : sa_V} {E : tb_E} {Z : tb_Z} {d n : Nat} (hz : tb_z E = Z) (hcv : Z.1.all tb_cv = true) : tb_sil p l e R s m args below meth c Q D dA A nL cl n0 V0 E (tb_lda Z d n) := by
  rintro ⟨pc, lo, st, cs, G, kc, ks⟩ sts h k V H locs ls hG
  unfold tb_lda at h
  dsimp only at h
  split at h
  · split at h
    · rename_i y hy
      cases h
      obtain ⟨V', g1, g2⟩ := tb_lda0_ok hz hcv _ _ _ y V hG hy
      have h9 := k _ List.mem_cons_self V' H locs ls g1
      dsimp only at h9
      rw [g2] at h9
      exact h9
    · cases h
  · cases h
noncomputable def tb_cf (Z : tb_Z) (G : sa_B) (F : List tb_f) (k0 k1 : Nat) : Nat → Nat → List tb_f
  | 0, _ => []
  | n + 1, i => match tb_fact Z G k0 (0, (i : Int)) F with
    | some v => (k1, (0, (i : Int)), v) :: tb_cf Z G F k0 k1 n (i + 1)
    | none => tb_cf Z G F k0 k1 n (i + 1)
theorem tb_cf_in {Z : tb_Z} {G : sa_B} {F : List tb_f} {k0 k1 : Nat} {f : tb_f} : ∀ {n i : Nat}, f ∈ tb_cf Z G F k0 k1 n i → ∃ (i' : Nat) (v : sa_v), i ≤ i' ∧ i' < i + n ∧ f = (k1, (0, (i' : Int)), v) ∧ tb_fact Z G k0 (0, (i' : Int)) F = some v
  | 0, _, h => by cases h
  | n + 1, i, h => by
    unfold tb_cf at h
    split at h
    · rename_i v hv
      rcases List.mem_cons.mp h with rfl | h
      · exact ⟨i, v, Nat.le_refl _, by omega, rfl, hv⟩
      · obtain ⟨i', v', h1, h2, h3⟩ := tb_cf_in h
        exact ⟨i', v', by omega, by omega, h3⟩
    · obtain ⟨i', v', h1, h2, h3⟩ := tb_cf_in h
      exact ⟨i', v', by omega, by omega, h3⟩
noncomputable def tb_tch (RT : tb_RT) (κ : Nat) : Nat → List Nat
  | 0 => []
  | n + 1 => tb_a2 RT κ n ++ tb_tch RT κ n
theorem tb_tch_in {RT : tb_RT} {κ i r : Nat} (h : r ∈ tb_a2 RT κ i) : ∀ {n : Nat}, i < n → r ∈ tb_tch RT κ n
  | 0, hi => by omega
  | n + 1, hi => by
    unfold tb_tch
    by_cases hin : i = n
    · subst hin
      exact List.mem_append_left _ h
    · exact List.mem_append_right _ (tb_tch_in h (by omega))
noncomputable def tb_ckp (G : sa_B) (m : Int) (k1 : Nat) (f : tb_f) : Bool := (match sa_iv G f.2.1 with
  | some i => decide (m ≤ i.1)
  | none => false) || tb_kdis G f.1 k1
noncomputable def tb_cpc (Z : tb_Z) (RT : tb_RT) (dl : List (Nat × Nat × Int)) (cs : tb_c) (G : sa_B) (b : Int × Int) (κ1 k0 k1 : Nat) : Option tb_c := match tb_an RT κ1 0 (b.2.toNat - 1) with
  | false => some (cs.1.filter (tb_ckp G b.2 k1), cs.2)
  | true => if b.1 = b.2 then some (cs.1.filter (tb_ckp G b.2 k1) ++ tb_cf Z G cs.1 k0 k1 b.2.toNat 0, (tb_tch RT κ1 b.2.toNat ++ cs.2.1).filter (fun r => !(tb_rok Z G (cs.1.filter (tb_ckp G b.2 k1) ++ tb_cf Z G cs.1 k0 k1 b.2.toNat 0) (tb_tch RT κ1 b.2.toNat ++ cs.2.1) dl r)), cs.2.2) else none
noncomputable def tb_cty (kd0 kd1 : tb_kd) (m : Nat) : Bool := decide (¬ tb_tys kd0 0 m = []) && (decide (¬ tb_tys kd1 0 m = []) && (tb_tys kd0 0 m).all (fun t0 => (tb_tys kd1 0 m).all (fun t1 => decide (t0.1 = t1.1 ∧ t1.2.1 ≤ t0.2.1 ∧ t0.2.2 ≤ t1.2.2))))
theorem tb_cp_ok {D : va_G} {dA : Nat → ClassId} {A : Nat → Prop} {cl : List vw_C} {E : tb_E} {V : sa_V} {cs cs' : tb_c} {G : sa_B} {H H1 : Heap} {Z : tb_Z} {RT : tb_RT} {mod : List (Nat × Nat × Nat)} {dl : List (Nat × Nat × Int)} {k0 k1 κ0 κ1 : Nat} {w : va_W} {j0 j1 : Nat} {e0 e1 e' : va_E} {kd0 kd1 : tb_kd} {b : Int × Int} {m : Nat}
    (hz : tb_z E = Z) (hcv : Z.1.all tb_cv = true) (hrt : tb_rtok Z RT = true) (hm : tb_mod E = mod) (hI : sa_I V G) (hX : tb_X E V) (hN : tb_Nw D dA A cl E V cs H w) (h : tb_cpc Z RT dl cs G b κ1 k0 k1 = some cs') (hkd0 : Z.1[κ0]? = some kd0) (hkd1 : Z.1[κ1]? = some kd1) (hal0 : (tb_al E)[j0]? = some (sa_ad V k0, κ0)) (hal1 : (tb_al E)[j1]? = some (sa_ad V k1, κ1)) (hj0 : w[j0]? = some (sa_ad V k0, e0)) (hj1 : w[j1]? = some (sa_ad V k1, e1)) (hc0 : tb_ck dA (tb_al E) kd0 e0) (hs : tb_sh dA kd1 e') (hmb : b.1 ≤ (m : Int) ∧ (m : Int) ≤ b.2) (hb1 : 1 ≤ b.2) (hty : tb_cty kd0 kd1 (b.2.toNat - 1) = true) (hmod : mod.any (fun q => decide (q.1 = κ1 ∧ q.2.1 = 0 ∧ b.2.toNat - 1 ≤ q.2.2)) = true)
    (hr : ∀ i', tb_rd e' i' = if i' < m then tb_rd e0 i' else tb_rd e1 i') (hP : va_P D cl (w.set j1 (sa_ad V k1, e')) H1) (hD : va_D A (w.set j1 (sa_ad V k1, e'))) : tb_N D dA A cl E V cs' H1 := by
  obtain ⟨n1, n2, n3, n4, n5, n6, n7⟩ := hN
  have hr' : ∀ i', ¬ i' < m → tb_rd e' i' = tb_rd e1 i' := fun i' hi => by rw [hr, if_neg hi]
  unfold tb_cty at hty
  rw [Bool.and_eq_true, Bool.and_eq_true] at hty
  have t1 := of_decide_eq_true hty.1
  have t2 := of_decide_eq_true hty.2.1
  have hW3 := tm_wk n3 hj1 hal1 (by rw [hz]; exact hkd1) hr' hs (fun i t hi ht => by
    obtain ⟨t0, g1, g2⟩ := tb_tys_in (k := kd0) (a := 0) (b := b.2.toNat - 1) (i := i) (Nat.zero_le _) (by omega) (List.all_eq_true.mp hcv kd0 (List.mem_of_getElem? hkd0)) t1
    obtain ⟨t', g3, g4⟩ := tb_tys_in (k := kd1) (a := 0) (b := b.2.toNat - 1) (i := i) (Nat.zero_le _) (by omega) (List.all_eq_true.mp hcv kd1 (List.mem_of_getElem? hkd1)) t2
    rw [ht] at g4
    cases g4
    obtain ⟨v, g5, g6⟩ := hc0.2 i t0 g2
    have g7 := of_decide_eq_true (List.all_eq_true.mp (List.all_eq_true.mp hty.2.2 t0 g1) t g3)
    exact ⟨v, by rw [hr, if_pos hi]; exact g5, tb_vt_mono g6 g7.1 g7.2.1 g7.2.2⟩) (fun i => Nat.lt_or_ge i m |>.imp id (fun h => Nat.not_lt.mpr h))
  have hW4 := tm_fm n4 hj1 hal1 hr' (fun i hi => by
    obtain ⟨q, g1, g2⟩ := List.any_eq_true.mp hmod
    have g2 := of_decide_eq_true g2
    rw [hm]
    exact List.any_eq_true.mpr ⟨q, g1, decide_eq_true ⟨g2.1, by omega, by omega⟩⟩)
  have hwk : ∀ (j a κ : Nat), (tb_al E)[j]? = some (a, κ) → ∃ e, w[j]? = some (a, e) := fun j a κ hj => by
    obtain ⟨k9, e9, g1, g2, g3⟩ := n3.2 j a κ hj
    exact ⟨e9, g2⟩
  have hF1 : ∀ f ∈ cs.1.filter (tb_ckp G b.2 k1), tb_fa V (w.set j1 (sa_ad V k1, e')) f := by
    intro f hf
    obtain ⟨f1, f2⟩ := List.mem_filter.mp hf
    obtain ⟨f3, f4⟩ := n5 f f1
    refine ⟨f3, (tm_at n2 hj1 hr' ?_).mpr f4⟩
    rintro ⟨z1, z2⟩
    unfold tb_ckp at f2
    rw [Bool.or_eq_true] at f2
    rcases f2 with f2 | f2
    · split at f2
      · rename_i i hi
        have f2 := of_decide_eq_true f2
        have := tb_iv_ix hI hi
        omega
      · cases f2
    · unfold tb_kdis at f2
      split at f2
      · rename_i b1 b2 hb1 hb2
        have f2 := of_decide_eq_true f2
        obtain ⟨x1, x2⟩ := hI.1 _ _ hb1
        obtain ⟨y1, y2⟩ := hI.1 _ _ hb2
        obtain ⟨i1, g1⟩ := hX.2.1 f.1 (by omega)
        obtain ⟨i2, g2⟩ := hX.2.1 k1 (by omega)
        obtain ⟨e3, g3⟩ := hwk _ _ _ g1
        obtain ⟨e4, g4⟩ := hwk _ _ _ g2
        have := n2.1 i1 i2 _ _ g3 g4 z1
        subst this
        have := congrArg Prod.snd (Option.some.inj (g1.symm.trans g2))
        have : ((V f.1).1 - tb_KB).toNat = ((V k1).1 - tb_KB).toNat := this
        omega
      · cases f2
  unfold tb_cpc at h
  split at h
  · rename_i hn
    cases h
    refine ⟨_, hP, hD, hW3, hW4, hF1, fun r ru hru hrs => ?_, n7⟩
    refine tm_rh n2 hwk hj1 hal1 hr' (n6 r ru hru hrs) ?_
    rintro p hp ⟨z1, z2⟩
    have := tb_rtok_in hrt (by rw [← hz]; exact hru) hp
    rw [z1] at this
    exact tb_an_not hn (Nat.zero_le _) (by omega) r this
  · split at h
    · rename_i hbb
      cases h
      have hmm : m = b.2.toNat := by omega
      have hF : ∀ f ∈ cs.1.filter (tb_ckp G b.2 k1) ++ tb_cf Z G cs.1 k0 k1 b.2.toNat 0, tb_fa V (w.set j1 (sa_ad V k1, e')) f := by
        intro f hf
        rcases List.mem_append.mp hf with hf | hf
        · exact hF1 f hf
        · obtain ⟨i', v, q1, q2, rfl, q4⟩ := tb_cf_in hf
          obtain ⟨⟨g1, g2⟩, -⟩ := tb_fact_ok hz hI hX n5 q4
          refine ⟨g1, j1, e', List.getElem?_set_self (List.getElem?_eq_some_iff.mp hj1).1, ?_⟩
          have ix : tb_ix V (0, (i' : Int)) = (i' : Int) := by unfold tb_ix; rw [hI.2]; omega
          dsimp only at g2 ⊢
          rw [ix, Int.toNat_natCast] at g2 ⊢
          obtain ⟨j9, e9, g3, g4⟩ := g2
          have := n2.1 j9 j0 _ _ g3 hj0 rfl
          subst this
          have : e9 = e0 := congrArg Prod.snd (Option.some.inj (g3.symm.trans hj0))
          subst this
          rw [hr, if_pos (by omega)]
          exact g4
      have hr1 : ∀ (r : Nat) (ru : tb_ru), Z.2.2[r]? = some ru → r ∉ tb_tch RT κ1 b.2.toNat ++ cs.2.1 → tb_rh (tb_al E) (w.set j1 (sa_ad V k1, e')) ru := by
        intro r ru hru hrs
        refine tm_rh n2 hwk hj1 hal1 hr' (n6 r ru (by rw [hz]; exact hru) (fun z => hrs (List.mem_append_right _ z))) ?_
        rintro p hp ⟨z1, z2⟩
        have := tb_rtok_in hrt hru hp
        rw [z1] at this
        exact hrs (List.mem_append_left _ (tb_tch_in this (by omega)))
      refine ⟨_, hP, hD, hW3, hW4, hF, fun r ru hru hrs => ?_, n7⟩
      have hru : Z.2.2[r]? = some ru := by rw [← hz]; exact hru
      by_cases hin : r ∈ tb_tch RT κ1 b.2.toNat ++ cs.2.1
      · have hok : tb_rok Z G (cs.1.filter (tb_ckp G b.2 k1) ++ tb_cf Z G cs.1 k0 k1 b.2.toNat 0) (tb_tch RT κ1 b.2.toNat ++ cs.2.1) dl r = true := by
          cases hpp : tb_rok Z G (cs.1.filter (tb_ckp G b.2 k1) ++ tb_cf Z G cs.1 k0 k1 b.2.toNat 0) (tb_tch RT κ1 b.2.toNat ++ cs.2.1) dl r with
          | true => rfl
          | false =>
            exfalso
            exact hrs (List.mem_filter.mpr ⟨hin, by rw [hpp]; rfl⟩)
        exact tb_rok_ok hz hI hX hD hF hr1 hok hru
      · exact hr1 r ru hru hin
    · cases h
noncomputable def to_acp (Z : tb_Z) (RT : tb_RT) (mod : List (Nat × Nat × Nat)) (dl : List (Nat × Nat × Int)) (t : Nat) : tb_op := fun S => match S.2.2.1 with
  | [.inl n, .inl dp, .inr (.inl (some k1)), .inl sp, .inr (.inl (some k0))] => match tb_knd S.2.2.2.2.1 k0, tb_knd S.2.2.2.2.1 k1, sa_iv S.2.2.2.2.1 n with
    | some κ0, some κ1, some b => match Z.1[κ0]?, Z.1[κ1]? with
      | some (.inr a0), some (.inr a1) => if sa_kv S.2.2.2.2.1 dp = some 0 ∧ sa_kv S.2.2.2.2.1 sp = some 0 ∧ a0.1 = t ∧ a1.1 = t ∧ 0 ≤ b.1 ∧ 1 ≤ b.2 ∧ b.2 ≤ (a0.2.1 : Int) ∧ b.2 ≤ (a1.2.1 : Int) ∧ tb_cty (.inr a0) (.inr a1) (b.2.toNat - 1) = true ∧ mod.any (fun q => decide (q.1 = κ1 ∧ q.2.1 = 0 ∧ b.2.toNat - 1 ≤ q.2.2)) = true then match tb_cpc Z RT dl S.2.2.2.1 S.2.2.2.2.1 b κ1 k0 k1 with
        | some cs' => some [(S.1 + 3, S.2.1, [], cs', S.2.2.2.2)]
        | none => none
        else none
      | _, _ => none
    | _, _, _ => none
  | _ => none
theorem tn_acpi {p : Program} {l : Launch} {e : Env} {R : Room} {s : State} {m : MethodId} {args : Array Value} {below : List Frame} {meth : Method} {c : Code} {Q : State → Prop} {D : va_G} {dA : Nat → ClassId} {A : Nat → Prop} {nL : Nat} {cl : List vw_C} {n0 : Nat} {V0 : sa_V} {E : tb_E} {Ts : List Cond} {cc : ByteArray} {own : String} (C0 : sa_C p s m args c D dA A nL cl Ts cc own) {Z : tb_Z} {RT : tb_RT} {mod : List (Nat × Nat × Nat)} {dl : List (Nat × Nat × Int)} (hz : tb_z E = Z) (hcv : Z.1.all tb_cv = true) (hrt : tb_rtok Z RT = true) (hm : tb_mod E = mod) {pc idx : Nat} (hd : decode cc pc = .ok (.invokestatic idx, 3)) (hl : Cond.methodLink own idx arraycopyName ∈ Ts) (hn1 : Cond.native arraycopyName ∈ Ts) (hn2 : Cond.static arraycopyName ∈ Ts) (hn3 : Cond.initialized "java/lang/System" ∈ Ts) (hR1 : 1 ≤ R.frames) (hR2 : nativeFrameWords "java/lang/System" "arraycopy" 5 + 11 ≤ R.locals) : tb_snd p l e R s m args below meth c Q D dA A nL cl n0 V0 E pc (to_acp Z RT mod dl 0) := by
  obtain ⟨hx, hb, hts, hown, hml, hK, hA⟩ := C0
  rintro ⟨pc, lo, st, cs, G, kc, ks⟩ sts rfl h k V H locs ls hG
  unfold to_acp at h
  dsimp only at h
  split at h
  · rename_i n dp k1 sp k0
    split at h
    · rename_i κ0 κ1 b hκ0 hκ1 hbn
      split at h
      · rename_i a0 a1 ha0 ha1
        split at h
        · rename_i hh
          obtain ⟨h1, h2, h3, h4, h5, h6, h7, h8, h9, h10⟩ := hh
          split at h
          · rename_i cs' hcs
            cases h
            obtain ⟨w, hN⟩ := hG.2.2.1
            have hN : tb_Nw D dA A cl E V cs H w := hN
            have hI := hG.1.1
            obtain ⟨j0, e0, i1, i2, i3⟩ := tb_cell hz hI hG.2.2.2.1 hN hκ0 ha0
            obtain ⟨j1, e1, i4, i5, i6⟩ := tb_cell hz hI hG.2.2.2.1 hN hκ1 ha1
            have i3s := i3.1
            have i6s := i6.1
            unfold tb_sh at i3s i6s
            dsimp only at i3s i6s
            rw [h3] at i3s
            rw [h4] at i6s
            rw [if_neg (by decide), if_pos (by decide)] at i3s i6s
            obtain ⟨f, rfl⟩ := i3s
            obtain ⟨g, rfl⟩ := i6s
            obtain ⟨q1, q2, q3⟩ := tb_iv_ix hI hbn
            have zdp : sa_i V dp = 0 := (sa_kv_ok hI h1).trans rfl
            have zsp : sa_i V sp = 0 := (sa_kv_ok hI h2).trans rfl
            have nn : (sa_i V n).toNatClampNeg = (tb_ix V n).toNat := by rw [← q3]; rfl
            have z0 : (0 : Int32).toNatClampNeg = 0 := rfl
            refine va_copyi (D := D) (ty := .int) (sp := sa_i V sp) (dp := sa_i V dp) (n := sa_i V n) hx hb (by rw [hml]; exact hG.2.1.1.symm) hown (hts _ hl) (hts _ hn1) (hts _ hn2) (hts _ hn3) hK hN.1 hN.2.1 hG.2.2.2.2 j0 j1 0 0 i2 i5 rfl rfl rfl (by rw [zsp]; decide) (by rw [zdp]; decide) (by rw [Int32.lt_iff_toInt_lt, q3]; show ¬ tb_ix V n < 0; omega) (by rw [zsp, nn, z0]; omega) (by rw [zdp, nn, z0]; omega) (fun _ _ => rfl) hR1 (by rw [List.map_nil, List.map_nil]; exact (Nat.zero_add _).symm ▸ hR2) hd (fun H1 locs1 hP hD hS => ?_)
            rw [zsp, zdp, nn, z0] at hP hD
            refine k _ List.mem_cons_self V H1 locs1 ls ⟨hG.1, hG.2.1, ?_, hG.2.2.2.1, hS⟩
            refine tb_cp_ok (m := (tb_ix V n).toNat) hz hcv hrt hm hI hG.2.2.2.1 hN hcs ha0 ha1 i1 i4 i2 i5 i3 (by unfold tb_sh; dsimp only; rw [h4]; rw [if_neg (by decide), if_pos (by decide)]; exact ⟨_, rfl⟩) ⟨by omega, by omega⟩ h6 h9 h10 (fun i' => ?_) hP hD
            show (if i' < a1.2.1 then some (Value.int (va_cpy f g 0 0 (tb_ix V n).toNat i')) else none) = if i' < (tb_ix V n).toNat then (if i' < a0.2.1 then some (Value.int (f i')) else none) else (if i' < a1.2.1 then some (Value.int (g i')) else none)
            unfold va_cpy
            by_cases hi : i' < (tb_ix V n).toNat
            · rw [if_pos hi, if_pos (by omega), if_pos (by omega), if_pos (by omega), Nat.zero_add, Nat.sub_zero]
            · rw [if_neg hi, if_neg (show ¬ (0 ≤ i' ∧ i' < 0 + (tb_ix V n).toNat) by omega)]
          · cases h
        · cases h
      · cases h
    · cases h
  · cases h
theorem tn_acpl {p : Program} {l : Launch} {e : Env} {R : Room} {s : State} {m : MethodId} {args : Array Value} {below : List Frame} {meth : Method} {c : Code} {Q : State → Prop} {D : va_G} {dA : Nat → ClassId} {A : Nat → Prop} {nL : Nat} {cl : List vw_C} {n0 : Nat} {V0 : sa_V} {E : tb_E} {Ts : List Cond} {cc : ByteArray} {own : String} (C0 : sa_C p s m args c D dA A nL cl Ts cc own) {Z : tb_Z} {RT : tb_RT} {mod : List (Nat × Nat × Nat)} {dl : List (Nat × Nat × Int)} (hz : tb_z E = Z) (hcv : Z.1.all tb_cv = true) (hrt : tb_rtok Z RT = true) (hm : tb_mod E = mod) {pc idx : Nat} (hd : decode cc pc = .ok (.invokestatic idx, 3)) (hl : Cond.methodLink own idx arraycopyName ∈ Ts) (hn1 : Cond.native arraycopyName ∈ Ts) (hn2 : Cond.static arraycopyName ∈ Ts) (hn3 : Cond.initialized "java/lang/System" ∈ Ts) (hR1 : 1 ≤ R.frames) (hR2 : nativeFrameWords "java/lang/System" "arraycopy" 5 + 11 ≤ R.locals) : tb_snd p l e R s m args below meth c Q D dA A nL cl n0 V0 E pc (to_acp Z RT mod dl 2) := by
  obtain ⟨hx, hb, hts, hown, hml, hK, hA⟩ := C0
  rintro ⟨pc, lo, st, cs, G, kc, ks⟩ sts rfl h k V H locs ls hG
  unfold to_acp at h
  dsimp only at h
  split at h
  · rename_i n dp k1 sp k0
    split at h
    · rename_i κ0 κ1 b hκ0 hκ1 hbn
      split at h
      · rename_i a0 a1 ha0 ha1
        split at h
        · rename_i hh
          obtain ⟨h1, h2, h3, h4, h5, h6, h7, h8, h9, h10⟩ := hh
          split at h
          · rename_i cs' hcs
            cases h
            obtain ⟨w, hN⟩ := hG.2.2.1
            have hN : tb_Nw D dA A cl E V cs H w := hN
            have hI := hG.1.1
            obtain ⟨j0, e0, i1, i2, i3⟩ := tb_cell hz hI hG.2.2.2.1 hN hκ0 ha0
            obtain ⟨j1, e1, i4, i5, i6⟩ := tb_cell hz hI hG.2.2.2.1 hN hκ1 ha1
            have i3s := i3.1
            have i6s := i6.1
            unfold tb_sh at i3s i6s
            dsimp only at i3s i6s
            rw [h3] at i3s
            rw [h4] at i6s
            rw [if_pos rfl] at i3s i6s
            obtain ⟨f, rfl⟩ := i3s
            obtain ⟨g, rfl⟩ := i6s
            obtain ⟨q1, q2, q3⟩ := tb_iv_ix hI hbn
            have zdp : sa_i V dp = 0 := (sa_kv_ok hI h1).trans rfl
            have zsp : sa_i V sp = 0 := (sa_kv_ok hI h2).trans rfl
            have nn : (sa_i V n).toNatClampNeg = (tb_ix V n).toNat := by rw [← q3]; rfl
            have z0 : (0 : Int32).toNatClampNeg = 0 := rfl
            refine va_copyl (D := D) (ty := .long) (sp := sa_i V sp) (dp := sa_i V dp) (n := sa_i V n) hx hb (by rw [hml]; exact hG.2.1.1.symm) hown (hts _ hl) (hts _ hn1) (hts _ hn2) (hts _ hn3) hK hN.1 hN.2.1 hG.2.2.2.2 j0 j1 2 2 i2 i5 rfl rfl rfl (by rw [zsp]; decide) (by rw [zdp]; decide) (by rw [Int32.lt_iff_toInt_lt, q3]; show ¬ tb_ix V n < 0; omega) (by rw [zsp, nn, z0]; omega) (by rw [zdp, nn, z0]; omega) (fun _ _ => rfl) hR1 (by rw [List.map_nil, List.map_nil]; exact (Nat.zero_add _).symm ▸ hR2) hd (fun H1 locs1 hP hD hS => ?_)
            rw [zsp, zdp, nn, z0] at hP hD
            refine k _ List.mem_cons_self V H1 locs1 ls ⟨hG.1, hG.2.1, ?_, hG.2.2.2.1, hS⟩
            refine tb_cp_ok (m := (tb_ix V n).toNat) hz hcv hrt hm hI hG.2.2.2.1 hN hcs ha0 ha1 i1 i4 i2 i5 i3 (by unfold tb_sh; dsimp only; rw [h4]; rw [if_pos rfl]; exact ⟨_, rfl⟩) ⟨by omega, by omega⟩ h6 h9 h10 (fun i' => ?_) hP hD
            show (if i' < a1.2.1 then some (Value.long (va_cpy f g 0 0 (tb_ix V n).toNat i')) else none) = if i' < (tb_ix V n).toNat then (if i' < a0.2.1 then some (Value.long (f i')) else none) else (if i' < a1.2.1 then some (Value.long (g i')) else none)
            unfold va_cpy
            by_cases hi : i' < (tb_ix V n).toNat
            · rw [if_pos hi, if_pos (by omega), if_pos (by omega), if_pos (by omega), Nat.zero_add, Nat.sub_zero]
            · rw [if_neg hi, if_neg (show ¬ (0 ≤ i' ∧ i' < 0 + (tb_ix V n).toNat) by omega)]
          · cases h
        · cases h
      · cases h
    · cases h
  · cases h
end TYH
