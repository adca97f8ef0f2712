section SA6
/-! signs for signs -/
noncomputable def sa_pl (V : sa_V) (g : Nat → Nat × Int) : sa_V := fun k => ((V (g k).1).1 + (g k).2, (V (g k).1).2)
noncomputable def sa_sq (g : Nat → Nat × Int) (q : Nat × Int) : Nat × Int := ((g q.1).1, (g q.1).2 + q.2)
noncomputable def sa_sv (g : Nat → Nat × Int) : sa_v → sa_v
  | .inl q => .inl (sa_sq g q)
  | .inr (.inl none) => .inr (.inl none)
  | .inr (.inl (some k)) => .inr (.inl (some (g k).1))
  | .inr (.inr j) => .inr (.inr (g j).1)
noncomputable def sa_sa (g : Nat → Nat × Int) : sa_a → sa_a
  | .inl l => .inl (l.map (sa_sq g))
  | .inr (.inl q) => .inr (.inl (q.1, (g q.2).1))
  | .inr (.inr l) => .inr (.inr (l.map (Option.map (fun k => (g k).1))))
noncomputable def sa_sx (g : Nat → Nat × Int) : ((Nat × List sa_v) ⊕ (Nat × sa_a)) → ((Nat × List sa_v) ⊕ (Nat × sa_a))
  | .inl o => .inl (o.1, o.2.map (sa_sv g))
  | .inr a => .inr (a.1, sa_sa g a.2)
noncomputable def sa_sc (g : Nat → Nat × Int) (q : sa_c) : sa_c := ((g q.1).1, sa_sx g q.2)
theorem sa_i_pl (V : sa_V) (g : Nat → Nat × Int) (q : Nat × Int) : sa_i V (sa_sq g q) = sa_i (sa_pl V g) q := by
  unfold sa_i sa_pl sa_sq
  dsimp only
  rw [Int.add_assoc]
theorem sa_val_pl (V : sa_V) (g : Nat → Nat × Int) (v : sa_v) : sa_val V (sa_sv g v) = sa_val (sa_pl V g) v := by
  rcases v with q | (_ | k) | j
  · show Value.int _ = Value.int _
    rw [sa_i_pl]
  · rfl
  · rfl
  · rfl
theorem sa_arr_pl (V : sa_V) (g : Nat → Nat × Int) (a : sa_a) : sa_arr V (sa_sa g a) = sa_arr (sa_pl V g) a := by
  rcases a with l | q | l
  · show ((l.map (sa_sq g)).length, Sum.inl (sa_f V (l.map (sa_sq g)))) = (l.length, Sum.inl (sa_f (sa_pl V g) l))
    rw [List.length_map]
    congr 2
    funext j
    unfold sa_f
    rw [List.getElem?_map]
    cases l[j]? with
    | none => rfl
    | some q => exact sa_i_pl V g q
  · rfl
  · show ((l.map (Option.map (fun k => (g k).1))).length, _) = (l.length, _)
    rw [List.length_map]
    congr 5
    funext j
    unfold sa_g
    rw [List.getD_eq_getElem?_getD, List.getD_eq_getElem?_getD, List.getElem?_map]
    cases l[j]? with
    | none => rfl
    | some o => cases o <;> rfl
theorem sa_e_pl (V : sa_V) (g : Nat → Nat × Int) (dA : Nat → ClassId) (q : sa_c) : sa_e V dA (sa_sc g q) = sa_e (sa_pl V g) dA q := by
  obtain ⟨k, o | a⟩ := q
  · show (sa_ad V (g k).1, Sum.inr (o.1, (o.2.map (sa_sv g)).map (sa_val V))) = (sa_ad (sa_pl V g) k, Sum.inr (o.1, o.2.map (sa_val (sa_pl V g))))
    have e1 : (o.2.map (sa_sv g)).map (sa_val V) = o.2.map (sa_val (sa_pl V g)) := by
      rw [List.map_map]
      exact List.map_congr_left (fun v _ => sa_val_pl V g v)
    rw [e1]
    rfl
  · show (sa_ad V (g k).1, Sum.inl (dA a.1, sa_arr V (sa_sa g a.2))) = (sa_ad (sa_pl V g) k, Sum.inl (dA a.1, sa_arr (sa_pl V g) a.2))
    rw [sa_arr_pl]
    rfl
/-! what a method does: arguments, cells, bounds; its ends: answer, cells, bounds; cells and slots made -/
abbrev sa_O : Type := Option sa_v × List sa_c × sa_B
abbrev sa_K : Type := List sa_v × List sa_c × sa_B × List sa_O × Nat × Nat
/-- links to private members of nest mates -/
noncomputable def sa_NL : List (String × Nat × MethodName × String) := [("OffThenOn", 20, ⟨"OffThenOn$World", "<init>", "()V"⟩, "OffThenOn"), ("OffThenOn$World", 9, ⟨"OffThenOn$House", "<init>", "()V"⟩, "OffThenOn"), ("OffThenOn$World", 18, ⟨"OffThenOn$State", "<init>", "()V"⟩, "OffThenOn"), ("OffThenOn$World", 25, ⟨"OffThenOn$Sentence", "<init>", "()V"⟩, "OffThenOn"), ("OffThenOn$History", 17, ⟨"OffThenOn$State", "<init>", "()V"⟩, "OffThenOn"), ("OffThenOn", 38, ⟨"OffThenOn$State", "<init>", "()V"⟩, "OffThenOn"), ("OffThenOn", 45, ⟨"OffThenOn$HouseReader", "<init>", "()V"⟩, "OffThenOn"), ("OffThenOn$HouseReader", 11, ⟨"OffThenOn$Reader", "<init>", "()V"⟩, "OffThenOn"), ("OffThenOn$HouseReader", 20, ⟨"OffThenOn$House", "<init>", "()V"⟩, "OffThenOn"), ("OffThenOn", 52, ⟨"OffThenOn$LogReader", "<init>", "()V"⟩, "OffThenOn"), ("OffThenOn$LogReader", 11, ⟨"OffThenOn$Reader", "<init>", "()V"⟩, "OffThenOn"), ("OffThenOn", 59, ⟨"OffThenOn$SentenceReader", "<init>", "()V"⟩, "OffThenOn"), ("OffThenOn$SentenceReader", 11, ⟨"OffThenOn$Reader", "<init>", "()V"⟩, "OffThenOn"), ("OffThenOn$SentenceReader", 20, ⟨"OffThenOn$Sentence", "<init>", "()V"⟩, "OffThenOn"), ("OffThenOn", 66, ⟨"OffThenOn$Planner", "<init>", "()V"⟩, "OffThenOn"), ("OffThenOn$House", 68, ⟨"OffThenOn", "bit", "(II)I"⟩, "OffThenOn"), ("OffThenOn$State", 63, ⟨"OffThenOn", "bit", "(II)I"⟩, "OffThenOn"), ("OffThenOn$Sentence", 59, ⟨"OffThenOn", "bit", "(II)I"⟩, "OffThenOn"), ("OffThenOn$Planner", 32, ⟨"OffThenOn", "bit", "(II)I"⟩, "OffThenOn")]
noncomputable def sa_U (D : va_G) (cl : List vw_C) (dA : Nat → ClassId) (U : State) : Prop := va_K D cl (sa_tys dA) U ∧ va_AO "OffThenOn$World" U ∧ va_AO "OffThenOn$State" U ∧ ∀ q ∈ sa_NL, va_Nw (.methodLinkNest q.1 q.2.1 q.2.2.1 q.2.2.2) U
theorem sa_U.warm {D : va_G} {cl : List vw_C} {dA : Nat → ClassId} {s U : State} (hW : s.WarmedH U.vm) (h : sa_U D cl dA s) : sa_U D cl dA U := ⟨va_K.moved hW.alike h.1, va_AO.moved hW.alike h.2.1, va_AO.moved hW.alike h.2.2.1, fun q hq => va_Nw.warmM hW (h.2.2.2 q hq)⟩
theorem sa_U.same {D : va_G} {cl : List vw_C} {dA : Nat → ClassId} {u U : State} (hv : u.vm = U.vm) (h : sa_U D cl dA u) : sa_U D cl dA U := ⟨va_K.moved (by rw [hv]; exact Vm.Alike.refl _) h.1, va_AO.moved (by rw [hv]; exact Vm.Alike.refl _) h.2.1, va_AO.moved (by rw [hv]; exact Vm.Alike.refl _) h.2.2.1, fun q hq => va_Nw.same rfl hv (h.2.2.2 q hq)⟩
noncomputable def sa_P (D : va_G) (dA : Nat → ClassId) (cl : List vw_C) (sz : Nat) (V : sa_V) (K : sa_K) : Array Value → State → Prop := va_Pc (K.1.map (sa_val V)) (fun U => U.heap.size = sz ∧ va_P D cl (K.2.1.map (sa_e V dA)) U.heap ∧ sa_U D cl dA U ∧ va_D (fun _ => True) (K.2.1.map (sa_e V dA)))
noncomputable def sa_Q (D : va_G) (dA : Nat → ClassId) (cl : List vw_C) (sz : Nat) (V : sa_V) (K : sa_K) : Array Value → State → Outcome → State → Prop := fun _ st oc t =>
  (∃ o ∈ K.2.2.2.1, ∃ V' : sa_V, (∀ k, k < K.2.2.1.length → V' k = V k) ∧ sa_I V' o.2.2 ∧ oc = .returned (o.1.map (sa_val V')) ∧ va_P D cl (o.2.1.map (sa_e V' dA)) t.heap ∧ va_D (va_A (K.2.1.map (sa_e V dA)) sz) (o.2.1.map (sa_e V' dA))) ∧ va_F (va_A (K.2.1.map (sa_e V dA)) sz) st t
noncomputable def sa_Met (l : Launch) (cl : List vw_C) (Ts : List Cond) (y : MethodName) (cc : ByteArray) (maxL : Nat) (ret : Option FieldType) (fr lc : Nat) (K : sa_K) : Prop :=
  ∀ (D : va_G) (dA : Nat → ClassId) (sz : Nat) (V : sa_V), sa_I V K.2.2.1 → Met l y (Cond.code y cc maxL ret :: Ts) { frames := fr, cells := K.2.2.2.2.1, slots := K.2.2.2.2.2, locals := lc } (sa_P D dA cl sz V K) (sa_Q D dA cl sz V K) K.2.2.2.2.1 K.2.2.2.2.2 (va_A (K.2.1.map (sa_e V dA)) sz)
/-! which sign is which -/
abbrev sa_rr : Type := List (Nat × Nat × Int)
noncomputable def sa_lk (k : Nat) : sa_rr → Option (Nat × Int)
  | [] => none
  | q :: l => if q.1 = k then some q.2 else sa_lk k l
noncomputable def sa_sb (r : sa_rr) (k : Nat) : Nat × Int := match sa_lk k r with
  | some x => x
  | none => (0, 0)
noncomputable def sa_bd (r : sa_rr) (k : Nat) (x : Nat × Int) : sa_rr := if k = 0 then r else match sa_lk k r with
  | some _ => r
  | none => (k, x) :: r
noncomputable def sa_m1 (r : sa_rr) : sa_v → sa_v → sa_rr
  | .inl q, .inl u => sa_bd r q.1 (u.1, u.2 - q.2)
  | .inr (.inl (some k)), .inr (.inl (some u)) => sa_bd r k (u, 0)
  | .inr (.inr j), .inr (.inr u) => sa_bd r j (u, 0)
  | _, _ => r
noncomputable def sa_ml : List sa_v → List sa_v → sa_rr → sa_rr
  | v :: l, u :: l', r => sa_ml l l' (sa_m1 r v u)
  | _, _, r => r
noncomputable def sa_mi : List (Nat × Int) → List (Nat × Int) → sa_rr → sa_rr
  | v :: l, u :: l', r => sa_mi l l' (sa_bd r v.1 (u.1, u.2 - v.2))
  | _, _, r => r
noncomputable def sa_mq : List (Option Nat) → List (Option Nat) → sa_rr → sa_rr
  | some v :: l, some u :: l', r => sa_mq l l' (sa_bd r v (u, 0))
  | _ :: l, _ :: l', r => sa_mq l l' r
  | _, _, r => r
noncomputable def sa_mx (r : sa_rr) : ((Nat × List sa_v) ⊕ (Nat × sa_a)) → ((Nat × List sa_v) ⊕ (Nat × sa_a)) → sa_rr
  | .inl o, .inl u => sa_ml o.2 u.2 r
  | .inr (_, .inl l), .inr (_, .inl l') => sa_mi l l' r
  | .inr (_, .inr (.inl q)), .inr (_, .inr (.inl u)) => sa_bd r q.2 (u.2, 0)
  | .inr (_, .inr (.inr l)), .inr (_, .inr (.inr l')) => sa_mq l l' r
  | _, _ => r
noncomputable def sa_mcs (cs : List sa_c) : List sa_c → sa_rr → sa_rr
  | [], r => r
  | q :: l, r => match sa_find (sa_sb r q.1).1 cs 0 with
    | some y => sa_mcs cs l (sa_mx r q.2 y.2)
    | none => sa_mcs cs l r
noncomputable def sa_idx (cs : List sa_c) (a : Nat) : Nat := match sa_find a cs 0 with
  | some y => y.1
  | none => cs.length
noncomputable def sa_bck (r : sa_rr) (GK G : sa_B) : Bool := (List.range GK.length).all (fun k => match GK[k]?, G[(sa_sb r k).1]? with
  | some b, some b' => decide (b.1 ≤ b'.1 + (sa_sb r k).2 ∧ b'.2 + (sa_sb r k).2 ≤ b.2)
  | _, _ => false)
noncomputable def sa_rf (r : sa_rr) (Go : sa_B) : List Nat → sa_B → sa_B
  | [], G => G
  | k :: l, G => match Go[k]? with
    | some b => sa_rf r Go l (sa_lw (sa_hi G (sa_sb r k).1 (b.2 - (sa_sb r k).2)) (sa_sb r k).1 (b.1 - (sa_sb r k).2))
    | none => sa_rf r Go l G
theorem sa_rf_ok {V : sa_V} {r : sa_rr} {Go : sa_B} : ∀ (l : List Nat) (G : sa_B), sa_I V G → (∀ k ∈ l, ∀ b, Go[k]? = some b → b.1 ≤ (V (sa_sb r k).1).1 + (sa_sb r k).2 ∧ (V (sa_sb r k).1).1 + (sa_sb r k).2 ≤ b.2) → sa_I V (sa_rf r Go l G) ∧ (sa_rf r Go l G).length = G.length
  | [], G, h, _ => ⟨h, rfl⟩
  | k :: l, G, h, hb => by
    unfold sa_rf
    split
    · rename_i b hk
      obtain ⟨b1, b2⟩ := hb k List.mem_cons_self b hk
      obtain ⟨r1, r2⟩ := sa_rf_ok l _ (sa_I_lw (s := (sa_sb r k).1) (z := b.1 - (sa_sb r k).2) (sa_I_hi (s := (sa_sb r k).1) (z := b.2 - (sa_sb r k).2) h (by omega)) (by omega)) (fun k' hk' => hb k' (List.mem_cons_of_mem _ hk'))
      exact ⟨r1, by rw [r2, sa_lw_len, sa_hi_len]⟩
    · exact sa_rf_ok l G h (fun k' hk' => hb k' (List.mem_cons_of_mem _ hk'))
noncomputable def sa_g2 (r : sa_rr) (n0 n : Nat) (k : Nat) : Nat × Int := if k < n0 then sa_sb r k else (n + (k - n0), 0)
noncomputable def sa_rest (cs : List sa_c) (isC : List Nat) : List Nat := (List.range cs.length).filter (fun i => !(isC.contains i))
noncomputable def sa_end (K : sa_K) (S : sa_S) (r : sa_rr) (isC : List Nat) (rest : List sa_v) (o : sa_O) : sa_S :=
  (S.1 + 3, S.2.1, (match o.1 with | some v => sa_sv (sa_g2 r K.2.2.1.length S.2.2.2.2.1.length) v :: rest | none => rest), (sa_rest S.2.2.2.1 isC).filterMap (fun i => S.2.2.2.1[i]?) ++ o.2.1.map (sa_sc (sa_g2 r K.2.2.1.length S.2.2.2.2.1.length)), sa_rf r o.2.2 (List.range K.2.2.1.length) S.2.2.2.2.1 ++ o.2.2.drop K.2.2.1.length, S.2.2.2.2.2.1 + K.2.2.2.2.1, S.2.2.2.2.2.2 + K.2.2.2.2.2)
noncomputable def sa_eqx : ((Nat × List sa_v) ⊕ (Nat × sa_a)) → ((Nat × List sa_v) ⊕ (Nat × sa_a)) → Bool
  | .inl o, .inl u => decide (o.1 = u.1 ∧ o.2 = u.2)
  | .inr (t, .inl l), .inr (t', .inl l') => decide (t = t' ∧ l = l')
  | .inr (t, .inr (.inl q)), .inr (t', .inr (.inl u)) => decide (t = t' ∧ q = u)
  | .inr (t, .inr (.inr l)), .inr (t', .inr (.inr l')) => decide (t = t' ∧ l = l')
  | _, _ => false
theorem sa_eqx_ok {x y : (Nat × List sa_v) ⊕ (Nat × sa_a)} (h : sa_eqx x y = true) : x = y := by
  unfold sa_eqx at h
  split at h
  · rename_i o u
    obtain ⟨o1, o2⟩ := o
    obtain ⟨u1, u2⟩ := u
    obtain ⟨h1, h2⟩ := of_decide_eq_true h
    dsimp only at h1 h2
    rw [h1, h2]
  · obtain ⟨h1, h2⟩ := of_decide_eq_true h
    rw [h1, h2]
  · obtain ⟨h1, h2⟩ := of_decide_eq_true h
    rw [h1, h2]
  · obtain ⟨h1, h2⟩ := of_decide_eq_true h
    rw [h1, h2]
  · cases h
noncomputable def sa_eqo (o : Option sa_c) (q : sa_c) : Bool := match o with
  | some p => decide (p.1 = q.1) && sa_eqx p.2 q.2
  | none => false
theorem sa_eqo_ok {o : Option sa_c} {q : sa_c} (h : sa_eqo o q = true) : o = some q := by
  cases o with
  | none => cases h
  | some p =>
    have h : (decide (p.1 = q.1) && sa_eqx p.2 q.2) = true := h
    rw [Bool.and_eq_true] at h
    rw [show p = q from Prod.ext (of_decide_eq_true h.1) (sa_eqx_ok h.2)]
noncomputable def sa_eql : List (Option sa_c) → List sa_c → Bool
  | [], [] => true
  | o :: l, q :: l' => sa_eqo o q && sa_eql l l'
  | _, _ => false
theorem sa_eql_ok : ∀ {l : List (Option sa_c)} {w : List sa_c}, sa_eql l w = true → l = w.map some
  | [], [], _ => rfl
  | [], _ :: _, h => by cases h
  | _ :: _, [], h => by cases h
  | o :: l, q :: w, h => by
    have h : (sa_eqo o q && sa_eql l w) = true := h
    rw [Bool.and_eq_true] at h
    rw [List.map_cons, ← sa_eql_ok h.2]
    rw [sa_eqo_ok h.1]
noncomputable def sa_fitK (K : sa_K) (S : sa_S) (r : sa_rr) (isC : List Nat) (as rest : List sa_v) (maxC maxS : Nat) : Bool :=
  decide (K.1.map (sa_sv (sa_sb r)) = as) && sa_eql (isC.map (fun i => S.2.2.2.1[i]?)) (K.2.1.map (sa_sc (sa_sb r))) && va_nd isC && sa_bck r K.2.2.1 S.2.2.2.2.1 && decide ((rest.map sa_cat).sum ≤ 8) && decide (S.2.2.2.2.2.1 + K.2.2.2.2.1 ≤ maxC) && decide (S.2.2.2.2.2.2 + K.2.2.2.2.2 ≤ maxS) && decide (sa_sb r 0 = (0, 0)) && sa_wf S.2.2.2.2.1.length S.2.1 rest S.2.2.2.1
noncomputable def sa_rof (K : sa_K) (S : sa_S) : sa_rr := sa_mcs S.2.2.2.1 K.2.1 (sa_ml K.1 (S.2.2.1.take K.1.length).reverse [])
noncomputable def sa_cof (K : sa_K) (S : sa_S) (r : sa_rr) : List Nat := K.2.1.map (fun q => sa_idx S.2.2.2.1 (sa_sb r q.1).1)
noncomputable def so_call (K : sa_K) (maxC maxS : Nat) : sa_op := fun S =>
  if K.1.length ≤ S.2.2.1.length ∧ sa_fitK K S (sa_rof K S) (sa_cof K S (sa_rof K S)) (S.2.2.1.take K.1.length).reverse (S.2.2.1.drop K.1.length) maxC maxS = true then some ((K.2.2.2.1.map (sa_end K S (sa_rof K S) (sa_cof K S (sa_rof K S)) (S.2.2.1.drop K.1.length))).filter (fun S' => S'.2.2.2.2.1.all (fun b => decide (b.1 ≤ b.2)))) else none
theorem sa_fm {α β : Type} {f : α → Option β} : ∀ {l : List α} {w : List β}, l.map f = w.map some → l.filterMap f = w
  | [], [], _ => rfl
  | [], _ :: _, h => by cases h
  | _ :: _, [], h => by cases h
  | a :: l, b :: w, h => by
    rw [List.map_cons, List.map_cons] at h
    obtain ⟨h1, h2⟩ := List.cons.inj h
    rw [List.filterMap_cons_some h1, sa_fm h2]
theorem sa_sum (V : sa_V) (st : List sa_v) : ((st.map (sa_val V)).map (fun v => v.category)).sum = (st.map sa_cat).sum := by
  rw [List.map_map]
  congr 1
  apply List.map_congr_left
  intro v _
  exact sa_cat_val V v
theorem sa_nd_filter : ∀ (f : Nat → Bool) (n : Nat), va_nd ((List.range n).filter f) = true := by
  intro f n
  have key : ∀ l : List Nat, l.Nodup → va_nd l = true := by
    intro l
    induction l with
    | nil => intro _; rfl
    | cons a l ih =>
      intro h
      rw [List.nodup_cons] at h
      show (decide (a ∉ l) && va_nd l) = true
      rw [ih h.2, decide_eq_true h.1]
      rfl
  exact key _ (List.Nodup.sublist (List.filter_sublist) (List.nodup_range))
/-- behind a call -/
theorem sa_call_ok {p : Program} {l : Launch} {e : Env} {R : Room} {s : State} {m : MethodId} {args : Array Value} {below : List Frame} {meth : Method} {c : Code} {Q : State → Prop} {D : va_G} {dA : Nat → ClassId} {A : Nat → Prop} {nL : Nat} {cl : List vw_C} {n0 : Nat} {V0 : sa_V} {K : sa_K} {maxC maxS pc : Nat} {lo : sa_L} {st : List sa_v} {cs : List sa_c} {G : sa_B} {kc ks : Nat} {sts : List sa_S} {V : sa_V} {H : Heap} {locs : List Loc} {ls : Array Slot} {a : Array Value}
    (hA : ∀ q, s.heap.size ≤ q → A q) (h : so_call K maxC maxS (pc, lo, st, cs, G, kc, ks) = some sts) (k : ∀ S' ∈ sts, sa_W p l e R s m args below meth c Q D dA A nL cl n0 V0 S') (hG : sa_G D dA A nL cl n0 V0 s.heap V lo cs G H locs ls)
    (vr : ∀ (As rest : List sa_v) (V1 : sa_V), st = As.reverse ++ rest → As.map (sa_val V) = K.1.map (sa_val V1) → As.length = K.1.length → sa_I V1 K.2.2.1 → ((rest.map (sa_val V)).map (fun v => v.category)).sum ≤ 8 → va_P D cl (K.2.1.map (sa_e V1 dA)) H → va_D (fun _ => True) (K.2.1.map (sa_e V1 dA)) → kc + K.2.2.2.2.1 ≤ maxC → ks + K.2.2.2.2.2 ≤ maxS →
      va_Run p l e R s m args below meth c H locs kc ks K.2.2.2.2.1 K.2.2.2.2.2 (F0 m pc ls (st.map (sa_val V))) (rest.map (sa_val V)) (sa_Q D dA cl H.size V1 K a) (va_A (K.2.1.map (sa_e V1 dA)) H.size)) :
    W p l e R s m args below meth c H locs kc ks Q (F0 m pc ls (st.map (sa_val V))) := by
  unfold so_call at h
  dsimp only at h
  split at h
  · rename_i hh
    obtain ⟨hlen, hfit⟩ := hh
    generalize hr : sa_rof K (pc, lo, st, cs, G, kc, ks) = r at h hfit
    generalize hC : sa_cof K (pc, lo, st, cs, G, kc, ks) r = isC at h hfit
    generalize has : (st.take K.1.length).reverse = As at hfit
    generalize hre : st.drop K.1.length = rest at h hfit
    simp only [sa_fitK, Bool.and_eq_true, decide_eq_true_eq] at hfit
    obtain ⟨⟨⟨⟨⟨⟨⟨⟨f1, f2⟩, f3⟩, f4⟩, f5⟩, f6⟩, f7⟩, f8⟩, f9⟩ := hfit
    cases h
    have hst : st = As.reverse ++ rest := by rw [← has, ← hre, List.reverse_reverse, List.take_append_drop]
    have hwf := f9
    simp only [sa_wf, Bool.and_eq_true, decide_eq_true_eq] at hwf
    obtain ⟨⟨⟨w0, w1⟩, w2⟩, w3⟩ := hwf
    -- the callee's start
    have b4 : ∀ j b, K.2.2.1[j]? = some b → (sa_sb r j).1 < G.length ∧ b.1 ≤ (sa_pl V (sa_sb r) j).1 ∧ (sa_pl V (sa_sb r) j).1 ≤ b.2 := by
      intro j b hj
      have hjl := (List.getElem?_eq_some_iff.mp hj).1
      have h4 := List.all_eq_true.mp f4 j (List.mem_range.mpr hjl)
      rw [hj] at h4
      split at h4
      · rename_i b1 b' e1 e2
        cases e1
        have h4 := of_decide_eq_true h4
        obtain ⟨g1, g2⟩ := hG.1.1.1 _ _ e2
        refine ⟨(List.getElem?_eq_some_iff.mp e2).1, ?_, ?_⟩
        · show b.1 ≤ (V _).1 + _
          omega
        · show (V _).1 + _ ≤ b.2
          omega
      · cases h4
    have hI1 : sa_I (sa_pl V (sa_sb r)) K.2.2.1 := by
      refine ⟨fun j b hj => (b4 j b hj).2, ?_⟩
      show (V (sa_sb r 0).1).1 + (sa_sb r 0).2 = 0
      rw [f8]
      show (V 0).1 + 0 = 0
      rw [hG.1.1.2]
      rfl
    have hCe : isC.map (fun i => (cs.map (sa_e V dA))[i]?) = (K.2.1.map (sa_e (sa_pl V (sa_sb r)) dA)).map some := by
      have := congrArg (List.map (Option.map (sa_e V dA))) (sa_eql_ok f2)
      rw [List.map_map, List.map_map, List.map_map] at this
      rw [List.map_map]
      refine Eq.trans (List.map_congr_left (fun i _ => ?_)) (this.trans (List.map_congr_left (fun q _ => ?_)))
      · show (cs.map (sa_e V dA))[i]? = Option.map (sa_e V dA) cs[i]?
        rw [List.getElem?_map]
      · show some (sa_e V dA (sa_sc (sa_sb r) q)) = some (sa_e (sa_pl V (sa_sb r)) dA q)
        rw [sa_e_pl]
    have hP1 := hG.2.2.1.sub isC (sa_fm hCe)
    have hD1 := (hG.2.2.2.1.sub isC f3 hCe)
    have hF := va_free (wc := K.2.1.map (sa_e (sa_pl V (sa_sb r)) dA)) hG.2.2.2.1 hG.2.2.2.2 hA isC hCe
    have hargs : As.map (sa_val V) = K.1.map (sa_val (sa_pl V (sa_sb r))) := by
      rw [← f1, List.map_map]
      exact List.map_congr_left (fun v _ => sa_val_pl V _ v)
    have hAl : As.length = K.1.length := by rw [← f1, List.length_map]
    have vrun := vr As rest (sa_pl V (sa_sb r)) hst hargs hAl hI1 (by rw [sa_sum]; exact f5) hP1 (hD1.weaken (fun _ _ _ _ => trivial)) f6 f7
    intro T hT X
    obtain ⟨v, st₀, t, T', L, t0, X', hL, e1, e2, ⟨⟨o, ho, V', hV', hI', hoc, hPo, hDo⟩, hz, hkk⟩, stp⟩ := vrun T hT X
    rw [t0] at hz hkk
    obtain ⟨Vn, hVn⟩ : ∃ Vn : sa_V, Vn = (fun j => if j < G.length then V j else V' (K.2.2.1.length + (j - G.length))) := ⟨_, rfl⟩
    have vlt : ∀ j, j < G.length → Vn j = V j := fun j hj => by rw [hVn]; exact if_pos hj
    have vge : ∀ j, Vn (G.length + j) = V' (K.2.2.1.length + j) := fun j => by
      rw [hVn]
      show (if G.length + j < G.length then _ else _) = _
      rw [if_neg (by omega), show G.length + j - G.length = j by omega]
    have hVV : V' = sa_pl Vn (sa_g2 r K.2.2.1.length G.length) := by
      funext j
      by_cases hj : j < K.2.2.1.length
      · have hj2 := (b4 j _ (List.getElem?_eq_getElem hj)).1
        unfold sa_pl sa_g2
        rw [if_pos hj, vlt _ hj2, hV' j hj]
        rfl
      · unfold sa_pl sa_g2
        rw [if_neg hj]
        show _ = ((Vn (G.length + (j - K.2.2.1.length))).1 + 0, (Vn (G.length + (j - K.2.2.1.length))).2)
        rw [vge, show K.2.2.1.length + (j - K.2.2.1.length) = j by omega, Int.add_zero]
    have agree : ∀ v : sa_v, sa_wfv G.length v = true → sa_val Vn v = sa_val V v := by
      intro v hv
      rcases v with q | (_ | j) | j
      · show Value.int (Int32.ofInt ((Vn q.1).1 + q.2)) = _
        rw [vlt _ (of_decide_eq_true hv)]
        rfl
      · rfl
      · show Value.ref (Vn j).2.2.2 = _
        rw [vlt _ (of_decide_eq_true hv)]
        rfl
      · show Value.long (Vn j).2.1 = _
        rw [vlt _ (of_decide_eq_true hv)]
        rfl
    have agreeC : ∀ q : sa_c, sa_wfc G.length q = true → sa_e Vn dA q = sa_e V dA q := by
      intro q hq
      obtain ⟨j, o9 | a9⟩ := q
      · simp only [sa_wfc, Bool.and_eq_true, decide_eq_true_eq, List.all_eq_true] at hq
        show (sa_ad Vn j, Sum.inr (o9.1, o9.2.map (sa_val Vn))) = (sa_ad V j, Sum.inr (o9.1, o9.2.map (sa_val V)))
        unfold sa_ad
        rw [vlt _ hq.1]
        congr 3
        exact List.map_congr_left (fun v hv => agree v (hq.2 v hv))
      · simp only [sa_wfc, Bool.and_eq_true, decide_eq_true_eq] at hq
        have ha : sa_arr Vn a9.2 = sa_arr V a9.2 := by
          obtain ⟨hq1, hq2⟩ := hq
          obtain ⟨t9, l9 | q9 | l9⟩ := a9
          · have hh : ∀ q ∈ l9, q.1 < G.length := fun q hq => of_decide_eq_true (List.all_eq_true.mp hq2 q hq)
            show (l9.length, _) = (l9.length, _)
            congr 2
            funext i
            unfold sa_f
            split
            · rename_i q hq
              unfold sa_i
              rw [vlt _ (hh q (List.mem_of_getElem? hq))]
            · rfl
          · have hh : q9.2 < G.length := of_decide_eq_true hq2
            show (q9.1, _) = (q9.1, _)
            rw [vlt _ hh]
          · have hh : ∀ o ∈ l9, _ := List.all_eq_true.mp hq2
            show (l9.length, _) = (l9.length, _)
            congr 5
            funext i
            unfold sa_g
            rw [List.getD_eq_getElem?_getD]
            cases hj : l9[i]? with
            | none => rfl
            | some o =>
              cases o with
              | none => rfl
              | some k9 =>
                have hk9 : k9 < G.length := of_decide_eq_true (hh _ (List.mem_of_getElem? hj))
                show some (sa_ad _ _) = some (sa_ad _ _)
                unfold sa_ad
                rw [vlt _ hk9]
        show (sa_ad Vn j, Sum.inl (dA a9.1, sa_arr Vn a9.2)) = (sa_ad V j, Sum.inl (dA a9.1, sa_arr V a9.2))
        rw [ha]
        unfold sa_ad
        rw [vlt _ hq.1]
    -- the cells
    have hmemR : ∀ q ∈ (sa_rest cs isC).filterMap (fun i => cs[i]?), sa_wfc G.length q = true := by
      intro q hq
      obtain ⟨i, -, hi⟩ := List.mem_filterMap.mp hq
      exact List.all_eq_true.mp w3 q (List.mem_of_getElem? hi)
    have hRe : (sa_rest cs isC).map (fun i => (cs.map (sa_e V dA))[i]?) = (((sa_rest cs isC).filterMap (fun i => cs[i]?)).map (sa_e Vn dA)).map some := by
      have key : ∀ l : List Nat, (∀ i ∈ l, i < cs.length) → l.map (fun i => cs[i]?) = (l.filterMap (fun i => cs[i]?)).map some := by
        intro l
        induction l with
        | nil => intro _; rfl
        | cons i l ih =>
          intro hl
          have hi := hl i List.mem_cons_self
          rw [List.map_cons, List.filterMap_cons_some (List.getElem?_eq_getElem hi), List.map_cons, ih (fun j hj => hl j (List.mem_cons_of_mem _ hj)), List.getElem?_eq_getElem hi]
      have h1 := key (sa_rest cs isC) (fun i hi => List.mem_range.mp (List.mem_filter.mp hi).1)
      have h2 := congrArg (List.map (Option.map (sa_e V dA))) h1
      rw [List.map_map, List.map_map] at h2
      rw [List.map_map]
      refine Eq.trans (List.map_congr_left (fun i _ => ?_)) (h2.trans (List.map_congr_left (fun q hq => ?_)))
      · show (cs.map (sa_e V dA))[i]? = Option.map (sa_e V dA) cs[i]?
        rw [List.getElem?_map]
      · show some (sa_e V dA q) = some (sa_e Vn dA q)
        rw [agreeC q (hmemR q hq)]
    obtain ⟨hPj, hDj⟩ := va_join (H1 := T'.heap) hG.2.2.1 hG.2.2.2.1 isC (sa_rest cs isC) hCe hRe (sa_nd_filter _ _) (fun i hi hi2 => by
      have := (List.mem_filter.mp hi).2
      simp at this
      exact this hi2) (fun q h1 h2 => by rw [e1]; exact hkk q h1 h2) hF (by rw [← e1] at hPo; exact hPo) hDo
    have hcells : ((sa_rest cs isC).filterMap (fun i => cs[i]?) ++ o.2.1.map (sa_sc (sa_g2 r K.2.2.1.length G.length))).map (sa_e Vn dA) = ((sa_rest cs isC).filterMap (fun i => cs[i]?)).map (sa_e Vn dA) ++ o.2.1.map (sa_e V' dA) := by
      rw [List.map_append, List.map_map]
      congr 1
      apply List.map_congr_left
      intro q _
      rw [hVV]
      exact sa_e_pl Vn _ dA q
    rw [← hcells] at hPj hDj
    -- the bounds
    have hIV : sa_I Vn G := ⟨fun i b hi => by rw [vlt i (List.getElem?_eq_some_iff.mp hi).1]; exact hG.1.1.1 i b hi, by rw [vlt 0 w0]; exact hG.1.1.2⟩
    obtain ⟨hrf1, hrf2⟩ := sa_rf_ok (V := Vn) (r := r) (Go := o.2.2) (List.range K.2.2.1.length) G hIV (fun j hj b hb => by
      have hjl := List.mem_range.mp hj
      have hj2 := (b4 j _ (List.getElem?_eq_getElem hjl)).1
      have h9 := hI'.1 j b hb
      rw [hV' j hjl] at h9
      rw [vlt _ hj2]
      exact h9)
    have hIn : sa_I Vn (sa_rf r o.2.2 (List.range K.2.2.1.length) G ++ o.2.2.drop K.2.2.1.length) := by
      refine ⟨fun i b hi => ?_, hIV.2⟩
      by_cases hl : i < G.length
      · rw [List.getElem?_append_left (by rw [hrf2]; exact hl)] at hi
        exact hrf1.1 i b hi
      · rw [List.getElem?_append_right (by rw [hrf2]; omega), hrf2, List.getElem?_drop] at hi
        have h9 := hI'.1 _ b hi
        have e9 : Vn i = V' (K.2.2.1.length + (i - G.length)) := by
          have := vge (i - G.length)
          rwa [show G.length + (i - G.length) = i by omega] at this
        rw [e9]
        exact h9
    -- the state behind it
    have hk9 := k (sa_end K (pc, lo, st, cs, G, kc, ks) r isC rest o) (List.mem_filter.mpr ⟨List.mem_map.mpr ⟨o, ho, rfl⟩, List.all_eq_true.mpr (fun b hb9 => decide_eq_true (by
      obtain ⟨i9, hi9⟩ := List.getElem?_of_mem hb9
      have h9 := hIn.1 i9 b hi9
      omega))⟩)
    have hSn : va_S A s.heap T'.heap (locs ++ L) := ⟨Nat.le_trans hG.2.2.2.2.1 (by rw [e1]; exact hz), fun q h1 h2 => by rw [e1, hkk q (Nat.lt_of_lt_of_le h1 hG.2.2.2.2.1) (fun z => h2 (hF q z))]; exact hG.2.2.2.2.2.1 q h1 h2, fun q hq => by
      rcases List.mem_append.mp hq with h | h
      · exact hG.2.2.2.2.2.2 q h
      · exact hF _ (hL q h)⟩
    have hlv : sa_lv Vn lo = sa_lv V lo := List.map_congr_left (fun q hq => by rw [agree _ (List.all_eq_true.mp w1 q hq)])
    have hrs : rest.map (sa_val Vn) = rest.map (sa_val V) := List.map_congr_left (fun q hq => agree _ (List.all_eq_true.mp w2 q hq))
    have hWn := hk9 Vn T'.heap (locs ++ L) ls ⟨⟨hIn, by show n0 ≤ (sa_rf r o.2.2 (List.range K.2.2.1.length) G ++ o.2.2.drop K.2.2.1.length).length; rw [List.length_append, hrf2]; exact Nat.le_trans hG.1.2.1 (Nat.le_add_right _ _), fun j hj => by rw [vlt j (Nat.lt_of_lt_of_le hj hG.1.2.1)]; exact hG.1.2.2 j hj⟩, by show lv_has ls nL (sa_lv Vn lo); rw [hlv]; exact hG.2.1, hPj, hDj, hSn⟩
    obtain ⟨t2, a1, b1⟩ := hWn T' rfl X'
    refine ⟨t2, stp t2 ?_, b1⟩
    have hv : v = o.1.map (sa_val V') := Outcome.returned.inj hoc
    have hstk : (match o.1 with | some v => sa_sv (sa_g2 r K.2.2.1.length G.length) v :: rest | none => rest).map (sa_val Vn) = v.toList ++ rest.map (sa_val V) := by
      rw [hv]
      cases o.1 with
      | none => exact hrs
      | some u =>
        show sa_val Vn (sa_sv _ u) :: rest.map (sa_val Vn) = sa_val V' u :: rest.map (sa_val V)
        rw [hrs, sa_val_pl, ← hVV]
    have a2 : Steps p.tables e below (T'.setTop (F0 m (pc + 3) ls ((match o.1 with | some v => sa_sv (sa_g2 r K.2.2.1.length G.length) v :: rest | none => rest).map (sa_val Vn)))) t2 := a1
    rw [hstk] at a2
    exact a2
  · cases h
end SA6
