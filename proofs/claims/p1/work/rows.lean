section
/-! A machine over signs: ints are a sign and a number beside it, each sign has its bounds, cells hold signs; what it does is what the machine does (own work). -/
section SA0
abbrev sa_v : Type := (Nat × Int) ⊕ (Option Nat ⊕ Nat)
abbrev sa_x : Type := Int × Int64 × (Nat → Int64) × Nat
abbrev sa_V : Type := Nat → sa_x
def sa_i (V : sa_V) (q : Nat × Int) : Int32 := Int32.ofInt ((V q.1).1 + q.2)
def sa_ad (V : sa_V) (k : Nat) : Nat := (V k).2.2.2
def sa_val (V : sa_V) : sa_v → Value
  | .inl q => .int (sa_i V q)
  | .inr (.inl none) => .null
  | .inr (.inl (some k)) => .ref (sa_ad V k)
  | .inr (.inr j) => .long (V j).2.1
def sa_f (V : sa_V) (l : List (Nat × Int)) (j : Nat) : Int32 := match l[j]? with
  | some q => sa_i V q
  | none => 0
def sa_g (V : sa_V) (l : List (Option Nat)) (j : Nat) : Option Nat := (l.getD j none).map (sa_ad V)
abbrev sa_a : Type := List (Nat × Int) ⊕ ((Nat × Nat) ⊕ List (Option Nat))
def sa_arr (V : sa_V) : sa_a → vp_A
  | .inl l => (l.length, .inl (sa_f V l))
  | .inr (.inl q) => (q.1, .inr (.inl (V q.2).2.2.1))
  | .inr (.inr l) => (l.length, .inr (.inr (.inr (.inr (sa_g V l)))))
abbrev sa_c : Type := Nat × ((Nat × List sa_v) ⊕ (Nat × sa_a))
def sa_el (V : sa_V) (dA : Nat → ClassId) : ((Nat × List sa_v) ⊕ (Nat × sa_a)) → va_E
  | .inl o => .inr (o.1, o.2.map (sa_val V))
  | .inr a => .inl (dA a.1, sa_arr V a.2)
def sa_e (V : sa_V) (dA : Nat → ClassId) (q : sa_c) : Nat × va_E := (sa_ad V q.1, sa_el V dA q.2)
abbrev sa_L : Type := List (Nat × sa_v)
abbrev sa_B : Type := List (Int × Int)
/-- pc, locals, stack, cells, bounds, cells made, slots made -/
abbrev sa_S : Type := Nat × sa_L × List sa_v × List sa_c × sa_B × Nat × Nat
def sa_lv (V : sa_V) (lo : sa_L) : List (Nat × Value) := lo.map (fun q => (q.1, sa_val V q.2))
def sa_I (V : sa_V) (G : sa_B) : Prop := (∀ (i : Nat) (b : Int × Int), G[i]? = some b → b.1 ≤ (V i).1 ∧ (V i).1 ≤ b.2) ∧ (V 0).1 = 0
/-- and the first n0 signs mean what they meant at the start -/
def sa_J (n0 : Nat) (V0 V : sa_V) (G : sa_B) : Prop := sa_I V G ∧ n0 ≤ G.length ∧ ∀ k, k < n0 → V k = V0 k
def sa_G (D : va_G) (dA : Nat → ClassId) (A : Nat → Prop) (nL : Nat) (cl : List vw_C) (n0 : Nat) (V0 : sa_V) (H0 : Heap) (V : sa_V) (lo : sa_L) (cs : List sa_c) (G : sa_B) (H : Heap) (locs : List Loc) (ls : Array Slot) : Prop :=
  sa_J n0 V0 V G ∧ lv_has ls nL (sa_lv V lo) ∧ va_P D cl (cs.map (sa_e V dA)) H ∧ va_D A (cs.map (sa_e V dA)) ∧ va_S A H0 H locs
def sa_W (p : Program) (l : Launch) (e : Env) (R : Room) (s : State) (m : MethodId) (args : Array Value) (below : List Frame) (meth : Method) (c : Code) (Q : State → Prop) (D : va_G) (dA : Nat → ClassId) (A : Nat → Prop) (nL : Nat) (cl : List vw_C) (n0 : Nat) (V0 : sa_V) (S : sa_S) : Prop :=
  ∀ (V : sa_V) (H : Heap) (locs : List Loc) (ls : Array Slot), sa_G D dA A nL cl n0 V0 s.heap V S.2.1 S.2.2.2.1 S.2.2.2.2.1 H locs ls → W p l e R s m args below meth c H locs S.2.2.2.2.2.1 S.2.2.2.2.2.2 Q (F0 m S.1 ls (S.2.2.1.map (sa_val V)))
abbrev sa_op : Type := sa_S → Option (List sa_S)
def sa_snd (p : Program) (l : Launch) (e : Env) (R : Room) (s : State) (m : MethodId) (args : Array Value) (below : List Frame) (meth : Method) (c : Code) (Q : State → Prop) (D : va_G) (dA : Nat → ClassId) (A : Nat → Prop) (nL : Nat) (cl : List vw_C) (n0 : Nat) (V0 : sa_V) (pc : Nat) (op : sa_op) : Prop :=
  ∀ (S : sa_S) (sts : List sa_S), S.1 = pc → op S = some sts → (∀ S' ∈ sts, sa_W p l e R s m args below meth c Q D dA A nL cl n0 V0 S') → sa_W p l e R s m args below meth c Q D dA A nL cl n0 V0 S
def sa_tys (dA : Nat → ClassId) : List (ClassId × FieldType) := [(dA 0, .int), (dA 1, .byte), (dA 2, .long), (dA 3, .boolean), (dA 4, .object "OffThenOn$World"), (dA 5, .object "OffThenOn$State")]
/-- what every row needs of its method -/
def sa_C (p : Program) (s : State) (m : MethodId) (args : Array Value) (c : Code) (D : va_G) (dA : Nat → ClassId) (A : Nat → Prop) (nL : Nat) (cl : List vw_C) (Ts : List Cond) (cc : ByteArray) (own : String) : Prop :=
  p.tables.exec = Jvm.exec ∧ c.code = cc ∧ (∀ w ∈ Ts, w.before args s = true) ∧ s.vm.findClass own = some m.cls ∧ c.maxLocals = nL ∧ va_K D cl (sa_tys dA) s ∧ (∀ q, s.heap.size ≤ q → A q)
def sa_run (find : Nat → Option sa_op) (fin : sa_S → Bool) : Nat → sa_S → Bool
  | 0, _ => false
  | n + 1, S => match find S.1 with
    | none => fin S
    | some op => match op S with
      | none => false
      | some sts => match sts with
        | [S'] => sa_run find fin n S'
        | _ => sts.all (sa_run find fin n)
theorem sa_run_ok {p : Program} {l : Launch} {e : Env} {R : Room} {s : State} {m : MethodId} {args : Array Value} {below : List Frame} {meth : Method} {c : Code} {Q : State → Prop} {D : va_G} {dA : Nat → ClassId} {A : Nat → Prop} {nL : Nat} {cl : List vw_C} {n0 : Nat} {V0 : sa_V} {find : Nat → Option sa_op} {fin : sa_S → Bool}
    (hf : ∀ pc op, find pc = some op → sa_snd p l e R s m args below meth c Q D dA A nL cl n0 V0 pc op) (he : ∀ S, find S.1 = none → fin S = true → sa_W p l e R s m args below meth c Q D dA A nL cl n0 V0 S) : ∀ (n : Nat) (S : sa_S), sa_run find fin n S = true → sa_W p l e R s m args below meth c Q D dA A nL cl n0 V0 S := by
  intro n
  induction n with
  | zero => intro S h; cases h
  | succ n ih =>
    intro S h
    unfold sa_run at h
    split at h
    · rename_i h1
      exact he S h1 h
    · rename_i op h1
      split at h
      · cases h
      · rename_i sts h2
        refine hf _ op h1 S sts rfl h2 (fun S' h' => ?_)
        split at h
        · rename_i S9
          have e9 : S' = S9 := by simpa using h'
          rw [e9]
          exact ih S9 h
        · exact ih S' (List.all_eq_true.mp h S' h')
/-! values -/
def sa_look (i : Nat) : sa_L → Option sa_v
  | [] => none
  | q :: l => if q.1 = i then some q.2 else sa_look i l
theorem sa_look_mem {i : Nat} {v : sa_v} : ∀ {lo : sa_L}, sa_look i lo = some v → (i, v) ∈ lo
  | [], h => by cases h
  | q :: l, h => by
    unfold sa_look at h
    split at h
    · rename_i h1
      cases h
      rw [← h1]
      exact List.mem_cons_self
    · exact List.mem_cons_of_mem _ (sa_look_mem h)
theorem sa_look_at {V : sa_V} {ls : Array Slot} {nL i : Nat} {v : sa_v} {lo : sa_L} (hl : lv_has ls nL (sa_lv V lo)) (h : sa_look i lo = some v) : ls[i]? = some (.val (sa_val V v)) :=
  hl.2.2 (i, sa_val V v) (List.mem_map.mpr ⟨(i, v), sa_look_mem h, rfl⟩)
def sa_cat : sa_v → Nat
  | .inr (.inr _) => 2
  | _ => 1
theorem sa_cat_val (V : sa_V) (v : sa_v) : (sa_val V v).category = sa_cat v := by
  rcases v with q | (_ | k) | j <;> rfl
def sa_set1 (i : Nat) (v : sa_v) (lo : sa_L) : sa_L := (i, v) :: lo.filter (fun q => !(q.1 == i) && !(q.1 + 1 == i && sa_cat q.2 == 2))
def sa_set2 (i : Nat) (v : sa_v) (lo : sa_L) : sa_L := (i, v) :: lo.filter (fun q => !(q.1 == i) && (!(q.1 == i + 1) && !(q.1 + 1 == i && sa_cat q.2 == 2)))
theorem sa_set1_lv (V : sa_V) (i : Nat) (v : sa_v) (lo : sa_L) : (i, sa_val V v) :: (sa_lv V lo).filter (fun q => !(q.1 == i) && !(q.1 + 1 == i && q.2.category == 2)) = sa_lv V (sa_set1 i v lo) := by
  unfold sa_lv sa_set1
  rw [List.filter_map, List.map_cons]
  congr 2
  apply List.filter_congr
  intro q _
  simp only [Function.comp, sa_cat_val]
theorem sa_set2_lv (V : sa_V) (i : Nat) (v : sa_v) (lo : sa_L) : (i, sa_val V v) :: (sa_lv V lo).filter (fun q => !(q.1 == i) && (!(q.1 == i + 1) && !(q.1 + 1 == i && q.2.category == 2))) = sa_lv V (sa_set2 i v lo) := by
  unfold sa_lv sa_set2
  rw [List.filter_map, List.map_cons]
  congr 2
  apply List.filter_congr
  intro q _
  simp only [Function.comp, sa_cat_val]
/-! new signs -/
def sa_upd (V : sa_V) (n : Nat) (x : sa_x) : sa_V := fun k => if k = n then x else V k
def sa_wfv (n : Nat) : sa_v → Bool
  | .inl q => decide (q.1 < n)
  | .inr (.inl none) => true
  | .inr (.inl (some k)) => decide (k < n)
  | .inr (.inr j) => decide (j < n)
def sa_wfa (n : Nat) : sa_a → Bool
  | .inl l => l.all (fun q => decide (q.1 < n))
  | .inr (.inl q) => decide (q.2 < n)
  | .inr (.inr l) => l.all (fun o => match o with | none => true | some k => decide (k < n))
def sa_wfc (n : Nat) (q : sa_c) : Bool := decide (q.1 < n) && match q.2 with
  | .inl o => o.2.all (sa_wfv n)
  | .inr a => sa_wfa n a.2
def sa_wf (n : Nat) (lo : sa_L) (st : List sa_v) (cs : List sa_c) : Bool := decide (0 < n) && lo.all (fun q => sa_wfv n q.2) && st.all (sa_wfv n) && cs.all (sa_wfc n)
theorem sa_upd_ne {V : sa_V} {n k : Nat} {x : sa_x} (h : k < n) : sa_upd V n x k = V k := by
  unfold sa_upd; rw [if_neg (by omega)]
theorem sa_upd_eq {V : sa_V} {n : Nat} {x : sa_x} : sa_upd V n x n = x := by
  unfold sa_upd; rw [if_pos rfl]
theorem sa_val_upd {V : sa_V} {n : Nat} {x : sa_x} {v : sa_v} (h : sa_wfv n v = true) : sa_val (sa_upd V n x) v = sa_val V v := by
  rcases v with q | (_ | k) | j
  · have h : q.1 < n := of_decide_eq_true h
    show Value.int (sa_i _ _) = Value.int (sa_i _ _)
    unfold sa_i; rw [sa_upd_ne h]
  · rfl
  · have h : k < n := of_decide_eq_true h
    show Value.ref (sa_ad _ _) = Value.ref (sa_ad _ _)
    unfold sa_ad; rw [sa_upd_ne h]
  · have h : j < n := of_decide_eq_true h
    show Value.long _ = Value.long _
    rw [sa_upd_ne h]
theorem sa_arr_upd {V : sa_V} {n : Nat} {x : sa_x} {a : sa_a} (h : sa_wfa n a = true) : sa_arr (sa_upd V n x) a = sa_arr V a := by
  rcases a with l | q | l
  · have h : ∀ q ∈ l, q.1 < n := fun q hq => of_decide_eq_true (List.all_eq_true.mp h q hq)
    show (l.length, _) = (l.length, _)
    congr 2
    funext j
    unfold sa_f
    split
    · rename_i q hq
      unfold sa_i; rw [sa_upd_ne (h q (List.mem_of_getElem? hq))]
    · rfl
  · have h : q.2 < n := of_decide_eq_true h
    show (q.1, _) = (q.1, _)
    rw [sa_upd_ne h]
  · have h : ∀ o ∈ l, _ := List.all_eq_true.mp h
    show (l.length, _) = (l.length, _)
    congr 5
    funext j
    unfold sa_g
    rw [List.getD_eq_getElem?_getD]
    cases hj : l[j]? with
    | none => rfl
    | some o =>
      cases o with
      | none => rfl
      | some k =>
        have hk : k < n := of_decide_eq_true (h _ (List.mem_of_getElem? hj))
        show some (sa_ad _ _) = some (sa_ad _ _)
        unfold sa_ad; rw [sa_upd_ne hk]
theorem sa_e_upd {V : sa_V} {dA : Nat → ClassId} {n : Nat} {x : sa_x} {q : sa_c} (h : sa_wfc n q = true) : sa_e (sa_upd V n x) dA q = sa_e V dA q := by
  obtain ⟨k, o | a⟩ := q
  · simp only [sa_wfc, Bool.and_eq_true, decide_eq_true_eq, List.all_eq_true] at h
    unfold sa_e sa_el sa_ad
    rw [sa_upd_ne h.1]
    dsimp only
    congr 3
    exact List.map_congr_left (fun v hv => sa_val_upd (h.2 v hv))
  · simp only [sa_wfc, Bool.and_eq_true, decide_eq_true_eq] at h
    unfold sa_e sa_el sa_ad
    rw [sa_upd_ne h.1]
    dsimp only
    rw [sa_arr_upd h.2]
theorem sa_cs_upd {V : sa_V} {dA : Nat → ClassId} {n : Nat} {x : sa_x} {cs : List sa_c} (h : cs.all (sa_wfc n) = true) : cs.map (sa_e (sa_upd V n x) dA) = cs.map (sa_e V dA) :=
  List.map_congr_left (fun q hq => sa_e_upd (List.all_eq_true.mp h q hq))
theorem sa_lv_upd {V : sa_V} {n : Nat} {x : sa_x} {lo : sa_L} (h : lo.all (fun q => sa_wfv n q.2) = true) : sa_lv (sa_upd V n x) lo = sa_lv V lo :=
  List.map_congr_left (fun q hq => by rw [sa_val_upd (List.all_eq_true.mp h q hq)])
theorem sa_st_upd {V : sa_V} {n : Nat} {x : sa_x} {st : List sa_v} (h : st.all (sa_wfv n) = true) : st.map (sa_val (sa_upd V n x)) = st.map (sa_val V) :=
  List.map_congr_left (fun q hq => sa_val_upd (List.all_eq_true.mp h q hq))
theorem sa_I_upd {V : sa_V} {G : sa_B} {x : sa_x} {b : Int × Int} (h : sa_I V G) (h0 : 0 < G.length) (hb : b.1 ≤ x.1 ∧ x.1 ≤ b.2) : sa_I (sa_upd V G.length x) (G ++ [b]) := by
  refine ⟨fun i b' hi => ?_, ?_⟩
  · by_cases hl : i < G.length
    · rw [List.getElem?_append_left hl] at hi
      rw [sa_upd_ne hl]
      exact h.1 i b' hi
    · rw [List.getElem?_append_right (by omega)] at hi
      have hz : i - G.length < 1 := (List.getElem?_eq_some_iff.mp hi).1
      have hi0 : i = G.length := by omega
      subst hi0
      rw [Nat.sub_self] at hi
      cases hi
      rw [sa_upd_eq]
      exact hb
  · rw [sa_upd_ne h0]; exact h.2
theorem sa_J_upd {n0 : Nat} {V0 V : sa_V} {G : sa_B} {x : sa_x} {b : Int × Int} (h : sa_J n0 V0 V G) (h0 : 0 < G.length) (hb : b.1 ≤ x.1 ∧ x.1 ≤ b.2) : sa_J n0 V0 (sa_upd V G.length x) (G ++ [b]) :=
  ⟨sa_I_upd h.1 h0 hb, by rw [List.length_append]; exact Nat.le_trans h.2.1 (Nat.le_add_right _ _), fun k hk => by rw [sa_upd_ne (Nat.lt_of_lt_of_le hk h.2.1)]; exact h.2.2 k hk⟩
theorem sa_G_upd {D : va_G} {dA : Nat → ClassId} {A : Nat → Prop} {nL : Nat} {cl : List vw_C} {n0 : Nat} {V0 : sa_V} {H0 : Heap} {V : sa_V} {lo : sa_L} {st : List sa_v} {cs : List sa_c} {G : sa_B} {H : Heap} {locs : List Loc} {ls : Array Slot} {x : sa_x} {b : Int × Int}
    (h : sa_G D dA A nL cl n0 V0 H0 V lo cs G H locs ls) (hw : sa_wf G.length lo st cs = true) (hb : b.1 ≤ x.1 ∧ x.1 ≤ b.2) : sa_G D dA A nL cl n0 V0 H0 (sa_upd V G.length x) lo cs (G ++ [b]) H locs ls ∧ st.map (sa_val (sa_upd V G.length x)) = st.map (sa_val V) := by
  simp only [sa_wf, Bool.and_eq_true, decide_eq_true_eq] at hw
  obtain ⟨⟨⟨h0, h1⟩, h2⟩, h3⟩ := hw
  obtain ⟨g1, g2, g3, g4, g5⟩ := h
  exact ⟨⟨sa_J_upd g1 h0 hb, by rw [sa_lv_upd h1]; exact g2, by rw [sa_cs_upd h3]; exact g3, by rw [sa_cs_upd h3]; exact g4, g5⟩, sa_st_upd h2⟩
/-- an answer of a row: an int by its sign, or a new sign with bounds -/
abbrev sa_r : Type := (Nat × Int) ⊕ (Int × Int)
def sa_is (V : sa_V) (r : sa_r) (x : Int32) : Prop := match r with
  | .inl q => sa_i V q = x
  | .inr b => b.1 ≤ x.toInt ∧ x.toInt ≤ b.2
def sa_push (pc : Nat) (lo : sa_L) (rest : List sa_v) (cs : List sa_c) (G : sa_B) (kc ks : Nat) (r : sa_r) : Option (List sa_S) := match r with
  | .inl q => some [(pc, lo, .inl q :: rest, cs, G, kc, ks)]
  | .inr b => if sa_wf G.length lo rest cs = true then some [(pc, lo, .inl (G.length, 0) :: rest, cs, G ++ [b], kc, ks)] else none
theorem sa_i_new {V : sa_V} {n : Nat} {x : Int32} {y : sa_x} (h : y.1 = x.toInt) : sa_i (sa_upd V n y) (n, 0) = x := by
  show Int32.ofInt ((sa_upd V n y n).1 + 0) = x
  rw [sa_upd_eq, h, Int.add_zero, Int32.ofInt_toInt]
theorem sa_push_ok {p : Program} {l : Launch} {e : Env} {R : Room} {s : State} {m : MethodId} {args : Array Value} {below : List Frame} {meth : Method} {c : Code} {Q : State → Prop} {D : va_G} {dA : Nat → ClassId} {A : Nat → Prop} {nL : Nat} {cl : List vw_C} {n0 : Nat} {V0 : sa_V}
    {pc : Nat} {lo : sa_L} {rest : List sa_v} {cs : List sa_c} {G : sa_B} {kc ks : Nat} {r : sa_r} {sts : List sa_S} {V : sa_V} {H : Heap} {locs : List Loc} {ls : Array Slot} {x : Int32}
    (hG : sa_G D dA A nL cl n0 V0 s.heap V lo cs G H locs ls) (hr : sa_is V r x) (h : sa_push pc lo rest cs G kc ks r = some sts) (k : ∀ S' ∈ sts, sa_W p l e R s m args below meth c Q D dA A nL cl n0 V0 S') : W p l e R s m args below meth c H locs kc ks Q (F0 m pc ls (.int x :: rest.map (sa_val V))) := by
  cases r with
  | inl q =>
    cases h
    have h1 := k _ List.mem_cons_self V H locs ls hG
    have h2 : sa_i V q = x := hr
    rw [← h2]
    exact h1
  | inr b =>
    unfold sa_push at h
    dsimp only at h
    split at h
    · rename_i hw
      cases h
      obtain ⟨g1, g2⟩ := sa_G_upd (x := (x.toInt, 0, fun _ => 0, 0)) hG hw hr
      have h1 := k _ List.mem_cons_self _ H locs ls g1
      have h3 : (List.map (sa_val (sa_upd V G.length (x.toInt, 0, fun _ => 0, 0))) (.inl (G.length, 0) :: rest)) = Value.int x :: rest.map (sa_val V) := by
        rw [List.map_cons, g2]
        congr 1
        show Value.int (sa_i _ _) = _
        rw [sa_i_new rfl]
      dsimp only at h1
      rw [h3] at h1
      exact h1
    · cases h
/-- bounds of an int -/
def sa_iv (G : sa_B) (q : Nat × Int) : Option (Int × Int) := match G[q.1]? with
  | some b => if -2147483648 ≤ b.1 + q.2 ∧ b.2 + q.2 ≤ 2147483647 then some (b.1 + q.2, b.2 + q.2) else none
  | none => none
theorem sa_ofInt_toInt {z : Int} (h1 : -2147483648 ≤ z) (h2 : z ≤ 2147483647) : (Int32.ofInt z).toInt = z := Int32.toInt_ofInt_of_le (by simpa using h1) (by simp; omega)
theorem sa_iv_ok {V : sa_V} {G : sa_B} {q : Nat × Int} {b : Int × Int} (h : sa_I V G) (hb : sa_iv G q = some b) : (sa_i V q).toInt = (V q.1).1 + q.2 ∧ b.1 ≤ (sa_i V q).toInt ∧ (sa_i V q).toInt ≤ b.2 := by
  unfold sa_iv at hb
  split at hb
  · rename_i b' hb'
    split at hb
    · rename_i h2
      cases hb
      obtain ⟨h3, h4⟩ := h.1 _ _ hb'
      have h5 : (sa_i V q).toInt = (V q.1).1 + q.2 := sa_ofInt_toInt (by omega) (by omega)
      exact ⟨h5, by rw [h5]; omega, by rw [h5]; omega⟩
    · cases hb
  · cases hb
end SA0
end
section
section SA1
def so_iload (i len : Nat) : sa_op := fun S => match sa_look i S.2.1 with
  | some (.inl q) => some [(S.1 + len, S.2.1, .inl q :: S.2.2.1, S.2.2.2)]
  | _ => none
theorem sn_iload_n {p : Program} {l : Launch} {e : Env} {R : Room} {s : State} {m : MethodId} {args : Array Value} {below : List Frame} {meth : Method} {c : Code} {Q : State → Prop} {D : va_G} {dA : Nat → ClassId} {A : Nat → Prop} {nL : Nat} {cl : List vw_C} {n0 : Nat} {V0 : sa_V} {Ts : List Cond} {cc : ByteArray} {own : String} (C0 : sa_C p s m args c D dA A nL cl Ts cc own) {pc : Nat} {n : Fin 4} (hd : decode cc pc = .ok (.iload_n n, 1)) : sa_snd p l e R s m args below meth c Q D dA A nL cl n0 V0 pc (so_iload n 1) := by
  obtain ⟨hx, hb, hts, hown, hml, hK, hA⟩ := C0
  rintro ⟨pc, lo, st, cs, G, kc, ks⟩ sts rfl h k V H locs ls hG
  unfold so_iload at h
  dsimp only at h
  split at h
  · rename_i q hq
    cases h
    exact lv_iload_n hx hb hd rfl (sa_look_at hG.2.1 hq) (k _ List.mem_cons_self V H locs ls hG)
  · cases h
theorem sn_iload {p : Program} {l : Launch} {e : Env} {R : Room} {s : State} {m : MethodId} {args : Array Value} {below : List Frame} {meth : Method} {c : Code} {Q : State → Prop} {D : va_G} {dA : Nat → ClassId} {A : Nat → Prop} {nL : Nat} {cl : List vw_C} {n0 : Nat} {V0 : sa_V} {Ts : List Cond} {cc : ByteArray} {own : String} (C0 : sa_C p s m args c D dA A nL cl Ts cc own) {pc : Nat} {i : Nat} (hd : decode cc pc = .ok (.iload i, 2)) : sa_snd p l e R s m args below meth c Q D dA A nL cl n0 V0 pc (so_iload i 2) := by
  obtain ⟨hx, hb, hts, hown, hml, hK, hA⟩ := C0
  rintro ⟨pc, lo, st, cs, G, kc, ks⟩ sts rfl h k V H locs ls hG
  unfold so_iload at h
  dsimp only at h
  split at h
  · rename_i q hq
    cases h
    exact lv_iload hx hb hd (sa_look_at hG.2.1 hq) (k _ List.mem_cons_self V H locs ls hG)
  · cases h
def so_aload (i len : Nat) : sa_op := fun S => match sa_look i S.2.1 with
  | some (.inr (.inl (some q))) => some [(S.1 + len, S.2.1, .inr (.inl (some q)) :: S.2.2.1, S.2.2.2)]
  | _ => none
theorem sn_aload_n {p : Program} {l : Launch} {e : Env} {R : Room} {s : State} {m : MethodId} {args : Array Value} {below : List Frame} {meth : Method} {c : Code} {Q : State → Prop} {D : va_G} {dA : Nat → ClassId} {A : Nat → Prop} {nL : Nat} {cl : List vw_C} {n0 : Nat} {V0 : sa_V} {Ts : List Cond} {cc : ByteArray} {own : String} (C0 : sa_C p s m args c D dA A nL cl Ts cc own) {pc : Nat} {n : Fin 4} (hd : decode cc pc = .ok (.aload_n n, 1)) : sa_snd p l e R s m args below meth c Q D dA A nL cl n0 V0 pc (so_aload n 1) := by
  obtain ⟨hx, hb, hts, hown, hml, hK, hA⟩ := C0
  rintro ⟨pc, lo, st, cs, G, kc, ks⟩ sts rfl h k V H locs ls hG
  unfold so_aload at h
  dsimp only at h
  split at h
  · rename_i q hq
    cases h
    exact lv_aload_n hx hb hd rfl (sa_look_at hG.2.1 hq) (k _ List.mem_cons_self V H locs ls hG)
  · cases h
theorem sn_aload {p : Program} {l : Launch} {e : Env} {R : Room} {s : State} {m : MethodId} {args : Array Value} {below : List Frame} {meth : Method} {c : Code} {Q : State → Prop} {D : va_G} {dA : Nat → ClassId} {A : Nat → Prop} {nL : Nat} {cl : List vw_C} {n0 : Nat} {V0 : sa_V} {Ts : List Cond} {cc : ByteArray} {own : String} (C0 : sa_C p s m args c D dA A nL cl Ts cc own) {pc : Nat} {i : Nat} (hd : decode cc pc = .ok (.aload i, 2)) : sa_snd p l e R s m args below meth c Q D dA A nL cl n0 V0 pc (so_aload i 2) := by
  obtain ⟨hx, hb, hts, hown, hml, hK, hA⟩ := C0
  rintro ⟨pc, lo, st, cs, G, kc, ks⟩ sts rfl h k V H locs ls hG
  unfold so_aload at h
  dsimp only at h
  split at h
  · rename_i q hq
    cases h
    exact lv_aload hx hb hd (sa_look_at hG.2.1 hq) (k _ List.mem_cons_self V H locs ls hG)
  · cases h
def so_lload (i len : Nat) : sa_op := fun S => match sa_look i S.2.1 with
  | some (.inr (.inr q)) => some [(S.1 + len, S.2.1, .inr (.inr q) :: S.2.2.1, S.2.2.2)]
  | _ => none
theorem sn_lload_n {p : Program} {l : Launch} {e : Env} {R : Room} {s : State} {m : MethodId} {args : Array Value} {below : List Frame} {meth : Method} {c : Code} {Q : State → Prop} {D : va_G} {dA : Nat → ClassId} {A : Nat → Prop} {nL : Nat} {cl : List vw_C} {n0 : Nat} {V0 : sa_V} {Ts : List Cond} {cc : ByteArray} {own : String} (C0 : sa_C p s m args c D dA A nL cl Ts cc own) {pc : Nat} {n : Fin 4} (hd : decode cc pc = .ok (.lload_n n, 1)) : sa_snd p l e R s m args below meth c Q D dA A nL cl n0 V0 pc (so_lload n 1) := by
  obtain ⟨hx, hb, hts, hown, hml, hK, hA⟩ := C0
  rintro ⟨pc, lo, st, cs, G, kc, ks⟩ sts rfl h k V H locs ls hG
  unfold so_lload at h
  dsimp only at h
  split at h
  · rename_i q hq
    cases h
    exact lv_lload_n hx hb hd rfl (sa_look_at hG.2.1 hq) (k _ List.mem_cons_self V H locs ls hG)
  · cases h
theorem sn_lload {p : Program} {l : Launch} {e : Env} {R : Room} {s : State} {m : MethodId} {args : Array Value} {below : List Frame} {meth : Method} {c : Code} {Q : State → Prop} {D : va_G} {dA : Nat → ClassId} {A : Nat → Prop} {nL : Nat} {cl : List vw_C} {n0 : Nat} {V0 : sa_V} {Ts : List Cond} {cc : ByteArray} {own : String} (C0 : sa_C p s m args c D dA A nL cl Ts cc own) {pc : Nat} {i : Nat} (hd : decode cc pc = .ok (.lload i, 2)) : sa_snd p l e R s m args below meth c Q D dA A nL cl n0 V0 pc (so_lload i 2) := by
  obtain ⟨hx, hb, hts, hown, hml, hK, hA⟩ := C0
  rintro ⟨pc, lo, st, cs, G, kc, ks⟩ sts rfl h k V H locs ls hG
  unfold so_lload at h
  dsimp only at h
  split at h
  · rename_i q hq
    cases h
    exact lv_lload hx hb hd (sa_look_at hG.2.1 hq) (k _ List.mem_cons_self V H locs ls hG)
  · cases h
def so_istore (nL i len : Nat) : sa_op := fun S => match S.2.2.1 with
  | .inl q :: rest => if i < nL then some [(S.1 + len, sa_set1 i (.inl q) S.2.1, rest, S.2.2.2)] else none
  | _ => none
theorem sn_istore_n {p : Program} {l : Launch} {e : Env} {R : Room} {s : State} {m : MethodId} {args : Array Value} {below : List Frame} {meth : Method} {c : Code} {Q : State → Prop} {D : va_G} {dA : Nat → ClassId} {A : Nat → Prop} {nL : Nat} {cl : List vw_C} {n0 : Nat} {V0 : sa_V} {Ts : List Cond} {cc : ByteArray} {own : String} (C0 : sa_C p s m args c D dA A nL cl Ts cc own) {pc : Nat} {n : Fin 4} (hd : decode cc pc = .ok (.istore_n n, 1)) : sa_snd p l e R s m args below meth c Q D dA A nL cl n0 V0 pc (so_istore nL n 1) := by
  obtain ⟨hx, hb, hts, hown, hml, hK, hA⟩ := C0
  rintro ⟨pc, lo, st, cs, G, kc, ks⟩ sts rfl h k V H locs ls hG
  unfold so_istore at h
  dsimp only at h
  split at h
  · rename_i q rest
    split at h
    · rename_i hi
      cases h
      exact lv_istore_n hx hb hd rfl hG.2.1 hi (sa_set1_lv V _ (.inl q) lo) (fun ls' hl' => k _ List.mem_cons_self V H locs ls' ⟨hG.1, hl', hG.2.2⟩)
    · cases h
  · cases h
theorem sn_istore {p : Program} {l : Launch} {e : Env} {R : Room} {s : State} {m : MethodId} {args : Array Value} {below : List Frame} {meth : Method} {c : Code} {Q : State → Prop} {D : va_G} {dA : Nat → ClassId} {A : Nat → Prop} {nL : Nat} {cl : List vw_C} {n0 : Nat} {V0 : sa_V} {Ts : List Cond} {cc : ByteArray} {own : String} (C0 : sa_C p s m args c D dA A nL cl Ts cc own) {pc : Nat} {i : Nat} (hd : decode cc pc = .ok (.istore i, 2)) : sa_snd p l e R s m args below meth c Q D dA A nL cl n0 V0 pc (so_istore nL i 2) := by
  obtain ⟨hx, hb, hts, hown, hml, hK, hA⟩ := C0
  rintro ⟨pc, lo, st, cs, G, kc, ks⟩ sts rfl h k V H locs ls hG
  unfold so_istore at h
  dsimp only at h
  split at h
  · rename_i q rest
    split at h
    · rename_i hi
      cases h
      exact lv_istore hx hb hd hG.2.1 hi (sa_set1_lv V _ (.inl q) lo) (fun ls' hl' => k _ List.mem_cons_self V H locs ls' ⟨hG.1, hl', hG.2.2⟩)
    · cases h
  · cases h
def so_astore (nL i len : Nat) : sa_op := fun S => match S.2.2.1 with
  | .inr (.inl (some q)) :: rest => if i < nL then some [(S.1 + len, sa_set1 i (.inr (.inl (some q))) S.2.1, rest, S.2.2.2)] else none
  | _ => none
theorem sn_astore_n {p : Program} {l : Launch} {e : Env} {R : Room} {s : State} {m : MethodId} {args : Array Value} {below : List Frame} {meth : Method} {c : Code} {Q : State → Prop} {D : va_G} {dA : Nat → ClassId} {A : Nat → Prop} {nL : Nat} {cl : List vw_C} {n0 : Nat} {V0 : sa_V} {Ts : List Cond} {cc : ByteArray} {own : String} (C0 : sa_C p s m args c D dA A nL cl Ts cc own) {pc : Nat} {n : Fin 4} (hd : decode cc pc = .ok (.astore_n n, 1)) : sa_snd p l e R s m args below meth c Q D dA A nL cl n0 V0 pc (so_astore nL n 1) := by
  obtain ⟨hx, hb, hts, hown, hml, hK, hA⟩ := C0
  rintro ⟨pc, lo, st, cs, G, kc, ks⟩ sts rfl h k V H locs ls hG
  unfold so_astore at h
  dsimp only at h
  split at h
  · rename_i q rest
    split at h
    · rename_i hi
      cases h
      exact lv_astore_n hx hb hd rfl hG.2.1 hi (sa_set1_lv V _ (.inr (.inl (some q))) lo) (fun ls' hl' => k _ List.mem_cons_self V H locs ls' ⟨hG.1, hl', hG.2.2⟩)
    · cases h
  · cases h
theorem sn_astore {p : Program} {l : Launch} {e : Env} {R : Room} {s : State} {m : MethodId} {args : Array Value} {below : List Frame} {meth : Method} {c : Code} {Q : State → Prop} {D : va_G} {dA : Nat → ClassId} {A : Nat → Prop} {nL : Nat} {cl : List vw_C} {n0 : Nat} {V0 : sa_V} {Ts : List Cond} {cc : ByteArray} {own : String} (C0 : sa_C p s m args c D dA A nL cl Ts cc own) {pc : Nat} {i : Nat} (hd : decode cc pc = .ok (.astore i, 2)) : sa_snd p l e R s m args below meth c Q D dA A nL cl n0 V0 pc (so_astore nL i 2) := by
  obtain ⟨hx, hb, hts, hown, hml, hK, hA⟩ := C0
  rintro ⟨pc, lo, st, cs, G, kc, ks⟩ sts rfl h k V H locs ls hG
  unfold so_astore at h
  dsimp only at h
  split at h
  · rename_i q rest
    split at h
    · rename_i hi
      cases h
      exact lv_astore hx hb hd hG.2.1 hi (sa_set1_lv V _ (.inr (.inl (some q))) lo) (fun ls' hl' => k _ List.mem_cons_self V H locs ls' ⟨hG.1, hl', hG.2.2⟩)
    · cases h
  · cases h
def so_lstore (nL i len : Nat) : sa_op := fun S => match S.2.2.1 with
  | .inr (.inr q) :: rest => if i + 1 < nL then some [(S.1 + len, sa_set2 i (.inr (.inr q)) S.2.1, rest, S.2.2.2)] else none
  | _ => none
theorem sn_lstore_n {p : Program} {l : Launch} {e : Env} {R : Room} {s : State} {m : MethodId} {args : Array Value} {below : List Frame} {meth : Method} {c : Code} {Q : State → Prop} {D : va_G} {dA : Nat → ClassId} {A : Nat → Prop} {nL : Nat} {cl : List vw_C} {n0 : Nat} {V0 : sa_V} {Ts : List Cond} {cc : ByteArray} {own : String} (C0 : sa_C p s m args c D dA A nL cl Ts cc own) {pc : Nat} {n : Fin 4} (hd : decode cc pc = .ok (.lstore_n n, 1)) : sa_snd p l e R s m args below meth c Q D dA A nL cl n0 V0 pc (so_lstore nL n 1) := by
  obtain ⟨hx, hb, hts, hown, hml, hK, hA⟩ := C0
  rintro ⟨pc, lo, st, cs, G, kc, ks⟩ sts rfl h k V H locs ls hG
  unfold so_lstore at h
  dsimp only at h
  split at h
  · rename_i q rest
    split at h
    · rename_i hi
      cases h
      exact lv_lstore_n hx hb hd rfl hG.2.1 hi (sa_set2_lv V _ (.inr (.inr q)) lo) (fun ls' hl' => k _ List.mem_cons_self V H locs ls' ⟨hG.1, hl', hG.2.2⟩)
    · cases h
  · cases h
theorem sn_lstore {p : Program} {l : Launch} {e : Env} {R : Room} {s : State} {m : MethodId} {args : Array Value} {below : List Frame} {meth : Method} {c : Code} {Q : State → Prop} {D : va_G} {dA : Nat → ClassId} {A : Nat → Prop} {nL : Nat} {cl : List vw_C} {n0 : Nat} {V0 : sa_V} {Ts : List Cond} {cc : ByteArray} {own : String} (C0 : sa_C p s m args c D dA A nL cl Ts cc own) {pc : Nat} {i : Nat} (hd : decode cc pc = .ok (.lstore i, 2)) : sa_snd p l e R s m args below meth c Q D dA A nL cl n0 V0 pc (so_lstore nL i 2) := by
  obtain ⟨hx, hb, hts, hown, hml, hK, hA⟩ := C0
  rintro ⟨pc, lo, st, cs, G, kc, ks⟩ sts rfl h k V H locs ls hG
  unfold so_lstore at h
  dsimp only at h
  split at h
  · rename_i q rest
    split at h
    · rename_i hi
      cases h
      exact lv_lstore hx hb hd hG.2.1 hi (sa_set2_lv V _ (.inr (.inr q)) lo) (fun ls' hl' => k _ List.mem_cons_self V H locs ls' ⟨hG.1, hl', hG.2.2⟩)
    · cases h
  · cases h
theorem sa_i_add (V : sa_V) (q : Nat × Int) (n : Int) : sa_i V q + Int32.ofInt n = sa_i V (q.1, q.2 + n) := by
  unfold sa_i
  rw [← Int32.ofInt_add, Int.add_assoc]
def so_iinc (nL i : Nat) (n : Int) : sa_op := fun S => match sa_look i S.2.1 with
  | some (.inl q) => if i < nL then some [(S.1 + 3, sa_set1 i (.inl (q.1, q.2 + n)) S.2.1, S.2.2)] else none
  | _ => none
theorem sn_iinc {p : Program} {l : Launch} {e : Env} {R : Room} {s : State} {m : MethodId} {args : Array Value} {below : List Frame} {meth : Method} {c : Code} {Q : State → Prop} {D : va_G} {dA : Nat → ClassId} {A : Nat → Prop} {nL : Nat} {cl : List vw_C} {n0 : Nat} {V0 : sa_V} {Ts : List Cond} {cc : ByteArray} {own : String} (C0 : sa_C p s m args c D dA A nL cl Ts cc own) {pc : Nat} {i : Nat} {n : Int} (hd : decode cc pc = .ok (.iinc i n, 3)) : sa_snd p l e R s m args below meth c Q D dA A nL cl n0 V0 pc (so_iinc nL i n) := by
  obtain ⟨hx, hb, hts, hown, hml, hK, hA⟩ := C0
  rintro ⟨pc, lo, st, cs, G, kc, ks⟩ sts rfl h k V H locs ls hG
  unfold so_iinc at h
  dsimp only at h
  split at h
  · rename_i q hq
    split at h
    · rename_i hi
      cases h
      obtain ⟨kk, hk⟩ := List.getElem?_of_mem (show (i, Value.int (sa_i V q)) ∈ sa_lv V lo from List.mem_map.mpr ⟨(i, .inl q), sa_look_mem hq, rfl⟩)
      exact lv_iinc hx hb hd hG.2.1 hk (sa_i_add V q n) hi (sa_set1_lv V _ (.inl (q.1, q.2 + n)) lo) (fun ls' hl' => k _ List.mem_cons_self V H locs ls' ⟨hG.1, hl', hG.2.2⟩)
    · cases h
  · cases h
theorem sa_i_0 {V : sa_V} {G : sa_B} (h : sa_I V G) (n : Int) : sa_i V (0, n) = Int32.ofInt n := by
  unfold sa_i
  rw [h.2, Int.zero_add]
def so_int (n : Int) (len : Nat) : sa_op := fun S => some [(S.1 + len, S.2.1, .inl (0, n) :: S.2.2.1, S.2.2.2)]
theorem sa_k_int {p : Program} {l : Launch} {e : Env} {R : Room} {s : State} {m : MethodId} {args : Array Value} {below : List Frame} {meth : Method} {c : Code} {Q : State → Prop} {D : va_G} {dA : Nat → ClassId} {A : Nat → Prop} {nL : Nat} {cl : List vw_C} {n0 : Nat} {V0 : sa_V} {V : sa_V} {H : Heap} {locs : List Loc} {ls : Array Slot} {pc : Nat} {lo : sa_L} {st : List sa_v} {cs : List sa_c} {G : sa_B} {kc ks : Nat} {n : Int} (hG : sa_G D dA A nL cl n0 V0 s.heap V lo cs G H locs ls) (k : sa_W p l e R s m args below meth c Q D dA A nL cl n0 V0 (pc, lo, .inl (0, n) :: st, cs, G, kc, ks)) : W p l e R s m args below meth c H locs kc ks Q (F0 m pc ls (.int (Int32.ofInt n) :: st.map (sa_val V))) := by
  have h := k V H locs ls hG
  rw [← sa_i_0 hG.1.1 n]
  exact h
theorem sn_iconst {p : Program} {l : Launch} {e : Env} {R : Room} {s : State} {m : MethodId} {args : Array Value} {below : List Frame} {meth : Method} {c : Code} {Q : State → Prop} {D : va_G} {dA : Nat → ClassId} {A : Nat → Prop} {nL : Nat} {cl : List vw_C} {n0 : Nat} {V0 : sa_V} {Ts : List Cond} {cc : ByteArray} {own : String} (C0 : sa_C p s m args c D dA A nL cl Ts cc own) {pc : Nat} {n : Int} (hd : decode cc pc = .ok (.iconst n, 1)) : sa_snd p l e R s m args below meth c Q D dA A nL cl n0 V0 pc (so_int n 1) := by
  obtain ⟨hx, hb, hts, hown, hml, hK, hA⟩ := C0
  rintro ⟨pc, lo, st, cs, G, kc, ks⟩ sts rfl h k V H locs ls hG
  cases h
  exact lv_iconst hx hb hd rfl (sa_k_int hG (k _ List.mem_cons_self))
theorem sn_bipush {p : Program} {l : Launch} {e : Env} {R : Room} {s : State} {m : MethodId} {args : Array Value} {below : List Frame} {meth : Method} {c : Code} {Q : State → Prop} {D : va_G} {dA : Nat → ClassId} {A : Nat → Prop} {nL : Nat} {cl : List vw_C} {n0 : Nat} {V0 : sa_V} {Ts : List Cond} {cc : ByteArray} {own : String} (C0 : sa_C p s m args c D dA A nL cl Ts cc own) {pc : Nat} {n : Int} (hd : decode cc pc = .ok (.bipush n, 2)) (hv : (Int8.ofInt n).toInt32 = Int32.ofInt n) : sa_snd p l e R s m args below meth c Q D dA A nL cl n0 V0 pc (so_int n 2) := by
  obtain ⟨hx, hb, hts, hown, hml, hK, hA⟩ := C0
  rintro ⟨pc, lo, st, cs, G, kc, ks⟩ sts rfl h k V H locs ls hG
  cases h
  exact lv_bipush hx hb hd hv (sa_k_int hG (k _ List.mem_cons_self))
theorem sn_sipush {p : Program} {l : Launch} {e : Env} {R : Room} {s : State} {m : MethodId} {args : Array Value} {below : List Frame} {meth : Method} {c : Code} {Q : State → Prop} {D : va_G} {dA : Nat → ClassId} {A : Nat → Prop} {nL : Nat} {cl : List vw_C} {n0 : Nat} {V0 : sa_V} {Ts : List Cond} {cc : ByteArray} {own : String} (C0 : sa_C p s m args c D dA A nL cl Ts cc own) {pc : Nat} {n : Int} (hd : decode cc pc = .ok (.sipush n, 3)) (hv : (Int16.ofInt n).toInt32 = Int32.ofInt n) : sa_snd p l e R s m args below meth c Q D dA A nL cl n0 V0 pc (so_int n 3) := by
  obtain ⟨hx, hb, hts, hown, hml, hK, hA⟩ := C0
  rintro ⟨pc, lo, st, cs, G, kc, ks⟩ sts rfl h k V H locs ls hG
  cases h
  exact lv_sipush hx hb hd hv (sa_k_int hG (k _ List.mem_cons_self))
theorem sn_ldc {p : Program} {l : Launch} {e : Env} {R : Room} {s : State} {m : MethodId} {args : Array Value} {below : List Frame} {meth : Method} {c : Code} {Q : State → Prop} {D : va_G} {dA : Nat → ClassId} {A : Nat → Prop} {nL : Nat} {cl : List vw_C} {n0 : Nat} {V0 : sa_V} {Ts : List Cond} {cc : ByteArray} {own : String} (C0 : sa_C p s m args c D dA A nL cl Ts cc own) {pc : Nat} {n : Int} {idx : Nat} (hd : decode cc pc = .ok (.ldc idx, 2)) (hc : Cond.constant own idx (Int32.ofInt n) ∈ Ts) : sa_snd p l e R s m args below meth c Q D dA A nL cl n0 V0 pc (so_int n 2) := by
  obtain ⟨hx, hb, hts, hown, hml, hK, hA⟩ := C0
  rintro ⟨pc, lo, st, cs, G, kc, ks⟩ sts rfl h k V H locs ls hG
  cases h
  exact lv_ldc hx hb hown (hts _ hc) hd (sa_k_int hG (k _ List.mem_cons_self))
def so_dup : sa_op := fun S => match S.2.2.1 with
  | v :: rest => if sa_cat v = 1 then some [(S.1 + 1, S.2.1, v :: v :: rest, S.2.2.2)] else none
  | _ => none
theorem sn_dup {p : Program} {l : Launch} {e : Env} {R : Room} {s : State} {m : MethodId} {args : Array Value} {below : List Frame} {meth : Method} {c : Code} {Q : State → Prop} {D : va_G} {dA : Nat → ClassId} {A : Nat → Prop} {nL : Nat} {cl : List vw_C} {n0 : Nat} {V0 : sa_V} {Ts : List Cond} {cc : ByteArray} {own : String} (C0 : sa_C p s m args c D dA A nL cl Ts cc own) {pc : Nat}  (hd : decode cc pc = .ok (.dup, 1)) : sa_snd p l e R s m args below meth c Q D dA A nL cl n0 V0 pc so_dup := by
  obtain ⟨hx, hb, hts, hown, hml, hK, hA⟩ := C0
  rintro ⟨pc, lo, st, cs, G, kc, ks⟩ sts rfl h k V H locs ls hG
  unfold so_dup at h
  dsimp only at h
  split at h
  · rename_i v rest
    split at h
    · rename_i hv
      cases h
      exact lv_dup hx hb hd (by rw [sa_cat_val]; exact hv) (k _ List.mem_cons_self V H locs ls hG)
    · cases h
  · cases h
def so_pop : sa_op := fun S => match S.2.2.1 with
  | v :: rest => if sa_cat v = 1 then some [(S.1 + 1, S.2.1, rest, S.2.2.2)] else none
  | _ => none
theorem sn_pop {p : Program} {l : Launch} {e : Env} {R : Room} {s : State} {m : MethodId} {args : Array Value} {below : List Frame} {meth : Method} {c : Code} {Q : State → Prop} {D : va_G} {dA : Nat → ClassId} {A : Nat → Prop} {nL : Nat} {cl : List vw_C} {n0 : Nat} {V0 : sa_V} {Ts : List Cond} {cc : ByteArray} {own : String} (C0 : sa_C p s m args c D dA A nL cl Ts cc own) {pc : Nat}  (hd : decode cc pc = .ok (.pop, 1)) : sa_snd p l e R s m args below meth c Q D dA A nL cl n0 V0 pc so_pop := by
  obtain ⟨hx, hb, hts, hown, hml, hK, hA⟩ := C0
  rintro ⟨pc, lo, st, cs, G, kc, ks⟩ sts rfl h k V H locs ls hG
  unfold so_pop at h
  dsimp only at h
  split at h
  · rename_i v rest
    split at h
    · rename_i hv
      cases h
      exact lv_pop hx hb hd (by rw [sa_cat_val]; exact hv) (k _ List.mem_cons_self V H locs ls hG)
    · cases h
  · cases h
def so_dup2 : sa_op := fun S => match S.2.2.1 with
  | v :: u :: rest => if sa_cat v = 1 ∧ sa_cat u = 1 then some [(S.1 + 1, S.2.1, v :: u :: v :: u :: rest, S.2.2.2)] else none
  | _ => none
theorem sn_dup2 {p : Program} {l : Launch} {e : Env} {R : Room} {s : State} {m : MethodId} {args : Array Value} {below : List Frame} {meth : Method} {c : Code} {Q : State → Prop} {D : va_G} {dA : Nat → ClassId} {A : Nat → Prop} {nL : Nat} {cl : List vw_C} {n0 : Nat} {V0 : sa_V} {Ts : List Cond} {cc : ByteArray} {own : String} (C0 : sa_C p s m args c D dA A nL cl Ts cc own) {pc : Nat}  (hd : decode cc pc = .ok (.dup2, 1)) : sa_snd p l e R s m args below meth c Q D dA A nL cl n0 V0 pc so_dup2 := by
  obtain ⟨hx, hb, hts, hown, hml, hK, hA⟩ := C0
  rintro ⟨pc, lo, st, cs, G, kc, ks⟩ sts rfl h k V H locs ls hG
  unfold so_dup2 at h
  dsimp only at h
  split at h
  · rename_i v u rest
    split at h
    · rename_i hv
      cases h
      exact lv_dup2_11 hx hb hd (by rw [sa_cat_val]; exact hv.1) (by rw [sa_cat_val]; exact hv.2) (k _ List.mem_cons_self V H locs ls hG)
    · cases h
  · cases h
def so_goto (tgt : Nat) : sa_op := fun S => some [(tgt, S.2)]
theorem sn_goto {p : Program} {l : Launch} {e : Env} {R : Room} {s : State} {m : MethodId} {args : Array Value} {below : List Frame} {meth : Method} {c : Code} {Q : State → Prop} {D : va_G} {dA : Nat → ClassId} {A : Nat → Prop} {nL : Nat} {cl : List vw_C} {n0 : Nat} {V0 : sa_V} {Ts : List Cond} {cc : ByteArray} {own : String} (C0 : sa_C p s m args c D dA A nL cl Ts cc own) {pc : Nat} {off : Int} {tgt : Nat} (hd : decode cc pc = .ok (.goto off, 3)) (ht : (pc : Int) + off = (tgt : Int)) : sa_snd p l e R s m args below meth c Q D dA A nL cl n0 V0 pc (so_goto tgt) := by
  obtain ⟨hx, hb, hts, hown, hml, hK, hA⟩ := C0
  rintro ⟨pc, lo, st, cs, G, kc, ks⟩ sts rfl h k V H locs ls hG
  cases h
  exact lv_goto hx hb hd ht (k _ List.mem_cons_self V H locs ls hG)
def so_bin (f : sa_B → Nat × Int → Nat × Int → Option sa_r) : sa_op := fun S => match S.2.2.1 with
  | .inl y :: .inl x :: rest => match f S.2.2.2.2.1 x y with
    | some r => sa_push (S.1 + 1) S.2.1 rest S.2.2.2.1 S.2.2.2.2.1 S.2.2.2.2.2.1 S.2.2.2.2.2.2 r
    | none => none
  | _ => none
/-- what such a function must keep -/
def sa_bok (f : sa_B → Nat × Int → Nat × Int → Option sa_r) (g : Int32 → Int32 → Int32) : Prop := ∀ (V : sa_V) (G : sa_B) (x y : Nat × Int) (r : sa_r), sa_I V G → f G x y = some r → sa_is V r (g (sa_i V x) (sa_i V y))
theorem sn_iadd {p : Program} {l : Launch} {e : Env} {R : Room} {s : State} {m : MethodId} {args : Array Value} {below : List Frame} {meth : Method} {c : Code} {Q : State → Prop} {D : va_G} {dA : Nat → ClassId} {A : Nat → Prop} {nL : Nat} {cl : List vw_C} {n0 : Nat} {V0 : sa_V} {Ts : List Cond} {cc : ByteArray} {own : String} (C0 : sa_C p s m args c D dA A nL cl Ts cc own) {pc : Nat} {f : sa_B → Nat × Int → Nat × Int → Option sa_r} (hf : sa_bok f (fun x y => x + y)) (hd : decode cc pc = .ok (.iadd, 1)) : sa_snd p l e R s m args below meth c Q D dA A nL cl n0 V0 pc (so_bin f) := by
  obtain ⟨hx, hb, hts, hown, hml, hK, hA⟩ := C0
  rintro ⟨pc, lo, st, cs, G, kc, ks⟩ sts rfl h k V H locs ls hG
  unfold so_bin at h
  dsimp only at h
  split at h
  · rename_i y x rest
    split at h
    · rename_i r hr
      exact lv_iadd hx hb hd (sa_push_ok hG (hf V G x y r hG.1.1 hr) h k)
    · cases h
  · cases h
theorem sn_isub {p : Program} {l : Launch} {e : Env} {R : Room} {s : State} {m : MethodId} {args : Array Value} {below : List Frame} {meth : Method} {c : Code} {Q : State → Prop} {D : va_G} {dA : Nat → ClassId} {A : Nat → Prop} {nL : Nat} {cl : List vw_C} {n0 : Nat} {V0 : sa_V} {Ts : List Cond} {cc : ByteArray} {own : String} (C0 : sa_C p s m args c D dA A nL cl Ts cc own) {pc : Nat} {f : sa_B → Nat × Int → Nat × Int → Option sa_r} (hf : sa_bok f (fun x y => x - y)) (hd : decode cc pc = .ok (.isub, 1)) : sa_snd p l e R s m args below meth c Q D dA A nL cl n0 V0 pc (so_bin f) := by
  obtain ⟨hx, hb, hts, hown, hml, hK, hA⟩ := C0
  rintro ⟨pc, lo, st, cs, G, kc, ks⟩ sts rfl h k V H locs ls hG
  unfold so_bin at h
  dsimp only at h
  split at h
  · rename_i y x rest
    split at h
    · rename_i r hr
      exact lv_isub hx hb hd (sa_push_ok hG (hf V G x y r hG.1.1 hr) h k)
    · cases h
  · cases h
theorem sn_imul {p : Program} {l : Launch} {e : Env} {R : Room} {s : State} {m : MethodId} {args : Array Value} {below : List Frame} {meth : Method} {c : Code} {Q : State → Prop} {D : va_G} {dA : Nat → ClassId} {A : Nat → Prop} {nL : Nat} {cl : List vw_C} {n0 : Nat} {V0 : sa_V} {Ts : List Cond} {cc : ByteArray} {own : String} (C0 : sa_C p s m args c D dA A nL cl Ts cc own) {pc : Nat} {f : sa_B → Nat × Int → Nat × Int → Option sa_r} (hf : sa_bok f (fun x y => x * y)) (hd : decode cc pc = .ok (.imul, 1)) : sa_snd p l e R s m args below meth c Q D dA A nL cl n0 V0 pc (so_bin f) := by
  obtain ⟨hx, hb, hts, hown, hml, hK, hA⟩ := C0
  rintro ⟨pc, lo, st, cs, G, kc, ks⟩ sts rfl h k V H locs ls hG
  unfold so_bin at h
  dsimp only at h
  split at h
  · rename_i y x rest
    split at h
    · rename_i r hr
      exact lv_imul hx hb hd (sa_push_ok hG (hf V G x y r hG.1.1 hr) h k)
    · cases h
  · cases h
theorem sn_iand {p : Program} {l : Launch} {e : Env} {R : Room} {s : State} {m : MethodId} {args : Array Value} {below : List Frame} {meth : Method} {c : Code} {Q : State → Prop} {D : va_G} {dA : Nat → ClassId} {A : Nat → Prop} {nL : Nat} {cl : List vw_C} {n0 : Nat} {V0 : sa_V} {Ts : List Cond} {cc : ByteArray} {own : String} (C0 : sa_C p s m args c D dA A nL cl Ts cc own) {pc : Nat} {f : sa_B → Nat × Int → Nat × Int → Option sa_r} (hf : sa_bok f (fun x y => x &&& y)) (hd : decode cc pc = .ok (.iand, 1)) : sa_snd p l e R s m args below meth c Q D dA A nL cl n0 V0 pc (so_bin f) := by
  obtain ⟨hx, hb, hts, hown, hml, hK, hA⟩ := C0
  rintro ⟨pc, lo, st, cs, G, kc, ks⟩ sts rfl h k V H locs ls hG
  unfold so_bin at h
  dsimp only at h
  split at h
  · rename_i y x rest
    split at h
    · rename_i r hr
      exact lv_iand hx hb hd (sa_push_ok hG (hf V G x y r hG.1.1 hr) h k)
    · cases h
  · cases h
theorem sn_ior {p : Program} {l : Launch} {e : Env} {R : Room} {s : State} {m : MethodId} {args : Array Value} {below : List Frame} {meth : Method} {c : Code} {Q : State → Prop} {D : va_G} {dA : Nat → ClassId} {A : Nat → Prop} {nL : Nat} {cl : List vw_C} {n0 : Nat} {V0 : sa_V} {Ts : List Cond} {cc : ByteArray} {own : String} (C0 : sa_C p s m args c D dA A nL cl Ts cc own) {pc : Nat} {f : sa_B → Nat × Int → Nat × Int → Option sa_r} (hf : sa_bok f (fun x y => x ||| y)) (hd : decode cc pc = .ok (.ior, 1)) : sa_snd p l e R s m args below meth c Q D dA A nL cl n0 V0 pc (so_bin f) := by
  obtain ⟨hx, hb, hts, hown, hml, hK, hA⟩ := C0
  rintro ⟨pc, lo, st, cs, G, kc, ks⟩ sts rfl h k V H locs ls hG
  unfold so_bin at h
  dsimp only at h
  split at h
  · rename_i y x rest
    split at h
    · rename_i r hr
      exact lv_ior hx hb hd (sa_push_ok hG (hf V G x y r hG.1.1 hr) h k)
    · cases h
  · cases h
theorem sn_ixor {p : Program} {l : Launch} {e : Env} {R : Room} {s : State} {m : MethodId} {args : Array Value} {below : List Frame} {meth : Method} {c : Code} {Q : State → Prop} {D : va_G} {dA : Nat → ClassId} {A : Nat → Prop} {nL : Nat} {cl : List vw_C} {n0 : Nat} {V0 : sa_V} {Ts : List Cond} {cc : ByteArray} {own : String} (C0 : sa_C p s m args c D dA A nL cl Ts cc own) {pc : Nat} {f : sa_B → Nat × Int → Nat × Int → Option sa_r} (hf : sa_bok f (fun x y => x ^^^ y)) (hd : decode cc pc = .ok (.ixor, 1)) : sa_snd p l e R s m args below meth c Q D dA A nL cl n0 V0 pc (so_bin f) := by
  obtain ⟨hx, hb, hts, hown, hml, hK, hA⟩ := C0
  rintro ⟨pc, lo, st, cs, G, kc, ks⟩ sts rfl h k V H locs ls hG
  unfold so_bin at h
  dsimp only at h
  split at h
  · rename_i y x rest
    split at h
    · rename_i r hr
      exact lv_ixor hx hb hd (sa_push_ok hG (hf V G x y r hG.1.1 hr) h k)
    · cases h
  · cases h
theorem sn_ishl {p : Program} {l : Launch} {e : Env} {R : Room} {s : State} {m : MethodId} {args : Array Value} {below : List Frame} {meth : Method} {c : Code} {Q : State → Prop} {D : va_G} {dA : Nat → ClassId} {A : Nat → Prop} {nL : Nat} {cl : List vw_C} {n0 : Nat} {V0 : sa_V} {Ts : List Cond} {cc : ByteArray} {own : String} (C0 : sa_C p s m args c D dA A nL cl Ts cc own) {pc : Nat} {f : sa_B → Nat × Int → Nat × Int → Option sa_r} (hf : sa_bok f (fun x y => x <<< (y &&& 31))) (hd : decode cc pc = .ok (.ishl, 1)) : sa_snd p l e R s m args below meth c Q D dA A nL cl n0 V0 pc (so_bin f) := by
  obtain ⟨hx, hb, hts, hown, hml, hK, hA⟩ := C0
  rintro ⟨pc, lo, st, cs, G, kc, ks⟩ sts rfl h k V H locs ls hG
  unfold so_bin at h
  dsimp only at h
  split at h
  · rename_i y x rest
    split at h
    · rename_i r hr
      exact lv_ishl hx hb hd (sa_push_ok hG (hf V G x y r hG.1.1 hr) h k)
    · cases h
  · cases h
theorem sn_ishr {p : Program} {l : Launch} {e : Env} {R : Room} {s : State} {m : MethodId} {args : Array Value} {below : List Frame} {meth : Method} {c : Code} {Q : State → Prop} {D : va_G} {dA : Nat → ClassId} {A : Nat → Prop} {nL : Nat} {cl : List vw_C} {n0 : Nat} {V0 : sa_V} {Ts : List Cond} {cc : ByteArray} {own : String} (C0 : sa_C p s m args c D dA A nL cl Ts cc own) {pc : Nat} {f : sa_B → Nat × Int → Nat × Int → Option sa_r} (hf : sa_bok f (fun x y => x >>> (y &&& 31))) (hd : decode cc pc = .ok (.ishr, 1)) : sa_snd p l e R s m args below meth c Q D dA A nL cl n0 V0 pc (so_bin f) := by
  obtain ⟨hx, hb, hts, hown, hml, hK, hA⟩ := C0
  rintro ⟨pc, lo, st, cs, G, kc, ks⟩ sts rfl h k V H locs ls hG
  unfold so_bin at h
  dsimp only at h
  split at h
  · rename_i y x rest
    split at h
    · rename_i r hr
      exact lv_ishr hx hb hd (sa_push_ok hG (hf V G x y r hG.1.1 hr) h k)
    · cases h
  · cases h
theorem sn_iushr {p : Program} {l : Launch} {e : Env} {R : Room} {s : State} {m : MethodId} {args : Array Value} {below : List Frame} {meth : Method} {c : Code} {Q : State → Prop} {D : va_G} {dA : Nat → ClassId} {A : Nat → Prop} {nL : Nat} {cl : List vw_C} {n0 : Nat} {V0 : sa_V} {Ts : List Cond} {cc : ByteArray} {own : String} (C0 : sa_C p s m args c D dA A nL cl Ts cc own) {pc : Nat} {f : sa_B → Nat × Int → Nat × Int → Option sa_r} (hf : sa_bok f (fun x y => (x.toUInt32 >>> (y.toUInt32 &&& Int32.toUInt32 31)).toInt32)) (hd : decode cc pc = .ok (.iushr, 1)) : sa_snd p l e R s m args below meth c Q D dA A nL cl n0 V0 pc (so_bin f) := by
  obtain ⟨hx, hb, hts, hown, hml, hK, hA⟩ := C0
  rintro ⟨pc, lo, st, cs, G, kc, ks⟩ sts rfl h k V H locs ls hG
  unfold so_bin at h
  dsimp only at h
  split at h
  · rename_i y x rest
    split at h
    · rename_i r hr
      exact lv_iushr hx hb hd rfl (sa_push_ok hG (hf V G x y r hG.1.1 hr) h k)
    · cases h
  · cases h
def sa_bok0 (f : sa_B → Nat × Int → Nat × Int → Option sa_r) (g : Int32 → Int32 → Int32) : Prop := ∀ (V : sa_V) (G : sa_B) (x y : Nat × Int) (r : sa_r), sa_I V G → f G x y = some r → ¬ sa_i V y = 0 ∧ sa_is V r (g (sa_i V x) (sa_i V y))
theorem sn_idiv {p : Program} {l : Launch} {e : Env} {R : Room} {s : State} {m : MethodId} {args : Array Value} {below : List Frame} {meth : Method} {c : Code} {Q : State → Prop} {D : va_G} {dA : Nat → ClassId} {A : Nat → Prop} {nL : Nat} {cl : List vw_C} {n0 : Nat} {V0 : sa_V} {Ts : List Cond} {cc : ByteArray} {own : String} (C0 : sa_C p s m args c D dA A nL cl Ts cc own) {pc : Nat} {f : sa_B → Nat × Int → Nat × Int → Option sa_r} (hf : sa_bok0 f (fun x y => x / y)) (hd : decode cc pc = .ok (.idiv, 1)) : sa_snd p l e R s m args below meth c Q D dA A nL cl n0 V0 pc (so_bin f) := by
  obtain ⟨hx, hb, hts, hown, hml, hK, hA⟩ := C0
  rintro ⟨pc, lo, st, cs, G, kc, ks⟩ sts rfl h k V H locs ls hG
  unfold so_bin at h
  dsimp only at h
  split at h
  · rename_i y x rest
    split at h
    · rename_i r hr
      have hq := hf V G x y r hG.1.1 hr
      exact lv_idiv hx hb hd hq.1 (sa_push_ok hG hq.2 h k)
    · cases h
  · cases h
theorem sn_irem {p : Program} {l : Launch} {e : Env} {R : Room} {s : State} {m : MethodId} {args : Array Value} {below : List Frame} {meth : Method} {c : Code} {Q : State → Prop} {D : va_G} {dA : Nat → ClassId} {A : Nat → Prop} {nL : Nat} {cl : List vw_C} {n0 : Nat} {V0 : sa_V} {Ts : List Cond} {cc : ByteArray} {own : String} (C0 : sa_C p s m args c D dA A nL cl Ts cc own) {pc : Nat} {f : sa_B → Nat × Int → Nat × Int → Option sa_r} (hf : sa_bok0 f (fun x y => x - x / y * y)) (hd : decode cc pc = .ok (.irem, 1)) : sa_snd p l e R s m args below meth c Q D dA A nL cl n0 V0 pc (so_bin f) := by
  obtain ⟨hx, hb, hts, hown, hml, hK, hA⟩ := C0
  rintro ⟨pc, lo, st, cs, G, kc, ks⟩ sts rfl h k V H locs ls hG
  unfold so_bin at h
  dsimp only at h
  split at h
  · rename_i y x rest
    split at h
    · rename_i r hr
      have hq := hf V G x y r hG.1.1 hr
      exact lv_irem hx hb hd hq.1 (sa_push_ok hG hq.2 h k)
    · cases h
  · cases h
theorem sa_k0 {V : sa_V} {G : sa_B} (h : sa_I V G) {q : Nat × Int} (hq : q.1 = 0) : sa_i V q = Int32.ofInt q.2 := by
  obtain ⟨s, n⟩ := q
  subst hq
  exact sa_i_0 h n
theorem sa_is_c {V : sa_V} {G : sa_B} (h : sa_I V G) (x : Int32) : sa_is V (.inl (0, x.toInt)) x := by
  show sa_i V (0, x.toInt) = x
  rw [sa_i_0 h, Int32.ofInt_toInt]
def sa_top : sa_r := .inr (-2147483648, 2147483647)
theorem sa_is_top (V : sa_V) (x : Int32) : sa_is V sa_top x := ⟨by have := Int32.le_toInt x; simpa using this, by have := Int32.toInt_lt x; simp at this; show x.toInt ≤ 2147483647; omega⟩
def sf_add (G : sa_B) (x y : Nat × Int) : Option sa_r :=
  if x.1 = 0 then some (.inl (y.1, y.2 + x.2)) else if y.1 = 0 then some (.inl (x.1, x.2 + y.2)) else match sa_iv G x, sa_iv G y with
  | some a, some b => if -2147483648 ≤ a.1 + b.1 ∧ a.2 + b.2 ≤ 2147483647 then some (.inr (a.1 + b.1, a.2 + b.2)) else some sa_top
  | _, _ => some sa_top
theorem sf_add_ok : sa_bok sf_add (fun x y => x + y) := by
  intro V G x y r hI h
  unfold sf_add at h
  split at h
  · rename_i h1
    cases h
    show sa_i V _ = _ + _
    rw [sa_k0 hI h1, Int32.add_comm, sa_i_add]
  · split at h
    · rename_i h1
      cases h
      show sa_i V _ = _ + _
      rw [sa_k0 hI h1, sa_i_add]
    · split at h
      · rename_i a b ha hb
        split at h
        · rename_i h2
          cases h
          obtain ⟨e1, l1, u1⟩ := sa_iv_ok hI ha
          obtain ⟨e2, l2, u2⟩ := sa_iv_ok hI hb
          have e3 : (sa_i V x + sa_i V y).toInt = (sa_i V x).toInt + (sa_i V y).toInt := by
            conv => lhs; rw [← Int32.ofInt_toInt (sa_i V x), ← Int32.ofInt_toInt (sa_i V y), ← Int32.ofInt_add]
            exact sa_ofInt_toInt (by omega) (by omega)
          show _ ≤ (sa_i V x + sa_i V y).toInt ∧ (sa_i V x + sa_i V y).toInt ≤ _
          rw [e3]
          exact ⟨by show a.1 + b.1 ≤ _; omega, by show _ ≤ a.2 + b.2; omega⟩
        · cases h; exact sa_is_top V _
      · cases h; exact sa_is_top V _
def sf_sub (G : sa_B) (x y : Nat × Int) : Option sa_r :=
  if y.1 = 0 then some (.inl (x.1, x.2 + (-y.2))) else match sa_iv G x, sa_iv G y with
  | some a, some b => if -2147483648 ≤ a.1 - b.2 ∧ a.2 - b.1 ≤ 2147483647 then some (.inr (a.1 - b.2, a.2 - b.1)) else some sa_top
  | _, _ => some sa_top
theorem sf_sub_ok : sa_bok sf_sub (fun x y => x - y) := by
  intro V G x y r hI h
  unfold sf_sub at h
  split at h
  · rename_i h1
    cases h
    show sa_i V _ = _ - _
    rw [← sa_i_add V x (-y.2), sa_k0 hI h1, Int32.ofInt_neg, Int32.sub_eq_add_neg]
  · split at h
    · rename_i a b ha hb
      split at h
      · rename_i h2
        cases h
        obtain ⟨e1, l1, u1⟩ := sa_iv_ok hI ha
        obtain ⟨e2, l2, u2⟩ := sa_iv_ok hI hb
        have e3 : (sa_i V x - sa_i V y).toInt = (sa_i V x).toInt - (sa_i V y).toInt := by
          conv => lhs; rw [← Int32.ofInt_toInt (sa_i V x), ← Int32.ofInt_toInt (sa_i V y), ← Int32.ofInt_sub]
          exact sa_ofInt_toInt (by omega) (by omega)
        show _ ≤ (sa_i V x - sa_i V y).toInt ∧ (sa_i V x - sa_i V y).toInt ≤ _
        rw [e3]
        exact ⟨by show a.1 - b.2 ≤ _; omega, by show _ ≤ a.2 - b.1; omega⟩
      · cases h; exact sa_is_top V _
    · cases h; exact sa_is_top V _
/-- a number that is known -/
def sa_kv (G : sa_B) (x : Nat × Int) : Option Int := match sa_iv G x with
  | some b => if b.1 = b.2 then some b.1 else none
  | none => none
theorem sa_kv_ok {V : sa_V} {G : sa_B} {x : Nat × Int} {a : Int} (hI : sa_I V G) (h : sa_kv G x = some a) : sa_i V x = Int32.ofInt a := by
  unfold sa_kv at h
  split at h
  · rename_i b hb
    split at h
    · rename_i h1
      cases h
      obtain ⟨e1, l1, u1⟩ := sa_iv_ok hI hb
      rw [show b.1 = (sa_i V x).toInt by omega, Int32.ofInt_toInt]
    · cases h
  · cases h
/-- two known numbers: the answer itself; else any number -/
def sf_cc (g : Int32 → Int32 → Int32) (G : sa_B) (x y : Nat × Int) : Option sa_r := match sa_kv G x, sa_kv G y with
  | some a, some b => some (.inl (0, (g (Int32.ofInt a) (Int32.ofInt b)).toInt))
  | _, _ => some sa_top
theorem sf_cc_ok (g : Int32 → Int32 → Int32) : sa_bok (sf_cc g) g := by
  intro V G x y r hI h
  unfold sf_cc at h
  split at h
  · rename_i a b ha hb
    cases h
    rw [sa_kv_ok hI ha, sa_kv_ok hI hb]
    exact sa_is_c hI _
  · cases h; exact sa_is_top V _
/-- nothing shifted is nothing -/
theorem sa_shr0 (y : Int32) : (0 : Int32) >>> (y &&& 31) = 0 := by
  apply Int32.toBitVec_inj.mp
  rw [Int32.toBitVec_shiftRight]
  simp
def sf_shr (_ : sa_B) (x y : Nat × Int) : Option sa_r :=
  if x.1 = 0 ∧ x.2 = 0 then some (.inl (0, 0)) else if x.1 = 0 ∧ y.1 = 0 then some (.inl (0, (Int32.ofInt x.2 >>> (Int32.ofInt y.2 &&& 31)).toInt)) else some sa_top
theorem sf_shr_ok : sa_bok sf_shr (fun x y => x >>> (y &&& 31)) := by
  intro V G x y r hI h
  unfold sf_shr at h
  split at h
  · rename_i h1
    cases h
    show sa_i V (0, 0) = sa_i V x >>> (sa_i V y &&& 31)
    rw [sa_k0 hI h1.1, h1.2, sa_i_0 hI]
    exact (sa_shr0 _).symm
  · split at h
    · rename_i h1
      cases h
      rw [sa_k0 hI h1.1, sa_k0 hI h1.2]
      exact sa_is_c hI _
    · cases h; exact sa_is_top V _
/-- with a mask: from 0 to the mask -/
def sf_and (_ : sa_B) (x y : Nat × Int) : Option sa_r :=
  if x.1 = 0 ∧ y.1 = 0 then some (.inl (0, (Int32.ofInt x.2 &&& Int32.ofInt y.2).toInt)) else if y.1 = 0 ∧ y.2 = -1 then some (.inl x) else if y.1 = 0 ∧ 0 ≤ y.2 ∧ y.2 ≤ 2147483647 then some (.inr (0, y.2)) else some sa_top
theorem sa_and_mask (x : Int32) {n : Int} (h0 : 0 ≤ n) (h1 : n ≤ 2147483647) : 0 ≤ (x &&& Int32.ofInt n).toInt ∧ (x &&& Int32.ofInt n).toInt ≤ n := by
  obtain ⟨k, rfl⟩ := Int.eq_ofNat_of_zero_le h0
  have hk : k < 2147483648 := by omega
  have hb : (Int32.ofInt (k : Int)).toBitVec = BitVec.ofNat 32 k := by
    show BitVec.ofInt 32 (k : Int) = BitVec.ofNat 32 k
    exact BitVec.ofInt_natCast 32 k
  have ht : (x &&& Int32.ofInt (k : Int)).toBitVec.toNat ≤ k := by
    rw [Int32.toBitVec_and, hb, BitVec.toNat_and, BitVec.toNat_ofNat, Nat.mod_eq_of_lt (by omega)]
    exact Nat.and_le_right
  have hi : (x &&& Int32.ofInt (k : Int)).toInt = ((x &&& Int32.ofInt (k : Int)).toBitVec.toNat : Int) := by
    show (x &&& Int32.ofInt (k : Int)).toBitVec.toInt = _
    rw [BitVec.toInt_eq_toNat_of_lt]
    omega
  rw [hi]
  omega
theorem sf_and_ok : sa_bok sf_and (fun x y => x &&& y) := by
  intro V G x y r hI h
  unfold sf_and at h
  split at h
  · rename_i h1
    cases h
    rw [sa_k0 hI h1.1, sa_k0 hI h1.2]
    exact sa_is_c hI _
  · split at h
    · rename_i h1
      cases h
      rw [sa_k0 hI h1.1, h1.2]
      show sa_i V x = sa_i V x &&& Int32.ofInt (-1)
      apply Int32.toBitVec_inj.mp
      rw [Int32.toBitVec_and, show (Int32.ofInt (-1)).toBitVec = BitVec.allOnes 32 from rfl, BitVec.and_allOnes]
    · split at h
      · rename_i h1
        cases h
        rw [sa_k0 hI h1.1]
        exact sa_and_mask _ h1.2.1 h1.2.2
      · cases h; exact sa_is_top V _
/-- a divisor that is a constant, not 0 -/
def sf_dd (g : Int32 → Int32 → Int32) (_ : sa_B) (x y : Nat × Int) : Option sa_r :=
  if y.1 = 0 ∧ ¬ Int32.ofInt y.2 = 0 then (if x.1 = 0 then some (.inl (0, (g (Int32.ofInt x.2) (Int32.ofInt y.2)).toInt)) else some sa_top) else none
theorem sf_dd_ok (g : Int32 → Int32 → Int32) : sa_bok0 (sf_dd g) g := by
  intro V G x y r hI h
  unfold sf_dd at h
  split at h
  · rename_i h1
    rw [sa_k0 hI h1.1]
    refine ⟨h1.2, ?_⟩
    split at h
    · rename_i h2
      cases h
      rw [sa_k0 hI h2]
      exact sa_is_c hI _
    · cases h; exact sa_is_top V _
  · cases h
end SA1
end
section
section SA2
def sa_hi (G : sa_B) (s : Nat) (z : Int) : sa_B := match G[s]? with
  | some b => G.set s (b.1, if b.2 ≤ z then b.2 else z)
  | none => G
def sa_lw (G : sa_B) (s : Nat) (z : Int) : sa_B := match G[s]? with
  | some b => G.set s (if z ≤ b.1 then b.1 else z, b.2)
  | none => G
theorem sa_I_hi {V : sa_V} {G : sa_B} {s : Nat} {z : Int} (h : sa_I V G) (hz : (V s).1 ≤ z) : sa_I V (sa_hi G s z) := by
  unfold sa_hi
  split
  · rename_i b hb
    refine ⟨fun i b' hi => ?_, h.2⟩
    by_cases hs : s = i
    · subst hs
      have hl := (List.getElem?_eq_some_iff.mp hb).1
      rw [List.getElem?_set_self hl] at hi
      cases hi
      obtain ⟨h1, h2⟩ := h.1 _ _ hb
      refine ⟨h1, ?_⟩
      show _ ≤ (if b.2 ≤ z then b.2 else z)
      split <;> omega
    · rw [List.getElem?_set_ne hs] at hi
      exact h.1 i b' hi
  · exact h
theorem sa_I_lw {V : sa_V} {G : sa_B} {s : Nat} {z : Int} (h : sa_I V G) (hz : z ≤ (V s).1) : sa_I V (sa_lw G s z) := by
  unfold sa_lw
  split
  · rename_i b hb
    refine ⟨fun i b' hi => ?_, h.2⟩
    by_cases hs : s = i
    · subst hs
      have hl := (List.getElem?_eq_some_iff.mp hb).1
      rw [List.getElem?_set_self hl] at hi
      cases hi
      obtain ⟨h1, h2⟩ := h.1 _ _ hb
      refine ⟨?_, h2⟩
      show (if z ≤ b.1 then b.1 else z) ≤ _
      split <;> omega
    · rw [List.getElem?_set_ne hs] at hi
      exact h.1 i b' hi
  · exact h
theorem sa_hi_len (G : sa_B) (s : Nat) (z : Int) : (sa_hi G s z).length = G.length := by
  unfold sa_hi
  split
  · exact List.length_set
  · rfl
theorem sa_lw_len (G : sa_B) (s : Nat) (z : Int) : (sa_lw G s z).length = G.length := by
  unfold sa_lw
  split
  · exact List.length_set
  · rfl
abbrev sa_R : Type := sa_B → Nat × Int → Nat × Int → List sa_B
def sa_rok (r : sa_R) (P : Int32 → Int32 → Prop) : Prop := ∀ (V : sa_V) (G : sa_B) (x y : Nat × Int), sa_I V G → P (sa_i V x) (sa_i V y) → ∃ G', G' ∈ r G x y ∧ sa_I V G' ∧ G'.length = G.length
def sr_lt : sa_R := fun G x y => match sa_iv G x, sa_iv G y with
  | some a, some b => if a.1 < b.2 then [sa_lw (sa_hi G x.1 (b.2 - 1 - x.2)) y.1 (a.1 + 1 - y.2)] else []
  | _, _ => [G]
theorem sr_lt_ok : sa_rok sr_lt (fun x y => x < y) := by
  intro V G x y hI h
  rw [Int32.lt_iff_toInt_lt] at h
  unfold sr_lt
  split
  · rename_i a b ha hb
    obtain ⟨e1, l1, u1⟩ := sa_iv_ok hI ha
    obtain ⟨e2, l2, u2⟩ := sa_iv_ok hI hb
    rw [if_pos (by omega)]
    exact ⟨_, List.mem_cons_self, sa_I_lw (sa_I_hi hI (by omega)) (by omega), by rw [sa_lw_len, sa_hi_len]⟩
  · exact ⟨_, List.mem_cons_self, hI, rfl⟩
def sr_le : sa_R := fun G x y => match sa_iv G x, sa_iv G y with
  | some a, some b => if a.1 ≤ b.2 then [sa_lw (sa_hi G x.1 (b.2 - x.2)) y.1 (a.1 - y.2)] else []
  | _, _ => [G]
theorem sr_le_ok : sa_rok sr_le (fun x y => x ≤ y) := by
  intro V G x y hI h
  rw [Int32.le_iff_toInt_le] at h
  unfold sr_le
  split
  · rename_i a b ha hb
    obtain ⟨e1, l1, u1⟩ := sa_iv_ok hI ha
    obtain ⟨e2, l2, u2⟩ := sa_iv_ok hI hb
    rw [if_pos (by omega)]
    exact ⟨_, List.mem_cons_self, sa_I_lw (sa_I_hi hI (by omega)) (by omega), by rw [sa_lw_len, sa_hi_len]⟩
  · exact ⟨_, List.mem_cons_self, hI, rfl⟩
def sr_eq : sa_R := fun G x y => match sa_iv G x, sa_iv G y with
  | some a, some b => if a.1 ≤ b.2 ∧ b.1 ≤ a.2 then [sa_lw (sa_hi (sa_lw (sa_hi G x.1 (b.2 - x.2)) x.1 (b.1 - x.2)) y.1 (a.2 - y.2)) y.1 (a.1 - y.2)] else []
  | _, _ => [G]
theorem sr_eq_ok : sa_rok sr_eq (fun x y => x = y) := by
  intro V G x y hI h
  unfold sr_eq
  split
  · rename_i a b ha hb
    obtain ⟨e1, l1, u1⟩ := sa_iv_ok hI ha
    obtain ⟨e2, l2, u2⟩ := sa_iv_ok hI hb
    have h : sa_i V x = sa_i V y := h
    rw [h] at e1 l1 u1
    rw [if_pos (by omega)]
    exact ⟨_, List.mem_cons_self, sa_I_lw (sa_I_hi (sa_I_lw (sa_I_hi hI (by omega)) (by omega)) (by omega)) (by omega), by rw [sa_lw_len, sa_hi_len, sa_lw_len, sa_hi_len]⟩
  · exact ⟨_, List.mem_cons_self, hI, rfl⟩
def sr_ne : sa_R := fun G x y => match sa_iv G x, sa_iv G y with
  | some a, some b => if b.1 = b.2 then (if a.1 < b.1 then [sa_hi G x.1 (b.1 - 1 - x.2)] else []) ++ (if b.1 < a.2 then [sa_lw G x.1 (b.1 + 1 - x.2)] else []) else [G]
  | _, _ => [G]
theorem sr_ne_ok : sa_rok sr_ne (fun x y => ¬ x = y) := by
  intro V G x y hI h
  unfold sr_ne
  split
  · rename_i a b ha hb
    obtain ⟨e1, l1, u1⟩ := sa_iv_ok hI ha
    obtain ⟨e2, l2, u2⟩ := sa_iv_ok hI hb
    have h3 : ¬ (sa_i V x).toInt = (sa_i V y).toInt := fun q => h (Int32.toInt_inj.mp q)
    split
    · by_cases hlt : (sa_i V x).toInt < (sa_i V y).toInt
      · exact ⟨_, List.mem_append_left _ (by rw [if_pos (by omega)]; exact List.mem_cons_self), sa_I_hi hI (by omega), sa_hi_len _ _ _⟩
      · exact ⟨_, List.mem_append_right _ (by rw [if_pos (by omega)]; exact List.mem_cons_self), sa_I_lw hI (by omega), sa_lw_len _ _ _⟩
    · exact ⟨_, List.mem_cons_self, hI, rfl⟩
  · exact ⟨_, List.mem_cons_self, hI, rfl⟩
def sr_flip (r : sa_R) : sa_R := fun G x y => r G y x
theorem sr_flip_ok {r : sa_R} {P : Int32 → Int32 → Prop} (h : sa_rok r P) : sa_rok (sr_flip r) (fun x y => P y x) := fun V G x y hI hp => h V G y x hI hp
theorem sr_nlt_ok : sa_rok (sr_flip sr_le) (fun x y => ¬ x < y) := fun V G x y hI hp => sr_le_ok V G y x hI (Int32.not_lt.mp hp)
theorem sr_nle_ok : sa_rok (sr_flip sr_lt) (fun x y => ¬ x ≤ y) := fun V G x y hI hp => sr_lt_ok V G y x hI (Int32.not_le.mp hp)
theorem sr_nle'_ok : sa_rok sr_lt (fun x y => ¬ y ≤ x) := fun V G x y hI hp => sr_lt_ok V G x y hI (Int32.not_le.mp hp)
theorem sr_nlt'_ok : sa_rok sr_le (fun x y => ¬ y < x) := fun V G x y hI hp => sr_le_ok V G x y hI (Int32.not_lt.mp hp)
def sa_br (r : sa_R) (S : sa_S) (x y : Nat × Int) (pc : Nat) (rest : List sa_v) : List sa_S := (r S.2.2.2.2.1 x y).map (fun G' => (pc, S.2.1, rest, S.2.2.2.1, G', S.2.2.2.2.2))
theorem sa_br_ok {p : Program} {l : Launch} {e : Env} {R : Room} {s : State} {m : MethodId} {args : Array Value} {below : List Frame} {meth : Method} {c : Code} {Q : State → Prop} {D : va_G} {dA : Nat → ClassId} {A : Nat → Prop} {nL : Nat} {cl : List vw_C} {n0 : Nat} {V0 : sa_V} {r : sa_R} {P : Int32 → Int32 → Prop} (hr : sa_rok r P) {lo : sa_L} {st : List sa_v} {cs : List sa_c} {G : sa_B} {kc ks pc0 pc : Nat} {x y : Nat × Int} {rest : List sa_v} {V : sa_V} {H : Heap} {locs : List Loc} {ls : Array Slot} (hG : sa_G D dA A nL cl n0 V0 s.heap V lo cs G H locs ls) (hp : P (sa_i V x) (sa_i V y))
    (k : ∀ S' ∈ sa_br r (pc0, lo, st, cs, G, kc, ks) x y pc rest, sa_W p l e R s m args below meth c Q D dA A nL cl n0 V0 S') : W p l e R s m args below meth c H locs kc ks Q (F0 m pc ls (rest.map (sa_val V))) := by
  obtain ⟨G', h1, h2⟩ := hr V G x y hG.1.1 hp
  exact k (pc, lo, rest, cs, G', kc, ks) (List.mem_map.mpr ⟨G', h1, rfl⟩) V H locs ls ⟨⟨h2.1, by rw [h2.2]; exact hG.1.2.1, hG.1.2.2⟩, hG.2⟩
def so_icmp (rt rf : sa_R) (tgt : Nat) : sa_op := fun S => match S.2.2.1 with
  | .inl y :: .inl x :: rest => some (sa_br rt S x y tgt rest ++ sa_br rf S x y (S.1 + 3) rest)
  | _ => none
def so_if (rt rf : sa_R) (tgt : Nat) : sa_op := fun S => match S.2.2.1 with
  | .inl x :: rest => some (sa_br rt S x (0, 0) tgt rest ++ sa_br rf S x (0, 0) (S.1 + 3) rest)
  | _ => none
theorem sn_icmp_eq {p : Program} {l : Launch} {e : Env} {R : Room} {s : State} {m : MethodId} {args : Array Value} {below : List Frame} {meth : Method} {c : Code} {Q : State → Prop} {D : va_G} {dA : Nat → ClassId} {A : Nat → Prop} {nL : Nat} {cl : List vw_C} {n0 : Nat} {V0 : sa_V} {Ts : List Cond} {cc : ByteArray} {own : String} (C0 : sa_C p s m args c D dA A nL cl Ts cc own) {pc : Nat} {off : Int} {tgt : Nat} (hd : decode cc pc = .ok (.if_icmp .eq off, 3)) (ht : (pc : Int) + off = (tgt : Int)) : sa_snd p l e R s m args below meth c Q D dA A nL cl n0 V0 pc (so_icmp sr_eq sr_ne tgt) := by
  obtain ⟨hx, hb, hts, hown, hml, hK, hA⟩ := C0
  rintro ⟨pc, lo, st, cs, G, kc, ks⟩ sts rfl h k V H locs ls hG
  unfold so_icmp at h
  dsimp only at h
  split at h
  · rename_i y x rest
    cases h
    exact lv_icmp_eq hx hb hd ht (fun hp => sa_br_ok sr_eq_ok hG hp (fun S' hS => k S' (List.mem_append_left _ hS))) (fun hp => sa_br_ok sr_ne_ok hG hp (fun S' hS => k S' (List.mem_append_right _ hS)))
  · cases h
theorem sn_if_eq {p : Program} {l : Launch} {e : Env} {R : Room} {s : State} {m : MethodId} {args : Array Value} {below : List Frame} {meth : Method} {c : Code} {Q : State → Prop} {D : va_G} {dA : Nat → ClassId} {A : Nat → Prop} {nL : Nat} {cl : List vw_C} {n0 : Nat} {V0 : sa_V} {Ts : List Cond} {cc : ByteArray} {own : String} (C0 : sa_C p s m args c D dA A nL cl Ts cc own) {pc : Nat} {off : Int} {tgt : Nat} (hd : decode cc pc = .ok (.ifCond .eq off, 3)) (ht : (pc : Int) + off = (tgt : Int)) : sa_snd p l e R s m args below meth c Q D dA A nL cl n0 V0 pc (so_if sr_eq sr_ne tgt) := by
  obtain ⟨hx, hb, hts, hown, hml, hK, hA⟩ := C0
  rintro ⟨pc, lo, st, cs, G, kc, ks⟩ sts rfl h k V H locs ls hG
  unfold so_if at h
  dsimp only at h
  split at h
  · rename_i x rest
    cases h
    have e0 : sa_i V (0, 0) = 0 := (sa_i_0 hG.1.1 0).trans rfl
    exact lv_if_eq hx hb hd ht (fun hp => sa_br_ok sr_eq_ok hG (by rw [e0]; exact hp) (fun S' hS => k S' (List.mem_append_left _ hS))) (fun hp => sa_br_ok sr_ne_ok hG (by rw [e0]; exact hp) (fun S' hS => k S' (List.mem_append_right _ hS)))
  · cases h
theorem sn_icmp_ne {p : Program} {l : Launch} {e : Env} {R : Room} {s : State} {m : MethodId} {args : Array Value} {below : List Frame} {meth : Method} {c : Code} {Q : State → Prop} {D : va_G} {dA : Nat → ClassId} {A : Nat → Prop} {nL : Nat} {cl : List vw_C} {n0 : Nat} {V0 : sa_V} {Ts : List Cond} {cc : ByteArray} {own : String} (C0 : sa_C p s m args c D dA A nL cl Ts cc own) {pc : Nat} {off : Int} {tgt : Nat} (hd : decode cc pc = .ok (.if_icmp .ne off, 3)) (ht : (pc : Int) + off = (tgt : Int)) : sa_snd p l e R s m args below meth c Q D dA A nL cl n0 V0 pc (so_icmp sr_ne sr_eq tgt) := by
  obtain ⟨hx, hb, hts, hown, hml, hK, hA⟩ := C0
  rintro ⟨pc, lo, st, cs, G, kc, ks⟩ sts rfl h k V H locs ls hG
  unfold so_icmp at h
  dsimp only at h
  split at h
  · rename_i y x rest
    cases h
    exact lv_icmp_ne hx hb hd ht (fun hp => sa_br_ok sr_ne_ok hG hp (fun S' hS => k S' (List.mem_append_left _ hS))) (fun hp => sa_br_ok sr_eq_ok hG hp (fun S' hS => k S' (List.mem_append_right _ hS)))
  · cases h
theorem sn_if_ne {p : Program} {l : Launch} {e : Env} {R : Room} {s : State} {m : MethodId} {args : Array Value} {below : List Frame} {meth : Method} {c : Code} {Q : State → Prop} {D : va_G} {dA : Nat → ClassId} {A : Nat → Prop} {nL : Nat} {cl : List vw_C} {n0 : Nat} {V0 : sa_V} {Ts : List Cond} {cc : ByteArray} {own : String} (C0 : sa_C p s m args c D dA A nL cl Ts cc own) {pc : Nat} {off : Int} {tgt : Nat} (hd : decode cc pc = .ok (.ifCond .ne off, 3)) (ht : (pc : Int) + off = (tgt : Int)) : sa_snd p l e R s m args below meth c Q D dA A nL cl n0 V0 pc (so_if sr_ne sr_eq tgt) := by
  obtain ⟨hx, hb, hts, hown, hml, hK, hA⟩ := C0
  rintro ⟨pc, lo, st, cs, G, kc, ks⟩ sts rfl h k V H locs ls hG
  unfold so_if at h
  dsimp only at h
  split at h
  · rename_i x rest
    cases h
    have e0 : sa_i V (0, 0) = 0 := (sa_i_0 hG.1.1 0).trans rfl
    exact lv_if_ne hx hb hd ht (fun hp => sa_br_ok sr_ne_ok hG (by rw [e0]; exact hp) (fun S' hS => k S' (List.mem_append_left _ hS))) (fun hp => sa_br_ok sr_eq_ok hG (by rw [e0]; exact hp) (fun S' hS => k S' (List.mem_append_right _ hS)))
  · cases h
theorem sn_icmp_lt {p : Program} {l : Launch} {e : Env} {R : Room} {s : State} {m : MethodId} {args : Array Value} {below : List Frame} {meth : Method} {c : Code} {Q : State → Prop} {D : va_G} {dA : Nat → ClassId} {A : Nat → Prop} {nL : Nat} {cl : List vw_C} {n0 : Nat} {V0 : sa_V} {Ts : List Cond} {cc : ByteArray} {own : String} (C0 : sa_C p s m args c D dA A nL cl Ts cc own) {pc : Nat} {off : Int} {tgt : Nat} (hd : decode cc pc = .ok (.if_icmp .lt off, 3)) (ht : (pc : Int) + off = (tgt : Int)) : sa_snd p l e R s m args below meth c Q D dA A nL cl n0 V0 pc (so_icmp sr_lt (sr_flip sr_le) tgt) := by
  obtain ⟨hx, hb, hts, hown, hml, hK, hA⟩ := C0
  rintro ⟨pc, lo, st, cs, G, kc, ks⟩ sts rfl h k V H locs ls hG
  unfold so_icmp at h
  dsimp only at h
  split at h
  · rename_i y x rest
    cases h
    exact lv_icmp_lt hx hb hd ht (fun hp => sa_br_ok sr_lt_ok hG hp (fun S' hS => k S' (List.mem_append_left _ hS))) (fun hp => sa_br_ok sr_nlt_ok hG hp (fun S' hS => k S' (List.mem_append_right _ hS)))
  · cases h
theorem sn_if_lt {p : Program} {l : Launch} {e : Env} {R : Room} {s : State} {m : MethodId} {args : Array Value} {below : List Frame} {meth : Method} {c : Code} {Q : State → Prop} {D : va_G} {dA : Nat → ClassId} {A : Nat → Prop} {nL : Nat} {cl : List vw_C} {n0 : Nat} {V0 : sa_V} {Ts : List Cond} {cc : ByteArray} {own : String} (C0 : sa_C p s m args c D dA A nL cl Ts cc own) {pc : Nat} {off : Int} {tgt : Nat} (hd : decode cc pc = .ok (.ifCond .lt off, 3)) (ht : (pc : Int) + off = (tgt : Int)) : sa_snd p l e R s m args below meth c Q D dA A nL cl n0 V0 pc (so_if sr_lt (sr_flip sr_le) tgt) := by
  obtain ⟨hx, hb, hts, hown, hml, hK, hA⟩ := C0
  rintro ⟨pc, lo, st, cs, G, kc, ks⟩ sts rfl h k V H locs ls hG
  unfold so_if at h
  dsimp only at h
  split at h
  · rename_i x rest
    cases h
    have e0 : sa_i V (0, 0) = 0 := (sa_i_0 hG.1.1 0).trans rfl
    exact lv_if_lt hx hb hd ht (fun hp => sa_br_ok sr_lt_ok hG (by rw [e0]; exact hp) (fun S' hS => k S' (List.mem_append_left _ hS))) (fun hp => sa_br_ok sr_nlt_ok hG (by rw [e0]; exact hp) (fun S' hS => k S' (List.mem_append_right _ hS)))
  · cases h
theorem sn_icmp_ge {p : Program} {l : Launch} {e : Env} {R : Room} {s : State} {m : MethodId} {args : Array Value} {below : List Frame} {meth : Method} {c : Code} {Q : State → Prop} {D : va_G} {dA : Nat → ClassId} {A : Nat → Prop} {nL : Nat} {cl : List vw_C} {n0 : Nat} {V0 : sa_V} {Ts : List Cond} {cc : ByteArray} {own : String} (C0 : sa_C p s m args c D dA A nL cl Ts cc own) {pc : Nat} {off : Int} {tgt : Nat} (hd : decode cc pc = .ok (.if_icmp .ge off, 3)) (ht : (pc : Int) + off = (tgt : Int)) : sa_snd p l e R s m args below meth c Q D dA A nL cl n0 V0 pc (so_icmp (sr_flip sr_le) sr_lt tgt) := by
  obtain ⟨hx, hb, hts, hown, hml, hK, hA⟩ := C0
  rintro ⟨pc, lo, st, cs, G, kc, ks⟩ sts rfl h k V H locs ls hG
  unfold so_icmp at h
  dsimp only at h
  split at h
  · rename_i y x rest
    cases h
    exact lv_icmp_ge hx hb hd ht (fun hp => sa_br_ok (sr_flip_ok sr_le_ok) hG hp (fun S' hS => k S' (List.mem_append_left _ hS))) (fun hp => sa_br_ok sr_nle'_ok hG hp (fun S' hS => k S' (List.mem_append_right _ hS)))
  · cases h
theorem sn_if_ge {p : Program} {l : Launch} {e : Env} {R : Room} {s : State} {m : MethodId} {args : Array Value} {below : List Frame} {meth : Method} {c : Code} {Q : State → Prop} {D : va_G} {dA : Nat → ClassId} {A : Nat → Prop} {nL : Nat} {cl : List vw_C} {n0 : Nat} {V0 : sa_V} {Ts : List Cond} {cc : ByteArray} {own : String} (C0 : sa_C p s m args c D dA A nL cl Ts cc own) {pc : Nat} {off : Int} {tgt : Nat} (hd : decode cc pc = .ok (.ifCond .ge off, 3)) (ht : (pc : Int) + off = (tgt : Int)) : sa_snd p l e R s m args below meth c Q D dA A nL cl n0 V0 pc (so_if (sr_flip sr_le) sr_lt tgt) := by
  obtain ⟨hx, hb, hts, hown, hml, hK, hA⟩ := C0
  rintro ⟨pc, lo, st, cs, G, kc, ks⟩ sts rfl h k V H locs ls hG
  unfold so_if at h
  dsimp only at h
  split at h
  · rename_i x rest
    cases h
    have e0 : sa_i V (0, 0) = 0 := (sa_i_0 hG.1.1 0).trans rfl
    exact lv_if_ge hx hb hd ht (fun hp => sa_br_ok (sr_flip_ok sr_le_ok) hG (by rw [e0]; exact hp) (fun S' hS => k S' (List.mem_append_left _ hS))) (fun hp => sa_br_ok sr_nle'_ok hG (by rw [e0]; exact hp) (fun S' hS => k S' (List.mem_append_right _ hS)))
  · cases h
theorem sn_icmp_gt {p : Program} {l : Launch} {e : Env} {R : Room} {s : State} {m : MethodId} {args : Array Value} {below : List Frame} {meth : Method} {c : Code} {Q : State → Prop} {D : va_G} {dA : Nat → ClassId} {A : Nat → Prop} {nL : Nat} {cl : List vw_C} {n0 : Nat} {V0 : sa_V} {Ts : List Cond} {cc : ByteArray} {own : String} (C0 : sa_C p s m args c D dA A nL cl Ts cc own) {pc : Nat} {off : Int} {tgt : Nat} (hd : decode cc pc = .ok (.if_icmp .gt off, 3)) (ht : (pc : Int) + off = (tgt : Int)) : sa_snd p l e R s m args below meth c Q D dA A nL cl n0 V0 pc (so_icmp (sr_flip sr_lt) sr_le tgt) := by
  obtain ⟨hx, hb, hts, hown, hml, hK, hA⟩ := C0
  rintro ⟨pc, lo, st, cs, G, kc, ks⟩ sts rfl h k V H locs ls hG
  unfold so_icmp at h
  dsimp only at h
  split at h
  · rename_i y x rest
    cases h
    exact lv_icmp_gt hx hb hd ht (fun hp => sa_br_ok (sr_flip_ok sr_lt_ok) hG hp (fun S' hS => k S' (List.mem_append_left _ hS))) (fun hp => sa_br_ok sr_nlt'_ok hG hp (fun S' hS => k S' (List.mem_append_right _ hS)))
  · cases h
theorem sn_if_gt {p : Program} {l : Launch} {e : Env} {R : Room} {s : State} {m : MethodId} {args : Array Value} {below : List Frame} {meth : Method} {c : Code} {Q : State → Prop} {D : va_G} {dA : Nat → ClassId} {A : Nat → Prop} {nL : Nat} {cl : List vw_C} {n0 : Nat} {V0 : sa_V} {Ts : List Cond} {cc : ByteArray} {own : String} (C0 : sa_C p s m args c D dA A nL cl Ts cc own) {pc : Nat} {off : Int} {tgt : Nat} (hd : decode cc pc = .ok (.ifCond .gt off, 3)) (ht : (pc : Int) + off = (tgt : Int)) : sa_snd p l e R s m args below meth c Q D dA A nL cl n0 V0 pc (so_if (sr_flip sr_lt) sr_le tgt) := by
  obtain ⟨hx, hb, hts, hown, hml, hK, hA⟩ := C0
  rintro ⟨pc, lo, st, cs, G, kc, ks⟩ sts rfl h k V H locs ls hG
  unfold so_if at h
  dsimp only at h
  split at h
  · rename_i x rest
    cases h
    have e0 : sa_i V (0, 0) = 0 := (sa_i_0 hG.1.1 0).trans rfl
    exact lv_if_gt hx hb hd ht (fun hp => sa_br_ok (sr_flip_ok sr_lt_ok) hG (by rw [e0]; exact hp) (fun S' hS => k S' (List.mem_append_left _ hS))) (fun hp => sa_br_ok sr_nlt'_ok hG (by rw [e0]; exact hp) (fun S' hS => k S' (List.mem_append_right _ hS)))
  · cases h
theorem sn_icmp_le {p : Program} {l : Launch} {e : Env} {R : Room} {s : State} {m : MethodId} {args : Array Value} {below : List Frame} {meth : Method} {c : Code} {Q : State → Prop} {D : va_G} {dA : Nat → ClassId} {A : Nat → Prop} {nL : Nat} {cl : List vw_C} {n0 : Nat} {V0 : sa_V} {Ts : List Cond} {cc : ByteArray} {own : String} (C0 : sa_C p s m args c D dA A nL cl Ts cc own) {pc : Nat} {off : Int} {tgt : Nat} (hd : decode cc pc = .ok (.if_icmp .le off, 3)) (ht : (pc : Int) + off = (tgt : Int)) : sa_snd p l e R s m args below meth c Q D dA A nL cl n0 V0 pc (so_icmp sr_le (sr_flip sr_lt) tgt) := by
  obtain ⟨hx, hb, hts, hown, hml, hK, hA⟩ := C0
  rintro ⟨pc, lo, st, cs, G, kc, ks⟩ sts rfl h k V H locs ls hG
  unfold so_icmp at h
  dsimp only at h
  split at h
  · rename_i y x rest
    cases h
    exact lv_icmp_le hx hb hd ht (fun hp => sa_br_ok sr_le_ok hG hp (fun S' hS => k S' (List.mem_append_left _ hS))) (fun hp => sa_br_ok sr_nle_ok hG hp (fun S' hS => k S' (List.mem_append_right _ hS)))
  · cases h
theorem sn_if_le {p : Program} {l : Launch} {e : Env} {R : Room} {s : State} {m : MethodId} {args : Array Value} {below : List Frame} {meth : Method} {c : Code} {Q : State → Prop} {D : va_G} {dA : Nat → ClassId} {A : Nat → Prop} {nL : Nat} {cl : List vw_C} {n0 : Nat} {V0 : sa_V} {Ts : List Cond} {cc : ByteArray} {own : String} (C0 : sa_C p s m args c D dA A nL cl Ts cc own) {pc : Nat} {off : Int} {tgt : Nat} (hd : decode cc pc = .ok (.ifCond .le off, 3)) (ht : (pc : Int) + off = (tgt : Int)) : sa_snd p l e R s m args below meth c Q D dA A nL cl n0 V0 pc (so_if sr_le (sr_flip sr_lt) tgt) := by
  obtain ⟨hx, hb, hts, hown, hml, hK, hA⟩ := C0
  rintro ⟨pc, lo, st, cs, G, kc, ks⟩ sts rfl h k V H locs ls hG
  unfold so_if at h
  dsimp only at h
  split at h
  · rename_i x rest
    cases h
    have e0 : sa_i V (0, 0) = 0 := (sa_i_0 hG.1.1 0).trans rfl
    exact lv_if_le hx hb hd ht (fun hp => sa_br_ok sr_le_ok hG (by rw [e0]; exact hp) (fun S' hS => k S' (List.mem_append_left _ hS))) (fun hp => sa_br_ok sr_nle_ok hG (by rw [e0]; exact hp) (fun S' hS => k S' (List.mem_append_right _ hS)))
  · cases h
def sa_tsw (S : sa_S) (x : Nat × Int) (rest : List sa_v) : Int → List Nat → List sa_S
  | _, [] => []
  | a, t :: l => sa_br sr_eq S x (0, a) t rest ++ sa_tsw S x rest (a + 1) l
theorem sa_tsw_in {S : sa_S} {x : Nat × Int} {rest : List sa_v} : ∀ (l : List Nat) (a : Int) (j t : Nat), l[j]? = some t → ∀ S' ∈ sa_br sr_eq S x (0, a + j) t rest, S' ∈ sa_tsw S x rest a l
  | [], _, _, _, h => by simp at h
  | t0 :: l, a, 0, t, h => by
    cases h
    intro S' hS
    rw [show a + ((0 : Nat) : Int) = a by omega] at hS
    exact List.mem_append_left _ hS
  | t0 :: l, a, j + 1, t, h => by
    intro S' hS
    rw [show a + ((j + 1 : Nat) : Int) = (a + 1) + (j : Int) by omega] at hS
    exact List.mem_append_right _ (sa_tsw_in l (a + 1) j t (by simpa using h) S' hS)
def so_tsw (a : Int) (tg : List Nat) (df : Nat) : sa_op := fun S => match S.2.2.1 with
  | .inl x :: rest => match sa_iv S.2.2.2.2.1 x with
    | some b => some (sa_tsw S x rest a tg ++ (if a ≤ b.1 ∧ b.2 < a + tg.length then [] else [(df, S.2.1, rest, S.2.2.2)]))
    | none => none
  | _ => none
theorem sn_tsw {p : Program} {l : Launch} {e : Env} {R : Room} {s : State} {m : MethodId} {args : Array Value} {below : List Frame} {meth : Method} {c : Code} {Q : State → Prop} {D : va_G} {dA : Nat → ClassId} {A : Nat → Prop} {nL : Nat} {cl : List vw_C} {n0 : Nat} {V0 : sa_V} {Ts : List Cond} {cc : ByteArray} {own : String} (C0 : sa_C p s m args c D dA A nL cl Ts cc own) {pc : Nat} {dflt a b : Int} {offs : Array Int} {len df : Nat} {tg : List Nat} (hd : decode cc pc = .ok (.tableswitch dflt a b offs, len)) (hb0 : b = a + tg.length - 1) (ha1 : -2147483648 ≤ a) (ha2 : a + tg.length ≤ 2147483647) (ho : offs.toList.map (fun o => (pc : Int) + o) = tg.map Int.ofNat) (ht : (pc : Int) + dflt = (df : Int)) : sa_snd p l e R s m args below meth c Q D dA A nL cl n0 V0 pc (so_tsw a tg df) := by
  obtain ⟨hx, hb, hts, hown, hml, hK, hA⟩ := C0
  rintro ⟨pc, lo, st, cs, G, kc, ks⟩ sts rfl h k V H locs ls hG
  unfold so_tsw at h
  dsimp only at h
  split at h
  · rename_i x rest
    split at h
    · rename_i bb hbb
      cases h
      obtain ⟨e1, l1, u1⟩ := sa_iv_ok hG.1.1 hbb
      by_cases hin : (sa_i V x).toInt < a ∨ b < (sa_i V x).toInt
      · refine lv_tableOut hx hb hd hin ht ?_
        refine k (df, lo, rest, cs, G, kc, ks) (List.mem_append_right _ ?_) V H locs ls hG
        rw [if_neg (by omega)]
        exact List.mem_cons_self
      · have hj : ((sa_i V x).toInt - a).toNat < offs.toList.length := by
          have hlen : offs.toList.length = tg.length := by rw [← List.length_map (f := fun o => (pc : Int) + o), ho, List.length_map]
          rw [hlen]
          omega
        obtain ⟨off, hoff⟩ : ∃ off, offs.toList[((sa_i V x).toInt - a).toNat]? = some off := ⟨_, List.getElem?_eq_getElem hj⟩
        have h5 : (offs.toList.map (fun o => (pc : Int) + o))[((sa_i V x).toInt - a).toNat]? = some ((pc : Int) + off) := by rw [List.getElem?_map, hoff]; rfl
        rw [ho, List.getElem?_map] at h5
        cases h6 : tg[((sa_i V x).toInt - a).toNat]? with
        | none => rw [h6] at h5; cases h5
        | some t =>
          rw [h6] at h5
          have h7 : (pc : Int) + off = (t : Int) := (Option.some.inj h5).symm
          refine lv_tableIn hx hb hd (fun q => hin (Or.inl q)) (fun q => hin (Or.inr q)) (by rw [← Array.getElem?_toList]; exact hoff) h7 ?_
          refine sa_br_ok (st := .inl x :: rest) (pc0 := pc) (y := (0, a + (((sa_i V x).toInt - a).toNat : Int))) sr_eq_ok hG ?_ (fun S' hS => k S' (List.mem_append_left _ (sa_tsw_in tg a _ t h6 S' hS)))
          show sa_i V x = sa_i V _
          rw [sa_i_0 hG.1.1, show a + (((sa_i V x).toInt - a).toNat : Int) = (sa_i V x).toInt by omega, Int32.ofInt_toInt]
    · cases h
  · cases h
def so_lsw (ps : List (Int × Int)) (dflt : Int) : sa_op := fun S => match S.2.2.1 with
  | .inl x :: rest => if x.1 = 0 ∧ -2147483648 ≤ x.2 ∧ x.2 ≤ 2147483647 ∧ 0 ≤ (S.1 : Int) + Op.lookupswitch.offset ps dflt x.2 then some [(((S.1 : Int) + Op.lookupswitch.offset ps dflt x.2).toNat, S.2.1, rest, S.2.2.2)] else none
  | _ => none
theorem sn_lsw {p : Program} {l : Launch} {e : Env} {R : Room} {s : State} {m : MethodId} {args : Array Value} {below : List Frame} {meth : Method} {c : Code} {Q : State → Prop} {D : va_G} {dA : Nat → ClassId} {A : Nat → Prop} {nL : Nat} {cl : List vw_C} {n0 : Nat} {V0 : sa_V} {Ts : List Cond} {cc : ByteArray} {own : String} (C0 : sa_C p s m args c D dA A nL cl Ts cc own) {pc : Nat} {dflt : Int} {ps : Array (Int × Int)} {len : Nat} (hd : decode cc pc = .ok (.lookupswitch dflt ps, len)) (hp : (ps.toList.zip (ps.toList.drop 1)).all (fun (a, next) => a.1 < next.1) = true) : sa_snd p l e R s m args below meth c Q D dA A nL cl n0 V0 pc (so_lsw ps.toList dflt) := by
  obtain ⟨hx, hb, hts, hown, hml, hK, hA⟩ := C0
  rintro ⟨pc, lo, st, cs, G, kc, ks⟩ sts rfl h k V H locs ls hG
  unfold so_lsw at h
  dsimp only at h
  split at h
  · rename_i x rest
    split at h
    · rename_i h1
      cases h
      refine lv_lookup (x := sa_i V x) hx hb hd hp rfl ?_ (k _ List.mem_cons_self V H locs ls hG)
      rw [sa_k0 hG.1.1 h1.1, sa_ofInt_toInt h1.2.1 h1.2.2.1]
      dsimp only
      omega
    · cases h
  · cases h
end SA2
end
section
section SA3
def sa_find (a : Nat) : List sa_c → Nat → Option (Nat × ((Nat × List sa_v) ⊕ (Nat × sa_a)))
  | [], _ => none
  | q :: l, i => if q.1 = a then some (i, q.2) else sa_find a l (i + 1)
theorem sa_find_at {a : Nat} {x : (Nat × List sa_v) ⊕ (Nat × sa_a)} : ∀ {cs : List sa_c} {i j : Nat}, sa_find a cs i = some (j, x) → ∃ d, j = i + d ∧ cs[d]? = some (a, x)
  | [], _, _, h => by cases h
  | q :: l, i, j, h => by
    unfold sa_find at h
    split at h
    · rename_i h1
      cases h
      exact ⟨0, rfl, by rw [← h1]; rfl⟩
    · obtain ⟨d, h1, h2⟩ := sa_find_at h
      exact ⟨d + 1, by omega, by simpa using h2⟩
theorem sa_find_0 {V : sa_V} {dA : Nat → ClassId} {a j : Nat} {x : (Nat × List sa_v) ⊕ (Nat × sa_a)} {cs : List sa_c} (h : sa_find a cs 0 = some (j, x)) : (cs.map (sa_e V dA))[j]? = some (sa_ad V a, sa_el V dA x) := by
  obtain ⟨d, h1, h2⟩ := sa_find_at h
  rw [Nat.zero_add] at h1
  subst h1
  rw [List.getElem?_map, h2]
  rfl
/-- what the rows need of a class -/
def sa_cls (cl : List vw_C) (Ts : List Cond) (ci : Nat) (C : String) (T : u_T) (N : Nat) (ty : Nat → FieldType) : Prop := cl[ci]? = some (C, T, N) ∧ (∀ w ∈ u_ws C T N, w ∈ Ts) ∧ (∀ k, k < N → parseFieldDescriptor (T k).2.2.1 = some (ty k)) ∧ ∀ a, a < N → ∀ b, b < N → a ≠ b → (T a).2.1 ≠ (T b).2.1
def so_get (ci f : Nat) : sa_op := fun S => match S.2.2.1 with
  | .inr (.inl (some a)) :: rest => match sa_find a S.2.2.2.1 0 with
    | some (_, .inl (cj, fs)) => if cj = ci then match fs[f]? with
      | some v => some [(S.1 + 3, S.2.1, v :: rest, S.2.2.2)]
      | none => none
      else none
    | _ => none
  | _ => none
theorem sn_get {p : Program} {l : Launch} {e : Env} {R : Room} {s : State} {m : MethodId} {args : Array Value} {below : List Frame} {meth : Method} {c : Code} {Q : State → Prop} {D : va_G} {dA : Nat → ClassId} {A : Nat → Prop} {nL : Nat} {cl : List vw_C} {n0 : Nat} {V0 : sa_V} {Ts : List Cond} {cc : ByteArray} {own : String} (C0 : sa_C p s m args c D dA A nL cl Ts cc own) {pc : Nat} {ci f N idx : Nat} {C : String} {T : u_T} {ty : Nat → FieldType} (hc : sa_cls cl Ts ci C T N ty) (hd : decode cc pc = .ok (.getfield idx, 3)) (hf : f < N) (hl : Cond.fieldLink own idx (T f).1 (T f).2.1 (T f).2.2.1 ∈ Ts) : sa_snd p l e R s m args below meth c Q D dA A nL cl n0 V0 pc (so_get ci f) := by
  obtain ⟨hx, hb, hts, hown, hml, hK, hA⟩ := C0
  rintro ⟨pc, lo, st, cs, G, kc, ks⟩ sts rfl h k V H locs ls hG
  unfold so_get at h
  dsimp only at h
  split at h
  · rename_i a rest
    split at h
    · rename_i j cj fs hj
      split at h
      · rename_i hcj
        subst hcj
        split at h
        · rename_i v hv
          cases h
          exact va_get (D := D) (v := sa_val V v) hx hb hts hc.2.1 hown hK hG.2.2.1 j (sa_find_0 hj) hc.1 f hf (hts _ hl) (fun _ h9 => h9) (by rw [List.getElem?_map, hv]; rfl) hd (k _ List.mem_cons_self V H locs ls hG)
        · cases h
      · cases h
    · cases h
  · cases h
/-- may this value stand in a field of this type -/
def sa_fit (G : sa_B) (t : FieldType) (v : sa_v) : Bool := match t, v with
  | .int, .inl _ => true
  | .boolean, .inl q => match sa_iv G q with
    | some b => decide (0 ≤ b.1 ∧ b.2 ≤ 1)
    | none => false
  | .long, .inr (.inr _) => true
  | .object _, .inr (.inl _) => true
  | .array _, .inr (.inl _) => true
  | _, _ => false
theorem sa_01 {x : Int32} (h0 : 0 ≤ x.toInt) (h1 : x.toInt ≤ 1) : x = 0 ∨ x = 1 := by
  have h : x.toInt = 0 ∨ x.toInt = 1 := by omega
  rcases h with h | h
  · exact Or.inl (Int32.toInt_inj.mp (by rw [h]; rfl))
  · exact Or.inr (Int32.toInt_inj.mp (by rw [h]; rfl))
theorem sa_fit_ok {V : sa_V} {G : sa_B} {t : FieldType} {v : sa_v} (hI : sa_I V G) (h : sa_fit G t v = true) : narrow t (sa_val V v) = sa_val V v ∧ fits t (sa_val V v) = true := by
  rcases v with q | (_ | r) | j <;> cases t <;> first | (cases h; done) | exact ⟨rfl, rfl⟩ | skip
  · unfold sa_fit at h
    dsimp only at h
    split at h
    · rename_i b hb
      obtain ⟨e1, l1, u1⟩ := sa_iv_ok hI hb
      have h := of_decide_eq_true h
      show narrow .boolean (.int (sa_i V q)) = .int (sa_i V q) ∧ fits .boolean (.int (sa_i V q)) = true
      rcases sa_01 (x := sa_i V q) (by omega) (by omega) with h2 | h2 <;> rw [h2] <;> exact ⟨rfl, rfl⟩
    · cases h
def so_put (ci f : Nat) (t : FieldType) : sa_op := fun S => match S.2.2.1 with
  | v :: .inr (.inl (some a)) :: rest => match sa_find a S.2.2.2.1 0 with
    | some (j, .inl (cj, fs)) => if cj = ci ∧ f < fs.length ∧ sa_fit S.2.2.2.2.1 t v = true then some [(S.1 + 3, S.2.1, rest, S.2.2.2.1.set j (a, .inl (cj, fs.set f v)), S.2.2.2.2)] else none
    | _ => none
  | _ => none
theorem sa_set_map {V : sa_V} {dA : Nat → ClassId} {cs : List sa_c} {j a ci f : Nat} {fs : List sa_v} {v : sa_v} : (cs.map (sa_e V dA)).set j (sa_ad V a, .inr (ci, (fs.map (sa_val V)).set f (sa_val V v))) = (cs.set j (a, .inl (ci, fs.set f v))).map (sa_e V dA) := by
  rw [List.map_set]
  congr 1
  show _ = (sa_ad V a, Sum.inr (ci, (fs.set f v).map (sa_val V)))
  rw [List.map_set]
theorem sn_put {p : Program} {l : Launch} {e : Env} {R : Room} {s : State} {m : MethodId} {args : Array Value} {below : List Frame} {meth : Method} {c : Code} {Q : State → Prop} {D : va_G} {dA : Nat → ClassId} {A : Nat → Prop} {nL : Nat} {cl : List vw_C} {n0 : Nat} {V0 : sa_V} {Ts : List Cond} {cc : ByteArray} {own : String} (C0 : sa_C p s m args c D dA A nL cl Ts cc own) {pc : Nat} {ci f N idx : Nat} {C : String} {T : u_T} {ty : Nat → FieldType} {t : FieldType} (hc : sa_cls cl Ts ci C T N ty) (hd : decode cc pc = .ok (.putfield idx, 3)) (hf : f < N) (hl : Cond.fieldLink own idx (T f).1 (T f).2.1 (T f).2.2.1 ∈ Ts) (hfin : (T f).2.2.2 = false) (hty : ty f = t) : sa_snd p l e R s m args below meth c Q D dA A nL cl n0 V0 pc (so_put ci f t) := by
  obtain ⟨hx, hb, hts, hown, hml, hK, hA⟩ := C0
  rintro ⟨pc, lo, st, cs, G, kc, ks⟩ sts rfl h k V H locs ls hG
  unfold so_put at h
  dsimp only at h
  split at h
  · rename_i v a rest
    split at h
    · rename_i j cj fs hj
      split at h
      · rename_i hh
        obtain ⟨h1, h2, h3⟩ := hh
        subst h1
        cases h
        have hfit := sa_fit_ok hG.1.1 h3
        refine va_put (D := D) (v := sa_val V v) (ty := t) hx hb hts hc.2.1 ty hc.2.2.1 hc.2.2.2 hown hK hG.2.2.1 hG.2.2.2.1 hG.2.2.2.2 j (sa_find_0 hj) hc.1 f hf (hts _ hl) (fun _ h9 => h9) hfin (by rw [← hty]; exact hc.2.2.1 f hf) hfit.1 hfit.2 (by rw [List.length_map]; exact h2) hd (fun H1 locs1 hP hD hS => ?_)
        rw [sa_set_map] at hP hD
        exact k _ List.mem_cons_self V H1 locs1 ls ⟨hG.1, hG.2.1, hP, hD, hS⟩
      · cases h
    · cases h
  · cases h
theorem sn_putF {p : Program} {l : Launch} {e : Env} {R : Room} {s : State} {m : MethodId} {args : Array Value} {below : List Frame} {meth : Method} {c : Code} {Q : State → Prop} {D : va_G} {dA : Nat → ClassId} {A : Nat → Prop} {nL : Nat} {cl : List vw_C} {n0 : Nat} {V0 : sa_V} {Ts : List Cond} {cc : ByteArray} {own : String} (C0 : sa_C p s m args c D dA A nL cl Ts cc own) {pc : Nat} {ci f N idx : Nat} {C : String} {T : u_T} {ty : Nat → FieldType} {t : FieldType} (hc : sa_cls cl Ts ci C T N ty) (hd : decode cc pc = .ok (.putfield idx, 3)) (hf : f < N) (hl : Cond.fieldLink own idx (T f).1 (T f).2.1 (T f).2.2.1 ∈ Ts) (hfin : (T f).2.2.2 = true) (hin2 : meth.name = "<init>") (hdecl : (T f).1 = own) (hty : ty f = t) : sa_snd p l e R s m args below meth c Q D dA A nL cl n0 V0 pc (so_put ci f t) := by
  obtain ⟨hx, hb, hts, hown, hml, hK, hA⟩ := C0
  rintro ⟨pc, lo, st, cs, G, kc, ks⟩ sts rfl h k V H locs ls hG
  unfold so_put at h
  dsimp only at h
  split at h
  · rename_i v a rest
    split at h
    · rename_i j cj fs hj
      split at h
      · rename_i hh
        obtain ⟨h1, h2, h3⟩ := hh
        subst h1
        cases h
        have hfit := sa_fit_ok hG.1.1 h3
        refine va_putF (D := D) (v := sa_val V v) (ty := t) hx hb hts hc.2.1 ty hc.2.2.1 hc.2.2.2 hown hK hG.2.2.1 hG.2.2.2.1 hG.2.2.2.2 j (sa_find_0 hj) hc.1 f hf (hts _ hl) (fun _ h9 => h9) hfin hin2 hdecl (by rw [← hty]; exact hc.2.2.1 f hf) hfit.1 hfit.2 (by rw [List.length_map]; exact h2) hd (fun H1 locs1 hP hD hS => ?_)
        rw [sa_set_map] at hP hD
        exact k _ List.mem_cons_self V H1 locs1 ls ⟨hG.1, hG.2.1, hP, hD, hS⟩
      · cases h
    · cases h
  · cases h
theorem sa_ix {V : sa_V} {G : sa_B} (hI : sa_I V G) {x : Nat × Int} {n : Nat} (h : x.1 = 0 ∧ 0 ≤ x.2 ∧ x.2 ≤ 2147483647) (hn : x.2.toNat < n) : (sa_i V x).toNatClampNeg = x.2.toNat ∧ vp_in (sa_i V x) n := by
  have e1 : (sa_i V x).toInt = x.2 := by rw [sa_k0 hI h.1]; exact sa_ofInt_toInt (by omega) h.2.2
  have e2 : (sa_i V x).toNatClampNeg = x.2.toNat := by rw [← e1]; rfl
  refine ⟨e2, fun q => ?_⟩
  rcases q with q | q
  · rw [Int32.lt_iff_toInt_lt, e1] at q
    have : x.2 < 0 := q
    omega
  · rw [e2] at q
    omega
def sa_ok_ix (x : Nat × Int) : Bool := decide (x.1 = 0 ∧ 0 ≤ x.2 ∧ x.2 ≤ 2147483647)
/-- a place in a row, where it is known -/
def sa_ixn (G : sa_B) (x : Nat × Int) : Option Nat := match sa_iv G x with
  | some b => if b.1 = b.2 ∧ 0 ≤ b.1 then some b.1.toNat else none
  | none => none
theorem sa_ixk {V : sa_V} {G : sa_B} (hI : sa_I V G) {x : Nat × Int} {j : Nat} (h : sa_ixn G x = some j) : (sa_i V x).toNatClampNeg = j ∧ ∀ n, j < n → vp_in (sa_i V x) n := by
  unfold sa_ixn at h
  split at h
  · rename_i b hb
    split at h
    · rename_i h1
      cases h
      obtain ⟨e1, l1, u1⟩ := sa_iv_ok hI hb
      have e0 : (sa_i V x).toInt = b.1 := by omega
      have e2 : (sa_i V x).toNatClampNeg = b.1.toNat := by rw [← e0]; rfl
      refine ⟨e2, fun n hn q => ?_⟩
      rcases q with q | q
      · rw [Int32.lt_iff_toInt_lt, e0] at q
        have : b.1 < 0 := q
        omega
      · rw [e2] at q
        omega
    · cases h
  · cases h
def so_iald (t : Nat) : sa_op := fun S => match S.2.2.1 with
  | .inl x :: .inr (.inl (some a)) :: rest => match sa_find a S.2.2.2.1 0 with
    | some (_, .inr (tt, .inl l)) => if tt = t then match sa_ixn S.2.2.2.2.1 x with
      | some j => match l[j]? with
        | some q => some [(S.1 + 1, S.2.1, .inl q :: rest, S.2.2.2)]
        | none => none
      | none => none
      else none
    | _ => none
  | _ => none
theorem sn_iald {p : Program} {l : Launch} {e : Env} {R : Room} {s : State} {m : MethodId} {args : Array Value} {below : List Frame} {meth : Method} {c : Code} {Q : State → Prop} {D : va_G} {dA : Nat → ClassId} {A : Nat → Prop} {nL : Nat} {cl : List vw_C} {n0 : Nat} {V0 : sa_V} {Ts : List Cond} {cc : ByteArray} {own : String} (C0 : sa_C p s m args c D dA A nL cl Ts cc own) {pc : Nat}  (hd : decode cc pc = .ok (.iaload, 1)) : sa_snd p l e R s m args below meth c Q D dA A nL cl n0 V0 pc (so_iald 0) := by
  obtain ⟨hx, hb, hts, hown, hml, hK, hA⟩ := C0
  rintro ⟨pc, lo, st, cs, G, kc, ks⟩ sts rfl h k V H locs ls hG
  unfold so_iald at h
  dsimp only at h
  split at h
  · rename_i x a rest
    split at h
    · rename_i j tt l9 hj
      split at h
      · rename_i h1
        subst h1
        split at h
        · rename_i jx hjx
          split at h
          · rename_i q hq
            cases h
            have hlt := (List.getElem?_eq_some_iff.mp hq).1
            obtain ⟨i1, i2⟩ := sa_ixk hG.1.1 hjx
            refine va_iald (D := D) hx hb hK hG.2.2.1 j 0 (sa_find_0 hj) rfl (i2 _ hlt) hd ?_
            rw [i1, show sa_f V l9 jx = sa_i V q by unfold sa_f; rw [hq]]
            exact k _ List.mem_cons_self V H locs ls hG
          · cases h
        · cases h
      · cases h
    · cases h
  · cases h
theorem sn_bald {p : Program} {l : Launch} {e : Env} {R : Room} {s : State} {m : MethodId} {args : Array Value} {below : List Frame} {meth : Method} {c : Code} {Q : State → Prop} {D : va_G} {dA : Nat → ClassId} {A : Nat → Prop} {nL : Nat} {cl : List vw_C} {n0 : Nat} {V0 : sa_V} {Ts : List Cond} {cc : ByteArray} {own : String} (C0 : sa_C p s m args c D dA A nL cl Ts cc own) {pc : Nat}  (hd : decode cc pc = .ok (.baload, 1)) : sa_snd p l e R s m args below meth c Q D dA A nL cl n0 V0 pc (so_iald 1) := by
  obtain ⟨hx, hb, hts, hown, hml, hK, hA⟩ := C0
  rintro ⟨pc, lo, st, cs, G, kc, ks⟩ sts rfl h k V H locs ls hG
  unfold so_iald at h
  dsimp only at h
  split at h
  · rename_i x a rest
    split at h
    · rename_i j tt l9 hj
      split at h
      · rename_i h1
        subst h1
        split at h
        · rename_i jx hjx
          split at h
          · rename_i q hq
            cases h
            have hlt := (List.getElem?_eq_some_iff.mp hq).1
            obtain ⟨i1, i2⟩ := sa_ixk hG.1.1 hjx
            refine va_bald (D := D) hx hb hK hG.2.2.1 j 1 (sa_find_0 hj) rfl (i2 _ hlt) hd ?_
            rw [i1, show sa_f V l9 jx = sa_i V q by unfold sa_f; rw [hq]]
            exact k _ List.mem_cons_self V H locs ls hG
          · cases h
        · cases h
      · cases h
    · cases h
  · cases h
theorem sn_zald {p : Program} {l : Launch} {e : Env} {R : Room} {s : State} {m : MethodId} {args : Array Value} {below : List Frame} {meth : Method} {c : Code} {Q : State → Prop} {D : va_G} {dA : Nat → ClassId} {A : Nat → Prop} {nL : Nat} {cl : List vw_C} {n0 : Nat} {V0 : sa_V} {Ts : List Cond} {cc : ByteArray} {own : String} (C0 : sa_C p s m args c D dA A nL cl Ts cc own) {pc : Nat}  (hd : decode cc pc = .ok (.baload, 1)) : sa_snd p l e R s m args below meth c Q D dA A nL cl n0 V0 pc (so_iald 3) := by
  obtain ⟨hx, hb, hts, hown, hml, hK, hA⟩ := C0
  rintro ⟨pc, lo, st, cs, G, kc, ks⟩ sts rfl h k V H locs ls hG
  unfold so_iald at h
  dsimp only at h
  split at h
  · rename_i x a rest
    split at h
    · rename_i j tt l9 hj
      split at h
      · rename_i h1
        subst h1
        split at h
        · rename_i jx hjx
          split at h
          · rename_i q hq
            cases h
            have hlt := (List.getElem?_eq_some_iff.mp hq).1
            obtain ⟨i1, i2⟩ := sa_ixk hG.1.1 hjx
            refine va_zald (D := D) hx hb hK hG.2.2.1 j 3 (sa_find_0 hj) rfl (i2 _ hlt) hd ?_
            rw [i1, show sa_f V l9 jx = sa_i V q by unfold sa_f; rw [hq]]
            exact k _ List.mem_cons_self V H locs ls hG
          · cases h
        · cases h
      · cases h
    · cases h
  · cases h
theorem sa_f_set {V : sa_V} {l : List (Nat × Int)} {j : Nat} {q : Nat × Int} (h : j < l.length) : upd (sa_f V l) j (sa_i V q) = sa_f V (l.set j q) := by
  funext i
  by_cases hi : i = j
  · subst hi
    rw [pk_us]
    unfold sa_f
    rw [List.getElem?_set_self h]
  · rw [pk_un hi]
    unfold sa_f
    rw [List.getElem?_set_ne (Ne.symm hi)]
theorem sa_set_arr {V : sa_V} {dA : Nat → ClassId} {cs : List sa_c} {i a t j : Nat} {l : List (Nat × Int)} {q : Nat × Int} (h : j < l.length) : (cs.map (sa_e V dA)).set i (sa_ad V a, .inl (dA t, l.length, .inl (upd (sa_f V l) j (sa_i V q)))) = (cs.set i (a, .inr (t, .inl (l.set j q)))).map (sa_e V dA) := by
  rw [List.map_set, sa_f_set h]
  congr 1
  show _ = (sa_ad V a, Sum.inl (dA t, (l.set j q).length, Sum.inl (sa_f V (l.set j q))))
  rw [List.length_set]
def so_iast (t : Nat) (bl bh : Int) : sa_op := fun S => match S.2.2.1 with
  | .inl v :: .inl x :: .inr (.inl (some a)) :: rest => match sa_find a S.2.2.2.1 0, sa_iv S.2.2.2.2.1 v, sa_ixn S.2.2.2.2.1 x with
    | some (i, .inr (tt, .inl l)), some b, some j => if tt = t ∧ j < l.length ∧ bl ≤ b.1 ∧ b.2 ≤ bh then some [(S.1 + 1, S.2.1, rest, S.2.2.2.1.set i (a, .inr (tt, .inl (l.set j v))), S.2.2.2.2)] else none
    | _, _, _ => none
  | _ => none
theorem sa_nar_b {x : Int32} (h0 : -128 ≤ x.toInt) (h1 : x.toInt ≤ 127) : vp_nar .byte x = x := by
  rw [vp_nar_byte]
  apply Int32.toInt_inj.mp
  rw [Int8.toInt_toInt32]
  show (x.toInt8).toInt = x.toInt
  rw [Int32.toInt_toInt8]
  exact Int.bmod_eq_of_le (by omega) (by omega)
theorem sa_nar_z {x : Int32} (h0 : 0 ≤ x.toInt) (h1 : x.toInt ≤ 1) : vp_nar .boolean x = x := by
  rcases sa_01 h0 h1 with h | h <;> rw [h] <;> rfl
theorem sn_iast {p : Program} {l : Launch} {e : Env} {R : Room} {s : State} {m : MethodId} {args : Array Value} {below : List Frame} {meth : Method} {c : Code} {Q : State → Prop} {D : va_G} {dA : Nat → ClassId} {A : Nat → Prop} {nL : Nat} {cl : List vw_C} {n0 : Nat} {V0 : sa_V} {Ts : List Cond} {cc : ByteArray} {own : String} (C0 : sa_C p s m args c D dA A nL cl Ts cc own) {pc : Nat}  (hd : decode cc pc = .ok (.iastore, 1)) : sa_snd p l e R s m args below meth c Q D dA A nL cl n0 V0 pc (so_iast 0 (-2147483648) 2147483647) := by
  obtain ⟨hx, hb, hts, hown, hml, hK, hA⟩ := C0
  rintro ⟨pc, lo, st, cs, G, kc, ks⟩ sts rfl h k V H locs ls hG
  unfold so_iast at h
  dsimp only at h
  split at h
  · rename_i v x a rest
    split at h
    · rename_i i tt l9 b jx hj hbv hjx
      split at h
      · rename_i hh
        obtain ⟨h1, h3, h4, h5⟩ := hh
        subst h1
        cases h
        obtain ⟨e1, l1, u1⟩ := sa_iv_ok hG.1.1 hbv
        obtain ⟨i1, i2⟩ := sa_ixk hG.1.1 hjx
        have i2 := i2 _ h3
        refine va_iast (D := D) (x := sa_i V v) hx hb hK hG.2.2.1 hG.2.2.2.1 hG.2.2.2.2 i 0 (sa_find_0 hj) rfl i2 hd (fun H1 locs1 hP hD hS => ?_)
        rw [i1, sa_set_arr h3] at hP hD
        exact k _ List.mem_cons_self V H1 locs1 ls ⟨hG.1, hG.2.1, hP, hD, hS⟩
      · cases h
    · cases h
  · cases h
theorem sn_bast {p : Program} {l : Launch} {e : Env} {R : Room} {s : State} {m : MethodId} {args : Array Value} {below : List Frame} {meth : Method} {c : Code} {Q : State → Prop} {D : va_G} {dA : Nat → ClassId} {A : Nat → Prop} {nL : Nat} {cl : List vw_C} {n0 : Nat} {V0 : sa_V} {Ts : List Cond} {cc : ByteArray} {own : String} (C0 : sa_C p s m args c D dA A nL cl Ts cc own) {pc : Nat}  (hd : decode cc pc = .ok (.bastore, 1)) : sa_snd p l e R s m args below meth c Q D dA A nL cl n0 V0 pc (so_iast 1 (-128) 127) := by
  obtain ⟨hx, hb, hts, hown, hml, hK, hA⟩ := C0
  rintro ⟨pc, lo, st, cs, G, kc, ks⟩ sts rfl h k V H locs ls hG
  unfold so_iast at h
  dsimp only at h
  split at h
  · rename_i v x a rest
    split at h
    · rename_i i tt l9 b jx hj hbv hjx
      split at h
      · rename_i hh
        obtain ⟨h1, h3, h4, h5⟩ := hh
        subst h1
        cases h
        obtain ⟨e1, l1, u1⟩ := sa_iv_ok hG.1.1 hbv
        obtain ⟨i1, i2⟩ := sa_ixk hG.1.1 hjx
        have i2 := i2 _ h3
        refine va_bast (D := D) (x := sa_i V v) hx hb hK hG.2.2.1 hG.2.2.2.1 hG.2.2.2.2 i 1 (sa_find_0 hj) rfl i2 hd (fun H1 locs1 hP hD hS => ?_)
        rw [i1, sa_nar_b (by omega) (by omega), sa_set_arr h3] at hP hD
        exact k _ List.mem_cons_self V H1 locs1 ls ⟨hG.1, hG.2.1, hP, hD, hS⟩
      · cases h
    · cases h
  · cases h
theorem sn_zast {p : Program} {l : Launch} {e : Env} {R : Room} {s : State} {m : MethodId} {args : Array Value} {below : List Frame} {meth : Method} {c : Code} {Q : State → Prop} {D : va_G} {dA : Nat → ClassId} {A : Nat → Prop} {nL : Nat} {cl : List vw_C} {n0 : Nat} {V0 : sa_V} {Ts : List Cond} {cc : ByteArray} {own : String} (C0 : sa_C p s m args c D dA A nL cl Ts cc own) {pc : Nat}  (hd : decode cc pc = .ok (.bastore, 1)) : sa_snd p l e R s m args below meth c Q D dA A nL cl n0 V0 pc (so_iast 3 0 1) := by
  obtain ⟨hx, hb, hts, hown, hml, hK, hA⟩ := C0
  rintro ⟨pc, lo, st, cs, G, kc, ks⟩ sts rfl h k V H locs ls hG
  unfold so_iast at h
  dsimp only at h
  split at h
  · rename_i v x a rest
    split at h
    · rename_i i tt l9 b jx hj hbv hjx
      split at h
      · rename_i hh
        obtain ⟨h1, h3, h4, h5⟩ := hh
        subst h1
        cases h
        obtain ⟨e1, l1, u1⟩ := sa_iv_ok hG.1.1 hbv
        obtain ⟨i1, i2⟩ := sa_ixk hG.1.1 hjx
        have i2 := i2 _ h3
        refine va_zast (D := D) (x := sa_i V v) hx hb hK hG.2.2.1 hG.2.2.2.1 hG.2.2.2.2 i 3 (sa_find_0 hj) rfl i2 hd (fun H1 locs1 hP hD hS => ?_)
        rw [i1, sa_nar_z (by omega) (by omega), sa_set_arr h3] at hP hD
        exact k _ List.mem_cons_self V H1 locs1 ls ⟨hG.1, hG.2.1, hP, hD, hS⟩
      · cases h
    · cases h
  · cases h
def sa_len : sa_a → Nat
  | .inl l => l.length
  | .inr (.inl q) => q.1
  | .inr (.inr l) => l.length
theorem sa_len_ok (V : sa_V) (a : sa_a) : (sa_arr V a).1 = sa_len a := by
  rcases a with l | q | l <;> rfl
def so_alen : sa_op := fun S => match S.2.2.1 with
  | .inr (.inl (some a)) :: rest => match sa_find a S.2.2.2.1 0 with
    | some (_, .inr (tt, x)) => if tt < 6 then some [(S.1 + 1, S.2.1, .inl (0, (sa_len x : Int)) :: rest, S.2.2.2)] else none
    | _ => none
  | _ => none
theorem sa_tys_at {dA : Nat → ClassId} {t : Nat} (h : t < 6) : ∃ ty, (sa_tys dA)[t]? = some (dA t, ty) := by
  rcases (show t = 0 ∨ t = 1 ∨ t = 2 ∨ t = 3 ∨ t = 4 ∨ t = 5 by omega) with rfl | rfl | rfl | rfl | rfl | rfl <;> exact ⟨_, rfl⟩
theorem sn_alen {p : Program} {l : Launch} {e : Env} {R : Room} {s : State} {m : MethodId} {args : Array Value} {below : List Frame} {meth : Method} {c : Code} {Q : State → Prop} {D : va_G} {dA : Nat → ClassId} {A : Nat → Prop} {nL : Nat} {cl : List vw_C} {n0 : Nat} {V0 : sa_V} {Ts : List Cond} {cc : ByteArray} {own : String} (C0 : sa_C p s m args c D dA A nL cl Ts cc own) {pc : Nat}  (hd : decode cc pc = .ok (.arraylength, 1)) : sa_snd p l e R s m args below meth c Q D dA A nL cl n0 V0 pc so_alen := by
  obtain ⟨hx, hb, hts, hown, hml, hK, hA⟩ := C0
  rintro ⟨pc, lo, st, cs, G, kc, ks⟩ sts rfl h k V H locs ls hG
  unfold so_alen at h
  dsimp only at h
  split at h
  · rename_i a rest
    split at h
    · rename_i j tt x hj
      split at h
      · rename_i h1
        cases h
        obtain ⟨ty, hty⟩ := sa_tys_at (dA := dA) h1
        refine va_alen (D := D) (v := Int32.ofInt (sa_len x : Int)) hx hb hK hG.2.2.1 j tt (sa_find_0 hj) hty ?_ hd (sa_k_int hG (k _ List.mem_cons_self))
        rw [sa_len_ok]
        exact (Int32.ofInt_eq_ofNat).symm
      · cases h
    · cases h
  · cases h
/-- a place that may be one of some: one after the other -/
def sa_spl (S : sa_S) (x : Nat × Int) : Nat → Int → List sa_S
  | 0, _ => []
  | n + 1, a => (sr_eq S.2.2.2.2.1 x (0, a)).map (fun G' => (S.1, S.2.1, S.2.2.1, S.2.2.2.1, G', S.2.2.2.2.2)) ++ sa_spl S x n (a + 1)
theorem sa_spl_in {S : sa_S} {x : Nat × Int} : ∀ (n : Nat) (a : Int) (j : Nat), j < n → ∀ G' ∈ sr_eq S.2.2.2.2.1 x (0, a + j), (S.1, S.2.1, S.2.2.1, S.2.2.2.1, G', S.2.2.2.2.2) ∈ sa_spl S x n a
  | 0, _, _, h, _, _ => absurd h (Nat.not_lt_zero _)
  | n + 1, a, 0, _, G', hG => by
    rw [show a + ((0 : Nat) : Int) = a by omega] at hG
    exact List.mem_append_left _ (List.mem_map.mpr ⟨G', hG, rfl⟩)
  | n + 1, a, j + 1, h, G', hG => by
    rw [show a + ((j + 1 : Nat) : Int) = (a + 1) + (j : Int) by omega] at hG
    exact List.mem_append_right _ (sa_spl_in n (a + 1) j (by omega) G' hG)
def so_spl (d : Nat) (op : sa_op) : sa_op := fun S => match S.2.2.1[d]? with
  | some (.inl x) => match sa_iv S.2.2.2.2.1 x with
    | some b => if b.1 = b.2 then op S else if b.2 - b.1 ≤ 64 then some (sa_spl S x (b.2 - b.1 + 1).toNat b.1) else none
    | none => op S
  | _ => op S
theorem sn_spl {p : Program} {l : Launch} {e : Env} {R : Room} {s : State} {m : MethodId} {args : Array Value} {below : List Frame} {meth : Method} {c : Code} {Q : State → Prop} {D : va_G} {dA : Nat → ClassId} {A : Nat → Prop} {nL : Nat} {cl : List vw_C} {n0 : Nat} {V0 : sa_V} {pc d : Nat} {op : sa_op} (ho : sa_snd p l e R s m args below meth c Q D dA A nL cl n0 V0 pc op) : sa_snd p l e R s m args below meth c Q D dA A nL cl n0 V0 pc (so_spl d op) := by
  intro S sts h0 h k
  unfold so_spl at h
  split at h
  · rename_i x hx
    split at h
    · rename_i b hb
      split at h
      · exact ho S sts h0 h k
      · split at h
        · cases h
          intro V H locs ls hG
          obtain ⟨e1, l1, u1⟩ := sa_iv_ok hG.1.1 hb
          obtain ⟨G', g1, g2, g3⟩ := sr_eq_ok V S.2.2.2.2.1 x (0, b.1 + (((sa_i V x).toInt - b.1).toNat : Int)) hG.1.1 (by
            show sa_i V x = sa_i V _
            rw [sa_i_0 hG.1.1, show b.1 + (((sa_i V x).toInt - b.1).toNat : Int) = (sa_i V x).toInt by omega, Int32.ofInt_toInt])
          exact k _ (sa_spl_in _ b.1 _ (by omega) G' g1) V H locs ls ⟨⟨g2, by show n0 ≤ G'.length; rw [g3]; exact hG.1.2.1, hG.1.2.2⟩, hG.2⟩
        · cases h
    · exact ho S sts h0 h k
  · exact ho S sts h0 h k
end SA3
end
section
section SA4
theorem sa_G_new {D : va_G} {dA : Nat → ClassId} {A : Nat → Prop} {nL : Nat} {cl : List vw_C} {n0 : Nat} {V0 : sa_V} {H0 : Heap} {V : sa_V} {lo : sa_L} {st : List sa_v} {cs : List sa_c} {G : sa_B} {H H1 : Heap} {locs locs1 : List Loc} {ls : Array Slot} {q : Nat} {x : (Nat × List sa_v) ⊕ (Nat × sa_a)} {el : va_E}
    (h : sa_G D dA A nL cl n0 V0 H0 V lo cs G H locs ls) (hw : sa_wf G.length lo st cs = true) (he : sa_el (sa_upd V G.length (0, 0, fun _ => 0, q)) dA x = el) (hP : va_P D cl (cs.map (sa_e V dA) ++ [(q, el)]) H1) (hD : va_D A (cs.map (sa_e V dA) ++ [(q, el)])) (hS : va_S A H0 H1 locs1) :
    sa_G D dA A nL cl n0 V0 H0 (sa_upd V G.length (0, 0, fun _ => 0, q)) lo (cs ++ [(G.length, x)]) (G ++ [(0, 0)]) H1 locs1 ls ∧ st.map (sa_val (sa_upd V G.length (0, 0, fun _ => 0, q))) = st.map (sa_val V) := by
  have hw2 := hw
  simp only [sa_wf, Bool.and_eq_true, decide_eq_true_eq] at hw
  obtain ⟨⟨⟨h0, h1⟩, h2⟩, h3⟩ := hw
  obtain ⟨g1, g2, g3, g4, g5⟩ := h
  have he2 : (cs ++ [(G.length, x)]).map (sa_e (sa_upd V G.length (0, 0, fun _ => 0, q)) dA) = cs.map (sa_e V dA) ++ [(q, el)] := by
    rw [List.map_append, sa_cs_upd h3]
    congr 1
    show [(sa_ad _ _, sa_el _ _ _)] = _
    rw [he]
    unfold sa_ad
    rw [sa_upd_eq]
  exact ⟨⟨sa_J_upd g1 h0 ⟨Int.le_refl _, Int.le_refl _⟩, by rw [sa_lv_upd h1]; exact g2, by rw [he2]; exact hP, by rw [he2]; exact hD, hS⟩, sa_st_upd h2⟩
theorem sa_k_ref {p : Program} {l : Launch} {e : Env} {R : Room} {s : State} {m : MethodId} {args : Array Value} {below : List Frame} {meth : Method} {c : Code} {Q : State → Prop} {D : va_G} {dA : Nat → ClassId} {A : Nat → Prop} {nL : Nat} {cl : List vw_C} {n0 : Nat} {V0 : sa_V} {V : sa_V} {H1 : Heap} {locs1 : List Loc} {ls : Array Slot} {pc : Nat} {lo : sa_L} {rest : List sa_v} {cs1 : List sa_c} {G : sa_B} {kc ks q : Nat} (hG : sa_G D dA A nL cl n0 V0 s.heap (sa_upd V G.length (0, 0, fun _ => 0, q)) lo cs1 (G ++ [(0, 0)]) H1 locs1 ls ∧ rest.map (sa_val (sa_upd V G.length (0, 0, fun _ => 0, q))) = rest.map (sa_val V)) (k : sa_W p l e R s m args below meth c Q D dA A nL cl n0 V0 (pc, lo, .inr (.inl (some G.length)) :: rest, cs1, G ++ [(0, 0)], kc, ks)) : W p l e R s m args below meth c H1 locs1 kc ks Q (F0 m pc ls (.ref q :: rest.map (sa_val V))) := by
  have h := k _ H1 locs1 ls hG.1
  have e1 : (List.map (sa_val (sa_upd V G.length (0, 0, fun _ => 0, q))) (.inr (.inl (some G.length)) :: rest)) = Value.ref q :: rest.map (sa_val V) := by
    rw [List.map_cons, hG.2]
    congr 1
    show Value.ref (sa_ad _ _) = _
    unfold sa_ad
    rw [sa_upd_eq]
  dsimp only at h
  rw [e1] at h
  exact h
theorem sa_cA {D : va_G} {cl : List vw_C} {dA : Nat → ClassId} {s : State} {cA : ClassId} {t : Nat} {ty : FieldType} (hK : va_K D cl (sa_tys dA) s) (hK' : va_K D cl (sa_tys dA ++ [(cA, ty)]) s) (ht : (sa_tys dA)[t]? = some (dA t, ty)) : cA = dA t := by
  have h1 := (hK.2 t _ ht).2
  have h2 := (hK'.2 6 (cA, ty) rfl).2
  cases ty with
  | object C =>
    obtain ⟨_, _, _, _, _, e1⟩ := h1
    obtain ⟨_, _, _, _, _, e2⟩ := h2
    exact Option.some.inj (e2.symm.trans e1)
  | _ => exact Option.some.inj (h2.symm.trans h1)
theorem sa_f_rep {V : sa_V} (h : (V 0).1 = 0) (n : Nat) : sa_f V (List.replicate n (0, 0)) = fun _ => 0 := by
  funext j
  unfold sa_f
  split
  · rename_i q hq
    have hm := List.mem_of_getElem? hq
    rw [(List.mem_replicate.mp hm).2]
    show Int32.ofInt ((V 0).1 + 0) = 0
    rw [h]
    rfl
  · rfl
def sa_n0 (t N n : Nat) : sa_a := if t = 2 then .inr (.inl (N, n)) else .inl (List.replicate N (0, 0))
def so_newa (t maxC maxS : Nat) : sa_op := fun S => match S.2.2.1 with
  | .inl x :: rest => if sa_ok_ix x = true ∧ x.2 ≤ 1000000 ∧ S.2.2.2.2.2.1 + 1 ≤ maxC ∧ S.2.2.2.2.2.2 + x.2.toNat ≤ maxS ∧ sa_wf S.2.2.2.2.1.length S.2.1 rest S.2.2.2.1 = true then some [(S.1 + 2, S.2.1, .inr (.inl (some S.2.2.2.2.1.length)) :: rest, S.2.2.2.1 ++ [(S.2.2.2.2.1.length, .inr (t, sa_n0 t x.2.toNat S.2.2.2.2.1.length))], S.2.2.2.2.1 ++ [(0, 0)], S.2.2.2.2.2.1 + 1, S.2.2.2.2.2.2 + x.2.toNat)] else none
  | _ => none
theorem sa_nn {V : sa_V} {G : sa_B} (hI : sa_I V G) {x : Nat × Int} (h : x.1 = 0 ∧ 0 ≤ x.2 ∧ x.2 ≤ 2147483647) : ¬ sa_i V x < 0 ∧ (sa_i V x).toNatClampNeg = x.2.toNat := by
  obtain ⟨h1, h2⟩ := sa_ix hI h (Nat.lt_succ_self _)
  exact ⟨fun q => h2 (Or.inl q), h1⟩
theorem sn_newaI {p : Program} {l : Launch} {e : Env} {R : Room} {s : State} {m : MethodId} {args : Array Value} {below : List Frame} {meth : Method} {c : Code} {Q : State → Prop} {D : va_G} {dA : Nat → ClassId} {A : Nat → Prop} {nL : Nat} {cl : List vw_C} {n0 : Nat} {V0 : sa_V} {Ts : List Cond} {cc : ByteArray} {own : String} (C0 : sa_C p s m args c D dA A nL cl Ts cc own) {pc : Nat} {maxC maxS : Nat} (hd : decode cc pc = .ok (.newarray .int, 2)) (hw0 : Cond.arrayClass .int ∈ Ts) (hC : maxC ≤ R.cells) (hS0 : maxS ≤ R.slots) : sa_snd p l e R s m args below meth c Q D dA A nL cl n0 V0 pc (so_newa 0 maxC maxS) := by
  obtain ⟨hx, hb, hts, hown, hml, hK, hA⟩ := C0
  rintro ⟨pc, lo, st, cs, G, kc, ks⟩ sts rfl h k V H locs ls hG
  unfold so_newa at h
  dsimp only at h
  split at h
  · rename_i x rest
    split at h
    · rename_i hh
      obtain ⟨h1, h2, h3, h4, h5⟩ := hh
      have h1 := of_decide_eq_true h1
      cases h
      obtain ⟨n1, n2⟩ := sa_nn hG.1.1 h1
      have hbytes : x.2.toNat * componentBytes .int ≤ 536870912 := Nat.le_trans (Nat.mul_le_mul (show x.2.toNat ≤ 1000000 by omega) (show componentBytes .int ≤ 8 by decide)) (by decide)
      refine va_newa (D := D) (atype := .int) (ty := .int) (a0 := (x.2.toNat, .inl (fun _ => 0))) hx hb (hts _ hw0) rfl hK hG.2.2.1 hG.2.2.2.1 hG.2.2.2.2 hA (fun _ => rfl) n1 n2 hbytes (Nat.le_trans h3 hC) (Nat.le_trans h4 hS0) hd (fun q cA H1 hK' hP hD hS => ?_)
      have hc := sa_cA (t := 0) hK hK' rfl
      subst hc
      refine sa_k_ref (sa_G_new (q := q) (x := .inr (0, sa_n0 0 x.2.toNat G.length)) hG h5 ?_ hP hD hS) (k _ List.mem_cons_self)
      show Sum.inl (dA 0, (List.replicate x.2.toNat ((0 : Nat), (0 : Int))).length, Sum.inl (sa_f _ _)) = _
      rw [sa_f_rep, List.length_replicate]
      rw [sa_upd_ne (by simp only [sa_wf, Bool.and_eq_true, decide_eq_true_eq] at h5; exact h5.1.1.1)]
      exact hG.1.1.2
    · cases h
  · cases h
theorem sn_newaB {p : Program} {l : Launch} {e : Env} {R : Room} {s : State} {m : MethodId} {args : Array Value} {below : List Frame} {meth : Method} {c : Code} {Q : State → Prop} {D : va_G} {dA : Nat → ClassId} {A : Nat → Prop} {nL : Nat} {cl : List vw_C} {n0 : Nat} {V0 : sa_V} {Ts : List Cond} {cc : ByteArray} {own : String} (C0 : sa_C p s m args c D dA A nL cl Ts cc own) {pc : Nat} {maxC maxS : Nat} (hd : decode cc pc = .ok (.newarray .byte, 2)) (hw0 : Cond.arrayClass .byte ∈ Ts) (hC : maxC ≤ R.cells) (hS0 : maxS ≤ R.slots) : sa_snd p l e R s m args below meth c Q D dA A nL cl n0 V0 pc (so_newa 1 maxC maxS) := by
  obtain ⟨hx, hb, hts, hown, hml, hK, hA⟩ := C0
  rintro ⟨pc, lo, st, cs, G, kc, ks⟩ sts rfl h k V H locs ls hG
  unfold so_newa at h
  dsimp only at h
  split at h
  · rename_i x rest
    split at h
    · rename_i hh
      obtain ⟨h1, h2, h3, h4, h5⟩ := hh
      have h1 := of_decide_eq_true h1
      cases h
      obtain ⟨n1, n2⟩ := sa_nn hG.1.1 h1
      have hbytes : x.2.toNat * componentBytes .byte ≤ 536870912 := Nat.le_trans (Nat.mul_le_mul (show x.2.toNat ≤ 1000000 by omega) (show componentBytes .byte ≤ 8 by decide)) (by decide)
      refine va_newa (D := D) (atype := .byte) (ty := .byte) (a0 := (x.2.toNat, .inl (fun _ => 0))) hx hb (hts _ hw0) rfl hK hG.2.2.1 hG.2.2.2.1 hG.2.2.2.2 hA (fun _ => rfl) n1 n2 hbytes (Nat.le_trans h3 hC) (Nat.le_trans h4 hS0) hd (fun q cA H1 hK' hP hD hS => ?_)
      have hc := sa_cA (t := 1) hK hK' rfl
      subst hc
      refine sa_k_ref (sa_G_new (q := q) (x := .inr (1, sa_n0 1 x.2.toNat G.length)) hG h5 ?_ hP hD hS) (k _ List.mem_cons_self)
      show Sum.inl (dA 1, (List.replicate x.2.toNat ((0 : Nat), (0 : Int))).length, Sum.inl (sa_f _ _)) = _
      rw [sa_f_rep, List.length_replicate]
      rw [sa_upd_ne (by simp only [sa_wf, Bool.and_eq_true, decide_eq_true_eq] at h5; exact h5.1.1.1)]
      exact hG.1.1.2
    · cases h
  · cases h
theorem sn_newaJ {p : Program} {l : Launch} {e : Env} {R : Room} {s : State} {m : MethodId} {args : Array Value} {below : List Frame} {meth : Method} {c : Code} {Q : State → Prop} {D : va_G} {dA : Nat → ClassId} {A : Nat → Prop} {nL : Nat} {cl : List vw_C} {n0 : Nat} {V0 : sa_V} {Ts : List Cond} {cc : ByteArray} {own : String} (C0 : sa_C p s m args c D dA A nL cl Ts cc own) {pc : Nat} {maxC maxS : Nat} (hd : decode cc pc = .ok (.newarray .long, 2)) (hw0 : Cond.arrayClass .long ∈ Ts) (hC : maxC ≤ R.cells) (hS0 : maxS ≤ R.slots) : sa_snd p l e R s m args below meth c Q D dA A nL cl n0 V0 pc (so_newa 2 maxC maxS) := by
  obtain ⟨hx, hb, hts, hown, hml, hK, hA⟩ := C0
  rintro ⟨pc, lo, st, cs, G, kc, ks⟩ sts rfl h k V H locs ls hG
  unfold so_newa at h
  dsimp only at h
  split at h
  · rename_i x rest
    split at h
    · rename_i hh
      obtain ⟨h1, h2, h3, h4, h5⟩ := hh
      have h1 := of_decide_eq_true h1
      cases h
      obtain ⟨n1, n2⟩ := sa_nn hG.1.1 h1
      have hbytes : x.2.toNat * componentBytes .long ≤ 536870912 := Nat.le_trans (Nat.mul_le_mul (show x.2.toNat ≤ 1000000 by omega) (show componentBytes .long ≤ 8 by decide)) (by decide)
      refine va_newa (D := D) (atype := .long) (ty := .long) (a0 := (x.2.toNat, .inr (.inl (fun _ => 0)))) hx hb (hts _ hw0) rfl hK hG.2.2.1 hG.2.2.2.1 hG.2.2.2.2 hA (fun _ => rfl) n1 n2 hbytes (Nat.le_trans h3 hC) (Nat.le_trans h4 hS0) hd (fun q cA H1 hK' hP hD hS => ?_)
      have hc := sa_cA (t := 2) hK hK' rfl
      subst hc
      refine sa_k_ref (sa_G_new (q := q) (x := .inr (2, sa_n0 2 x.2.toNat G.length)) hG h5 ?_ hP hD hS) (k _ List.mem_cons_self)
      show Sum.inl (dA 2, x.2.toNat, Sum.inr (Sum.inl (sa_upd V G.length _ G.length).2.2.1)) = _
      rw [sa_upd_eq]
      
      
    · cases h
  · cases h
theorem sn_newaZ {p : Program} {l : Launch} {e : Env} {R : Room} {s : State} {m : MethodId} {args : Array Value} {below : List Frame} {meth : Method} {c : Code} {Q : State → Prop} {D : va_G} {dA : Nat → ClassId} {A : Nat → Prop} {nL : Nat} {cl : List vw_C} {n0 : Nat} {V0 : sa_V} {Ts : List Cond} {cc : ByteArray} {own : String} (C0 : sa_C p s m args c D dA A nL cl Ts cc own) {pc : Nat} {maxC maxS : Nat} (hd : decode cc pc = .ok (.newarray .boolean, 2)) (hw0 : Cond.arrayClass .boolean ∈ Ts) (hC : maxC ≤ R.cells) (hS0 : maxS ≤ R.slots) : sa_snd p l e R s m args below meth c Q D dA A nL cl n0 V0 pc (so_newa 3 maxC maxS) := by
  obtain ⟨hx, hb, hts, hown, hml, hK, hA⟩ := C0
  rintro ⟨pc, lo, st, cs, G, kc, ks⟩ sts rfl h k V H locs ls hG
  unfold so_newa at h
  dsimp only at h
  split at h
  · rename_i x rest
    split at h
    · rename_i hh
      obtain ⟨h1, h2, h3, h4, h5⟩ := hh
      have h1 := of_decide_eq_true h1
      cases h
      obtain ⟨n1, n2⟩ := sa_nn hG.1.1 h1
      have hbytes : x.2.toNat * componentBytes .boolean ≤ 536870912 := Nat.le_trans (Nat.mul_le_mul (show x.2.toNat ≤ 1000000 by omega) (show componentBytes .boolean ≤ 8 by decide)) (by decide)
      refine va_newa (D := D) (atype := .boolean) (ty := .boolean) (a0 := (x.2.toNat, .inl (fun _ => 0))) hx hb (hts _ hw0) rfl hK hG.2.2.1 hG.2.2.2.1 hG.2.2.2.2 hA (fun _ => rfl) n1 n2 hbytes (Nat.le_trans h3 hC) (Nat.le_trans h4 hS0) hd (fun q cA H1 hK' hP hD hS => ?_)
      have hc := sa_cA (t := 3) hK hK' rfl
      subst hc
      refine sa_k_ref (sa_G_new (q := q) (x := .inr (3, sa_n0 3 x.2.toNat G.length)) hG h5 ?_ hP hD hS) (k _ List.mem_cons_self)
      show Sum.inl (dA 3, (List.replicate x.2.toNat ((0 : Nat), (0 : Int))).length, Sum.inl (sa_f _ _)) = _
      rw [sa_f_rep, List.length_replicate]
      rw [sa_upd_ne (by simp only [sa_wf, Bool.and_eq_true, decide_eq_true_eq] at h5; exact h5.1.1.1)]
      exact hG.1.1.2
    · cases h
  · cases h
def so_newq (t maxC maxS : Nat) : sa_op := fun S => match S.2.2.1 with
  | .inl x :: rest => if sa_ok_ix x = true ∧ x.2 ≤ 1000000 ∧ S.2.2.2.2.2.1 + 1 ≤ maxC ∧ S.2.2.2.2.2.2 + x.2.toNat ≤ maxS ∧ sa_wf S.2.2.2.2.1.length S.2.1 rest S.2.2.2.1 = true then some [(S.1 + 3, S.2.1, .inr (.inl (some S.2.2.2.2.1.length)) :: rest, S.2.2.2.1 ++ [(S.2.2.2.2.1.length, .inr (t, .inr (.inr (List.replicate x.2.toNat none))))], S.2.2.2.2.1 ++ [(0, 0)], S.2.2.2.2.2.1 + 1, S.2.2.2.2.2.2 + x.2.toNat)] else none
  | _ => none
theorem sa_g_rep {V : sa_V} (n : Nat) : sa_g V (List.replicate n none) = fun _ => none := by
  funext j
  unfold sa_g
  rw [List.getD_eq_getElem?_getD, List.getElem?_replicate]
  split <;> rfl
theorem sn_newq {p : Program} {l : Launch} {e : Env} {R : Room} {s : State} {m : MethodId} {args : Array Value} {below : List Frame} {meth : Method} {c : Code} {Q : State → Prop} {D : va_G} {dA : Nat → ClassId} {A : Nat → Prop} {nL : Nat} {cl : List vw_C} {n0 : Nat} {V0 : sa_V} {Ts : List Cond} {cc : ByteArray} {own : String} (C0 : sa_C p s m args c D dA A nL cl Ts cc own) {pc : Nat} {maxC maxS t idx : Nat} {C : String} (hd : decode cc pc = .ok (.anewarray idx, 3)) (hl : Cond.classLink own idx C ∈ Ts) (hov : va_AO C s) (ht : (sa_tys dA)[t]? = some (dA t, .object C)) (hC : maxC ≤ R.cells) (hS0 : maxS ≤ R.slots) : sa_snd p l e R s m args below meth c Q D dA A nL cl n0 V0 pc (so_newq t maxC maxS) := by
  obtain ⟨hx, hb, hts, hown, hml, hK, hA⟩ := C0
  rintro ⟨pc, lo, st, cs, G, kc, ks⟩ sts rfl h k V H locs ls hG
  unfold so_newq at h
  dsimp only at h
  split at h
  · rename_i x rest
    split at h
    · rename_i hh
      obtain ⟨h1, h2, h3, h4, h5⟩ := hh
      have h1 := of_decide_eq_true h1
      cases h
      obtain ⟨n1, n2⟩ := sa_nn hG.1.1 h1
      refine va_newq (D := D) hx hb hown (hts _ hl) hov hK hG.2.2.1 hG.2.2.2.1 hG.2.2.2.2 hA n1 n2 (by omega) (Nat.le_trans h3 hC) (Nat.le_trans h4 hS0) hd (fun q cA H1 hK' hP hD hS => ?_)
      have hc := sa_cA (t := t) hK hK' ht
      subst hc
      refine sa_k_ref (sa_G_new (q := q) (x := .inr (t, .inr (.inr (List.replicate x.2.toNat none)))) hG h5 ?_ hP hD hS) (k _ List.mem_cons_self)
      show Sum.inl (dA t, (List.replicate x.2.toNat (none : Option Nat)).length, Sum.inr (Sum.inr (Sum.inr (Sum.inr (sa_g _ _))))) = _
      rw [sa_g_rep, List.length_replicate]
    · cases h
  · cases h
def sa_d0 (n : Nat) : Nat → sa_v
  | 0 => .inl (0, 0)
  | 1 => .inr (.inl none)
  | _ => .inr (.inr n)
def sa_d1 : Nat → Value
  | 0 => .int 0
  | 1 => .null
  | _ => .long 0
theorem sa_d_ok {V : sa_V} {n q : Nat} (h : (V 0).1 = 0) (h0 : 0 < n) (j : Nat) : sa_val (sa_upd V n (0, 0, fun _ => 0, q)) (sa_d0 n j) = sa_d1 j := by
  match j with
  | 0 =>
    show Value.int (Int32.ofInt ((sa_upd V n _ 0).1 + 0)) = _
    rw [sa_upd_ne h0, h]
    rfl
  | 1 => rfl
  | j + 2 =>
    show Value.long (sa_upd V n _ n).2.1 = _
    rw [sa_upd_eq]
    rfl
def so_new (ci N : Nat) (ks0 : List Nat) (maxC maxS : Nat) : sa_op := fun S =>
  if S.2.2.2.2.2.1 + 1 ≤ maxC ∧ S.2.2.2.2.2.2 + N ≤ maxS ∧ sa_wf S.2.2.2.2.1.length S.2.1 S.2.2.1 S.2.2.2.1 = true then some [(S.1 + 3, S.2.1, .inr (.inl (some S.2.2.2.2.1.length)) :: S.2.2.1, S.2.2.2.1 ++ [(S.2.2.2.2.1.length, .inl (ci, ks0.map (sa_d0 S.2.2.2.2.1.length)))], S.2.2.2.2.1 ++ [(0, 0)], S.2.2.2.2.2.1 + 1, S.2.2.2.2.2.2 + N)] else none
theorem sn_new {p : Program} {l : Launch} {e : Env} {R : Room} {s : State} {m : MethodId} {args : Array Value} {below : List Frame} {meth : Method} {c : Code} {Q : State → Prop} {D : va_G} {dA : Nat → ClassId} {A : Nat → Prop} {nL : Nat} {cl : List vw_C} {n0 : Nat} {V0 : sa_V} {Ts : List Cond} {cc : ByteArray} {own : String} (C0 : sa_C p s m args c D dA A nL cl Ts cc own) {pc : Nat} {maxC maxS ci N idx : Nat} {C : String} {T : u_T} {ty : Nat → FieldType} {ks0 : List Nat} (hc : sa_cls cl Ts ci C T N ty) (hd : decode cc pc = .ok (.new idx, 3)) (hl : Cond.classLink own idx C ∈ Ts) (hi : Cond.instantiable C N ∈ Ts) (hin : Cond.initialized C ∈ Ts) (hk0 : ∀ j, j < N → defaultValue (ty j) = vp_V (ks0.map sa_d1) j) (hC : maxC ≤ R.cells) (hS0 : maxS ≤ R.slots) : sa_snd p l e R s m args below meth c Q D dA A nL cl n0 V0 pc (so_new ci N ks0 maxC maxS) := by
  obtain ⟨hx, hb, hts, hown, hml, hK, hA⟩ := C0
  rintro ⟨pc, lo, st, cs, G, kc, ks⟩ sts rfl h k V H locs ls hG
  unfold so_new at h
  dsimp only at h
  split at h
  · rename_i hh
    obtain ⟨h3, h4, h5⟩ := hh
    cases h
    refine va_new (D := D) (fs := ks0.map sa_d1) hx hb hts hc.2.1 ty hc.2.2.1 hown (hts _ hl) (hts _ hi) (hts _ hin) hK hG.2.2.1 hG.2.2.2.1 hG.2.2.2.2 hA hc.1 hk0 (Nat.le_trans h3 hC) (Nat.le_trans h4 hS0) hd (fun q H1 hP hD hS => ?_)
    refine sa_k_ref (sa_G_new (q := q) (x := .inl (ci, ks0.map (sa_d0 G.length))) hG h5 ?_ hP hD hS) (k _ List.mem_cons_self)
    show Sum.inr (ci, (ks0.map (sa_d0 G.length)).map (sa_val _)) = _
    rw [List.map_map]
    congr 2
    apply List.map_congr_left
    intro j _
    exact sa_d_ok hG.1.1.2 (by simp only [sa_wf, Bool.and_eq_true, decide_eq_true_eq] at h5; exact h5.1.1.1) j
  · cases h
/-! rows of references -/
def so_aald (t : Nat) : sa_op := fun S => match S.2.2.1 with
  | .inl x :: .inr (.inl (some a)) :: rest => match sa_find a S.2.2.2.1 0 with
    | some (_, .inr (tt, .inr (.inr l))) => if tt = t then match sa_ixn S.2.2.2.2.1 x with
      | some j => match l[j]? with
        | some (some q) => some [(S.1 + 1, S.2.1, .inr (.inl (some q)) :: rest, S.2.2.2)]
        | _ => none
      | none => none
      else none
    | _ => none
  | _ => none
theorem sn_aald {p : Program} {l : Launch} {e : Env} {R : Room} {s : State} {m : MethodId} {args : Array Value} {below : List Frame} {meth : Method} {c : Code} {Q : State → Prop} {D : va_G} {dA : Nat → ClassId} {A : Nat → Prop} {nL : Nat} {cl : List vw_C} {n0 : Nat} {V0 : sa_V} {Ts : List Cond} {cc : ByteArray} {own : String} (C0 : sa_C p s m args c D dA A nL cl Ts cc own) {pc : Nat} {t : Nat} {C : String} (hd : decode cc pc = .ok (.aaload, 1)) (ht : (sa_tys dA)[t]? = some (dA t, .object C)) : sa_snd p l e R s m args below meth c Q D dA A nL cl n0 V0 pc (so_aald t) := by
  obtain ⟨hx, hb, hts, hown, hml, hK, hA⟩ := C0
  rintro ⟨pc, lo, st, cs, G, kc, ks⟩ sts rfl h k V H locs ls hG
  unfold so_aald at h
  dsimp only at h
  split at h
  · rename_i x a rest
    split at h
    · rename_i j tt l9 hj
      split at h
      · rename_i h1
        subst h1
        split at h
        · rename_i jx hjx
          split at h
          · rename_i q hq
            cases h
            have hlt := (List.getElem?_eq_some_iff.mp hq).1
            obtain ⟨i1, i2⟩ := sa_ixk hG.1.1 hjx
            refine va_aldq (D := D) hx hb hK hG.2.2.1 j _ (sa_find_0 hj) ht (i2 _ hlt) hd ?_
            rw [i1, show sa_g V l9 jx = some (sa_ad V q) by unfold sa_g; rw [List.getD_eq_getElem?_getD, hq]; rfl]
            exact k _ List.mem_cons_self V H locs ls hG
          · cases h
        · cases h
      · cases h
    · cases h
  · cases h
theorem sa_g_set {V : sa_V} {l : List (Option Nat)} {j q : Nat} (h : j < l.length) : va_up (sa_g V l) j (some (sa_ad V q)) = sa_g V (l.set j (some q)) := by
  funext i
  unfold va_up sa_g
  rw [List.getD_eq_getElem?_getD, List.getD_eq_getElem?_getD]
  by_cases hi : i = j
  · subst hi
    rw [if_pos rfl, List.getElem?_set_self h]
    rfl
  · rw [if_neg hi, List.getElem?_set_ne (Ne.symm hi)]
def so_aast (t ci : Nat) : sa_op := fun S => match S.2.2.1 with
  | .inr (.inl (some q)) :: .inl x :: .inr (.inl (some a)) :: rest => match sa_find a S.2.2.2.1 0, sa_find q S.2.2.2.1 0 with
    | some (i, .inr (tt, .inr (.inr l))), some (_, .inl (cj, _)) => if tt = t ∧ cj = ci ∧ sa_ok_ix x = true ∧ x.2.toNat < l.length then some [(S.1 + 1, S.2.1, rest, S.2.2.2.1.set i (a, .inr (tt, .inr (.inr (l.set x.2.toNat (some q))))), S.2.2.2.2)] else none
    | _, _ => none
  | _ => none
theorem sn_aast {p : Program} {l : Launch} {e : Env} {R : Room} {s : State} {m : MethodId} {args : Array Value} {below : List Frame} {meth : Method} {c : Code} {Q : State → Prop} {D : va_G} {dA : Nat → ClassId} {A : Nat → Prop} {nL : Nat} {cl : List vw_C} {n0 : Nat} {V0 : sa_V} {Ts : List Cond} {cc : ByteArray} {own : String} (C0 : sa_C p s m args c D dA A nL cl Ts cc own) {pc : Nat} {t ci N : Nat} {C : String} {T : u_T} {ty : Nat → FieldType} (hc : sa_cls cl Ts ci C T N ty) (hd : decode cc pc = .ok (.aastore, 1)) (ht : (sa_tys dA)[t]? = some (dA t, .object C)) : sa_snd p l e R s m args below meth c Q D dA A nL cl n0 V0 pc (so_aast t ci) := by
  obtain ⟨hx, hb, hts, hown, hml, hK, hA⟩ := C0
  rintro ⟨pc, lo, st, cs, G, kc, ks⟩ sts rfl h k V H locs ls hG
  unfold so_aast at h
  dsimp only at h
  split at h
  · rename_i q x a rest
    split at h
    · rename_i i tt l9 j9 cj fs hj hq
      split at h
      · rename_i hh
        obtain ⟨h1, h1', h2, h3⟩ := hh
        subst h1
        subst h1'
        have h2 := of_decide_eq_true h2
        cases h
        obtain ⟨i1, i2⟩ := sa_ix hG.1.1 h2 h3
        refine va_astq (D := D) (r := (C, T, N)) hx hb hK hG.2.2.1 hG.2.2.2.1 hG.2.2.2.2 i _ j9 cj (sa_find_0 hj) ht (sa_find_0 hq) hc.1 i2 hd (fun H1 locs1 hP hD hS => ?_)
        have e9 : (cs.map (sa_e V dA)).set i (sa_ad V a, .inl (dA tt, l9.length, .inr (.inr (.inr (.inr (va_up (sa_g V l9) x.2.toNat (some (sa_ad V q)))))))) = (cs.set i (a, .inr (tt, .inr (.inr (l9.set x.2.toNat (some q)))))).map (sa_e V dA) := by
          rw [List.map_set, sa_g_set h3]
          congr 1
          show _ = (sa_ad V a, Sum.inl (dA tt, (l9.set x.2.toNat (some q)).length, Sum.inr (Sum.inr (Sum.inr (Sum.inr (sa_g V (l9.set x.2.toNat (some q))))))))
          rw [List.length_set]
        rw [i1, e9] at hP hD
        exact k _ List.mem_cons_self V H1 locs1 ls ⟨hG.1, hG.2.1, hP, hD, hS⟩
      · cases h
    · cases h
  · cases h
end SA4
end
section
section SA5
def sa_ixin (G : sa_B) (x : Nat × Int) (N : Nat) : Bool := match sa_ixn G x with
  | some j => decide (j < N)
  | none => false
def so_i2b : sa_op := fun S => match S.2.2.1 with
  | .inl x :: rest => sa_push (S.1 + 1) S.2.1 rest S.2.2.2.1 S.2.2.2.2.1 S.2.2.2.2.2.1 S.2.2.2.2.2.2 (if x.1 = 0 then .inl (0, (Int32.ofInt x.2).toInt8.toInt32.toInt) else .inr (-128, 127))
  | _ => none
theorem sn_i2b {p : Program} {l : Launch} {e : Env} {R : Room} {s : State} {m : MethodId} {args : Array Value} {below : List Frame} {meth : Method} {c : Code} {Q : State → Prop} {D : va_G} {dA : Nat → ClassId} {A : Nat → Prop} {nL : Nat} {cl : List vw_C} {n0 : Nat} {V0 : sa_V} {Ts : List Cond} {cc : ByteArray} {own : String} (C0 : sa_C p s m args c D dA A nL cl Ts cc own) {pc : Nat}  (hd : decode cc pc = .ok (.i2b, 1)) : sa_snd p l e R s m args below meth c Q D dA A nL cl n0 V0 pc so_i2b := by
  obtain ⟨hx, hb, hts, hown, hml, hK, hA⟩ := C0
  rintro ⟨pc, lo, st, cs, G, kc, ks⟩ sts rfl h k V H locs ls hG
  unfold so_i2b at h
  dsimp only at h
  split at h
  · rename_i x rest
    refine lv_i2b (v := (sa_i V x).toInt8.toInt32) hx hb hd rfl (sa_push_ok hG ?_ h k)
    split
    · rename_i h1
      rw [sa_k0 hG.1.1 h1]
      exact sa_is_c hG.1.1 _
    · refine ⟨?_, ?_⟩
      · show -128 ≤ (sa_i V x).toInt8.toInt32.toInt
        rw [Int8.toInt_toInt32]
        exact Int8.le_toInt _
      · show (sa_i V x).toInt8.toInt32.toInt ≤ 127
        rw [Int8.toInt_toInt32]
        have := Int8.toInt_lt (sa_i V x).toInt8
        omega
  · cases h
theorem sa_pushl_ok {p : Program} {l : Launch} {e : Env} {R : Room} {s : State} {m : MethodId} {args : Array Value} {below : List Frame} {meth : Method} {c : Code} {Q : State → Prop} {D : va_G} {dA : Nat → ClassId} {A : Nat → Prop} {nL : Nat} {cl : List vw_C} {n0 : Nat} {V0 : sa_V} {V : sa_V} {H : Heap} {locs : List Loc} {ls : Array Slot} {pc : Nat} {lo : sa_L} {rest : List sa_v} {cs : List sa_c} {G : sa_B} {kc ks : Nat} {x : Int64} (hG : sa_G D dA A nL cl n0 V0 s.heap V lo cs G H locs ls) (hw : sa_wf G.length lo rest cs = true) (k : sa_W p l e R s m args below meth c Q D dA A nL cl n0 V0 (pc, lo, .inr (.inr G.length) :: rest, cs, G ++ [(0, 0)], kc, ks)) : W p l e R s m args below meth c H locs kc ks Q (F0 m pc ls (.long x :: rest.map (sa_val V))) := by
  obtain ⟨g1, g2⟩ := sa_G_upd (x := (0, x, fun _ => 0, 0)) (b := (0, 0)) hG hw ⟨Int.le_refl _, Int.le_refl _⟩
  have h := k _ H locs ls g1
  have e1 : (List.map (sa_val (sa_upd V G.length (0, x, fun _ => 0, 0))) (.inr (.inr G.length) :: rest)) = Value.long x :: rest.map (sa_val V) := by
    rw [List.map_cons, g2]
    congr 1
    show Value.long (sa_upd V G.length _ G.length).2.1 = _
    rw [sa_upd_eq]
  dsimp only at h
  rw [e1] at h
  exact h
def so_lald : sa_op := fun S => match S.2.2.1 with
  | .inl x :: .inr (.inl (some a)) :: rest => match sa_find a S.2.2.2.1 0 with
    | some (_, .inr (tt, .inr (.inl q))) => if tt = 2 ∧ sa_ixin S.2.2.2.2.1 x q.1 = true ∧ sa_wf S.2.2.2.2.1.length S.2.1 rest S.2.2.2.1 = true then some [(S.1 + 1, S.2.1, .inr (.inr S.2.2.2.2.1.length) :: rest, S.2.2.2.1, S.2.2.2.2.1 ++ [(0, 0)], S.2.2.2.2.2)] else none
    | _ => none
  | _ => none
theorem sn_lald {p : Program} {l : Launch} {e : Env} {R : Room} {s : State} {m : MethodId} {args : Array Value} {below : List Frame} {meth : Method} {c : Code} {Q : State → Prop} {D : va_G} {dA : Nat → ClassId} {A : Nat → Prop} {nL : Nat} {cl : List vw_C} {n0 : Nat} {V0 : sa_V} {Ts : List Cond} {cc : ByteArray} {own : String} (C0 : sa_C p s m args c D dA A nL cl Ts cc own) {pc : Nat}  (hd : decode cc pc = .ok (.laload, 1)) : sa_snd p l e R s m args below meth c Q D dA A nL cl n0 V0 pc so_lald := by
  obtain ⟨hx, hb, hts, hown, hml, hK, hA⟩ := C0
  rintro ⟨pc, lo, st, cs, G, kc, ks⟩ sts rfl h k V H locs ls hG
  unfold so_lald at h
  dsimp only at h
  split at h
  · rename_i x a rest
    split at h
    · rename_i j tt q hj
      split at h
      · rename_i hh
        obtain ⟨h1, h2, h4⟩ := hh
        subst h1
        cases h
        unfold sa_ixin at h2
        split at h2
        rotate_left
        · cases h2
        rename_i jx hjx
        obtain ⟨i1, i2⟩ := sa_ixk hG.1.1 hjx
        have i2 := i2 _ (of_decide_eq_true h2)
        exact va_lald (D := D) hx hb hK hG.2.2.1 j 2 (sa_find_0 hj) rfl i2 hd (sa_pushl_ok hG h4 (k _ List.mem_cons_self))
      · cases h
    · cases h
  · cases h
/-- a row of longs holds something new -/
theorem sa_G_lrow {D : va_G} {dA : Nat → ClassId} {A : Nat → Prop} {nL : Nat} {cl : List vw_C} {n0 : Nat} {V0 : sa_V} {H0 : Heap} {V : sa_V} {lo : sa_L} {st : List sa_v} {cs : List sa_c} {G : sa_B} {H H1 : Heap} {locs locs1 : List Loc} {ls : Array Slot} {a i N b : Nat} {f : Nat → Int64}
    (h : sa_G D dA A nL cl n0 V0 H0 V lo cs G H locs ls) (hw : sa_wf G.length lo st cs = true) (hj : sa_find a cs 0 = some (i, .inr (2, .inr (.inl (N, b))))) (hP : va_P D cl ((cs.map (sa_e V dA)).set i (sa_ad V a, .inl (dA 2, N, .inr (.inl f)))) H1) (hD : va_D A ((cs.map (sa_e V dA)).set i (sa_ad V a, .inl (dA 2, N, .inr (.inl f))))) (hS : va_S A H0 H1 locs1) :
    sa_G D dA A nL cl n0 V0 H0 (sa_upd V G.length (0, 0, f, 0)) lo (cs.set i (a, .inr (2, .inr (.inl (N, G.length))))) (G ++ [(0, 0)]) H1 locs1 ls ∧ st.map (sa_val (sa_upd V G.length (0, 0, f, 0))) = st.map (sa_val V) := by
  have hw2 := hw
  simp only [sa_wf, Bool.and_eq_true, decide_eq_true_eq] at hw
  obtain ⟨⟨⟨h0, h1⟩, h2⟩, h3⟩ := hw
  obtain ⟨g1, g2, g3, g4, g5⟩ := h
  obtain ⟨d, hd1, hd2⟩ := sa_find_at hj
  have ha : a < G.length := by
    have := List.all_eq_true.mp h3 _ (List.mem_of_getElem? hd2)
    simp only [sa_wfc, Bool.and_eq_true, decide_eq_true_eq] at this
    exact this.1
  have he2 : (cs.set i (a, .inr (2, .inr (.inl (N, G.length))))).map (sa_e (sa_upd V G.length (0, 0, f, 0)) dA) = (cs.map (sa_e V dA)).set i (sa_ad V a, .inl (dA 2, N, .inr (.inl f))) := by
    rw [List.map_set, sa_cs_upd h3]
    congr 1
    show (sa_ad _ a, Sum.inl (dA 2, N, Sum.inr (Sum.inl (sa_upd V G.length (0, 0, f, 0) G.length).2.2.1))) = _
    unfold sa_ad
    rw [sa_upd_eq, sa_upd_ne ha]
  exact ⟨⟨sa_J_upd g1 h0 ⟨Int.le_refl _, Int.le_refl _⟩, by rw [sa_lv_upd h1]; exact g2, by rw [he2]; exact hP, by rw [he2]; exact hD, hS⟩, sa_st_upd h2⟩
def so_last : sa_op := fun S => match S.2.2.1 with
  | .inr (.inr _) :: .inl x :: .inr (.inl (some a)) :: rest => match sa_find a S.2.2.2.1 0 with
    | some (i, .inr (tt, .inr (.inl (N, _)))) => if tt = 2 ∧ sa_ixin S.2.2.2.2.1 x N = true ∧ sa_wf S.2.2.2.2.1.length S.2.1 rest S.2.2.2.1 = true then some [(S.1 + 1, S.2.1, rest, S.2.2.2.1.set i (a, .inr (2, .inr (.inl (N, S.2.2.2.2.1.length)))), S.2.2.2.2.1 ++ [(0, 0)], S.2.2.2.2.2)] else none
    | _ => none
  | _ => none
theorem sn_last {p : Program} {l : Launch} {e : Env} {R : Room} {s : State} {m : MethodId} {args : Array Value} {below : List Frame} {meth : Method} {c : Code} {Q : State → Prop} {D : va_G} {dA : Nat → ClassId} {A : Nat → Prop} {nL : Nat} {cl : List vw_C} {n0 : Nat} {V0 : sa_V} {Ts : List Cond} {cc : ByteArray} {own : String} (C0 : sa_C p s m args c D dA A nL cl Ts cc own) {pc : Nat}  (hd : decode cc pc = .ok (.lastore, 1)) : sa_snd p l e R s m args below meth c Q D dA A nL cl n0 V0 pc so_last := by
  obtain ⟨hx, hb, hts, hown, hml, hK, hA⟩ := C0
  rintro ⟨pc, lo, st, cs, G, kc, ks⟩ sts rfl h k V H locs ls hG
  unfold so_last at h
  dsimp only at h
  split at h
  · rename_i jv x a rest
    split at h
    · rename_i i tt N b hj
      split at h
      · rename_i hh
        obtain ⟨h1, h2, h4⟩ := hh
        subst h1
        cases h
        unfold sa_ixin at h2
        split at h2
        rotate_left
        · cases h2
        rename_i jx hjx
        obtain ⟨i1, i2⟩ := sa_ixk hG.1.1 hjx
        have i2 := i2 _ (of_decide_eq_true h2)
        refine va_last (D := D) (x := (V jv).2.1) hx hb hK hG.2.2.1 hG.2.2.2.1 hG.2.2.2.2 i 2 (sa_find_0 hj) rfl i2 hd (fun H1 locs1 hP hD hS => ?_)
        obtain ⟨g1, g2⟩ := sa_G_lrow hG h4 hj hP hD hS
        have h9 := k _ List.mem_cons_self _ H1 locs1 ls g1
        dsimp only at h9
        rw [g2] at h9
        exact h9
      · cases h
    · cases h
  · cases h
/-- a row of ints is copied whole -/
def so_acpi : sa_op := fun S => match S.2.2.1 with
  | .inl n :: .inl dp :: .inr (.inl (some a1)) :: .inl sp :: .inr (.inl (some a0)) :: [] => match sa_find a0 S.2.2.2.1 0, sa_find a1 S.2.2.2.1 0 with
    | some (_, .inr (t0, .inl l0)), some (i1, .inr (t1, .inl l1)) => if t0 = 0 ∧ t1 = 0 ∧ dp = (0, 0) ∧ sp = (0, 0) ∧ sa_ok_ix n = true ∧ n.2.toNat = l0.length ∧ l0.length = l1.length then some [(S.1 + 3, S.2.1, [], S.2.2.2.1.set i1 (a1, .inr (0, .inl l0)), S.2.2.2.2)] else none
    | _, _ => none
  | _ => none
theorem sa_cpy {V : sa_V} {l0 l1 : List (Nat × Int)} (h : l0.length = l1.length) : va_cpy (sa_f V l0) (sa_f V l1) 0 0 l0.length = sa_f V l0 := by
  funext j
  unfold va_cpy
  split
  · rw [Nat.sub_zero, Nat.zero_add]
  · rename_i hj
    have hj : l0.length ≤ j := by omega
    unfold sa_f
    rw [List.getElem?_eq_none (by omega), List.getElem?_eq_none hj]
theorem sn_acpi {p : Program} {l : Launch} {e : Env} {R : Room} {s : State} {m : MethodId} {args : Array Value} {below : List Frame} {meth : Method} {c : Code} {Q : State → Prop} {D : va_G} {dA : Nat → ClassId} {A : Nat → Prop} {nL : Nat} {cl : List vw_C} {n0 : Nat} {V0 : sa_V} {Ts : List Cond} {cc : ByteArray} {own : String} (C0 : sa_C p s m args c D dA A nL cl Ts cc own) {pc : Nat} {idx : Nat} (hd : decode cc pc = .ok (.invokestatic idx, 3)) (hl : Cond.methodLink own idx arraycopyName ∈ Ts) (hn1 : Cond.native arraycopyName ∈ Ts) (hn2 : Cond.static arraycopyName ∈ Ts) (hn3 : Cond.initialized "java/lang/System" ∈ Ts) (hR1 : 1 ≤ R.frames) (hR2 : nativeFrameWords "java/lang/System" "arraycopy" 5 + 11 ≤ R.locals) : sa_snd p l e R s m args below meth c Q D dA A nL cl n0 V0 pc so_acpi := by
  obtain ⟨hx, hb, hts, hown, hml, hK, hA⟩ := C0
  rintro ⟨pc, lo, st, cs, G, kc, ks⟩ sts rfl h k V H locs ls hG
  unfold so_acpi at h
  dsimp only at h
  split at h
  · rename_i n dp a1 sp a0
    split at h
    · rename_i i0 t0 l0 i1 t1 l1 hj0 hj1
      split at h
      · rename_i hh
        obtain ⟨h1, h2, h3, h4, h5, h6, h7⟩ := hh
        subst h1 h2 h3 h4
        have h5 := of_decide_eq_true h5
        cases h
        obtain ⟨n1, n2⟩ := sa_nn hG.1.1 h5
        have e0 : sa_i V (0, 0) = 0 := (sa_i_0 hG.1.1 0).trans rfl
        have z1 : ¬ sa_i V (0, 0) < 0 := by rw [e0]; decide
        have z2 : (sa_i V (0, 0)).toNatClampNeg = 0 := by rw [e0]; rfl
        refine va_copyi (D := D) (ty := .int) (sp := sa_i V (0, 0)) (dp := sa_i V (0, 0)) (n := sa_i V n) hx hb (by rw [hml]; exact hG.2.1.1.symm) hown (hts _ hl) (hts _ hn1) (hts _ hn2) (hts _ hn3) hK hG.2.2.1 hG.2.2.2.1 hG.2.2.2.2 i0 i1 0 0 (sa_find_0 hj0) (sa_find_0 hj1) rfl rfl rfl z1 z1 n1 (by rw [n2, z2]; omega) (by rw [n2, z2]; omega) (fun _ _ => rfl) hR1 (by rw [List.map_nil, List.map_nil]; exact (Nat.zero_add _).symm ▸ hR2) hd (fun H1 locs1 hP hD hS => ?_)
        have e9 : (cs.map (sa_e V dA)).set i1 (sa_ad V a1, .inl (dA 0, l1.length, .inl (sa_f V l0))) = (cs.set i1 (a1, .inr (0, .inl l0))).map (sa_e V dA) := by
          rw [List.map_set, ← h7]
          rfl
        rw [n2, z2, h6, sa_cpy h7, e9] at hP hD
        exact k _ List.mem_cons_self V H1 locs1 ls ⟨hG.1, hG.2.1, hP, hD, hS⟩
      · cases h
    · cases h
  · cases h
def so_acpl : sa_op := fun S => match S.2.2.1 with
  | .inl n :: .inl dp :: .inr (.inl (some a1)) :: .inl sp :: .inr (.inl (some a0)) :: [] => match sa_find a0 S.2.2.2.1 0, sa_find a1 S.2.2.2.1 0 with
    | some (_, .inr (t0, .inr (.inl (N0, _)))), some (i1, .inr (t1, .inr (.inl (N1, _)))) => if t0 = 2 ∧ t1 = 2 ∧ dp = (0, 0) ∧ sp = (0, 0) ∧ sa_ok_ix n = true ∧ n.2.toNat ≤ N0 ∧ n.2.toNat ≤ N1 ∧ sa_wf S.2.2.2.2.1.length S.2.1 [] S.2.2.2.1 = true then some [(S.1 + 3, S.2.1, [], S.2.2.2.1.set i1 (a1, .inr (2, .inr (.inl (N1, S.2.2.2.2.1.length)))), S.2.2.2.2.1 ++ [(0, 0)], S.2.2.2.2.2)] else none
    | _, _ => none
  | _ => none
theorem sn_acpl {p : Program} {l : Launch} {e : Env} {R : Room} {s : State} {m : MethodId} {args : Array Value} {below : List Frame} {meth : Method} {c : Code} {Q : State → Prop} {D : va_G} {dA : Nat → ClassId} {A : Nat → Prop} {nL : Nat} {cl : List vw_C} {n0 : Nat} {V0 : sa_V} {Ts : List Cond} {cc : ByteArray} {own : String} (C0 : sa_C p s m args c D dA A nL cl Ts cc own) {pc : Nat} {idx : Nat} (hd : decode cc pc = .ok (.invokestatic idx, 3)) (hl : Cond.methodLink own idx arraycopyName ∈ Ts) (hn1 : Cond.native arraycopyName ∈ Ts) (hn2 : Cond.static arraycopyName ∈ Ts) (hn3 : Cond.initialized "java/lang/System" ∈ Ts) (hR1 : 1 ≤ R.frames) (hR2 : nativeFrameWords "java/lang/System" "arraycopy" 5 + 11 ≤ R.locals) : sa_snd p l e R s m args below meth c Q D dA A nL cl n0 V0 pc so_acpl := by
  obtain ⟨hx, hb, hts, hown, hml, hK, hA⟩ := C0
  rintro ⟨pc, lo, st, cs, G, kc, ks⟩ sts rfl h k V H locs ls hG
  unfold so_acpl at h
  dsimp only at h
  split at h
  · rename_i n dp a1 sp a0
    split at h
    · rename_i i0 t0 N0 b0 i1 t1 N1 b1 hj0 hj1
      split at h
      · rename_i hh
        obtain ⟨h1, h2, h3, h4, h5, h6, h7, h8⟩ := hh
        subst h1 h2 h3 h4
        have h5 := of_decide_eq_true h5
        cases h
        obtain ⟨n1, n2⟩ := sa_nn hG.1.1 h5
        have e0 : sa_i V (0, 0) = 0 := (sa_i_0 hG.1.1 0).trans rfl
        have z1 : ¬ sa_i V (0, 0) < 0 := by rw [e0]; decide
        have z2 : (sa_i V (0, 0)).toNatClampNeg = 0 := by rw [e0]; rfl
        refine va_copyl (D := D) (ty := .long) (sp := sa_i V (0, 0)) (dp := sa_i V (0, 0)) (n := sa_i V n) hx hb (by rw [hml]; exact hG.2.1.1.symm) hown (hts _ hl) (hts _ hn1) (hts _ hn2) (hts _ hn3) hK hG.2.2.1 hG.2.2.2.1 hG.2.2.2.2 i0 i1 2 2 (sa_find_0 hj0) (sa_find_0 hj1) rfl rfl rfl z1 z1 n1 (by rw [n2, z2]; omega) (by rw [n2, z2]; omega) (fun _ _ => rfl) hR1 (by rw [List.map_nil, List.map_nil]; exact (Nat.zero_add _).symm ▸ hR2) hd (fun H1 locs1 hP hD hS => ?_)
        obtain ⟨g1, g2⟩ := sa_G_lrow (st := []) hG h8 hj1 hP hD hS
        have h9 := k _ List.mem_cons_self _ H1 locs1 ls g1
        exact h9
      · cases h
    · cases h
  · cases h
end SA5
end
section
section SA6
/-! signs for signs -/
def sa_pl (V : sa_V) (g : Nat → Nat × Int) : sa_V := fun k => ((V (g k).1).1 + (g k).2, (V (g k).1).2)
def sa_sq (g : Nat → Nat × Int) (q : Nat × Int) : Nat × Int := ((g q.1).1, (g q.1).2 + q.2)
def sa_sv (g : Nat → Nat × Int) : sa_v → sa_v
  | .inl q => .inl (sa_sq g q)
  | .inr (.inl none) => .inr (.inl none)
  | .inr (.inl (some k)) => .inr (.inl (some (g k).1))
  | .inr (.inr j) => .inr (.inr (g j).1)
def sa_sa (g : Nat → Nat × Int) : sa_a → sa_a
  | .inl l => .inl (l.map (sa_sq g))
  | .inr (.inl q) => .inr (.inl (q.1, (g q.2).1))
  | .inr (.inr l) => .inr (.inr (l.map (Option.map (fun k => (g k).1))))
def sa_sx (g : Nat → Nat × Int) : ((Nat × List sa_v) ⊕ (Nat × sa_a)) → ((Nat × List sa_v) ⊕ (Nat × sa_a))
  | .inl o => .inl (o.1, o.2.map (sa_sv g))
  | .inr a => .inr (a.1, sa_sa g a.2)
def sa_sc (g : Nat → Nat × Int) (q : sa_c) : sa_c := ((g q.1).1, sa_sx g q.2)
theorem sa_i_pl (V : sa_V) (g : Nat → Nat × Int) (q : Nat × Int) : sa_i V (sa_sq g q) = sa_i (sa_pl V g) q := by
  unfold sa_i sa_pl sa_sq
  dsimp only
  rw [Int.add_assoc]
theorem sa_val_pl (V : sa_V) (g : Nat → Nat × Int) (v : sa_v) : sa_val V (sa_sv g v) = sa_val (sa_pl V g) v := by
  rcases v with q | (_ | k) | j
  · show Value.int _ = Value.int _
    rw [sa_i_pl]
  · rfl
  · rfl
  · rfl
theorem sa_arr_pl (V : sa_V) (g : Nat → Nat × Int) (a : sa_a) : sa_arr V (sa_sa g a) = sa_arr (sa_pl V g) a := by
  rcases a with l | q | l
  · show ((l.map (sa_sq g)).length, Sum.inl (sa_f V (l.map (sa_sq g)))) = (l.length, Sum.inl (sa_f (sa_pl V g) l))
    rw [List.length_map]
    congr 2
    funext j
    unfold sa_f
    rw [List.getElem?_map]
    cases l[j]? with
    | none => rfl
    | some q => exact sa_i_pl V g q
  · rfl
  · show ((l.map (Option.map (fun k => (g k).1))).length, _) = (l.length, _)
    rw [List.length_map]
    congr 5
    funext j
    unfold sa_g
    rw [List.getD_eq_getElem?_getD, List.getD_eq_getElem?_getD, List.getElem?_map]
    cases l[j]? with
    | none => rfl
    | some o => cases o <;> rfl
theorem sa_e_pl (V : sa_V) (g : Nat → Nat × Int) (dA : Nat → ClassId) (q : sa_c) : sa_e V dA (sa_sc g q) = sa_e (sa_pl V g) dA q := by
  obtain ⟨k, o | a⟩ := q
  · show (sa_ad V (g k).1, Sum.inr (o.1, (o.2.map (sa_sv g)).map (sa_val V))) = (sa_ad (sa_pl V g) k, Sum.inr (o.1, o.2.map (sa_val (sa_pl V g))))
    have e1 : (o.2.map (sa_sv g)).map (sa_val V) = o.2.map (sa_val (sa_pl V g)) := by
      rw [List.map_map]
      exact List.map_congr_left (fun v _ => sa_val_pl V g v)
    rw [e1]
    rfl
  · show (sa_ad V (g k).1, Sum.inl (dA a.1, sa_arr V (sa_sa g a.2))) = (sa_ad (sa_pl V g) k, Sum.inl (dA a.1, sa_arr (sa_pl V g) a.2))
    rw [sa_arr_pl]
    rfl
/-! what a method does: arguments, cells, bounds; its ends: answer, cells, bounds; cells and slots made -/
abbrev sa_O : Type := Option sa_v × List sa_c × sa_B
abbrev sa_K : Type := List sa_v × List sa_c × sa_B × List sa_O × Nat × Nat
/-- links to private members of nest mates -/
def sa_NL : List (String × Nat × MethodName × String) := [("OffThenOn", 20, ⟨"OffThenOn$World", "<init>", "()V"⟩, "OffThenOn"), ("OffThenOn$World", 9, ⟨"OffThenOn$House", "<init>", "()V"⟩, "OffThenOn"), ("OffThenOn$World", 18, ⟨"OffThenOn$State", "<init>", "()V"⟩, "OffThenOn"), ("OffThenOn$World", 25, ⟨"OffThenOn$Sentence", "<init>", "()V"⟩, "OffThenOn"), ("OffThenOn$History", 17, ⟨"OffThenOn$State", "<init>", "()V"⟩, "OffThenOn"), ("OffThenOn", 38, ⟨"OffThenOn$State", "<init>", "()V"⟩, "OffThenOn"), ("OffThenOn", 45, ⟨"OffThenOn$HouseReader", "<init>", "()V"⟩, "OffThenOn"), ("OffThenOn$HouseReader", 11, ⟨"OffThenOn$Reader", "<init>", "()V"⟩, "OffThenOn"), ("OffThenOn$HouseReader", 20, ⟨"OffThenOn$House", "<init>", "()V"⟩, "OffThenOn"), ("OffThenOn", 52, ⟨"OffThenOn$LogReader", "<init>", "()V"⟩, "OffThenOn"), ("OffThenOn$LogReader", 11, ⟨"OffThenOn$Reader", "<init>", "()V"⟩, "OffThenOn"), ("OffThenOn", 59, ⟨"OffThenOn$SentenceReader", "<init>", "()V"⟩, "OffThenOn"), ("OffThenOn$SentenceReader", 11, ⟨"OffThenOn$Reader", "<init>", "()V"⟩, "OffThenOn"), ("OffThenOn$SentenceReader", 20, ⟨"OffThenOn$Sentence", "<init>", "()V"⟩, "OffThenOn"), ("OffThenOn", 66, ⟨"OffThenOn$Planner", "<init>", "()V"⟩, "OffThenOn"), ("OffThenOn$House", 68, ⟨"OffThenOn", "bit", "(II)I"⟩, "OffThenOn"), ("OffThenOn$State", 63, ⟨"OffThenOn", "bit", "(II)I"⟩, "OffThenOn"), ("OffThenOn$Sentence", 59, ⟨"OffThenOn", "bit", "(II)I"⟩, "OffThenOn"), ("OffThenOn$Planner", 32, ⟨"OffThenOn", "bit", "(II)I"⟩, "OffThenOn")]
def sa_U (D : va_G) (cl : List vw_C) (dA : Nat → ClassId) (U : State) : Prop := va_K D cl (sa_tys dA) U ∧ va_AO "OffThenOn$World" U ∧ va_AO "OffThenOn$State" U ∧ ∀ q ∈ sa_NL, va_Nw (.methodLinkNest q.1 q.2.1 q.2.2.1 q.2.2.2) U
theorem sa_U.warm {D : va_G} {cl : List vw_C} {dA : Nat → ClassId} {s U : State} (hW : s.WarmedH U.vm) (h : sa_U D cl dA s) : sa_U D cl dA U := ⟨va_K.moved hW.alike h.1, va_AO.moved hW.alike h.2.1, va_AO.moved hW.alike h.2.2.1, fun q hq => va_Nw.warmM hW (h.2.2.2 q hq)⟩
theorem sa_U.same {D : va_G} {cl : List vw_C} {dA : Nat → ClassId} {u U : State} (hv : u.vm = U.vm) (h : sa_U D cl dA u) : sa_U D cl dA U := ⟨va_K.moved (by rw [hv]; exact Vm.Alike.refl _) h.1, va_AO.moved (by rw [hv]; exact Vm.Alike.refl _) h.2.1, va_AO.moved (by rw [hv]; exact Vm.Alike.refl _) h.2.2.1, fun q hq => va_Nw.same rfl hv (h.2.2.2 q hq)⟩
def sa_P (D : va_G) (dA : Nat → ClassId) (cl : List vw_C) (sz : Nat) (V : sa_V) (K : sa_K) : Array Value → State → Prop := va_Pc (K.1.map (sa_val V)) (fun U => U.heap.size = sz ∧ va_P D cl (K.2.1.map (sa_e V dA)) U.heap ∧ sa_U D cl dA U ∧ va_D (fun _ => True) (K.2.1.map (sa_e V dA)))
def sa_Q (D : va_G) (dA : Nat → ClassId) (cl : List vw_C) (sz : Nat) (V : sa_V) (K : sa_K) : Array Value → State → Outcome → State → Prop := fun _ st oc t =>
  (∃ o ∈ K.2.2.2.1, ∃ V' : sa_V, (∀ k, k < K.2.2.1.length → V' k = V k) ∧ sa_I V' o.2.2 ∧ oc = .returned (o.1.map (sa_val V')) ∧ va_P D cl (o.2.1.map (sa_e V' dA)) t.heap ∧ va_D (va_A (K.2.1.map (sa_e V dA)) sz) (o.2.1.map (sa_e V' dA))) ∧ va_F (va_A (K.2.1.map (sa_e V dA)) sz) st t
def sa_Met (l : Launch) (cl : List vw_C) (Ts : List Cond) (y : MethodName) (cc : ByteArray) (maxL : Nat) (ret : Option FieldType) (fr lc : Nat) (K : sa_K) : Prop :=
  ∀ (D : va_G) (dA : Nat → ClassId) (sz : Nat) (V : sa_V), sa_I V K.2.2.1 → Met l y (Cond.code y cc maxL ret :: Ts) { frames := fr, cells := K.2.2.2.2.1, slots := K.2.2.2.2.2, locals := lc } (sa_P D dA cl sz V K) (sa_Q D dA cl sz V K) K.2.2.2.2.1 K.2.2.2.2.2 (va_A (K.2.1.map (sa_e V dA)) sz)
/-! which sign is which -/
abbrev sa_rr : Type := List (Nat × Nat × Int)
def sa_lk (k : Nat) : sa_rr → Option (Nat × Int)
  | [] => none
  | q :: l => if q.1 = k then some q.2 else sa_lk k l
def sa_sb (r : sa_rr) (k : Nat) : Nat × Int := match sa_lk k r with
  | some x => x
  | none => (0, 0)
def sa_bd (r : sa_rr) (k : Nat) (x : Nat × Int) : sa_rr := if k = 0 then r else match sa_lk k r with
  | some _ => r
  | none => (k, x) :: r
def sa_m1 (r : sa_rr) : sa_v → sa_v → sa_rr
  | .inl q, .inl u => sa_bd r q.1 (u.1, u.2 - q.2)
  | .inr (.inl (some k)), .inr (.inl (some u)) => sa_bd r k (u, 0)
  | .inr (.inr j), .inr (.inr u) => sa_bd r j (u, 0)
  | _, _ => r
def sa_ml : List sa_v → List sa_v → sa_rr → sa_rr
  | v :: l, u :: l', r => sa_ml l l' (sa_m1 r v u)
  | _, _, r => r
def sa_mi : List (Nat × Int) → List (Nat × Int) → sa_rr → sa_rr
  | v :: l, u :: l', r => sa_mi l l' (sa_bd r v.1 (u.1, u.2 - v.2))
  | _, _, r => r
def sa_mq : List (Option Nat) → List (Option Nat) → sa_rr → sa_rr
  | some v :: l, some u :: l', r => sa_mq l l' (sa_bd r v (u, 0))
  | _ :: l, _ :: l', r => sa_mq l l' r
  | _, _, r => r
def sa_mx (r : sa_rr) : ((Nat × List sa_v) ⊕ (Nat × sa_a)) → ((Nat × List sa_v) ⊕ (Nat × sa_a)) → sa_rr
  | .inl o, .inl u => sa_ml o.2 u.2 r
  | .inr (_, .inl l), .inr (_, .inl l') => sa_mi l l' r
  | .inr (_, .inr (.inl q)), .inr (_, .inr (.inl u)) => sa_bd r q.2 (u.2, 0)
  | .inr (_, .inr (.inr l)), .inr (_, .inr (.inr l')) => sa_mq l l' r
  | _, _ => r
def sa_mcs (cs : List sa_c) : List sa_c → sa_rr → sa_rr
  | [], r => r
  | q :: l, r => match sa_find (sa_sb r q.1).1 cs 0 with
    | some y => sa_mcs cs l (sa_mx r q.2 y.2)
    | none => sa_mcs cs l r
def sa_idx (cs : List sa_c) (a : Nat) : Nat := match sa_find a cs 0 with
  | some y => y.1
  | none => cs.length
def sa_bck (r : sa_rr) (GK G : sa_B) : Bool := (List.range GK.length).all (fun k => match GK[k]?, G[(sa_sb r k).1]? with
  | some b, some b' => decide (b.1 ≤ b'.1 + (sa_sb r k).2 ∧ b'.2 + (sa_sb r k).2 ≤ b.2)
  | _, _ => false)
def sa_rf (r : sa_rr) (Go : sa_B) : List Nat → sa_B → sa_B
  | [], G => G
  | k :: l, G => match Go[k]? with
    | some b => sa_rf r Go l (sa_lw (sa_hi G (sa_sb r k).1 (b.2 - (sa_sb r k).2)) (sa_sb r k).1 (b.1 - (sa_sb r k).2))
    | none => sa_rf r Go l G
theorem sa_rf_ok {V : sa_V} {r : sa_rr} {Go : sa_B} : ∀ (l : List Nat) (G : sa_B), sa_I V G → (∀ k ∈ l, ∀ b, Go[k]? = some b → b.1 ≤ (V (sa_sb r k).1).1 + (sa_sb r k).2 ∧ (V (sa_sb r k).1).1 + (sa_sb r k).2 ≤ b.2) → sa_I V (sa_rf r Go l G) ∧ (sa_rf r Go l G).length = G.length
  | [], G, h, _ => ⟨h, rfl⟩
  | k :: l, G, h, hb => by
    unfold sa_rf
    split
    · rename_i b hk
      obtain ⟨b1, b2⟩ := hb k List.mem_cons_self b hk
      obtain ⟨r1, r2⟩ := sa_rf_ok l _ (sa_I_lw (s := (sa_sb r k).1) (z := b.1 - (sa_sb r k).2) (sa_I_hi (s := (sa_sb r k).1) (z := b.2 - (sa_sb r k).2) h (by omega)) (by omega)) (fun k' hk' => hb k' (List.mem_cons_of_mem _ hk'))
      exact ⟨r1, by rw [r2, sa_lw_len, sa_hi_len]⟩
    · exact sa_rf_ok l G h (fun k' hk' => hb k' (List.mem_cons_of_mem _ hk'))
def sa_g2 (r : sa_rr) (n0 n : Nat) (k : Nat) : Nat × Int := if k < n0 then sa_sb r k else (n + (k - n0), 0)
def sa_rest (cs : List sa_c) (isC : List Nat) : List Nat := (List.range cs.length).filter (fun i => !(isC.contains i))
def sa_end (K : sa_K) (S : sa_S) (r : sa_rr) (isC : List Nat) (rest : List sa_v) (o : sa_O) : sa_S :=
  (S.1 + 3, S.2.1, (match o.1 with | some v => sa_sv (sa_g2 r K.2.2.1.length S.2.2.2.2.1.length) v :: rest | none => rest), (sa_rest S.2.2.2.1 isC).filterMap (fun i => S.2.2.2.1[i]?) ++ o.2.1.map (sa_sc (sa_g2 r K.2.2.1.length S.2.2.2.2.1.length)), sa_rf r o.2.2 (List.range K.2.2.1.length) S.2.2.2.2.1 ++ o.2.2.drop K.2.2.1.length, S.2.2.2.2.2.1 + K.2.2.2.2.1, S.2.2.2.2.2.2 + K.2.2.2.2.2)
def sa_eqx : ((Nat × List sa_v) ⊕ (Nat × sa_a)) → ((Nat × List sa_v) ⊕ (Nat × sa_a)) → Bool
  | .inl o, .inl u => decide (o.1 = u.1 ∧ o.2 = u.2)
  | .inr (t, .inl l), .inr (t', .inl l') => decide (t = t' ∧ l = l')
  | .inr (t, .inr (.inl q)), .inr (t', .inr (.inl u)) => decide (t = t' ∧ q = u)
  | .inr (t, .inr (.inr l)), .inr (t', .inr (.inr l')) => decide (t = t' ∧ l = l')
  | _, _ => false
theorem sa_eqx_ok {x y : (Nat × List sa_v) ⊕ (Nat × sa_a)} (h : sa_eqx x y = true) : x = y := by
  unfold sa_eqx at h
  split at h
  · rename_i o u
    obtain ⟨o1, o2⟩ := o
    obtain ⟨u1, u2⟩ := u
    obtain ⟨h1, h2⟩ := of_decide_eq_true h
    dsimp only at h1 h2
    rw [h1, h2]
  · obtain ⟨h1, h2⟩ := of_decide_eq_true h
    rw [h1, h2]
  · obtain ⟨h1, h2⟩ := of_decide_eq_true h
    rw [h1, h2]
  · obtain ⟨h1, h2⟩ := of_decide_eq_true h
    rw [h1, h2]
  · cases h
def sa_eqo (o : Option sa_c) (q : sa_c) : Bool := match o with
  | some p => decide (p.1 = q.1) && sa_eqx p.2 q.2
  | none => false
theorem sa_eqo_ok {o : Option sa_c} {q : sa_c} (h : sa_eqo o q = true) : o = some q := by
  cases o with
  | none => cases h
  | some p =>
    have h : (decide (p.1 = q.1) && sa_eqx p.2 q.2) = true := h
    rw [Bool.and_eq_true] at h
    rw [show p = q from Prod.ext (of_decide_eq_true h.1) (sa_eqx_ok h.2)]
def sa_eql : List (Option sa_c) → List sa_c → Bool
  | [], [] => true
  | o :: l, q :: l' => sa_eqo o q && sa_eql l l'
  | _, _ => false
theorem sa_eql_ok : ∀ {l : List (Option sa_c)} {w : List sa_c}, sa_eql l w = true → l = w.map some
  | [], [], _ => rfl
  | [], _ :: _, h => by cases h
  | _ :: _, [], h => by cases h
  | o :: l, q :: w, h => by
    have h : (sa_eqo o q && sa_eql l w) = true := h
    rw [Bool.and_eq_true] at h
    rw [List.map_cons, ← sa_eql_ok h.2]
    rw [sa_eqo_ok h.1]
def sa_fitK (K : sa_K) (S : sa_S) (r : sa_rr) (isC : List Nat) (as rest : List sa_v) (maxC maxS : Nat) : Bool :=
  decide (K.1.map (sa_sv (sa_sb r)) = as) && sa_eql (isC.map (fun i => S.2.2.2.1[i]?)) (K.2.1.map (sa_sc (sa_sb r))) && va_nd isC && sa_bck r K.2.2.1 S.2.2.2.2.1 && decide ((rest.map sa_cat).sum ≤ 8) && decide (S.2.2.2.2.2.1 + K.2.2.2.2.1 ≤ maxC) && decide (S.2.2.2.2.2.2 + K.2.2.2.2.2 ≤ maxS) && decide (sa_sb r 0 = (0, 0)) && sa_wf S.2.2.2.2.1.length S.2.1 rest S.2.2.2.1
def sa_rof (K : sa_K) (S : sa_S) : sa_rr := sa_mcs S.2.2.2.1 K.2.1 (sa_ml K.1 (S.2.2.1.take K.1.length).reverse [])
def sa_cof (K : sa_K) (S : sa_S) (r : sa_rr) : List Nat := K.2.1.map (fun q => sa_idx S.2.2.2.1 (sa_sb r q.1).1)
def so_call (K : sa_K) (maxC maxS : Nat) : sa_op := fun S =>
  if K.1.length ≤ S.2.2.1.length ∧ sa_fitK K S (sa_rof K S) (sa_cof K S (sa_rof K S)) (S.2.2.1.take K.1.length).reverse (S.2.2.1.drop K.1.length) maxC maxS = true then some ((K.2.2.2.1.map (sa_end K S (sa_rof K S) (sa_cof K S (sa_rof K S)) (S.2.2.1.drop K.1.length))).filter (fun S' => S'.2.2.2.2.1.all (fun b => decide (b.1 ≤ b.2)))) else none
theorem sa_fm {α β : Type} {f : α → Option β} : ∀ {l : List α} {w : List β}, l.map f = w.map some → l.filterMap f = w
  | [], [], _ => rfl
  | [], _ :: _, h => by cases h
  | _ :: _, [], h => by cases h
  | a :: l, b :: w, h => by
    rw [List.map_cons, List.map_cons] at h
    obtain ⟨h1, h2⟩ := List.cons.inj h
    rw [List.filterMap_cons_some h1, sa_fm h2]
theorem sa_sum (V : sa_V) (st : List sa_v) : ((st.map (sa_val V)).map (fun v => v.category)).sum = (st.map sa_cat).sum := by
  rw [List.map_map]
  congr 1
  apply List.map_congr_left
  intro v _
  exact sa_cat_val V v
theorem sa_nd_filter : ∀ (f : Nat → Bool) (n : Nat), va_nd ((List.range n).filter f) = true := by
  intro f n
  have key : ∀ l : List Nat, l.Nodup → va_nd l = true := by
    intro l
    induction l with
    | nil => intro _; rfl
    | cons a l ih =>
      intro h
      rw [List.nodup_cons] at h
      show (decide (a ∉ l) && va_nd l) = true
      rw [ih h.2, decide_eq_true h.1]
      rfl
  exact key _ (List.Nodup.sublist (List.filter_sublist) (List.nodup_range))
/-- behind a call -/
theorem sa_call_ok {p : Program} {l : Launch} {e : Env} {R : Room} {s : State} {m : MethodId} {args : Array Value} {below : List Frame} {meth : Method} {c : Code} {Q : State → Prop} {D : va_G} {dA : Nat → ClassId} {A : Nat → Prop} {nL : Nat} {cl : List vw_C} {n0 : Nat} {V0 : sa_V} {K : sa_K} {maxC maxS pc : Nat} {lo : sa_L} {st : List sa_v} {cs : List sa_c} {G : sa_B} {kc ks : Nat} {sts : List sa_S} {V : sa_V} {H : Heap} {locs : List Loc} {ls : Array Slot} {a : Array Value}
    (hA : ∀ q, s.heap.size ≤ q → A q) (h : so_call K maxC maxS (pc, lo, st, cs, G, kc, ks) = some sts) (k : ∀ S' ∈ sts, sa_W p l e R s m args below meth c Q D dA A nL cl n0 V0 S') (hG : sa_G D dA A nL cl n0 V0 s.heap V lo cs G H locs ls)
    (vr : ∀ (As rest : List sa_v) (V1 : sa_V), st = As.reverse ++ rest → As.map (sa_val V) = K.1.map (sa_val V1) → As.length = K.1.length → sa_I V1 K.2.2.1 → ((rest.map (sa_val V)).map (fun v => v.category)).sum ≤ 8 → va_P D cl (K.2.1.map (sa_e V1 dA)) H → va_D (fun _ => True) (K.2.1.map (sa_e V1 dA)) → kc + K.2.2.2.2.1 ≤ maxC → ks + K.2.2.2.2.2 ≤ maxS →
      va_Run p l e R s m args below meth c H locs kc ks K.2.2.2.2.1 K.2.2.2.2.2 (F0 m pc ls (st.map (sa_val V))) (rest.map (sa_val V)) (sa_Q D dA cl H.size V1 K a) (va_A (K.2.1.map (sa_e V1 dA)) H.size)) :
    W p l e R s m args below meth c H locs kc ks Q (F0 m pc ls (st.map (sa_val V))) := by
  unfold so_call at h
  dsimp only at h
  split at h
  · rename_i hh
    obtain ⟨hlen, hfit⟩ := hh
    generalize hr : sa_rof K (pc, lo, st, cs, G, kc, ks) = r at h hfit
    generalize hC : sa_cof K (pc, lo, st, cs, G, kc, ks) r = isC at h hfit
    generalize has : (st.take K.1.length).reverse = As at hfit
    generalize hre : st.drop K.1.length = rest at h hfit
    simp only [sa_fitK, Bool.and_eq_true, decide_eq_true_eq] at hfit
    obtain ⟨⟨⟨⟨⟨⟨⟨⟨f1, f2⟩, f3⟩, f4⟩, f5⟩, f6⟩, f7⟩, f8⟩, f9⟩ := hfit
    cases h
    have hst : st = As.reverse ++ rest := by rw [← has, ← hre, List.reverse_reverse, List.take_append_drop]
    have hwf := f9
    simp only [sa_wf, Bool.and_eq_true, decide_eq_true_eq] at hwf
    obtain ⟨⟨⟨w0, w1⟩, w2⟩, w3⟩ := hwf
    -- the callee's start
    have b4 : ∀ j b, K.2.2.1[j]? = some b → (sa_sb r j).1 < G.length ∧ b.1 ≤ (sa_pl V (sa_sb r) j).1 ∧ (sa_pl V (sa_sb r) j).1 ≤ b.2 := by
      intro j b hj
      have hjl := (List.getElem?_eq_some_iff.mp hj).1
      have h4 := List.all_eq_true.mp f4 j (List.mem_range.mpr hjl)
      rw [hj] at h4
      split at h4
      · rename_i b1 b' e1 e2
        cases e1
        have h4 := of_decide_eq_true h4
        obtain ⟨g1, g2⟩ := hG.1.1.1 _ _ e2
        refine ⟨(List.getElem?_eq_some_iff.mp e2).1, ?_, ?_⟩
        · show b.1 ≤ (V _).1 + _
          omega
        · show (V _).1 + _ ≤ b.2
          omega
      · cases h4
    have hI1 : sa_I (sa_pl V (sa_sb r)) K.2.2.1 := by
      refine ⟨fun j b hj => (b4 j b hj).2, ?_⟩
      show (V (sa_sb r 0).1).1 + (sa_sb r 0).2 = 0
      rw [f8]
      show (V 0).1 + 0 = 0
      rw [hG.1.1.2]
      rfl
    have hCe : isC.map (fun i => (cs.map (sa_e V dA))[i]?) = (K.2.1.map (sa_e (sa_pl V (sa_sb r)) dA)).map some := by
      have := congrArg (List.map (Option.map (sa_e V dA))) (sa_eql_ok f2)
      rw [List.map_map, List.map_map, List.map_map] at this
      rw [List.map_map]
      refine Eq.trans (List.map_congr_left (fun i _ => ?_)) (this.trans (List.map_congr_left (fun q _ => ?_)))
      · show (cs.map (sa_e V dA))[i]? = Option.map (sa_e V dA) cs[i]?
        rw [List.getElem?_map]
      · show some (sa_e V dA (sa_sc (sa_sb r) q)) = some (sa_e (sa_pl V (sa_sb r)) dA q)
        rw [sa_e_pl]
    have hP1 := hG.2.2.1.sub isC (sa_fm hCe)
    have hD1 := (hG.2.2.2.1.sub isC f3 hCe)
    have hF := va_free (wc := K.2.1.map (sa_e (sa_pl V (sa_sb r)) dA)) hG.2.2.2.1 hG.2.2.2.2 hA isC hCe
    have hargs : As.map (sa_val V) = K.1.map (sa_val (sa_pl V (sa_sb r))) := by
      rw [← f1, List.map_map]
      exact List.map_congr_left (fun v _ => sa_val_pl V _ v)
    have hAl : As.length = K.1.length := by rw [← f1, List.length_map]
    have vrun := vr As rest (sa_pl V (sa_sb r)) hst hargs hAl hI1 (by rw [sa_sum]; exact f5) hP1 (hD1.weaken (fun _ _ _ _ => trivial)) f6 f7
    intro T hT X
    obtain ⟨v, st₀, t, T', L, t0, X', hL, e1, e2, ⟨⟨o, ho, V', hV', hI', hoc, hPo, hDo⟩, hz, hkk⟩, stp⟩ := vrun T hT X
    rw [t0] at hz hkk
    obtain ⟨Vn, hVn⟩ : ∃ Vn : sa_V, Vn = (fun j => if j < G.length then V j else V' (K.2.2.1.length + (j - G.length))) := ⟨_, rfl⟩
    have vlt : ∀ j, j < G.length → Vn j = V j := fun j hj => by rw [hVn]; exact if_pos hj
    have vge : ∀ j, Vn (G.length + j) = V' (K.2.2.1.length + j) := fun j => by
      rw [hVn]
      show (if G.length + j < G.length then _ else _) = _
      rw [if_neg (by omega), show G.length + j - G.length = j by omega]
    have hVV : V' = sa_pl Vn (sa_g2 r K.2.2.1.length G.length) := by
      funext j
      by_cases hj : j < K.2.2.1.length
      · have hj2 := (b4 j _ (List.getElem?_eq_getElem hj)).1
        unfold sa_pl sa_g2
        rw [if_pos hj, vlt _ hj2, hV' j hj]
        rfl
      · unfold sa_pl sa_g2
        rw [if_neg hj]
        show _ = ((Vn (G.length + (j - K.2.2.1.length))).1 + 0, (Vn (G.length + (j - K.2.2.1.length))).2)
        rw [vge, show K.2.2.1.length + (j - K.2.2.1.length) = j by omega, Int.add_zero]
    have agree : ∀ v : sa_v, sa_wfv G.length v = true → sa_val Vn v = sa_val V v := by
      intro v hv
      rcases v with q | (_ | j) | j
      · show Value.int (Int32.ofInt ((Vn q.1).1 + q.2)) = _
        rw [vlt _ (of_decide_eq_true hv)]
        rfl
      · rfl
      · show Value.ref (Vn j).2.2.2 = _
        rw [vlt _ (of_decide_eq_true hv)]
        rfl
      · show Value.long (Vn j).2.1 = _
        rw [vlt _ (of_decide_eq_true hv)]
        rfl
    have agreeC : ∀ q : sa_c, sa_wfc G.length q = true → sa_e Vn dA q = sa_e V dA q := by
      intro q hq
      obtain ⟨j, o9 | a9⟩ := q
      · simp only [sa_wfc, Bool.and_eq_true, decide_eq_true_eq, List.all_eq_true] at hq
        show (sa_ad Vn j, Sum.inr (o9.1, o9.2.map (sa_val Vn))) = (sa_ad V j, Sum.inr (o9.1, o9.2.map (sa_val V)))
        unfold sa_ad
        rw [vlt _ hq.1]
        congr 3
        exact List.map_congr_left (fun v hv => agree v (hq.2 v hv))
      · simp only [sa_wfc, Bool.and_eq_true, decide_eq_true_eq] at hq
        have ha : sa_arr Vn a9.2 = sa_arr V a9.2 := by
          obtain ⟨hq1, hq2⟩ := hq
          obtain ⟨t9, l9 | q9 | l9⟩ := a9
          · have hh : ∀ q ∈ l9, q.1 < G.length := fun q hq => of_decide_eq_true (List.all_eq_true.mp hq2 q hq)
            show (l9.length, _) = (l9.length, _)
            congr 2
            funext i
            unfold sa_f
            split
            · rename_i q hq
              unfold sa_i
              rw [vlt _ (hh q (List.mem_of_getElem? hq))]
            · rfl
          · have hh : q9.2 < G.length := of_decide_eq_true hq2
            show (q9.1, _) = (q9.1, _)
            rw [vlt _ hh]
          · have hh : ∀ o ∈ l9, _ := List.all_eq_true.mp hq2
            show (l9.length, _) = (l9.length, _)
            congr 5
            funext i
            unfold sa_g
            rw [List.getD_eq_getElem?_getD]
            cases hj : l9[i]? with
            | none => rfl
            | some o =>
              cases o with
              | none => rfl
              | some k9 =>
                have hk9 : k9 < G.length := of_decide_eq_true (hh _ (List.mem_of_getElem? hj))
                show some (sa_ad _ _) = some (sa_ad _ _)
                unfold sa_ad
                rw [vlt _ hk9]
        show (sa_ad Vn j, Sum.inl (dA a9.1, sa_arr Vn a9.2)) = (sa_ad V j, Sum.inl (dA a9.1, sa_arr V a9.2))
        rw [ha]
        unfold sa_ad
        rw [vlt _ hq.1]
    -- the cells
    have hmemR : ∀ q ∈ (sa_rest cs isC).filterMap (fun i => cs[i]?), sa_wfc G.length q = true := by
      intro q hq
      obtain ⟨i, -, hi⟩ := List.mem_filterMap.mp hq
      exact List.all_eq_true.mp w3 q (List.mem_of_getElem? hi)
    have hRe : (sa_rest cs isC).map (fun i => (cs.map (sa_e V dA))[i]?) = (((sa_rest cs isC).filterMap (fun i => cs[i]?)).map (sa_e Vn dA)).map some := by
      have key : ∀ l : List Nat, (∀ i ∈ l, i < cs.length) → l.map (fun i => cs[i]?) = (l.filterMap (fun i => cs[i]?)).map some := by
        intro l
        induction l with
        | nil => intro _; rfl
        | cons i l ih =>
          intro hl
          have hi := hl i List.mem_cons_self
          rw [List.map_cons, List.filterMap_cons_some (List.getElem?_eq_getElem hi), List.map_cons, ih (fun j hj => hl j (List.mem_cons_of_mem _ hj)), List.getElem?_eq_getElem hi]
      have h1 := key (sa_rest cs isC) (fun i hi => List.mem_range.mp (List.mem_filter.mp hi).1)
      have h2 := congrArg (List.map (Option.map (sa_e V dA))) h1
      rw [List.map_map, List.map_map] at h2
      rw [List.map_map]
      refine Eq.trans (List.map_congr_left (fun i _ => ?_)) (h2.trans (List.map_congr_left (fun q hq => ?_)))
      · show (cs.map (sa_e V dA))[i]? = Option.map (sa_e V dA) cs[i]?
        rw [List.getElem?_map]
      · show some (sa_e V dA q) = some (sa_e Vn dA q)
        rw [agreeC q (hmemR q hq)]
    obtain ⟨hPj, hDj⟩ := va_join (H1 := T'.heap) hG.2.2.1 hG.2.2.2.1 isC (sa_rest cs isC) hCe hRe (sa_nd_filter _ _) (fun i hi hi2 => by
      have := (List.mem_filter.mp hi).2
      simp at this
      exact this hi2) (fun q h1 h2 => by rw [e1]; exact hkk q h1 h2) hF (by rw [← e1] at hPo; exact hPo) hDo
    have hcells : ((sa_rest cs isC).filterMap (fun i => cs[i]?) ++ o.2.1.map (sa_sc (sa_g2 r K.2.2.1.length G.length))).map (sa_e Vn dA) = ((sa_rest cs isC).filterMap (fun i => cs[i]?)).map (sa_e Vn dA) ++ o.2.1.map (sa_e V' dA) := by
      rw [List.map_append, List.map_map]
      congr 1
      apply List.map_congr_left
      intro q _
      rw [hVV]
      exact sa_e_pl Vn _ dA q
    rw [← hcells] at hPj hDj
    -- the bounds
    have hIV : sa_I Vn G := ⟨fun i b hi => by rw [vlt i (List.getElem?_eq_some_iff.mp hi).1]; exact hG.1.1.1 i b hi, by rw [vlt 0 w0]; exact hG.1.1.2⟩
    obtain ⟨hrf1, hrf2⟩ := sa_rf_ok (V := Vn) (r := r) (Go := o.2.2) (List.range K.2.2.1.length) G hIV (fun j hj b hb => by
      have hjl := List.mem_range.mp hj
      have hj2 := (b4 j _ (List.getElem?_eq_getElem hjl)).1
      have h9 := hI'.1 j b hb
      rw [hV' j hjl] at h9
      rw [vlt _ hj2]
      exact h9)
    have hIn : sa_I Vn (sa_rf r o.2.2 (List.range K.2.2.1.length) G ++ o.2.2.drop K.2.2.1.length) := by
      refine ⟨fun i b hi => ?_, hIV.2⟩
      by_cases hl : i < G.length
      · rw [List.getElem?_append_left (by rw [hrf2]; exact hl)] at hi
        exact hrf1.1 i b hi
      · rw [List.getElem?_append_right (by rw [hrf2]; omega), hrf2, List.getElem?_drop] at hi
        have h9 := hI'.1 _ b hi
        have e9 : Vn i = V' (K.2.2.1.length + (i - G.length)) := by
          have := vge (i - G.length)
          rwa [show G.length + (i - G.length) = i by omega] at this
        rw [e9]
        exact h9
    -- the state behind it
    have hk9 := k (sa_end K (pc, lo, st, cs, G, kc, ks) r isC rest o) (List.mem_filter.mpr ⟨List.mem_map.mpr ⟨o, ho, rfl⟩, List.all_eq_true.mpr (fun b hb9 => decide_eq_true (by
      obtain ⟨i9, hi9⟩ := List.getElem?_of_mem hb9
      have h9 := hIn.1 i9 b hi9
      omega))⟩)
    have hSn : va_S A s.heap T'.heap (locs ++ L) := ⟨Nat.le_trans hG.2.2.2.2.1 (by rw [e1]; exact hz), fun q h1 h2 => by rw [e1, hkk q (Nat.lt_of_lt_of_le h1 hG.2.2.2.2.1) (fun z => h2 (hF q z))]; exact hG.2.2.2.2.2.1 q h1 h2, fun q hq => by
      rcases List.mem_append.mp hq with h | h
      · exact hG.2.2.2.2.2.2 q h
      · exact hF _ (hL q h)⟩
    have hlv : sa_lv Vn lo = sa_lv V lo := List.map_congr_left (fun q hq => by rw [agree _ (List.all_eq_true.mp w1 q hq)])
    have hrs : rest.map (sa_val Vn) = rest.map (sa_val V) := List.map_congr_left (fun q hq => agree _ (List.all_eq_true.mp w2 q hq))
    have hWn := hk9 Vn T'.heap (locs ++ L) ls ⟨⟨hIn, by show n0 ≤ (sa_rf r o.2.2 (List.range K.2.2.1.length) G ++ o.2.2.drop K.2.2.1.length).length; rw [List.length_append, hrf2]; exact Nat.le_trans hG.1.2.1 (Nat.le_add_right _ _), fun j hj => by rw [vlt j (Nat.lt_of_lt_of_le hj hG.1.2.1)]; exact hG.1.2.2 j hj⟩, by show lv_has ls nL (sa_lv Vn lo); rw [hlv]; exact hG.2.1, hPj, hDj, hSn⟩
    obtain ⟨t2, a1, b1⟩ := hWn T' rfl X'
    refine ⟨t2, stp t2 ?_, b1⟩
    have hv : v = o.1.map (sa_val V') := Outcome.returned.inj hoc
    have hstk : (match o.1 with | some v => sa_sv (sa_g2 r K.2.2.1.length G.length) v :: rest | none => rest).map (sa_val Vn) = v.toList ++ rest.map (sa_val V) := by
      rw [hv]
      cases o.1 with
      | none => exact hrs
      | some u =>
        show sa_val Vn (sa_sv _ u) :: rest.map (sa_val Vn) = sa_val V' u :: rest.map (sa_val V)
        rw [hrs, sa_val_pl, ← hVV]
    have a2 : Steps p.tables e below (T'.setTop (F0 m (pc + 3) ls ((match o.1 with | some v => sa_sv (sa_g2 r K.2.2.1.length G.length) v :: rest | none => rest).map (sa_val Vn)))) t2 := a1
    rw [hstk] at a2
    exact a2
  · cases h
end SA6
end
section
section SA7
theorem sa_blind {D : va_G} {dA : Nat → ClassId} {cl : List vw_C} {sz : Nat} {V : sa_V} {K : sa_K} : FrameBlind (sa_P D dA cl sz V K) := by
  intro a U g mk q
  obtain ⟨q0, q1, qP, qU, qD⟩ := q
  exact ⟨q0, q1, qP, sa_U.same (u := U) (U := U.calling g mk a) rfl qU, qD⟩
theorem sa_pre {D : va_G} {dA : Nat → ClassId} {cl : List vw_C} {V1 : sa_V} {K : sa_K} {s : State} {H : Heap} {vs : List Value} (hU : sa_U D cl dA s) (hv : vs = K.1.map (sa_val V1)) (hP : va_P D cl (K.2.1.map (sa_e V1 dA)) H) (hD : va_D (fun _ => True) (K.2.1.map (sa_e V1 dA))) : ∀ U : State, U.heap = H → s.WarmedH U.vm → sa_P D dA cl H.size V1 K vs.toArray U :=
  fun U hUH hW => ⟨by rw [hv], by rw [hUH], by rw [hUH]; exact hP, sa_U.warm hW hU, hD⟩
/-- the words of a method: its code's, and the list's -/
theorem sa_good {Ts : List Cond} (hg : ∀ w ∈ Ts, goodWord w = true) {w : Cond} (h : w ∈ Ts) : GoodIn Ts (w :: Ts) := by
  intro u hu
  rcases List.mem_cons.mp hu with rfl | hu
  · exact ⟨h, good_of_word (hg _ h)⟩
  · exact ⟨hu, good_of_word (hg _ hu)⟩
theorem sa_goodV {Ts : List Cond} (hg : ∀ w ∈ Ts, goodWord w = true) {w : Cond} (h : w ∈ Ts) {l : List Cond} (hl : ∀ u ∈ l, u ∈ Ts) : GoodIn Ts (l ++ (w :: Ts)) := by
  intro u hu
  rcases List.mem_append.mp hu with hu | hu
  · exact ⟨hl u hu, good_of_word (hg _ (hl u hu))⟩
  · exact sa_good hg h u hu
def sa_arg (y : MethodName) (n : Nat) : Prop := y.cls ≠ "java/lang/invoke/MethodHandle" ∧ y.cls ≠ "java/lang/invoke/VarHandle" ∧ (parseMethodDescriptor y.desc).map (fun d => d.parameters.length) = some n
theorem sa_take {st As rest : List sa_v} {n : Nat} (h : st = As.reverse ++ rest) (hl : As.length = n) : (st.take n).reverse = As := by
  rw [h, List.take_append_of_le_length (by rw [List.length_reverse]; omega), List.take_of_length_le (by rw [List.length_reverse]; omega), List.reverse_reverse]
theorem sa_stk {V : sa_V} {v : sa_v} {As rest : List sa_v} : ((v :: As).reverse ++ rest).map (sa_val V) = (As.map (sa_val V)).reverse ++ sa_val V v :: rest.map (sa_val V) := by
  rw [List.reverse_cons, List.map_append, List.map_append, List.map_reverse, List.append_assoc]
  rfl
def so_callV (ci : Nat) (K : sa_K) (maxC maxS : Nat) : sa_op := fun S => match (S.2.2.1.take K.1.length).reverse with
  | .inr (.inl (some a)) :: _ => match sa_find a S.2.2.2.1 0 with
    | some (_, .inl (cj, _)) => if cj = ci then so_call K maxC maxS S else none
    | _ => none
  | _ => none
def so_callI (K : sa_K) (maxC maxS : Nat) : sa_op := fun S => match (S.2.2.1.take K.1.length).reverse with
  | .inr (.inl (some _)) :: _ => so_call K maxC maxS S
  | _ => none
theorem sn_callV {p : Program} {l : Launch} {e : Env} {R : Room} {s : State} {m : MethodId} {args : Array Value} {below : List Frame} {meth : Method} {c : Code} {Q : State → Prop} {D : va_G} {dA : Nat → ClassId} {A : Nat → Prop} {nL : Nat} {cl : List vw_C} {n0 : Nat} {V0 : sa_V} {Ts : List Cond} {cc : ByteArray} {own : String} (C0 : sa_C p s m args c D dA A nL cl Ts cc own) {pc : Nat} {K : sa_K} {y : MethodName} {cy : ByteArray} {mL fr lc idx n maxC maxS : Nat} {ret : Option FieldType} {ci N : Nat} {T : u_T} (hU : sa_U D cl dA s) (hg : ∀ w ∈ Ts, goodWord w = true) (hM : sa_Met l cl Ts y cy mL ret fr lc K) (hcode : Cond.code y cy mL ret ∈ Ts) (hd : decode cc pc = .ok (.invokevirtual idx, 3)) (w1 : Cond.methodLink own idx y ∈ Ts) (w2 : Cond.instanceMethod y ∈ Ts) (w3 : Cond.selects y.cls y y ∈ Ts) (w4 : Cond.initialized y.cls ∈ Ts) (hcl : cl[ci]? = some (y.cls, T, N)) (hy : sa_arg y n) (hn : K.1.length = n + 1) (hR : fr + 1 ≤ R.frames ∧ 8 + (mL + 11) + lc ≤ R.locals) (hC : maxC ≤ R.cells) (hS0 : maxS ≤ R.slots) : sa_snd p l e R s m args below meth c Q D dA A nL cl n0 V0 pc (so_callV ci K maxC maxS) := by
  obtain ⟨hx, hb, hts, hown, hml, hK, hA⟩ := C0
  rintro ⟨pc, lo, st, cs, G, kc, ks⟩ sts rfl h k V H locs ls hG
  unfold so_callV at h
  dsimp only at h
  split at h
  · rename_i b As0 heq
    split at h
    · rename_i j cj fs hj
      split at h
      · rename_i hcj
        subst hcj
        refine sa_call_ok (a := #[]) hA h k hG (fun As rest V1 hst hargs hAl hI1 hsum hP1 hD1 hc1 hs1 => ?_)
        have e1 := (sa_take hst hAl).symm.trans heq
        subst e1
        have rv := va_recv (D := D) hK hG.2.2.1 hcl (sa_find_0 (V := V) (dA := dA) hj)
        exact va_runV (C := y.cls) (bytes := cy) (maxL := mL) (ret := ret) (b := sa_ad V b) (As := As0.map (sa_val V)) (n := n) ⟨hx, hb, hml, hown, hts⟩ (hM D dA H.size V1 hI1) (cwV n hts (sa_goodV hg hcode (by intro u hu; simp only [List.mem_cons, List.not_mem_nil, or_false] at hu; rcases hu with rfl | rfl | rfl | rfl <;> assumption)) rfl rfl rfl ⟨rfl, hy⟩ hR) ⟨sa_blind, rv, sa_pre hU hargs hP1 hD1⟩ rfl (by rw [List.length_map]; rw [List.length_cons] at hAl; omega) hG.2.1.1 (by show st.map (sa_val V) = _; rw [show st = _ from hst]; exact sa_stk) (lv_room hsum) hd ⟨Nat.le_trans hc1 hC, Nat.le_trans hs1 hS0⟩
      · cases h
    · cases h
  · cases h
theorem sn_callVN {p : Program} {l : Launch} {e : Env} {R : Room} {s : State} {m : MethodId} {args : Array Value} {below : List Frame} {meth : Method} {c : Code} {Q : State → Prop} {D : va_G} {dA : Nat → ClassId} {A : Nat → Prop} {nL : Nat} {cl : List vw_C} {n0 : Nat} {V0 : sa_V} {Ts : List Cond} {cc : ByteArray} {own : String} (C0 : sa_C p s m args c D dA A nL cl Ts cc own) {pc : Nat} {K : sa_K} {y : MethodName} {cy : ByteArray} {mL fr lc idx n maxC maxS : Nat} {ret : Option FieldType} {ci N : Nat} {T : u_T} {host : String} (hU : sa_U D cl dA s) (hg : ∀ w ∈ Ts, goodWord w = true) (hM : sa_Met l cl Ts y cy mL ret fr lc K) (hcode : Cond.code y cy mL ret ∈ Ts) (hd : decode cc pc = .ok (.invokevirtual idx, 3)) (w1 : (own, idx, y, host) ∈ sa_NL) (w2 : Cond.instanceMethod y ∈ Ts) (w3 : Cond.selects y.cls y y ∈ Ts) (w4 : Cond.initialized y.cls ∈ Ts) (hcl : cl[ci]? = some (y.cls, T, N)) (hy : sa_arg y n) (hn : K.1.length = n + 1) (hR : fr + 1 ≤ R.frames ∧ 8 + (mL + 11) + lc ≤ R.locals) (hC : maxC ≤ R.cells) (hS0 : maxS ≤ R.slots) : sa_snd p l e R s m args below meth c Q D dA A nL cl n0 V0 pc (so_callV ci K maxC maxS) := by
  obtain ⟨hx, hb, hts, hown, hml, hK, hA⟩ := C0
  rintro ⟨pc, lo, st, cs, G, kc, ks⟩ sts rfl h k V H locs ls hG
  unfold so_callV at h
  dsimp only at h
  split at h
  · rename_i b As0 heq
    split at h
    · rename_i j cj fs hj
      split at h
      · rename_i hcj
        subst hcj
        refine sa_call_ok (a := #[]) hA h k hG (fun As rest V1 hst hargs hAl hI1 hsum hP1 hD1 hc1 hs1 => ?_)
        have e1 := (sa_take hst hAl).symm.trans heq
        subst e1
        have rv := va_recv (D := D) hK hG.2.2.1 hcl (sa_find_0 (V := V) (dA := dA) hj)
        exact va_runVN (C := y.cls) (host := host) (bytes := cy) (maxL := mL) (ret := ret) (b := sa_ad V b) (As := As0.map (sa_val V)) (n := n) ⟨hx, hb, hml, hown, hts⟩ (hM D dA H.size V1 hI1) ⟨va_cnB n hts (sa_good hg hcode) rfl rfl rfl (hU.2.2.2 _ w1) (hts _ w4) hy hR, hts _ w2, hts _ w3⟩ ⟨sa_blind, rv, sa_pre hU hargs hP1 hD1⟩ rfl (by rw [List.length_map]; rw [List.length_cons] at hAl; omega) hG.2.1.1 (by show st.map (sa_val V) = _; rw [show st = _ from hst]; exact sa_stk) (lv_room hsum) hd ⟨Nat.le_trans hc1 hC, Nat.le_trans hs1 hS0⟩
      · cases h
    · cases h
  · cases h
theorem sn_callI {p : Program} {l : Launch} {e : Env} {R : Room} {s : State} {m : MethodId} {args : Array Value} {below : List Frame} {meth : Method} {c : Code} {Q : State → Prop} {D : va_G} {dA : Nat → ClassId} {A : Nat → Prop} {nL : Nat} {cl : List vw_C} {n0 : Nat} {V0 : sa_V} {Ts : List Cond} {cc : ByteArray} {own : String} (C0 : sa_C p s m args c D dA A nL cl Ts cc own) {pc : Nat} {K : sa_K} {y : MethodName} {cy : ByteArray} {mL fr lc idx n maxC maxS : Nat} {ret : Option FieldType}  (hU : sa_U D cl dA s) (hg : ∀ w ∈ Ts, goodWord w = true) (hM : sa_Met l cl Ts y cy mL ret fr lc K) (hcode : Cond.code y cy mL ret ∈ Ts) (hd : decode cc pc = .ok (.invokespecial idx, 3)) (w1 : Cond.methodLink own idx y ∈ Ts) (w2 : Cond.instanceMethod y ∈ Ts) (w4 : Cond.initialized y.cls ∈ Ts) (hy1 : y.name = "<init>") (hret : ret = none) (hy : sa_arg y n) (hn : K.1.length = n + 1) (hR : fr + 1 ≤ R.frames ∧ 8 + (mL + 11) + lc ≤ R.locals) (hC : maxC ≤ R.cells) (hS0 : maxS ≤ R.slots) : sa_snd p l e R s m args below meth c Q D dA A nL cl n0 V0 pc (so_callI K maxC maxS) := by
  obtain ⟨hx, hb, hts, hown, hml, hK, hA⟩ := C0
  rintro ⟨pc, lo, st, cs, G, kc, ks⟩ sts rfl h k V H locs ls hG
  unfold so_callI at h
  dsimp only at h
  split at h
  · rename_i b As0 heq
    refine sa_call_ok (a := #[]) hA h k hG (fun As rest V1 hst hargs hAl hI1 hsum hP1 hD1 hc1 hs1 => ?_)
    have e1 := (sa_take hst hAl).symm.trans heq
    subst e1
    exact va_runI (bytes := cy) (maxL := mL) (b := sa_ad V b) (As := As0.map (sa_val V)) (n := n) ⟨hx, hb, hml, hown, hts⟩ (hM D dA H.size V1 hI1) (by subst hret; exact cwI n hts (sa_good hg hcode) rfl rfl rfl (hts _ w4) (hts _ w1) (hts _ w2) hy1 hy hR) ⟨sa_blind, sa_pre hU hargs hP1 hD1⟩ rfl (by rw [List.length_map]; rw [List.length_cons] at hAl; omega) hG.2.1.1 (by show st.map (sa_val V) = _; rw [show st = _ from hst]; exact sa_stk) (lv_room hsum) hd ⟨Nat.le_trans hc1 hC, Nat.le_trans hs1 hS0⟩
  · cases h
theorem sn_callIN {p : Program} {l : Launch} {e : Env} {R : Room} {s : State} {m : MethodId} {args : Array Value} {below : List Frame} {meth : Method} {c : Code} {Q : State → Prop} {D : va_G} {dA : Nat → ClassId} {A : Nat → Prop} {nL : Nat} {cl : List vw_C} {n0 : Nat} {V0 : sa_V} {Ts : List Cond} {cc : ByteArray} {own : String} (C0 : sa_C p s m args c D dA A nL cl Ts cc own) {pc : Nat} {K : sa_K} {y : MethodName} {cy : ByteArray} {mL fr lc idx n maxC maxS : Nat} {ret : Option FieldType} {host : String} (hU : sa_U D cl dA s) (hg : ∀ w ∈ Ts, goodWord w = true) (hM : sa_Met l cl Ts y cy mL ret fr lc K) (hcode : Cond.code y cy mL ret ∈ Ts) (hd : decode cc pc = .ok (.invokespecial idx, 3)) (w1 : (own, idx, y, host) ∈ sa_NL) (w2 : Cond.instanceMethod y ∈ Ts) (w4 : Cond.initialized y.cls ∈ Ts) (hy1 : y.name = "<init>") (hret : ret = none) (hy : sa_arg y n) (hn : K.1.length = n + 1) (hR : fr + 1 ≤ R.frames ∧ 8 + (mL + 11) + lc ≤ R.locals) (hC : maxC ≤ R.cells) (hS0 : maxS ≤ R.slots) : sa_snd p l e R s m args below meth c Q D dA A nL cl n0 V0 pc (so_callI K maxC maxS) := by
  obtain ⟨hx, hb, hts, hown, hml, hK, hA⟩ := C0
  rintro ⟨pc, lo, st, cs, G, kc, ks⟩ sts rfl h k V H locs ls hG
  unfold so_callI at h
  dsimp only at h
  split at h
  · rename_i b As0 heq
    refine sa_call_ok (a := #[]) hA h k hG (fun As rest V1 hst hargs hAl hI1 hsum hP1 hD1 hc1 hs1 => ?_)
    have e1 := (sa_take hst hAl).symm.trans heq
    subst e1
    exact va_runIN (host := host) (bytes := cy) (maxL := mL) (b := sa_ad V b) (As := As0.map (sa_val V)) (n := n) ⟨hx, hb, hml, hown, hts⟩ (hM D dA H.size V1 hI1) (by subst hret; exact ⟨va_cnB n hts (sa_good hg hcode) rfl rfl rfl (hU.2.2.2 _ w1) (hts _ w4) hy hR, hy1, hts _ w2⟩) ⟨sa_blind, sa_pre hU hargs hP1 hD1⟩ rfl (by rw [List.length_map]; rw [List.length_cons] at hAl; omega) hG.2.1.1 (by show st.map (sa_val V) = _; rw [show st = _ from hst]; exact sa_stk) (lv_room hsum) hd ⟨Nat.le_trans hc1 hC, Nat.le_trans hs1 hS0⟩
  · cases h
theorem sn_callS {p : Program} {l : Launch} {e : Env} {R : Room} {s : State} {m : MethodId} {args : Array Value} {below : List Frame} {meth : Method} {c : Code} {Q : State → Prop} {D : va_G} {dA : Nat → ClassId} {A : Nat → Prop} {nL : Nat} {cl : List vw_C} {n0 : Nat} {V0 : sa_V} {Ts : List Cond} {cc : ByteArray} {own : String} (C0 : sa_C p s m args c D dA A nL cl Ts cc own) {pc : Nat} {K : sa_K} {y : MethodName} {cy : ByteArray} {mL fr lc idx n maxC maxS : Nat} {ret : Option FieldType}  (hU : sa_U D cl dA s) (hg : ∀ w ∈ Ts, goodWord w = true) (hM : sa_Met l cl Ts y cy mL ret fr lc K) (hcode : Cond.code y cy mL ret ∈ Ts) (hd : decode cc pc = .ok (.invokestatic idx, 3)) (w1 : Cond.methodLink own idx y ∈ Ts) (w2 : Cond.static y ∈ Ts) (w4 : Cond.initialized y.cls ∈ Ts) (hy : sa_arg y n) (hn : K.1.length = n) (hR : fr + 1 ≤ R.frames ∧ 8 + (mL + 11) + lc ≤ R.locals) (hC : maxC ≤ R.cells) (hS0 : maxS ≤ R.slots) : sa_snd p l e R s m args below meth c Q D dA A nL cl n0 V0 pc (so_call K maxC maxS) := by
  obtain ⟨hx, hb, hts, hown, hml, hK, hA⟩ := C0
  rintro ⟨pc, lo, st, cs, G, kc, ks⟩ sts rfl h k V H locs ls hG
  refine sa_call_ok (a := #[]) hA h k hG (fun As rest V1 hst hargs hAl hI1 hsum hP1 hD1 hc1 hs1 => ?_)
  exact va_runS (bytes := cy) (maxL := mL) (ret := ret) (As := As.map (sa_val V)) (n := n) ⟨hx, hb, hml, hown, hts⟩ (hM D dA H.size V1 hI1) (va_cwS n hts (sa_goodV hg hcode (by intro u hu; simp only [List.mem_cons, List.not_mem_nil, or_false] at hu; rcases hu with rfl | rfl | rfl <;> assumption)) rfl rfl rfl hy hR) ⟨sa_blind, sa_pre hU hargs hP1 hD1⟩ rfl (by rw [List.length_map, hAl, hn]) hG.2.1.1 (by show st.map (sa_val V) = _; rw [show st = _ from hst, List.map_append, List.map_reverse]) (lv_room hsum) hd ⟨Nat.le_trans hc1 hC, Nat.le_trans hs1 hS0⟩
theorem sn_callSN {p : Program} {l : Launch} {e : Env} {R : Room} {s : State} {m : MethodId} {args : Array Value} {below : List Frame} {meth : Method} {c : Code} {Q : State → Prop} {D : va_G} {dA : Nat → ClassId} {A : Nat → Prop} {nL : Nat} {cl : List vw_C} {n0 : Nat} {V0 : sa_V} {Ts : List Cond} {cc : ByteArray} {own : String} (C0 : sa_C p s m args c D dA A nL cl Ts cc own) {pc : Nat} {K : sa_K} {y : MethodName} {cy : ByteArray} {mL fr lc idx n maxC maxS : Nat} {ret : Option FieldType} {host : String} (hU : sa_U D cl dA s) (hg : ∀ w ∈ Ts, goodWord w = true) (hM : sa_Met l cl Ts y cy mL ret fr lc K) (hcode : Cond.code y cy mL ret ∈ Ts) (hd : decode cc pc = .ok (.invokestatic idx, 3)) (w1 : (own, idx, y, host) ∈ sa_NL) (w2 : Cond.static y ∈ Ts) (w4 : Cond.initialized y.cls ∈ Ts) (hy : sa_arg y n) (hn : K.1.length = n) (hR : fr + 1 ≤ R.frames ∧ 8 + (mL + 11) + lc ≤ R.locals) (hC : maxC ≤ R.cells) (hS0 : maxS ≤ R.slots) : sa_snd p l e R s m args below meth c Q D dA A nL cl n0 V0 pc (so_call K maxC maxS) := by
  obtain ⟨hx, hb, hts, hown, hml, hK, hA⟩ := C0
  rintro ⟨pc, lo, st, cs, G, kc, ks⟩ sts rfl h k V H locs ls hG
  refine sa_call_ok (a := #[]) hA h k hG (fun As rest V1 hst hargs hAl hI1 hsum hP1 hD1 hc1 hs1 => ?_)
  exact va_runSN (host := host) (bytes := cy) (maxL := mL) (ret := ret) (As := As.map (sa_val V)) (n := n) ⟨hx, hb, hml, hown, hts⟩ (hM D dA H.size V1 hI1) ⟨va_cnB n hts (sa_good hg hcode) rfl rfl rfl (hU.2.2.2 _ w1) (hts _ w4) hy hR, hts _ w2, trivial⟩ ⟨sa_blind, sa_pre hU hargs hP1 hD1⟩ rfl (by rw [List.length_map, hAl, hn]) hG.2.1.1 (by show st.map (sa_val V) = _; rw [show st = _ from hst, List.map_append, List.map_reverse]) (lv_room hsum) hd ⟨Nat.le_trans hc1 hC, Nat.le_trans hs1 hS0⟩
def so_obj : sa_op := fun S => match S.2.2.1 with
  | .inr (.inl (some _)) :: rest => if (rest.map sa_cat).sum ≤ 8 then some [(S.1 + 3, S.2.1, rest, S.2.2.2)] else none
  | _ => none
theorem sn_obj {p : Program} {l : Launch} {e : Env} {R : Room} {s : State} {m : MethodId} {args : Array Value} {below : List Frame} {meth : Method} {c : Code} {Q : State → Prop} {D : va_G} {dA : Nat → ClassId} {A : Nat → Prop} {nL : Nat} {cl : List vw_C} {n0 : Nat} {V0 : sa_V} {Ts : List Cond} {cc : ByteArray} {own : String} (C0 : sa_C p s m args c D dA A nL cl Ts cc own) {pc idx : Nat} (hd : decode cc pc = .ok (.invokespecial idx, 3)) (w1 : Cond.methodLink own idx Lib.objectInit ∈ Ts) (w2 : Cond.instanceMethod Lib.objectInit ∈ Ts) (w3 : Cond.code Lib.objectInit ⟨#[0xb1]⟩ 1 none ∈ Ts) (hR1 : 1 ≤ R.frames) (hR2 : 20 ≤ R.locals) : sa_snd p l e R s m args below meth c Q D dA A nL cl n0 V0 pc so_obj := by
  obtain ⟨hx, hb, hts, hown, hml, hK, hA⟩ := C0
  rintro ⟨pc, lo, st, cs, G, kc, ks⟩ sts rfl h k V H locs ls hG
  unfold so_obj at h
  dsimp only at h
  split at h
  · rename_i a rest
    split at h
    · rename_i h1
      cases h
      refine W.objInit hx hb hown (hts _ w1) (hts _ w2) (hts _ w3) rfl (by rw [hml]; exact hG.2.1.1) rfl hd hR1 ?_ (k _ List.mem_cons_self V H locs ls hG)
      have e1 := sa_sum V rest
      have e2 := lv_room (m := m) (pc := pc) (ls := ls) (rest := rest.map (sa_val V)) (st := rest.map (sa_val V)) (by rw [e1]; exact h1)
      have e3 : 2 * (F0 m pc ls (List.map (sa_val V) (.inr (.inl (some a)) :: rest))).monitorRoom + ((rest.map (sa_val V)).map (fun v => v.category)).sum ≤ 8 := e2
      exact Nat.le_trans (Nat.add_le_add_right e3 12) hR2
    · cases h
  · cases h
end SA7
end
section
section SA8
def sa_args : Nat → List sa_v → sa_L
  | _, [] => []
  | i, v :: vs => (i, v) :: sa_args (if sa_cat v = 2 then i + 2 else i + 1) vs
theorem sa_args_lv (V : sa_V) : ∀ (i : Nat) (vs : List sa_v), lv_args i (vs.map (sa_val V)) = sa_lv V (sa_args i vs)
  | _, [] => rfl
  | i, v :: vs => by
    show (i, sa_val V v) :: lv_args (if (sa_val V v).category = 2 then i + 2 else i + 1) (vs.map (sa_val V)) = (i, sa_val V v) :: sa_lv V (sa_args (if sa_cat v = 2 then i + 2 else i + 1) vs)
    rw [sa_cat_val, sa_args_lv V _ vs]
theorem sa_sl_len (V : sa_V) : ∀ vs : List sa_v, (lg_sl (vs.map (sa_val V))).length = (vs.map sa_cat).sum
  | [] => rfl
  | v :: vs => by
    have e := sa_sl_len V vs
    unfold lg_sl at e ⊢
    rw [List.map_cons, List.flatMap_cons, List.length_append, e, List.map_cons, List.sum_cons, sa_cat_val]
    rcases v with q | (_ | k) | j <;> rfl
def sa_fd (pc : Nat) : List (Nat × sa_op) → Option sa_op
  | [] => none
  | q :: l => if q.1 = pc then some q.2 else sa_fd pc l
theorem sa_fd_mem {pc : Nat} {op : sa_op} : ∀ {l : List (Nat × sa_op)}, sa_fd pc l = some op → (pc, op) ∈ l
  | [], h => by cases h
  | q :: l, h => by
    unfold sa_fd at h
    split at h
    · rename_i h1
      cases h
      rw [← h1]
      exact List.mem_cons_self
    · exact List.mem_cons_of_mem _ (sa_fd_mem h)
def sa_ri : Option FieldType → Instr
  | none => .return_
  | some _ => .ireturn
def sa_keep (cs : List sa_c) (w : List sa_c) : List Nat := w.map (fun q => sa_idx cs q.1)
def sa_fin (rets : List Nat) (t : Option FieldType) (K : sa_K) (S : sa_S) : Bool :=
  rets.contains S.1 && decide (S.2.2.2.2.2.1 ≤ K.2.2.2.2.1) && decide (S.2.2.2.2.2.2 ≤ K.2.2.2.2.2) && K.2.2.2.1.any (fun o => (match t, S.2.2.1, o.1 with
    | some ty, [.inl q], some (.inl u) => decide (q = u) && sa_fit S.2.2.2.2.1 ty (.inl q)
    | none, [], none => true
    | _, _, _ => false) && decide (o.2.2 = S.2.2.2.2.1) && va_nd (sa_keep S.2.2.2.1 o.2.1) && sa_eql ((sa_keep S.2.2.2.1 o.2.1).map (fun i => S.2.2.2.1[i]?)) o.2.1)
theorem sa_keep_ok {D : va_G} {cl : List vw_C} {A : Nat → Prop} {V : sa_V} {dA : Nat → ClassId} {cs w : List sa_c} {H : Heap} (hP : va_P D cl (cs.map (sa_e V dA)) H) (hD : va_D A (cs.map (sa_e V dA))) (h1 : va_nd (sa_keep cs w) = true) (h2 : sa_eql ((sa_keep cs w).map (fun i => cs[i]?)) w = true) : va_P D cl (w.map (sa_e V dA)) H ∧ va_D A (w.map (sa_e V dA)) := by
  have e : (sa_keep cs w).map (fun i => (cs.map (sa_e V dA))[i]?) = (w.map (sa_e V dA)).map some := by
    have := congrArg (List.map (Option.map (sa_e V dA))) (sa_eql_ok h2)
    rw [List.map_map, List.map_map] at this
    rw [List.map_map]
    refine Eq.trans (List.map_congr_left (fun i _ => ?_)) this
    show (cs.map (sa_e V dA))[i]? = Option.map (sa_e V dA) cs[i]?
    rw [List.getElem?_map]
  exact ⟨hP.sub _ (sa_fm e), hD.sub _ h1 e⟩
/-- the end of a method -/
theorem sa_fin_ok {p : Program} {l : Launch} {e : Env} {R : Room} {s : State} {m : MethodId} {args : Array Value} {below : List Frame} {meth : Method} {c : Code} {D : va_G} {dA : Nat → ClassId} {A : Nat → Prop} {nL : Nat} {cl : List vw_C} {V0 : sa_V} {K : sa_K} {cc : ByteArray} {rets : List Nat} {t : Option FieldType}
    (hx : p.tables.exec = Jvm.exec) (hb : c.code = cc) (hlocks : meth.locks = false) (hr : meth.sig.returnType = t) (hA : A = va_A (K.2.1.map (sa_e V0 dA)) s.heap.size) (hd : ∀ pc ∈ rets, decode cc pc = .ok (sa_ri t, 1))
    (S : sa_S) (h : sa_fin rets t K S = true) : sa_W p l e R s m args below meth c (MQ below (sa_Q D dA cl s.heap.size V0 K) args s K.2.2.2.2.1 K.2.2.2.2.2 A) D dA A nL cl K.2.2.1.length V0 S := by
  obtain ⟨pc, lo, st, cs, G, kc, ks⟩ := S
  intro V H locs ls hG
  simp only [sa_fin, Bool.and_eq_true, decide_eq_true_eq, List.any_eq_true] at h
  obtain ⟨⟨⟨h1, h2⟩, h3⟩, o, ho, ⟨⟨h4, h5⟩, h6⟩, h7⟩ := h
  have hpc : pc ∈ rets := by simpa using h1
  obtain ⟨hP9, hD9⟩ := sa_keep_ok hG.2.2.1 hG.2.2.2.1 h6 h7
  refine W.widen (k := K.2.2.2.2.1) (n := K.2.2.2.2.2) h2 h3 ?_
  have hI : sa_I V o.2.2 := by rw [h5]; exact hG.1.1
  have hq : ∀ (oc : Outcome) (t9 : State), t9.heap = H → oc = .returned (o.1.map (sa_val V)) → sa_Q D dA cl s.heap.size V0 K args s oc t9 := by
    intro oc t9 ht9 hoc
    subst hA
    exact ⟨⟨o, ho, V, hG.1.2.2, hI, hoc, by rw [ht9]; exact hP9, hD9⟩, hG.2.2.2.2.F ht9⟩
  have hd1 := hd pc hpc
  clear hd
  split at h4
  · rename_i ty q u he2
    rw [Bool.and_eq_true] at h4
    obtain ⟨h8, h9⟩ := h4
    have h8 := of_decide_eq_true h8
    subst h8
    obtain ⟨n1, n2⟩ := sa_fit_ok (V := V) hG.1.1 h9
    refine W.zret (v := sa_i V q) hx hb hr n1 (fun t9 ht9 _ => hq _ t9 ht9 ?_) (fun q9 hq9 => hG.2.2.2.2.2.2 q9 hq9) hd1
    rw [he2]
    rfl
  · rename_i he2
    refine W.vret hx hb hr (fun t9 ht9 _ => hq _ t9 ht9 ?_) (fun q9 hq9 => hG.2.2.2.2.2.2 q9 hq9) hd1
    rw [he2]
    rfl
  · cases h4
/-- A METHOD, out of its run over signs -/
theorem sa_method {l : Launch} {cl : List vw_C} {Ts : List Cond} {y : MethodName} {cc : ByteArray} {mL : Nat} {ret : Option FieldType} {fr lc : Nat} {K : sa_K} (hy : plainName y.cls = true) (rets : List Nat) (tab : List (Nat × sa_op)) (fuel : Nat)
    (hd : ∀ pc ∈ rets, decode cc pc = .ok (sa_ri ret, 1))
    (hops : ∀ (p : Program) (e : Env) (s : State) (m : MethodId) (args : Array Value) (below : List Frame) (meth : Method) (c : Code) (Q : State → Prop) (D : va_G) (dA : Nat → ClassId) (A : Nat → Prop) (n0 : Nat) (V0 : sa_V), sa_C p s m args c D dA A mL cl Ts cc y.cls → sa_U D cl dA s → meth.name = y.name → ∀ q ∈ tab, sa_snd p l e { frames := fr, cells := K.2.2.2.2.1, slots := K.2.2.2.2.2, locals := lc } s m args below meth c Q D dA A mL cl n0 V0 q.1 q.2)
    (hlen : (K.1.map sa_cat).sum ≤ mL) (hrun : sa_run (fun pc => sa_fd pc tab) (sa_fin rets ret K) fuel (0, sa_args 0 K.1, [], K.2.1, K.2.2.1, 0, 0) = true) : sa_Met l cl Ts y cc mL ret fr lc K := by
  intro D dA sz V hI
  refine Met.ofW (cc := cc) (maxL := mL) (ret := ret) hy rfl ?_
  intro p e s m args below meth c s₁ B hml hv
  obtain ⟨hargs, hsz, hP, hU, hD0⟩ := hv
  subst hargs
  have hts0 := atoms_spec (ws := Cond.code y cc mL ret :: Ts) B.pre
  have hown : s.vm.findClass y.cls = some m.cls := findClass_of_methodNamed B.named
  have hin : meth.name = y.name := (name_of_methodNamed B.named B.method).1
  subst hsz
  have hD := hD0.self (sz := s.heap.size)
  have hS : va_S (va_A (K.2.1.map (sa_e V dA)) s.heap.size) s.heap s.heap [] := va_S.rf
  have hl := lv_entry (K.1.map (sa_val V)) (n := mL) (by rw [sa_sl_len]; exact hlen)
  rw [sa_args_lv] at hl
  rw [lg_entry_eq]
  have hC : sa_C p s m (K.1.map (sa_val V)).toArray c D dA (va_A (K.2.1.map (sa_e V dA)) s.heap.size) mL cl Ts cc y.cls := ⟨B.exec, B.bytes, fun w hw => hts0 w (List.mem_cons_of_mem _ hw), hown, hml, hU.1, fun q h => Or.inr h⟩
  have hW := sa_run_ok (p := p) (l := l) (e := e) (R := { frames := fr, cells := K.2.2.2.2.1, slots := K.2.2.2.2.2, locals := lc }) (s := s) (m := m) (args := (K.1.map (sa_val V)).toArray) (below := below) (meth := meth) (c := c) (Q := MQ below (sa_Q D dA cl s.heap.size V K) (K.1.map (sa_val V)).toArray s K.2.2.2.2.1 K.2.2.2.2.2 (va_A (K.2.1.map (sa_e V dA)) s.heap.size)) (D := D) (dA := dA) (A := va_A (K.2.1.map (sa_e V dA)) s.heap.size) (nL := mL) (cl := cl) (n0 := K.2.2.1.length) (V0 := V)
    (fun pc op h => hops p e s m _ below meth c _ D dA _ _ V hC hU hin (pc, op) (sa_fd_mem h)) (fun S _ h => sa_fin_ok B.exec B.bytes B.notSynchronized B.returns rfl hd S h) fuel _ hrun
  exact hW V s.heap [] _ ⟨⟨hI, Nat.le_refl _, fun _ _ => rfl⟩, hl, hP, hD, hS⟩
end SA8
end
section
-- ===== PART A: goes FIRST, ahead of the names: the tables' words, and 'selects' of the private methods out of them =====
/-- a private method of a class that the tables say can be made, by its rows of tables_1 -/
def lw_okq (q : MethodName × Nat) : Prop := (q.1.cls ≠ "java/lang/invoke/MethodHandle" ∧ q.1.cls ≠ "java/lang/invoke/VarHandle") ∧ Cond.instantiable q.1.cls q.2 ∈ tables_1 ∧ Cond.privateMethod q.1 ∈ tables_1 ∧ Cond.instanceMethod q.1 ∈ tables_1
theorem lw_p0 : lw_okq (⟨"OffThenOn$Reader", "readRun", "(I)V"⟩, 10) := ⟨⟨by decide +kernel, by decide +kernel⟩, List.mem_of_getElem? (i := 278) (by decide +kernel), List.mem_of_getElem? (i := 524) (by decide +kernel), List.mem_of_getElem? (i := 525) (by decide +kernel)⟩
theorem lw_p1 : lw_okq (⟨"OffThenOn$HouseReader", "readLine", "()Z"⟩, 3) := ⟨⟨by decide +kernel, by decide +kernel⟩, List.mem_of_getElem? (i := 272) (by decide +kernel), List.mem_of_getElem? (i := 536) (by decide +kernel), List.mem_of_getElem? (i := 537) (by decide +kernel)⟩
theorem lw_p2 : lw_okq (⟨"OffThenOn$HouseReader", "readThing", "()Z"⟩, 3) := ⟨⟨by decide +kernel, by decide +kernel⟩, List.mem_of_getElem? (i := 272) (by decide +kernel), List.mem_of_getElem? (i := 540) (by decide +kernel), List.mem_of_getElem? (i := 541) (by decide +kernel)⟩
theorem lw_p3 : lw_okq (⟨"OffThenOn$HouseReader", "isNewName", "()Z"⟩, 3) := ⟨⟨by decide +kernel, by decide +kernel⟩, List.mem_of_getElem? (i := 272) (by decide +kernel), List.mem_of_getElem? (i := 549) (by decide +kernel), List.mem_of_getElem? (i := 550) (by decide +kernel)⟩
theorem lw_p4 : lw_okq (⟨"OffThenOn$HouseReader", "readFault", "()Z"⟩, 3) := ⟨⟨by decide +kernel, by decide +kernel⟩, List.mem_of_getElem? (i := 272) (by decide +kernel), List.mem_of_getElem? (i := 591) (by decide +kernel), List.mem_of_getElem? (i := 592) (by decide +kernel)⟩
theorem lw_p5 : lw_okq (⟨"OffThenOn$HouseReader", "readCure", "()Z"⟩, 3) := ⟨⟨by decide +kernel, by decide +kernel⟩, List.mem_of_getElem? (i := 272) (by decide +kernel), List.mem_of_getElem? (i := 599) (by decide +kernel), List.mem_of_getElem? (i := 600) (by decide +kernel)⟩
theorem lw_p6 : lw_okq (⟨"OffThenOn$HouseReader", "deedHere", "()I"⟩, 3) := ⟨⟨by decide +kernel, by decide +kernel⟩, List.mem_of_getElem? (i := 272) (by decide +kernel), List.mem_of_getElem? (i := 608) (by decide +kernel), List.mem_of_getElem? (i := 609) (by decide +kernel)⟩
theorem lw_p7 : lw_okq (⟨"OffThenOn", "takeText", "(LOffThenOn$Reader;)V"⟩, 17) := ⟨⟨by decide +kernel, by decide +kernel⟩, List.mem_of_getElem? (i := 26) (by decide +kernel), List.mem_of_getElem? (i := 620) (by decide +kernel), List.mem_of_getElem? (i := 621) (by decide +kernel)⟩
theorem lw_p8 : lw_okq (⟨"OffThenOn", "isFault", "(I)Z"⟩, 17) := ⟨⟨by decide +kernel, by decide +kernel⟩, List.mem_of_getElem? (i := 26) (by decide +kernel), List.mem_of_getElem? (i := 651) (by decide +kernel), List.mem_of_getElem? (i := 652) (by decide +kernel)⟩
theorem lw_p9 : lw_okq (⟨"OffThenOn", "isThing", "(I)Z"⟩, 17) := ⟨⟨by decide +kernel, by decide +kernel⟩, List.mem_of_getElem? (i := 26) (by decide +kernel), List.mem_of_getElem? (i := 673) (by decide +kernel), List.mem_of_getElem? (i := 674) (by decide +kernel)⟩
theorem lw_p10 : lw_okq (⟨"OffThenOn$State", "cutOff", "(LOffThenOn$House;I)V"⟩, 13) := ⟨⟨by decide +kernel, by decide +kernel⟩, List.mem_of_getElem? (i := 144) (by decide +kernel), List.mem_of_getElem? (i := 690) (by decide +kernel), List.mem_of_getElem? (i := 691) (by decide +kernel)⟩
theorem lw_p11 : lw_okq (⟨"OffThenOn", "settle", "(I)I"⟩, 17) := ⟨⟨by decide +kernel, by decide +kernel⟩, List.mem_of_getElem? (i := 26) (by decide +kernel), List.mem_of_getElem? (i := 694) (by decide +kernel), List.mem_of_getElem? (i := 695) (by decide +kernel)⟩
theorem lw_p12 : lw_okq (⟨"OffThenOn$State", "startBoot", "(LOffThenOn$House;I)V"⟩, 13) := ⟨⟨by decide +kernel, by decide +kernel⟩, List.mem_of_getElem? (i := 144) (by decide +kernel), List.mem_of_getElem? (i := 710) (by decide +kernel), List.mem_of_getElem? (i := 711) (by decide +kernel)⟩
theorem lw_p13 : lw_okq (⟨"OffThenOn$State", "doDeed", "(LOffThenOn$House;II)V"⟩, 13) := ⟨⟨by decide +kernel, by decide +kernel⟩, List.mem_of_getElem? (i := 144) (by decide +kernel), List.mem_of_getElem? (i := 714) (by decide +kernel), List.mem_of_getElem? (i := 715) (by decide +kernel)⟩
theorem lw_p14 : lw_okq (⟨"OffThenOn$State", "draw", "(I)I"⟩, 13) := ⟨⟨by decide +kernel, by decide +kernel⟩, List.mem_of_getElem? (i := 144) (by decide +kernel), List.mem_of_getElem? (i := 719) (by decide +kernel), List.mem_of_getElem? (i := 720) (by decide +kernel)⟩
theorem lw_p15 : lw_okq (⟨"OffThenOn$State", "takeAway", "(I)V"⟩, 13) := ⟨⟨by decide +kernel, by decide +kernel⟩, List.mem_of_getElem? (i := 144) (by decide +kernel), List.mem_of_getElem? (i := 724) (by decide +kernel), List.mem_of_getElem? (i := 725) (by decide +kernel)⟩
def lw_privs_1 : List (MethodName × Nat) := [(⟨"OffThenOn$Reader", "readRun", "(I)V"⟩, 10), (⟨"OffThenOn$HouseReader", "readLine", "()Z"⟩, 3), (⟨"OffThenOn$HouseReader", "readThing", "()Z"⟩, 3), (⟨"OffThenOn$HouseReader", "isNewName", "()Z"⟩, 3), (⟨"OffThenOn$HouseReader", "readFault", "()Z"⟩, 3), (⟨"OffThenOn$HouseReader", "readCure", "()Z"⟩, 3), (⟨"OffThenOn$HouseReader", "deedHere", "()I"⟩, 3), (⟨"OffThenOn", "takeText", "(LOffThenOn$Reader;)V"⟩, 17), (⟨"OffThenOn", "isFault", "(I)Z"⟩, 17), (⟨"OffThenOn", "isThing", "(I)Z"⟩, 17), (⟨"OffThenOn$State", "cutOff", "(LOffThenOn$House;I)V"⟩, 13), (⟨"OffThenOn", "settle", "(I)I"⟩, 17), (⟨"OffThenOn$State", "startBoot", "(LOffThenOn$House;I)V"⟩, 13), (⟨"OffThenOn$State", "doDeed", "(LOffThenOn$House;II)V"⟩, 13), (⟨"OffThenOn$State", "draw", "(I)I"⟩, 13), (⟨"OffThenOn$State", "takeAway", "(I)V"⟩, 13)]
theorem lw_r1 : ∀ q ∈ lw_privs_1, lw_okq q := List.forall_mem_cons.mpr ⟨lw_p0, List.forall_mem_cons.mpr ⟨lw_p1, List.forall_mem_cons.mpr ⟨lw_p2, List.forall_mem_cons.mpr ⟨lw_p3, List.forall_mem_cons.mpr ⟨lw_p4, List.forall_mem_cons.mpr ⟨lw_p5, List.forall_mem_cons.mpr ⟨lw_p6, List.forall_mem_cons.mpr ⟨lw_p7, List.forall_mem_cons.mpr ⟨lw_p8, List.forall_mem_cons.mpr ⟨lw_p9, List.forall_mem_cons.mpr ⟨lw_p10, List.forall_mem_cons.mpr ⟨lw_p11, List.forall_mem_cons.mpr ⟨lw_p12, List.forall_mem_cons.mpr ⟨lw_p13, List.forall_mem_cons.mpr ⟨lw_p14, List.forall_mem_cons.mpr ⟨lw_p15, fun _ h => absurd h List.not_mem_nil⟩⟩⟩⟩⟩⟩⟩⟩⟩⟩⟩⟩⟩⟩⟩⟩
theorem lw_p16 : lw_okq (⟨"OffThenOn$State", "passMinute", "(LOffThenOn$House;)V"⟩, 13) := ⟨⟨by decide +kernel, by decide +kernel⟩, List.mem_of_getElem? (i := 144) (by decide +kernel), List.mem_of_getElem? (i := 760) (by decide +kernel), List.mem_of_getElem? (i := 761) (by decide +kernel)⟩
theorem lw_p17 : lw_okq (⟨"OffThenOn$State", "comeUp", "(LOffThenOn$House;I)V"⟩, 13) := ⟨⟨by decide +kernel, by decide +kernel⟩, List.mem_of_getElem? (i := 144) (by decide +kernel), List.mem_of_getElem? (i := 764) (by decide +kernel), List.mem_of_getElem? (i := 765) (by decide +kernel)⟩
theorem lw_p18 : lw_okq (⟨"OffThenOn", "faultsByLamps", "()I"⟩, 17) := ⟨⟨by decide +kernel, by decide +kernel⟩, List.mem_of_getElem? (i := 26) (by decide +kernel), List.mem_of_getElem? (i := 780) (by decide +kernel), List.mem_of_getElem? (i := 781) (by decide +kernel)⟩
theorem lw_p19 : lw_okq (⟨"OffThenOn", "faultsByMinutes", "(I)I"⟩, 17) := ⟨⟨by decide +kernel, by decide +kernel⟩, List.mem_of_getElem? (i := 26) (by decide +kernel), List.mem_of_getElem? (i := 849) (by decide +kernel), List.mem_of_getElem? (i := 850) (by decide +kernel)⟩
theorem lw_p20 : lw_okq (⟨"OffThenOn", "shownFault", "(I)I"⟩, 17) := ⟨⟨by decide +kernel, by decide +kernel⟩, List.mem_of_getElem? (i := 26) (by decide +kernel), List.mem_of_getElem? (i := 938) (by decide +kernel), List.mem_of_getElem? (i := 939) (by decide +kernel)⟩
theorem lw_p21 : lw_okq (⟨"OffThenOn$LogReader", "readLine", "(LOffThenOn$House;)Z"⟩, 6) := ⟨⟨by decide +kernel, by decide +kernel⟩, List.mem_of_getElem? (i := 343) (by decide +kernel), List.mem_of_getElem? (i := 970) (by decide +kernel), List.mem_of_getElem? (i := 971) (by decide +kernel)⟩
theorem lw_p22 : lw_okq (⟨"OffThenOn$LogReader", "readAct", "(LOffThenOn$House;)Z"⟩, 6) := ⟨⟨by decide +kernel, by decide +kernel⟩, List.mem_of_getElem? (i := 343) (by decide +kernel), List.mem_of_getElem? (i := 977) (by decide +kernel), List.mem_of_getElem? (i := 978) (by decide +kernel)⟩
theorem lw_p23 : lw_okq (⟨"OffThenOn$LogReader", "keepLine", "(III)Z"⟩, 6) := ⟨⟨by decide +kernel, by decide +kernel⟩, List.mem_of_getElem? (i := 343) (by decide +kernel), List.mem_of_getElem? (i := 984) (by decide +kernel), List.mem_of_getElem? (i := 985) (by decide +kernel)⟩
theorem lw_p24 : lw_okq (⟨"OffThenOn$LogReader", "readEvent", "(LOffThenOn$House;)Z"⟩, 6) := ⟨⟨by decide +kernel, by decide +kernel⟩, List.mem_of_getElem? (i := 343) (by decide +kernel), List.mem_of_getElem? (i := 988) (by decide +kernel), List.mem_of_getElem? (i := 989) (by decide +kernel)⟩
theorem lw_p25 : lw_okq (⟨"OffThenOn$LogReader", "liveLine", "(LOffThenOn$House;LOffThenOn$State;I)I"⟩, 6) := ⟨⟨by decide +kernel, by decide +kernel⟩, List.mem_of_getElem? (i := 343) (by decide +kernel), List.mem_of_getElem? (i := 998) (by decide +kernel), List.mem_of_getElem? (i := 999) (by decide +kernel)⟩
theorem lw_p26 : lw_okq (⟨"OffThenOn$SentenceReader", "readCond", "(LOffThenOn$House;I)Z"⟩, 2) := ⟨⟨by decide +kernel, by decide +kernel⟩, List.mem_of_getElem? (i := 372) (by decide +kernel), List.mem_of_getElem? (i := 1025) (by decide +kernel), List.mem_of_getElem? (i := 1026) (by decide +kernel)⟩
theorem lw_p27 : lw_okq (⟨"OffThenOn$SentenceReader", "readAll", "(LOffThenOn$House;I)Z"⟩, 2) := ⟨⟨by decide +kernel, by decide +kernel⟩, List.mem_of_getElem? (i := 372) (by decide +kernel), List.mem_of_getElem? (i := 1029) (by decide +kernel), List.mem_of_getElem? (i := 1030) (by decide +kernel)⟩
theorem lw_p28 : lw_okq (⟨"OffThenOn$SentenceReader", "readOne", "(LOffThenOn$House;I)Z"⟩, 2) := ⟨⟨by decide +kernel, by decide +kernel⟩, List.mem_of_getElem? (i := 372) (by decide +kernel), List.mem_of_getElem? (i := 1033) (by decide +kernel), List.mem_of_getElem? (i := 1034) (by decide +kernel)⟩
theorem lw_p29 : lw_okq (⟨"OffThenOn$SentenceReader", "isOneHere", "()Z"⟩, 2) := ⟨⟨by decide +kernel, by decide +kernel⟩, List.mem_of_getElem? (i := 372) (by decide +kernel), List.mem_of_getElem? (i := 1037) (by decide +kernel), List.mem_of_getElem? (i := 1038) (by decide +kernel)⟩
theorem lw_p30 : lw_okq (⟨"OffThenOn$SentenceReader", "readNot", "(LOffThenOn$House;I)Z"⟩, 2) := ⟨⟨by decide +kernel, by decide +kernel⟩, List.mem_of_getElem? (i := 372) (by decide +kernel), List.mem_of_getElem? (i := 1045) (by decide +kernel), List.mem_of_getElem? (i := 1046) (by decide +kernel)⟩
theorem lw_p31 : lw_okq (⟨"OffThenOn$SentenceReader", "addNumbered", "(III)Z"⟩, 2) := ⟨⟨by decide +kernel, by decide +kernel⟩, List.mem_of_getElem? (i := 372) (by decide +kernel), List.mem_of_getElem? (i := 1054) (by decide +kernel), List.mem_of_getElem? (i := 1055) (by decide +kernel)⟩
def lw_privs_2 : List (MethodName × Nat) := [(⟨"OffThenOn$State", "passMinute", "(LOffThenOn$House;)V"⟩, 13), (⟨"OffThenOn$State", "comeUp", "(LOffThenOn$House;I)V"⟩, 13), (⟨"OffThenOn", "faultsByLamps", "()I"⟩, 17), (⟨"OffThenOn", "faultsByMinutes", "(I)I"⟩, 17), (⟨"OffThenOn", "shownFault", "(I)I"⟩, 17), (⟨"OffThenOn$LogReader", "readLine", "(LOffThenOn$House;)Z"⟩, 6), (⟨"OffThenOn$LogReader", "readAct", "(LOffThenOn$House;)Z"⟩, 6), (⟨"OffThenOn$LogReader", "keepLine", "(III)Z"⟩, 6), (⟨"OffThenOn$LogReader", "readEvent", "(LOffThenOn$House;)Z"⟩, 6), (⟨"OffThenOn$LogReader", "liveLine", "(LOffThenOn$House;LOffThenOn$State;I)I"⟩, 6), (⟨"OffThenOn$SentenceReader", "readCond", "(LOffThenOn$House;I)Z"⟩, 2), (⟨"OffThenOn$SentenceReader", "readAll", "(LOffThenOn$House;I)Z"⟩, 2), (⟨"OffThenOn$SentenceReader", "readOne", "(LOffThenOn$House;I)Z"⟩, 2), (⟨"OffThenOn$SentenceReader", "isOneHere", "()Z"⟩, 2), (⟨"OffThenOn$SentenceReader", "readNot", "(LOffThenOn$House;I)Z"⟩, 2), (⟨"OffThenOn$SentenceReader", "addNumbered", "(III)Z"⟩, 2)]
theorem lw_r2 : ∀ q ∈ lw_privs_2, lw_okq q := List.forall_mem_cons.mpr ⟨lw_p16, List.forall_mem_cons.mpr ⟨lw_p17, List.forall_mem_cons.mpr ⟨lw_p18, List.forall_mem_cons.mpr ⟨lw_p19, List.forall_mem_cons.mpr ⟨lw_p20, List.forall_mem_cons.mpr ⟨lw_p21, List.forall_mem_cons.mpr ⟨lw_p22, List.forall_mem_cons.mpr ⟨lw_p23, List.forall_mem_cons.mpr ⟨lw_p24, List.forall_mem_cons.mpr ⟨lw_p25, List.forall_mem_cons.mpr ⟨lw_p26, List.forall_mem_cons.mpr ⟨lw_p27, List.forall_mem_cons.mpr ⟨lw_p28, List.forall_mem_cons.mpr ⟨lw_p29, List.forall_mem_cons.mpr ⟨lw_p30, List.forall_mem_cons.mpr ⟨lw_p31, fun _ h => absurd h List.not_mem_nil⟩⟩⟩⟩⟩⟩⟩⟩⟩⟩⟩⟩⟩⟩⟩⟩
theorem lw_p32 : lw_okq (⟨"OffThenOn$SentenceReader", "readCompared", "(I)Z"⟩, 2) := ⟨⟨by decide +kernel, by decide +kernel⟩, List.mem_of_getElem? (i := 372) (by decide +kernel), List.mem_of_getElem? (i := 1059) (by decide +kernel), List.mem_of_getElem? (i := 1060) (by decide +kernel)⟩
theorem lw_p33 : lw_okq (⟨"OffThenOn$Sentence", "thingsOfStep", "(LOffThenOn$House;LOffThenOn$State;I)I"⟩, 6) := ⟨⟨by decide +kernel, by decide +kernel⟩, List.mem_of_getElem? (i := 207) (by decide +kernel), List.mem_of_getElem? (i := 1077) (by decide +kernel), List.mem_of_getElem? (i := 1078) (by decide +kernel)⟩
theorem lw_p34 : lw_okq (⟨"OffThenOn$Sentence", "thingsCompared", "(LOffThenOn$House;LOffThenOn$State;I)I"⟩, 6) := ⟨⟨by decide +kernel, by decide +kernel⟩, List.mem_of_getElem? (i := 207) (by decide +kernel), List.mem_of_getElem? (i := 1084) (by decide +kernel), List.mem_of_getElem? (i := 1085) (by decide +kernel)⟩
theorem lw_p35 : lw_okq (⟨"OffThenOn$Sentence", "valueOf", "(LOffThenOn$House;LOffThenOn$State;II)I"⟩, 6) := ⟨⟨by decide +kernel, by decide +kernel⟩, List.mem_of_getElem? (i := 207) (by decide +kernel), List.mem_of_getElem? (i := 1088) (by decide +kernel), List.mem_of_getElem? (i := 1089) (by decide +kernel)⟩
theorem lw_p36 : lw_okq (⟨"java/lang/Throwable", "fillInStackTrace", "(I)Ljava/lang/Throwable;"⟩, 6) := ⟨⟨by decide +kernel, by decide +kernel⟩, List.mem_of_getElem? (i := 1160) (by decide +kernel), List.mem_of_getElem? (i := 1158) (by decide +kernel), List.mem_of_getElem? (i := 1159) (by decide +kernel)⟩
theorem lw_p37 : lw_okq (⟨"OffThenOn$Planner", "weightBehind", "(I)I"⟩, 7) := ⟨⟨by decide +kernel, by decide +kernel⟩, List.mem_of_getElem? (i := 391) (by decide +kernel), List.mem_of_getElem? (i := 1215) (by decide +kernel), List.mem_of_getElem? (i := 1216) (by decide +kernel)⟩
theorem lw_p38 : lw_okq (⟨"OffThenOn$Planner", "tryRows", "(LOffThenOn$House;III)V"⟩, 7) := ⟨⟨by decide +kernel, by decide +kernel⟩, List.mem_of_getElem? (i := 391) (by decide +kernel), List.mem_of_getElem? (i := 1219) (by decide +kernel), List.mem_of_getElem? (i := 1220) (by decide +kernel)⟩
theorem lw_p39 : lw_okq (⟨"OffThenOn$Planner", "keepBetter", "(II)V"⟩, 7) := ⟨⟨by decide +kernel, by decide +kernel⟩, List.mem_of_getElem? (i := 391) (by decide +kernel), List.mem_of_getElem? (i := 1223) (by decide +kernel), List.mem_of_getElem? (i := 1224) (by decide +kernel)⟩
theorem lw_p40 : lw_okq (⟨"OffThenOn$Planner", "tryDeed", "(LOffThenOn$House;IIII)V"⟩, 7) := ⟨⟨by decide +kernel, by decide +kernel⟩, List.mem_of_getElem? (i := 391) (by decide +kernel), List.mem_of_getElem? (i := 1228) (by decide +kernel), List.mem_of_getElem? (i := 1229) (by decide +kernel)⟩
theorem lw_p41 : lw_okq (⟨"OffThenOn$Planner", "weighDeed", "(LOffThenOn$House;II)V"⟩, 7) := ⟨⟨by decide +kernel, by decide +kernel⟩, List.mem_of_getElem? (i := 391) (by decide +kernel), List.mem_of_getElem? (i := 1232) (by decide +kernel), List.mem_of_getElem? (i := 1233) (by decide +kernel)⟩
theorem lw_p42 : lw_okq (⟨"OffThenOn", "eveningsWithDeed", "()I"⟩, 17) := ⟨⟨by decide +kernel, by decide +kernel⟩, List.mem_of_getElem? (i := 26) (by decide +kernel), List.mem_of_getElem? (i := 1244) (by decide +kernel), List.mem_of_getElem? (i := 1245) (by decide +kernel)⟩
theorem lw_p43 : lw_okq (⟨"OffThenOn", "countWays", "(II)I"⟩, 17) := ⟨⟨by decide +kernel, by decide +kernel⟩, List.mem_of_getElem? (i := 26) (by decide +kernel), List.mem_of_getElem? (i := 1248) (by decide +kernel), List.mem_of_getElem? (i := 1249) (by decide +kernel)⟩
theorem lw_p44 : lw_okq (⟨"OffThenOn", "minutesOfWay", "(II)I"⟩, 17) := ⟨⟨by decide +kernel, by decide +kernel⟩, List.mem_of_getElem? (i := 26) (by decide +kernel), List.mem_of_getElem? (i := 1252) (by decide +kernel), List.mem_of_getElem? (i := 1253) (by decide +kernel)⟩
theorem lw_p45 : lw_okq (⟨"OffThenOnModel", "come", "(I)V"⟩, 45) := ⟨⟨by decide +kernel, by decide +kernel⟩, List.mem_of_getElem? (i := 1256) (by decide +kernel), List.mem_of_getElem? (i := 1407) (by decide +kernel), List.mem_of_getElem? (i := 1408) (by decide +kernel)⟩
theorem lw_p46 : lw_okq (⟨"OffThenOnModel", "begin", "(I)V"⟩, 45) := ⟨⟨by decide +kernel, by decide +kernel⟩, List.mem_of_getElem? (i := 1256) (by decide +kernel), List.mem_of_getElem? (i := 1419) (by decide +kernel), List.mem_of_getElem? (i := 1420) (by decide +kernel)⟩
theorem lw_p47 : lw_okq (⟨"OffThenOnModel", "take", "()I"⟩, 45) := ⟨⟨by decide +kernel, by decide +kernel⟩, List.mem_of_getElem? (i := 1256) (by decide +kernel), List.mem_of_getElem? (i := 1423) (by decide +kernel), List.mem_of_getElem? (i := 1424) (by decide +kernel)⟩
def lw_privs_3 : List (MethodName × Nat) := [(⟨"OffThenOn$SentenceReader", "readCompared", "(I)Z"⟩, 2), (⟨"OffThenOn$Sentence", "thingsOfStep", "(LOffThenOn$House;LOffThenOn$State;I)I"⟩, 6), (⟨"OffThenOn$Sentence", "thingsCompared", "(LOffThenOn$House;LOffThenOn$State;I)I"⟩, 6), (⟨"OffThenOn$Sentence", "valueOf", "(LOffThenOn$House;LOffThenOn$State;II)I"⟩, 6), (⟨"java/lang/Throwable", "fillInStackTrace", "(I)Ljava/lang/Throwable;"⟩, 6), (⟨"OffThenOn$Planner", "weightBehind", "(I)I"⟩, 7), (⟨"OffThenOn$Planner", "tryRows", "(LOffThenOn$House;III)V"⟩, 7), (⟨"OffThenOn$Planner", "keepBetter", "(II)V"⟩, 7), (⟨"OffThenOn$Planner", "tryDeed", "(LOffThenOn$House;IIII)V"⟩, 7), (⟨"OffThenOn$Planner", "weighDeed", "(LOffThenOn$House;II)V"⟩, 7), (⟨"OffThenOn", "eveningsWithDeed", "()I"⟩, 17), (⟨"OffThenOn", "countWays", "(II)I"⟩, 17), (⟨"OffThenOn", "minutesOfWay", "(II)I"⟩, 17), (⟨"OffThenOnModel", "come", "(I)V"⟩, 45), (⟨"OffThenOnModel", "begin", "(I)V"⟩, 45), (⟨"OffThenOnModel", "take", "()I"⟩, 45)]
theorem lw_r3 : ∀ q ∈ lw_privs_3, lw_okq q := List.forall_mem_cons.mpr ⟨lw_p32, List.forall_mem_cons.mpr ⟨lw_p33, List.forall_mem_cons.mpr ⟨lw_p34, List.forall_mem_cons.mpr ⟨lw_p35, List.forall_mem_cons.mpr ⟨lw_p36, List.forall_mem_cons.mpr ⟨lw_p37, List.forall_mem_cons.mpr ⟨lw_p38, List.forall_mem_cons.mpr ⟨lw_p39, List.forall_mem_cons.mpr ⟨lw_p40, List.forall_mem_cons.mpr ⟨lw_p41, List.forall_mem_cons.mpr ⟨lw_p42, List.forall_mem_cons.mpr ⟨lw_p43, List.forall_mem_cons.mpr ⟨lw_p44, List.forall_mem_cons.mpr ⟨lw_p45, List.forall_mem_cons.mpr ⟨lw_p46, List.forall_mem_cons.mpr ⟨lw_p47, fun _ h => absurd h List.not_mem_nil⟩⟩⟩⟩⟩⟩⟩⟩⟩⟩⟩⟩⟩⟩⟩⟩
theorem lw_p48 : lw_okq (⟨"OffThenOnModel", "go", "()V"⟩, 45) := ⟨⟨by decide +kernel, by decide +kernel⟩, List.mem_of_getElem? (i := 1256) (by decide +kernel), List.mem_of_getElem? (i := 1427) (by decide +kernel), List.mem_of_getElem? (i := 1428) (by decide +kernel)⟩
theorem lw_p49 : lw_okq (⟨"OffThenOnModel", "tapeAt", "(I)I"⟩, 45) := ⟨⟨by decide +kernel, by decide +kernel⟩, List.mem_of_getElem? (i := 1256) (by decide +kernel), List.mem_of_getElem? (i := 1437) (by decide +kernel), List.mem_of_getElem? (i := 1438) (by decide +kernel)⟩
theorem lw_p50 : lw_okq (⟨"OffThenOnModel", "readLine", "()Z"⟩, 45) := ⟨⟨by decide +kernel, by decide +kernel⟩, List.mem_of_getElem? (i := 1256) (by decide +kernel), List.mem_of_getElem? (i := 1443) (by decide +kernel), List.mem_of_getElem? (i := 1444) (by decide +kernel)⟩
theorem lw_p51 : lw_okq (⟨"OffThenOnModel", "isWord", "(I)Z"⟩, 45) := ⟨⟨by decide +kernel, by decide +kernel⟩, List.mem_of_getElem? (i := 1256) (by decide +kernel), List.mem_of_getElem? (i := 1447) (by decide +kernel), List.mem_of_getElem? (i := 1448) (by decide +kernel)⟩
theorem lw_p52 : lw_okq (⟨"OffThenOnModel", "readThing", "()Z"⟩, 45) := ⟨⟨by decide +kernel, by decide +kernel⟩, List.mem_of_getElem? (i := 1256) (by decide +kernel), List.mem_of_getElem? (i := 1457) (by decide +kernel), List.mem_of_getElem? (i := 1458) (by decide +kernel)⟩
theorem lw_p53 : lw_okq (⟨"OffThenOnModel", "readFirst", "(II)Z"⟩, 45) := ⟨⟨by decide +kernel, by decide +kernel⟩, List.mem_of_getElem? (i := 1256) (by decide +kernel), List.mem_of_getElem? (i := 1461) (by decide +kernel), List.mem_of_getElem? (i := 1462) (by decide +kernel)⟩
theorem lw_p54 : lw_okq (⟨"OffThenOnModel", "bad", "(I)Z"⟩, 45) := ⟨⟨by decide +kernel, by decide +kernel⟩, List.mem_of_getElem? (i := 1256) (by decide +kernel), List.mem_of_getElem? (i := 1465) (by decide +kernel), List.mem_of_getElem? (i := 1466) (by decide +kernel)⟩
theorem lw_p55 : lw_okq (⟨"OffThenOnModel", "readNew", "(I)Z"⟩, 45) := ⟨⟨by decide +kernel, by decide +kernel⟩, List.mem_of_getElem? (i := 1256) (by decide +kernel), List.mem_of_getElem? (i := 1469) (by decide +kernel), List.mem_of_getElem? (i := 1470) (by decide +kernel)⟩
theorem lw_p56 : lw_okq (⟨"OffThenOnModel", "isName", "()Z"⟩, 45) := ⟨⟨by decide +kernel, by decide +kernel⟩, List.mem_of_getElem? (i := 1256) (by decide +kernel), List.mem_of_getElem? (i := 1473) (by decide +kernel), List.mem_of_getElem? (i := 1474) (by decide +kernel)⟩
theorem lw_p57 : lw_okq (⟨"OffThenOnModel", "readNumber", "(II)Z"⟩, 45) := ⟨⟨by decide +kernel, by decide +kernel⟩, List.mem_of_getElem? (i := 1256) (by decide +kernel), List.mem_of_getElem? (i := 1480) (by decide +kernel), List.mem_of_getElem? (i := 1481) (by decide +kernel)⟩
theorem lw_p58 : lw_okq (⟨"OffThenOnModel", "put", "(IZ)Z"⟩, 45) := ⟨⟨by decide +kernel, by decide +kernel⟩, List.mem_of_getElem? (i := 1256) (by decide +kernel), List.mem_of_getElem? (i := 1487) (by decide +kernel), List.mem_of_getElem? (i := 1488) (by decide +kernel)⟩
theorem lw_p59 : lw_okq (⟨"OffThenOnModel", "readOne", "(II)Z"⟩, 45) := ⟨⟨by decide +kernel, by decide +kernel⟩, List.mem_of_getElem? (i := 1256) (by decide +kernel), List.mem_of_getElem? (i := 1491) (by decide +kernel), List.mem_of_getElem? (i := 1492) (by decide +kernel)⟩
theorem lw_p60 : lw_okq (⟨"OffThenOnModel", "readFault", "()Z"⟩, 45) := ⟨⟨by decide +kernel, by decide +kernel⟩, List.mem_of_getElem? (i := 1256) (by decide +kernel), List.mem_of_getElem? (i := 1495) (by decide +kernel), List.mem_of_getElem? (i := 1496) (by decide +kernel)⟩
theorem lw_p61 : lw_okq (⟨"OffThenOnModel", "readCures", "()Z"⟩, 45) := ⟨⟨by decide +kernel, by decide +kernel⟩, List.mem_of_getElem? (i := 1256) (by decide +kernel), List.mem_of_getElem? (i := 1499) (by decide +kernel), List.mem_of_getElem? (i := 1500) (by decide +kernel)⟩
theorem lw_p62 : lw_okq (⟨"OffThenOnModel", "readEnd", "()Z"⟩, 45) := ⟨⟨by decide +kernel, by decide +kernel⟩, List.mem_of_getElem? (i := 1256) (by decide +kernel), List.mem_of_getElem? (i := 1503) (by decide +kernel), List.mem_of_getElem? (i := 1504) (by decide +kernel)⟩
theorem lw_p63 : lw_okq (⟨"OffThenOnModel", "isSign", "(I)Z"⟩, 45) := ⟨⟨by decide +kernel, by decide +kernel⟩, List.mem_of_getElem? (i := 1256) (by decide +kernel), List.mem_of_getElem? (i := 1507) (by decide +kernel), List.mem_of_getElem? (i := 1508) (by decide +kernel)⟩
def lw_privs_4 : List (MethodName × Nat) := [(⟨"OffThenOnModel", "go", "()V"⟩, 45), (⟨"OffThenOnModel", "tapeAt", "(I)I"⟩, 45), (⟨"OffThenOnModel", "readLine", "()Z"⟩, 45), (⟨"OffThenOnModel", "isWord", "(I)Z"⟩, 45), (⟨"OffThenOnModel", "readThing", "()Z"⟩, 45), (⟨"OffThenOnModel", "readFirst", "(II)Z"⟩, 45), (⟨"OffThenOnModel", "bad", "(I)Z"⟩, 45), (⟨"OffThenOnModel", "readNew", "(I)Z"⟩, 45), (⟨"OffThenOnModel", "isName", "()Z"⟩, 45), (⟨"OffThenOnModel", "readNumber", "(II)Z"⟩, 45), (⟨"OffThenOnModel", "put", "(IZ)Z"⟩, 45), (⟨"OffThenOnModel", "readOne", "(II)Z"⟩, 45), (⟨"OffThenOnModel", "readFault", "()Z"⟩, 45), (⟨"OffThenOnModel", "readCures", "()Z"⟩, 45), (⟨"OffThenOnModel", "readEnd", "()Z"⟩, 45), (⟨"OffThenOnModel", "isSign", "(I)Z"⟩, 45)]
theorem lw_r4 : ∀ q ∈ lw_privs_4, lw_okq q := List.forall_mem_cons.mpr ⟨lw_p48, List.forall_mem_cons.mpr ⟨lw_p49, List.forall_mem_cons.mpr ⟨lw_p50, List.forall_mem_cons.mpr ⟨lw_p51, List.forall_mem_cons.mpr ⟨lw_p52, List.forall_mem_cons.mpr ⟨lw_p53, List.forall_mem_cons.mpr ⟨lw_p54, List.forall_mem_cons.mpr ⟨lw_p55, List.forall_mem_cons.mpr ⟨lw_p56, List.forall_mem_cons.mpr ⟨lw_p57, List.forall_mem_cons.mpr ⟨lw_p58, List.forall_mem_cons.mpr ⟨lw_p59, List.forall_mem_cons.mpr ⟨lw_p60, List.forall_mem_cons.mpr ⟨lw_p61, List.forall_mem_cons.mpr ⟨lw_p62, List.forall_mem_cons.mpr ⟨lw_p63, fun _ h => absurd h List.not_mem_nil⟩⟩⟩⟩⟩⟩⟩⟩⟩⟩⟩⟩⟩⟩⟩⟩
theorem lw_p64 : lw_okq (⟨"OffThenOnModel", "startSo", "()V"⟩, 45) := ⟨⟨by decide +kernel, by decide +kernel⟩, List.mem_of_getElem? (i := 1256) (by decide +kernel), List.mem_of_getElem? (i := 1511) (by decide +kernel), List.mem_of_getElem? (i := 1512) (by decide +kernel)⟩
theorem lw_p65 : lw_okq (⟨"OffThenOnModel", "isThing", "(I)Z"⟩, 45) := ⟨⟨by decide +kernel, by decide +kernel⟩, List.mem_of_getElem? (i := 1256) (by decide +kernel), List.mem_of_getElem? (i := 1523) (by decide +kernel), List.mem_of_getElem? (i := 1524) (by decide +kernel)⟩
theorem lw_p66 : lw_okq (⟨"OffThenOnModel", "refuse", "()I"⟩, 45) := ⟨⟨by decide +kernel, by decide +kernel⟩, List.mem_of_getElem? (i := 1256) (by decide +kernel), List.mem_of_getElem? (i := 1527) (by decide +kernel), List.mem_of_getElem? (i := 1528) (by decide +kernel)⟩
theorem lw_p67 : lw_okq (⟨"OffThenOnModel", "lamp", "(I)I"⟩, 45) := ⟨⟨by decide +kernel, by decide +kernel⟩, List.mem_of_getElem? (i := 1256) (by decide +kernel), List.mem_of_getElem? (i := 1531) (by decide +kernel), List.mem_of_getElem? (i := 1532) (by decide +kernel)⟩
theorem lw_p68 : lw_okq (⟨"OffThenOnModel", "worst", "(I)I"⟩, 45) := ⟨⟨by decide +kernel, by decide +kernel⟩, List.mem_of_getElem? (i := 1256) (by decide +kernel), List.mem_of_getElem? (i := 1535) (by decide +kernel), List.mem_of_getElem? (i := 1536) (by decide +kernel)⟩
theorem lw_p69 : lw_okq (⟨"OffThenOnModel", "isThere", "(I)Z"⟩, 45) := ⟨⟨by decide +kernel, by decide +kernel⟩, List.mem_of_getElem? (i := 1256) (by decide +kernel), List.mem_of_getElem? (i := 1539) (by decide +kernel), List.mem_of_getElem? (i := 1540) (by decide +kernel)⟩
theorem lw_p70 : lw_okq (⟨"OffThenOnModel", "works", "(I)Z"⟩, 45) := ⟨⟨by decide +kernel, by decide +kernel⟩, List.mem_of_getElem? (i := 1256) (by decide +kernel), List.mem_of_getElem? (i := 1543) (by decide +kernel), List.mem_of_getElem? (i := 1544) (by decide +kernel)⟩
theorem lw_p71 : lw_okq (⟨"OffThenOnModel", "isNumbered", "(I)Z"⟩, 45) := ⟨⟨by decide +kernel, by decide +kernel⟩, List.mem_of_getElem? (i := 1256) (by decide +kernel), List.mem_of_getElem? (i := 1547) (by decide +kernel), List.mem_of_getElem? (i := 1548) (by decide +kernel)⟩
theorem lw_p72 : lw_okq (⟨"OffThenOnModel", "isFault", "(I)Z"⟩, 45) := ⟨⟨by decide +kernel, by decide +kernel⟩, List.mem_of_getElem? (i := 1256) (by decide +kernel), List.mem_of_getElem? (i := 1555) (by decide +kernel), List.mem_of_getElem? (i := 1556) (by decide +kernel)⟩
theorem lw_p73 : lw_okq (⟨"OffThenOnModel", "working", "()I"⟩, 45) := ⟨⟨by decide +kernel, by decide +kernel⟩, List.mem_of_getElem? (i := 1256) (by decide +kernel), List.mem_of_getElem? (i := 1567) (by decide +kernel), List.mem_of_getElem? (i := 1568) (by decide +kernel)⟩
theorem lw_p74 : lw_okq (⟨"OffThenOnModel", "act", "(III)I"⟩, 45) := ⟨⟨by decide +kernel, by decide +kernel⟩, List.mem_of_getElem? (i := 1256) (by decide +kernel), List.mem_of_getElem? (i := 1575) (by decide +kernel), List.mem_of_getElem? (i := 1576) (by decide +kernel)⟩
theorem lw_p75 : lw_okq (⟨"OffThenOnModel", "why", "(II)I"⟩, 45) := ⟨⟨by decide +kernel, by decide +kernel⟩, List.mem_of_getElem? (i := 1256) (by decide +kernel), List.mem_of_getElem? (i := 1579) (by decide +kernel), List.mem_of_getElem? (i := 1580) (by decide +kernel)⟩
theorem lw_p76 : lw_okq (⟨"OffThenOnModel", "snap", "()V"⟩, 45) := ⟨⟨by decide +kernel, by decide +kernel⟩, List.mem_of_getElem? (i := 1256) (by decide +kernel), List.mem_of_getElem? (i := 1583) (by decide +kernel), List.mem_of_getElem? (i := 1584) (by decide +kernel)⟩
theorem lw_p77 : lw_okq (⟨"OffThenOnModel", "live", "(II)V"⟩, 45) := ⟨⟨by decide +kernel, by decide +kernel⟩, List.mem_of_getElem? (i := 1256) (by decide +kernel), List.mem_of_getElem? (i := 1587) (by decide +kernel), List.mem_of_getElem? (i := 1588) (by decide +kernel)⟩
theorem lw_p78 : lw_okq (⟨"OffThenOnModel", "set", "(III)V"⟩, 45) := ⟨⟨by decide +kernel, by decide +kernel⟩, List.mem_of_getElem? (i := 1256) (by decide +kernel), List.mem_of_getElem? (i := 1591) (by decide +kernel), List.mem_of_getElem? (i := 1592) (by decide +kernel)⟩
theorem lw_p79 : lw_okq (⟨"OffThenOnModel", "unnumber", "(I)V"⟩, 45) := ⟨⟨by decide +kernel, by decide +kernel⟩, List.mem_of_getElem? (i := 1256) (by decide +kernel), List.mem_of_getElem? (i := 1595) (by decide +kernel), List.mem_of_getElem? (i := 1596) (by decide +kernel)⟩
def lw_privs_5 : List (MethodName × Nat) := [(⟨"OffThenOnModel", "startSo", "()V"⟩, 45), (⟨"OffThenOnModel", "isThing", "(I)Z"⟩, 45), (⟨"OffThenOnModel", "refuse", "()I"⟩, 45), (⟨"OffThenOnModel", "lamp", "(I)I"⟩, 45), (⟨"OffThenOnModel", "worst", "(I)I"⟩, 45), (⟨"OffThenOnModel", "isThere", "(I)Z"⟩, 45), (⟨"OffThenOnModel", "works", "(I)Z"⟩, 45), (⟨"OffThenOnModel", "isNumbered", "(I)Z"⟩, 45), (⟨"OffThenOnModel", "isFault", "(I)Z"⟩, 45), (⟨"OffThenOnModel", "working", "()I"⟩, 45), (⟨"OffThenOnModel", "act", "(III)I"⟩, 45), (⟨"OffThenOnModel", "why", "(II)I"⟩, 45), (⟨"OffThenOnModel", "snap", "()V"⟩, 45), (⟨"OffThenOnModel", "live", "(II)V"⟩, 45), (⟨"OffThenOnModel", "set", "(III)V"⟩, 45), (⟨"OffThenOnModel", "unnumber", "(I)V"⟩, 45)]
theorem lw_r5 : ∀ q ∈ lw_privs_5, lw_okq q := List.forall_mem_cons.mpr ⟨lw_p64, List.forall_mem_cons.mpr ⟨lw_p65, List.forall_mem_cons.mpr ⟨lw_p66, List.forall_mem_cons.mpr ⟨lw_p67, List.forall_mem_cons.mpr ⟨lw_p68, List.forall_mem_cons.mpr ⟨lw_p69, List.forall_mem_cons.mpr ⟨lw_p70, List.forall_mem_cons.mpr ⟨lw_p71, List.forall_mem_cons.mpr ⟨lw_p72, List.forall_mem_cons.mpr ⟨lw_p73, List.forall_mem_cons.mpr ⟨lw_p74, List.forall_mem_cons.mpr ⟨lw_p75, List.forall_mem_cons.mpr ⟨lw_p76, List.forall_mem_cons.mpr ⟨lw_p77, List.forall_mem_cons.mpr ⟨lw_p78, List.forall_mem_cons.mpr ⟨lw_p79, fun _ h => absurd h List.not_mem_nil⟩⟩⟩⟩⟩⟩⟩⟩⟩⟩⟩⟩⟩⟩⟩⟩
theorem lw_p80 : lw_okq (⟨"OffThenOnModel", "isBehind", "(II)Z"⟩, 45) := ⟨⟨by decide +kernel, by decide +kernel⟩, List.mem_of_getElem? (i := 1256) (by decide +kernel), List.mem_of_getElem? (i := 1599) (by decide +kernel), List.mem_of_getElem? (i := 1600) (by decide +kernel)⟩
theorem lw_p81 : lw_okq (⟨"OffThenOnModel", "deed", "(II)V"⟩, 45) := ⟨⟨by decide +kernel, by decide +kernel⟩, List.mem_of_getElem? (i := 1256) (by decide +kernel), List.mem_of_getElem? (i := 1603) (by decide +kernel), List.mem_of_getElem? (i := 1604) (by decide +kernel)⟩
theorem lw_p82 : lw_okq (⟨"OffThenOnModel", "draw", "(I)I"⟩, 45) := ⟨⟨by decide +kernel, by decide +kernel⟩, List.mem_of_getElem? (i := 1256) (by decide +kernel), List.mem_of_getElem? (i := 1607) (by decide +kernel), List.mem_of_getElem? (i := 1608) (by decide +kernel)⟩
theorem lw_p83 : lw_okq (⟨"OffThenOnModel", "go", "(I)V"⟩, 45) := ⟨⟨by decide +kernel, by decide +kernel⟩, List.mem_of_getElem? (i := 1256) (by decide +kernel), List.mem_of_getElem? (i := 1612) (by decide +kernel), List.mem_of_getElem? (i := 1613) (by decide +kernel)⟩
theorem lw_p84 : lw_okq (⟨"OffThenOnModel", "passMinutes", "(I)I"⟩, 45) := ⟨⟨by decide +kernel, by decide +kernel⟩, List.mem_of_getElem? (i := 1256) (by decide +kernel), List.mem_of_getElem? (i := 1640) (by decide +kernel), List.mem_of_getElem? (i := 1641) (by decide +kernel)⟩
theorem lw_p85 : lw_okq (⟨"OffThenOnModel", "oneMinute", "()V"⟩, 45) := ⟨⟨by decide +kernel, by decide +kernel⟩, List.mem_of_getElem? (i := 1256) (by decide +kernel), List.mem_of_getElem? (i := 1647) (by decide +kernel), List.mem_of_getElem? (i := 1648) (by decide +kernel)⟩
theorem lw_p86 : lw_okq (⟨"OffThenOnModel", "showsSo", "(II)Z"⟩, 45) := ⟨⟨by decide +kernel, by decide +kernel⟩, List.mem_of_getElem? (i := 1256) (by decide +kernel), List.mem_of_getElem? (i := 1655) (by decide +kernel), List.mem_of_getElem? (i := 1656) (by decide +kernel)⟩
theorem lw_p87 : lw_okq (⟨"OffThenOnModel", "leftAt", "(I)I"⟩, 45) := ⟨⟨by decide +kernel, by decide +kernel⟩, List.mem_of_getElem? (i := 1256) (by decide +kernel), List.mem_of_getElem? (i := 1673) (by decide +kernel), List.mem_of_getElem? (i := 1674) (by decide +kernel)⟩
theorem lw_p88 : lw_okq (⟨"OffThenOnModel", "planFrom", "(IIII)V"⟩, 45) := ⟨⟨by decide +kernel, by decide +kernel⟩, List.mem_of_getElem? (i := 1256) (by decide +kernel), List.mem_of_getElem? (i := 1678) (by decide +kernel), List.mem_of_getElem? (i := 1679) (by decide +kernel)⟩
theorem lw_p89 : lw_okq (⟨"OffThenOnModel", "keepPlan", "(II)V"⟩, 45) := ⟨⟨by decide +kernel, by decide +kernel⟩, List.mem_of_getElem? (i := 1256) (by decide +kernel), List.mem_of_getElem? (i := 1682) (by decide +kernel), List.mem_of_getElem? (i := 1683) (by decide +kernel)⟩
theorem lw_p90 : lw_okq (⟨"OffThenOnModel", "minutesOf", "(II)I"⟩, 45) := ⟨⟨by decide +kernel, by decide +kernel⟩, List.mem_of_getElem? (i := 1256) (by decide +kernel), List.mem_of_getElem? (i := 1686) (by decide +kernel), List.mem_of_getElem? (i := 1687) (by decide +kernel)⟩
theorem lw_p91 : lw_okq (⟨"OffThenOnModel", "startOf", "(I)I"⟩, 45) := ⟨⟨by decide +kernel, by decide +kernel⟩, List.mem_of_getElem? (i := 1256) (by decide +kernel), List.mem_of_getElem? (i := 1698) (by decide +kernel), List.mem_of_getElem? (i := 1699) (by decide +kernel)⟩
theorem lw_p92 : lw_okq (⟨"OffThenOnModel", "areAlike", "(II)Z"⟩, 45) := ⟨⟨by decide +kernel, by decide +kernel⟩, List.mem_of_getElem? (i := 1256) (by decide +kernel), List.mem_of_getElem? (i := 1721) (by decide +kernel), List.mem_of_getElem? (i := 1722) (by decide +kernel)⟩
theorem lw_p93 : lw_okq (⟨"OffThenOnModel", "groupAt", "(II)I"⟩, 45) := ⟨⟨by decide +kernel, by decide +kernel⟩, List.mem_of_getElem? (i := 1256) (by decide +kernel), List.mem_of_getElem? (i := 1733) (by decide +kernel), List.mem_of_getElem? (i := 1734) (by decide +kernel)⟩
theorem lw_p94 : lw_okq (⟨"OffThenOnModel", "layAside", "()V"⟩, 45) := ⟨⟨by decide +kernel, by decide +kernel⟩, List.mem_of_getElem? (i := 1256) (by decide +kernel), List.mem_of_getElem? (i := 1745) (by decide +kernel), List.mem_of_getElem? (i := 1746) (by decide +kernel)⟩
theorem lw_p95 : lw_okq (⟨"OffThenOnModel", "showsOn", "(III)Z"⟩, 45) := ⟨⟨by decide +kernel, by decide +kernel⟩, List.mem_of_getElem? (i := 1256) (by decide +kernel), List.mem_of_getElem? (i := 1749) (by decide +kernel), List.mem_of_getElem? (i := 1750) (by decide +kernel)⟩
def lw_privs_6 : List (MethodName × Nat) := [(⟨"OffThenOnModel", "isBehind", "(II)Z"⟩, 45), (⟨"OffThenOnModel", "deed", "(II)V"⟩, 45), (⟨"OffThenOnModel", "draw", "(I)I"⟩, 45), (⟨"OffThenOnModel", "go", "(I)V"⟩, 45), (⟨"OffThenOnModel", "passMinutes", "(I)I"⟩, 45), (⟨"OffThenOnModel", "oneMinute", "()V"⟩, 45), (⟨"OffThenOnModel", "showsSo", "(II)Z"⟩, 45), (⟨"OffThenOnModel", "leftAt", "(I)I"⟩, 45), (⟨"OffThenOnModel", "planFrom", "(IIII)V"⟩, 45), (⟨"OffThenOnModel", "keepPlan", "(II)V"⟩, 45), (⟨"OffThenOnModel", "minutesOf", "(II)I"⟩, 45), (⟨"OffThenOnModel", "startOf", "(I)I"⟩, 45), (⟨"OffThenOnModel", "areAlike", "(II)Z"⟩, 45), (⟨"OffThenOnModel", "groupAt", "(II)I"⟩, 45), (⟨"OffThenOnModel", "layAside", "()V"⟩, 45), (⟨"OffThenOnModel", "showsOn", "(III)Z"⟩, 45)]
theorem lw_r6 : ∀ q ∈ lw_privs_6, lw_okq q := List.forall_mem_cons.mpr ⟨lw_p80, List.forall_mem_cons.mpr ⟨lw_p81, List.forall_mem_cons.mpr ⟨lw_p82, List.forall_mem_cons.mpr ⟨lw_p83, List.forall_mem_cons.mpr ⟨lw_p84, List.forall_mem_cons.mpr ⟨lw_p85, List.forall_mem_cons.mpr ⟨lw_p86, List.forall_mem_cons.mpr ⟨lw_p87, List.forall_mem_cons.mpr ⟨lw_p88, List.forall_mem_cons.mpr ⟨lw_p89, List.forall_mem_cons.mpr ⟨lw_p90, List.forall_mem_cons.mpr ⟨lw_p91, List.forall_mem_cons.mpr ⟨lw_p92, List.forall_mem_cons.mpr ⟨lw_p93, List.forall_mem_cons.mpr ⟨lw_p94, List.forall_mem_cons.mpr ⟨lw_p95, fun _ h => absurd h List.not_mem_nil⟩⟩⟩⟩⟩⟩⟩⟩⟩⟩⟩⟩⟩⟩⟩⟩
theorem lw_p96 : lw_okq (⟨"OffThenOnModel", "takeBack", "()V"⟩, 45) := ⟨⟨by decide +kernel, by decide +kernel⟩, List.mem_of_getElem? (i := 1256) (by decide +kernel), List.mem_of_getElem? (i := 1753) (by decide +kernel), List.mem_of_getElem? (i := 1754) (by decide +kernel)⟩
theorem lw_p97 : lw_okq (⟨"OffThenOnModel", "writeWord", "(J)V"⟩, 45) := ⟨⟨by decide +kernel, by decide +kernel⟩, List.mem_of_getElem? (i := 1256) (by decide +kernel), List.mem_of_getElem? (i := 1769) (by decide +kernel), List.mem_of_getElem? (i := 1770) (by decide +kernel)⟩
theorem lw_p98 : lw_okq (⟨"OffThenOnModel", "write", "(I)V"⟩, 45) := ⟨⟨by decide +kernel, by decide +kernel⟩, List.mem_of_getElem? (i := 1256) (by decide +kernel), List.mem_of_getElem? (i := 1773) (by decide +kernel), List.mem_of_getElem? (i := 1774) (by decide +kernel)⟩
theorem lw_p99 : lw_okq (⟨"OffThenOnModel", "writeNext", "(J)V"⟩, 45) := ⟨⟨by decide +kernel, by decide +kernel⟩, List.mem_of_getElem? (i := 1256) (by decide +kernel), List.mem_of_getElem? (i := 1777) (by decide +kernel), List.mem_of_getElem? (i := 1778) (by decide +kernel)⟩
theorem lw_p100 : lw_okq (⟨"OffThenOnModel", "writeNumber", "(I)V"⟩, 45) := ⟨⟨by decide +kernel, by decide +kernel⟩, List.mem_of_getElem? (i := 1256) (by decide +kernel), List.mem_of_getElem? (i := 1781) (by decide +kernel), List.mem_of_getElem? (i := 1782) (by decide +kernel)⟩
theorem lw_p101 : lw_okq (⟨"OffThenOnModel", "drawMinutes", "(II)I"⟩, 45) := ⟨⟨by decide +kernel, by decide +kernel⟩, List.mem_of_getElem? (i := 1256) (by decide +kernel), List.mem_of_getElem? (i := 1793) (by decide +kernel), List.mem_of_getElem? (i := 1794) (by decide +kernel)⟩
theorem lw_p102 : lw_okq (⟨"OffThenOnModel", "tryTo", "(II)V"⟩, 45) := ⟨⟨by decide +kernel, by decide +kernel⟩, List.mem_of_getElem? (i := 1256) (by decide +kernel), List.mem_of_getElem? (i := 1797) (by decide +kernel), List.mem_of_getElem? (i := 1798) (by decide +kernel)⟩
theorem lw_p103 : lw_okq (⟨"OffThenOnModel", "readLogLine", "()Z"⟩, 45) := ⟨⟨by decide +kernel, by decide +kernel⟩, List.mem_of_getElem? (i := 1256) (by decide +kernel), List.mem_of_getElem? (i := 1809) (by decide +kernel), List.mem_of_getElem? (i := 1810) (by decide +kernel)⟩
theorem lw_p104 : lw_okq (⟨"OffThenOnModel", "readDoes", "(I)Z"⟩, 45) := ⟨⟨by decide +kernel, by decide +kernel⟩, List.mem_of_getElem? (i := 1256) (by decide +kernel), List.mem_of_getElem? (i := 1813) (by decide +kernel), List.mem_of_getElem? (i := 1814) (by decide +kernel)⟩
theorem lw_p105 : lw_okq (⟨"OffThenOnModel", "readNamed", "(II)Z"⟩, 45) := ⟨⟨by decide +kernel, by decide +kernel⟩, List.mem_of_getElem? (i := 1256) (by decide +kernel), List.mem_of_getElem? (i := 1817) (by decide +kernel), List.mem_of_getElem? (i := 1818) (by decide +kernel)⟩
theorem lw_p106 : lw_okq (⟨"OffThenOnModel", "goBy", "(I)I"⟩, 45) := ⟨⟨by decide +kernel, by decide +kernel⟩, List.mem_of_getElem? (i := 1256) (by decide +kernel), List.mem_of_getElem? (i := 1821) (by decide +kernel), List.mem_of_getElem? (i := 1822) (by decide +kernel)⟩
theorem lw_p107 : lw_okq (⟨"OffThenOnModel", "stay", "(Z)V"⟩, 45) := ⟨⟨by decide +kernel, by decide +kernel⟩, List.mem_of_getElem? (i := 1256) (by decide +kernel), List.mem_of_getElem? (i := 1825) (by decide +kernel), List.mem_of_getElem? (i := 1826) (by decide +kernel)⟩
theorem lw_p108 : lw_okq (⟨"OffThenOnModel", "readOr", "()Z"⟩, 45) := ⟨⟨by decide +kernel, by decide +kernel⟩, List.mem_of_getElem? (i := 1256) (by decide +kernel), List.mem_of_getElem? (i := 1837) (by decide +kernel), List.mem_of_getElem? (i := 1838) (by decide +kernel)⟩
theorem lw_p109 : lw_okq (⟨"OffThenOnModel", "readAnd", "()Z"⟩, 45) := ⟨⟨by decide +kernel, by decide +kernel⟩, List.mem_of_getElem? (i := 1256) (by decide +kernel), List.mem_of_getElem? (i := 1841) (by decide +kernel), List.mem_of_getElem? (i := 1842) (by decide +kernel)⟩
theorem lw_p110 : lw_okq (⟨"OffThenOnModel", "readSaid", "()Z"⟩, 45) := ⟨⟨by decide +kernel, by decide +kernel⟩, List.mem_of_getElem? (i := 1256) (by decide +kernel), List.mem_of_getElem? (i := 1845) (by decide +kernel), List.mem_of_getElem? (i := 1846) (by decide +kernel)⟩
theorem lw_p111 : lw_okq (⟨"OffThenOnModel", "readBracket", "()Z"⟩, 45) := ⟨⟨by decide +kernel, by decide +kernel⟩, List.mem_of_getElem? (i := 1256) (by decide +kernel), List.mem_of_getElem? (i := 1849) (by decide +kernel), List.mem_of_getElem? (i := 1850) (by decide +kernel)⟩
def lw_privs_7 : List (MethodName × Nat) := [(⟨"OffThenOnModel", "takeBack", "()V"⟩, 45), (⟨"OffThenOnModel", "writeWord", "(J)V"⟩, 45), (⟨"OffThenOnModel", "write", "(I)V"⟩, 45), (⟨"OffThenOnModel", "writeNext", "(J)V"⟩, 45), (⟨"OffThenOnModel", "writeNumber", "(I)V"⟩, 45), (⟨"OffThenOnModel", "drawMinutes", "(II)I"⟩, 45), (⟨"OffThenOnModel", "tryTo", "(II)V"⟩, 45), (⟨"OffThenOnModel", "readLogLine", "()Z"⟩, 45), (⟨"OffThenOnModel", "readDoes", "(I)Z"⟩, 45), (⟨"OffThenOnModel", "readNamed", "(II)Z"⟩, 45), (⟨"OffThenOnModel", "goBy", "(I)I"⟩, 45), (⟨"OffThenOnModel", "stay", "(Z)V"⟩, 45), (⟨"OffThenOnModel", "readOr", "()Z"⟩, 45), (⟨"OffThenOnModel", "readAnd", "()Z"⟩, 45), (⟨"OffThenOnModel", "readSaid", "()Z"⟩, 45), (⟨"OffThenOnModel", "readBracket", "()Z"⟩, 45)]
theorem lw_r7 : ∀ q ∈ lw_privs_7, lw_okq q := List.forall_mem_cons.mpr ⟨lw_p96, List.forall_mem_cons.mpr ⟨lw_p97, List.forall_mem_cons.mpr ⟨lw_p98, List.forall_mem_cons.mpr ⟨lw_p99, List.forall_mem_cons.mpr ⟨lw_p100, List.forall_mem_cons.mpr ⟨lw_p101, List.forall_mem_cons.mpr ⟨lw_p102, List.forall_mem_cons.mpr ⟨lw_p103, List.forall_mem_cons.mpr ⟨lw_p104, List.forall_mem_cons.mpr ⟨lw_p105, List.forall_mem_cons.mpr ⟨lw_p106, List.forall_mem_cons.mpr ⟨lw_p107, List.forall_mem_cons.mpr ⟨lw_p108, List.forall_mem_cons.mpr ⟨lw_p109, List.forall_mem_cons.mpr ⟨lw_p110, List.forall_mem_cons.mpr ⟨lw_p111, fun _ h => absurd h List.not_mem_nil⟩⟩⟩⟩⟩⟩⟩⟩⟩⟩⟩⟩⟩⟩⟩⟩
theorem lw_p112 : lw_okq (⟨"OffThenOnModel", "readNot", "()Z"⟩, 45) := ⟨⟨by decide +kernel, by decide +kernel⟩, List.mem_of_getElem? (i := 1256) (by decide +kernel), List.mem_of_getElem? (i := 1853) (by decide +kernel), List.mem_of_getElem? (i := 1854) (by decide +kernel)⟩
theorem lw_p113 : lw_okq (⟨"OffThenOnModel", "saysOne", "(IIII)I"⟩, 45) := ⟨⟨by decide +kernel, by decide +kernel⟩, List.mem_of_getElem? (i := 1256) (by decide +kernel), List.mem_of_getElem? (i := 1857) (by decide +kernel), List.mem_of_getElem? (i := 1858) (by decide +kernel)⟩
theorem lw_p114 : lw_okq (⟨"OffThenOnModel", "readOf", "(I)Z"⟩, 45) := ⟨⟨by decide +kernel, by decide +kernel⟩, List.mem_of_getElem? (i := 1256) (by decide +kernel), List.mem_of_getElem? (i := 1861) (by decide +kernel), List.mem_of_getElem? (i := 1862) (by decide +kernel)⟩
theorem lw_p115 : lw_okq (⟨"OffThenOnModel", "readCompare", "(I)Z"⟩, 45) := ⟨⟨by decide +kernel, by decide +kernel⟩, List.mem_of_getElem? (i := 1256) (by decide +kernel), List.mem_of_getElem? (i := 1865) (by decide +kernel), List.mem_of_getElem? (i := 1866) (by decide +kernel)⟩
theorem lw_p116 : lw_okq (⟨"OffThenOnModel", "holds", "(II)Z"⟩, 45) := ⟨⟨by decide +kernel, by decide +kernel⟩, List.mem_of_getElem? (i := 1256) (by decide +kernel), List.mem_of_getElem? (i := 1873) (by decide +kernel), List.mem_of_getElem? (i := 1874) (by decide +kernel)⟩
def lw_privs_8 : List (MethodName × Nat) := [(⟨"OffThenOnModel", "readNot", "()Z"⟩, 45), (⟨"OffThenOnModel", "saysOne", "(IIII)I"⟩, 45), (⟨"OffThenOnModel", "readOf", "(I)Z"⟩, 45), (⟨"OffThenOnModel", "readCompare", "(I)Z"⟩, 45), (⟨"OffThenOnModel", "holds", "(II)Z"⟩, 45)]
theorem lw_r8 : ∀ q ∈ lw_privs_8, lw_okq q := List.forall_mem_cons.mpr ⟨lw_p112, List.forall_mem_cons.mpr ⟨lw_p113, List.forall_mem_cons.mpr ⟨lw_p114, List.forall_mem_cons.mpr ⟨lw_p115, List.forall_mem_cons.mpr ⟨lw_p116, fun _ h => absurd h List.not_mem_nil⟩⟩⟩⟩⟩
def lw_privs : List (MethodName × Nat) := lw_privs_1 ++ (lw_privs_2 ++ (lw_privs_3 ++ (lw_privs_4 ++ (lw_privs_5 ++ (lw_privs_6 ++ (lw_privs_7 ++ (lw_privs_8)))))))
def lw_tbl : List Cond := k2_sels lw_privs ++ tables_1
theorem lw_privs_ok : ∀ q ∈ lw_privs, lw_okq q := by
  show ∀ q ∈ lw_privs_1 ++ (lw_privs_2 ++ (lw_privs_3 ++ (lw_privs_4 ++ (lw_privs_5 ++ (lw_privs_6 ++ (lw_privs_7 ++ (lw_privs_8))))))), lw_okq q
  exact List.forall_mem_append.mpr ⟨lw_r1, List.forall_mem_append.mpr ⟨lw_r2, List.forall_mem_append.mpr ⟨lw_r3, List.forall_mem_append.mpr ⟨lw_r4, List.forall_mem_append.mpr ⟨lw_r5, List.forall_mem_append.mpr ⟨lw_r6, List.forall_mem_append.mpr ⟨lw_r7, lw_r8⟩⟩⟩⟩⟩⟩⟩
end
section
def RX0 : String := "OffThenOn$Bytes"
def TX0 : u_T := fun k => match k with
  | 0 => ("OffThenOn$Bytes", "row", "[B", true)
  | _ => ("OffThenOn$Bytes", "size", "I", false)
def tyX0 : Nat → FieldType := fun k => match k with
  | 0 => .array .byte
  | _ => .int
abbrev wsX00 : List Cond := u_ws RX0 TX0 2
theorem nmX0 : ∀ a, a < 2 → ∀ b, b < 2 → a ≠ b → (TX0 a).2.1 ≠ (TX0 b).2.1 := by decide +kernel
theorem tyX0_ok : ∀ k, k < 2 → parseFieldDescriptor (TX0 k).2.2.1 = some (tyX0 k) := by decide +kernel
abbrev cX0_init : ByteArray := prog_2_method_1_code
def yX0_init : MethodName := ⟨RX0, "<init>", "(I)V"⟩
abbrev cX0_at : ByteArray := prog_2_method_2_code
def yX0_at : MethodName := ⟨RX0, "at", "(I)I"⟩
abbrev cX0_add : ByteArray := prog_2_method_3_code
def yX0_add : MethodName := ⟨RX0, "add", "(I)V"⟩
abbrev cX0_addInt : ByteArray := prog_2_method_4_code
def yX0_addInt : MethodName := ⟨RX0, "addInt", "(I)V"⟩
abbrev cX0_addWord : ByteArray := prog_2_method_5_code
def yX0_addWord : MethodName := ⟨RX0, "addWord", "(J)V"⟩
abbrev cX0_addText : ByteArray := prog_2_method_6_code
def yX0_addText : MethodName := ⟨RX0, "addText", "(Ljava/lang/String;)V"⟩
abbrev cX0_addNumber : ByteArray := prog_2_method_7_code
def yX0_addNumber : MethodName := ⟨RX0, "addNumber", "(I)V"⟩
def RX1 : String := "OffThenOn$History"
def TX1 : u_T := fun k => match k with
  | 0 => ("OffThenOn$History", "states", "[LOffThenOn$State;", true)
  | 1 => ("OffThenOn$History", "first", "I", false)
  | _ => ("OffThenOn$History", "size", "I", false)
def tyX1 : Nat → FieldType := fun k => match k with
  | 0 => .array (.object "OffThenOn$State")
  | 1 => .int
  | _ => .int
abbrev wsX10 : List Cond := u_ws RX1 TX1 3
theorem nmX1 : ∀ a, a < 3 → ∀ b, b < 3 → a ≠ b → (TX1 a).2.1 ≠ (TX1 b).2.1 := by decide +kernel
theorem tyX1_ok : ∀ k, k < 3 → parseFieldDescriptor (TX1 k).2.2.1 = some (tyX1 k) := by decide +kernel
abbrev cX1_init : ByteArray := prog_3_method_1_code
def yX1_init : MethodName := ⟨RX1, "<init>", "()V"⟩
abbrev cX1_clear : ByteArray := prog_3_method_2_code
def yX1_clear : MethodName := ⟨RX1, "clear", "()V"⟩
abbrev cX1_prepare : ByteArray := prog_3_method_3_code
def yX1_prepare : MethodName := ⟨RX1, "prepare", "(LOffThenOn$State;)V"⟩
abbrev cX1_commit : ByteArray := prog_3_method_4_code
def yX1_commit : MethodName := ⟨RX1, "commit", "()V"⟩
abbrev cX1_takeBack : ByteArray := prog_3_method_5_code
def yX1_takeBack : MethodName := ⟨RX1, "takeBack", "(LOffThenOn$State;)I"⟩
def RX2 : String := "OffThenOn$House"
def TX2 : u_T := fun k => match k with
  | 0 => ("OffThenOn$House", "thingNames", "[J", true)
  | 1 => ("OffThenOn$House", "boots", "[I", true)
  | 2 => ("OffThenOn$House", "waits", "[I", true)
  | 3 => ("OffThenOn$House", "behinds", "[I", true)
  | 4 => ("OffThenOn$House", "ahead", "[I", true)
  | 5 => ("OffThenOn$House", "after", "[I", true)
  | 6 => ("OffThenOn$House", "faultsOf", "[I", true)
  | 7 => ("OffThenOn$House", "faultNames", "[J", true)
  | 8 => ("OffThenOn$House", "homes", "[I", true)
  | 9 => ("OffThenOn$House", "healTimes", "[I", true)
  | 10 => ("OffThenOn$House", "chances", "[I", true)
  | 11 => ("OffThenOn$House", "shows", "[I", true)
  | 12 => ("OffThenOn$House", "twelfths", "[I", true)
  | 13 => ("OffThenOn$House", "things", "I", false)
  | 14 => ("OffThenOn$House", "faults", "I", false)
  | _ => ("OffThenOn$House", "curesTold", "I", false)
def tyX2 : Nat → FieldType := fun k => match k with
  | 0 => .array .long
  | 1 => .array .int
  | 2 => .array .int
  | 3 => .array .int
  | 4 => .array .int
  | 5 => .array .int
  | 6 => .array .int
  | 7 => .array .long
  | 8 => .array .int
  | 9 => .array .int
  | 10 => .array .int
  | 11 => .array .int
  | 12 => .array .int
  | 13 => .int
  | 14 => .int
  | _ => .int
abbrev wsX20 : List Cond := u_ws RX2 TX2 16
theorem nmX2 : ∀ a, a < 16 → ∀ b, b < 16 → a ≠ b → (TX2 a).2.1 ≠ (TX2 b).2.1 := by decide +kernel
theorem tyX2_ok : ∀ k, k < 16 → parseFieldDescriptor (TX2 k).2.2.1 = some (tyX2 k) := by decide +kernel
abbrev cX2_init : ByteArray := prog_4_method_1_code
def yX2_init : MethodName := ⟨RX2, "<init>", "()V"⟩
abbrev cX2_clear : ByteArray := prog_4_method_2_code
def yX2_clear : MethodName := ⟨RX2, "clear", "()V"⟩
abbrev cX2_copyFrom : ByteArray := prog_4_method_3_code
def yX2_copyFrom : MethodName := ⟨RX2, "copyFrom", "(LOffThenOn$House;)V"⟩
abbrev cX2_addThing : ByteArray := prog_4_method_4_code
def yX2_addThing : MethodName := ⟨RX2, "addThing", "(JIII)V"⟩
abbrev cX2_addFault : ByteArray := prog_4_method_5_code
def yX2_addFault : MethodName := ⟨RX2, "addFault", "(JIIII)V"⟩
abbrev cX2_addCure : ByteArray := prog_4_method_6_code
def yX2_addCure : MethodName := ⟨RX2, "addCure", "(III)V"⟩
abbrev cX2_cureOf : ByteArray := prog_4_method_7_code
def yX2_cureOf : MethodName := ⟨RX2, "cureOf", "(II)I"⟩
abbrev cX2_findThing : ByteArray := prog_4_method_8_code
def yX2_findThing : MethodName := ⟨RX2, "findThing", "(J)I"⟩
abbrev cX2_findFault : ByteArray := prog_4_method_9_code
def yX2_findFault : MethodName := ⟨RX2, "findFault", "(J)I"⟩
abbrev cX2_minutesTillUp : ByteArray := prog_4_method_10_code
def yX2_minutesTillUp : MethodName := ⟨RX2, "minutesTillUp", "(I)I"⟩
abbrev cX2_faultsShowing : ByteArray := prog_4_method_11_code
def yX2_faultsShowing : MethodName := ⟨RX2, "faultsShowing", "(II)I"⟩
abbrev cX2_lookingLike : ByteArray := prog_4_method_12_code
def yX2_lookingLike : MethodName := ⟨RX2, "lookingLike", "(I)I"⟩
abbrev cX2_mostLeft : ByteArray := prog_4_method_13_code
def yX2_mostLeft : MethodName := ⟨RX2, "mostLeft", "(II)I"⟩
def RX3 : String := "OffThenOn$HouseReader"
def TX3 : u_T := fun k => match k with
  | 0 => ("OffThenOn$HouseReader", "reader", "LOffThenOn$Reader;", true)
  | 1 => ("OffThenOn$HouseReader", "draft", "LOffThenOn$House;", true)
  | _ => ("OffThenOn$HouseReader", "lines", "I", false)
def tyX3 : Nat → FieldType := fun k => match k with
  | 0 => .object "OffThenOn$Reader"
  | 1 => .object "OffThenOn$House"
  | _ => .int
abbrev wsX30 : List Cond := u_ws RX3 TX3 3
theorem nmX3 : ∀ a, a < 3 → ∀ b, b < 3 → a ≠ b → (TX3 a).2.1 ≠ (TX3 b).2.1 := by decide +kernel
theorem tyX3_ok : ∀ k, k < 3 → parseFieldDescriptor (TX3 k).2.2.1 = some (tyX3 k) := by decide +kernel
abbrev cX3_init : ByteArray := prog_5_method_1_code
def yX3_init : MethodName := ⟨RX3, "<init>", "()V"⟩
abbrev cX3_readHouse : ByteArray := prog_5_method_2_code
def yX3_readHouse : MethodName := ⟨RX3, "readHouse", "(LOffThenOn$Bytes;)Z"⟩
abbrev cX3_readLine : ByteArray := prog_5_method_3_code
def yX3_readLine : MethodName := ⟨RX3, "readLine", "()Z"⟩
abbrev cX3_readThing : ByteArray := prog_5_method_4_code
def yX3_readThing : MethodName := ⟨RX3, "readThing", "()Z"⟩
abbrev cX3_readFault : ByteArray := prog_5_method_5_code
def yX3_readFault : MethodName := ⟨RX3, "readFault", "()Z"⟩
abbrev cX3_readCure : ByteArray := prog_5_method_6_code
def yX3_readCure : MethodName := ⟨RX3, "readCure", "()Z"⟩
abbrev cX3_deedHere : ByteArray := prog_5_method_7_code
def yX3_deedHere : MethodName := ⟨RX3, "deedHere", "()I"⟩
abbrev cX3_isNewName : ByteArray := prog_5_method_8_code
def yX3_isNewName : MethodName := ⟨RX3, "isNewName", "()Z"⟩
def RX4 : String := "OffThenOn$LogReader"
def TX4 : u_T := fun k => match k with
  | 0 => ("OffThenOn$LogReader", "reader", "LOffThenOn$Reader;", true)
  | 1 => ("OffThenOn$LogReader", "verbs", "[I", true)
  | 2 => ("OffThenOn$LogReader", "whos", "[I", true)
  | 3 => ("OffThenOn$LogReader", "numbers", "[I", true)
  | 4 => ("OffThenOn$LogReader", "lines", "I", false)
  | _ => ("OffThenOn$LogReader", "why", "I", false)
def tyX4 : Nat → FieldType := fun k => match k with
  | 0 => .object "OffThenOn$Reader"
  | 1 => .array .int
  | 2 => .array .int
  | 3 => .array .int
  | 4 => .int
  | _ => .int
abbrev wsX40 : List Cond := u_ws RX4 TX4 6
theorem nmX4 : ∀ a, a < 6 → ∀ b, b < 6 → a ≠ b → (TX4 a).2.1 ≠ (TX4 b).2.1 := by decide +kernel
theorem tyX4_ok : ∀ k, k < 6 → parseFieldDescriptor (TX4 k).2.2.1 = some (tyX4 k) := by decide +kernel
abbrev cX4_init : ByteArray := prog_6_method_1_code
def yX4_init : MethodName := ⟨RX4, "<init>", "()V"⟩
abbrev cX4_readLog : ByteArray := prog_6_method_2_code
def yX4_readLog : MethodName := ⟨RX4, "readLog", "(LOffThenOn$Bytes;LOffThenOn$House;)Z"⟩
abbrev cX4_readLine : ByteArray := prog_6_method_3_code
def yX4_readLine : MethodName := ⟨RX4, "readLine", "(LOffThenOn$House;)Z"⟩
abbrev cX4_readAct : ByteArray := prog_6_method_4_code
def yX4_readAct : MethodName := ⟨RX4, "readAct", "(LOffThenOn$House;)Z"⟩
abbrev cX4_readEvent : ByteArray := prog_6_method_5_code
def yX4_readEvent : MethodName := ⟨RX4, "readEvent", "(LOffThenOn$House;)Z"⟩
abbrev cX4_keepLine : ByteArray := prog_6_method_6_code
def yX4_keepLine : MethodName := ⟨RX4, "keepLine", "(III)Z"⟩
abbrev cX4_live : ByteArray := prog_6_method_7_code
def yX4_live : MethodName := ⟨RX4, "live", "(LOffThenOn$House;LOffThenOn$State;)I"⟩
abbrev cX4_liveLine : ByteArray := prog_6_method_8_code
def yX4_liveLine : MethodName := ⟨RX4, "liveLine", "(LOffThenOn$House;LOffThenOn$State;I)I"⟩
abbrev cX4_whyOf : ByteArray := prog_6_method_9_code
def yX4_whyOf : MethodName := ⟨RX4, "whyOf", "(II)I"⟩
def RX5 : String := "OffThenOn$Planner"
def TX5 : u_T := fun k => match k with
  | 0 => ("OffThenOn$Planner", "best", "[I", true)
  | 1 => ("OffThenOn$Planner", "bestSize", "I", false)
  | 2 => ("OffThenOn$Planner", "fewest", "I", false)
  | 3 => ("OffThenOn$Planner", "whole", "I", false)
  | 4 => ("OffThenOn$Planner", "row", "[I", true)
  | 5 => ("OffThenOn$Planner", "weights", "[I", true)
  | _ => ("OffThenOn$Planner", "costs", "[I", true)
def tyX5 : Nat → FieldType := fun k => match k with
  | 0 => .array .int
  | 1 => .int
  | 2 => .int
  | 3 => .int
  | 4 => .array .int
  | 5 => .array .int
  | _ => .array .int
abbrev wsX50 : List Cond := u_ws RX5 TX5 7
theorem nmX5 : ∀ a, a < 7 → ∀ b, b < 7 → a ≠ b → (TX5 a).2.1 ≠ (TX5 b).2.1 := by decide +kernel
theorem tyX5_ok : ∀ k, k < 7 → parseFieldDescriptor (TX5 k).2.2.1 = some (tyX5 k) := by decide +kernel
abbrev cX5_init : ByteArray := prog_7_method_1_code
def yX5_init : MethodName := ⟨RX5, "<init>", "()V"⟩
abbrev cX5_makePlan : ByteArray := prog_7_method_2_code
def yX5_makePlan : MethodName := ⟨RX5, "makePlan", "(LOffThenOn$House;II)V"⟩
abbrev cX5_tryRows : ByteArray := prog_7_method_3_code
def yX5_tryRows : MethodName := ⟨RX5, "tryRows", "(LOffThenOn$House;III)V"⟩
abbrev cX5_tryDeed : ByteArray := prog_7_method_4_code
def yX5_tryDeed : MethodName := ⟨RX5, "tryDeed", "(LOffThenOn$House;IIII)V"⟩
abbrev cX5_weightBehind : ByteArray := prog_7_method_5_code
def yX5_weightBehind : MethodName := ⟨RX5, "weightBehind", "(I)I"⟩
abbrev cX5_weighDeed : ByteArray := prog_7_method_6_code
def yX5_weighDeed : MethodName := ⟨RX5, "weighDeed", "(LOffThenOn$House;II)V"⟩
abbrev cX5_keepBetter : ByteArray := prog_7_method_7_code
def yX5_keepBetter : MethodName := ⟨RX5, "keepBetter", "(II)V"⟩
def RX6 : String := "OffThenOn$Reader"
def TX6 : u_T := fun k => match k with
  | 0 => ("OffThenOn$Reader", "text", "LOffThenOn$Bytes;", false)
  | 1 => ("OffThenOn$Reader", "mostBytes", "I", false)
  | 2 => ("OffThenOn$Reader", "sort", "I", false)
  | 3 => ("OffThenOn$Reader", "place", "I", false)
  | 4 => ("OffThenOn$Reader", "next", "I", false)
  | 5 => ("OffThenOn$Reader", "letters", "J", false)
  | 6 => ("OffThenOn$Reader", "keyword", "I", false)
  | 7 => ("OffThenOn$Reader", "value", "I", false)
  | 8 => ("OffThenOn$Reader", "wrong", "I", false)
  | _ => ("OffThenOn$Reader", "wrongPlace", "I", false)
def tyX6 : Nat → FieldType := fun k => match k with
  | 0 => .object "OffThenOn$Bytes"
  | 1 => .int
  | 2 => .int
  | 3 => .int
  | 4 => .int
  | 5 => .long
  | 6 => .int
  | 7 => .int
  | 8 => .int
  | _ => .int
abbrev wsX60 : List Cond := u_ws RX6 TX6 10
theorem nmX6 : ∀ a, a < 10 → ∀ b, b < 10 → a ≠ b → (TX6 a).2.1 ≠ (TX6 b).2.1 := by decide +kernel
theorem tyX6_ok : ∀ k, k < 10 → parseFieldDescriptor (TX6 k).2.2.1 = some (tyX6 k) := by decide +kernel
abbrev cX6_init : ByteArray := prog_8_method_1_code
def yX6_init : MethodName := ⟨RX6, "<init>", "()V"⟩
abbrev cX6_start : ByteArray := prog_8_method_2_code
def yX6_start : MethodName := ⟨RX6, "start", "(LOffThenOn$Bytes;I)V"⟩
abbrev cX6_step : ByteArray := prog_8_method_3_code
def yX6_step : MethodName := ⟨RX6, "step", "()V"⟩
abbrev cX6_readRun : ByteArray := prog_8_method_4_code
def yX6_readRun : MethodName := ⟨RX6, "readRun", "(I)V"⟩
abbrev cX6_keywordOf : ByteArray := prog_8_method_5_code
def yX6_keywordOf : MethodName := ⟨RX6, "keywordOf", "(J)I"⟩
abbrev cX6_isBlank : ByteArray := prog_8_method_6_code
def yX6_isBlank : MethodName := ⟨RX6, "isBlank", "(I)Z"⟩
abbrev cX6_isLetter : ByteArray := prog_8_method_7_code
def yX6_isLetter : MethodName := ⟨RX6, "isLetter", "(I)Z"⟩
abbrev cX6_isDigit : ByteArray := prog_8_method_8_code
def yX6_isDigit : MethodName := ⟨RX6, "isDigit", "(I)Z"⟩
abbrev cX6_isSign : ByteArray := prog_8_method_9_code
def yX6_isSign : MethodName := ⟨RX6, "isSign", "(I)Z"⟩
abbrev cX6_isSignNow : ByteArray := prog_8_method_10_code
def yX6_isSignNow : MethodName := ⟨RX6, "isSignNow", "(I)Z"⟩
abbrev cX6_refuse : ByteArray := prog_8_method_11_code
def yX6_refuse : MethodName := ⟨RX6, "refuse", "(I)Z"⟩
abbrev cX6_takeSign : ByteArray := prog_8_method_12_code
def yX6_takeSign : MethodName := ⟨RX6, "takeSign", "(I)Z"⟩
abbrev cX6_takeNumber : ByteArray := prog_8_method_13_code
def yX6_takeNumber : MethodName := ⟨RX6, "takeNumber", "(II)I"⟩
abbrev cX6_isName : ByteArray := prog_8_method_14_code
def yX6_isName : MethodName := ⟨RX6, "isName", "()Z"⟩
abbrev cX6_takeThing : ByteArray := prog_8_method_15_code
def yX6_takeThing : MethodName := ⟨RX6, "takeThing", "(LOffThenOn$House;)I"⟩
abbrev cX6_takeFault : ByteArray := prog_8_method_16_code
def yX6_takeFault : MethodName := ⟨RX6, "takeFault", "(LOffThenOn$House;)I"⟩
def RX7 : String := "OffThenOn$Sentence"
def TX7 : u_T := fun k => match k with
  | 0 => ("OffThenOn$Sentence", "words", "[I", true)
  | 1 => ("OffThenOn$Sentence", "signs", "[I", true)
  | 2 => ("OffThenOn$Sentence", "numbers", "[I", true)
  | 3 => ("OffThenOn$Sentence", "stack", "[I", true)
  | 4 => ("OffThenOn$Sentence", "steps", "I", false)
  | _ => ("OffThenOn$Sentence", "ones", "I", false)
def tyX7 : Nat → FieldType := fun k => match k with
  | 0 => .array .int
  | 1 => .array .int
  | 2 => .array .int
  | 3 => .array .int
  | 4 => .int
  | _ => .int
abbrev wsX70 : List Cond := u_ws RX7 TX7 6
theorem nmX7 : ∀ a, a < 6 → ∀ b, b < 6 → a ≠ b → (TX7 a).2.1 ≠ (TX7 b).2.1 := by decide +kernel
theorem tyX7_ok : ∀ k, k < 6 → parseFieldDescriptor (TX7 k).2.2.1 = some (tyX7 k) := by decide +kernel
abbrev cX7_init : ByteArray := prog_9_method_1_code
def yX7_init : MethodName := ⟨RX7, "<init>", "()V"⟩
abbrev cX7_clear : ByteArray := prog_9_method_2_code
def yX7_clear : MethodName := ⟨RX7, "clear", "()V"⟩
abbrev cX7_copyFrom : ByteArray := prog_9_method_3_code
def yX7_copyFrom : MethodName := ⟨RX7, "copyFrom", "(LOffThenOn$Sentence;)V"⟩
abbrev cX7_addStep : ByteArray := prog_9_method_4_code
def yX7_addStep : MethodName := ⟨RX7, "addStep", "(III)Z"⟩
abbrev cX7_thingsOf : ByteArray := prog_9_method_5_code
def yX7_thingsOf : MethodName := ⟨RX7, "thingsOf", "(LOffThenOn$House;LOffThenOn$State;)I"⟩
abbrev cX7_thingsOfStep : ByteArray := prog_9_method_6_code
def yX7_thingsOfStep : MethodName := ⟨RX7, "thingsOfStep", "(LOffThenOn$House;LOffThenOn$State;I)I"⟩
abbrev cX7_thingsCompared : ByteArray := prog_9_method_7_code
def yX7_thingsCompared : MethodName := ⟨RX7, "thingsCompared", "(LOffThenOn$House;LOffThenOn$State;I)I"⟩
abbrev cX7_valueOf : ByteArray := prog_9_method_8_code
def yX7_valueOf : MethodName := ⟨RX7, "valueOf", "(LOffThenOn$House;LOffThenOn$State;II)I"⟩
abbrev cX7_holds : ByteArray := prog_9_method_9_code
def yX7_holds : MethodName := ⟨RX7, "holds", "(III)Z"⟩
def RX8 : String := "OffThenOn$SentenceReader"
def TX8 : u_T := fun k => match k with
  | 0 => ("OffThenOn$SentenceReader", "reader", "LOffThenOn$Reader;", true)
  | _ => ("OffThenOn$SentenceReader", "draft", "LOffThenOn$Sentence;", true)
def tyX8 : Nat → FieldType := fun k => match k with
  | 0 => .object "OffThenOn$Reader"
  | _ => .object "OffThenOn$Sentence"
abbrev wsX80 : List Cond := u_ws RX8 TX8 2
theorem nmX8 : ∀ a, a < 2 → ∀ b, b < 2 → a ≠ b → (TX8 a).2.1 ≠ (TX8 b).2.1 := by decide +kernel
theorem tyX8_ok : ∀ k, k < 2 → parseFieldDescriptor (TX8 k).2.2.1 = some (tyX8 k) := by decide +kernel
abbrev cX8_init : ByteArray := prog_10_method_1_code
def yX8_init : MethodName := ⟨RX8, "<init>", "()V"⟩
abbrev cX8_readSentence : ByteArray := prog_10_method_2_code
def yX8_readSentence : MethodName := ⟨RX8, "readSentence", "(LOffThenOn$Bytes;LOffThenOn$House;)Z"⟩
abbrev cX8_readCond : ByteArray := prog_10_method_3_code
def yX8_readCond : MethodName := ⟨RX8, "readCond", "(LOffThenOn$House;I)Z"⟩
abbrev cX8_readAll : ByteArray := prog_10_method_4_code
def yX8_readAll : MethodName := ⟨RX8, "readAll", "(LOffThenOn$House;I)Z"⟩
abbrev cX8_readOne : ByteArray := prog_10_method_5_code
def yX8_readOne : MethodName := ⟨RX8, "readOne", "(LOffThenOn$House;I)Z"⟩
abbrev cX8_readNot : ByteArray := prog_10_method_6_code
def yX8_readNot : MethodName := ⟨RX8, "readNot", "(LOffThenOn$House;I)Z"⟩
abbrev cX8_isOneHere : ByteArray := prog_10_method_7_code
def yX8_isOneHere : MethodName := ⟨RX8, "isOneHere", "()Z"⟩
abbrev cX8_readCompared : ByteArray := prog_10_method_8_code
def yX8_readCompared : MethodName := ⟨RX8, "readCompared", "(I)Z"⟩
abbrev cX8_addNumbered : ByteArray := prog_10_method_9_code
def yX8_addNumbered : MethodName := ⟨RX8, "addNumbered", "(III)Z"⟩
def RX9 : String := "OffThenOn$State"
def TX9 : u_T := fun k => match k with
  | 0 => ("OffThenOn$State", "modes", "[I", true)
  | 1 => ("OffThenOn$State", "clocks", "[I", true)
  | 2 => ("OffThenOn$State", "downs", "[I", true)
  | 3 => ("OffThenOn$State", "ages", "[I", true)
  | 4 => ("OffThenOn$State", "struck", "[I", true)
  | 5 => ("OffThenOn$State", "healed", "[I", true)
  | 6 => ("OffThenOn$State", "numbered", "I", false)
  | 7 => ("OffThenOn$State", "there", "I", false)
  | 8 => ("OffThenOn$State", "minute", "I", false)
  | 9 => ("OffThenOn$State", "deedsDone", "I", false)
  | 10 => ("OffThenOn$State", "goneByDeeds", "I", false)
  | 11 => ("OffThenOn$State", "goneByThemselves", "I", false)
  | _ => ("OffThenOn$State", "seed", "I", false)
def tyX9 : Nat → FieldType := fun k => match k with
  | 0 => .array .int
  | 1 => .array .int
  | 2 => .array .int
  | 3 => .array .int
  | 4 => .array .int
  | 5 => .array .int
  | 6 => .int
  | 7 => .int
  | 8 => .int
  | 9 => .int
  | 10 => .int
  | 11 => .int
  | _ => .int
abbrev wsX90 : List Cond := u_ws RX9 TX9 13
theorem nmX9 : ∀ a, a < 13 → ∀ b, b < 13 → a ≠ b → (TX9 a).2.1 ≠ (TX9 b).2.1 := by decide +kernel
theorem tyX9_ok : ∀ k, k < 13 → parseFieldDescriptor (TX9 k).2.2.1 = some (tyX9 k) := by decide +kernel
abbrev cX9_init : ByteArray := prog_11_method_1_code
def yX9_init : MethodName := ⟨RX9, "<init>", "()V"⟩
abbrev cX9_makeNew : ByteArray := prog_11_method_2_code
def yX9_makeNew : MethodName := ⟨RX9, "makeNew", "()V"⟩
abbrev cX9_copyFrom : ByteArray := prog_11_method_3_code
def yX9_copyFrom : MethodName := ⟨RX9, "copyFrom", "(LOffThenOn$State;)V"⟩
abbrev cX9_lampOf : ByteArray := prog_11_method_4_code
def yX9_lampOf : MethodName := ⟨RX9, "lampOf", "(LOffThenOn$House;II)I"⟩
abbrev cX9_working : ByteArray := prog_11_method_5_code
def yX9_working : MethodName := ⟨RX9, "working", "(LOffThenOn$House;)I"⟩
abbrev cX9_thingsIn : ByteArray := prog_11_method_6_code
def yX9_thingsIn : MethodName := ⟨RX9, "thingsIn", "(LOffThenOn$House;I)I"⟩
abbrev cX9_switchOff : ByteArray := prog_11_method_7_code
def yX9_switchOff : MethodName := ⟨RX9, "switchOff", "(LOffThenOn$House;I)I"⟩
abbrev cX9_switchOn : ByteArray := prog_11_method_8_code
def yX9_switchOn : MethodName := ⟨RX9, "switchOn", "(LOffThenOn$House;I)I"⟩
abbrev cX9_pullCable : ByteArray := prog_11_method_9_code
def yX9_pullCable : MethodName := ⟨RX9, "pullCable", "(LOffThenOn$House;I)I"⟩
abbrev cX9_pushPin : ByteArray := prog_11_method_10_code
def yX9_pushPin : MethodName := ⟨RX9, "pushPin", "(LOffThenOn$House;I)I"⟩
abbrev cX9_letStrike : ByteArray := prog_11_method_11_code
def yX9_letStrike : MethodName := ⟨RX9, "letStrike", "(I)I"⟩
abbrev cX9_cutOff : ByteArray := prog_11_method_12_code
def yX9_cutOff : MethodName := ⟨RX9, "cutOff", "(LOffThenOn$House;I)V"⟩
abbrev cX9_startBoot : ByteArray := prog_11_method_13_code
def yX9_startBoot : MethodName := ⟨RX9, "startBoot", "(LOffThenOn$House;I)V"⟩
abbrev cX9_doDeed : ByteArray := prog_11_method_14_code
def yX9_doDeed : MethodName := ⟨RX9, "doDeed", "(LOffThenOn$House;II)V"⟩
abbrev cX9_takeAway : ByteArray := prog_11_method_15_code
def yX9_takeAway : MethodName := ⟨RX9, "takeAway", "(I)V"⟩
abbrev cX9_draw : ByteArray := prog_11_method_16_code
def yX9_draw : MethodName := ⟨RX9, "draw", "(I)I"⟩
abbrev cX9_passMinutes : ByteArray := prog_11_method_17_code
def yX9_passMinutes : MethodName := ⟨RX9, "passMinutes", "(LOffThenOn$House;I)I"⟩
abbrev cX9_passMinute : ByteArray := prog_11_method_18_code
def yX9_passMinute : MethodName := ⟨RX9, "passMinute", "(LOffThenOn$House;)V"⟩
abbrev cX9_comeUp : ByteArray := prog_11_method_19_code
def yX9_comeUp : MethodName := ⟨RX9, "comeUp", "(LOffThenOn$House;I)V"⟩
abbrev cX9_drawMinutes : ByteArray := prog_11_method_20_code
def yX9_drawMinutes : MethodName := ⟨RX9, "drawMinutes", "(LOffThenOn$House;I)I"⟩
def RX10 : String := "OffThenOn$World"
def TX10 : u_T := fun k => match k with
  | 0 => ("OffThenOn$World", "house", "LOffThenOn$House;", true)
  | 1 => ("OffThenOn$World", "state", "LOffThenOn$State;", true)
  | 2 => ("OffThenOn$World", "sentence", "LOffThenOn$Sentence;", true)
  | _ => ("OffThenOn$World", "holds", "Z", false)
def tyX10 : Nat → FieldType := fun k => match k with
  | 0 => .object "OffThenOn$House"
  | 1 => .object "OffThenOn$State"
  | 2 => .object "OffThenOn$Sentence"
  | _ => .boolean
abbrev wsX100 : List Cond := u_ws RX10 TX10 4
theorem nmX10 : ∀ a, a < 4 → ∀ b, b < 4 → a ≠ b → (TX10 a).2.1 ≠ (TX10 b).2.1 := by decide +kernel
theorem tyX10_ok : ∀ k, k < 4 → parseFieldDescriptor (TX10 k).2.2.1 = some (tyX10 k) := by decide +kernel
abbrev cX10_init : ByteArray := prog_12_method_1_code
def yX10_init : MethodName := ⟨RX10, "<init>", "()V"⟩
abbrev cX10_copyFrom : ByteArray := prog_12_method_2_code
def yX10_copyFrom : MethodName := ⟨RX10, "copyFrom", "(LOffThenOn$World;)V"⟩
def RX11 : String := "OffThenOn"
def TX11 : u_T := fun k => match k with
  | 0 => ("OffThenOn", "tape", "LOffThenOn$Bytes;", true)
  | 1 => ("OffThenOn", "world", "LOffThenOn$World;", true)
  | 2 => ("OffThenOn", "kept", "[LOffThenOn$World;", true)
  | 3 => ("OffThenOn", "history", "LOffThenOn$History;", true)
  | 4 => ("OffThenOn", "scratch", "LOffThenOn$State;", true)
  | 5 => ("OffThenOn", "houseReader", "LOffThenOn$HouseReader;", true)
  | 6 => ("OffThenOn", "logReader", "LOffThenOn$LogReader;", true)
  | 7 => ("OffThenOn", "sentenceReader", "LOffThenOn$SentenceReader;", true)
  | 8 => ("OffThenOn", "planner", "LOffThenOn$Planner;", true)
  | 9 => ("OffThenOn", "told", "LOffThenOn$Bytes;", true)
  | 10 => ("OffThenOn", "likelyOdds", "[I", true)
  | 11 => ("OffThenOn", "judged", "[I", true)
  | 12 => ("OffThenOn", "likelyFaults", "I", false)
  | 13 => ("OffThenOn", "textFault", "I", false)
  | 14 => ("OffThenOn", "ways", "I", false)
  | 15 => ("OffThenOn", "leftByLook", "I", false)
  | _ => ("OffThenOn", "hasJudged", "Z", false)
def tyX11 : Nat → FieldType := fun k => match k with
  | 0 => .object "OffThenOn$Bytes"
  | 1 => .object "OffThenOn$World"
  | 2 => .array (.object "OffThenOn$World")
  | 3 => .object "OffThenOn$History"
  | 4 => .object "OffThenOn$State"
  | 5 => .object "OffThenOn$HouseReader"
  | 6 => .object "OffThenOn$LogReader"
  | 7 => .object "OffThenOn$SentenceReader"
  | 8 => .object "OffThenOn$Planner"
  | 9 => .object "OffThenOn$Bytes"
  | 10 => .array .int
  | 11 => .array .int
  | 12 => .int
  | 13 => .int
  | 14 => .int
  | 15 => .int
  | _ => .boolean
abbrev wsX110 : List Cond := u_ws RX11 TX11 17
theorem nmX11 : ∀ a, a < 17 → ∀ b, b < 17 → a ≠ b → (TX11 a).2.1 ≠ (TX11 b).2.1 := by decide +kernel
theorem tyX11_ok : ∀ k, k < 17 → parseFieldDescriptor (TX11 k).2.2.1 = some (tyX11 k) := by decide +kernel
abbrev cX11_init : ByteArray := prog_1_method_1_code
def yX11_init : MethodName := ⟨RX11, "<init>", "()V"⟩
abbrev cX11_feed : ByteArray := prog_1_method_2_code
def yX11_feed : MethodName := ⟨RX11, "feed", "(IIIII)I"⟩
abbrev cX11_end : ByteArray := prog_1_method_3_code
def yX11_end : MethodName := ⟨RX11, "end", "(I)Z"⟩
abbrev cX11_house : ByteArray := prog_1_method_4_code
def yX11_house : MethodName := ⟨RX11, "house", "()I"⟩
abbrev cX11_fault : ByteArray := prog_1_method_5_code
def yX11_fault : MethodName := ⟨RX11, "fault", "()I"⟩
abbrev cX11_thing : ByteArray := prog_1_method_6_code
def yX11_thing : MethodName := ⟨RX11, "thing", "(II)I"⟩
abbrev cX11_trouble : ByteArray := prog_1_method_7_code
def yX11_trouble : MethodName := ⟨RX11, "trouble", "(II)I"⟩
abbrev cX11_cures : ByteArray := prog_1_method_8_code
def yX11_cures : MethodName := ⟨RX11, "cures", "(II)I"⟩
abbrev cX11_now : ByteArray := prog_1_method_9_code
def yX11_now : MethodName := ⟨RX11, "now", "(I)I"⟩
abbrev cX11_off : ByteArray := prog_1_method_10_code
def yX11_off : MethodName := ⟨RX11, "off", "(I)I"⟩
abbrev cX11_on : ByteArray := prog_1_method_11_code
def yX11_on : MethodName := ⟨RX11, "on", "(II)I"⟩
abbrev cX11_cable : ByteArray := prog_1_method_12_code
def yX11_cable : MethodName := ⟨RX11, "cable", "(II)I"⟩
abbrev cX11_pin : ByteArray := prog_1_method_13_code
def yX11_pin : MethodName := ⟨RX11, "pin", "(II)I"⟩
abbrev cX11_strike : ByteArray := prog_1_method_14_code
def yX11_strike : MethodName := ⟨RX11, "strike", "(I)I"⟩
abbrev cX11_minutes : ByteArray := prog_1_method_15_code
def yX11_minutes : MethodName := ⟨RX11, "minutes", "(I)I"⟩
abbrev cX11_undo : ByteArray := prog_1_method_16_code
def yX11_undo : MethodName := ⟨RX11, "undo", "()I"⟩
abbrev cX11_what : ByteArray := prog_1_method_17_code
def yX11_what : MethodName := ⟨RX11, "what", "()I"⟩
abbrev cX11_likely : ByteArray := prog_1_method_18_code
def yX11_likely : MethodName := ⟨RX11, "likely", "(II)I"⟩
abbrev cX11_plan : ByteArray := prog_1_method_19_code
def yX11_plan : MethodName := ⟨RX11, "plan", "(III)I"⟩
abbrev cX11_planAt : ByteArray := prog_1_method_20_code
def yX11_planAt : MethodName := ⟨RX11, "planAt", "(I)I"⟩
abbrev cX11_ready : ByteArray := prog_1_method_21_code
def yX11_ready : MethodName := ⟨RX11, "ready", "(I)I"⟩
abbrev cX11_starts : ByteArray := prog_1_method_22_code
def yX11_starts : MethodName := ⟨RX11, "starts", "(I)I"⟩
abbrev cX11_helped : ByteArray := prog_1_method_23_code
def yX11_helped : MethodName := ⟨RX11, "helped", "()I"⟩
abbrev cX11_lots : ByteArray := prog_1_method_24_code
def yX11_lots : MethodName := ⟨RX11, "lots", "()I"⟩
abbrev cX11_alike : ByteArray := prog_1_method_25_code
def yX11_alike : MethodName := ⟨RX11, "alike", "(I)I"⟩
abbrev cX11_kinds : ByteArray := prog_1_method_26_code
def yX11_kinds : MethodName := ⟨RX11, "kinds", "()I"⟩
abbrev cX11_look : ByteArray := prog_1_method_27_code
def yX11_look : MethodName := ⟨RX11, "look", "(I)I"⟩
abbrev cX11_left : ByteArray := prog_1_method_28_code
def yX11_left : MethodName := ⟨RX11, "left", "()I"⟩
abbrev cX11_fits : ByteArray := prog_1_method_29_code
def yX11_fits : MethodName := ⟨RX11, "fits", "(I)I"⟩
abbrev cX11_heals : ByteArray := prog_1_method_30_code
def yX11_heals : MethodName := ⟨RX11, "heals", "(I)I"⟩
abbrev cX11_worksIn : ByteArray := prog_1_method_31_code
def yX11_worksIn : MethodName := ⟨RX11, "worksIn", "(I)I"⟩
abbrev cX11_tell : ByteArray := prog_1_method_32_code
def yX11_tell : MethodName := ⟨RX11, "tell", "(I)I"⟩
abbrev cX11_byteAt : ByteArray := prog_1_method_33_code
def yX11_byteAt : MethodName := ⟨RX11, "byteAt", "(I)I"⟩
abbrev cX11_drawn : ByteArray := prog_1_method_34_code
def yX11_drawn : MethodName := ⟨RX11, "drawn", "(II)I"⟩
abbrev cX11_odds : ByteArray := prog_1_method_35_code
def yX11_odds : MethodName := ⟨RX11, "odds", "(III)I"⟩
abbrev cX11_log : ByteArray := prog_1_method_36_code
def yX11_log : MethodName := ⟨RX11, "log", "(I)I"⟩
abbrev cX11_logged : ByteArray := prog_1_method_37_code
def yX11_logged : MethodName := ⟨RX11, "logged", "(I)I"⟩
abbrev cX11_sentence : ByteArray := prog_1_method_38_code
def yX11_sentence : MethodName := ⟨RX11, "sentence", "()I"⟩
abbrev cX11_said : ByteArray := prog_1_method_39_code
def yX11_said : MethodName := ⟨RX11, "said", "(I)I"⟩
abbrev cX11_image : ByteArray := prog_1_method_40_code
def yX11_image : MethodName := ⟨RX11, "image", "(I)Z"⟩
abbrev cX11_restore : ByteArray := prog_1_method_41_code
def yX11_restore : MethodName := ⟨RX11, "restore", "(I)Z"⟩
abbrev cX11_count : ByteArray := prog_1_method_42_code
def yX11_count : MethodName := ⟨RX11, "count", "(I)I"⟩
abbrev cX11_isThing : ByteArray := prog_1_method_43_code
def yX11_isThing : MethodName := ⟨RX11, "isThing", "(I)Z"⟩
abbrev cX11_isFault : ByteArray := prog_1_method_44_code
def yX11_isFault : MethodName := ⟨RX11, "isFault", "(I)Z"⟩
abbrev cX11_takeText : ByteArray := prog_1_method_45_code
def yX11_takeText : MethodName := ⟨RX11, "takeText", "(LOffThenOn$Reader;)V"⟩
abbrev cX11_settle : ByteArray := prog_1_method_46_code
def yX11_settle : MethodName := ⟨RX11, "settle", "(I)I"⟩
abbrev cX11_faultsByLamps : ByteArray := prog_1_method_47_code
def yX11_faultsByLamps : MethodName := ⟨RX11, "faultsByLamps", "()I"⟩
abbrev cX11_eveningsWithDeed : ByteArray := prog_1_method_48_code
def yX11_eveningsWithDeed : MethodName := ⟨RX11, "eveningsWithDeed", "()I"⟩
abbrev cX11_countWays : ByteArray := prog_1_method_49_code
def yX11_countWays : MethodName := ⟨RX11, "countWays", "(II)I"⟩
abbrev cX11_minutesOfWay : ByteArray := prog_1_method_50_code
def yX11_minutesOfWay : MethodName := ⟨RX11, "minutesOfWay", "(II)I"⟩
abbrev cX11_faultsByMinutes : ByteArray := prog_1_method_51_code
def yX11_faultsByMinutes : MethodName := ⟨RX11, "faultsByMinutes", "(I)I"⟩
abbrev cX11_shownFault : ByteArray := prog_1_method_52_code
def yX11_shownFault : MethodName := ⟨RX11, "shownFault", "(I)I"⟩
abbrev cX11_bit : ByteArray := prog_1_method_53_code
def yX11_bit : MethodName := ⟨RX11, "bit", "(II)I"⟩
abbrev cX11_leastTerm : ByteArray := prog_1_method_54_code
def yX11_leastTerm : MethodName := ⟨RX11, "leastTerm", "(III)I"⟩
def RX12 : String := "OffThenOnModel"
def TX12 : u_T := fun k => match k with
  | 0 => ("OffThenOnModel", "thrown", "I", false)
  | 1 => ("OffThenOnModel", "tape", "[I", true)
  | 2 => ("OffThenOnModel", "taped", "I", false)
  | 3 => ("OffThenOnModel", "size", "I", false)
  | 4 => ("OffThenOnModel", "limit", "I", false)
  | 5 => ("OffThenOnModel", "to", "I", false)
  | 6 => ("OffThenOnModel", "from", "I", false)
  | 7 => ("OffThenOnModel", "kind", "I", false)
  | 8 => ("OffThenOnModel", "number", "I", false)
  | 9 => ("OffThenOnModel", "sign", "I", false)
  | 10 => ("OffThenOnModel", "fault", "I", false)
  | 11 => ("OffThenOnModel", "place", "I", false)
  | 12 => ("OffThenOnModel", "word", "J", false)
  | 13 => ("OffThenOnModel", "told", "I", false)
  | 14 => ("OffThenOnModel", "now", "[I", true)
  | 15 => ("OffThenOnModel", "read", "[I", true)
  | 16 => ("OffThenOnModel", "kept", "[I", true)
  | 17 => ("OffThenOnModel", "snaps", "[I", true)
  | 18 => ("OffThenOnModel", "aside", "[I", true)
  | 19 => ("OffThenOnModel", "name", "[J", true)
  | 20 => ("OffThenOnModel", "readName", "[J", true)
  | 21 => ("OffThenOnModel", "keptName", "[J", true)
  | 22 => ("OffThenOnModel", "isKept", "[Z", true)
  | 23 => ("OffThenOnModel", "snapMany", "I", false)
  | 24 => ("OffThenOnModel", "seed", "I", false)
  | 25 => ("OffThenOnModel", "likely", "I", false)
  | 26 => ("OffThenOnModel", "likelyOdds", "[I", true)
  | 27 => ("OffThenOnModel", "weight", "[I", true)
  | 28 => ("OffThenOnModel", "trying", "[I", true)
  | 29 => ("OffThenOnModel", "planned", "[I", true)
  | 30 => ("OffThenOnModel", "planLong", "I", false)
  | 31 => ("OffThenOnModel", "planCost", "I", false)
  | 32 => ("OffThenOnModel", "lots", "I", false)
  | 33 => ("OffThenOnModel", "left", "I", false)
  | 34 => ("OffThenOnModel", "text", "[I", true)
  | 35 => ("OffThenOnModel", "texts", "I", false)
  | 36 => ("OffThenOnModel", "line", "[I", true)
  | 37 => ("OffThenOnModel", "logged", "[I", true)
  | 38 => ("OffThenOnModel", "lineMany", "I", false)
  | 39 => ("OffThenOnModel", "hasLogged", "Z", false)
  | 40 => ("OffThenOnModel", "node", "[I", true)
  | 41 => ("OffThenOnModel", "nodes", "I", false)
  | 42 => ("OffThenOnModel", "onesMany", "I", false)
  | 43 => ("OffThenOnModel", "within", "I", false)
  | _ => ("OffThenOnModel", "top", "I", false)
def tyX12 : Nat → FieldType := fun k => match k with
  | 0 => .int
  | 1 => .array .int
  | 2 => .int
  | 3 => .int
  | 4 => .int
  | 5 => .int
  | 6 => .int
  | 7 => .int
  | 8 => .int
  | 9 => .int
  | 10 => .int
  | 11 => .int
  | 12 => .long
  | 13 => .int
  | 14 => .array .int
  | 15 => .array .int
  | 16 => .array .int
  | 17 => .array .int
  | 18 => .array .int
  | 19 => .array .long
  | 20 => .array .long
  | 21 => .array .long
  | 22 => .array .boolean
  | 23 => .int
  | 24 => .int
  | 25 => .int
  | 26 => .array .int
  | 27 => .array .int
  | 28 => .array .int
  | 29 => .array .int
  | 30 => .int
  | 31 => .int
  | 32 => .int
  | 33 => .int
  | 34 => .array .int
  | 35 => .int
  | 36 => .array .int
  | 37 => .array .int
  | 38 => .int
  | 39 => .boolean
  | 40 => .array .int
  | 41 => .int
  | 42 => .int
  | 43 => .int
  | _ => .int
abbrev wsX120 : List Cond := u_ws RX12 TX12 45
theorem nmX12 : ∀ a, a < 45 → ∀ b, b < 45 → a ≠ b → (TX12 a).2.1 ≠ (TX12 b).2.1 := by decide +kernel
theorem tyX12_ok : ∀ k, k < 45 → parseFieldDescriptor (TX12 k).2.2.1 = some (tyX12 k) := by decide +kernel
abbrev cX12_init : ByteArray := prog_14_method_1_code
def yX12_init : MethodName := ⟨RX12, "<init>", "()V"⟩
abbrev cX12_thrown : ByteArray := prog_14_method_2_code
def yX12_thrown : MethodName := ⟨RX12, "thrown", "()I"⟩
abbrev cX12_refuse : ByteArray := prog_14_method_3_code
def yX12_refuse : MethodName := ⟨RX12, "refuse", "()I"⟩
abbrev cX12_come : ByteArray := prog_14_method_4_code
def yX12_come : MethodName := ⟨RX12, "come", "(I)V"⟩
abbrev cX12_feed : ByteArray := prog_14_method_5_code
def yX12_feed : MethodName := ⟨RX12, "feed", "(IIIII)I"⟩
abbrev cX12_end : ByteArray := prog_14_method_6_code
def yX12_end : MethodName := ⟨RX12, "end", "(I)Z"⟩
abbrev cX12_take : ByteArray := prog_14_method_7_code
def yX12_take : MethodName := ⟨RX12, "take", "()I"⟩
abbrev cX12_isIn : ByteArray := prog_14_method_8_code
def yX12_isIn : MethodName := ⟨RX12, "isIn", "(III)Z"⟩
abbrev cX12_has : ByteArray := prog_14_method_9_code
def yX12_has : MethodName := ⟨RX12, "has", "(II)Z"⟩
abbrev cX12_bits : ByteArray := prog_14_method_10_code
def yX12_bits : MethodName := ⟨RX12, "bits", "(I)I"⟩
abbrev cX12_least : ByteArray := prog_14_method_11_code
def yX12_least : MethodName := ⟨RX12, "least", "(II)I"⟩
abbrev cX12_common : ByteArray := prog_14_method_13_code
def yX12_common : MethodName := ⟨RX12, "common", "(II)I"⟩
abbrev cX12_tapeAt : ByteArray := prog_14_method_14_code
def yX12_tapeAt : MethodName := ⟨RX12, "tapeAt", "(I)I"⟩
abbrev cX12_isDigit : ByteArray := prog_14_method_15_code
def yX12_isDigit : MethodName := ⟨RX12, "isDigit", "(I)Z"⟩
abbrev cX12_isLetter : ByteArray := prog_14_method_16_code
def yX12_isLetter : MethodName := ⟨RX12, "isLetter", "(I)Z"⟩
abbrev cX12_go : ByteArray := prog_14_method_17_code
def yX12_go : MethodName := ⟨RX12, "go", "()V"⟩
abbrev cX12_spelt : ByteArray := prog_14_method_18_code
def yX12_spelt : MethodName := ⟨RX12, "spelt", "(IIIIIII)J"⟩
abbrev cX12_wordOf : ByteArray := prog_14_method_19_code
def yX12_wordOf : MethodName := ⟨RX12, "wordOf", "(I)J"⟩
abbrev cX12_isWord : ByteArray := prog_14_method_20_code
def yX12_isWord : MethodName := ⟨RX12, "isWord", "(I)Z"⟩
abbrev cX12_isSign : ByteArray := prog_14_method_21_code
def yX12_isSign : MethodName := ⟨RX12, "isSign", "(I)Z"⟩
abbrev cX12_isName : ByteArray := prog_14_method_22_code
def yX12_isName : MethodName := ⟨RX12, "isName", "()Z"⟩
abbrev cX12_bad : ByteArray := prog_14_method_23_code
def yX12_bad : MethodName := ⟨RX12, "bad", "(I)Z"⟩
abbrev cX12_readNumber : ByteArray := prog_14_method_24_code
def yX12_readNumber : MethodName := ⟨RX12, "readNumber", "(II)Z"⟩
abbrev cX12_readEnd : ByteArray := prog_14_method_25_code
def yX12_readEnd : MethodName := ⟨RX12, "readEnd", "()Z"⟩
abbrev cX12_begin : ByteArray := prog_14_method_26_code
def yX12_begin : MethodName := ⟨RX12, "begin", "(I)V"⟩
abbrev cX12_startSo : ByteArray := prog_14_method_27_code
def yX12_startSo : MethodName := ⟨RX12, "startSo", "()V"⟩
abbrev cX12_findIn : ByteArray := prog_14_method_28_code
def yX12_findIn : MethodName := ⟨RX12, "findIn", "([JIIJ)I"⟩
abbrev cX12_readNew : ByteArray := prog_14_method_29_code
def yX12_readNew : MethodName := ⟨RX12, "readNew", "(I)Z"⟩
abbrev cX12_readOne : ByteArray := prog_14_method_30_code
def yX12_readOne : MethodName := ⟨RX12, "readOne", "(II)Z"⟩
abbrev cX12_readFirst : ByteArray := prog_14_method_31_code
def yX12_readFirst : MethodName := ⟨RX12, "readFirst", "(II)Z"⟩
abbrev cX12_put : ByteArray := prog_14_method_32_code
def yX12_put : MethodName := ⟨RX12, "put", "(IZ)Z"⟩
abbrev cX12_readThing : ByteArray := prog_14_method_33_code
def yX12_readThing : MethodName := ⟨RX12, "readThing", "()Z"⟩
abbrev cX12_readFault : ByteArray := prog_14_method_34_code
def yX12_readFault : MethodName := ⟨RX12, "readFault", "()Z"⟩
abbrev cX12_readCures : ByteArray := prog_14_method_35_code
def yX12_readCures : MethodName := ⟨RX12, "readCures", "()Z"⟩
abbrev cX12_readLine : ByteArray := prog_14_method_36_code
def yX12_readLine : MethodName := ⟨RX12, "readLine", "()Z"⟩
abbrev cX12_house : ByteArray := prog_14_method_37_code
def yX12_house : MethodName := ⟨RX12, "house", "()I"⟩
abbrev cX12_fault : ByteArray := prog_14_method_38_code
def yX12_fault : MethodName := ⟨RX12, "fault", "()I"⟩
abbrev cX12_isThing : ByteArray := prog_14_method_39_code
def yX12_isThing : MethodName := ⟨RX12, "isThing", "(I)Z"⟩
abbrev cX12_isFault : ByteArray := prog_14_method_40_code
def yX12_isFault : MethodName := ⟨RX12, "isFault", "(I)Z"⟩
abbrev cX12_isThere : ByteArray := prog_14_method_41_code
def yX12_isThere : MethodName := ⟨RX12, "isThere", "(I)Z"⟩
abbrev cX12_isNumbered : ByteArray := prog_14_method_42_code
def yX12_isNumbered : MethodName := ⟨RX12, "isNumbered", "(I)Z"⟩
abbrev cX12_isBehind : ByteArray := prog_14_method_43_code
def yX12_isBehind : MethodName := ⟨RX12, "isBehind", "(II)Z"⟩
abbrev cX12_worst : ByteArray := prog_14_method_44_code
def yX12_worst : MethodName := ⟨RX12, "worst", "(I)I"⟩
abbrev cX12_lamp : ByteArray := prog_14_method_45_code
def yX12_lamp : MethodName := ⟨RX12, "lamp", "(I)I"⟩
abbrev cX12_works : ByteArray := prog_14_method_46_code
def yX12_works : MethodName := ⟨RX12, "works", "(I)Z"⟩
abbrev cX12_working : ByteArray := prog_14_method_47_code
def yX12_working : MethodName := ⟨RX12, "working", "()I"⟩
abbrev cX12_thing : ByteArray := prog_14_method_48_code
def yX12_thing : MethodName := ⟨RX12, "thing", "(II)I"⟩
abbrev cX12_trouble : ByteArray := prog_14_method_49_code
def yX12_trouble : MethodName := ⟨RX12, "trouble", "(II)I"⟩
abbrev cX12_cures : ByteArray := prog_14_method_50_code
def yX12_cures : MethodName := ⟨RX12, "cures", "(II)I"⟩
abbrev cX12_now : ByteArray := prog_14_method_51_code
def yX12_now : MethodName := ⟨RX12, "now", "(I)I"⟩
abbrev cX12_snap : ByteArray := prog_14_method_52_code
def yX12_snap : MethodName := ⟨RX12, "snap", "()V"⟩
abbrev cX12_draw : ByteArray := prog_14_method_53_code
def yX12_draw : MethodName := ⟨RX12, "draw", "(I)I"⟩
abbrev cX12_go_ : ByteArray := prog_14_method_54_code
def yX12_go_ : MethodName := ⟨RX12, "go", "(I)V"⟩
abbrev cX12_deed : ByteArray := prog_14_method_55_code
def yX12_deed : MethodName := ⟨RX12, "deed", "(II)V"⟩
abbrev cX12_unnumber : ByteArray := prog_14_method_56_code
def yX12_unnumber : MethodName := ⟨RX12, "unnumber", "(I)V"⟩
abbrev cX12_set : ByteArray := prog_14_method_57_code
def yX12_set : MethodName := ⟨RX12, "set", "(III)V"⟩
abbrev cX12_why : ByteArray := prog_14_method_58_code
def yX12_why : MethodName := ⟨RX12, "why", "(II)I"⟩
abbrev cX12_live : ByteArray := prog_14_method_59_code
def yX12_live : MethodName := ⟨RX12, "live", "(II)V"⟩
abbrev cX12_act : ByteArray := prog_14_method_60_code
def yX12_act : MethodName := ⟨RX12, "act", "(III)I"⟩
abbrev cX12_off : ByteArray := prog_14_method_61_code
def yX12_off : MethodName := ⟨RX12, "off", "(I)I"⟩
abbrev cX12_on : ByteArray := prog_14_method_62_code
def yX12_on : MethodName := ⟨RX12, "on", "(II)I"⟩
abbrev cX12_cable : ByteArray := prog_14_method_63_code
def yX12_cable : MethodName := ⟨RX12, "cable", "(II)I"⟩
abbrev cX12_pin : ByteArray := prog_14_method_64_code
def yX12_pin : MethodName := ⟨RX12, "pin", "(II)I"⟩
abbrev cX12_strike : ByteArray := prog_14_method_65_code
def yX12_strike : MethodName := ⟨RX12, "strike", "(I)I"⟩
abbrev cX12_undo : ByteArray := prog_14_method_66_code
def yX12_undo : MethodName := ⟨RX12, "undo", "()I"⟩
abbrev cX12_oneMinute : ByteArray := prog_14_method_67_code
def yX12_oneMinute : MethodName := ⟨RX12, "oneMinute", "()V"⟩
abbrev cX12_passMinutes : ByteArray := prog_14_method_68_code
def yX12_passMinutes : MethodName := ⟨RX12, "passMinutes", "(I)I"⟩
abbrev cX12_minutes : ByteArray := prog_14_method_69_code
def yX12_minutes : MethodName := ⟨RX12, "minutes", "(I)I"⟩
abbrev cX12_showsSo : ByteArray := prog_14_method_70_code
def yX12_showsSo : MethodName := ⟨RX12, "showsSo", "(II)Z"⟩
abbrev cX12_what : ByteArray := prog_14_method_71_code
def yX12_what : MethodName := ⟨RX12, "what", "()I"⟩
abbrev cX12_likely : ByteArray := prog_14_method_72_code
def yX12_likely : MethodName := ⟨RX12, "likely", "(II)I"⟩
abbrev cX12_minutesOf : ByteArray := prog_14_method_73_code
def yX12_minutesOf : MethodName := ⟨RX12, "minutesOf", "(II)I"⟩
abbrev cX12_leftAt : ByteArray := prog_14_method_74_code
def yX12_leftAt : MethodName := ⟨RX12, "leftAt", "(I)I"⟩
abbrev cX12_keepPlan : ByteArray := prog_14_method_75_code
def yX12_keepPlan : MethodName := ⟨RX12, "keepPlan", "(II)V"⟩
abbrev cX12_planFrom : ByteArray := prog_14_method_76_code
def yX12_planFrom : MethodName := ⟨RX12, "planFrom", "(IIII)V"⟩
abbrev cX12_plan : ByteArray := prog_14_method_77_code
def yX12_plan : MethodName := ⟨RX12, "plan", "(III)I"⟩
abbrev cX12_planAt : ByteArray := prog_14_method_78_code
def yX12_planAt : MethodName := ⟨RX12, "planAt", "(I)I"⟩
abbrev cX12_startOf : ByteArray := prog_14_method_79_code
def yX12_startOf : MethodName := ⟨RX12, "startOf", "(I)I"⟩
abbrev cX12_ready : ByteArray := prog_14_method_80_code
def yX12_ready : MethodName := ⟨RX12, "ready", "(I)I"⟩
abbrev cX12_starts : ByteArray := prog_14_method_81_code
def yX12_starts : MethodName := ⟨RX12, "starts", "(I)I"⟩
abbrev cX12_helped : ByteArray := prog_14_method_82_code
def yX12_helped : MethodName := ⟨RX12, "helped", "()I"⟩
abbrev cX12_lots : ByteArray := prog_14_method_83_code
def yX12_lots : MethodName := ⟨RX12, "lots", "()I"⟩
abbrev cX12_areAlike : ByteArray := prog_14_method_84_code
def yX12_areAlike : MethodName := ⟨RX12, "areAlike", "(II)Z"⟩
abbrev cX12_alike : ByteArray := prog_14_method_85_code
def yX12_alike : MethodName := ⟨RX12, "alike", "(I)I"⟩
abbrev cX12_kinds : ByteArray := prog_14_method_86_code
def yX12_kinds : MethodName := ⟨RX12, "kinds", "()I"⟩
abbrev cX12_groupAt : ByteArray := prog_14_method_87_code
def yX12_groupAt : MethodName := ⟨RX12, "groupAt", "(II)I"⟩
abbrev cX12_look : ByteArray := prog_14_method_88_code
def yX12_look : MethodName := ⟨RX12, "look", "(I)I"⟩
abbrev cX12_left : ByteArray := prog_14_method_89_code
def yX12_left : MethodName := ⟨RX12, "left", "()I"⟩
abbrev cX12_layAside : ByteArray := prog_14_method_90_code
def yX12_layAside : MethodName := ⟨RX12, "layAside", "()V"⟩
abbrev cX12_takeBack : ByteArray := prog_14_method_91_code
def yX12_takeBack : MethodName := ⟨RX12, "takeBack", "()V"⟩
abbrev cX12_showsOn : ByteArray := prog_14_method_92_code
def yX12_showsOn : MethodName := ⟨RX12, "showsOn", "(III)Z"⟩
abbrev cX12_fits : ByteArray := prog_14_method_93_code
def yX12_fits : MethodName := ⟨RX12, "fits", "(I)I"⟩
abbrev cX12_heals : ByteArray := prog_14_method_94_code
def yX12_heals : MethodName := ⟨RX12, "heals", "(I)I"⟩
abbrev cX12_worksIn : ByteArray := prog_14_method_95_code
def yX12_worksIn : MethodName := ⟨RX12, "worksIn", "(I)I"⟩
abbrev cX12_write : ByteArray := prog_14_method_96_code
def yX12_write : MethodName := ⟨RX12, "write", "(I)V"⟩
abbrev cX12_writeWord : ByteArray := prog_14_method_97_code
def yX12_writeWord : MethodName := ⟨RX12, "writeWord", "(J)V"⟩
abbrev cX12_writeNumber : ByteArray := prog_14_method_98_code
def yX12_writeNumber : MethodName := ⟨RX12, "writeNumber", "(I)V"⟩
abbrev cX12_writeNext : ByteArray := prog_14_method_99_code
def yX12_writeNext : MethodName := ⟨RX12, "writeNext", "(J)V"⟩
abbrev cX12_tell : ByteArray := prog_14_method_100_code
def yX12_tell : MethodName := ⟨RX12, "tell", "(I)I"⟩
abbrev cX12_byteAt : ByteArray := prog_14_method_101_code
def yX12_byteAt : MethodName := ⟨RX12, "byteAt", "(I)I"⟩
abbrev cX12_tryTo : ByteArray := prog_14_method_102_code
def yX12_tryTo : MethodName := ⟨RX12, "tryTo", "(II)V"⟩
abbrev cX12_drawMinutes : ByteArray := prog_14_method_103_code
def yX12_drawMinutes : MethodName := ⟨RX12, "drawMinutes", "(II)I"⟩
abbrev cX12_drawn : ByteArray := prog_14_method_104_code
def yX12_drawn : MethodName := ⟨RX12, "drawn", "(II)I"⟩
abbrev cX12_odds : ByteArray := prog_14_method_105_code
def yX12_odds : MethodName := ⟨RX12, "odds", "(III)I"⟩
abbrev cX12_readNamed : ByteArray := prog_14_method_106_code
def yX12_readNamed : MethodName := ⟨RX12, "readNamed", "(II)Z"⟩
abbrev cX12_readDoes : ByteArray := prog_14_method_107_code
def yX12_readDoes : MethodName := ⟨RX12, "readDoes", "(I)Z"⟩
abbrev cX12_readLogLine : ByteArray := prog_14_method_108_code
def yX12_readLogLine : MethodName := ⟨RX12, "readLogLine", "()Z"⟩
abbrev cX12_goBy : ByteArray := prog_14_method_109_code
def yX12_goBy : MethodName := ⟨RX12, "goBy", "(I)I"⟩
abbrev cX12_log : ByteArray := prog_14_method_110_code
def yX12_log : MethodName := ⟨RX12, "log", "(I)I"⟩
abbrev cX12_stay : ByteArray := prog_14_method_111_code
def yX12_stay : MethodName := ⟨RX12, "stay", "(Z)V"⟩
abbrev cX12_logged : ByteArray := prog_14_method_112_code
def yX12_logged : MethodName := ⟨RX12, "logged", "(I)I"⟩
abbrev cX12_saysOne : ByteArray := prog_14_method_113_code
def yX12_saysOne : MethodName := ⟨RX12, "saysOne", "(IIII)I"⟩
abbrev cX12_readOr : ByteArray := prog_14_method_114_code
def yX12_readOr : MethodName := ⟨RX12, "readOr", "()Z"⟩
abbrev cX12_readAnd : ByteArray := prog_14_method_115_code
def yX12_readAnd : MethodName := ⟨RX12, "readAnd", "()Z"⟩
abbrev cX12_readSaid : ByteArray := prog_14_method_116_code
def yX12_readSaid : MethodName := ⟨RX12, "readSaid", "()Z"⟩
abbrev cX12_readNot : ByteArray := prog_14_method_117_code
def yX12_readNot : MethodName := ⟨RX12, "readNot", "()Z"⟩
abbrev cX12_readBracket : ByteArray := prog_14_method_118_code
def yX12_readBracket : MethodName := ⟨RX12, "readBracket", "()Z"⟩
abbrev cX12_readOf : ByteArray := prog_14_method_119_code
def yX12_readOf : MethodName := ⟨RX12, "readOf", "(I)Z"⟩
abbrev cX12_readCompare : ByteArray := prog_14_method_120_code
def yX12_readCompare : MethodName := ⟨RX12, "readCompare", "(I)Z"⟩
abbrev cX12_sentence : ByteArray := prog_14_method_121_code
def yX12_sentence : MethodName := ⟨RX12, "sentence", "()I"⟩
abbrev cX12_holds : ByteArray := prog_14_method_122_code
def yX12_holds : MethodName := ⟨RX12, "holds", "(II)Z"⟩
abbrev cX12_said : ByteArray := prog_14_method_123_code
def yX12_said : MethodName := ⟨RX12, "said", "(I)I"⟩
abbrev cX12_image : ByteArray := prog_14_method_124_code
def yX12_image : MethodName := ⟨RX12, "image", "(I)Z"⟩
abbrev cX12_restore : ByteArray := prog_14_method_125_code
def yX12_restore : MethodName := ⟨RX12, "restore", "(I)Z"⟩
abbrev cX12_count : ByteArray := prog_14_method_126_code
def yX12_count : MethodName := ⟨RX12, "count", "(I)I"⟩
def RL : String := "OffThenOnLaw"
abbrev cL_thing : ByteArray := method_3_code
def yL_thing : MethodName := ⟨RL, "thing", "(LOffThenOn;II[J)I"⟩
abbrev cL_trouble : ByteArray := method_4_code
def yL_trouble : MethodName := ⟨RL, "trouble", "(LOffThenOn;II[J)I"⟩
abbrev cL_likely : ByteArray := method_5_code
def yL_likely : MethodName := ⟨RL, "likely", "(LOffThenOn;II[J)I"⟩
abbrev cL_plan : ByteArray := method_6_code
def yL_plan : MethodName := ⟨RL, "plan", "(LOffThenOn;III[J)I"⟩
abbrev cL_helped : ByteArray := method_7_code
def yL_helped : MethodName := ⟨RL, "helped", "(LOffThenOn;[J)I"⟩
abbrev cL_law : ByteArray := code
def yL_law : MethodName := ⟨RL, "law", "([I)Z"⟩
abbrev vwCl : List vw_C := [(RX0, TX0, 2), (RX1, TX1, 3), (RX2, TX2, 16), (RX3, TX3, 3), (RX4, TX4, 6), (RX5, TX5, 7), (RX6, TX6, 10), (RX7, TX7, 6), (RX8, TX8, 2), (RX9, TX9, 13), (RX10, TX10, 4), (RX11, TX11, 17), (RX12, TX12, 45)]
end
section
def sa_Ts : List Cond := lw_tbl.filter goodWord
theorem sa_Tg : ∀ w ∈ sa_Ts, goodWord w = true := fun w h => (List.mem_filter.mp h).2
theorem tw_2 : (Jvm.Cond.initialized "OffThenOn$Bytes") ∈ sa_Ts := List.mem_filter.mpr ⟨List.mem_append_right _ (List.mem_of_getElem? (i := 2) (by decide +kernel)), by decide +kernel⟩
theorem tw_3 : (Jvm.Cond.initialized "OffThenOn$World") ∈ sa_Ts := List.mem_filter.mpr ⟨List.mem_append_right _ (List.mem_of_getElem? (i := 3) (by decide +kernel)), by decide +kernel⟩
theorem tw_4 : (Jvm.Cond.initialized "OffThenOn$House") ∈ sa_Ts := List.mem_filter.mpr ⟨List.mem_append_right _ (List.mem_of_getElem? (i := 4) (by decide +kernel)), by decide +kernel⟩
theorem tw_5 : (Jvm.Cond.initialized "OffThenOn$State") ∈ sa_Ts := List.mem_filter.mpr ⟨List.mem_append_right _ (List.mem_of_getElem? (i := 5) (by decide +kernel)), by decide +kernel⟩
theorem tw_6 : (Jvm.Cond.initialized "OffThenOn$Sentence") ∈ sa_Ts := List.mem_filter.mpr ⟨List.mem_append_right _ (List.mem_of_getElem? (i := 6) (by decide +kernel)), by decide +kernel⟩
theorem tw_7 : (Jvm.Cond.initialized "OffThenOn$History") ∈ sa_Ts := List.mem_filter.mpr ⟨List.mem_append_right _ (List.mem_of_getElem? (i := 7) (by decide +kernel)), by decide +kernel⟩
theorem tw_8 : (Jvm.Cond.initialized "OffThenOn$HouseReader") ∈ sa_Ts := List.mem_filter.mpr ⟨List.mem_append_right _ (List.mem_of_getElem? (i := 8) (by decide +kernel)), by decide +kernel⟩
theorem tw_9 : (Jvm.Cond.initialized "OffThenOn$Reader") ∈ sa_Ts := List.mem_filter.mpr ⟨List.mem_append_right _ (List.mem_of_getElem? (i := 9) (by decide +kernel)), by decide +kernel⟩
theorem tw_10 : (Jvm.Cond.initialized "OffThenOn$LogReader") ∈ sa_Ts := List.mem_filter.mpr ⟨List.mem_append_right _ (List.mem_of_getElem? (i := 10) (by decide +kernel)), by decide +kernel⟩
theorem tw_11 : (Jvm.Cond.initialized "OffThenOn$SentenceReader") ∈ sa_Ts := List.mem_filter.mpr ⟨List.mem_append_right _ (List.mem_of_getElem? (i := 11) (by decide +kernel)), by decide +kernel⟩
theorem tw_12 : (Jvm.Cond.initialized "OffThenOn$Planner") ∈ sa_Ts := List.mem_filter.mpr ⟨List.mem_append_right _ (List.mem_of_getElem? (i := 12) (by decide +kernel)), by decide +kernel⟩
theorem tw_30 : (Jvm.Cond.methodLink "OffThenOn" (1 : Nat) ({ cls := "java/lang/Object", name := "<init>", desc := "()V" } : Jvm.MethodName)) ∈ sa_Ts := List.mem_filter.mpr ⟨List.mem_append_right _ (List.mem_of_getElem? (i := 30) (by decide +kernel)), by decide +kernel⟩
theorem tw_31 : (Jvm.Cond.instanceMethod ({ cls := "java/lang/Object", name := "<init>", desc := "()V" } : Jvm.MethodName)) ∈ sa_Ts := List.mem_filter.mpr ⟨List.mem_append_right _ (List.mem_of_getElem? (i := 31) (by decide +kernel)), by decide +kernel⟩
theorem tw_32 : (Jvm.Cond.code ({ cls := "java/lang/Object", name := "<init>", desc := "()V" } : Jvm.MethodName) object_method_1_code (1 : Nat) (Option.none : Option Jvm.ClassFile.FieldType)) ∈ sa_Ts := List.mem_filter.mpr ⟨List.mem_append_right _ (List.mem_of_getElem? (i := 32) (by decide +kernel)), by decide +kernel⟩
theorem tw_33 : (Jvm.Cond.classLink "OffThenOn" (7 : Nat) "OffThenOn$Bytes") ∈ sa_Ts := List.mem_filter.mpr ⟨List.mem_append_right _ (List.mem_of_getElem? (i := 33) (by decide +kernel)), by decide +kernel⟩
theorem tw_34 : (Jvm.Cond.instantiable "OffThenOn$Bytes" (2 : Nat)) ∈ sa_Ts := List.mem_filter.mpr ⟨List.mem_append_right _ (List.mem_of_getElem? (i := 34) (by decide +kernel)), by decide +kernel⟩
theorem tw_35 : (Jvm.Cond.methodLink "OffThenOn" (11 : Nat) ({ cls := "OffThenOn$Bytes", name := "<init>", desc := "(I)V" } : Jvm.MethodName)) ∈ sa_Ts := List.mem_filter.mpr ⟨List.mem_append_right _ (List.mem_of_getElem? (i := 35) (by decide +kernel)), by decide +kernel⟩
theorem tw_36 : (Jvm.Cond.instanceMethod ({ cls := "OffThenOn$Bytes", name := "<init>", desc := "(I)V" } : Jvm.MethodName)) ∈ sa_Ts := List.mem_filter.mpr ⟨List.mem_append_right _ (List.mem_of_getElem? (i := 36) (by decide +kernel)), by decide +kernel⟩
theorem tw_37 : (Jvm.Cond.code ({ cls := "OffThenOn$Bytes", name := "<init>", desc := "(I)V" } : Jvm.MethodName) prog_2_method_1_code (2 : Nat) (Option.none : Option Jvm.ClassFile.FieldType)) ∈ sa_Ts := List.mem_filter.mpr ⟨List.mem_append_right _ (List.mem_of_getElem? (i := 37) (by decide +kernel)), by decide +kernel⟩
theorem tw_38 : (Jvm.Cond.methodLink "OffThenOn$Bytes" (3 : Nat) ({ cls := "java/lang/Object", name := "<init>", desc := "()V" } : Jvm.MethodName)) ∈ sa_Ts := List.mem_filter.mpr ⟨List.mem_append_right _ (List.mem_of_getElem? (i := 38) (by decide +kernel)), by decide +kernel⟩
theorem tw_39 : (Jvm.Cond.fieldLink "OffThenOn$Bytes" (9 : Nat) "OffThenOn$Bytes" "row" "[B") ∈ sa_Ts := List.mem_filter.mpr ⟨List.mem_append_right _ (List.mem_of_getElem? (i := 39) (by decide +kernel)), by decide +kernel⟩
theorem tw_48 : (Jvm.Cond.arrayClass Jvm.ClassFile.FieldType.byte) ∈ sa_Ts := List.mem_filter.mpr ⟨List.mem_append_right _ (List.mem_of_getElem? (i := 48) (by decide +kernel)), by decide +kernel⟩
theorem tw_49 : (Jvm.Cond.classLink "OffThenOn" (18 : Nat) "OffThenOn$World") ∈ sa_Ts := List.mem_filter.mpr ⟨List.mem_append_right _ (List.mem_of_getElem? (i := 49) (by decide +kernel)), by decide +kernel⟩
theorem tw_50 : (Jvm.Cond.instantiable "OffThenOn$World" (4 : Nat)) ∈ sa_Ts := List.mem_filter.mpr ⟨List.mem_append_right _ (List.mem_of_getElem? (i := 50) (by decide +kernel)), by decide +kernel⟩
theorem tw_52 : (Jvm.Cond.instanceMethod ({ cls := "OffThenOn$World", name := "<init>", desc := "()V" } : Jvm.MethodName)) ∈ sa_Ts := List.mem_filter.mpr ⟨List.mem_append_right _ (List.mem_of_getElem? (i := 52) (by decide +kernel)), by decide +kernel⟩
theorem tw_53 : (Jvm.Cond.code ({ cls := "OffThenOn$World", name := "<init>", desc := "()V" } : Jvm.MethodName) prog_12_method_1_code (1 : Nat) (Option.none : Option Jvm.ClassFile.FieldType)) ∈ sa_Ts := List.mem_filter.mpr ⟨List.mem_append_right _ (List.mem_of_getElem? (i := 53) (by decide +kernel)), by decide +kernel⟩
theorem tw_54 : (Jvm.Cond.methodLink "OffThenOn$World" (1 : Nat) ({ cls := "java/lang/Object", name := "<init>", desc := "()V" } : Jvm.MethodName)) ∈ sa_Ts := List.mem_filter.mpr ⟨List.mem_append_right _ (List.mem_of_getElem? (i := 54) (by decide +kernel)), by decide +kernel⟩
theorem tw_55 : (Jvm.Cond.classLink "OffThenOn$World" (7 : Nat) "OffThenOn$House") ∈ sa_Ts := List.mem_filter.mpr ⟨List.mem_append_right _ (List.mem_of_getElem? (i := 55) (by decide +kernel)), by decide +kernel⟩
theorem tw_56 : (Jvm.Cond.instantiable "OffThenOn$House" (16 : Nat)) ∈ sa_Ts := List.mem_filter.mpr ⟨List.mem_append_right _ (List.mem_of_getElem? (i := 56) (by decide +kernel)), by decide +kernel⟩
theorem tw_58 : (Jvm.Cond.instanceMethod ({ cls := "OffThenOn$House", name := "<init>", desc := "()V" } : Jvm.MethodName)) ∈ sa_Ts := List.mem_filter.mpr ⟨List.mem_append_right _ (List.mem_of_getElem? (i := 58) (by decide +kernel)), by decide +kernel⟩
theorem tw_59 : (Jvm.Cond.code ({ cls := "OffThenOn$House", name := "<init>", desc := "()V" } : Jvm.MethodName) prog_4_method_1_code (1 : Nat) (Option.none : Option Jvm.ClassFile.FieldType)) ∈ sa_Ts := List.mem_filter.mpr ⟨List.mem_append_right _ (List.mem_of_getElem? (i := 59) (by decide +kernel)), by decide +kernel⟩
theorem tw_60 : (Jvm.Cond.methodLink "OffThenOn$House" (3 : Nat) ({ cls := "java/lang/Object", name := "<init>", desc := "()V" } : Jvm.MethodName)) ∈ sa_Ts := List.mem_filter.mpr ⟨List.mem_append_right _ (List.mem_of_getElem? (i := 60) (by decide +kernel)), by decide +kernel⟩
theorem tw_61 : (Jvm.Cond.fieldLink "OffThenOn$House" (9 : Nat) "OffThenOn$House" "thingNames" "[J") ∈ sa_Ts := List.mem_filter.mpr ⟨List.mem_append_right _ (List.mem_of_getElem? (i := 61) (by decide +kernel)), by decide +kernel⟩
theorem tw_63 : (Jvm.Cond.fieldLink "OffThenOn$House" (15 : Nat) "OffThenOn$House" "boots" "[I") ∈ sa_Ts := List.mem_filter.mpr ⟨List.mem_append_right _ (List.mem_of_getElem? (i := 63) (by decide +kernel)), by decide +kernel⟩
theorem tw_67 : (Jvm.Cond.fieldLink "OffThenOn$House" (19 : Nat) "OffThenOn$House" "waits" "[I") ∈ sa_Ts := List.mem_filter.mpr ⟨List.mem_append_right _ (List.mem_of_getElem? (i := 67) (by decide +kernel)), by decide +kernel⟩
theorem tw_71 : (Jvm.Cond.fieldLink "OffThenOn$House" (22 : Nat) "OffThenOn$House" "behinds" "[I") ∈ sa_Ts := List.mem_filter.mpr ⟨List.mem_append_right _ (List.mem_of_getElem? (i := 71) (by decide +kernel)), by decide +kernel⟩
theorem tw_74 : (Jvm.Cond.fieldLink "OffThenOn$House" (25 : Nat) "OffThenOn$House" "ahead" "[I") ∈ sa_Ts := List.mem_filter.mpr ⟨List.mem_append_right _ (List.mem_of_getElem? (i := 74) (by decide +kernel)), by decide +kernel⟩
theorem tw_75 : (Jvm.Cond.fieldLink "OffThenOn$House" (28 : Nat) "OffThenOn$House" "after" "[I") ∈ sa_Ts := List.mem_filter.mpr ⟨List.mem_append_right _ (List.mem_of_getElem? (i := 75) (by decide +kernel)), by decide +kernel⟩
theorem tw_78 : (Jvm.Cond.fieldLink "OffThenOn$House" (31 : Nat) "OffThenOn$House" "faultsOf" "[I") ∈ sa_Ts := List.mem_filter.mpr ⟨List.mem_append_right _ (List.mem_of_getElem? (i := 78) (by decide +kernel)), by decide +kernel⟩
theorem tw_81 : (Jvm.Cond.fieldLink "OffThenOn$House" (34 : Nat) "OffThenOn$House" "faultNames" "[J") ∈ sa_Ts := List.mem_filter.mpr ⟨List.mem_append_right _ (List.mem_of_getElem? (i := 81) (by decide +kernel)), by decide +kernel⟩
theorem tw_83 : (Jvm.Cond.fieldLink "OffThenOn$House" (37 : Nat) "OffThenOn$House" "homes" "[I") ∈ sa_Ts := List.mem_filter.mpr ⟨List.mem_append_right _ (List.mem_of_getElem? (i := 83) (by decide +kernel)), by decide +kernel⟩
theorem tw_86 : (Jvm.Cond.fieldLink "OffThenOn$House" (40 : Nat) "OffThenOn$House" "healTimes" "[I") ∈ sa_Ts := List.mem_filter.mpr ⟨List.mem_append_right _ (List.mem_of_getElem? (i := 86) (by decide +kernel)), by decide +kernel⟩
theorem tw_89 : (Jvm.Cond.fieldLink "OffThenOn$House" (43 : Nat) "OffThenOn$House" "chances" "[I") ∈ sa_Ts := List.mem_filter.mpr ⟨List.mem_append_right _ (List.mem_of_getElem? (i := 89) (by decide +kernel)), by decide +kernel⟩
theorem tw_92 : (Jvm.Cond.fieldLink "OffThenOn$House" (46 : Nat) "OffThenOn$House" "shows" "[I") ∈ sa_Ts := List.mem_filter.mpr ⟨List.mem_append_right _ (List.mem_of_getElem? (i := 92) (by decide +kernel)), by decide +kernel⟩
theorem tw_95 : (Jvm.Cond.fieldLink "OffThenOn$House" (49 : Nat) "OffThenOn$House" "twelfths" "[I") ∈ sa_Ts := List.mem_filter.mpr ⟨List.mem_append_right _ (List.mem_of_getElem? (i := 95) (by decide +kernel)), by decide +kernel⟩
theorem tw_141 : (Jvm.Cond.arrayClass Jvm.ClassFile.FieldType.long) ∈ sa_Ts := List.mem_filter.mpr ⟨List.mem_append_right _ (List.mem_of_getElem? (i := 141) (by decide +kernel)), by decide +kernel⟩
theorem tw_142 : (Jvm.Cond.arrayClass Jvm.ClassFile.FieldType.int) ∈ sa_Ts := List.mem_filter.mpr ⟨List.mem_append_right _ (List.mem_of_getElem? (i := 142) (by decide +kernel)), by decide +kernel⟩
theorem tw_143 : (Jvm.Cond.classLink "OffThenOn$World" (16 : Nat) "OffThenOn$State") ∈ sa_Ts := List.mem_filter.mpr ⟨List.mem_append_right _ (List.mem_of_getElem? (i := 143) (by decide +kernel)), by decide +kernel⟩
theorem tw_144 : (Jvm.Cond.instantiable "OffThenOn$State" (13 : Nat)) ∈ sa_Ts := List.mem_filter.mpr ⟨List.mem_append_right _ (List.mem_of_getElem? (i := 144) (by decide +kernel)), by decide +kernel⟩
theorem tw_146 : (Jvm.Cond.instanceMethod ({ cls := "OffThenOn$State", name := "<init>", desc := "()V" } : Jvm.MethodName)) ∈ sa_Ts := List.mem_filter.mpr ⟨List.mem_append_right _ (List.mem_of_getElem? (i := 146) (by decide +kernel)), by decide +kernel⟩
theorem tw_147 : (Jvm.Cond.code ({ cls := "OffThenOn$State", name := "<init>", desc := "()V" } : Jvm.MethodName) prog_11_method_1_code (1 : Nat) (Option.none : Option Jvm.ClassFile.FieldType)) ∈ sa_Ts := List.mem_filter.mpr ⟨List.mem_append_right _ (List.mem_of_getElem? (i := 147) (by decide +kernel)), by decide +kernel⟩
theorem tw_148 : (Jvm.Cond.methodLink "OffThenOn$State" (3 : Nat) ({ cls := "java/lang/Object", name := "<init>", desc := "()V" } : Jvm.MethodName)) ∈ sa_Ts := List.mem_filter.mpr ⟨List.mem_append_right _ (List.mem_of_getElem? (i := 148) (by decide +kernel)), by decide +kernel⟩
theorem tw_149 : (Jvm.Cond.fieldLink "OffThenOn$State" (9 : Nat) "OffThenOn$State" "modes" "[I") ∈ sa_Ts := List.mem_filter.mpr ⟨List.mem_append_right _ (List.mem_of_getElem? (i := 149) (by decide +kernel)), by decide +kernel⟩
theorem tw_151 : (Jvm.Cond.fieldLink "OffThenOn$State" (15 : Nat) "OffThenOn$State" "clocks" "[I") ∈ sa_Ts := List.mem_filter.mpr ⟨List.mem_append_right _ (List.mem_of_getElem? (i := 151) (by decide +kernel)), by decide +kernel⟩
theorem tw_153 : (Jvm.Cond.fieldLink "OffThenOn$State" (18 : Nat) "OffThenOn$State" "downs" "[I") ∈ sa_Ts := List.mem_filter.mpr ⟨List.mem_append_right _ (List.mem_of_getElem? (i := 153) (by decide +kernel)), by decide +kernel⟩
theorem tw_156 : (Jvm.Cond.fieldLink "OffThenOn$State" (21 : Nat) "OffThenOn$State" "ages" "[I") ∈ sa_Ts := List.mem_filter.mpr ⟨List.mem_append_right _ (List.mem_of_getElem? (i := 156) (by decide +kernel)), by decide +kernel⟩
theorem tw_158 : (Jvm.Cond.fieldLink "OffThenOn$State" (24 : Nat) "OffThenOn$State" "struck" "[I") ∈ sa_Ts := List.mem_filter.mpr ⟨List.mem_append_right _ (List.mem_of_getElem? (i := 158) (by decide +kernel)), by decide +kernel⟩
theorem tw_160 : (Jvm.Cond.fieldLink "OffThenOn$State" (27 : Nat) "OffThenOn$State" "healed" "[I") ∈ sa_Ts := List.mem_filter.mpr ⟨List.mem_append_right _ (List.mem_of_getElem? (i := 160) (by decide +kernel)), by decide +kernel⟩
theorem tw_206 : (Jvm.Cond.classLink "OffThenOn$World" (23 : Nat) "OffThenOn$Sentence") ∈ sa_Ts := List.mem_filter.mpr ⟨List.mem_append_right _ (List.mem_of_getElem? (i := 206) (by decide +kernel)), by decide +kernel⟩
theorem tw_207 : (Jvm.Cond.instantiable "OffThenOn$Sentence" (6 : Nat)) ∈ sa_Ts := List.mem_filter.mpr ⟨List.mem_append_right _ (List.mem_of_getElem? (i := 207) (by decide +kernel)), by decide +kernel⟩
theorem tw_209 : (Jvm.Cond.instanceMethod ({ cls := "OffThenOn$Sentence", name := "<init>", desc := "()V" } : Jvm.MethodName)) ∈ sa_Ts := List.mem_filter.mpr ⟨List.mem_append_right _ (List.mem_of_getElem? (i := 209) (by decide +kernel)), by decide +kernel⟩
theorem tw_210 : (Jvm.Cond.code ({ cls := "OffThenOn$Sentence", name := "<init>", desc := "()V" } : Jvm.MethodName) prog_9_method_1_code (1 : Nat) (Option.none : Option Jvm.ClassFile.FieldType)) ∈ sa_Ts := List.mem_filter.mpr ⟨List.mem_append_right _ (List.mem_of_getElem? (i := 210) (by decide +kernel)), by decide +kernel⟩
theorem tw_211 : (Jvm.Cond.methodLink "OffThenOn$Sentence" (3 : Nat) ({ cls := "java/lang/Object", name := "<init>", desc := "()V" } : Jvm.MethodName)) ∈ sa_Ts := List.mem_filter.mpr ⟨List.mem_append_right _ (List.mem_of_getElem? (i := 211) (by decide +kernel)), by decide +kernel⟩
theorem tw_212 : (Jvm.Cond.fieldLink "OffThenOn$Sentence" (11 : Nat) "OffThenOn$Sentence" "words" "[I") ∈ sa_Ts := List.mem_filter.mpr ⟨List.mem_append_right _ (List.mem_of_getElem? (i := 212) (by decide +kernel)), by decide +kernel⟩
theorem tw_213 : (Jvm.Cond.fieldLink "OffThenOn$Sentence" (15 : Nat) "OffThenOn$Sentence" "signs" "[I") ∈ sa_Ts := List.mem_filter.mpr ⟨List.mem_append_right _ (List.mem_of_getElem? (i := 213) (by decide +kernel)), by decide +kernel⟩
theorem tw_214 : (Jvm.Cond.fieldLink "OffThenOn$Sentence" (18 : Nat) "OffThenOn$Sentence" "numbers" "[I") ∈ sa_Ts := List.mem_filter.mpr ⟨List.mem_append_right _ (List.mem_of_getElem? (i := 214) (by decide +kernel)), by decide +kernel⟩
theorem tw_215 : (Jvm.Cond.fieldLink "OffThenOn$Sentence" (21 : Nat) "OffThenOn$Sentence" "stack" "[I") ∈ sa_Ts := List.mem_filter.mpr ⟨List.mem_append_right _ (List.mem_of_getElem? (i := 215) (by decide +kernel)), by decide +kernel⟩
theorem tw_233 : (Jvm.Cond.fieldLink "OffThenOn$World" (10 : Nat) "OffThenOn$World" "house" "LOffThenOn$House;") ∈ sa_Ts := List.mem_filter.mpr ⟨List.mem_append_right _ (List.mem_of_getElem? (i := 233) (by decide +kernel)), by decide +kernel⟩
theorem tw_235 : (Jvm.Cond.fieldLink "OffThenOn$World" (19 : Nat) "OffThenOn$World" "state" "LOffThenOn$State;") ∈ sa_Ts := List.mem_filter.mpr ⟨List.mem_append_right _ (List.mem_of_getElem? (i := 235) (by decide +kernel)), by decide +kernel⟩
theorem tw_237 : (Jvm.Cond.fieldLink "OffThenOn$World" (26 : Nat) "OffThenOn$World" "sentence" "LOffThenOn$Sentence;") ∈ sa_Ts := List.mem_filter.mpr ⟨List.mem_append_right _ (List.mem_of_getElem? (i := 237) (by decide +kernel)), by decide +kernel⟩
theorem tw_250 : (Jvm.Cond.classLink "OffThenOn" (29 : Nat) "OffThenOn$History") ∈ sa_Ts := List.mem_filter.mpr ⟨List.mem_append_right _ (List.mem_of_getElem? (i := 250) (by decide +kernel)), by decide +kernel⟩
theorem tw_251 : (Jvm.Cond.instantiable "OffThenOn$History" (3 : Nat)) ∈ sa_Ts := List.mem_filter.mpr ⟨List.mem_append_right _ (List.mem_of_getElem? (i := 251) (by decide +kernel)), by decide +kernel⟩
theorem tw_252 : (Jvm.Cond.methodLink "OffThenOn" (31 : Nat) ({ cls := "OffThenOn$History", name := "<init>", desc := "()V" } : Jvm.MethodName)) ∈ sa_Ts := List.mem_filter.mpr ⟨List.mem_append_right _ (List.mem_of_getElem? (i := 252) (by decide +kernel)), by decide +kernel⟩
theorem tw_253 : (Jvm.Cond.instanceMethod ({ cls := "OffThenOn$History", name := "<init>", desc := "()V" } : Jvm.MethodName)) ∈ sa_Ts := List.mem_filter.mpr ⟨List.mem_append_right _ (List.mem_of_getElem? (i := 253) (by decide +kernel)), by decide +kernel⟩
theorem tw_254 : (Jvm.Cond.code ({ cls := "OffThenOn$History", name := "<init>", desc := "()V" } : Jvm.MethodName) prog_3_method_1_code (2 : Nat) (Option.none : Option Jvm.ClassFile.FieldType)) ∈ sa_Ts := List.mem_filter.mpr ⟨List.mem_append_right _ (List.mem_of_getElem? (i := 254) (by decide +kernel)), by decide +kernel⟩
theorem tw_255 : (Jvm.Cond.methodLink "OffThenOn$History" (3 : Nat) ({ cls := "java/lang/Object", name := "<init>", desc := "()V" } : Jvm.MethodName)) ∈ sa_Ts := List.mem_filter.mpr ⟨List.mem_append_right _ (List.mem_of_getElem? (i := 255) (by decide +kernel)), by decide +kernel⟩
theorem tw_256 : (Jvm.Cond.classLink "OffThenOn$History" (11 : Nat) "OffThenOn$State") ∈ sa_Ts := List.mem_filter.mpr ⟨List.mem_append_right _ (List.mem_of_getElem? (i := 256) (by decide +kernel)), by decide +kernel⟩
theorem tw_259 : (Jvm.Cond.fieldLink "OffThenOn$History" (13 : Nat) "OffThenOn$History" "states" "[LOffThenOn$State;") ∈ sa_Ts := List.mem_filter.mpr ⟨List.mem_append_right _ (List.mem_of_getElem? (i := 259) (by decide +kernel)), by decide +kernel⟩
theorem tw_269 : (Jvm.Cond.classLink "OffThenOn" (36 : Nat) "OffThenOn$State") ∈ sa_Ts := List.mem_filter.mpr ⟨List.mem_append_right _ (List.mem_of_getElem? (i := 269) (by decide +kernel)), by decide +kernel⟩
theorem tw_271 : (Jvm.Cond.classLink "OffThenOn" (43 : Nat) "OffThenOn$HouseReader") ∈ sa_Ts := List.mem_filter.mpr ⟨List.mem_append_right _ (List.mem_of_getElem? (i := 271) (by decide +kernel)), by decide +kernel⟩
theorem tw_272 : (Jvm.Cond.instantiable "OffThenOn$HouseReader" (3 : Nat)) ∈ sa_Ts := List.mem_filter.mpr ⟨List.mem_append_right _ (List.mem_of_getElem? (i := 272) (by decide +kernel)), by decide +kernel⟩
theorem tw_274 : (Jvm.Cond.instanceMethod ({ cls := "OffThenOn$HouseReader", name := "<init>", desc := "()V" } : Jvm.MethodName)) ∈ sa_Ts := List.mem_filter.mpr ⟨List.mem_append_right _ (List.mem_of_getElem? (i := 274) (by decide +kernel)), by decide +kernel⟩
theorem tw_275 : (Jvm.Cond.code ({ cls := "OffThenOn$HouseReader", name := "<init>", desc := "()V" } : Jvm.MethodName) prog_5_method_1_code (1 : Nat) (Option.none : Option Jvm.ClassFile.FieldType)) ∈ sa_Ts := List.mem_filter.mpr ⟨List.mem_append_right _ (List.mem_of_getElem? (i := 275) (by decide +kernel)), by decide +kernel⟩
theorem tw_276 : (Jvm.Cond.methodLink "OffThenOn$HouseReader" (3 : Nat) ({ cls := "java/lang/Object", name := "<init>", desc := "()V" } : Jvm.MethodName)) ∈ sa_Ts := List.mem_filter.mpr ⟨List.mem_append_right _ (List.mem_of_getElem? (i := 276) (by decide +kernel)), by decide +kernel⟩
theorem tw_277 : (Jvm.Cond.classLink "OffThenOn$HouseReader" (9 : Nat) "OffThenOn$Reader") ∈ sa_Ts := List.mem_filter.mpr ⟨List.mem_append_right _ (List.mem_of_getElem? (i := 277) (by decide +kernel)), by decide +kernel⟩
theorem tw_278 : (Jvm.Cond.instantiable "OffThenOn$Reader" (10 : Nat)) ∈ sa_Ts := List.mem_filter.mpr ⟨List.mem_append_right _ (List.mem_of_getElem? (i := 278) (by decide +kernel)), by decide +kernel⟩
theorem tw_280 : (Jvm.Cond.instanceMethod ({ cls := "OffThenOn$Reader", name := "<init>", desc := "()V" } : Jvm.MethodName)) ∈ sa_Ts := List.mem_filter.mpr ⟨List.mem_append_right _ (List.mem_of_getElem? (i := 280) (by decide +kernel)), by decide +kernel⟩
theorem tw_281 : (Jvm.Cond.code ({ cls := "OffThenOn$Reader", name := "<init>", desc := "()V" } : Jvm.MethodName) prog_8_method_1_code (1 : Nat) (Option.none : Option Jvm.ClassFile.FieldType)) ∈ sa_Ts := List.mem_filter.mpr ⟨List.mem_append_right _ (List.mem_of_getElem? (i := 281) (by decide +kernel)), by decide +kernel⟩
theorem tw_282 : (Jvm.Cond.methodLink "OffThenOn$Reader" (3 : Nat) ({ cls := "java/lang/Object", name := "<init>", desc := "()V" } : Jvm.MethodName)) ∈ sa_Ts := List.mem_filter.mpr ⟨List.mem_append_right _ (List.mem_of_getElem? (i := 282) (by decide +kernel)), by decide +kernel⟩
theorem tw_283 : (Jvm.Cond.classLink "OffThenOn$Reader" (9 : Nat) "OffThenOn$Bytes") ∈ sa_Ts := List.mem_filter.mpr ⟨List.mem_append_right _ (List.mem_of_getElem? (i := 283) (by decide +kernel)), by decide +kernel⟩
theorem tw_284 : (Jvm.Cond.methodLink "OffThenOn$Reader" (11 : Nat) ({ cls := "OffThenOn$Bytes", name := "<init>", desc := "(I)V" } : Jvm.MethodName)) ∈ sa_Ts := List.mem_filter.mpr ⟨List.mem_append_right _ (List.mem_of_getElem? (i := 284) (by decide +kernel)), by decide +kernel⟩
theorem tw_285 : (Jvm.Cond.fieldLink "OffThenOn$Reader" (14 : Nat) "OffThenOn$Reader" "text" "LOffThenOn$Bytes;") ∈ sa_Ts := List.mem_filter.mpr ⟨List.mem_append_right _ (List.mem_of_getElem? (i := 285) (by decide +kernel)), by decide +kernel⟩
theorem tw_327 : (Jvm.Cond.classLink "OffThenOn$HouseReader" (18 : Nat) "OffThenOn$House") ∈ sa_Ts := List.mem_filter.mpr ⟨List.mem_append_right _ (List.mem_of_getElem? (i := 327) (by decide +kernel)), by decide +kernel⟩
theorem tw_329 : (Jvm.Cond.fieldLink "OffThenOn$HouseReader" (12 : Nat) "OffThenOn$HouseReader" "reader" "LOffThenOn$Reader;") ∈ sa_Ts := List.mem_filter.mpr ⟨List.mem_append_right _ (List.mem_of_getElem? (i := 329) (by decide +kernel)), by decide +kernel⟩
theorem tw_331 : (Jvm.Cond.fieldLink "OffThenOn$HouseReader" (21 : Nat) "OffThenOn$HouseReader" "draft" "LOffThenOn$House;") ∈ sa_Ts := List.mem_filter.mpr ⟨List.mem_append_right _ (List.mem_of_getElem? (i := 331) (by decide +kernel)), by decide +kernel⟩
theorem tw_342 : (Jvm.Cond.classLink "OffThenOn" (50 : Nat) "OffThenOn$LogReader") ∈ sa_Ts := List.mem_filter.mpr ⟨List.mem_append_right _ (List.mem_of_getElem? (i := 342) (by decide +kernel)), by decide +kernel⟩
theorem tw_343 : (Jvm.Cond.instantiable "OffThenOn$LogReader" (6 : Nat)) ∈ sa_Ts := List.mem_filter.mpr ⟨List.mem_append_right _ (List.mem_of_getElem? (i := 343) (by decide +kernel)), by decide +kernel⟩
theorem tw_345 : (Jvm.Cond.instanceMethod ({ cls := "OffThenOn$LogReader", name := "<init>", desc := "()V" } : Jvm.MethodName)) ∈ sa_Ts := List.mem_filter.mpr ⟨List.mem_append_right _ (List.mem_of_getElem? (i := 345) (by decide +kernel)), by decide +kernel⟩
theorem tw_346 : (Jvm.Cond.code ({ cls := "OffThenOn$LogReader", name := "<init>", desc := "()V" } : Jvm.MethodName) prog_6_method_1_code (1 : Nat) (Option.none : Option Jvm.ClassFile.FieldType)) ∈ sa_Ts := List.mem_filter.mpr ⟨List.mem_append_right _ (List.mem_of_getElem? (i := 346) (by decide +kernel)), by decide +kernel⟩
theorem tw_347 : (Jvm.Cond.methodLink "OffThenOn$LogReader" (3 : Nat) ({ cls := "java/lang/Object", name := "<init>", desc := "()V" } : Jvm.MethodName)) ∈ sa_Ts := List.mem_filter.mpr ⟨List.mem_append_right _ (List.mem_of_getElem? (i := 347) (by decide +kernel)), by decide +kernel⟩
theorem tw_348 : (Jvm.Cond.classLink "OffThenOn$LogReader" (9 : Nat) "OffThenOn$Reader") ∈ sa_Ts := List.mem_filter.mpr ⟨List.mem_append_right _ (List.mem_of_getElem? (i := 348) (by decide +kernel)), by decide +kernel⟩
theorem tw_350 : (Jvm.Cond.fieldLink "OffThenOn$LogReader" (12 : Nat) "OffThenOn$LogReader" "reader" "LOffThenOn$Reader;") ∈ sa_Ts := List.mem_filter.mpr ⟨List.mem_append_right _ (List.mem_of_getElem? (i := 350) (by decide +kernel)), by decide +kernel⟩
theorem tw_352 : (Jvm.Cond.fieldLink "OffThenOn$LogReader" (18 : Nat) "OffThenOn$LogReader" "verbs" "[I") ∈ sa_Ts := List.mem_filter.mpr ⟨List.mem_append_right _ (List.mem_of_getElem? (i := 352) (by decide +kernel)), by decide +kernel⟩
theorem tw_353 : (Jvm.Cond.fieldLink "OffThenOn$LogReader" (22 : Nat) "OffThenOn$LogReader" "whos" "[I") ∈ sa_Ts := List.mem_filter.mpr ⟨List.mem_append_right _ (List.mem_of_getElem? (i := 353) (by decide +kernel)), by decide +kernel⟩
theorem tw_354 : (Jvm.Cond.fieldLink "OffThenOn$LogReader" (25 : Nat) "OffThenOn$LogReader" "numbers" "[I") ∈ sa_Ts := List.mem_filter.mpr ⟨List.mem_append_right _ (List.mem_of_getElem? (i := 354) (by decide +kernel)), by decide +kernel⟩
theorem tw_371 : (Jvm.Cond.classLink "OffThenOn" (57 : Nat) "OffThenOn$SentenceReader") ∈ sa_Ts := List.mem_filter.mpr ⟨List.mem_append_right _ (List.mem_of_getElem? (i := 371) (by decide +kernel)), by decide +kernel⟩
theorem tw_372 : (Jvm.Cond.instantiable "OffThenOn$SentenceReader" (2 : Nat)) ∈ sa_Ts := List.mem_filter.mpr ⟨List.mem_append_right _ (List.mem_of_getElem? (i := 372) (by decide +kernel)), by decide +kernel⟩
theorem tw_374 : (Jvm.Cond.instanceMethod ({ cls := "OffThenOn$SentenceReader", name := "<init>", desc := "()V" } : Jvm.MethodName)) ∈ sa_Ts := List.mem_filter.mpr ⟨List.mem_append_right _ (List.mem_of_getElem? (i := 374) (by decide +kernel)), by decide +kernel⟩
theorem tw_375 : (Jvm.Cond.code ({ cls := "OffThenOn$SentenceReader", name := "<init>", desc := "()V" } : Jvm.MethodName) prog_10_method_1_code (1 : Nat) (Option.none : Option Jvm.ClassFile.FieldType)) ∈ sa_Ts := List.mem_filter.mpr ⟨List.mem_append_right _ (List.mem_of_getElem? (i := 375) (by decide +kernel)), by decide +kernel⟩
theorem tw_376 : (Jvm.Cond.methodLink "OffThenOn$SentenceReader" (3 : Nat) ({ cls := "java/lang/Object", name := "<init>", desc := "()V" } : Jvm.MethodName)) ∈ sa_Ts := List.mem_filter.mpr ⟨List.mem_append_right _ (List.mem_of_getElem? (i := 376) (by decide +kernel)), by decide +kernel⟩
theorem tw_377 : (Jvm.Cond.classLink "OffThenOn$SentenceReader" (9 : Nat) "OffThenOn$Reader") ∈ sa_Ts := List.mem_filter.mpr ⟨List.mem_append_right _ (List.mem_of_getElem? (i := 377) (by decide +kernel)), by decide +kernel⟩
theorem tw_379 : (Jvm.Cond.classLink "OffThenOn$SentenceReader" (18 : Nat) "OffThenOn$Sentence") ∈ sa_Ts := List.mem_filter.mpr ⟨List.mem_append_right _ (List.mem_of_getElem? (i := 379) (by decide +kernel)), by decide +kernel⟩
theorem tw_381 : (Jvm.Cond.fieldLink "OffThenOn$SentenceReader" (12 : Nat) "OffThenOn$SentenceReader" "reader" "LOffThenOn$Reader;") ∈ sa_Ts := List.mem_filter.mpr ⟨List.mem_append_right _ (List.mem_of_getElem? (i := 381) (by decide +kernel)), by decide +kernel⟩
theorem tw_383 : (Jvm.Cond.fieldLink "OffThenOn$SentenceReader" (21 : Nat) "OffThenOn$SentenceReader" "draft" "LOffThenOn$Sentence;") ∈ sa_Ts := List.mem_filter.mpr ⟨List.mem_append_right _ (List.mem_of_getElem? (i := 383) (by decide +kernel)), by decide +kernel⟩
theorem tw_390 : (Jvm.Cond.classLink "OffThenOn" (64 : Nat) "OffThenOn$Planner") ∈ sa_Ts := List.mem_filter.mpr ⟨List.mem_append_right _ (List.mem_of_getElem? (i := 390) (by decide +kernel)), by decide +kernel⟩
theorem tw_391 : (Jvm.Cond.instantiable "OffThenOn$Planner" (7 : Nat)) ∈ sa_Ts := List.mem_filter.mpr ⟨List.mem_append_right _ (List.mem_of_getElem? (i := 391) (by decide +kernel)), by decide +kernel⟩
theorem tw_393 : (Jvm.Cond.instanceMethod ({ cls := "OffThenOn$Planner", name := "<init>", desc := "()V" } : Jvm.MethodName)) ∈ sa_Ts := List.mem_filter.mpr ⟨List.mem_append_right _ (List.mem_of_getElem? (i := 393) (by decide +kernel)), by decide +kernel⟩
theorem tw_394 : (Jvm.Cond.code ({ cls := "OffThenOn$Planner", name := "<init>", desc := "()V" } : Jvm.MethodName) prog_7_method_1_code (1 : Nat) (Option.none : Option Jvm.ClassFile.FieldType)) ∈ sa_Ts := List.mem_filter.mpr ⟨List.mem_append_right _ (List.mem_of_getElem? (i := 394) (by decide +kernel)), by decide +kernel⟩
theorem tw_395 : (Jvm.Cond.methodLink "OffThenOn$Planner" (3 : Nat) ({ cls := "java/lang/Object", name := "<init>", desc := "()V" } : Jvm.MethodName)) ∈ sa_Ts := List.mem_filter.mpr ⟨List.mem_append_right _ (List.mem_of_getElem? (i := 395) (by decide +kernel)), by decide +kernel⟩
theorem tw_396 : (Jvm.Cond.fieldLink "OffThenOn$Planner" (9 : Nat) "OffThenOn$Planner" "best" "[I") ∈ sa_Ts := List.mem_filter.mpr ⟨List.mem_append_right _ (List.mem_of_getElem? (i := 396) (by decide +kernel)), by decide +kernel⟩
theorem tw_404 : (Jvm.Cond.fieldLink "OffThenOn$Planner" (15 : Nat) "OffThenOn$Planner" "row" "[I") ∈ sa_Ts := List.mem_filter.mpr ⟨List.mem_append_right _ (List.mem_of_getElem? (i := 404) (by decide +kernel)), by decide +kernel⟩
theorem tw_405 : (Jvm.Cond.fieldLink "OffThenOn$Planner" (18 : Nat) "OffThenOn$Planner" "weights" "[I") ∈ sa_Ts := List.mem_filter.mpr ⟨List.mem_append_right _ (List.mem_of_getElem? (i := 405) (by decide +kernel)), by decide +kernel⟩
theorem tw_406 : (Jvm.Cond.fieldLink "OffThenOn$Planner" (21 : Nat) "OffThenOn$Planner" "costs" "[I") ∈ sa_Ts := List.mem_filter.mpr ⟨List.mem_append_right _ (List.mem_of_getElem? (i := 406) (by decide +kernel)), by decide +kernel⟩
theorem tw_422 : (Jvm.Cond.fieldLink "OffThenOn" (14 : Nat) "OffThenOn" "tape" "LOffThenOn$Bytes;") ∈ sa_Ts := List.mem_filter.mpr ⟨List.mem_append_right _ (List.mem_of_getElem? (i := 422) (by decide +kernel)), by decide +kernel⟩
theorem tw_423 : (Jvm.Cond.fieldLink "OffThenOn" (21 : Nat) "OffThenOn" "world" "LOffThenOn$World;") ∈ sa_Ts := List.mem_filter.mpr ⟨List.mem_append_right _ (List.mem_of_getElem? (i := 423) (by decide +kernel)), by decide +kernel⟩
theorem tw_424 : (Jvm.Cond.fieldLink "OffThenOn" (25 : Nat) "OffThenOn" "kept" "[LOffThenOn$World;") ∈ sa_Ts := List.mem_filter.mpr ⟨List.mem_append_right _ (List.mem_of_getElem? (i := 424) (by decide +kernel)), by decide +kernel⟩
theorem tw_425 : (Jvm.Cond.fieldLink "OffThenOn" (32 : Nat) "OffThenOn" "history" "LOffThenOn$History;") ∈ sa_Ts := List.mem_filter.mpr ⟨List.mem_append_right _ (List.mem_of_getElem? (i := 425) (by decide +kernel)), by decide +kernel⟩
theorem tw_426 : (Jvm.Cond.fieldLink "OffThenOn" (39 : Nat) "OffThenOn" "scratch" "LOffThenOn$State;") ∈ sa_Ts := List.mem_filter.mpr ⟨List.mem_append_right _ (List.mem_of_getElem? (i := 426) (by decide +kernel)), by decide +kernel⟩
theorem tw_427 : (Jvm.Cond.fieldLink "OffThenOn" (46 : Nat) "OffThenOn" "houseReader" "LOffThenOn$HouseReader;") ∈ sa_Ts := List.mem_filter.mpr ⟨List.mem_append_right _ (List.mem_of_getElem? (i := 427) (by decide +kernel)), by decide +kernel⟩
theorem tw_428 : (Jvm.Cond.fieldLink "OffThenOn" (53 : Nat) "OffThenOn" "logReader" "LOffThenOn$LogReader;") ∈ sa_Ts := List.mem_filter.mpr ⟨List.mem_append_right _ (List.mem_of_getElem? (i := 428) (by decide +kernel)), by decide +kernel⟩
theorem tw_429 : (Jvm.Cond.fieldLink "OffThenOn" (60 : Nat) "OffThenOn" "sentenceReader" "LOffThenOn$SentenceReader;") ∈ sa_Ts := List.mem_filter.mpr ⟨List.mem_append_right _ (List.mem_of_getElem? (i := 429) (by decide +kernel)), by decide +kernel⟩
theorem tw_430 : (Jvm.Cond.fieldLink "OffThenOn" (67 : Nat) "OffThenOn" "planner" "LOffThenOn$Planner;") ∈ sa_Ts := List.mem_filter.mpr ⟨List.mem_append_right _ (List.mem_of_getElem? (i := 430) (by decide +kernel)), by decide +kernel⟩
theorem tw_431 : (Jvm.Cond.fieldLink "OffThenOn" (71 : Nat) "OffThenOn" "told" "LOffThenOn$Bytes;") ∈ sa_Ts := List.mem_filter.mpr ⟨List.mem_append_right _ (List.mem_of_getElem? (i := 431) (by decide +kernel)), by decide +kernel⟩
theorem tw_432 : (Jvm.Cond.fieldLink "OffThenOn" (74 : Nat) "OffThenOn" "likelyOdds" "[I") ∈ sa_Ts := List.mem_filter.mpr ⟨List.mem_append_right _ (List.mem_of_getElem? (i := 432) (by decide +kernel)), by decide +kernel⟩
theorem tw_433 : (Jvm.Cond.fieldLink "OffThenOn" (78 : Nat) "OffThenOn" "judged" "[I") ∈ sa_Ts := List.mem_filter.mpr ⟨List.mem_append_right _ (List.mem_of_getElem? (i := 433) (by decide +kernel)), by decide +kernel⟩
theorem tw_436 : (Jvm.Cond.fieldLink "OffThenOn" (81 : Nat) "OffThenOn" "ways" "I") ∈ sa_Ts := List.mem_filter.mpr ⟨List.mem_append_right _ (List.mem_of_getElem? (i := 436) (by decide +kernel)), by decide +kernel⟩
theorem tw_437 : (Jvm.Cond.fieldLink "OffThenOn" (85 : Nat) "OffThenOn" "leftByLook" "I") ∈ sa_Ts := List.mem_filter.mpr ⟨List.mem_append_right _ (List.mem_of_getElem? (i := 437) (by decide +kernel)), by decide +kernel⟩
theorem tw_1260 : (Jvm.Cond.methodLink "OffThenOnModel" (1 : Nat) ({ cls := "java/lang/Object", name := "<init>", desc := "()V" } : Jvm.MethodName)) ∈ sa_Ts := List.mem_filter.mpr ⟨List.mem_append_right _ (List.mem_of_getElem? (i := 1260) (by decide +kernel)), by decide +kernel⟩
theorem tw_1262 : (Jvm.Cond.fieldLink "OffThenOnModel" (7 : Nat) "OffThenOnModel" "tape" "[I") ∈ sa_Ts := List.mem_filter.mpr ⟨List.mem_append_right _ (List.mem_of_getElem? (i := 1262) (by decide +kernel)), by decide +kernel⟩
theorem tw_1275 : (Jvm.Cond.fieldLink "OffThenOnModel" (13 : Nat) "OffThenOnModel" "now" "[I") ∈ sa_Ts := List.mem_filter.mpr ⟨List.mem_append_right _ (List.mem_of_getElem? (i := 1275) (by decide +kernel)), by decide +kernel⟩
theorem tw_1276 : (Jvm.Cond.fieldLink "OffThenOnModel" (16 : Nat) "OffThenOnModel" "read" "[I") ∈ sa_Ts := List.mem_filter.mpr ⟨List.mem_append_right _ (List.mem_of_getElem? (i := 1276) (by decide +kernel)), by decide +kernel⟩
theorem tw_1277 : (Jvm.Cond.fieldLink "OffThenOnModel" (19 : Nat) "OffThenOnModel" "kept" "[I") ∈ sa_Ts := List.mem_filter.mpr ⟨List.mem_append_right _ (List.mem_of_getElem? (i := 1277) (by decide +kernel)), by decide +kernel⟩
theorem tw_1278 : (Jvm.Cond.fieldLink "OffThenOnModel" (22 : Nat) "OffThenOnModel" "snaps" "[I") ∈ sa_Ts := List.mem_filter.mpr ⟨List.mem_append_right _ (List.mem_of_getElem? (i := 1278) (by decide +kernel)), by decide +kernel⟩
theorem tw_1279 : (Jvm.Cond.fieldLink "OffThenOnModel" (25 : Nat) "OffThenOnModel" "aside" "[I") ∈ sa_Ts := List.mem_filter.mpr ⟨List.mem_append_right _ (List.mem_of_getElem? (i := 1279) (by decide +kernel)), by decide +kernel⟩
theorem tw_1280 : (Jvm.Cond.fieldLink "OffThenOnModel" (28 : Nat) "OffThenOnModel" "name" "[J") ∈ sa_Ts := List.mem_filter.mpr ⟨List.mem_append_right _ (List.mem_of_getElem? (i := 1280) (by decide +kernel)), by decide +kernel⟩
theorem tw_1281 : (Jvm.Cond.fieldLink "OffThenOnModel" (32 : Nat) "OffThenOnModel" "readName" "[J") ∈ sa_Ts := List.mem_filter.mpr ⟨List.mem_append_right _ (List.mem_of_getElem? (i := 1281) (by decide +kernel)), by decide +kernel⟩
theorem tw_1282 : (Jvm.Cond.fieldLink "OffThenOnModel" (35 : Nat) "OffThenOnModel" "keptName" "[J") ∈ sa_Ts := List.mem_filter.mpr ⟨List.mem_append_right _ (List.mem_of_getElem? (i := 1282) (by decide +kernel)), by decide +kernel⟩
theorem tw_1283 : (Jvm.Cond.fieldLink "OffThenOnModel" (38 : Nat) "OffThenOnModel" "isKept" "[Z") ∈ sa_Ts := List.mem_filter.mpr ⟨List.mem_append_right _ (List.mem_of_getElem? (i := 1283) (by decide +kernel)), by decide +kernel⟩
theorem tw_1287 : (Jvm.Cond.fieldLink "OffThenOnModel" (42 : Nat) "OffThenOnModel" "likelyOdds" "[I") ∈ sa_Ts := List.mem_filter.mpr ⟨List.mem_append_right _ (List.mem_of_getElem? (i := 1287) (by decide +kernel)), by decide +kernel⟩
theorem tw_1288 : (Jvm.Cond.fieldLink "OffThenOnModel" (45 : Nat) "OffThenOnModel" "weight" "[I") ∈ sa_Ts := List.mem_filter.mpr ⟨List.mem_append_right _ (List.mem_of_getElem? (i := 1288) (by decide +kernel)), by decide +kernel⟩
theorem tw_1289 : (Jvm.Cond.fieldLink "OffThenOnModel" (48 : Nat) "OffThenOnModel" "trying" "[I") ∈ sa_Ts := List.mem_filter.mpr ⟨List.mem_append_right _ (List.mem_of_getElem? (i := 1289) (by decide +kernel)), by decide +kernel⟩
theorem tw_1290 : (Jvm.Cond.fieldLink "OffThenOnModel" (51 : Nat) "OffThenOnModel" "planned" "[I") ∈ sa_Ts := List.mem_filter.mpr ⟨List.mem_append_right _ (List.mem_of_getElem? (i := 1290) (by decide +kernel)), by decide +kernel⟩
theorem tw_1293 : (Jvm.Cond.fieldLink "OffThenOnModel" (54 : Nat) "OffThenOnModel" "lots" "I") ∈ sa_Ts := List.mem_filter.mpr ⟨List.mem_append_right _ (List.mem_of_getElem? (i := 1293) (by decide +kernel)), by decide +kernel⟩
theorem tw_1294 : (Jvm.Cond.fieldLink "OffThenOnModel" (58 : Nat) "OffThenOnModel" "left" "I") ∈ sa_Ts := List.mem_filter.mpr ⟨List.mem_append_right _ (List.mem_of_getElem? (i := 1294) (by decide +kernel)), by decide +kernel⟩
theorem tw_1295 : (Jvm.Cond.fieldLink "OffThenOnModel" (61 : Nat) "OffThenOnModel" "text" "[I") ∈ sa_Ts := List.mem_filter.mpr ⟨List.mem_append_right _ (List.mem_of_getElem? (i := 1295) (by decide +kernel)), by decide +kernel⟩
theorem tw_1297 : (Jvm.Cond.fieldLink "OffThenOnModel" (64 : Nat) "OffThenOnModel" "line" "[I") ∈ sa_Ts := List.mem_filter.mpr ⟨List.mem_append_right _ (List.mem_of_getElem? (i := 1297) (by decide +kernel)), by decide +kernel⟩
theorem tw_1298 : (Jvm.Cond.fieldLink "OffThenOnModel" (67 : Nat) "OffThenOnModel" "logged" "[I") ∈ sa_Ts := List.mem_filter.mpr ⟨List.mem_append_right _ (List.mem_of_getElem? (i := 1298) (by decide +kernel)), by decide +kernel⟩
theorem tw_1301 : (Jvm.Cond.fieldLink "OffThenOnModel" (70 : Nat) "OffThenOnModel" "node" "[I") ∈ sa_Ts := List.mem_filter.mpr ⟨List.mem_append_right _ (List.mem_of_getElem? (i := 1301) (by decide +kernel)), by decide +kernel⟩
theorem tw_1397 : (Jvm.Cond.arrayClass Jvm.ClassFile.FieldType.boolean) ∈ sa_Ts := List.mem_filter.mpr ⟨List.mem_append_right _ (List.mem_of_getElem? (i := 1397) (by decide +kernel)), by decide +kernel⟩
theorem ya_X0_init : sa_arg yX0_init 1 := ⟨by decide +kernel, by decide +kernel, by decide +kernel⟩
theorem ya_X2_init : sa_arg yX2_init 0 := ⟨by decide +kernel, by decide +kernel, by decide +kernel⟩
theorem ya_X9_init : sa_arg yX9_init 0 := ⟨by decide +kernel, by decide +kernel, by decide +kernel⟩
theorem ya_X7_init : sa_arg yX7_init 0 := ⟨by decide +kernel, by decide +kernel, by decide +kernel⟩
theorem ya_X10_init : sa_arg yX10_init 0 := ⟨by decide +kernel, by decide +kernel, by decide +kernel⟩
theorem ya_X1_init : sa_arg yX1_init 0 := ⟨by decide +kernel, by decide +kernel, by decide +kernel⟩
theorem ya_X6_init : sa_arg yX6_init 0 := ⟨by decide +kernel, by decide +kernel, by decide +kernel⟩
theorem ya_X3_init : sa_arg yX3_init 0 := ⟨by decide +kernel, by decide +kernel, by decide +kernel⟩
theorem ya_X4_init : sa_arg yX4_init 0 := ⟨by decide +kernel, by decide +kernel, by decide +kernel⟩
theorem ya_X8_init : sa_arg yX8_init 0 := ⟨by decide +kernel, by decide +kernel, by decide +kernel⟩
theorem ya_X5_init : sa_arg yX5_init 0 := ⟨by decide +kernel, by decide +kernel, by decide +kernel⟩
theorem nl_0 : ("OffThenOn", 20, (⟨"OffThenOn$World", "<init>", "()V"⟩ : MethodName), "OffThenOn") ∈ sa_NL := by decide +kernel
theorem nl_1 : ("OffThenOn$World", 9, (⟨"OffThenOn$House", "<init>", "()V"⟩ : MethodName), "OffThenOn") ∈ sa_NL := by decide +kernel
theorem nl_2 : ("OffThenOn$World", 18, (⟨"OffThenOn$State", "<init>", "()V"⟩ : MethodName), "OffThenOn") ∈ sa_NL := by decide +kernel
theorem nl_3 : ("OffThenOn$World", 25, (⟨"OffThenOn$Sentence", "<init>", "()V"⟩ : MethodName), "OffThenOn") ∈ sa_NL := by decide +kernel
theorem nl_4 : ("OffThenOn$History", 17, (⟨"OffThenOn$State", "<init>", "()V"⟩ : MethodName), "OffThenOn") ∈ sa_NL := by decide +kernel
theorem nl_5 : ("OffThenOn", 38, (⟨"OffThenOn$State", "<init>", "()V"⟩ : MethodName), "OffThenOn") ∈ sa_NL := by decide +kernel
theorem nl_6 : ("OffThenOn", 45, (⟨"OffThenOn$HouseReader", "<init>", "()V"⟩ : MethodName), "OffThenOn") ∈ sa_NL := by decide +kernel
theorem nl_7 : ("OffThenOn$HouseReader", 11, (⟨"OffThenOn$Reader", "<init>", "()V"⟩ : MethodName), "OffThenOn") ∈ sa_NL := by decide +kernel
theorem nl_8 : ("OffThenOn$HouseReader", 20, (⟨"OffThenOn$House", "<init>", "()V"⟩ : MethodName), "OffThenOn") ∈ sa_NL := by decide +kernel
theorem nl_9 : ("OffThenOn", 52, (⟨"OffThenOn$LogReader", "<init>", "()V"⟩ : MethodName), "OffThenOn") ∈ sa_NL := by decide +kernel
theorem nl_10 : ("OffThenOn$LogReader", 11, (⟨"OffThenOn$Reader", "<init>", "()V"⟩ : MethodName), "OffThenOn") ∈ sa_NL := by decide +kernel
theorem nl_11 : ("OffThenOn", 59, (⟨"OffThenOn$SentenceReader", "<init>", "()V"⟩ : MethodName), "OffThenOn") ∈ sa_NL := by decide +kernel
theorem nl_12 : ("OffThenOn$SentenceReader", 11, (⟨"OffThenOn$Reader", "<init>", "()V"⟩ : MethodName), "OffThenOn") ∈ sa_NL := by decide +kernel
theorem nl_13 : ("OffThenOn$SentenceReader", 20, (⟨"OffThenOn$Sentence", "<init>", "()V"⟩ : MethodName), "OffThenOn") ∈ sa_NL := by decide +kernel
theorem nl_14 : ("OffThenOn", 66, (⟨"OffThenOn$Planner", "<init>", "()V"⟩ : MethodName), "OffThenOn") ∈ sa_NL := by decide +kernel
theorem nl_15 : ("OffThenOn$House", 68, (⟨"OffThenOn", "bit", "(II)I"⟩ : MethodName), "OffThenOn") ∈ sa_NL := by decide +kernel
theorem nl_16 : ("OffThenOn$State", 63, (⟨"OffThenOn", "bit", "(II)I"⟩ : MethodName), "OffThenOn") ∈ sa_NL := by decide +kernel
theorem nl_17 : ("OffThenOn$Sentence", 59, (⟨"OffThenOn", "bit", "(II)I"⟩ : MethodName), "OffThenOn") ∈ sa_NL := by decide +kernel
theorem nl_18 : ("OffThenOn$Planner", 32, (⟨"OffThenOn", "bit", "(II)I"⟩ : MethodName), "OffThenOn") ∈ sa_NL := by decide +kernel
theorem kcX0 : sa_cls vwCl sa_Ts 0 RX0 TX0 2 tyX0 := ⟨rfl, by decide +kernel, tyX0_ok, nmX0⟩
theorem kcX1 : sa_cls vwCl sa_Ts 1 RX1 TX1 3 tyX1 := ⟨rfl, by decide +kernel, tyX1_ok, nmX1⟩
theorem kcX2 : sa_cls vwCl sa_Ts 2 RX2 TX2 16 tyX2 := ⟨rfl, by decide +kernel, tyX2_ok, nmX2⟩
theorem kcX3 : sa_cls vwCl sa_Ts 3 RX3 TX3 3 tyX3 := ⟨rfl, by decide +kernel, tyX3_ok, nmX3⟩
theorem kcX4 : sa_cls vwCl sa_Ts 4 RX4 TX4 6 tyX4 := ⟨rfl, by decide +kernel, tyX4_ok, nmX4⟩
theorem kcX5 : sa_cls vwCl sa_Ts 5 RX5 TX5 7 tyX5 := ⟨rfl, by decide +kernel, tyX5_ok, nmX5⟩
theorem kcX6 : sa_cls vwCl sa_Ts 6 RX6 TX6 10 tyX6 := ⟨rfl, by decide +kernel, tyX6_ok, nmX6⟩
theorem kcX7 : sa_cls vwCl sa_Ts 7 RX7 TX7 6 tyX7 := ⟨rfl, by decide +kernel, tyX7_ok, nmX7⟩
theorem kcX8 : sa_cls vwCl sa_Ts 8 RX8 TX8 2 tyX8 := ⟨rfl, by decide +kernel, tyX8_ok, nmX8⟩
theorem kcX9 : sa_cls vwCl sa_Ts 9 RX9 TX9 13 tyX9 := ⟨rfl, by decide +kernel, tyX9_ok, nmX9⟩
theorem kcX10 : sa_cls vwCl sa_Ts 10 RX10 TX10 4 tyX10 := ⟨rfl, by decide +kernel, tyX10_ok, nmX10⟩
theorem kcX11 : sa_cls vwCl sa_Ts 11 RX11 TX11 17 tyX11 := ⟨rfl, by decide +kernel, tyX11_ok, nmX11⟩
theorem kcX12 : sa_cls vwCl sa_Ts 12 RX12 TX12 45 tyX12 := ⟨rfl, by decide +kernel, tyX12_ok, nmX12⟩
end
section
theorem dX0_init_0 : decode cX0_init 0 = .ok (.aload_n 0, 1) := by decide +kernel
theorem dX0_init_1 : decode cX0_init 1 = .ok (.invokespecial 3, 3) := by decide +kernel
theorem dX0_init_4 : decode cX0_init 4 = .ok (.aload_n 0, 1) := by decide +kernel
theorem dX0_init_5 : decode cX0_init 5 = .ok (.iload_n 1, 1) := by decide +kernel
theorem dX0_init_6 : decode cX0_init 6 = .ok (.newarray .byte, 2) := by decide +kernel
theorem dX0_init_8 : decode cX0_init 8 = .ok (.putfield 9, 3) := by decide +kernel
theorem dX0_init_11 : decode cX0_init 11 = .ok (.return_, 1) := by decide +kernel
theorem dX1_init_0 : decode cX1_init 0 = .ok (.aload_n 0, 1) := by decide +kernel
theorem dX1_init_1 : decode cX1_init 1 = .ok (.invokespecial 3, 3) := by decide +kernel
theorem dX1_init_4 : decode cX1_init 4 = .ok (.aload_n 0, 1) := by decide +kernel
theorem dX1_init_5 : decode cX1_init 5 = .ok (.bipush 9, 2) := by decide +kernel
theorem dX1_init_7 : decode cX1_init 7 = .ok (.anewarray 11, 3) := by decide +kernel
theorem dX1_init_10 : decode cX1_init 10 = .ok (.putfield 13, 3) := by decide +kernel
theorem dX1_init_13 : decode cX1_init 13 = .ok (.iconst 0, 1) := by decide +kernel
theorem dX1_init_14 : decode cX1_init 14 = .ok (.istore_n 1, 1) := by decide +kernel
theorem dX1_init_15 : decode cX1_init 15 = .ok (.iload_n 1, 1) := by decide +kernel
theorem dX1_init_16 : decode cX1_init 16 = .ok (.bipush 9, 2) := by decide +kernel
theorem dX1_init_18 : decode cX1_init 18 = .ok (.if_icmp .ge 22, 3) := by decide +kernel
theorem dX1_init_21 : decode cX1_init 21 = .ok (.aload_n 0, 1) := by decide +kernel
theorem dX1_init_22 : decode cX1_init 22 = .ok (.getfield 13, 3) := by decide +kernel
theorem dX1_init_25 : decode cX1_init 25 = .ok (.iload_n 1, 1) := by decide +kernel
theorem dX1_init_26 : decode cX1_init 26 = .ok (.new 11, 3) := by decide +kernel
theorem dX1_init_29 : decode cX1_init 29 = .ok (.dup, 1) := by decide +kernel
theorem dX1_init_30 : decode cX1_init 30 = .ok (.invokespecial 17, 3) := by decide +kernel
theorem dX1_init_33 : decode cX1_init 33 = .ok (.aastore, 1) := by decide +kernel
theorem dX1_init_34 : decode cX1_init 34 = .ok (.iinc 1 1, 3) := by decide +kernel
theorem dX1_init_37 : decode cX1_init 37 = .ok (.goto (-22), 3) := by decide +kernel
theorem dX1_init_40 : decode cX1_init 40 = .ok (.return_, 1) := by decide +kernel
theorem dX2_init_0 : decode cX2_init 0 = .ok (.aload_n 0, 1) := by decide +kernel
theorem dX2_init_1 : decode cX2_init 1 = .ok (.invokespecial 3, 3) := by decide +kernel
theorem dX2_init_4 : decode cX2_init 4 = .ok (.aload_n 0, 1) := by decide +kernel
theorem dX2_init_5 : decode cX2_init 5 = .ok (.bipush 6, 2) := by decide +kernel
theorem dX2_init_7 : decode cX2_init 7 = .ok (.newarray .long, 2) := by decide +kernel
theorem dX2_init_9 : decode cX2_init 9 = .ok (.putfield 9, 3) := by decide +kernel
theorem dX2_init_12 : decode cX2_init 12 = .ok (.aload_n 0, 1) := by decide +kernel
theorem dX2_init_13 : decode cX2_init 13 = .ok (.bipush 6, 2) := by decide +kernel
theorem dX2_init_15 : decode cX2_init 15 = .ok (.newarray .int, 2) := by decide +kernel
theorem dX2_init_17 : decode cX2_init 17 = .ok (.putfield 15, 3) := by decide +kernel
theorem dX2_init_20 : decode cX2_init 20 = .ok (.aload_n 0, 1) := by decide +kernel
theorem dX2_init_21 : decode cX2_init 21 = .ok (.bipush 6, 2) := by decide +kernel
theorem dX2_init_23 : decode cX2_init 23 = .ok (.newarray .int, 2) := by decide +kernel
theorem dX2_init_25 : decode cX2_init 25 = .ok (.putfield 19, 3) := by decide +kernel
theorem dX2_init_28 : decode cX2_init 28 = .ok (.aload_n 0, 1) := by decide +kernel
theorem dX2_init_29 : decode cX2_init 29 = .ok (.bipush 6, 2) := by decide +kernel
theorem dX2_init_31 : decode cX2_init 31 = .ok (.newarray .int, 2) := by decide +kernel
theorem dX2_init_33 : decode cX2_init 33 = .ok (.putfield 22, 3) := by decide +kernel
theorem dX2_init_36 : decode cX2_init 36 = .ok (.aload_n 0, 1) := by decide +kernel
theorem dX2_init_37 : decode cX2_init 37 = .ok (.bipush 6, 2) := by decide +kernel
theorem dX2_init_39 : decode cX2_init 39 = .ok (.newarray .int, 2) := by decide +kernel
theorem dX2_init_41 : decode cX2_init 41 = .ok (.putfield 25, 3) := by decide +kernel
theorem dX2_init_44 : decode cX2_init 44 = .ok (.aload_n 0, 1) := by decide +kernel
theorem dX2_init_45 : decode cX2_init 45 = .ok (.bipush 6, 2) := by decide +kernel
theorem dX2_init_47 : decode cX2_init 47 = .ok (.newarray .int, 2) := by decide +kernel
theorem dX2_init_49 : decode cX2_init 49 = .ok (.putfield 28, 3) := by decide +kernel
theorem dX2_init_52 : decode cX2_init 52 = .ok (.aload_n 0, 1) := by decide +kernel
theorem dX2_init_53 : decode cX2_init 53 = .ok (.bipush 6, 2) := by decide +kernel
theorem dX2_init_55 : decode cX2_init 55 = .ok (.newarray .int, 2) := by decide +kernel
theorem dX2_init_57 : decode cX2_init 57 = .ok (.putfield 31, 3) := by decide +kernel
theorem dX2_init_60 : decode cX2_init 60 = .ok (.aload_n 0, 1) := by decide +kernel
theorem dX2_init_61 : decode cX2_init 61 = .ok (.bipush 8, 2) := by decide +kernel
theorem dX2_init_63 : decode cX2_init 63 = .ok (.newarray .long, 2) := by decide +kernel
theorem dX2_init_65 : decode cX2_init 65 = .ok (.putfield 34, 3) := by decide +kernel
theorem dX2_init_68 : decode cX2_init 68 = .ok (.aload_n 0, 1) := by decide +kernel
theorem dX2_init_69 : decode cX2_init 69 = .ok (.bipush 8, 2) := by decide +kernel
theorem dX2_init_71 : decode cX2_init 71 = .ok (.newarray .int, 2) := by decide +kernel
theorem dX2_init_73 : decode cX2_init 73 = .ok (.putfield 37, 3) := by decide +kernel
theorem dX2_init_76 : decode cX2_init 76 = .ok (.aload_n 0, 1) := by decide +kernel
theorem dX2_init_77 : decode cX2_init 77 = .ok (.bipush 8, 2) := by decide +kernel
theorem dX2_init_79 : decode cX2_init 79 = .ok (.newarray .int, 2) := by decide +kernel
theorem dX2_init_81 : decode cX2_init 81 = .ok (.putfield 40, 3) := by decide +kernel
theorem dX2_init_84 : decode cX2_init 84 = .ok (.aload_n 0, 1) := by decide +kernel
theorem dX2_init_85 : decode cX2_init 85 = .ok (.bipush 8, 2) := by decide +kernel
theorem dX2_init_87 : decode cX2_init 87 = .ok (.newarray .int, 2) := by decide +kernel
theorem dX2_init_89 : decode cX2_init 89 = .ok (.putfield 43, 3) := by decide +kernel
theorem dX2_init_92 : decode cX2_init 92 = .ok (.aload_n 0, 1) := by decide +kernel
theorem dX2_init_93 : decode cX2_init 93 = .ok (.bipush 8, 2) := by decide +kernel
theorem dX2_init_95 : decode cX2_init 95 = .ok (.newarray .int, 2) := by decide +kernel
theorem dX2_init_97 : decode cX2_init 97 = .ok (.putfield 46, 3) := by decide +kernel
theorem dX2_init_100 : decode cX2_init 100 = .ok (.aload_n 0, 1) := by decide +kernel
theorem dX2_init_101 : decode cX2_init 101 = .ok (.bipush 24, 2) := by decide +kernel
theorem dX2_init_103 : decode cX2_init 103 = .ok (.newarray .int, 2) := by decide +kernel
theorem dX2_init_105 : decode cX2_init 105 = .ok (.putfield 49, 3) := by decide +kernel
theorem dX2_init_108 : decode cX2_init 108 = .ok (.return_, 1) := by decide +kernel
theorem dX3_init_0 : decode cX3_init 0 = .ok (.aload_n 0, 1) := by decide +kernel
theorem dX3_init_1 : decode cX3_init 1 = .ok (.invokespecial 3, 3) := by decide +kernel
theorem dX3_init_4 : decode cX3_init 4 = .ok (.aload_n 0, 1) := by decide +kernel
theorem dX3_init_5 : decode cX3_init 5 = .ok (.new 9, 3) := by decide +kernel
theorem dX3_init_8 : decode cX3_init 8 = .ok (.dup, 1) := by decide +kernel
theorem dX3_init_9 : decode cX3_init 9 = .ok (.invokespecial 11, 3) := by decide +kernel
theorem dX3_init_12 : decode cX3_init 12 = .ok (.putfield 12, 3) := by decide +kernel
theorem dX3_init_15 : decode cX3_init 15 = .ok (.aload_n 0, 1) := by decide +kernel
theorem dX3_init_16 : decode cX3_init 16 = .ok (.new 18, 3) := by decide +kernel
theorem dX3_init_19 : decode cX3_init 19 = .ok (.dup, 1) := by decide +kernel
theorem dX3_init_20 : decode cX3_init 20 = .ok (.invokespecial 20, 3) := by decide +kernel
theorem dX3_init_23 : decode cX3_init 23 = .ok (.putfield 21, 3) := by decide +kernel
theorem dX3_init_26 : decode cX3_init 26 = .ok (.return_, 1) := by decide +kernel
theorem dX4_init_0 : decode cX4_init 0 = .ok (.aload_n 0, 1) := by decide +kernel
theorem dX4_init_1 : decode cX4_init 1 = .ok (.invokespecial 3, 3) := by decide +kernel
theorem dX4_init_4 : decode cX4_init 4 = .ok (.aload_n 0, 1) := by decide +kernel
theorem dX4_init_5 : decode cX4_init 5 = .ok (.new 9, 3) := by decide +kernel
theorem dX4_init_8 : decode cX4_init 8 = .ok (.dup, 1) := by decide +kernel
theorem dX4_init_9 : decode cX4_init 9 = .ok (.invokespecial 11, 3) := by decide +kernel
theorem dX4_init_12 : decode cX4_init 12 = .ok (.putfield 12, 3) := by decide +kernel
theorem dX4_init_15 : decode cX4_init 15 = .ok (.aload_n 0, 1) := by decide +kernel
theorem dX4_init_16 : decode cX4_init 16 = .ok (.bipush 40, 2) := by decide +kernel
theorem dX4_init_18 : decode cX4_init 18 = .ok (.newarray .int, 2) := by decide +kernel
theorem dX4_init_20 : decode cX4_init 20 = .ok (.putfield 18, 3) := by decide +kernel
theorem dX4_init_23 : decode cX4_init 23 = .ok (.aload_n 0, 1) := by decide +kernel
theorem dX4_init_24 : decode cX4_init 24 = .ok (.bipush 40, 2) := by decide +kernel
theorem dX4_init_26 : decode cX4_init 26 = .ok (.newarray .int, 2) := by decide +kernel
theorem dX4_init_28 : decode cX4_init 28 = .ok (.putfield 22, 3) := by decide +kernel
theorem dX4_init_31 : decode cX4_init 31 = .ok (.aload_n 0, 1) := by decide +kernel
theorem dX4_init_32 : decode cX4_init 32 = .ok (.bipush 40, 2) := by decide +kernel
theorem dX4_init_34 : decode cX4_init 34 = .ok (.newarray .int, 2) := by decide +kernel
theorem dX4_init_36 : decode cX4_init 36 = .ok (.putfield 25, 3) := by decide +kernel
theorem dX4_init_39 : decode cX4_init 39 = .ok (.return_, 1) := by decide +kernel
theorem dX5_init_0 : decode cX5_init 0 = .ok (.aload_n 0, 1) := by decide +kernel
theorem dX5_init_1 : decode cX5_init 1 = .ok (.invokespecial 3, 3) := by decide +kernel
theorem dX5_init_4 : decode cX5_init 4 = .ok (.aload_n 0, 1) := by decide +kernel
theorem dX5_init_5 : decode cX5_init 5 = .ok (.iconst 4, 1) := by decide +kernel
theorem dX5_init_6 : decode cX5_init 6 = .ok (.newarray .int, 2) := by decide +kernel
theorem dX5_init_8 : decode cX5_init 8 = .ok (.putfield 9, 3) := by decide +kernel
theorem dX5_init_11 : decode cX5_init 11 = .ok (.aload_n 0, 1) := by decide +kernel
theorem dX5_init_12 : decode cX5_init 12 = .ok (.iconst 4, 1) := by decide +kernel
theorem dX5_init_13 : decode cX5_init 13 = .ok (.newarray .int, 2) := by decide +kernel
theorem dX5_init_15 : decode cX5_init 15 = .ok (.putfield 15, 3) := by decide +kernel
theorem dX5_init_18 : decode cX5_init 18 = .ok (.aload_n 0, 1) := by decide +kernel
theorem dX5_init_19 : decode cX5_init 19 = .ok (.bipush 32, 2) := by decide +kernel
theorem dX5_init_21 : decode cX5_init 21 = .ok (.newarray .int, 2) := by decide +kernel
theorem dX5_init_23 : decode cX5_init 23 = .ok (.putfield 18, 3) := by decide +kernel
theorem dX5_init_26 : decode cX5_init 26 = .ok (.aload_n 0, 1) := by decide +kernel
theorem dX5_init_27 : decode cX5_init 27 = .ok (.iconst 4, 1) := by decide +kernel
theorem dX5_init_28 : decode cX5_init 28 = .ok (.newarray .int, 2) := by decide +kernel
theorem dX5_init_30 : decode cX5_init 30 = .ok (.putfield 21, 3) := by decide +kernel
theorem dX5_init_33 : decode cX5_init 33 = .ok (.return_, 1) := by decide +kernel
theorem dX6_init_0 : decode cX6_init 0 = .ok (.aload_n 0, 1) := by decide +kernel
theorem dX6_init_1 : decode cX6_init 1 = .ok (.invokespecial 3, 3) := by decide +kernel
theorem dX6_init_4 : decode cX6_init 4 = .ok (.aload_n 0, 1) := by decide +kernel
theorem dX6_init_5 : decode cX6_init 5 = .ok (.new 9, 3) := by decide +kernel
theorem dX6_init_8 : decode cX6_init 8 = .ok (.dup, 1) := by decide +kernel
theorem dX6_init_9 : decode cX6_init 9 = .ok (.iconst 0, 1) := by decide +kernel
theorem dX6_init_10 : decode cX6_init 10 = .ok (.invokespecial 11, 3) := by decide +kernel
theorem dX6_init_13 : decode cX6_init 13 = .ok (.putfield 14, 3) := by decide +kernel
theorem dX6_init_16 : decode cX6_init 16 = .ok (.return_, 1) := by decide +kernel
theorem dX7_init_0 : decode cX7_init 0 = .ok (.aload_n 0, 1) := by decide +kernel
theorem dX7_init_1 : decode cX7_init 1 = .ok (.invokespecial 3, 3) := by decide +kernel
theorem dX7_init_4 : decode cX7_init 4 = .ok (.aload_n 0, 1) := by decide +kernel
theorem dX7_init_5 : decode cX7_init 5 = .ok (.bipush 40, 2) := by decide +kernel
theorem dX7_init_7 : decode cX7_init 7 = .ok (.newarray .int, 2) := by decide +kernel
theorem dX7_init_9 : decode cX7_init 9 = .ok (.putfield 11, 3) := by decide +kernel
theorem dX7_init_12 : decode cX7_init 12 = .ok (.aload_n 0, 1) := by decide +kernel
theorem dX7_init_13 : decode cX7_init 13 = .ok (.bipush 40, 2) := by decide +kernel
theorem dX7_init_15 : decode cX7_init 15 = .ok (.newarray .int, 2) := by decide +kernel
theorem dX7_init_17 : decode cX7_init 17 = .ok (.putfield 15, 3) := by decide +kernel
theorem dX7_init_20 : decode cX7_init 20 = .ok (.aload_n 0, 1) := by decide +kernel
theorem dX7_init_21 : decode cX7_init 21 = .ok (.bipush 40, 2) := by decide +kernel
theorem dX7_init_23 : decode cX7_init 23 = .ok (.newarray .int, 2) := by decide +kernel
theorem dX7_init_25 : decode cX7_init 25 = .ok (.putfield 18, 3) := by decide +kernel
theorem dX7_init_28 : decode cX7_init 28 = .ok (.aload_n 0, 1) := by decide +kernel
theorem dX7_init_29 : decode cX7_init 29 = .ok (.bipush 41, 2) := by decide +kernel
theorem dX7_init_31 : decode cX7_init 31 = .ok (.newarray .int, 2) := by decide +kernel
theorem dX7_init_33 : decode cX7_init 33 = .ok (.putfield 21, 3) := by decide +kernel
theorem dX7_init_36 : decode cX7_init 36 = .ok (.return_, 1) := by decide +kernel
theorem dX8_init_0 : decode cX8_init 0 = .ok (.aload_n 0, 1) := by decide +kernel
theorem dX8_init_1 : decode cX8_init 1 = .ok (.invokespecial 3, 3) := by decide +kernel
theorem dX8_init_4 : decode cX8_init 4 = .ok (.aload_n 0, 1) := by decide +kernel
theorem dX8_init_5 : decode cX8_init 5 = .ok (.new 9, 3) := by decide +kernel
theorem dX8_init_8 : decode cX8_init 8 = .ok (.dup, 1) := by decide +kernel
theorem dX8_init_9 : decode cX8_init 9 = .ok (.invokespecial 11, 3) := by decide +kernel
theorem dX8_init_12 : decode cX8_init 12 = .ok (.putfield 12, 3) := by decide +kernel
theorem dX8_init_15 : decode cX8_init 15 = .ok (.aload_n 0, 1) := by decide +kernel
theorem dX8_init_16 : decode cX8_init 16 = .ok (.new 18, 3) := by decide +kernel
theorem dX8_init_19 : decode cX8_init 19 = .ok (.dup, 1) := by decide +kernel
theorem dX8_init_20 : decode cX8_init 20 = .ok (.invokespecial 20, 3) := by decide +kernel
theorem dX8_init_23 : decode cX8_init 23 = .ok (.putfield 21, 3) := by decide +kernel
theorem dX8_init_26 : decode cX8_init 26 = .ok (.return_, 1) := by decide +kernel
theorem dX9_init_0 : decode cX9_init 0 = .ok (.aload_n 0, 1) := by decide +kernel
theorem dX9_init_1 : decode cX9_init 1 = .ok (.invokespecial 3, 3) := by decide +kernel
theorem dX9_init_4 : decode cX9_init 4 = .ok (.aload_n 0, 1) := by decide +kernel
theorem dX9_init_5 : decode cX9_init 5 = .ok (.bipush 6, 2) := by decide +kernel
theorem dX9_init_7 : decode cX9_init 7 = .ok (.newarray .int, 2) := by decide +kernel
theorem dX9_init_9 : decode cX9_init 9 = .ok (.putfield 9, 3) := by decide +kernel
theorem dX9_init_12 : decode cX9_init 12 = .ok (.aload_n 0, 1) := by decide +kernel
theorem dX9_init_13 : decode cX9_init 13 = .ok (.bipush 6, 2) := by decide +kernel
theorem dX9_init_15 : decode cX9_init 15 = .ok (.newarray .int, 2) := by decide +kernel
theorem dX9_init_17 : decode cX9_init 17 = .ok (.putfield 15, 3) := by decide +kernel
theorem dX9_init_20 : decode cX9_init 20 = .ok (.aload_n 0, 1) := by decide +kernel
theorem dX9_init_21 : decode cX9_init 21 = .ok (.bipush 6, 2) := by decide +kernel
theorem dX9_init_23 : decode cX9_init 23 = .ok (.newarray .int, 2) := by decide +kernel
theorem dX9_init_25 : decode cX9_init 25 = .ok (.putfield 18, 3) := by decide +kernel
theorem dX9_init_28 : decode cX9_init 28 = .ok (.aload_n 0, 1) := by decide +kernel
theorem dX9_init_29 : decode cX9_init 29 = .ok (.bipush 8, 2) := by decide +kernel
theorem dX9_init_31 : decode cX9_init 31 = .ok (.newarray .int, 2) := by decide +kernel
theorem dX9_init_33 : decode cX9_init 33 = .ok (.putfield 21, 3) := by decide +kernel
theorem dX9_init_36 : decode cX9_init 36 = .ok (.aload_n 0, 1) := by decide +kernel
theorem dX9_init_37 : decode cX9_init 37 = .ok (.bipush 8, 2) := by decide +kernel
theorem dX9_init_39 : decode cX9_init 39 = .ok (.newarray .int, 2) := by decide +kernel
theorem dX9_init_41 : decode cX9_init 41 = .ok (.putfield 24, 3) := by decide +kernel
theorem dX9_init_44 : decode cX9_init 44 = .ok (.aload_n 0, 1) := by decide +kernel
theorem dX9_init_45 : decode cX9_init 45 = .ok (.bipush 8, 2) := by decide +kernel
theorem dX9_init_47 : decode cX9_init 47 = .ok (.newarray .int, 2) := by decide +kernel
theorem dX9_init_49 : decode cX9_init 49 = .ok (.putfield 27, 3) := by decide +kernel
theorem dX9_init_52 : decode cX9_init 52 = .ok (.return_, 1) := by decide +kernel
theorem dX10_init_0 : decode cX10_init 0 = .ok (.aload_n 0, 1) := by decide +kernel
theorem dX10_init_1 : decode cX10_init 1 = .ok (.invokespecial 1, 3) := by decide +kernel
theorem dX10_init_4 : decode cX10_init 4 = .ok (.aload_n 0, 1) := by decide +kernel
theorem dX10_init_5 : decode cX10_init 5 = .ok (.new 7, 3) := by decide +kernel
theorem dX10_init_8 : decode cX10_init 8 = .ok (.dup, 1) := by decide +kernel
theorem dX10_init_9 : decode cX10_init 9 = .ok (.invokespecial 9, 3) := by decide +kernel
theorem dX10_init_12 : decode cX10_init 12 = .ok (.putfield 10, 3) := by decide +kernel
theorem dX10_init_15 : decode cX10_init 15 = .ok (.aload_n 0, 1) := by decide +kernel
theorem dX10_init_16 : decode cX10_init 16 = .ok (.new 16, 3) := by decide +kernel
theorem dX10_init_19 : decode cX10_init 19 = .ok (.dup, 1) := by decide +kernel
theorem dX10_init_20 : decode cX10_init 20 = .ok (.invokespecial 18, 3) := by decide +kernel
theorem dX10_init_23 : decode cX10_init 23 = .ok (.putfield 19, 3) := by decide +kernel
theorem dX10_init_26 : decode cX10_init 26 = .ok (.aload_n 0, 1) := by decide +kernel
theorem dX10_init_27 : decode cX10_init 27 = .ok (.new 23, 3) := by decide +kernel
theorem dX10_init_30 : decode cX10_init 30 = .ok (.dup, 1) := by decide +kernel
theorem dX10_init_31 : decode cX10_init 31 = .ok (.invokespecial 25, 3) := by decide +kernel
theorem dX10_init_34 : decode cX10_init 34 = .ok (.putfield 26, 3) := by decide +kernel
theorem dX10_init_37 : decode cX10_init 37 = .ok (.return_, 1) := by decide +kernel
theorem dX11_init_0 : decode cX11_init 0 = .ok (.aload_n 0, 1) := by decide +kernel
theorem dX11_init_1 : decode cX11_init 1 = .ok (.invokespecial 1, 3) := by decide +kernel
theorem dX11_init_4 : decode cX11_init 4 = .ok (.aload_n 0, 1) := by decide +kernel
theorem dX11_init_5 : decode cX11_init 5 = .ok (.new 7, 3) := by decide +kernel
theorem dX11_init_8 : decode cX11_init 8 = .ok (.dup, 1) := by decide +kernel
theorem dX11_init_9 : decode cX11_init 9 = .ok (.sipush 940, 3) := by decide +kernel
theorem dX11_init_12 : decode cX11_init 12 = .ok (.invokespecial 11, 3) := by decide +kernel
theorem dX11_init_15 : decode cX11_init 15 = .ok (.putfield 14, 3) := by decide +kernel
theorem dX11_init_18 : decode cX11_init 18 = .ok (.aload_n 0, 1) := by decide +kernel
theorem dX11_init_19 : decode cX11_init 19 = .ok (.new 18, 3) := by decide +kernel
theorem dX11_init_22 : decode cX11_init 22 = .ok (.dup, 1) := by decide +kernel
theorem dX11_init_23 : decode cX11_init 23 = .ok (.invokespecial 20, 3) := by decide +kernel
theorem dX11_init_26 : decode cX11_init 26 = .ok (.putfield 21, 3) := by decide +kernel
theorem dX11_init_29 : decode cX11_init 29 = .ok (.aload_n 0, 1) := by decide +kernel
theorem dX11_init_30 : decode cX11_init 30 = .ok (.iconst 2, 1) := by decide +kernel
theorem dX11_init_31 : decode cX11_init 31 = .ok (.anewarray 18, 3) := by decide +kernel
theorem dX11_init_34 : decode cX11_init 34 = .ok (.putfield 25, 3) := by decide +kernel
theorem dX11_init_37 : decode cX11_init 37 = .ok (.aload_n 0, 1) := by decide +kernel
theorem dX11_init_38 : decode cX11_init 38 = .ok (.new 29, 3) := by decide +kernel
theorem dX11_init_41 : decode cX11_init 41 = .ok (.dup, 1) := by decide +kernel
theorem dX11_init_42 : decode cX11_init 42 = .ok (.invokespecial 31, 3) := by decide +kernel
theorem dX11_init_45 : decode cX11_init 45 = .ok (.putfield 32, 3) := by decide +kernel
theorem dX11_init_48 : decode cX11_init 48 = .ok (.aload_n 0, 1) := by decide +kernel
theorem dX11_init_49 : decode cX11_init 49 = .ok (.new 36, 3) := by decide +kernel
theorem dX11_init_52 : decode cX11_init 52 = .ok (.dup, 1) := by decide +kernel
theorem dX11_init_53 : decode cX11_init 53 = .ok (.invokespecial 38, 3) := by decide +kernel
theorem dX11_init_56 : decode cX11_init 56 = .ok (.putfield 39, 3) := by decide +kernel
theorem dX11_init_59 : decode cX11_init 59 = .ok (.aload_n 0, 1) := by decide +kernel
theorem dX11_init_60 : decode cX11_init 60 = .ok (.new 43, 3) := by decide +kernel
theorem dX11_init_63 : decode cX11_init 63 = .ok (.dup, 1) := by decide +kernel
theorem dX11_init_64 : decode cX11_init 64 = .ok (.invokespecial 45, 3) := by decide +kernel
theorem dX11_init_67 : decode cX11_init 67 = .ok (.putfield 46, 3) := by decide +kernel
theorem dX11_init_70 : decode cX11_init 70 = .ok (.aload_n 0, 1) := by decide +kernel
theorem dX11_init_71 : decode cX11_init 71 = .ok (.new 50, 3) := by decide +kernel
theorem dX11_init_74 : decode cX11_init 74 = .ok (.dup, 1) := by decide +kernel
theorem dX11_init_75 : decode cX11_init 75 = .ok (.invokespecial 52, 3) := by decide +kernel
theorem dX11_init_78 : decode cX11_init 78 = .ok (.putfield 53, 3) := by decide +kernel
theorem dX11_init_81 : decode cX11_init 81 = .ok (.aload_n 0, 1) := by decide +kernel
theorem dX11_init_82 : decode cX11_init 82 = .ok (.new 57, 3) := by decide +kernel
theorem dX11_init_85 : decode cX11_init 85 = .ok (.dup, 1) := by decide +kernel
theorem dX11_init_86 : decode cX11_init 86 = .ok (.invokespecial 59, 3) := by decide +kernel
theorem dX11_init_89 : decode cX11_init 89 = .ok (.putfield 60, 3) := by decide +kernel
theorem dX11_init_92 : decode cX11_init 92 = .ok (.aload_n 0, 1) := by decide +kernel
theorem dX11_init_93 : decode cX11_init 93 = .ok (.new 64, 3) := by decide +kernel
theorem dX11_init_96 : decode cX11_init 96 = .ok (.dup, 1) := by decide +kernel
theorem dX11_init_97 : decode cX11_init 97 = .ok (.invokespecial 66, 3) := by decide +kernel
theorem dX11_init_100 : decode cX11_init 100 = .ok (.putfield 67, 3) := by decide +kernel
theorem dX11_init_103 : decode cX11_init 103 = .ok (.aload_n 0, 1) := by decide +kernel
theorem dX11_init_104 : decode cX11_init 104 = .ok (.new 7, 3) := by decide +kernel
theorem dX11_init_107 : decode cX11_init 107 = .ok (.dup, 1) := by decide +kernel
theorem dX11_init_108 : decode cX11_init 108 = .ok (.bipush 32, 2) := by decide +kernel
theorem dX11_init_110 : decode cX11_init 110 = .ok (.invokespecial 11, 3) := by decide +kernel
theorem dX11_init_113 : decode cX11_init 113 = .ok (.putfield 71, 3) := by decide +kernel
theorem dX11_init_116 : decode cX11_init 116 = .ok (.aload_n 0, 1) := by decide +kernel
theorem dX11_init_117 : decode cX11_init 117 = .ok (.bipush 8, 2) := by decide +kernel
theorem dX11_init_119 : decode cX11_init 119 = .ok (.newarray .int, 2) := by decide +kernel
theorem dX11_init_121 : decode cX11_init 121 = .ok (.putfield 74, 3) := by decide +kernel
theorem dX11_init_124 : decode cX11_init 124 = .ok (.aload_n 0, 1) := by decide +kernel
theorem dX11_init_125 : decode cX11_init 125 = .ok (.iconst 4, 1) := by decide +kernel
theorem dX11_init_126 : decode cX11_init 126 = .ok (.newarray .int, 2) := by decide +kernel
theorem dX11_init_128 : decode cX11_init 128 = .ok (.putfield 78, 3) := by decide +kernel
theorem dX11_init_131 : decode cX11_init 131 = .ok (.aload_n 0, 1) := by decide +kernel
theorem dX11_init_132 : decode cX11_init 132 = .ok (.iconst (-1), 1) := by decide +kernel
theorem dX11_init_133 : decode cX11_init 133 = .ok (.putfield 81, 3) := by decide +kernel
theorem dX11_init_136 : decode cX11_init 136 = .ok (.aload_n 0, 1) := by decide +kernel
theorem dX11_init_137 : decode cX11_init 137 = .ok (.iconst (-1), 1) := by decide +kernel
theorem dX11_init_138 : decode cX11_init 138 = .ok (.putfield 85, 3) := by decide +kernel
theorem dX11_init_141 : decode cX11_init 141 = .ok (.iconst 0, 1) := by decide +kernel
theorem dX11_init_142 : decode cX11_init 142 = .ok (.istore_n 1, 1) := by decide +kernel
theorem dX11_init_143 : decode cX11_init 143 = .ok (.iload_n 1, 1) := by decide +kernel
theorem dX11_init_144 : decode cX11_init 144 = .ok (.iconst 2, 1) := by decide +kernel
theorem dX11_init_145 : decode cX11_init 145 = .ok (.if_icmp .ge 22, 3) := by decide +kernel
theorem dX11_init_148 : decode cX11_init 148 = .ok (.aload_n 0, 1) := by decide +kernel
theorem dX11_init_149 : decode cX11_init 149 = .ok (.getfield 25, 3) := by decide +kernel
theorem dX11_init_152 : decode cX11_init 152 = .ok (.iload_n 1, 1) := by decide +kernel
theorem dX11_init_153 : decode cX11_init 153 = .ok (.new 18, 3) := by decide +kernel
theorem dX11_init_156 : decode cX11_init 156 = .ok (.dup, 1) := by decide +kernel
theorem dX11_init_157 : decode cX11_init 157 = .ok (.invokespecial 20, 3) := by decide +kernel
theorem dX11_init_160 : decode cX11_init 160 = .ok (.aastore, 1) := by decide +kernel
theorem dX11_init_161 : decode cX11_init 161 = .ok (.iinc 1 1, 3) := by decide +kernel
theorem dX11_init_164 : decode cX11_init 164 = .ok (.goto (-21), 3) := by decide +kernel
theorem dX11_init_167 : decode cX11_init 167 = .ok (.return_, 1) := by decide +kernel
theorem dX12_init_0 : decode cX12_init 0 = .ok (.aload_n 0, 1) := by decide +kernel
theorem dX12_init_1 : decode cX12_init 1 = .ok (.invokespecial 1, 3) := by decide +kernel
theorem dX12_init_4 : decode cX12_init 4 = .ok (.aload_n 0, 1) := by decide +kernel
theorem dX12_init_5 : decode cX12_init 5 = .ok (.sipush 940, 3) := by decide +kernel
theorem dX12_init_8 : decode cX12_init 8 = .ok (.newarray .int, 2) := by decide +kernel
theorem dX12_init_10 : decode cX12_init 10 = .ok (.putfield 7, 3) := by decide +kernel
theorem dX12_init_13 : decode cX12_init 13 = .ok (.aload_n 0, 1) := by decide +kernel
theorem dX12_init_14 : decode cX12_init 14 = .ok (.sipush 379, 3) := by decide +kernel
theorem dX12_init_17 : decode cX12_init 17 = .ok (.newarray .int, 2) := by decide +kernel
theorem dX12_init_19 : decode cX12_init 19 = .ok (.putfield 13, 3) := by decide +kernel
theorem dX12_init_22 : decode cX12_init 22 = .ok (.aload_n 0, 1) := by decide +kernel
theorem dX12_init_23 : decode cX12_init 23 = .ok (.bipush 77, 2) := by decide +kernel
theorem dX12_init_25 : decode cX12_init 25 = .ok (.newarray .int, 2) := by decide +kernel
theorem dX12_init_27 : decode cX12_init 27 = .ok (.putfield 16, 3) := by decide +kernel
theorem dX12_init_30 : decode cX12_init 30 = .ok (.aload_n 0, 1) := by decide +kernel
theorem dX12_init_31 : decode cX12_init 31 = .ok (.sipush 758, 3) := by decide +kernel
theorem dX12_init_34 : decode cX12_init 34 = .ok (.newarray .int, 2) := by decide +kernel
theorem dX12_init_36 : decode cX12_init 36 = .ok (.putfield 19, 3) := by decide +kernel
theorem dX12_init_39 : decode cX12_init 39 = .ok (.aload_n 0, 1) := by decide +kernel
theorem dX12_init_40 : decode cX12_init 40 = .ok (.sipush 480, 3) := by decide +kernel
theorem dX12_init_43 : decode cX12_init 43 = .ok (.newarray .int, 2) := by decide +kernel
theorem dX12_init_45 : decode cX12_init 45 = .ok (.putfield 22, 3) := by decide +kernel
theorem dX12_init_48 : decode cX12_init 48 = .ok (.aload_n 0, 1) := by decide +kernel
theorem dX12_init_49 : decode cX12_init 49 = .ok (.bipush 60, 2) := by decide +kernel
theorem dX12_init_51 : decode cX12_init 51 = .ok (.newarray .int, 2) := by decide +kernel
theorem dX12_init_53 : decode cX12_init 53 = .ok (.putfield 25, 3) := by decide +kernel
theorem dX12_init_56 : decode cX12_init 56 = .ok (.aload_n 0, 1) := by decide +kernel
theorem dX12_init_57 : decode cX12_init 57 = .ok (.bipush 14, 2) := by decide +kernel
theorem dX12_init_59 : decode cX12_init 59 = .ok (.newarray .long, 2) := by decide +kernel
theorem dX12_init_61 : decode cX12_init 61 = .ok (.putfield 28, 3) := by decide +kernel
theorem dX12_init_64 : decode cX12_init 64 = .ok (.aload_n 0, 1) := by decide +kernel
theorem dX12_init_65 : decode cX12_init 65 = .ok (.bipush 14, 2) := by decide +kernel
theorem dX12_init_67 : decode cX12_init 67 = .ok (.newarray .long, 2) := by decide +kernel
theorem dX12_init_69 : decode cX12_init 69 = .ok (.putfield 32, 3) := by decide +kernel
theorem dX12_init_72 : decode cX12_init 72 = .ok (.aload_n 0, 1) := by decide +kernel
theorem dX12_init_73 : decode cX12_init 73 = .ok (.bipush 28, 2) := by decide +kernel
theorem dX12_init_75 : decode cX12_init 75 = .ok (.newarray .long, 2) := by decide +kernel
theorem dX12_init_77 : decode cX12_init 77 = .ok (.putfield 35, 3) := by decide +kernel
theorem dX12_init_80 : decode cX12_init 80 = .ok (.aload_n 0, 1) := by decide +kernel
theorem dX12_init_81 : decode cX12_init 81 = .ok (.iconst 2, 1) := by decide +kernel
theorem dX12_init_82 : decode cX12_init 82 = .ok (.newarray .boolean, 2) := by decide +kernel
theorem dX12_init_84 : decode cX12_init 84 = .ok (.putfield 38, 3) := by decide +kernel
theorem dX12_init_87 : decode cX12_init 87 = .ok (.aload_n 0, 1) := by decide +kernel
theorem dX12_init_88 : decode cX12_init 88 = .ok (.bipush 8, 2) := by decide +kernel
theorem dX12_init_90 : decode cX12_init 90 = .ok (.newarray .int, 2) := by decide +kernel
theorem dX12_init_92 : decode cX12_init 92 = .ok (.putfield 42, 3) := by decide +kernel
theorem dX12_init_95 : decode cX12_init 95 = .ok (.aload_n 0, 1) := by decide +kernel
theorem dX12_init_96 : decode cX12_init 96 = .ok (.bipush 32, 2) := by decide +kernel
theorem dX12_init_98 : decode cX12_init 98 = .ok (.newarray .int, 2) := by decide +kernel
theorem dX12_init_100 : decode cX12_init 100 = .ok (.putfield 45, 3) := by decide +kernel
theorem dX12_init_103 : decode cX12_init 103 = .ok (.aload_n 0, 1) := by decide +kernel
theorem dX12_init_104 : decode cX12_init 104 = .ok (.iconst 4, 1) := by decide +kernel
theorem dX12_init_105 : decode cX12_init 105 = .ok (.newarray .int, 2) := by decide +kernel
theorem dX12_init_107 : decode cX12_init 107 = .ok (.putfield 48, 3) := by decide +kernel
theorem dX12_init_110 : decode cX12_init 110 = .ok (.aload_n 0, 1) := by decide +kernel
theorem dX12_init_111 : decode cX12_init 111 = .ok (.iconst 4, 1) := by decide +kernel
theorem dX12_init_112 : decode cX12_init 112 = .ok (.newarray .int, 2) := by decide +kernel
theorem dX12_init_114 : decode cX12_init 114 = .ok (.putfield 51, 3) := by decide +kernel
theorem dX12_init_117 : decode cX12_init 117 = .ok (.aload_n 0, 1) := by decide +kernel
theorem dX12_init_118 : decode cX12_init 118 = .ok (.iconst (-1), 1) := by decide +kernel
theorem dX12_init_119 : decode cX12_init 119 = .ok (.putfield 54, 3) := by decide +kernel
theorem dX12_init_122 : decode cX12_init 122 = .ok (.aload_n 0, 1) := by decide +kernel
theorem dX12_init_123 : decode cX12_init 123 = .ok (.iconst (-1), 1) := by decide +kernel
theorem dX12_init_124 : decode cX12_init 124 = .ok (.putfield 58, 3) := by decide +kernel
theorem dX12_init_127 : decode cX12_init 127 = .ok (.aload_n 0, 1) := by decide +kernel
theorem dX12_init_128 : decode cX12_init 128 = .ok (.bipush 64, 2) := by decide +kernel
theorem dX12_init_130 : decode cX12_init 130 = .ok (.newarray .int, 2) := by decide +kernel
theorem dX12_init_132 : decode cX12_init 132 = .ok (.putfield 61, 3) := by decide +kernel
theorem dX12_init_135 : decode cX12_init 135 = .ok (.aload_n 0, 1) := by decide +kernel
theorem dX12_init_136 : decode cX12_init 136 = .ok (.bipush 120, 2) := by decide +kernel
theorem dX12_init_138 : decode cX12_init 138 = .ok (.newarray .int, 2) := by decide +kernel
theorem dX12_init_140 : decode cX12_init 140 = .ok (.putfield 64, 3) := by decide +kernel
theorem dX12_init_143 : decode cX12_init 143 = .ok (.aload_n 0, 1) := by decide +kernel
theorem dX12_init_144 : decode cX12_init 144 = .ok (.iconst 4, 1) := by decide +kernel
theorem dX12_init_145 : decode cX12_init 145 = .ok (.newarray .int, 2) := by decide +kernel
theorem dX12_init_147 : decode cX12_init 147 = .ok (.putfield 67, 3) := by decide +kernel
theorem dX12_init_150 : decode cX12_init 150 = .ok (.aload_n 0, 1) := by decide +kernel
theorem dX12_init_151 : decode cX12_init 151 = .ok (.sipush 240, 3) := by decide +kernel
theorem dX12_init_154 : decode cX12_init 154 = .ok (.newarray .int, 2) := by decide +kernel
theorem dX12_init_156 : decode cX12_init 156 = .ok (.putfield 70, 3) := by decide +kernel
theorem dX12_init_159 : decode cX12_init 159 = .ok (.return_, 1) := by decide +kernel
end
section
def K_X0_init_1 : sa_K := ([.inr (.inl (some 1)), .inl (0, 940)], [(1, .inl (0, [.inr (.inl none), .inl (0, 0)]))], [(0, 0), (0, 0)], [(none, [(1, .inl (0, [.inr (.inl (some 2)), .inl (0, 0)])), (2, .inr (1, .inl (List.replicate 940 (0, 0))))], [(0, 0), (0, 0), (0, 0)])], 1, 940)
def t_X0_init_1 : List (Nat × sa_op) := [(0, so_aload 0 1), (1, so_obj), (4, so_aload 0 1), (5, so_iload 1 1), (6, so_newa 1 1 940), (8, so_put 0 0 (.array .byte))]
set_option maxRecDepth 200000 in
set_option maxHeartbeats 4000000 in
theorem m_X0_init_1 (l : Launch) : sa_Met l vwCl sa_Ts yX0_init cX0_init 2 none 1 60 K_X0_init_1 := sa_method (by decide) [11] t_X0_init_1 8 (List.forall_mem_cons.mpr ⟨dX0_init_11, fun _ h => absurd h List.not_mem_nil⟩) (fun p e s m args below meth c Q D dA A n0 V0 C0 hU hin => List.forall_mem_cons.mpr ⟨sn_aload_n C0 dX0_init_0, List.forall_mem_cons.mpr ⟨sn_obj C0 dX0_init_1 tw_38 tw_31 tw_32 (by decide) (by decide), List.forall_mem_cons.mpr ⟨sn_aload_n C0 dX0_init_4, List.forall_mem_cons.mpr ⟨sn_iload_n C0 dX0_init_5, List.forall_mem_cons.mpr ⟨sn_newaB C0 dX0_init_6 tw_48 (Nat.le_refl _) (Nat.le_refl _), List.forall_mem_cons.mpr ⟨sn_putF C0 kcX0 dX0_init_8 (by decide) tw_39 rfl hin rfl rfl, fun _ h => absurd h List.not_mem_nil⟩⟩⟩⟩⟩⟩) (by decide) (by decide +kernel)
def K_X2_init_1 : sa_K := ([.inr (.inl (some 1))], [(1, .inl (2, [.inr (.inl none), .inr (.inl none), .inr (.inl none), .inr (.inl none), .inr (.inl none), .inr (.inl none), .inr (.inl none), .inr (.inl none), .inr (.inl none), .inr (.inl none), .inr (.inl none), .inr (.inl none), .inr (.inl none), .inl (0, 0), .inl (0, 0), .inl (0, 0)]))], [(0, 0), (0, 0)], [(none, [(1, .inl (2, [.inr (.inl (some 2)), .inr (.inl (some 3)), .inr (.inl (some 4)), .inr (.inl (some 5)), .inr (.inl (some 6)), .inr (.inl (some 7)), .inr (.inl (some 8)), .inr (.inl (some 9)), .inr (.inl (some 10)), .inr (.inl (some 11)), .inr (.inl (some 12)), .inr (.inl (some 13)), .inr (.inl (some 14)), .inl (0, 0), .inl (0, 0), .inl (0, 0)])), (2, .inr (2, .inr (.inl (6, 2)))), (3, .inr (0, .inl [(0, 0), (0, 0), (0, 0), (0, 0), (0, 0), (0, 0)])), (4, .inr (0, .inl [(0, 0), (0, 0), (0, 0), (0, 0), (0, 0), (0, 0)])), (5, .inr (0, .inl [(0, 0), (0, 0), (0, 0), (0, 0), (0, 0), (0, 0)])), (6, .inr (0, .inl [(0, 0), (0, 0), (0, 0), (0, 0), (0, 0), (0, 0)])), (7, .inr (0, .inl [(0, 0), (0, 0), (0, 0), (0, 0), (0, 0), (0, 0)])), (8, .inr (0, .inl [(0, 0), (0, 0), (0, 0), (0, 0), (0, 0), (0, 0)])), (9, .inr (2, .inr (.inl (8, 9)))), (10, .inr (0, .inl [(0, 0), (0, 0), (0, 0), (0, 0), (0, 0), (0, 0), (0, 0), (0, 0)])), (11, .inr (0, .inl [(0, 0), (0, 0), (0, 0), (0, 0), (0, 0), (0, 0), (0, 0), (0, 0)])), (12, .inr (0, .inl [(0, 0), (0, 0), (0, 0), (0, 0), (0, 0), (0, 0), (0, 0), (0, 0)])), (13, .inr (0, .inl [(0, 0), (0, 0), (0, 0), (0, 0), (0, 0), (0, 0), (0, 0), (0, 0)])), (14, .inr (0, .inl (List.replicate 24 (0, 0))))], (List.replicate 15 (0, 0)))], 13, 106)
def t_X2_init_1 : List (Nat × sa_op) := [(0, so_aload 0 1), (1, so_obj), (4, so_aload 0 1), (5, so_int (6) 2), (7, so_newa 2 13 106), (9, so_put 2 0 (.array .long)), (12, so_aload 0 1), (13, so_int (6) 2), (15, so_newa 0 13 106), (17, so_put 2 1 (.array .int)), (20, so_aload 0 1), (21, so_int (6) 2), (23, so_newa 0 13 106), (25, so_put 2 2 (.array .int)), (28, so_aload 0 1), (29, so_int (6) 2), (31, so_newa 0 13 106), (33, so_put 2 3 (.array .int)), (36, so_aload 0 1), (37, so_int (6) 2), (39, so_newa 0 13 106), (41, so_put 2 4 (.array .int)), (44, so_aload 0 1), (45, so_int (6) 2), (47, so_newa 0 13 106), (49, so_put 2 5 (.array .int)), (52, so_aload 0 1), (53, so_int (6) 2), (55, so_newa 0 13 106), (57, so_put 2 6 (.array .int)), (60, so_aload 0 1), (61, so_int (8) 2), (63, so_newa 2 13 106), (65, so_put 2 7 (.array .long)), (68, so_aload 0 1), (69, so_int (8) 2), (71, so_newa 0 13 106), (73, so_put 2 8 (.array .int)), (76, so_aload 0 1), (77, so_int (8) 2), (79, so_newa 0 13 106), (81, so_put 2 9 (.array .int)), (84, so_aload 0 1), (85, so_int (8) 2), (87, so_newa 0 13 106), (89, so_put 2 10 (.array .int)), (92, so_aload 0 1), (93, so_int (8) 2), (95, so_newa 0 13 106), (97, so_put 2 11 (.array .int)), (100, so_aload 0 1), (101, so_int (24) 2), (103, so_newa 0 13 106), (105, so_put 2 12 (.array .int))]
set_option maxRecDepth 200000 in
set_option maxHeartbeats 4000000 in
theorem m_X2_init_1 (l : Launch) : sa_Met l vwCl sa_Ts yX2_init cX2_init 1 none 1 60 K_X2_init_1 := sa_method (by decide) [108] t_X2_init_1 56 (List.forall_mem_cons.mpr ⟨dX2_init_108, fun _ h => absurd h List.not_mem_nil⟩) (fun p e s m args below meth c Q D dA A n0 V0 C0 hU hin => List.forall_mem_cons.mpr ⟨sn_aload_n C0 dX2_init_0, List.forall_mem_cons.mpr ⟨sn_obj C0 dX2_init_1 tw_60 tw_31 tw_32 (by decide) (by decide), List.forall_mem_cons.mpr ⟨sn_aload_n C0 dX2_init_4, List.forall_mem_cons.mpr ⟨sn_bipush C0 dX2_init_5 (by decide), List.forall_mem_cons.mpr ⟨sn_newaJ C0 dX2_init_7 tw_141 (Nat.le_refl _) (Nat.le_refl _), List.forall_mem_cons.mpr ⟨sn_putF C0 kcX2 dX2_init_9 (by decide) tw_61 rfl hin rfl rfl, List.forall_mem_cons.mpr ⟨sn_aload_n C0 dX2_init_12, List.forall_mem_cons.mpr ⟨sn_bipush C0 dX2_init_13 (by decide), List.forall_mem_cons.mpr ⟨sn_newaI C0 dX2_init_15 tw_142 (Nat.le_refl _) (Nat.le_refl _), List.forall_mem_cons.mpr ⟨sn_putF C0 kcX2 dX2_init_17 (by decide) tw_63 rfl hin rfl rfl, List.forall_mem_cons.mpr ⟨sn_aload_n C0 dX2_init_20, List.forall_mem_cons.mpr ⟨sn_bipush C0 dX2_init_21 (by decide), List.forall_mem_cons.mpr ⟨sn_newaI C0 dX2_init_23 tw_142 (Nat.le_refl _) (Nat.le_refl _), List.forall_mem_cons.mpr ⟨sn_putF C0 kcX2 dX2_init_25 (by decide) tw_67 rfl hin rfl rfl, List.forall_mem_cons.mpr ⟨sn_aload_n C0 dX2_init_28, List.forall_mem_cons.mpr ⟨sn_bipush C0 dX2_init_29 (by decide), List.forall_mem_cons.mpr ⟨sn_newaI C0 dX2_init_31 tw_142 (Nat.le_refl _) (Nat.le_refl _), List.forall_mem_cons.mpr ⟨sn_putF C0 kcX2 dX2_init_33 (by decide) tw_71 rfl hin rfl rfl, List.forall_mem_cons.mpr ⟨sn_aload_n C0 dX2_init_36, List.forall_mem_cons.mpr ⟨sn_bipush C0 dX2_init_37 (by decide), List.forall_mem_cons.mpr ⟨sn_newaI C0 dX2_init_39 tw_142 (Nat.le_refl _) (Nat.le_refl _), List.forall_mem_cons.mpr ⟨sn_putF C0 kcX2 dX2_init_41 (by decide) tw_74 rfl hin rfl rfl, List.forall_mem_cons.mpr ⟨sn_aload_n C0 dX2_init_44, List.forall_mem_cons.mpr ⟨sn_bipush C0 dX2_init_45 (by decide), List.forall_mem_cons.mpr ⟨sn_newaI C0 dX2_init_47 tw_142 (Nat.le_refl _) (Nat.le_refl _), List.forall_mem_cons.mpr ⟨sn_putF C0 kcX2 dX2_init_49 (by decide) tw_75 rfl hin rfl rfl, List.forall_mem_cons.mpr ⟨sn_aload_n C0 dX2_init_52, List.forall_mem_cons.mpr ⟨sn_bipush C0 dX2_init_53 (by decide), List.forall_mem_cons.mpr ⟨sn_newaI C0 dX2_init_55 tw_142 (Nat.le_refl _) (Nat.le_refl _), List.forall_mem_cons.mpr ⟨sn_putF C0 kcX2 dX2_init_57 (by decide) tw_78 rfl hin rfl rfl, List.forall_mem_cons.mpr ⟨sn_aload_n C0 dX2_init_60, List.forall_mem_cons.mpr ⟨sn_bipush C0 dX2_init_61 (by decide), List.forall_mem_cons.mpr ⟨sn_newaJ C0 dX2_init_63 tw_141 (Nat.le_refl _) (Nat.le_refl _), List.forall_mem_cons.mpr ⟨sn_putF C0 kcX2 dX2_init_65 (by decide) tw_81 rfl hin rfl rfl, List.forall_mem_cons.mpr ⟨sn_aload_n C0 dX2_init_68, List.forall_mem_cons.mpr ⟨sn_bipush C0 dX2_init_69 (by decide), List.forall_mem_cons.mpr ⟨sn_newaI C0 dX2_init_71 tw_142 (Nat.le_refl _) (Nat.le_refl _), List.forall_mem_cons.mpr ⟨sn_putF C0 kcX2 dX2_init_73 (by decide) tw_83 rfl hin rfl rfl, List.forall_mem_cons.mpr ⟨sn_aload_n C0 dX2_init_76, List.forall_mem_cons.mpr ⟨sn_bipush C0 dX2_init_77 (by decide), List.forall_mem_cons.mpr ⟨sn_newaI C0 dX2_init_79 tw_142 (Nat.le_refl _) (Nat.le_refl _), List.forall_mem_cons.mpr ⟨sn_putF C0 kcX2 dX2_init_81 (by decide) tw_86 rfl hin rfl rfl, List.forall_mem_cons.mpr ⟨sn_aload_n C0 dX2_init_84, List.forall_mem_cons.mpr ⟨sn_bipush C0 dX2_init_85 (by decide), List.forall_mem_cons.mpr ⟨sn_newaI C0 dX2_init_87 tw_142 (Nat.le_refl _) (Nat.le_refl _), List.forall_mem_cons.mpr ⟨sn_putF C0 kcX2 dX2_init_89 (by decide) tw_89 rfl hin rfl rfl, List.forall_mem_cons.mpr ⟨sn_aload_n C0 dX2_init_92, List.forall_mem_cons.mpr ⟨sn_bipush C0 dX2_init_93 (by decide), List.forall_mem_cons.mpr ⟨sn_newaI C0 dX2_init_95 tw_142 (Nat.le_refl _) (Nat.le_refl _), List.forall_mem_cons.mpr ⟨sn_putF C0 kcX2 dX2_init_97 (by decide) tw_92 rfl hin rfl rfl, List.forall_mem_cons.mpr ⟨sn_aload_n C0 dX2_init_100, List.forall_mem_cons.mpr ⟨sn_bipush C0 dX2_init_101 (by decide), List.forall_mem_cons.mpr ⟨sn_newaI C0 dX2_init_103 tw_142 (Nat.le_refl _) (Nat.le_refl _), List.forall_mem_cons.mpr ⟨sn_putF C0 kcX2 dX2_init_105 (by decide) tw_95 rfl hin rfl rfl, fun _ h => absurd h List.not_mem_nil⟩⟩⟩⟩⟩⟩⟩⟩⟩⟩⟩⟩⟩⟩⟩⟩⟩⟩⟩⟩⟩⟩⟩⟩⟩⟩⟩⟩⟩⟩⟩⟩⟩⟩⟩⟩⟩⟩⟩⟩⟩⟩⟩⟩⟩⟩⟩⟩⟩⟩⟩⟩⟩⟩) (by decide) (by decide +kernel)
def K_X9_init_1 : sa_K := ([.inr (.inl (some 1))], [(1, .inl (9, [.inr (.inl none), .inr (.inl none), .inr (.inl none), .inr (.inl none), .inr (.inl none), .inr (.inl none), .inl (0, 0), .inl (0, 0), .inl (0, 0), .inl (0, 0), .inl (0, 0), .inl (0, 0), .inl (0, 0)]))], [(0, 0), (0, 0)], [(none, [(1, .inl (9, [.inr (.inl (some 2)), .inr (.inl (some 3)), .inr (.inl (some 4)), .inr (.inl (some 5)), .inr (.inl (some 6)), .inr (.inl (some 7)), .inl (0, 0), .inl (0, 0), .inl (0, 0), .inl (0, 0), .inl (0, 0), .inl (0, 0), .inl (0, 0)])), (2, .inr (0, .inl [(0, 0), (0, 0), (0, 0), (0, 0), (0, 0), (0, 0)])), (3, .inr (0, .inl [(0, 0), (0, 0), (0, 0), (0, 0), (0, 0), (0, 0)])), (4, .inr (0, .inl [(0, 0), (0, 0), (0, 0), (0, 0), (0, 0), (0, 0)])), (5, .inr (0, .inl [(0, 0), (0, 0), (0, 0), (0, 0), (0, 0), (0, 0), (0, 0), (0, 0)])), (6, .inr (0, .inl [(0, 0), (0, 0), (0, 0), (0, 0), (0, 0), (0, 0), (0, 0), (0, 0)])), (7, .inr (0, .inl [(0, 0), (0, 0), (0, 0), (0, 0), (0, 0), (0, 0), (0, 0), (0, 0)]))], [(0, 0), (0, 0), (0, 0), (0, 0), (0, 0), (0, 0), (0, 0), (0, 0)])], 6, 42)
def t_X9_init_1 : List (Nat × sa_op) := [(0, so_aload 0 1), (1, so_obj), (4, so_aload 0 1), (5, so_int (6) 2), (7, so_newa 0 6 42), (9, so_put 9 0 (.array .int)), (12, so_aload 0 1), (13, so_int (6) 2), (15, so_newa 0 6 42), (17, so_put 9 1 (.array .int)), (20, so_aload 0 1), (21, so_int (6) 2), (23, so_newa 0 6 42), (25, so_put 9 2 (.array .int)), (28, so_aload 0 1), (29, so_int (8) 2), (31, so_newa 0 6 42), (33, so_put 9 3 (.array .int)), (36, so_aload 0 1), (37, so_int (8) 2), (39, so_newa 0 6 42), (41, so_put 9 4 (.array .int)), (44, so_aload 0 1), (45, so_int (8) 2), (47, so_newa 0 6 42), (49, so_put 9 5 (.array .int))]
set_option maxRecDepth 200000 in
set_option maxHeartbeats 4000000 in
theorem m_X9_init_1 (l : Launch) : sa_Met l vwCl sa_Ts yX9_init cX9_init 1 none 1 60 K_X9_init_1 := sa_method (by decide) [52] t_X9_init_1 28 (List.forall_mem_cons.mpr ⟨dX9_init_52, fun _ h => absurd h List.not_mem_nil⟩) (fun p e s m args below meth c Q D dA A n0 V0 C0 hU hin => List.forall_mem_cons.mpr ⟨sn_aload_n C0 dX9_init_0, List.forall_mem_cons.mpr ⟨sn_obj C0 dX9_init_1 tw_148 tw_31 tw_32 (by decide) (by decide), List.forall_mem_cons.mpr ⟨sn_aload_n C0 dX9_init_4, List.forall_mem_cons.mpr ⟨sn_bipush C0 dX9_init_5 (by decide), List.forall_mem_cons.mpr ⟨sn_newaI C0 dX9_init_7 tw_142 (Nat.le_refl _) (Nat.le_refl _), List.forall_mem_cons.mpr ⟨sn_putF C0 kcX9 dX9_init_9 (by decide) tw_149 rfl hin rfl rfl, List.forall_mem_cons.mpr ⟨sn_aload_n C0 dX9_init_12, List.forall_mem_cons.mpr ⟨sn_bipush C0 dX9_init_13 (by decide), List.forall_mem_cons.mpr ⟨sn_newaI C0 dX9_init_15 tw_142 (Nat.le_refl _) (Nat.le_refl _), List.forall_mem_cons.mpr ⟨sn_putF C0 kcX9 dX9_init_17 (by decide) tw_151 rfl hin rfl rfl, List.forall_mem_cons.mpr ⟨sn_aload_n C0 dX9_init_20, List.forall_mem_cons.mpr ⟨sn_bipush C0 dX9_init_21 (by decide), List.forall_mem_cons.mpr ⟨sn_newaI C0 dX9_init_23 tw_142 (Nat.le_refl _) (Nat.le_refl _), List.forall_mem_cons.mpr ⟨sn_putF C0 kcX9 dX9_init_25 (by decide) tw_153 rfl hin rfl rfl, List.forall_mem_cons.mpr ⟨sn_aload_n C0 dX9_init_28, List.forall_mem_cons.mpr ⟨sn_bipush C0 dX9_init_29 (by decide), List.forall_mem_cons.mpr ⟨sn_newaI C0 dX9_init_31 tw_142 (Nat.le_refl _) (Nat.le_refl _), List.forall_mem_cons.mpr ⟨sn_putF C0 kcX9 dX9_init_33 (by decide) tw_156 rfl hin rfl rfl, List.forall_mem_cons.mpr ⟨sn_aload_n C0 dX9_init_36, List.forall_mem_cons.mpr ⟨sn_bipush C0 dX9_init_37 (by decide), List.forall_mem_cons.mpr ⟨sn_newaI C0 dX9_init_39 tw_142 (Nat.le_refl _) (Nat.le_refl _), List.forall_mem_cons.mpr ⟨sn_putF C0 kcX9 dX9_init_41 (by decide) tw_158 rfl hin rfl rfl, List.forall_mem_cons.mpr ⟨sn_aload_n C0 dX9_init_44, List.forall_mem_cons.mpr ⟨sn_bipush C0 dX9_init_45 (by decide), List.forall_mem_cons.mpr ⟨sn_newaI C0 dX9_init_47 tw_142 (Nat.le_refl _) (Nat.le_refl _), List.forall_mem_cons.mpr ⟨sn_putF C0 kcX9 dX9_init_49 (by decide) tw_160 rfl hin rfl rfl, fun _ h => absurd h List.not_mem_nil⟩⟩⟩⟩⟩⟩⟩⟩⟩⟩⟩⟩⟩⟩⟩⟩⟩⟩⟩⟩⟩⟩⟩⟩⟩⟩) (by decide) (by decide +kernel)
def K_X7_init_1 : sa_K := ([.inr (.inl (some 1))], [(1, .inl (7, [.inr (.inl none), .inr (.inl none), .inr (.inl none), .inr (.inl none), .inl (0, 0), .inl (0, 0)]))], [(0, 0), (0, 0)], [(none, [(1, .inl (7, [.inr (.inl (some 2)), .inr (.inl (some 3)), .inr (.inl (some 4)), .inr (.inl (some 5)), .inl (0, 0), .inl (0, 0)])), (2, .inr (0, .inl (List.replicate 40 (0, 0)))), (3, .inr (0, .inl (List.replicate 40 (0, 0)))), (4, .inr (0, .inl (List.replicate 40 (0, 0)))), (5, .inr (0, .inl (List.replicate 41 (0, 0))))], [(0, 0), (0, 0), (0, 0), (0, 0), (0, 0), (0, 0)])], 4, 161)
def t_X7_init_1 : List (Nat × sa_op) := [(0, so_aload 0 1), (1, so_obj), (4, so_aload 0 1), (5, so_int (40) 2), (7, so_newa 0 4 161), (9, so_put 7 0 (.array .int)), (12, so_aload 0 1), (13, so_int (40) 2), (15, so_newa 0 4 161), (17, so_put 7 1 (.array .int)), (20, so_aload 0 1), (21, so_int (40) 2), (23, so_newa 0 4 161), (25, so_put 7 2 (.array .int)), (28, so_aload 0 1), (29, so_int (41) 2), (31, so_newa 0 4 161), (33, so_put 7 3 (.array .int))]
set_option maxRecDepth 200000 in
set_option maxHeartbeats 4000000 in
theorem m_X7_init_1 (l : Launch) : sa_Met l vwCl sa_Ts yX7_init cX7_init 1 none 1 60 K_X7_init_1 := sa_method (by decide) [36] t_X7_init_1 20 (List.forall_mem_cons.mpr ⟨dX7_init_36, fun _ h => absurd h List.not_mem_nil⟩) (fun p e s m args below meth c Q D dA A n0 V0 C0 hU hin => List.forall_mem_cons.mpr ⟨sn_aload_n C0 dX7_init_0, List.forall_mem_cons.mpr ⟨sn_obj C0 dX7_init_1 tw_211 tw_31 tw_32 (by decide) (by decide), List.forall_mem_cons.mpr ⟨sn_aload_n C0 dX7_init_4, List.forall_mem_cons.mpr ⟨sn_bipush C0 dX7_init_5 (by decide), List.forall_mem_cons.mpr ⟨sn_newaI C0 dX7_init_7 tw_142 (Nat.le_refl _) (Nat.le_refl _), List.forall_mem_cons.mpr ⟨sn_putF C0 kcX7 dX7_init_9 (by decide) tw_212 rfl hin rfl rfl, List.forall_mem_cons.mpr ⟨sn_aload_n C0 dX7_init_12, List.forall_mem_cons.mpr ⟨sn_bipush C0 dX7_init_13 (by decide), List.forall_mem_cons.mpr ⟨sn_newaI C0 dX7_init_15 tw_142 (Nat.le_refl _) (Nat.le_refl _), List.forall_mem_cons.mpr ⟨sn_putF C0 kcX7 dX7_init_17 (by decide) tw_213 rfl hin rfl rfl, List.forall_mem_cons.mpr ⟨sn_aload_n C0 dX7_init_20, List.forall_mem_cons.mpr ⟨sn_bipush C0 dX7_init_21 (by decide), List.forall_mem_cons.mpr ⟨sn_newaI C0 dX7_init_23 tw_142 (Nat.le_refl _) (Nat.le_refl _), List.forall_mem_cons.mpr ⟨sn_putF C0 kcX7 dX7_init_25 (by decide) tw_214 rfl hin rfl rfl, List.forall_mem_cons.mpr ⟨sn_aload_n C0 dX7_init_28, List.forall_mem_cons.mpr ⟨sn_bipush C0 dX7_init_29 (by decide), List.forall_mem_cons.mpr ⟨sn_newaI C0 dX7_init_31 tw_142 (Nat.le_refl _) (Nat.le_refl _), List.forall_mem_cons.mpr ⟨sn_putF C0 kcX7 dX7_init_33 (by decide) tw_215 rfl hin rfl rfl, fun _ h => absurd h List.not_mem_nil⟩⟩⟩⟩⟩⟩⟩⟩⟩⟩⟩⟩⟩⟩⟩⟩⟩⟩) (by decide) (by decide +kernel)
def K_X10_init_1 : sa_K := ([.inr (.inl (some 1))], [(1, .inl (10, [.inr (.inl none), .inr (.inl none), .inr (.inl none), .inl (0, 0)]))], [(0, 0), (0, 0)], [(none, [(1, .inl (10, [.inr (.inl (some 2)), .inr (.inl (some 16)), .inr (.inl (some 23)), .inl (0, 0)])), (2, .inl (2, [.inr (.inl (some 3)), .inr (.inl (some 4)), .inr (.inl (some 5)), .inr (.inl (some 6)), .inr (.inl (some 7)), .inr (.inl (some 8)), .inr (.inl (some 9)), .inr (.inl (some 10)), .inr (.inl (some 11)), .inr (.inl (some 12)), .inr (.inl (some 13)), .inr (.inl (some 14)), .inr (.inl (some 15)), .inl (0, 0), .inl (0, 0), .inl (0, 0)])), (3, .inr (2, .inr (.inl (6, 3)))), (4, .inr (0, .inl [(0, 0), (0, 0), (0, 0), (0, 0), (0, 0), (0, 0)])), (5, .inr (0, .inl [(0, 0), (0, 0), (0, 0), (0, 0), (0, 0), (0, 0)])), (6, .inr (0, .inl [(0, 0), (0, 0), (0, 0), (0, 0), (0, 0), (0, 0)])), (7, .inr (0, .inl [(0, 0), (0, 0), (0, 0), (0, 0), (0, 0), (0, 0)])), (8, .inr (0, .inl [(0, 0), (0, 0), (0, 0), (0, 0), (0, 0), (0, 0)])), (9, .inr (0, .inl [(0, 0), (0, 0), (0, 0), (0, 0), (0, 0), (0, 0)])), (10, .inr (2, .inr (.inl (8, 10)))), (11, .inr (0, .inl [(0, 0), (0, 0), (0, 0), (0, 0), (0, 0), (0, 0), (0, 0), (0, 0)])), (12, .inr (0, .inl [(0, 0), (0, 0), (0, 0), (0, 0), (0, 0), (0, 0), (0, 0), (0, 0)])), (13, .inr (0, .inl [(0, 0), (0, 0), (0, 0), (0, 0), (0, 0), (0, 0), (0, 0), (0, 0)])), (14, .inr (0, .inl [(0, 0), (0, 0), (0, 0), (0, 0), (0, 0), (0, 0), (0, 0), (0, 0)])), (15, .inr (0, .inl (List.replicate 24 (0, 0)))), (16, .inl (9, [.inr (.inl (some 17)), .inr (.inl (some 18)), .inr (.inl (some 19)), .inr (.inl (some 20)), .inr (.inl (some 21)), .inr (.inl (some 22)), .inl (0, 0), .inl (0, 0), .inl (0, 0), .inl (0, 0), .inl (0, 0), .inl (0, 0), .inl (0, 0)])), (17, .inr (0, .inl [(0, 0), (0, 0), (0, 0), (0, 0), (0, 0), (0, 0)])), (18, .inr (0, .inl [(0, 0), (0, 0), (0, 0), (0, 0), (0, 0), (0, 0)])), (19, .inr (0, .inl [(0, 0), (0, 0), (0, 0), (0, 0), (0, 0), (0, 0)])), (20, .inr (0, .inl [(0, 0), (0, 0), (0, 0), (0, 0), (0, 0), (0, 0), (0, 0), (0, 0)])), (21, .inr (0, .inl [(0, 0), (0, 0), (0, 0), (0, 0), (0, 0), (0, 0), (0, 0), (0, 0)])), (22, .inr (0, .inl [(0, 0), (0, 0), (0, 0), (0, 0), (0, 0), (0, 0), (0, 0), (0, 0)])), (23, .inl (7, [.inr (.inl (some 24)), .inr (.inl (some 25)), .inr (.inl (some 26)), .inr (.inl (some 27)), .inl (0, 0), .inl (0, 0)])), (24, .inr (0, .inl (List.replicate 40 (0, 0)))), (25, .inr (0, .inl (List.replicate 40 (0, 0)))), (26, .inr (0, .inl (List.replicate 40 (0, 0)))), (27, .inr (0, .inl (List.replicate 41 (0, 0))))], (List.replicate 28 (0, 0)))], 26, 344)
def t_X10_init_1 : List (Nat × sa_op) := [(0, so_aload 0 1), (1, so_obj), (4, so_aload 0 1), (5, so_new 2 16 [1, 1, 1, 1, 1, 1, 1, 1, 1, 1, 1, 1, 1, 0, 0, 0] 26 344), (8, so_dup), (9, so_callI K_X2_init_1 26 344), (12, so_put 10 0 (.object "OffThenOn$House")), (15, so_aload 0 1), (16, so_new 9 13 [1, 1, 1, 1, 1, 1, 0, 0, 0, 0, 0, 0, 0] 26 344), (19, so_dup), (20, so_callI K_X9_init_1 26 344), (23, so_put 10 1 (.object "OffThenOn$State")), (26, so_aload 0 1), (27, so_new 7 6 [1, 1, 1, 1, 0, 0] 26 344), (30, so_dup), (31, so_callI K_X7_init_1 26 344), (34, so_put 10 2 (.object "OffThenOn$Sentence"))]
set_option maxRecDepth 200000 in
set_option maxHeartbeats 4000000 in
theorem m_X10_init_1 (l : Launch) : sa_Met l vwCl sa_Ts yX10_init cX10_init 1 none 2 80 K_X10_init_1 := sa_method (by decide) [37] t_X10_init_1 19 (List.forall_mem_cons.mpr ⟨dX10_init_37, fun _ h => absurd h List.not_mem_nil⟩) (fun p e s m args below meth c Q D dA A n0 V0 C0 hU hin => List.forall_mem_cons.mpr ⟨sn_aload_n C0 dX10_init_0, List.forall_mem_cons.mpr ⟨sn_obj C0 dX10_init_1 tw_54 tw_31 tw_32 (by decide) (by decide), List.forall_mem_cons.mpr ⟨sn_aload_n C0 dX10_init_4, List.forall_mem_cons.mpr ⟨sn_new C0 kcX2 dX10_init_5 tw_55 tw_56 tw_4 (by decide) (Nat.le_refl _) (Nat.le_refl _), List.forall_mem_cons.mpr ⟨sn_dup C0 dX10_init_8, List.forall_mem_cons.mpr ⟨sn_callIN C0 hU sa_Tg (m_X2_init_1 l) tw_59 dX10_init_9 nl_1 tw_58 tw_4 rfl rfl ya_X2_init rfl (by decide) (Nat.le_refl _) (Nat.le_refl _), List.forall_mem_cons.mpr ⟨sn_putF C0 kcX10 dX10_init_12 (by decide) tw_233 rfl hin rfl rfl, List.forall_mem_cons.mpr ⟨sn_aload_n C0 dX10_init_15, List.forall_mem_cons.mpr ⟨sn_new C0 kcX9 dX10_init_16 tw_143 tw_144 tw_5 (by decide) (Nat.le_refl _) (Nat.le_refl _), List.forall_mem_cons.mpr ⟨sn_dup C0 dX10_init_19, List.forall_mem_cons.mpr ⟨sn_callIN C0 hU sa_Tg (m_X9_init_1 l) tw_147 dX10_init_20 nl_2 tw_146 tw_5 rfl rfl ya_X9_init rfl (by decide) (Nat.le_refl _) (Nat.le_refl _), List.forall_mem_cons.mpr ⟨sn_putF C0 kcX10 dX10_init_23 (by decide) tw_235 rfl hin rfl rfl, List.forall_mem_cons.mpr ⟨sn_aload_n C0 dX10_init_26, List.forall_mem_cons.mpr ⟨sn_new C0 kcX7 dX10_init_27 tw_206 tw_207 tw_6 (by decide) (Nat.le_refl _) (Nat.le_refl _), List.forall_mem_cons.mpr ⟨sn_dup C0 dX10_init_30, List.forall_mem_cons.mpr ⟨sn_callIN C0 hU sa_Tg (m_X7_init_1 l) tw_210 dX10_init_31 nl_3 tw_209 tw_6 rfl rfl ya_X7_init rfl (by decide) (Nat.le_refl _) (Nat.le_refl _), List.forall_mem_cons.mpr ⟨sn_putF C0 kcX10 dX10_init_34 (by decide) tw_237 rfl hin rfl rfl, fun _ h => absurd h List.not_mem_nil⟩⟩⟩⟩⟩⟩⟩⟩⟩⟩⟩⟩⟩⟩⟩⟩⟩) (by decide) (by decide +kernel)
def K_X1_init_1 : sa_K := ([.inr (.inl (some 1))], [(1, .inl (1, [.inr (.inl none), .inl (0, 0), .inl (0, 0)]))], [(0, 0), (0, 0)], [(none, [(1, .inl (1, [.inr (.inl (some 2)), .inl (0, 0), .inl (0, 0)])), (2, .inr (5, .inr (.inr [some 3, some 10, some 17, some 24, some 31, some 38, some 45, some 52, some 59]))), (3, .inl (9, [.inr (.inl (some 4)), .inr (.inl (some 5)), .inr (.inl (some 6)), .inr (.inl (some 7)), .inr (.inl (some 8)), .inr (.inl (some 9)), .inl (0, 0), .inl (0, 0), .inl (0, 0), .inl (0, 0), .inl (0, 0), .inl (0, 0), .inl (0, 0)])), (4, .inr (0, .inl [(0, 0), (0, 0), (0, 0), (0, 0), (0, 0), (0, 0)])), (5, .inr (0, .inl [(0, 0), (0, 0), (0, 0), (0, 0), (0, 0), (0, 0)])), (6, .inr (0, .inl [(0, 0), (0, 0), (0, 0), (0, 0), (0, 0), (0, 0)])), (7, .inr (0, .inl [(0, 0), (0, 0), (0, 0), (0, 0), (0, 0), (0, 0), (0, 0), (0, 0)])), (8, .inr (0, .inl [(0, 0), (0, 0), (0, 0), (0, 0), (0, 0), (0, 0), (0, 0), (0, 0)])), (9, .inr (0, .inl [(0, 0), (0, 0), (0, 0), (0, 0), (0, 0), (0, 0), (0, 0), (0, 0)])), (10, .inl (9, [.inr (.inl (some 11)), .inr (.inl (some 12)), .inr (.inl (some 13)), .inr (.inl (some 14)), .inr (.inl (some 15)), .inr (.inl (some 16)), .inl (0, 0), .inl (0, 0), .inl (0, 0), .inl (0, 0), .inl (0, 0), .inl (0, 0), .inl (0, 0)])), (11, .inr (0, .inl [(0, 0), (0, 0), (0, 0), (0, 0), (0, 0), (0, 0)])), (12, .inr (0, .inl [(0, 0), (0, 0), (0, 0), (0, 0), (0, 0), (0, 0)])), (13, .inr (0, .inl [(0, 0), (0, 0), (0, 0), (0, 0), (0, 0), (0, 0)])), (14, .inr (0, .inl [(0, 0), (0, 0), (0, 0), (0, 0), (0, 0), (0, 0), (0, 0), (0, 0)])), (15, .inr (0, .inl [(0, 0), (0, 0), (0, 0), (0, 0), (0, 0), (0, 0), (0, 0), (0, 0)])), (16, .inr (0, .inl [(0, 0), (0, 0), (0, 0), (0, 0), (0, 0), (0, 0), (0, 0), (0, 0)])), (17, .inl (9, [.inr (.inl (some 18)), .inr (.inl (some 19)), .inr (.inl (some 20)), .inr (.inl (some 21)), .inr (.inl (some 22)), .inr (.inl (some 23)), .inl (0, 0), .inl (0, 0), .inl (0, 0), .inl (0, 0), .inl (0, 0), .inl (0, 0), .inl (0, 0)])), (18, .inr (0, .inl [(0, 0), (0, 0), (0, 0), (0, 0), (0, 0), (0, 0)])), (19, .inr (0, .inl [(0, 0), (0, 0), (0, 0), (0, 0), (0, 0), (0, 0)])), (20, .inr (0, .inl [(0, 0), (0, 0), (0, 0), (0, 0), (0, 0), (0, 0)])), (21, .inr (0, .inl [(0, 0), (0, 0), (0, 0), (0, 0), (0, 0), (0, 0), (0, 0), (0, 0)])), (22, .inr (0, .inl [(0, 0), (0, 0), (0, 0), (0, 0), (0, 0), (0, 0), (0, 0), (0, 0)])), (23, .inr (0, .inl [(0, 0), (0, 0), (0, 0), (0, 0), (0, 0), (0, 0), (0, 0), (0, 0)])), (24, .inl (9, [.inr (.inl (some 25)), .inr (.inl (some 26)), .inr (.inl (some 27)), .inr (.inl (some 28)), .inr (.inl (some 29)), .inr (.inl (some 30)), .inl (0, 0), .inl (0, 0), .inl (0, 0), .inl (0, 0), .inl (0, 0), .inl (0, 0), .inl (0, 0)])), (25, .inr (0, .inl [(0, 0), (0, 0), (0, 0), (0, 0), (0, 0), (0, 0)])), (26, .inr (0, .inl [(0, 0), (0, 0), (0, 0), (0, 0), (0, 0), (0, 0)])), (27, .inr (0, .inl [(0, 0), (0, 0), (0, 0), (0, 0), (0, 0), (0, 0)])), (28, .inr (0, .inl [(0, 0), (0, 0), (0, 0), (0, 0), (0, 0), (0, 0), (0, 0), (0, 0)])), (29, .inr (0, .inl [(0, 0), (0, 0), (0, 0), (0, 0), (0, 0), (0, 0), (0, 0), (0, 0)])), (30, .inr (0, .inl [(0, 0), (0, 0), (0, 0), (0, 0), (0, 0), (0, 0), (0, 0), (0, 0)])), (31, .inl (9, [.inr (.inl (some 32)), .inr (.inl (some 33)), .inr (.inl (some 34)), .inr (.inl (some 35)), .inr (.inl (some 36)), .inr (.inl (some 37)), .inl (0, 0), .inl (0, 0), .inl (0, 0), .inl (0, 0), .inl (0, 0), .inl (0, 0), .inl (0, 0)])), (32, .inr (0, .inl [(0, 0), (0, 0), (0, 0), (0, 0), (0, 0), (0, 0)])), (33, .inr (0, .inl [(0, 0), (0, 0), (0, 0), (0, 0), (0, 0), (0, 0)])), (34, .inr (0, .inl [(0, 0), (0, 0), (0, 0), (0, 0), (0, 0), (0, 0)])), (35, .inr (0, .inl [(0, 0), (0, 0), (0, 0), (0, 0), (0, 0), (0, 0), (0, 0), (0, 0)])), (36, .inr (0, .inl [(0, 0), (0, 0), (0, 0), (0, 0), (0, 0), (0, 0), (0, 0), (0, 0)])), (37, .inr (0, .inl [(0, 0), (0, 0), (0, 0), (0, 0), (0, 0), (0, 0), (0, 0), (0, 0)])), (38, .inl (9, [.inr (.inl (some 39)), .inr (.inl (some 40)), .inr (.inl (some 41)), .inr (.inl (some 42)), .inr (.inl (some 43)), .inr (.inl (some 44)), .inl (0, 0), .inl (0, 0), .inl (0, 0), .inl (0, 0), .inl (0, 0), .inl (0, 0), .inl (0, 0)])), (39, .inr (0, .inl [(0, 0), (0, 0), (0, 0), (0, 0), (0, 0), (0, 0)])), (40, .inr (0, .inl [(0, 0), (0, 0), (0, 0), (0, 0), (0, 0), (0, 0)])), (41, .inr (0, .inl [(0, 0), (0, 0), (0, 0), (0, 0), (0, 0), (0, 0)])), (42, .inr (0, .inl [(0, 0), (0, 0), (0, 0), (0, 0), (0, 0), (0, 0), (0, 0), (0, 0)])), (43, .inr (0, .inl [(0, 0), (0, 0), (0, 0), (0, 0), (0, 0), (0, 0), (0, 0), (0, 0)])), (44, .inr (0, .inl [(0, 0), (0, 0), (0, 0), (0, 0), (0, 0), (0, 0), (0, 0), (0, 0)])), (45, .inl (9, [.inr (.inl (some 46)), .inr (.inl (some 47)), .inr (.inl (some 48)), .inr (.inl (some 49)), .inr (.inl (some 50)), .inr (.inl (some 51)), .inl (0, 0), .inl (0, 0), .inl (0, 0), .inl (0, 0), .inl (0, 0), .inl (0, 0), .inl (0, 0)])), (46, .inr (0, .inl [(0, 0), (0, 0), (0, 0), (0, 0), (0, 0), (0, 0)])), (47, .inr (0, .inl [(0, 0), (0, 0), (0, 0), (0, 0), (0, 0), (0, 0)])), (48, .inr (0, .inl [(0, 0), (0, 0), (0, 0), (0, 0), (0, 0), (0, 0)])), (49, .inr (0, .inl [(0, 0), (0, 0), (0, 0), (0, 0), (0, 0), (0, 0), (0, 0), (0, 0)])), (50, .inr (0, .inl [(0, 0), (0, 0), (0, 0), (0, 0), (0, 0), (0, 0), (0, 0), (0, 0)])), (51, .inr (0, .inl [(0, 0), (0, 0), (0, 0), (0, 0), (0, 0), (0, 0), (0, 0), (0, 0)])), (52, .inl (9, [.inr (.inl (some 53)), .inr (.inl (some 54)), .inr (.inl (some 55)), .inr (.inl (some 56)), .inr (.inl (some 57)), .inr (.inl (some 58)), .inl (0, 0), .inl (0, 0), .inl (0, 0), .inl (0, 0), .inl (0, 0), .inl (0, 0), .inl (0, 0)])), (53, .inr (0, .inl [(0, 0), (0, 0), (0, 0), (0, 0), (0, 0), (0, 0)])), (54, .inr (0, .inl [(0, 0), (0, 0), (0, 0), (0, 0), (0, 0), (0, 0)])), (55, .inr (0, .inl [(0, 0), (0, 0), (0, 0), (0, 0), (0, 0), (0, 0)])), (56, .inr (0, .inl [(0, 0), (0, 0), (0, 0), (0, 0), (0, 0), (0, 0), (0, 0), (0, 0)])), (57, .inr (0, .inl [(0, 0), (0, 0), (0, 0), (0, 0), (0, 0), (0, 0), (0, 0), (0, 0)])), (58, .inr (0, .inl [(0, 0), (0, 0), (0, 0), (0, 0), (0, 0), (0, 0), (0, 0), (0, 0)])), (59, .inl (9, [.inr (.inl (some 60)), .inr (.inl (some 61)), .inr (.inl (some 62)), .inr (.inl (some 63)), .inr (.inl (some 64)), .inr (.inl (some 65)), .inl (0, 0), .inl (0, 0), .inl (0, 0), .inl (0, 0), .inl (0, 0), .inl (0, 0), .inl (0, 0)])), (60, .inr (0, .inl [(0, 0), (0, 0), (0, 0), (0, 0), (0, 0), (0, 0)])), (61, .inr (0, .inl [(0, 0), (0, 0), (0, 0), (0, 0), (0, 0), (0, 0)])), (62, .inr (0, .inl [(0, 0), (0, 0), (0, 0), (0, 0), (0, 0), (0, 0)])), (63, .inr (0, .inl [(0, 0), (0, 0), (0, 0), (0, 0), (0, 0), (0, 0), (0, 0), (0, 0)])), (64, .inr (0, .inl [(0, 0), (0, 0), (0, 0), (0, 0), (0, 0), (0, 0), (0, 0), (0, 0)])), (65, .inr (0, .inl [(0, 0), (0, 0), (0, 0), (0, 0), (0, 0), (0, 0), (0, 0), (0, 0)]))], (List.replicate 66 (0, 0)))], 64, 504)
def t_X1_init_1 : List (Nat × sa_op) := [(0, so_aload 0 1), (1, so_obj), (4, so_aload 0 1), (5, so_int (9) 2), (7, so_newq 5 64 504), (10, so_put 1 0 (.array (.object "OffThenOn$State"))), (13, so_int (0) 1), (14, so_istore 2 1 1), (15, so_iload 1 1), (16, so_int (9) 2), (18, so_icmp (sr_flip sr_le) sr_lt 40), (21, so_aload 0 1), (22, so_get 1 0), (25, so_iload 1 1), (26, so_new 9 13 [1, 1, 1, 1, 1, 1, 0, 0, 0, 0, 0, 0, 0] 64 504), (29, so_dup), (30, so_callI K_X9_init_1 64 504), (33, so_aast 5 9), (34, so_iinc 2 1 (1)), (37, so_goto 15)]
set_option maxRecDepth 200000 in
set_option maxHeartbeats 4000000 in
theorem m_X1_init_1 (l : Launch) : sa_Met l vwCl sa_Ts yX1_init cX1_init 2 none 2 80 K_X1_init_1 := sa_method (by decide) [40] t_X1_init_1 121 (List.forall_mem_cons.mpr ⟨dX1_init_40, fun _ h => absurd h List.not_mem_nil⟩) (fun p e s m args below meth c Q D dA A n0 V0 C0 hU hin => List.forall_mem_cons.mpr ⟨sn_aload_n C0 dX1_init_0, List.forall_mem_cons.mpr ⟨sn_obj C0 dX1_init_1 tw_255 tw_31 tw_32 (by decide) (by decide), List.forall_mem_cons.mpr ⟨sn_aload_n C0 dX1_init_4, List.forall_mem_cons.mpr ⟨sn_bipush C0 dX1_init_5 (by decide), List.forall_mem_cons.mpr ⟨sn_newq C0 dX1_init_7 tw_256 hU.2.2.1 rfl (Nat.le_refl _) (Nat.le_refl _), List.forall_mem_cons.mpr ⟨sn_putF C0 kcX1 dX1_init_10 (by decide) tw_259 rfl hin rfl rfl, List.forall_mem_cons.mpr ⟨sn_iconst C0 dX1_init_13, List.forall_mem_cons.mpr ⟨sn_istore_n C0 dX1_init_14, List.forall_mem_cons.mpr ⟨sn_iload_n C0 dX1_init_15, List.forall_mem_cons.mpr ⟨sn_bipush C0 dX1_init_16 (by decide), List.forall_mem_cons.mpr ⟨sn_icmp_ge C0 dX1_init_18 (by decide), List.forall_mem_cons.mpr ⟨sn_aload_n C0 dX1_init_21, List.forall_mem_cons.mpr ⟨sn_get C0 kcX1 dX1_init_22 (by decide) tw_259, List.forall_mem_cons.mpr ⟨sn_iload_n C0 dX1_init_25, List.forall_mem_cons.mpr ⟨sn_new C0 kcX9 dX1_init_26 tw_256 tw_144 tw_5 (by decide) (Nat.le_refl _) (Nat.le_refl _), List.forall_mem_cons.mpr ⟨sn_dup C0 dX1_init_29, List.forall_mem_cons.mpr ⟨sn_callIN C0 hU sa_Tg (m_X9_init_1 l) tw_147 dX1_init_30 nl_4 tw_146 tw_5 rfl rfl ya_X9_init rfl (by decide) (Nat.le_refl _) (Nat.le_refl _), List.forall_mem_cons.mpr ⟨sn_aast C0 kcX9 dX1_init_33 rfl, List.forall_mem_cons.mpr ⟨sn_iinc C0 dX1_init_34, List.forall_mem_cons.mpr ⟨sn_goto C0 dX1_init_37 (by decide), fun _ h => absurd h List.not_mem_nil⟩⟩⟩⟩⟩⟩⟩⟩⟩⟩⟩⟩⟩⟩⟩⟩⟩⟩⟩⟩) (by decide) (by decide +kernel)
def K_X0_init_2 : sa_K := ([.inr (.inl (some 1)), .inl (0, 0)], [(1, .inl (0, [.inr (.inl none), .inl (0, 0)]))], [(0, 0), (0, 0)], [(none, [(1, .inl (0, [.inr (.inl (some 2)), .inl (0, 0)])), (2, .inr (1, .inl []))], [(0, 0), (0, 0), (0, 0)])], 1, 0)
def t_X0_init_2 : List (Nat × sa_op) := [(0, so_aload 0 1), (1, so_obj), (4, so_aload 0 1), (5, so_iload 1 1), (6, so_newa 1 1 0), (8, so_put 0 0 (.array .byte))]
set_option maxRecDepth 200000 in
set_option maxHeartbeats 4000000 in
theorem m_X0_init_2 (l : Launch) : sa_Met l vwCl sa_Ts yX0_init cX0_init 2 none 1 60 K_X0_init_2 := sa_method (by decide) [11] t_X0_init_2 8 (List.forall_mem_cons.mpr ⟨dX0_init_11, fun _ h => absurd h List.not_mem_nil⟩) (fun p e s m args below meth c Q D dA A n0 V0 C0 hU hin => List.forall_mem_cons.mpr ⟨sn_aload_n C0 dX0_init_0, List.forall_mem_cons.mpr ⟨sn_obj C0 dX0_init_1 tw_38 tw_31 tw_32 (by decide) (by decide), List.forall_mem_cons.mpr ⟨sn_aload_n C0 dX0_init_4, List.forall_mem_cons.mpr ⟨sn_iload_n C0 dX0_init_5, List.forall_mem_cons.mpr ⟨sn_newaB C0 dX0_init_6 tw_48 (Nat.le_refl _) (Nat.le_refl _), List.forall_mem_cons.mpr ⟨sn_putF C0 kcX0 dX0_init_8 (by decide) tw_39 rfl hin rfl rfl, fun _ h => absurd h List.not_mem_nil⟩⟩⟩⟩⟩⟩) (by decide) (by decide +kernel)
def K_X6_init_1 : sa_K := ([.inr (.inl (some 1))], [(1, .inl (6, [.inr (.inl none), .inl (0, 0), .inl (0, 0), .inl (0, 0), .inl (0, 0), .inr (.inr 1), .inl (0, 0), .inl (0, 0), .inl (0, 0), .inl (0, 0)]))], [(0, 0), (0, 0)], [(none, [(1, .inl (6, [.inr (.inl (some 2)), .inl (0, 0), .inl (0, 0), .inl (0, 0), .inl (0, 0), .inr (.inr 1), .inl (0, 0), .inl (0, 0), .inl (0, 0), .inl (0, 0)])), (2, .inl (0, [.inr (.inl (some 3)), .inl (0, 0)])), (3, .inr (1, .inl []))], [(0, 0), (0, 0), (0, 0), (0, 0)])], 2, 2)
def t_X6_init_1 : List (Nat × sa_op) := [(0, so_aload 0 1), (1, so_obj), (4, so_aload 0 1), (5, so_new 0 2 [1, 0] 2 2), (8, so_dup), (9, so_int (0) 1), (10, so_callI K_X0_init_2 2 2), (13, so_put 6 0 (.object "OffThenOn$Bytes"))]
set_option maxRecDepth 200000 in
set_option maxHeartbeats 4000000 in
theorem m_X6_init_1 (l : Launch) : sa_Met l vwCl sa_Ts yX6_init cX6_init 1 none 2 81 K_X6_init_1 := sa_method (by decide) [16] t_X6_init_1 10 (List.forall_mem_cons.mpr ⟨dX6_init_16, fun _ h => absurd h List.not_mem_nil⟩) (fun p e s m args below meth c Q D dA A n0 V0 C0 hU hin => List.forall_mem_cons.mpr ⟨sn_aload_n C0 dX6_init_0, List.forall_mem_cons.mpr ⟨sn_obj C0 dX6_init_1 tw_282 tw_31 tw_32 (by decide) (by decide), List.forall_mem_cons.mpr ⟨sn_aload_n C0 dX6_init_4, List.forall_mem_cons.mpr ⟨sn_new C0 kcX0 dX6_init_5 tw_283 tw_34 tw_2 (by decide) (Nat.le_refl _) (Nat.le_refl _), List.forall_mem_cons.mpr ⟨sn_dup C0 dX6_init_8, List.forall_mem_cons.mpr ⟨sn_iconst C0 dX6_init_9, List.forall_mem_cons.mpr ⟨sn_callI C0 hU sa_Tg (m_X0_init_2 l) tw_37 dX6_init_10 tw_284 tw_36 tw_2 rfl rfl ya_X0_init rfl (by decide) (Nat.le_refl _) (Nat.le_refl _), List.forall_mem_cons.mpr ⟨sn_put C0 kcX6 dX6_init_13 (by decide) tw_285 rfl rfl, fun _ h => absurd h List.not_mem_nil⟩⟩⟩⟩⟩⟩⟩⟩) (by decide) (by decide +kernel)
def K_X3_init_1 : sa_K := ([.inr (.inl (some 1))], [(1, .inl (3, [.inr (.inl none), .inr (.inl none), .inl (0, 0)]))], [(0, 0), (0, 0)], [(none, [(1, .inl (3, [.inr (.inl (some 2)), .inr (.inl (some 5)), .inl (0, 0)])), (2, .inl (6, [.inr (.inl (some 3)), .inl (0, 0), .inl (0, 0), .inl (0, 0), .inl (0, 0), .inr (.inr 2), .inl (0, 0), .inl (0, 0), .inl (0, 0), .inl (0, 0)])), (3, .inl (0, [.inr (.inl (some 4)), .inl (0, 0)])), (4, .inr (1, .inl [])), (5, .inl (2, [.inr (.inl (some 6)), .inr (.inl (some 7)), .inr (.inl (some 8)), .inr (.inl (some 9)), .inr (.inl (some 10)), .inr (.inl (some 11)), .inr (.inl (some 12)), .inr (.inl (some 13)), .inr (.inl (some 14)), .inr (.inl (some 15)), .inr (.inl (some 16)), .inr (.inl (some 17)), .inr (.inl (some 18)), .inl (0, 0), .inl (0, 0), .inl (0, 0)])), (6, .inr (2, .inr (.inl (6, 6)))), (7, .inr (0, .inl [(0, 0), (0, 0), (0, 0), (0, 0), (0, 0), (0, 0)])), (8, .inr (0, .inl [(0, 0), (0, 0), (0, 0), (0, 0), (0, 0), (0, 0)])), (9, .inr (0, .inl [(0, 0), (0, 0), (0, 0), (0, 0), (0, 0), (0, 0)])), (10, .inr (0, .inl [(0, 0), (0, 0), (0, 0), (0, 0), (0, 0), (0, 0)])), (11, .inr (0, .inl [(0, 0), (0, 0), (0, 0), (0, 0), (0, 0), (0, 0)])), (12, .inr (0, .inl [(0, 0), (0, 0), (0, 0), (0, 0), (0, 0), (0, 0)])), (13, .inr (2, .inr (.inl (8, 13)))), (14, .inr (0, .inl [(0, 0), (0, 0), (0, 0), (0, 0), (0, 0), (0, 0), (0, 0), (0, 0)])), (15, .inr (0, .inl [(0, 0), (0, 0), (0, 0), (0, 0), (0, 0), (0, 0), (0, 0), (0, 0)])), (16, .inr (0, .inl [(0, 0), (0, 0), (0, 0), (0, 0), (0, 0), (0, 0), (0, 0), (0, 0)])), (17, .inr (0, .inl [(0, 0), (0, 0), (0, 0), (0, 0), (0, 0), (0, 0), (0, 0), (0, 0)])), (18, .inr (0, .inl (List.replicate 24 (0, 0))))], (List.replicate 19 (0, 0)))], 17, 134)
def t_X3_init_1 : List (Nat × sa_op) := [(0, so_aload 0 1), (1, so_obj), (4, so_aload 0 1), (5, so_new 6 10 [1, 0, 0, 0, 0, 2, 0, 0, 0, 0] 17 134), (8, so_dup), (9, so_callI K_X6_init_1 17 134), (12, so_put 3 0 (.object "OffThenOn$Reader")), (15, so_aload 0 1), (16, so_new 2 16 [1, 1, 1, 1, 1, 1, 1, 1, 1, 1, 1, 1, 1, 0, 0, 0] 17 134), (19, so_dup), (20, so_callI K_X2_init_1 17 134), (23, so_put 3 1 (.object "OffThenOn$House"))]
set_option maxRecDepth 200000 in
set_option maxHeartbeats 4000000 in
theorem m_X3_init_1 (l : Launch) : sa_Met l vwCl sa_Ts yX3_init cX3_init 1 none 3 101 K_X3_init_1 := sa_method (by decide) [26] t_X3_init_1 14 (List.forall_mem_cons.mpr ⟨dX3_init_26, fun _ h => absurd h List.not_mem_nil⟩) (fun p e s m args below meth c Q D dA A n0 V0 C0 hU hin => List.forall_mem_cons.mpr ⟨sn_aload_n C0 dX3_init_0, List.forall_mem_cons.mpr ⟨sn_obj C0 dX3_init_1 tw_276 tw_31 tw_32 (by decide) (by decide), List.forall_mem_cons.mpr ⟨sn_aload_n C0 dX3_init_4, List.forall_mem_cons.mpr ⟨sn_new C0 kcX6 dX3_init_5 tw_277 tw_278 tw_9 (by decide) (Nat.le_refl _) (Nat.le_refl _), List.forall_mem_cons.mpr ⟨sn_dup C0 dX3_init_8, List.forall_mem_cons.mpr ⟨sn_callIN C0 hU sa_Tg (m_X6_init_1 l) tw_281 dX3_init_9 nl_7 tw_280 tw_9 rfl rfl ya_X6_init rfl (by decide) (Nat.le_refl _) (Nat.le_refl _), List.forall_mem_cons.mpr ⟨sn_putF C0 kcX3 dX3_init_12 (by decide) tw_329 rfl hin rfl rfl, List.forall_mem_cons.mpr ⟨sn_aload_n C0 dX3_init_15, List.forall_mem_cons.mpr ⟨sn_new C0 kcX2 dX3_init_16 tw_327 tw_56 tw_4 (by decide) (Nat.le_refl _) (Nat.le_refl _), List.forall_mem_cons.mpr ⟨sn_dup C0 dX3_init_19, List.forall_mem_cons.mpr ⟨sn_callIN C0 hU sa_Tg (m_X2_init_1 l) tw_59 dX3_init_20 nl_8 tw_58 tw_4 rfl rfl ya_X2_init rfl (by decide) (Nat.le_refl _) (Nat.le_refl _), List.forall_mem_cons.mpr ⟨sn_putF C0 kcX3 dX3_init_23 (by decide) tw_331 rfl hin rfl rfl, fun _ h => absurd h List.not_mem_nil⟩⟩⟩⟩⟩⟩⟩⟩⟩⟩⟩⟩) (by decide) (by decide +kernel)
def K_X4_init_1 : sa_K := ([.inr (.inl (some 1))], [(1, .inl (4, [.inr (.inl none), .inr (.inl none), .inr (.inl none), .inr (.inl none), .inl (0, 0), .inl (0, 0)]))], [(0, 0), (0, 0)], [(none, [(1, .inl (4, [.inr (.inl (some 2)), .inr (.inl (some 5)), .inr (.inl (some 6)), .inr (.inl (some 7)), .inl (0, 0), .inl (0, 0)])), (2, .inl (6, [.inr (.inl (some 3)), .inl (0, 0), .inl (0, 0), .inl (0, 0), .inl (0, 0), .inr (.inr 2), .inl (0, 0), .inl (0, 0), .inl (0, 0), .inl (0, 0)])), (3, .inl (0, [.inr (.inl (some 4)), .inl (0, 0)])), (4, .inr (1, .inl [])), (5, .inr (0, .inl (List.replicate 40 (0, 0)))), (6, .inr (0, .inl (List.replicate 40 (0, 0)))), (7, .inr (0, .inl (List.replicate 40 (0, 0))))], [(0, 0), (0, 0), (0, 0), (0, 0), (0, 0), (0, 0), (0, 0), (0, 0)])], 6, 132)
def t_X4_init_1 : List (Nat × sa_op) := [(0, so_aload 0 1), (1, so_obj), (4, so_aload 0 1), (5, so_new 6 10 [1, 0, 0, 0, 0, 2, 0, 0, 0, 0] 6 132), (8, so_dup), (9, so_callI K_X6_init_1 6 132), (12, so_put 4 0 (.object "OffThenOn$Reader")), (15, so_aload 0 1), (16, so_int (40) 2), (18, so_newa 0 6 132), (20, so_put 4 1 (.array .int)), (23, so_aload 0 1), (24, so_int (40) 2), (26, so_newa 0 6 132), (28, so_put 4 2 (.array .int)), (31, so_aload 0 1), (32, so_int (40) 2), (34, so_newa 0 6 132), (36, so_put 4 3 (.array .int))]
set_option maxRecDepth 200000 in
set_option maxHeartbeats 4000000 in
theorem m_X4_init_1 (l : Launch) : sa_Met l vwCl sa_Ts yX4_init cX4_init 1 none 3 101 K_X4_init_1 := sa_method (by decide) [39] t_X4_init_1 21 (List.forall_mem_cons.mpr ⟨dX4_init_39, fun _ h => absurd h List.not_mem_nil⟩) (fun p e s m args below meth c Q D dA A n0 V0 C0 hU hin => List.forall_mem_cons.mpr ⟨sn_aload_n C0 dX4_init_0, List.forall_mem_cons.mpr ⟨sn_obj C0 dX4_init_1 tw_347 tw_31 tw_32 (by decide) (by decide), List.forall_mem_cons.mpr ⟨sn_aload_n C0 dX4_init_4, List.forall_mem_cons.mpr ⟨sn_new C0 kcX6 dX4_init_5 tw_348 tw_278 tw_9 (by decide) (Nat.le_refl _) (Nat.le_refl _), List.forall_mem_cons.mpr ⟨sn_dup C0 dX4_init_8, List.forall_mem_cons.mpr ⟨sn_callIN C0 hU sa_Tg (m_X6_init_1 l) tw_281 dX4_init_9 nl_10 tw_280 tw_9 rfl rfl ya_X6_init rfl (by decide) (Nat.le_refl _) (Nat.le_refl _), List.forall_mem_cons.mpr ⟨sn_putF C0 kcX4 dX4_init_12 (by decide) tw_350 rfl hin rfl rfl, List.forall_mem_cons.mpr ⟨sn_aload_n C0 dX4_init_15, List.forall_mem_cons.mpr ⟨sn_bipush C0 dX4_init_16 (by decide), List.forall_mem_cons.mpr ⟨sn_newaI C0 dX4_init_18 tw_142 (Nat.le_refl _) (Nat.le_refl _), List.forall_mem_cons.mpr ⟨sn_putF C0 kcX4 dX4_init_20 (by decide) tw_352 rfl hin rfl rfl, List.forall_mem_cons.mpr ⟨sn_aload_n C0 dX4_init_23, List.forall_mem_cons.mpr ⟨sn_bipush C0 dX4_init_24 (by decide), List.forall_mem_cons.mpr ⟨sn_newaI C0 dX4_init_26 tw_142 (Nat.le_refl _) (Nat.le_refl _), List.forall_mem_cons.mpr ⟨sn_putF C0 kcX4 dX4_init_28 (by decide) tw_353 rfl hin rfl rfl, List.forall_mem_cons.mpr ⟨sn_aload_n C0 dX4_init_31, List.forall_mem_cons.mpr ⟨sn_bipush C0 dX4_init_32 (by decide), List.forall_mem_cons.mpr ⟨sn_newaI C0 dX4_init_34 tw_142 (Nat.le_refl _) (Nat.le_refl _), List.forall_mem_cons.mpr ⟨sn_putF C0 kcX4 dX4_init_36 (by decide) tw_354 rfl hin rfl rfl, fun _ h => absurd h List.not_mem_nil⟩⟩⟩⟩⟩⟩⟩⟩⟩⟩⟩⟩⟩⟩⟩⟩⟩⟩⟩) (by decide) (by decide +kernel)
def K_X8_init_1 : sa_K := ([.inr (.inl (some 1))], [(1, .inl (8, [.inr (.inl none), .inr (.inl none)]))], [(0, 0), (0, 0)], [(none, [(1, .inl (8, [.inr (.inl (some 2)), .inr (.inl (some 5))])), (2, .inl (6, [.inr (.inl (some 3)), .inl (0, 0), .inl (0, 0), .inl (0, 0), .inl (0, 0), .inr (.inr 2), .inl (0, 0), .inl (0, 0), .inl (0, 0), .inl (0, 0)])), (3, .inl (0, [.inr (.inl (some 4)), .inl (0, 0)])), (4, .inr (1, .inl [])), (5, .inl (7, [.inr (.inl (some 6)), .inr (.inl (some 7)), .inr (.inl (some 8)), .inr (.inl (some 9)), .inl (0, 0), .inl (0, 0)])), (6, .inr (0, .inl (List.replicate 40 (0, 0)))), (7, .inr (0, .inl (List.replicate 40 (0, 0)))), (8, .inr (0, .inl (List.replicate 40 (0, 0)))), (9, .inr (0, .inl (List.replicate 41 (0, 0))))], [(0, 0), (0, 0), (0, 0), (0, 0), (0, 0), (0, 0), (0, 0), (0, 0), (0, 0), (0, 0)])], 8, 179)
def t_X8_init_1 : List (Nat × sa_op) := [(0, so_aload 0 1), (1, so_obj), (4, so_aload 0 1), (5, so_new 6 10 [1, 0, 0, 0, 0, 2, 0, 0, 0, 0] 8 179), (8, so_dup), (9, so_callI K_X6_init_1 8 179), (12, so_put 8 0 (.object "OffThenOn$Reader")), (15, so_aload 0 1), (16, so_new 7 6 [1, 1, 1, 1, 0, 0] 8 179), (19, so_dup), (20, so_callI K_X7_init_1 8 179), (23, so_put 8 1 (.object "OffThenOn$Sentence"))]
set_option maxRecDepth 200000 in
set_option maxHeartbeats 4000000 in
theorem m_X8_init_1 (l : Launch) : sa_Met l vwCl sa_Ts yX8_init cX8_init 1 none 3 101 K_X8_init_1 := sa_method (by decide) [26] t_X8_init_1 14 (List.forall_mem_cons.mpr ⟨dX8_init_26, fun _ h => absurd h List.not_mem_nil⟩) (fun p e s m args below meth c Q D dA A n0 V0 C0 hU hin => List.forall_mem_cons.mpr ⟨sn_aload_n C0 dX8_init_0, List.forall_mem_cons.mpr ⟨sn_obj C0 dX8_init_1 tw_376 tw_31 tw_32 (by decide) (by decide), List.forall_mem_cons.mpr ⟨sn_aload_n C0 dX8_init_4, List.forall_mem_cons.mpr ⟨sn_new C0 kcX6 dX8_init_5 tw_377 tw_278 tw_9 (by decide) (Nat.le_refl _) (Nat.le_refl _), List.forall_mem_cons.mpr ⟨sn_dup C0 dX8_init_8, List.forall_mem_cons.mpr ⟨sn_callIN C0 hU sa_Tg (m_X6_init_1 l) tw_281 dX8_init_9 nl_12 tw_280 tw_9 rfl rfl ya_X6_init rfl (by decide) (Nat.le_refl _) (Nat.le_refl _), List.forall_mem_cons.mpr ⟨sn_putF C0 kcX8 dX8_init_12 (by decide) tw_381 rfl hin rfl rfl, List.forall_mem_cons.mpr ⟨sn_aload_n C0 dX8_init_15, List.forall_mem_cons.mpr ⟨sn_new C0 kcX7 dX8_init_16 tw_379 tw_207 tw_6 (by decide) (Nat.le_refl _) (Nat.le_refl _), List.forall_mem_cons.mpr ⟨sn_dup C0 dX8_init_19, List.forall_mem_cons.mpr ⟨sn_callIN C0 hU sa_Tg (m_X7_init_1 l) tw_210 dX8_init_20 nl_13 tw_209 tw_6 rfl rfl ya_X7_init rfl (by decide) (Nat.le_refl _) (Nat.le_refl _), List.forall_mem_cons.mpr ⟨sn_putF C0 kcX8 dX8_init_23 (by decide) tw_383 rfl hin rfl rfl, fun _ h => absurd h List.not_mem_nil⟩⟩⟩⟩⟩⟩⟩⟩⟩⟩⟩⟩) (by decide) (by decide +kernel)
def K_X5_init_1 : sa_K := ([.inr (.inl (some 1))], [(1, .inl (5, [.inr (.inl none), .inl (0, 0), .inl (0, 0), .inl (0, 0), .inr (.inl none), .inr (.inl none), .inr (.inl none)]))], [(0, 0), (0, 0)], [(none, [(1, .inl (5, [.inr (.inl (some 2)), .inl (0, 0), .inl (0, 0), .inl (0, 0), .inr (.inl (some 3)), .inr (.inl (some 4)), .inr (.inl (some 5))])), (2, .inr (0, .inl [(0, 0), (0, 0), (0, 0), (0, 0)])), (3, .inr (0, .inl [(0, 0), (0, 0), (0, 0), (0, 0)])), (4, .inr (0, .inl (List.replicate 32 (0, 0)))), (5, .inr (0, .inl [(0, 0), (0, 0), (0, 0), (0, 0)]))], [(0, 0), (0, 0), (0, 0), (0, 0), (0, 0), (0, 0)])], 4, 44)
def t_X5_init_1 : List (Nat × sa_op) := [(0, so_aload 0 1), (1, so_obj), (4, so_aload 0 1), (5, so_int (4) 1), (6, so_newa 0 4 44), (8, so_put 5 0 (.array .int)), (11, so_aload 0 1), (12, so_int (4) 1), (13, so_newa 0 4 44), (15, so_put 5 4 (.array .int)), (18, so_aload 0 1), (19, so_int (32) 2), (21, so_newa 0 4 44), (23, so_put 5 5 (.array .int)), (26, so_aload 0 1), (27, so_int (4) 1), (28, so_newa 0 4 44), (30, so_put 5 6 (.array .int))]
set_option maxRecDepth 200000 in
set_option maxHeartbeats 4000000 in
theorem m_X5_init_1 (l : Launch) : sa_Met l vwCl sa_Ts yX5_init cX5_init 1 none 1 60 K_X5_init_1 := sa_method (by decide) [33] t_X5_init_1 20 (List.forall_mem_cons.mpr ⟨dX5_init_33, fun _ h => absurd h List.not_mem_nil⟩) (fun p e s m args below meth c Q D dA A n0 V0 C0 hU hin => List.forall_mem_cons.mpr ⟨sn_aload_n C0 dX5_init_0, List.forall_mem_cons.mpr ⟨sn_obj C0 dX5_init_1 tw_395 tw_31 tw_32 (by decide) (by decide), List.forall_mem_cons.mpr ⟨sn_aload_n C0 dX5_init_4, List.forall_mem_cons.mpr ⟨sn_iconst C0 dX5_init_5, List.forall_mem_cons.mpr ⟨sn_newaI C0 dX5_init_6 tw_142 (Nat.le_refl _) (Nat.le_refl _), List.forall_mem_cons.mpr ⟨sn_putF C0 kcX5 dX5_init_8 (by decide) tw_396 rfl hin rfl rfl, List.forall_mem_cons.mpr ⟨sn_aload_n C0 dX5_init_11, List.forall_mem_cons.mpr ⟨sn_iconst C0 dX5_init_12, List.forall_mem_cons.mpr ⟨sn_newaI C0 dX5_init_13 tw_142 (Nat.le_refl _) (Nat.le_refl _), List.forall_mem_cons.mpr ⟨sn_putF C0 kcX5 dX5_init_15 (by decide) tw_404 rfl hin rfl rfl, List.forall_mem_cons.mpr ⟨sn_aload_n C0 dX5_init_18, List.forall_mem_cons.mpr ⟨sn_bipush C0 dX5_init_19 (by decide), List.forall_mem_cons.mpr ⟨sn_newaI C0 dX5_init_21 tw_142 (Nat.le_refl _) (Nat.le_refl _), List.forall_mem_cons.mpr ⟨sn_putF C0 kcX5 dX5_init_23 (by decide) tw_405 rfl hin rfl rfl, List.forall_mem_cons.mpr ⟨sn_aload_n C0 dX5_init_26, List.forall_mem_cons.mpr ⟨sn_iconst C0 dX5_init_27, List.forall_mem_cons.mpr ⟨sn_newaI C0 dX5_init_28 tw_142 (Nat.le_refl _) (Nat.le_refl _), List.forall_mem_cons.mpr ⟨sn_putF C0 kcX5 dX5_init_30 (by decide) tw_406 rfl hin rfl rfl, fun _ h => absurd h List.not_mem_nil⟩⟩⟩⟩⟩⟩⟩⟩⟩⟩⟩⟩⟩⟩⟩⟩⟩⟩) (by decide) (by decide +kernel)
def K_X0_init_3 : sa_K := ([.inr (.inl (some 1)), .inl (0, 32)], [(1, .inl (0, [.inr (.inl none), .inl (0, 0)]))], [(0, 0), (0, 0)], [(none, [(1, .inl (0, [.inr (.inl (some 2)), .inl (0, 0)])), (2, .inr (1, .inl (List.replicate 32 (0, 0))))], [(0, 0), (0, 0), (0, 0)])], 1, 32)
def t_X0_init_3 : List (Nat × sa_op) := [(0, so_aload 0 1), (1, so_obj), (4, so_aload 0 1), (5, so_iload 1 1), (6, so_newa 1 1 32), (8, so_put 0 0 (.array .byte))]
set_option maxRecDepth 200000 in
set_option maxHeartbeats 4000000 in
theorem m_X0_init_3 (l : Launch) : sa_Met l vwCl sa_Ts yX0_init cX0_init 2 none 1 60 K_X0_init_3 := sa_method (by decide) [11] t_X0_init_3 8 (List.forall_mem_cons.mpr ⟨dX0_init_11, fun _ h => absurd h List.not_mem_nil⟩) (fun p e s m args below meth c Q D dA A n0 V0 C0 hU hin => List.forall_mem_cons.mpr ⟨sn_aload_n C0 dX0_init_0, List.forall_mem_cons.mpr ⟨sn_obj C0 dX0_init_1 tw_38 tw_31 tw_32 (by decide) (by decide), List.forall_mem_cons.mpr ⟨sn_aload_n C0 dX0_init_4, List.forall_mem_cons.mpr ⟨sn_iload_n C0 dX0_init_5, List.forall_mem_cons.mpr ⟨sn_newaB C0 dX0_init_6 tw_48 (Nat.le_refl _) (Nat.le_refl _), List.forall_mem_cons.mpr ⟨sn_putF C0 kcX0 dX0_init_8 (by decide) tw_39 rfl hin rfl rfl, fun _ h => absurd h List.not_mem_nil⟩⟩⟩⟩⟩⟩) (by decide) (by decide +kernel)
def K_X11_init_1 : sa_K := ([.inr (.inl (some 1))], [(1, .inl (11, [.inr (.inl none), .inr (.inl none), .inr (.inl none), .inr (.inl none), .inr (.inl none), .inr (.inl none), .inr (.inl none), .inr (.inl none), .inr (.inl none), .inr (.inl none), .inr (.inl none), .inr (.inl none), .inl (0, 0), .inl (0, 0), .inl (0, 0), .inl (0, 0), .inl (0, 0)]))], [(0, 0), (0, 0)], [(none, [(1, .inl (11, [.inr (.inl (some 2)), .inr (.inl (some 4)), .inr (.inl (some 31)), .inr (.inl (some 32)), .inr (.inl (some 97)), .inr (.inl (some 104)), .inr (.inl (some 122)), .inr (.inl (some 129)), .inr (.inl (some 138)), .inr (.inl (some 143)), .inr (.inl (some 145)), .inr (.inl (some 146)), .inl (0, 0), .inl (0, 0), .inl (0, (-1)), .inl (0, (-1)), .inl (0, 0)])), (2, .inl (0, [.inr (.inl (some 3)), .inl (0, 0)])), (3, .inr (1, .inl (List.replicate 940 (0, 0)))), (4, .inl (10, [.inr (.inl (some 5)), .inr (.inl (some 19)), .inr (.inl (some 26)), .inl (0, 0)])), (5, .inl (2, [.inr (.inl (some 6)), .inr (.inl (some 7)), .inr (.inl (some 8)), .inr (.inl (some 9)), .inr (.inl (some 10)), .inr (.inl (some 11)), .inr (.inl (some 12)), .inr (.inl (some 13)), .inr (.inl (some 14)), .inr (.inl (some 15)), .inr (.inl (some 16)), .inr (.inl (some 17)), .inr (.inl (some 18)), .inl (0, 0), .inl (0, 0), .inl (0, 0)])), (6, .inr (2, .inr (.inl (6, 6)))), (7, .inr (0, .inl [(0, 0), (0, 0), (0, 0), (0, 0), (0, 0), (0, 0)])), (8, .inr (0, .inl [(0, 0), (0, 0), (0, 0), (0, 0), (0, 0), (0, 0)])), (9, .inr (0, .inl [(0, 0), (0, 0), (0, 0), (0, 0), (0, 0), (0, 0)])), (10, .inr (0, .inl [(0, 0), (0, 0), (0, 0), (0, 0), (0, 0), (0, 0)])), (11, .inr (0, .inl [(0, 0), (0, 0), (0, 0), (0, 0), (0, 0), (0, 0)])), (12, .inr (0, .inl [(0, 0), (0, 0), (0, 0), (0, 0), (0, 0), (0, 0)])), (13, .inr (2, .inr (.inl (8, 13)))), (14, .inr (0, .inl [(0, 0), (0, 0), (0, 0), (0, 0), (0, 0), (0, 0), (0, 0), (0, 0)])), (15, .inr (0, .inl [(0, 0), (0, 0), (0, 0), (0, 0), (0, 0), (0, 0), (0, 0), (0, 0)])), (16, .inr (0, .inl [(0, 0), (0, 0), (0, 0), (0, 0), (0, 0), (0, 0), (0, 0), (0, 0)])), (17, .inr (0, .inl [(0, 0), (0, 0), (0, 0), (0, 0), (0, 0), (0, 0), (0, 0), (0, 0)])), (18, .inr (0, .inl (List.replicate 24 (0, 0)))), (19, .inl (9, [.inr (.inl (some 20)), .inr (.inl (some 21)), .inr (.inl (some 22)), .inr (.inl (some 23)), .inr (.inl (some 24)), .inr (.inl (some 25)), .inl (0, 0), .inl (0, 0), .inl (0, 0), .inl (0, 0), .inl (0, 0), .inl (0, 0), .inl (0, 0)])), (20, .inr (0, .inl [(0, 0), (0, 0), (0, 0), (0, 0), (0, 0), (0, 0)])), (21, .inr (0, .inl [(0, 0), (0, 0), (0, 0), (0, 0), (0, 0), (0, 0)])), (22, .inr (0, .inl [(0, 0), (0, 0), (0, 0), (0, 0), (0, 0), (0, 0)])), (23, .inr (0, .inl [(0, 0), (0, 0), (0, 0), (0, 0), (0, 0), (0, 0), (0, 0), (0, 0)])), (24, .inr (0, .inl [(0, 0), (0, 0), (0, 0), (0, 0), (0, 0), (0, 0), (0, 0), (0, 0)])), (25, .inr (0, .inl [(0, 0), (0, 0), (0, 0), (0, 0), (0, 0), (0, 0), (0, 0), (0, 0)])), (26, .inl (7, [.inr (.inl (some 27)), .inr (.inl (some 28)), .inr (.inl (some 29)), .inr (.inl (some 30)), .inl (0, 0), .inl (0, 0)])), (27, .inr (0, .inl (List.replicate 40 (0, 0)))), (28, .inr (0, .inl (List.replicate 40 (0, 0)))), (29, .inr (0, .inl (List.replicate 40 (0, 0)))), (30, .inr (0, .inl (List.replicate 41 (0, 0)))), (31, .inr (4, .inr (.inr [some 147, some 174]))), (32, .inl (1, [.inr (.inl (some 33)), .inl (0, 0), .inl (0, 0)])), (33, .inr (5, .inr (.inr [some 34, some 41, some 48, some 55, some 62, some 69, some 76, some 83, some 90]))), (34, .inl (9, [.inr (.inl (some 35)), .inr (.inl (some 36)), .inr (.inl (some 37)), .inr (.inl (some 38)), .inr (.inl (some 39)), .inr (.inl (some 40)), .inl (0, 0), .inl (0, 0), .inl (0, 0), .inl (0, 0), .inl (0, 0), .inl (0, 0), .inl (0, 0)])), (35, .inr (0, .inl [(0, 0), (0, 0), (0, 0), (0, 0), (0, 0), (0, 0)])), (36, .inr (0, .inl [(0, 0), (0, 0), (0, 0), (0, 0), (0, 0), (0, 0)])), (37, .inr (0, .inl [(0, 0), (0, 0), (0, 0), (0, 0), (0, 0), (0, 0)])), (38, .inr (0, .inl [(0, 0), (0, 0), (0, 0), (0, 0), (0, 0), (0, 0), (0, 0), (0, 0)])), (39, .inr (0, .inl [(0, 0), (0, 0), (0, 0), (0, 0), (0, 0), (0, 0), (0, 0), (0, 0)])), (40, .inr (0, .inl [(0, 0), (0, 0), (0, 0), (0, 0), (0, 0), (0, 0), (0, 0), (0, 0)])), (41, .inl (9, [.inr (.inl (some 42)), .inr (.inl (some 43)), .inr (.inl (some 44)), .inr (.inl (some 45)), .inr (.inl (some 46)), .inr (.inl (some 47)), .inl (0, 0), .inl (0, 0), .inl (0, 0), .inl (0, 0), .inl (0, 0), .inl (0, 0), .inl (0, 0)])), (42, .inr (0, .inl [(0, 0), (0, 0), (0, 0), (0, 0), (0, 0), (0, 0)])), (43, .inr (0, .inl [(0, 0), (0, 0), (0, 0), (0, 0), (0, 0), (0, 0)])), (44, .inr (0, .inl [(0, 0), (0, 0), (0, 0), (0, 0), (0, 0), (0, 0)])), (45, .inr (0, .inl [(0, 0), (0, 0), (0, 0), (0, 0), (0, 0), (0, 0), (0, 0), (0, 0)])), (46, .inr (0, .inl [(0, 0), (0, 0), (0, 0), (0, 0), (0, 0), (0, 0), (0, 0), (0, 0)])), (47, .inr (0, .inl [(0, 0), (0, 0), (0, 0), (0, 0), (0, 0), (0, 0), (0, 0), (0, 0)])), (48, .inl (9, [.inr (.inl (some 49)), .inr (.inl (some 50)), .inr (.inl (some 51)), .inr (.inl (some 52)), .inr (.inl (some 53)), .inr (.inl (some 54)), .inl (0, 0), .inl (0, 0), .inl (0, 0), .inl (0, 0), .inl (0, 0), .inl (0, 0), .inl (0, 0)])), (49, .inr (0, .inl [(0, 0), (0, 0), (0, 0), (0, 0), (0, 0), (0, 0)])), (50, .inr (0, .inl [(0, 0), (0, 0), (0, 0), (0, 0), (0, 0), (0, 0)])), (51, .inr (0, .inl [(0, 0), (0, 0), (0, 0), (0, 0), (0, 0), (0, 0)])), (52, .inr (0, .inl [(0, 0), (0, 0), (0, 0), (0, 0), (0, 0), (0, 0), (0, 0), (0, 0)])), (53, .inr (0, .inl [(0, 0), (0, 0), (0, 0), (0, 0), (0, 0), (0, 0), (0, 0), (0, 0)])), (54, .inr (0, .inl [(0, 0), (0, 0), (0, 0), (0, 0), (0, 0), (0, 0), (0, 0), (0, 0)])), (55, .inl (9, [.inr (.inl (some 56)), .inr (.inl (some 57)), .inr (.inl (some 58)), .inr (.inl (some 59)), .inr (.inl (some 60)), .inr (.inl (some 61)), .inl (0, 0), .inl (0, 0), .inl (0, 0), .inl (0, 0), .inl (0, 0), .inl (0, 0), .inl (0, 0)])), (56, .inr (0, .inl [(0, 0), (0, 0), (0, 0), (0, 0), (0, 0), (0, 0)])), (57, .inr (0, .inl [(0, 0), (0, 0), (0, 0), (0, 0), (0, 0), (0, 0)])), (58, .inr (0, .inl [(0, 0), (0, 0), (0, 0), (0, 0), (0, 0), (0, 0)])), (59, .inr (0, .inl [(0, 0), (0, 0), (0, 0), (0, 0), (0, 0), (0, 0), (0, 0), (0, 0)])), (60, .inr (0, .inl [(0, 0), (0, 0), (0, 0), (0, 0), (0, 0), (0, 0), (0, 0), (0, 0)])), (61, .inr (0, .inl [(0, 0), (0, 0), (0, 0), (0, 0), (0, 0), (0, 0), (0, 0), (0, 0)])), (62, .inl (9, [.inr (.inl (some 63)), .inr (.inl (some 64)), .inr (.inl (some 65)), .inr (.inl (some 66)), .inr (.inl (some 67)), .inr (.inl (some 68)), .inl (0, 0), .inl (0, 0), .inl (0, 0), .inl (0, 0), .inl (0, 0), .inl (0, 0), .inl (0, 0)])), (63, .inr (0, .inl [(0, 0), (0, 0), (0, 0), (0, 0), (0, 0), (0, 0)])), (64, .inr (0, .inl [(0, 0), (0, 0), (0, 0), (0, 0), (0, 0), (0, 0)])), (65, .inr (0, .inl [(0, 0), (0, 0), (0, 0), (0, 0), (0, 0), (0, 0)])), (66, .inr (0, .inl [(0, 0), (0, 0), (0, 0), (0, 0), (0, 0), (0, 0), (0, 0), (0, 0)])), (67, .inr (0, .inl [(0, 0), (0, 0), (0, 0), (0, 0), (0, 0), (0, 0), (0, 0), (0, 0)])), (68, .inr (0, .inl [(0, 0), (0, 0), (0, 0), (0, 0), (0, 0), (0, 0), (0, 0), (0, 0)])), (69, .inl (9, [.inr (.inl (some 70)), .inr (.inl (some 71)), .inr (.inl (some 72)), .inr (.inl (some 73)), .inr (.inl (some 74)), .inr (.inl (some 75)), .inl (0, 0), .inl (0, 0), .inl (0, 0), .inl (0, 0), .inl (0, 0), .inl (0, 0), .inl (0, 0)])), (70, .inr (0, .inl [(0, 0), (0, 0), (0, 0), (0, 0), (0, 0), (0, 0)])), (71, .inr (0, .inl [(0, 0), (0, 0), (0, 0), (0, 0), (0, 0), (0, 0)])), (72, .inr (0, .inl [(0, 0), (0, 0), (0, 0), (0, 0), (0, 0), (0, 0)])), (73, .inr (0, .inl [(0, 0), (0, 0), (0, 0), (0, 0), (0, 0), (0, 0), (0, 0), (0, 0)])), (74, .inr (0, .inl [(0, 0), (0, 0), (0, 0), (0, 0), (0, 0), (0, 0), (0, 0), (0, 0)])), (75, .inr (0, .inl [(0, 0), (0, 0), (0, 0), (0, 0), (0, 0), (0, 0), (0, 0), (0, 0)])), (76, .inl (9, [.inr (.inl (some 77)), .inr (.inl (some 78)), .inr (.inl (some 79)), .inr (.inl (some 80)), .inr (.inl (some 81)), .inr (.inl (some 82)), .inl (0, 0), .inl (0, 0), .inl (0, 0), .inl (0, 0), .inl (0, 0), .inl (0, 0), .inl (0, 0)])), (77, .inr (0, .inl [(0, 0), (0, 0), (0, 0), (0, 0), (0, 0), (0, 0)])), (78, .inr (0, .inl [(0, 0), (0, 0), (0, 0), (0, 0), (0, 0), (0, 0)])), (79, .inr (0, .inl [(0, 0), (0, 0), (0, 0), (0, 0), (0, 0), (0, 0)])), (80, .inr (0, .inl [(0, 0), (0, 0), (0, 0), (0, 0), (0, 0), (0, 0), (0, 0), (0, 0)])), (81, .inr (0, .inl [(0, 0), (0, 0), (0, 0), (0, 0), (0, 0), (0, 0), (0, 0), (0, 0)])), (82, .inr (0, .inl [(0, 0), (0, 0), (0, 0), (0, 0), (0, 0), (0, 0), (0, 0), (0, 0)])), (83, .inl (9, [.inr (.inl (some 84)), .inr (.inl (some 85)), .inr (.inl (some 86)), .inr (.inl (some 87)), .inr (.inl (some 88)), .inr (.inl (some 89)), .inl (0, 0), .inl (0, 0), .inl (0, 0), .inl (0, 0), .inl (0, 0), .inl (0, 0), .inl (0, 0)])), (84, .inr (0, .inl [(0, 0), (0, 0), (0, 0), (0, 0), (0, 0), (0, 0)])), (85, .inr (0, .inl [(0, 0), (0, 0), (0, 0), (0, 0), (0, 0), (0, 0)])), (86, .inr (0, .inl [(0, 0), (0, 0), (0, 0), (0, 0), (0, 0), (0, 0)])), (87, .inr (0, .inl [(0, 0), (0, 0), (0, 0), (0, 0), (0, 0), (0, 0), (0, 0), (0, 0)])), (88, .inr (0, .inl [(0, 0), (0, 0), (0, 0), (0, 0), (0, 0), (0, 0), (0, 0), (0, 0)])), (89, .inr (0, .inl [(0, 0), (0, 0), (0, 0), (0, 0), (0, 0), (0, 0), (0, 0), (0, 0)])), (90, .inl (9, [.inr (.inl (some 91)), .inr (.inl (some 92)), .inr (.inl (some 93)), .inr (.inl (some 94)), .inr (.inl (some 95)), .inr (.inl (some 96)), .inl (0, 0), .inl (0, 0), .inl (0, 0), .inl (0, 0), .inl (0, 0), .inl (0, 0), .inl (0, 0)])), (91, .inr (0, .inl [(0, 0), (0, 0), (0, 0), (0, 0), (0, 0), (0, 0)])), (92, .inr (0, .inl [(0, 0), (0, 0), (0, 0), (0, 0), (0, 0), (0, 0)])), (93, .inr (0, .inl [(0, 0), (0, 0), (0, 0), (0, 0), (0, 0), (0, 0)])), (94, .inr (0, .inl [(0, 0), (0, 0), (0, 0), (0, 0), (0, 0), (0, 0), (0, 0), (0, 0)])), (95, .inr (0, .inl [(0, 0), (0, 0), (0, 0), (0, 0), (0, 0), (0, 0), (0, 0), (0, 0)])), (96, .inr (0, .inl [(0, 0), (0, 0), (0, 0), (0, 0), (0, 0), (0, 0), (0, 0), (0, 0)])), (97, .inl (9, [.inr (.inl (some 98)), .inr (.inl (some 99)), .inr (.inl (some 100)), .inr (.inl (some 101)), .inr (.inl (some 102)), .inr (.inl (some 103)), .inl (0, 0), .inl (0, 0), .inl (0, 0), .inl (0, 0), .inl (0, 0), .inl (0, 0), .inl (0, 0)])), (98, .inr (0, .inl [(0, 0), (0, 0), (0, 0), (0, 0), (0, 0), (0, 0)])), (99, .inr (0, .inl [(0, 0), (0, 0), (0, 0), (0, 0), (0, 0), (0, 0)])), (100, .inr (0, .inl [(0, 0), (0, 0), (0, 0), (0, 0), (0, 0), (0, 0)])), (101, .inr (0, .inl [(0, 0), (0, 0), (0, 0), (0, 0), (0, 0), (0, 0), (0, 0), (0, 0)])), (102, .inr (0, .inl [(0, 0), (0, 0), (0, 0), (0, 0), (0, 0), (0, 0), (0, 0), (0, 0)])), (103, .inr (0, .inl [(0, 0), (0, 0), (0, 0), (0, 0), (0, 0), (0, 0), (0, 0), (0, 0)])), (104, .inl (3, [.inr (.inl (some 105)), .inr (.inl (some 108)), .inl (0, 0)])), (105, .inl (6, [.inr (.inl (some 106)), .inl (0, 0), .inl (0, 0), .inl (0, 0), .inl (0, 0), .inr (.inr 105), .inl (0, 0), .inl (0, 0), .inl (0, 0), .inl (0, 0)])), (106, .inl (0, [.inr (.inl (some 107)), .inl (0, 0)])), (107, .inr (1, .inl [])), (108, .inl (2, [.inr (.inl (some 109)), .inr (.inl (some 110)), .inr (.inl (some 111)), .inr (.inl (some 112)), .inr (.inl (some 113)), .inr (.inl (some 114)), .inr (.inl (some 115)), .inr (.inl (some 116)), .inr (.inl (some 117)), .inr (.inl (some 118)), .inr (.inl (some 119)), .inr (.inl (some 120)), .inr (.inl (some 121)), .inl (0, 0), .inl (0, 0), .inl (0, 0)])), (109, .inr (2, .inr (.inl (6, 109)))), (110, .inr (0, .inl [(0, 0), (0, 0), (0, 0), (0, 0), (0, 0), (0, 0)])), (111, .inr (0, .inl [(0, 0), (0, 0), (0, 0), (0, 0), (0, 0), (0, 0)])), (112, .inr (0, .inl [(0, 0), (0, 0), (0, 0), (0, 0), (0, 0), (0, 0)])), (113, .inr (0, .inl [(0, 0), (0, 0), (0, 0), (0, 0), (0, 0), (0, 0)])), (114, .inr (0, .inl [(0, 0), (0, 0), (0, 0), (0, 0), (0, 0), (0, 0)])), (115, .inr (0, .inl [(0, 0), (0, 0), (0, 0), (0, 0), (0, 0), (0, 0)])), (116, .inr (2, .inr (.inl (8, 116)))), (117, .inr (0, .inl [(0, 0), (0, 0), (0, 0), (0, 0), (0, 0), (0, 0), (0, 0), (0, 0)])), (118, .inr (0, .inl [(0, 0), (0, 0), (0, 0), (0, 0), (0, 0), (0, 0), (0, 0), (0, 0)])), (119, .inr (0, .inl [(0, 0), (0, 0), (0, 0), (0, 0), (0, 0), (0, 0), (0, 0), (0, 0)])), (120, .inr (0, .inl [(0, 0), (0, 0), (0, 0), (0, 0), (0, 0), (0, 0), (0, 0), (0, 0)])), (121, .inr (0, .inl (List.replicate 24 (0, 0)))), (122, .inl (4, [.inr (.inl (some 123)), .inr (.inl (some 126)), .inr (.inl (some 127)), .inr (.inl (some 128)), .inl (0, 0), .inl (0, 0)])), (123, .inl (6, [.inr (.inl (some 124)), .inl (0, 0), .inl (0, 0), .inl (0, 0), .inl (0, 0), .inr (.inr 123), .inl (0, 0), .inl (0, 0), .inl (0, 0), .inl (0, 0)])), (124, .inl (0, [.inr (.inl (some 125)), .inl (0, 0)])), (125, .inr (1, .inl [])), (126, .inr (0, .inl (List.replicate 40 (0, 0)))), (127, .inr (0, .inl (List.replicate 40 (0, 0)))), (128, .inr (0, .inl (List.replicate 40 (0, 0)))), (129, .inl (8, [.inr (.inl (some 130)), .inr (.inl (some 133))])), (130, .inl (6, [.inr (.inl (some 131)), .inl (0, 0), .inl (0, 0), .inl (0, 0), .inl (0, 0), .inr (.inr 130), .inl (0, 0), .inl (0, 0), .inl (0, 0), .inl (0, 0)])), (131, .inl (0, [.inr (.inl (some 132)), .inl (0, 0)])), (132, .inr (1, .inl [])), (133, .inl (7, [.inr (.inl (some 134)), .inr (.inl (some 135)), .inr (.inl (some 136)), .inr (.inl (some 137)), .inl (0, 0), .inl (0, 0)])), (134, .inr (0, .inl (List.replicate 40 (0, 0)))), (135, .inr (0, .inl (List.replicate 40 (0, 0)))), (136, .inr (0, .inl (List.replicate 40 (0, 0)))), (137, .inr (0, .inl (List.replicate 41 (0, 0)))), (138, .inl (5, [.inr (.inl (some 139)), .inl (0, 0), .inl (0, 0), .inl (0, 0), .inr (.inl (some 140)), .inr (.inl (some 141)), .inr (.inl (some 142))])), (139, .inr (0, .inl [(0, 0), (0, 0), (0, 0), (0, 0)])), (140, .inr (0, .inl [(0, 0), (0, 0), (0, 0), (0, 0)])), (141, .inr (0, .inl (List.replicate 32 (0, 0)))), (142, .inr (0, .inl [(0, 0), (0, 0), (0, 0), (0, 0)])), (143, .inl (0, [.inr (.inl (some 144)), .inl (0, 0)])), (144, .inr (1, .inl (List.replicate 32 (0, 0)))), (145, .inr (0, .inl [(0, 0), (0, 0), (0, 0), (0, 0), (0, 0), (0, 0), (0, 0), (0, 0)])), (146, .inr (0, .inl [(0, 0), (0, 0), (0, 0), (0, 0)])), (147, .inl (10, [.inr (.inl (some 148)), .inr (.inl (some 162)), .inr (.inl (some 169)), .inl (0, 0)])), (148, .inl (2, [.inr (.inl (some 149)), .inr (.inl (some 150)), .inr (.inl (some 151)), .inr (.inl (some 152)), .inr (.inl (some 153)), .inr (.inl (some 154)), .inr (.inl (some 155)), .inr (.inl (some 156)), .inr (.inl (some 157)), .inr (.inl (some 158)), .inr (.inl (some 159)), .inr (.inl (some 160)), .inr (.inl (some 161)), .inl (0, 0), .inl (0, 0), .inl (0, 0)])), (149, .inr (2, .inr (.inl (6, 149)))), (150, .inr (0, .inl [(0, 0), (0, 0), (0, 0), (0, 0), (0, 0), (0, 0)])), (151, .inr (0, .inl [(0, 0), (0, 0), (0, 0), (0, 0), (0, 0), (0, 0)])), (152, .inr (0, .inl [(0, 0), (0, 0), (0, 0), (0, 0), (0, 0), (0, 0)])), (153, .inr (0, .inl [(0, 0), (0, 0), (0, 0), (0, 0), (0, 0), (0, 0)])), (154, .inr (0, .inl [(0, 0), (0, 0), (0, 0), (0, 0), (0, 0), (0, 0)])), (155, .inr (0, .inl [(0, 0), (0, 0), (0, 0), (0, 0), (0, 0), (0, 0)])), (156, .inr (2, .inr (.inl (8, 156)))), (157, .inr (0, .inl [(0, 0), (0, 0), (0, 0), (0, 0), (0, 0), (0, 0), (0, 0), (0, 0)])), (158, .inr (0, .inl [(0, 0), (0, 0), (0, 0), (0, 0), (0, 0), (0, 0), (0, 0), (0, 0)])), (159, .inr (0, .inl [(0, 0), (0, 0), (0, 0), (0, 0), (0, 0), (0, 0), (0, 0), (0, 0)])), (160, .inr (0, .inl [(0, 0), (0, 0), (0, 0), (0, 0), (0, 0), (0, 0), (0, 0), (0, 0)])), (161, .inr (0, .inl (List.replicate 24 (0, 0)))), (162, .inl (9, [.inr (.inl (some 163)), .inr (.inl (some 164)), .inr (.inl (some 165)), .inr (.inl (some 166)), .inr (.inl (some 167)), .inr (.inl (some 168)), .inl (0, 0), .inl (0, 0), .inl (0, 0), .inl (0, 0), .inl (0, 0), .inl (0, 0), .inl (0, 0)])), (163, .inr (0, .inl [(0, 0), (0, 0), (0, 0), (0, 0), (0, 0), (0, 0)])), (164, .inr (0, .inl [(0, 0), (0, 0), (0, 0), (0, 0), (0, 0), (0, 0)])), (165, .inr (0, .inl [(0, 0), (0, 0), (0, 0), (0, 0), (0, 0), (0, 0)])), (166, .inr (0, .inl [(0, 0), (0, 0), (0, 0), (0, 0), (0, 0), (0, 0), (0, 0), (0, 0)])), (167, .inr (0, .inl [(0, 0), (0, 0), (0, 0), (0, 0), (0, 0), (0, 0), (0, 0), (0, 0)])), (168, .inr (0, .inl [(0, 0), (0, 0), (0, 0), (0, 0), (0, 0), (0, 0), (0, 0), (0, 0)])), (169, .inl (7, [.inr (.inl (some 170)), .inr (.inl (some 171)), .inr (.inl (some 172)), .inr (.inl (some 173)), .inl (0, 0), .inl (0, 0)])), (170, .inr (0, .inl (List.replicate 40 (0, 0)))), (171, .inr (0, .inl (List.replicate 40 (0, 0)))), (172, .inr (0, .inl (List.replicate 40 (0, 0)))), (173, .inr (0, .inl (List.replicate 41 (0, 0)))), (174, .inl (10, [.inr (.inl (some 175)), .inr (.inl (some 189)), .inr (.inl (some 196)), .inl (0, 0)])), (175, .inl (2, [.inr (.inl (some 176)), .inr (.inl (some 177)), .inr (.inl (some 178)), .inr (.inl (some 179)), .inr (.inl (some 180)), .inr (.inl (some 181)), .inr (.inl (some 182)), .inr (.inl (some 183)), .inr (.inl (some 184)), .inr (.inl (some 185)), .inr (.inl (some 186)), .inr (.inl (some 187)), .inr (.inl (some 188)), .inl (0, 0), .inl (0, 0), .inl (0, 0)])), (176, .inr (2, .inr (.inl (6, 176)))), (177, .inr (0, .inl [(0, 0), (0, 0), (0, 0), (0, 0), (0, 0), (0, 0)])), (178, .inr (0, .inl [(0, 0), (0, 0), (0, 0), (0, 0), (0, 0), (0, 0)])), (179, .inr (0, .inl [(0, 0), (0, 0), (0, 0), (0, 0), (0, 0), (0, 0)])), (180, .inr (0, .inl [(0, 0), (0, 0), (0, 0), (0, 0), (0, 0), (0, 0)])), (181, .inr (0, .inl [(0, 0), (0, 0), (0, 0), (0, 0), (0, 0), (0, 0)])), (182, .inr (0, .inl [(0, 0), (0, 0), (0, 0), (0, 0), (0, 0), (0, 0)])), (183, .inr (2, .inr (.inl (8, 183)))), (184, .inr (0, .inl [(0, 0), (0, 0), (0, 0), (0, 0), (0, 0), (0, 0), (0, 0), (0, 0)])), (185, .inr (0, .inl [(0, 0), (0, 0), (0, 0), (0, 0), (0, 0), (0, 0), (0, 0), (0, 0)])), (186, .inr (0, .inl [(0, 0), (0, 0), (0, 0), (0, 0), (0, 0), (0, 0), (0, 0), (0, 0)])), (187, .inr (0, .inl [(0, 0), (0, 0), (0, 0), (0, 0), (0, 0), (0, 0), (0, 0), (0, 0)])), (188, .inr (0, .inl (List.replicate 24 (0, 0)))), (189, .inl (9, [.inr (.inl (some 190)), .inr (.inl (some 191)), .inr (.inl (some 192)), .inr (.inl (some 193)), .inr (.inl (some 194)), .inr (.inl (some 195)), .inl (0, 0), .inl (0, 0), .inl (0, 0), .inl (0, 0), .inl (0, 0), .inl (0, 0), .inl (0, 0)])), (190, .inr (0, .inl [(0, 0), (0, 0), (0, 0), (0, 0), (0, 0), (0, 0)])), (191, .inr (0, .inl [(0, 0), (0, 0), (0, 0), (0, 0), (0, 0), (0, 0)])), (192, .inr (0, .inl [(0, 0), (0, 0), (0, 0), (0, 0), (0, 0), (0, 0)])), (193, .inr (0, .inl [(0, 0), (0, 0), (0, 0), (0, 0), (0, 0), (0, 0), (0, 0), (0, 0)])), (194, .inr (0, .inl [(0, 0), (0, 0), (0, 0), (0, 0), (0, 0), (0, 0), (0, 0), (0, 0)])), (195, .inr (0, .inl [(0, 0), (0, 0), (0, 0), (0, 0), (0, 0), (0, 0), (0, 0), (0, 0)])), (196, .inl (7, [.inr (.inl (some 197)), .inr (.inl (some 198)), .inr (.inl (some 199)), .inr (.inl (some 200)), .inl (0, 0), .inl (0, 0)])), (197, .inr (0, .inl (List.replicate 40 (0, 0)))), (198, .inr (0, .inl (List.replicate 40 (0, 0)))), (199, .inr (0, .inl (List.replicate 40 (0, 0)))), (200, .inr (0, .inl (List.replicate 41 (0, 0))))], (List.replicate 201 (0, 0)))], 199, 3103)
def t_X11_init_1 : List (Nat × sa_op) := [(0, so_aload 0 1), (1, so_obj), (4, so_aload 0 1), (5, so_new 0 2 [1, 0] 199 3103), (8, so_dup), (9, so_int (940) 3), (12, so_callI K_X0_init_1 199 3103), (15, so_put 11 0 (.object "OffThenOn$Bytes")), (18, so_aload 0 1), (19, so_new 10 4 [1, 1, 1, 0] 199 3103), (22, so_dup), (23, so_callI K_X10_init_1 199 3103), (26, so_put 11 1 (.object "OffThenOn$World")), (29, so_aload 0 1), (30, so_int (2) 1), (31, so_newq 4 199 3103), (34, so_put 11 2 (.array (.object "OffThenOn$World"))), (37, so_aload 0 1), (38, so_new 1 3 [1, 0, 0] 199 3103), (41, so_dup), (42, so_callI K_X1_init_1 199 3103), (45, so_put 11 3 (.object "OffThenOn$History")), (48, so_aload 0 1), (49, so_new 9 13 [1, 1, 1, 1, 1, 1, 0, 0, 0, 0, 0, 0, 0] 199 3103), (52, so_dup), (53, so_callI K_X9_init_1 199 3103), (56, so_put 11 4 (.object "OffThenOn$State")), (59, so_aload 0 1), (60, so_new 3 3 [1, 1, 0] 199 3103), (63, so_dup), (64, so_callI K_X3_init_1 199 3103), (67, so_put 11 5 (.object "OffThenOn$HouseReader")), (70, so_aload 0 1), (71, so_new 4 6 [1, 1, 1, 1, 0, 0] 199 3103), (74, so_dup), (75, so_callI K_X4_init_1 199 3103), (78, so_put 11 6 (.object "OffThenOn$LogReader")), (81, so_aload 0 1), (82, so_new 8 2 [1, 1] 199 3103), (85, so_dup), (86, so_callI K_X8_init_1 199 3103), (89, so_put 11 7 (.object "OffThenOn$SentenceReader")), (92, so_aload 0 1), (93, so_new 5 7 [1, 0, 0, 0, 1, 1, 1] 199 3103), (96, so_dup), (97, so_callI K_X5_init_1 199 3103), (100, so_put 11 8 (.object "OffThenOn$Planner")), (103, so_aload 0 1), (104, so_new 0 2 [1, 0] 199 3103), (107, so_dup), (108, so_int (32) 2), (110, so_callI K_X0_init_3 199 3103), (113, so_put 11 9 (.object "OffThenOn$Bytes")), (116, so_aload 0 1), (117, so_int (8) 2), (119, so_newa 0 199 3103), (121, so_put 11 10 (.array .int)), (124, so_aload 0 1), (125, so_int (4) 1), (126, so_newa 0 199 3103), (128, so_put 11 11 (.array .int)), (131, so_aload 0 1), (132, so_int (-1) 1), (133, so_put 11 14 .int), (136, so_aload 0 1), (137, so_int (-1) 1), (138, so_put 11 15 .int), (141, so_int (0) 1), (142, so_istore 2 1 1), (143, so_iload 1 1), (144, so_int (2) 1), (145, so_icmp (sr_flip sr_le) sr_lt 167), (148, so_aload 0 1), (149, so_get 11 2), (152, so_iload 1 1), (153, so_new 10 4 [1, 1, 1, 0] 199 3103), (156, so_dup), (157, so_callI K_X10_init_1 199 3103), (160, so_aast 4 10), (161, so_iinc 2 1 (1)), (164, so_goto 143)]
set_option maxRecDepth 200000 in
set_option maxHeartbeats 4000000 in
theorem m_X11_init_1 (l : Launch) : sa_Met l vwCl sa_Ts yX11_init cX11_init 2 none 4 121 K_X11_init_1 := sa_method (by decide) [167] t_X11_init_1 98 (List.forall_mem_cons.mpr ⟨dX11_init_167, fun _ h => absurd h List.not_mem_nil⟩) (fun p e s m args below meth c Q D dA A n0 V0 C0 hU hin => List.forall_mem_cons.mpr ⟨sn_aload_n C0 dX11_init_0, List.forall_mem_cons.mpr ⟨sn_obj C0 dX11_init_1 tw_30 tw_31 tw_32 (by decide) (by decide), List.forall_mem_cons.mpr ⟨sn_aload_n C0 dX11_init_4, List.forall_mem_cons.mpr ⟨sn_new C0 kcX0 dX11_init_5 tw_33 tw_34 tw_2 (by decide) (Nat.le_refl _) (Nat.le_refl _), List.forall_mem_cons.mpr ⟨sn_dup C0 dX11_init_8, List.forall_mem_cons.mpr ⟨sn_sipush C0 dX11_init_9 (by decide), List.forall_mem_cons.mpr ⟨sn_callI C0 hU sa_Tg (m_X0_init_1 l) tw_37 dX11_init_12 tw_35 tw_36 tw_2 rfl rfl ya_X0_init rfl (by decide) (Nat.le_refl _) (Nat.le_refl _), List.forall_mem_cons.mpr ⟨sn_putF C0 kcX11 dX11_init_15 (by decide) tw_422 rfl hin rfl rfl, List.forall_mem_cons.mpr ⟨sn_aload_n C0 dX11_init_18, List.forall_mem_cons.mpr ⟨sn_new C0 kcX10 dX11_init_19 tw_49 tw_50 tw_3 (by decide) (Nat.le_refl _) (Nat.le_refl _), List.forall_mem_cons.mpr ⟨sn_dup C0 dX11_init_22, List.forall_mem_cons.mpr ⟨sn_callIN C0 hU sa_Tg (m_X10_init_1 l) tw_53 dX11_init_23 nl_0 tw_52 tw_3 rfl rfl ya_X10_init rfl (by decide) (Nat.le_refl _) (Nat.le_refl _), List.forall_mem_cons.mpr ⟨sn_putF C0 kcX11 dX11_init_26 (by decide) tw_423 rfl hin rfl rfl, List.forall_mem_cons.mpr ⟨sn_aload_n C0 dX11_init_29, List.forall_mem_cons.mpr ⟨sn_iconst C0 dX11_init_30, List.forall_mem_cons.mpr ⟨sn_newq C0 dX11_init_31 tw_49 hU.2.1 rfl (Nat.le_refl _) (Nat.le_refl _), List.forall_mem_cons.mpr ⟨sn_putF C0 kcX11 dX11_init_34 (by decide) tw_424 rfl hin rfl rfl, List.forall_mem_cons.mpr ⟨sn_aload_n C0 dX11_init_37, List.forall_mem_cons.mpr ⟨sn_new C0 kcX1 dX11_init_38 tw_250 tw_251 tw_7 (by decide) (Nat.le_refl _) (Nat.le_refl _), List.forall_mem_cons.mpr ⟨sn_dup C0 dX11_init_41, List.forall_mem_cons.mpr ⟨sn_callI C0 hU sa_Tg (m_X1_init_1 l) tw_254 dX11_init_42 tw_252 tw_253 tw_7 rfl rfl ya_X1_init rfl (by decide) (Nat.le_refl _) (Nat.le_refl _), List.forall_mem_cons.mpr ⟨sn_putF C0 kcX11 dX11_init_45 (by decide) tw_425 rfl hin rfl rfl, List.forall_mem_cons.mpr ⟨sn_aload_n C0 dX11_init_48, List.forall_mem_cons.mpr ⟨sn_new C0 kcX9 dX11_init_49 tw_269 tw_144 tw_5 (by decide) (Nat.le_refl _) (Nat.le_refl _), List.forall_mem_cons.mpr ⟨sn_dup C0 dX11_init_52, List.forall_mem_cons.mpr ⟨sn_callIN C0 hU sa_Tg (m_X9_init_1 l) tw_147 dX11_init_53 nl_5 tw_146 tw_5 rfl rfl ya_X9_init rfl (by decide) (Nat.le_refl _) (Nat.le_refl _), List.forall_mem_cons.mpr ⟨sn_putF C0 kcX11 dX11_init_56 (by decide) tw_426 rfl hin rfl rfl, List.forall_mem_cons.mpr ⟨sn_aload_n C0 dX11_init_59, List.forall_mem_cons.mpr ⟨sn_new C0 kcX3 dX11_init_60 tw_271 tw_272 tw_8 (by decide) (Nat.le_refl _) (Nat.le_refl _), List.forall_mem_cons.mpr ⟨sn_dup C0 dX11_init_63, List.forall_mem_cons.mpr ⟨sn_callIN C0 hU sa_Tg (m_X3_init_1 l) tw_275 dX11_init_64 nl_6 tw_274 tw_8 rfl rfl ya_X3_init rfl (by decide) (Nat.le_refl _) (Nat.le_refl _), List.forall_mem_cons.mpr ⟨sn_putF C0 kcX11 dX11_init_67 (by decide) tw_427 rfl hin rfl rfl, List.forall_mem_cons.mpr ⟨sn_aload_n C0 dX11_init_70, List.forall_mem_cons.mpr ⟨sn_new C0 kcX4 dX11_init_71 tw_342 tw_343 tw_10 (by decide) (Nat.le_refl _) (Nat.le_refl _), List.forall_mem_cons.mpr ⟨sn_dup C0 dX11_init_74, List.forall_mem_cons.mpr ⟨sn_callIN C0 hU sa_Tg (m_X4_init_1 l) tw_346 dX11_init_75 nl_9 tw_345 tw_10 rfl rfl ya_X4_init rfl (by decide) (Nat.le_refl _) (Nat.le_refl _), List.forall_mem_cons.mpr ⟨sn_putF C0 kcX11 dX11_init_78 (by decide) tw_428 rfl hin rfl rfl, List.forall_mem_cons.mpr ⟨sn_aload_n C0 dX11_init_81, List.forall_mem_cons.mpr ⟨sn_new C0 kcX8 dX11_init_82 tw_371 tw_372 tw_11 (by decide) (Nat.le_refl _) (Nat.le_refl _), List.forall_mem_cons.mpr ⟨sn_dup C0 dX11_init_85, List.forall_mem_cons.mpr ⟨sn_callIN C0 hU sa_Tg (m_X8_init_1 l) tw_375 dX11_init_86 nl_11 tw_374 tw_11 rfl rfl ya_X8_init rfl (by decide) (Nat.le_refl _) (Nat.le_refl _), List.forall_mem_cons.mpr ⟨sn_putF C0 kcX11 dX11_init_89 (by decide) tw_429 rfl hin rfl rfl, List.forall_mem_cons.mpr ⟨sn_aload_n C0 dX11_init_92, List.forall_mem_cons.mpr ⟨sn_new C0 kcX5 dX11_init_93 tw_390 tw_391 tw_12 (by decide) (Nat.le_refl _) (Nat.le_refl _), List.forall_mem_cons.mpr ⟨sn_dup C0 dX11_init_96, List.forall_mem_cons.mpr ⟨sn_callIN C0 hU sa_Tg (m_X5_init_1 l) tw_394 dX11_init_97 nl_14 tw_393 tw_12 rfl rfl ya_X5_init rfl (by decide) (Nat.le_refl _) (Nat.le_refl _), List.forall_mem_cons.mpr ⟨sn_putF C0 kcX11 dX11_init_100 (by decide) tw_430 rfl hin rfl rfl, List.forall_mem_cons.mpr ⟨sn_aload_n C0 dX11_init_103, List.forall_mem_cons.mpr ⟨sn_new C0 kcX0 dX11_init_104 tw_33 tw_34 tw_2 (by decide) (Nat.le_refl _) (Nat.le_refl _), List.forall_mem_cons.mpr ⟨sn_dup C0 dX11_init_107, List.forall_mem_cons.mpr ⟨sn_bipush C0 dX11_init_108 (by decide), List.forall_mem_cons.mpr ⟨sn_callI C0 hU sa_Tg (m_X0_init_3 l) tw_37 dX11_init_110 tw_35 tw_36 tw_2 rfl rfl ya_X0_init rfl (by decide) (Nat.le_refl _) (Nat.le_refl _), List.forall_mem_cons.mpr ⟨sn_putF C0 kcX11 dX11_init_113 (by decide) tw_431 rfl hin rfl rfl, List.forall_mem_cons.mpr ⟨sn_aload_n C0 dX11_init_116, List.forall_mem_cons.mpr ⟨sn_bipush C0 dX11_init_117 (by decide), List.forall_mem_cons.mpr ⟨sn_newaI C0 dX11_init_119 tw_142 (Nat.le_refl _) (Nat.le_refl _), List.forall_mem_cons.mpr ⟨sn_putF C0 kcX11 dX11_init_121 (by decide) tw_432 rfl hin rfl rfl, List.forall_mem_cons.mpr ⟨sn_aload_n C0 dX11_init_124, List.forall_mem_cons.mpr ⟨sn_iconst C0 dX11_init_125, List.forall_mem_cons.mpr ⟨sn_newaI C0 dX11_init_126 tw_142 (Nat.le_refl _) (Nat.le_refl _), List.forall_mem_cons.mpr ⟨sn_putF C0 kcX11 dX11_init_128 (by decide) tw_433 rfl hin rfl rfl, List.forall_mem_cons.mpr ⟨sn_aload_n C0 dX11_init_131, List.forall_mem_cons.mpr ⟨sn_iconst C0 dX11_init_132, List.forall_mem_cons.mpr ⟨sn_put C0 kcX11 dX11_init_133 (by decide) tw_436 rfl rfl, List.forall_mem_cons.mpr ⟨sn_aload_n C0 dX11_init_136, List.forall_mem_cons.mpr ⟨sn_iconst C0 dX11_init_137, List.forall_mem_cons.mpr ⟨sn_put C0 kcX11 dX11_init_138 (by decide) tw_437 rfl rfl, List.forall_mem_cons.mpr ⟨sn_iconst C0 dX11_init_141, List.forall_mem_cons.mpr ⟨sn_istore_n C0 dX11_init_142, List.forall_mem_cons.mpr ⟨sn_iload_n C0 dX11_init_143, List.forall_mem_cons.mpr ⟨sn_iconst C0 dX11_init_144, List.forall_mem_cons.mpr ⟨sn_icmp_ge C0 dX11_init_145 (by decide), List.forall_mem_cons.mpr ⟨sn_aload_n C0 dX11_init_148, List.forall_mem_cons.mpr ⟨sn_get C0 kcX11 dX11_init_149 (by decide) tw_424, List.forall_mem_cons.mpr ⟨sn_iload_n C0 dX11_init_152, List.forall_mem_cons.mpr ⟨sn_new C0 kcX10 dX11_init_153 tw_49 tw_50 tw_3 (by decide) (Nat.le_refl _) (Nat.le_refl _), List.forall_mem_cons.mpr ⟨sn_dup C0 dX11_init_156, List.forall_mem_cons.mpr ⟨sn_callIN C0 hU sa_Tg (m_X10_init_1 l) tw_53 dX11_init_157 nl_0 tw_52 tw_3 rfl rfl ya_X10_init rfl (by decide) (Nat.le_refl _) (Nat.le_refl _), List.forall_mem_cons.mpr ⟨sn_aast C0 kcX10 dX11_init_160 rfl, List.forall_mem_cons.mpr ⟨sn_iinc C0 dX11_init_161, List.forall_mem_cons.mpr ⟨sn_goto C0 dX11_init_164 (by decide), fun _ h => absurd h List.not_mem_nil⟩⟩⟩⟩⟩⟩⟩⟩⟩⟩⟩⟩⟩⟩⟩⟩⟩⟩⟩⟩⟩⟩⟩⟩⟩⟩⟩⟩⟩⟩⟩⟩⟩⟩⟩⟩⟩⟩⟩⟩⟩⟩⟩⟩⟩⟩⟩⟩⟩⟩⟩⟩⟩⟩⟩⟩⟩⟩⟩⟩⟩⟩⟩⟩⟩⟩⟩⟩⟩⟩⟩⟩⟩⟩⟩⟩⟩⟩⟩⟩⟩) (by decide) (by decide +kernel)
def K_X12_init_1 : sa_K := ([.inr (.inl (some 1))], [(1, .inl (12, [.inl (0, 0), .inr (.inl none), .inl (0, 0), .inl (0, 0), .inl (0, 0), .inl (0, 0), .inl (0, 0), .inl (0, 0), .inl (0, 0), .inl (0, 0), .inl (0, 0), .inl (0, 0), .inr (.inr 1), .inl (0, 0), .inr (.inl none), .inr (.inl none), .inr (.inl none), .inr (.inl none), .inr (.inl none), .inr (.inl none), .inr (.inl none), .inr (.inl none), .inr (.inl none), .inl (0, 0), .inl (0, 0), .inl (0, 0), .inr (.inl none), .inr (.inl none), .inr (.inl none), .inr (.inl none), .inl (0, 0), .inl (0, 0), .inl (0, 0), .inl (0, 0), .inr (.inl none), .inl (0, 0), .inr (.inl none), .inr (.inl none), .inl (0, 0), .inl (0, 0), .inr (.inl none), .inl (0, 0), .inl (0, 0), .inl (0, 0), .inl (0, 0)]))], [(0, 0), (0, 0)], [(none, [(1, .inl (12, [.inl (0, 0), .inr (.inl (some 2)), .inl (0, 0), .inl (0, 0), .inl (0, 0), .inl (0, 0), .inl (0, 0), .inl (0, 0), .inl (0, 0), .inl (0, 0), .inl (0, 0), .inl (0, 0), .inr (.inr 1), .inl (0, 0), .inr (.inl (some 3)), .inr (.inl (some 4)), .inr (.inl (some 5)), .inr (.inl (some 6)), .inr (.inl (some 7)), .inr (.inl (some 8)), .inr (.inl (some 9)), .inr (.inl (some 10)), .inr (.inl (some 11)), .inl (0, 0), .inl (0, 0), .inl (0, 0), .inr (.inl (some 12)), .inr (.inl (some 13)), .inr (.inl (some 14)), .inr (.inl (some 15)), .inl (0, 0), .inl (0, 0), .inl (0, (-1)), .inl (0, (-1)), .inr (.inl (some 16)), .inl (0, 0), .inr (.inl (some 17)), .inr (.inl (some 18)), .inl (0, 0), .inl (0, 0), .inr (.inl (some 19)), .inl (0, 0), .inl (0, 0), .inl (0, 0), .inl (0, 0)])), (2, .inr (0, .inl (List.replicate 940 (0, 0)))), (3, .inr (0, .inl (List.replicate 379 (0, 0)))), (4, .inr (0, .inl (List.replicate 77 (0, 0)))), (5, .inr (0, .inl (List.replicate 758 (0, 0)))), (6, .inr (0, .inl (List.replicate 480 (0, 0)))), (7, .inr (0, .inl (List.replicate 60 (0, 0)))), (8, .inr (2, .inr (.inl (14, 8)))), (9, .inr (2, .inr (.inl (14, 9)))), (10, .inr (2, .inr (.inl (28, 10)))), (11, .inr (3, .inl [(0, 0), (0, 0)])), (12, .inr (0, .inl [(0, 0), (0, 0), (0, 0), (0, 0), (0, 0), (0, 0), (0, 0), (0, 0)])), (13, .inr (0, .inl (List.replicate 32 (0, 0)))), (14, .inr (0, .inl [(0, 0), (0, 0), (0, 0), (0, 0)])), (15, .inr (0, .inl [(0, 0), (0, 0), (0, 0), (0, 0)])), (16, .inr (0, .inl (List.replicate 64 (0, 0)))), (17, .inr (0, .inl (List.replicate 120 (0, 0)))), (18, .inr (0, .inl [(0, 0), (0, 0), (0, 0), (0, 0)])), (19, .inr (0, .inl (List.replicate 240 (0, 0))))], (List.replicate 20 (0, 0)))], 18, 3228)
def t_X12_init_1 : List (Nat × sa_op) := [(0, so_aload 0 1), (1, so_obj), (4, so_aload 0 1), (5, so_int (940) 3), (8, so_newa 0 18 3228), (10, so_put 12 1 (.array .int)), (13, so_aload 0 1), (14, so_int (379) 3), (17, so_newa 0 18 3228), (19, so_put 12 14 (.array .int)), (22, so_aload 0 1), (23, so_int (77) 2), (25, so_newa 0 18 3228), (27, so_put 12 15 (.array .int)), (30, so_aload 0 1), (31, so_int (758) 3), (34, so_newa 0 18 3228), (36, so_put 12 16 (.array .int)), (39, so_aload 0 1), (40, so_int (480) 3), (43, so_newa 0 18 3228), (45, so_put 12 17 (.array .int)), (48, so_aload 0 1), (49, so_int (60) 2), (51, so_newa 0 18 3228), (53, so_put 12 18 (.array .int)), (56, so_aload 0 1), (57, so_int (14) 2), (59, so_newa 2 18 3228), (61, so_put 12 19 (.array .long)), (64, so_aload 0 1), (65, so_int (14) 2), (67, so_newa 2 18 3228), (69, so_put 12 20 (.array .long)), (72, so_aload 0 1), (73, so_int (28) 2), (75, so_newa 2 18 3228), (77, so_put 12 21 (.array .long)), (80, so_aload 0 1), (81, so_int (2) 1), (82, so_newa 3 18 3228), (84, so_put 12 22 (.array .boolean)), (87, so_aload 0 1), (88, so_int (8) 2), (90, so_newa 0 18 3228), (92, so_put 12 26 (.array .int)), (95, so_aload 0 1), (96, so_int (32) 2), (98, so_newa 0 18 3228), (100, so_put 12 27 (.array .int)), (103, so_aload 0 1), (104, so_int (4) 1), (105, so_newa 0 18 3228), (107, so_put 12 28 (.array .int)), (110, so_aload 0 1), (111, so_int (4) 1), (112, so_newa 0 18 3228), (114, so_put 12 29 (.array .int)), (117, so_aload 0 1), (118, so_int (-1) 1), (119, so_put 12 32 .int), (122, so_aload 0 1), (123, so_int (-1) 1), (124, so_put 12 33 .int), (127, so_aload 0 1), (128, so_int (64) 2), (130, so_newa 0 18 3228), (132, so_put 12 34 (.array .int)), (135, so_aload 0 1), (136, so_int (120) 2), (138, so_newa 0 18 3228), (140, so_put 12 36 (.array .int)), (143, so_aload 0 1), (144, so_int (4) 1), (145, so_newa 0 18 3228), (147, so_put 12 37 (.array .int)), (150, so_aload 0 1), (151, so_int (240) 3), (154, so_newa 0 18 3228), (156, so_put 12 40 (.array .int))]
set_option maxRecDepth 200000 in
set_option maxHeartbeats 4000000 in
theorem m_X12_init_1 (l : Launch) : sa_Met l vwCl sa_Ts yX12_init cX12_init 1 none 1 60 K_X12_init_1 := sa_method (by decide) [159] t_X12_init_1 82 (List.forall_mem_cons.mpr ⟨dX12_init_159, fun _ h => absurd h List.not_mem_nil⟩) (fun p e s m args below meth c Q D dA A n0 V0 C0 hU hin => List.forall_mem_cons.mpr ⟨sn_aload_n C0 dX12_init_0, List.forall_mem_cons.mpr ⟨sn_obj C0 dX12_init_1 tw_1260 tw_31 tw_32 (by decide) (by decide), List.forall_mem_cons.mpr ⟨sn_aload_n C0 dX12_init_4, List.forall_mem_cons.mpr ⟨sn_sipush C0 dX12_init_5 (by decide), List.forall_mem_cons.mpr ⟨sn_newaI C0 dX12_init_8 tw_142 (Nat.le_refl _) (Nat.le_refl _), List.forall_mem_cons.mpr ⟨sn_putF C0 kcX12 dX12_init_10 (by decide) tw_1262 rfl hin rfl rfl, List.forall_mem_cons.mpr ⟨sn_aload_n C0 dX12_init_13, List.forall_mem_cons.mpr ⟨sn_sipush C0 dX12_init_14 (by decide), List.forall_mem_cons.mpr ⟨sn_newaI C0 dX12_init_17 tw_142 (Nat.le_refl _) (Nat.le_refl _), List.forall_mem_cons.mpr ⟨sn_putF C0 kcX12 dX12_init_19 (by decide) tw_1275 rfl hin rfl rfl, List.forall_mem_cons.mpr ⟨sn_aload_n C0 dX12_init_22, List.forall_mem_cons.mpr ⟨sn_bipush C0 dX12_init_23 (by decide), List.forall_mem_cons.mpr ⟨sn_newaI C0 dX12_init_25 tw_142 (Nat.le_refl _) (Nat.le_refl _), List.forall_mem_cons.mpr ⟨sn_putF C0 kcX12 dX12_init_27 (by decide) tw_1276 rfl hin rfl rfl, List.forall_mem_cons.mpr ⟨sn_aload_n C0 dX12_init_30, List.forall_mem_cons.mpr ⟨sn_sipush C0 dX12_init_31 (by decide), List.forall_mem_cons.mpr ⟨sn_newaI C0 dX12_init_34 tw_142 (Nat.le_refl _) (Nat.le_refl _), List.forall_mem_cons.mpr ⟨sn_putF C0 kcX12 dX12_init_36 (by decide) tw_1277 rfl hin rfl rfl, List.forall_mem_cons.mpr ⟨sn_aload_n C0 dX12_init_39, List.forall_mem_cons.mpr ⟨sn_sipush C0 dX12_init_40 (by decide), List.forall_mem_cons.mpr ⟨sn_newaI C0 dX12_init_43 tw_142 (Nat.le_refl _) (Nat.le_refl _), List.forall_mem_cons.mpr ⟨sn_putF C0 kcX12 dX12_init_45 (by decide) tw_1278 rfl hin rfl rfl, List.forall_mem_cons.mpr ⟨sn_aload_n C0 dX12_init_48, List.forall_mem_cons.mpr ⟨sn_bipush C0 dX12_init_49 (by decide), List.forall_mem_cons.mpr ⟨sn_newaI C0 dX12_init_51 tw_142 (Nat.le_refl _) (Nat.le_refl _), List.forall_mem_cons.mpr ⟨sn_putF C0 kcX12 dX12_init_53 (by decide) tw_1279 rfl hin rfl rfl, List.forall_mem_cons.mpr ⟨sn_aload_n C0 dX12_init_56, List.forall_mem_cons.mpr ⟨sn_bipush C0 dX12_init_57 (by decide), List.forall_mem_cons.mpr ⟨sn_newaJ C0 dX12_init_59 tw_141 (Nat.le_refl _) (Nat.le_refl _), List.forall_mem_cons.mpr ⟨sn_putF C0 kcX12 dX12_init_61 (by decide) tw_1280 rfl hin rfl rfl, List.forall_mem_cons.mpr ⟨sn_aload_n C0 dX12_init_64, List.forall_mem_cons.mpr ⟨sn_bipush C0 dX12_init_65 (by decide), List.forall_mem_cons.mpr ⟨sn_newaJ C0 dX12_init_67 tw_141 (Nat.le_refl _) (Nat.le_refl _), List.forall_mem_cons.mpr ⟨sn_putF C0 kcX12 dX12_init_69 (by decide) tw_1281 rfl hin rfl rfl, List.forall_mem_cons.mpr ⟨sn_aload_n C0 dX12_init_72, List.forall_mem_cons.mpr ⟨sn_bipush C0 dX12_init_73 (by decide), List.forall_mem_cons.mpr ⟨sn_newaJ C0 dX12_init_75 tw_141 (Nat.le_refl _) (Nat.le_refl _), List.forall_mem_cons.mpr ⟨sn_putF C0 kcX12 dX12_init_77 (by decide) tw_1282 rfl hin rfl rfl, List.forall_mem_cons.mpr ⟨sn_aload_n C0 dX12_init_80, List.forall_mem_cons.mpr ⟨sn_iconst C0 dX12_init_81, List.forall_mem_cons.mpr ⟨sn_newaZ C0 dX12_init_82 tw_1397 (Nat.le_refl _) (Nat.le_refl _), List.forall_mem_cons.mpr ⟨sn_putF C0 kcX12 dX12_init_84 (by decide) tw_1283 rfl hin rfl rfl, List.forall_mem_cons.mpr ⟨sn_aload_n C0 dX12_init_87, List.forall_mem_cons.mpr ⟨sn_bipush C0 dX12_init_88 (by decide), List.forall_mem_cons.mpr ⟨sn_newaI C0 dX12_init_90 tw_142 (Nat.le_refl _) (Nat.le_refl _), List.forall_mem_cons.mpr ⟨sn_putF C0 kcX12 dX12_init_92 (by decide) tw_1287 rfl hin rfl rfl, List.forall_mem_cons.mpr ⟨sn_aload_n C0 dX12_init_95, List.forall_mem_cons.mpr ⟨sn_bipush C0 dX12_init_96 (by decide), List.forall_mem_cons.mpr ⟨sn_newaI C0 dX12_init_98 tw_142 (Nat.le_refl _) (Nat.le_refl _), List.forall_mem_cons.mpr ⟨sn_putF C0 kcX12 dX12_init_100 (by decide) tw_1288 rfl hin rfl rfl, List.forall_mem_cons.mpr ⟨sn_aload_n C0 dX12_init_103, List.forall_mem_cons.mpr ⟨sn_iconst C0 dX12_init_104, List.forall_mem_cons.mpr ⟨sn_newaI C0 dX12_init_105 tw_142 (Nat.le_refl _) (Nat.le_refl _), List.forall_mem_cons.mpr ⟨sn_putF C0 kcX12 dX12_init_107 (by decide) tw_1289 rfl hin rfl rfl, List.forall_mem_cons.mpr ⟨sn_aload_n C0 dX12_init_110, List.forall_mem_cons.mpr ⟨sn_iconst C0 dX12_init_111, List.forall_mem_cons.mpr ⟨sn_newaI C0 dX12_init_112 tw_142 (Nat.le_refl _) (Nat.le_refl _), List.forall_mem_cons.mpr ⟨sn_putF C0 kcX12 dX12_init_114 (by decide) tw_1290 rfl hin rfl rfl, List.forall_mem_cons.mpr ⟨sn_aload_n C0 dX12_init_117, List.forall_mem_cons.mpr ⟨sn_iconst C0 dX12_init_118, List.forall_mem_cons.mpr ⟨sn_put C0 kcX12 dX12_init_119 (by decide) tw_1293 rfl rfl, List.forall_mem_cons.mpr ⟨sn_aload_n C0 dX12_init_122, List.forall_mem_cons.mpr ⟨sn_iconst C0 dX12_init_123, List.forall_mem_cons.mpr ⟨sn_put C0 kcX12 dX12_init_124 (by decide) tw_1294 rfl rfl, List.forall_mem_cons.mpr ⟨sn_aload_n C0 dX12_init_127, List.forall_mem_cons.mpr ⟨sn_bipush C0 dX12_init_128 (by decide), List.forall_mem_cons.mpr ⟨sn_newaI C0 dX12_init_130 tw_142 (Nat.le_refl _) (Nat.le_refl _), List.forall_mem_cons.mpr ⟨sn_putF C0 kcX12 dX12_init_132 (by decide) tw_1295 rfl hin rfl rfl, List.forall_mem_cons.mpr ⟨sn_aload_n C0 dX12_init_135, List.forall_mem_cons.mpr ⟨sn_bipush C0 dX12_init_136 (by decide), List.forall_mem_cons.mpr ⟨sn_newaI C0 dX12_init_138 tw_142 (Nat.le_refl _) (Nat.le_refl _), List.forall_mem_cons.mpr ⟨sn_putF C0 kcX12 dX12_init_140 (by decide) tw_1297 rfl hin rfl rfl, List.forall_mem_cons.mpr ⟨sn_aload_n C0 dX12_init_143, List.forall_mem_cons.mpr ⟨sn_iconst C0 dX12_init_144, List.forall_mem_cons.mpr ⟨sn_newaI C0 dX12_init_145 tw_142 (Nat.le_refl _) (Nat.le_refl _), List.forall_mem_cons.mpr ⟨sn_putF C0 kcX12 dX12_init_147 (by decide) tw_1298 rfl hin rfl rfl, List.forall_mem_cons.mpr ⟨sn_aload_n C0 dX12_init_150, List.forall_mem_cons.mpr ⟨sn_sipush C0 dX12_init_151 (by decide), List.forall_mem_cons.mpr ⟨sn_newaI C0 dX12_init_154 tw_142 (Nat.le_refl _) (Nat.le_refl _), List.forall_mem_cons.mpr ⟨sn_putF C0 kcX12 dX12_init_156 (by decide) tw_1301 rfl hin rfl rfl, fun _ h => absurd h List.not_mem_nil⟩⟩⟩⟩⟩⟩⟩⟩⟩⟩⟩⟩⟩⟩⟩⟩⟩⟩⟩⟩⟩⟩⟩⟩⟩⟩⟩⟩⟩⟩⟩⟩⟩⟩⟩⟩⟩⟩⟩⟩⟩⟩⟩⟩⟩⟩⟩⟩⟩⟩⟩⟩⟩⟩⟩⟩⟩⟩⟩⟩⟩⟩⟩⟩⟩⟩⟩⟩⟩⟩⟩⟩⟩⟩⟩⟩⟩⟩⟩⟩) (by decide) (by decide +kernel)
end
section
theorem i_vc : Claimed_1_1 ∧ Claimed_1_2 := sorry
end
