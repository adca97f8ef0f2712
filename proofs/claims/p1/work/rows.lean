section
/-! A machine over signs: ints are a sign and a number beside it, each sign has its bounds, cells hold signs; what it does is what the machine does (own work). -/
section SA0
abbrev sa_v : Type := (Nat × Int) ⊕ (Option Nat ⊕ Nat)
abbrev sa_x : Type := Int × Int64 × (Nat → Int64) × Nat
abbrev sa_V : Type := Nat → sa_x
def sa_i (V : sa_V) (q : Nat × Int) : Int32 := Int32.ofInt ((V q.1).1 + q.2)
def sa_ad (V : sa_V) (k : Nat) : Nat := (V k).2.2.2
def sa_val (V : sa_V) : sa_v → Value
  | .inl q => .int (sa_i V q)
  | .inr (.inl none) => .null
  | .inr (.inl (some k)) => .ref (sa_ad V k)
  | .inr (.inr j) => .long (V j).2.1
def sa_f (V : sa_V) (l : List (Nat × Int)) (j : Nat) : Int32 := match l[j]? with
  | some q => sa_i V q
  | none => 0
def sa_g (V : sa_V) (l : List (Option Nat)) (j : Nat) : Option Nat := (l.getD j none).map (sa_ad V)
abbrev sa_a : Type := List (Nat × Int) ⊕ ((Nat × Nat) ⊕ List (Option Nat))
def sa_arr (V : sa_V) : sa_a → vp_A
  | .inl l => (l.length, .inl (sa_f V l))
  | .inr (.inl q) => (q.1, .inr (.inl (V q.2).2.2.1))
  | .inr (.inr l) => (l.length, .inr (.inr (.inr (.inr (sa_g V l)))))
abbrev sa_c : Type := Nat × ((Nat × List sa_v) ⊕ (Nat × sa_a))
def sa_el (V : sa_V) (dA : Nat → ClassId) : ((Nat × List sa_v) ⊕ (Nat × sa_a)) → va_E
  | .inl o => .inr (o.1, o.2.map (sa_val V))
  | .inr a => .inl (dA a.1, sa_arr V a.2)
def sa_e (V : sa_V) (dA : Nat → ClassId) (q : sa_c) : Nat × va_E := (sa_ad V q.1, sa_el V dA q.2)
abbrev sa_L : Type := List (Nat × sa_v)
abbrev sa_B : Type := List (Int × Int)
/-- pc, locals, stack, cells, bounds, cells made, slots made -/
abbrev sa_S : Type := Nat × sa_L × List sa_v × List sa_c × sa_B × Nat × Nat
def sa_lv (V : sa_V) (lo : sa_L) : List (Nat × Value) := lo.map (fun q => (q.1, sa_val V q.2))
def sa_I (V : sa_V) (G : sa_B) : Prop := (∀ (i : Nat) (b : Int × Int), G[i]? = some b → b.1 ≤ (V i).1 ∧ (V i).1 ≤ b.2) ∧ (V 0).1 = 0
/-- and the first n0 signs mean what they meant at the start -/
def sa_J (n0 : Nat) (V0 V : sa_V) (G : sa_B) : Prop := sa_I V G ∧ n0 ≤ G.length ∧ ∀ k, k < n0 → V k = V0 k
def sa_G (D : va_G) (dA : Nat → ClassId) (A : Nat → Prop) (nL : Nat) (cl : List vw_C) (n0 : Nat) (V0 : sa_V) (H0 : Heap) (V : sa_V) (lo : sa_L) (cs : List sa_c) (G : sa_B) (H : Heap) (locs : List Loc) (ls : Array Slot) : Prop :=
  sa_J n0 V0 V G ∧ lv_has ls nL (sa_lv V lo) ∧ va_P D cl (cs.map (sa_e V dA)) H ∧ va_D A (cs.map (sa_e V dA)) ∧ va_S A H0 H locs
def sa_W (p : Program) (l : Launch) (e : Env) (R : Room) (s : State) (m : MethodId) (args : Array Value) (below : List Frame) (meth : Method) (c : Code) (Q : State → Prop) (D : va_G) (dA : Nat → ClassId) (A : Nat → Prop) (nL : Nat) (cl : List vw_C) (n0 : Nat) (V0 : sa_V) (S : sa_S) : Prop :=
  ∀ (V : sa_V) (H : Heap) (locs : List Loc) (ls : Array Slot), sa_G D dA A nL cl n0 V0 s.heap V S.2.1 S.2.2.2.1 S.2.2.2.2.1 H locs ls → W p l e R s m args below meth c H locs S.2.2.2.2.2.1 S.2.2.2.2.2.2 Q (F0 m S.1 ls (S.2.2.1.map (sa_val V)))
abbrev sa_op : Type := sa_S → Option (List sa_S)
def sa_snd (p : Program) (l : Launch) (e : Env) (R : Room) (s : State) (m : MethodId) (args : Array Value) (below : List Frame) (meth : Method) (c : Code) (Q : State → Prop) (D : va_G) (dA : Nat → ClassId) (A : Nat → Prop) (nL : Nat) (cl : List vw_C) (n0 : Nat) (V0 : sa_V) (pc : Nat) (op : sa_op) : Prop :=
  ∀ (S : sa_S) (sts : List sa_S), S.1 = pc → op S = some sts → (∀ S' ∈ sts, sa_W p l e R s m args below meth c Q D dA A nL cl n0 V0 S') → sa_W p l e R s m args below meth c Q D dA A nL cl n0 V0 S
def sa_tys (dA : Nat → ClassId) : List (ClassId × FieldType) := [(dA 0, .int), (dA 1, .byte), (dA 2, .long), (dA 3, .boolean), (dA 4, .object "OffThenOn$World"), (dA 5, .object "OffThenOn$State")]
/-- what every row needs of its method -/
def sa_C (p : Program) (s : State) (m : MethodId) (args : Array Value) (c : Code) (D : va_G) (dA : Nat → ClassId) (A : Nat → Prop) (nL : Nat) (cl : List vw_C) (Ts : List Cond) (cc : ByteArray) (own : String) : Prop :=
  p.tables.exec = Jvm.exec ∧ c.code = cc ∧ (∀ w ∈ Ts, w.before args s = true) ∧ s.vm.findClass own = some m.cls ∧ c.maxLocals = nL ∧ va_K D cl (sa_tys dA) s ∧ (∀ q, s.heap.size ≤ q → A q)
def sa_run (find : Nat → Option sa_op) (fin : sa_S → Bool) : Nat → sa_S → Bool
  | 0, _ => false
  | n + 1, S => match find S.1 with
    | none => fin S
    | some op => match op S with
      | none => false
      | some sts => match sts with
        | [S'] => sa_run find fin n S'
        | _ => sts.all (sa_run find fin n)
theorem sa_run_ok {p : Program} {l : Launch} {e : Env} {R : Room} {s : State} {m : MethodId} {args : Array Value} {below : List Frame} {meth : Method} {c : Code} {Q : State → Prop} {D : va_G} {dA : Nat → ClassId} {A : Nat → Prop} {nL : Nat} {cl : List vw_C} {n0 : Nat} {V0 : sa_V} {find : Nat → Option sa_op} {fin : sa_S → Bool}
    (hf : ∀ pc op, find pc = some op → sa_snd p l e R s m args below meth c Q D dA A nL cl n0 V0 pc op) (he : ∀ S, find S.1 = none → fin S = true → sa_W p l e R s m args below meth c Q D dA A nL cl n0 V0 S) : ∀ (n : Nat) (S : sa_S), sa_run find fin n S = true → sa_W p l e R s m args below meth c Q D dA A nL cl n0 V0 S := by
  intro n
  induction n with
  | zero => intro S h; cases h
  | succ n ih =>
    intro S h
    unfold sa_run at h
    split at h
    · rename_i h1
      exact he S h1 h
    · rename_i op h1
      split at h
      · cases h
      · rename_i sts h2
        refine hf _ op h1 S sts rfl h2 (fun S' h' => ?_)
        split at h
        · rename_i S9
          have e9 : S' = S9 := by simpa using h'
          rw [e9]
          exact ih S9 h
        · exact ih S' (List.all_eq_true.mp h S' h')
/-! values -/
def sa_look (i : Nat) : sa_L → Option sa_v
  | [] => none
  | q :: l => if q.1 = i then some q.2 else sa_look i l
theorem sa_look_mem {i : Nat} {v : sa_v} : ∀ {lo : sa_L}, sa_look i lo = some v → (i, v) ∈ lo
  | [], h => by cases h
  | q :: l, h => by
    unfold sa_look at h
    split at h
    · rename_i h1
      cases h
      rw [← h1]
      exact List.mem_cons_self
    · exact List.mem_cons_of_mem _ (sa_look_mem h)
theorem sa_look_at {V : sa_V} {ls : Array Slot} {nL i : Nat} {v : sa_v} {lo : sa_L} (hl : lv_has ls nL (sa_lv V lo)) (h : sa_look i lo = some v) : ls[i]? = some (.val (sa_val V v)) :=
  hl.2.2 (i, sa_val V v) (List.mem_map.mpr ⟨(i, v), sa_look_mem h, rfl⟩)
def sa_cat : sa_v → Nat
  | .inr (.inr _) => 2
  | _ => 1
theorem sa_cat_val (V : sa_V) (v : sa_v) : (sa_val V v).category = sa_cat v := by
  rcases v with q | (_ | k) | j <;> rfl
def sa_set1 (i : Nat) (v : sa_v) (lo : sa_L) : sa_L := (i, v) :: lo.filter (fun q => !(q.1 == i) && !(q.1 + 1 == i && sa_cat q.2 == 2))
def sa_set2 (i : Nat) (v : sa_v) (lo : sa_L) : sa_L := (i, v) :: lo.filter (fun q => !(q.1 == i) && (!(q.1 == i + 1) && !(q.1 + 1 == i && sa_cat q.2 == 2)))
theorem sa_set1_lv (V : sa_V) (i : Nat) (v : sa_v) (lo : sa_L) : (i, sa_val V v) :: (sa_lv V lo).filter (fun q => !(q.1 == i) && !(q.1 + 1 == i && q.2.category == 2)) = sa_lv V (sa_set1 i v lo) := by
  unfold sa_lv sa_set1
  rw [List.filter_map, List.map_cons]
  congr 2
  apply List.filter_congr
  intro q _
  simp only [Function.comp, sa_cat_val]
theorem sa_set2_lv (V : sa_V) (i : Nat) (v : sa_v) (lo : sa_L) : (i, sa_val V v) :: (sa_lv V lo).filter (fun q => !(q.1 == i) && (!(q.1 == i + 1) && !(q.1 + 1 == i && q.2.category == 2))) = sa_lv V (sa_set2 i v lo) := by
  unfold sa_lv sa_set2
  rw [List.filter_map, List.map_cons]
  congr 2
  apply List.filter_congr
  intro q _
  simp only [Function.comp, sa_cat_val]
/-! new signs -/
def sa_upd (V : sa_V) (n : Nat) (x : sa_x) : sa_V := fun k => if k = n then x else V k
def sa_wfv (n : Nat) : sa_v → Bool
  | .inl q => decide (q.1 < n)
  | .inr (.inl none) => true
  | .inr (.inl (some k)) => decide (k < n)
  | .inr (.inr j) => decide (j < n)
def sa_wfa (n : Nat) : sa_a → Bool
  | .inl l => l.all (fun q => decide (q.1 < n))
  | .inr (.inl q) => decide (q.2 < n)
  | .inr (.inr l) => l.all (fun o => match o with | none => true | some k => decide (k < n))
def sa_wfc (n : Nat) (q : sa_c) : Bool := decide (q.1 < n) && match q.2 with
  | .inl o => o.2.all (sa_wfv n)
  | .inr a => sa_wfa n a.2
def sa_wf (n : Nat) (lo : sa_L) (st : List sa_v) (cs : List sa_c) : Bool := decide (0 < n) && lo.all (fun q => sa_wfv n q.2) && st.all (sa_wfv n) && cs.all (sa_wfc n)
theorem sa_upd_ne {V : sa_V} {n k : Nat} {x : sa_x} (h : k < n) : sa_upd V n x k = V k := by
  unfold sa_upd; rw [if_neg (by omega)]
theorem sa_upd_eq {V : sa_V} {n : Nat} {x : sa_x} : sa_upd V n x n = x := by
  unfold sa_upd; rw [if_pos rfl]
theorem sa_val_upd {V : sa_V} {n : Nat} {x : sa_x} {v : sa_v} (h : sa_wfv n v = true) : sa_val (sa_upd V n x) v = sa_val V v := by
  rcases v with q | (_ | k) | j
  · have h : q.1 < n := of_decide_eq_true h
    show Value.int (sa_i _ _) = Value.int (sa_i _ _)
    unfold sa_i; rw [sa_upd_ne h]
  · rfl
  · have h : k < n := of_decide_eq_true h
    show Value.ref (sa_ad _ _) = Value.ref (sa_ad _ _)
    unfold sa_ad; rw [sa_upd_ne h]
  · have h : j < n := of_decide_eq_true h
    show Value.long _ = Value.long _
    rw [sa_upd_ne h]
theorem sa_arr_upd {V : sa_V} {n : Nat} {x : sa_x} {a : sa_a} (h : sa_wfa n a = true) : sa_arr (sa_upd V n x) a = sa_arr V a := by
  rcases a with l | q | l
  · have h : ∀ q ∈ l, q.1 < n := fun q hq => of_decide_eq_true (List.all_eq_true.mp h q hq)
    show (l.length, _) = (l.length, _)
    congr 2
    funext j
    unfold sa_f
    split
    · rename_i q hq
      unfold sa_i; rw [sa_upd_ne (h q (List.mem_of_getElem? hq))]
    · rfl
  · have h : q.2 < n := of_decide_eq_true h
    show (q.1, _) = (q.1, _)
    rw [sa_upd_ne h]
  · have h : ∀ o ∈ l, _ := List.all_eq_true.mp h
    show (l.length, _) = (l.length, _)
    congr 5
    funext j
    unfold sa_g
    rw [List.getD_eq_getElem?_getD]
    cases hj : l[j]? with
    | none => rfl
    | some o =>
      cases o with
      | none => rfl
      | some k =>
        have hk : k < n := of_decide_eq_true (h _ (List.mem_of_getElem? hj))
        show some (sa_ad _ _) = some (sa_ad _ _)
        unfold sa_ad; rw [sa_upd_ne hk]
theorem sa_e_upd {V : sa_V} {dA : Nat → ClassId} {n : Nat} {x : sa_x} {q : sa_c} (h : sa_wfc n q = true) : sa_e (sa_upd V n x) dA q = sa_e V dA q := by
  obtain ⟨k, o | a⟩ := q
  · simp only [sa_wfc, Bool.and_eq_true, decide_eq_true_eq, List.all_eq_true] at h
    unfold sa_e sa_el sa_ad
    rw [sa_upd_ne h.1]
    dsimp only
    congr 3
    exact List.map_congr_left (fun v hv => sa_val_upd (h.2 v hv))
  · simp only [sa_wfc, Bool.and_eq_true, decide_eq_true_eq] at h
    unfold sa_e sa_el sa_ad
    rw [sa_upd_ne h.1]
    dsimp only
    rw [sa_arr_upd h.2]
theorem sa_cs_upd {V : sa_V} {dA : Nat → ClassId} {n : Nat} {x : sa_x} {cs : List sa_c} (h : cs.all (sa_wfc n) = true) : cs.map (sa_e (sa_upd V n x) dA) = cs.map (sa_e V dA) :=
  List.map_congr_left (fun q hq => sa_e_upd (List.all_eq_true.mp h q hq))
theorem sa_lv_upd {V : sa_V} {n : Nat} {x : sa_x} {lo : sa_L} (h : lo.all (fun q => sa_wfv n q.2) = true) : sa_lv (sa_upd V n x) lo = sa_lv V lo :=
  List.map_congr_left (fun q hq => by rw [sa_val_upd (List.all_eq_true.mp h q hq)])
theorem sa_st_upd {V : sa_V} {n : Nat} {x : sa_x} {st : List sa_v} (h : st.all (sa_wfv n) = true) : st.map (sa_val (sa_upd V n x)) = st.map (sa_val V) :=
  List.map_congr_left (fun q hq => sa_val_upd (List.all_eq_true.mp h q hq))
theorem sa_I_upd {V : sa_V} {G : sa_B} {x : sa_x} {b : Int × Int} (h : sa_I V G) (h0 : 0 < G.length) (hb : b.1 ≤ x.1 ∧ x.1 ≤ b.2) : sa_I (sa_upd V G.length x) (G ++ [b]) := by
  refine ⟨fun i b' hi => ?_, ?_⟩
  · by_cases hl : i < G.length
    · rw [List.getElem?_append_left hl] at hi
      rw [sa_upd_ne hl]
      exact h.1 i b' hi
    · rw [List.getElem?_append_right (by omega)] at hi
      have hz : i - G.length < 1 := (List.getElem?_eq_some_iff.mp hi).1
      have hi0 : i = G.length := by omega
      subst hi0
      rw [Nat.sub_self] at hi
      cases hi
      rw [sa_upd_eq]
      exact hb
  · rw [sa_upd_ne h0]; exact h.2
theorem sa_J_upd {n0 : Nat} {V0 V : sa_V} {G : sa_B} {x : sa_x} {b : Int × Int} (h : sa_J n0 V0 V G) (h0 : 0 < G.length) (hb : b.1 ≤ x.1 ∧ x.1 ≤ b.2) : sa_J n0 V0 (sa_upd V G.length x) (G ++ [b]) :=
  ⟨sa_I_upd h.1 h0 hb, by rw [List.length_append]; exact Nat.le_trans h.2.1 (Nat.le_add_right _ _), fun k hk => by rw [sa_upd_ne (Nat.lt_of_lt_of_le hk h.2.1)]; exact h.2.2 k hk⟩
theorem sa_G_upd {D : va_G} {dA : Nat → ClassId} {A : Nat → Prop} {nL : Nat} {cl : List vw_C} {n0 : Nat} {V0 : sa_V} {H0 : Heap} {V : sa_V} {lo : sa_L} {st : List sa_v} {cs : List sa_c} {G : sa_B} {H : Heap} {locs : List Loc} {ls : Array Slot} {x : sa_x} {b : Int × Int}
    (h : sa_G D dA A nL cl n0 V0 H0 V lo cs G H locs ls) (hw : sa_wf G.length lo st cs = true) (hb : b.1 ≤ x.1 ∧ x.1 ≤ b.2) : sa_G D dA A nL cl n0 V0 H0 (sa_upd V G.length x) lo cs (G ++ [b]) H locs ls ∧ st.map (sa_val (sa_upd V G.length x)) = st.map (sa_val V) := by
  simp only [sa_wf, Bool.and_eq_true, decide_eq_true_eq] at hw
  obtain ⟨⟨⟨h0, h1⟩, h2⟩, h3⟩ := hw
  obtain ⟨g1, g2, g3, g4, g5⟩ := h
  exact ⟨⟨sa_J_upd g1 h0 hb, by rw [sa_lv_upd h1]; exact g2, by rw [sa_cs_upd h3]; exact g3, by rw [sa_cs_upd h3]; exact g4, g5⟩, sa_st_upd h2⟩
/-- an answer of a row: an int by its sign, or a new sign with bounds -/
abbrev sa_r : Type := (Nat × Int) ⊕ (Int × Int)
def sa_is (V : sa_V) (r : sa_r) (x : Int32) : Prop := match r with
  | .inl q => sa_i V q = x
  | .inr b => b.1 ≤ x.toInt ∧ x.toInt ≤ b.2
def sa_push (pc : Nat) (lo : sa_L) (rest : List sa_v) (cs : List sa_c) (G : sa_B) (kc ks : Nat) (r : sa_r) : Option (List sa_S) := match r with
  | .inl q => some [(pc, lo, .inl q :: rest, cs, G, kc, ks)]
  | .inr b => if sa_wf G.length lo rest cs = true then some [(pc, lo, .inl (G.length, 0) :: rest, cs, G ++ [b], kc, ks)] else none
theorem sa_i_new {V : sa_V} {n : Nat} {x : Int32} {y : sa_x} (h : y.1 = x.toInt) : sa_i (sa_upd V n y) (n, 0) = x := by
  show Int32.ofInt ((sa_upd V n y n).1 + 0) = x
  rw [sa_upd_eq, h, Int.add_zero, Int32.ofInt_toInt]
theorem sa_push_ok {p : Program} {l : Launch} {e : Env} {R : Room} {s : State} {m : MethodId} {args : Array Value} {below : List Frame} {meth : Method} {c : Code} {Q : State → Prop} {D : va_G} {dA : Nat → ClassId} {A : Nat → Prop} {nL : Nat} {cl : List vw_C} {n0 : Nat} {V0 : sa_V}
    {pc : Nat} {lo : sa_L} {rest : List sa_v} {cs : List sa_c} {G : sa_B} {kc ks : Nat} {r : sa_r} {sts : List sa_S} {V : sa_V} {H : Heap} {locs : List Loc} {ls : Array Slot} {x : Int32}
    (hG : sa_G D dA A nL cl n0 V0 s.heap V lo cs G H locs ls) (hr : sa_is V r x) (h : sa_push pc lo rest cs G kc ks r = some sts) (k : ∀ S' ∈ sts, sa_W p l e R s m args below meth c Q D dA A nL cl n0 V0 S') : W p l e R s m args below meth c H locs kc ks Q (F0 m pc ls (.int x :: rest.map (sa_val V))) := by
  cases r with
  | inl q =>
    cases h
    have h1 := k _ List.mem_cons_self V H locs ls hG
    have h2 : sa_i V q = x := hr
    rw [← h2]
    exact h1
  | inr b =>
    unfold sa_push at h
    dsimp only at h
    split at h
    · rename_i hw
      cases h
      obtain ⟨g1, g2⟩ := sa_G_upd (x := (x.toInt, 0, fun _ => 0, 0)) hG hw hr
      have h1 := k _ List.mem_cons_self _ H locs ls g1
      have h3 : (List.map (sa_val (sa_upd V G.length (x.toInt, 0, fun _ => 0, 0))) (.inl (G.length, 0) :: rest)) = Value.int x :: rest.map (sa_val V) := by
        rw [List.map_cons, g2]
        congr 1
        show Value.int (sa_i _ _) = _
        rw [sa_i_new rfl]
      dsimp only at h1
      rw [h3] at h1
      exact h1
    · cases h
/-- bounds of an int -/
def sa_iv (G : sa_B) (q : Nat × Int) : Option (Int × Int) := match G[q.1]? with
  | some b => if -2147483648 ≤ b.1 + q.2 ∧ b.2 + q.2 ≤ 2147483647 then some (b.1 + q.2, b.2 + q.2) else none
  | none => none
theorem sa_ofInt_toInt {z : Int} (h1 : -2147483648 ≤ z) (h2 : z ≤ 2147483647) : (Int32.ofInt z).toInt = z := Int32.toInt_ofInt_of_le (by simpa using h1) (by simp; omega)
theorem sa_iv_ok {V : sa_V} {G : sa_B} {q : Nat × Int} {b : Int × Int} (h : sa_I V G) (hb : sa_iv G q = some b) : (sa_i V q).toInt = (V q.1).1 + q.2 ∧ b.1 ≤ (sa_i V q).toInt ∧ (sa_i V q).toInt ≤ b.2 := by
  unfold sa_iv at hb
  split at hb
  · rename_i b' hb'
    split at hb
    · rename_i h2
      cases hb
      obtain ⟨h3, h4⟩ := h.1 _ _ hb'
      have h5 : (sa_i V q).toInt = (V q.1).1 + q.2 := sa_ofInt_toInt (by omega) (by omega)
      exact ⟨h5, by rw [h5]; omega, by rw [h5]; omega⟩
    · cases hb
  · cases hb
end SA0
end
section
section SA1
def so_iload (i len : Nat) : sa_op := fun S => match sa_look i S.2.1 with
  | some (.inl q) => some [(S.1 + len, S.2.1, .inl q :: S.2.2.1, S.2.2.2)]
  | _ => none
theorem sn_iload_n {p : Program} {l : Launch} {e : Env} {R : Room} {s : State} {m : MethodId} {args : Array Value} {below : List Frame} {meth : Method} {c : Code} {Q : State → Prop} {D : va_G} {dA : Nat → ClassId} {A : Nat → Prop} {nL : Nat} {cl : List vw_C} {n0 : Nat} {V0 : sa_V} {Ts : List Cond} {cc : ByteArray} {own : String} (C0 : sa_C p s m args c D dA A nL cl Ts cc own) {pc : Nat} {n : Fin 4} (hd : decode cc pc = .ok (.iload_n n, 1)) : sa_snd p l e R s m args below meth c Q D dA A nL cl n0 V0 pc (so_iload n 1) := by
  obtain ⟨hx, hb, hts, hown, hml, hK, hA⟩ := C0
  rintro ⟨pc, lo, st, cs, G, kc, ks⟩ sts rfl h k V H locs ls hG
  unfold so_iload at h
  dsimp only at h
  split at h
  · rename_i q hq
    cases h
    exact lv_iload_n hx hb hd rfl (sa_look_at hG.2.1 hq) (k _ List.mem_cons_self V H locs ls hG)
  · cases h
theorem sn_iload {p : Program} {l : Launch} {e : Env} {R : Room} {s : State} {m : MethodId} {args : Array Value} {below : List Frame} {meth : Method} {c : Code} {Q : State → Prop} {D : va_G} {dA : Nat → ClassId} {A : Nat → Prop} {nL : Nat} {cl : List vw_C} {n0 : Nat} {V0 : sa_V} {Ts : List Cond} {cc : ByteArray} {own : String} (C0 : sa_C p s m args c D dA A nL cl Ts cc own) {pc : Nat} {i : Nat} (hd : decode cc pc = .ok (.iload i, 2)) : sa_snd p l e R s m args below meth c Q D dA A nL cl n0 V0 pc (so_iload i 2) := by
  obtain ⟨hx, hb, hts, hown, hml, hK, hA⟩ := C0
  rintro ⟨pc, lo, st, cs, G, kc, ks⟩ sts rfl h k V H locs ls hG
  unfold so_iload at h
  dsimp only at h
  split at h
  · rename_i q hq
    cases h
    exact lv_iload hx hb hd (sa_look_at hG.2.1 hq) (k _ List.mem_cons_self V H locs ls hG)
  · cases h
def so_aload (i len : Nat) : sa_op := fun S => match sa_look i S.2.1 with
  | some (.inr (.inl (some q))) => some [(S.1 + len, S.2.1, .inr (.inl (some q)) :: S.2.2.1, S.2.2.2)]
  | _ => none
theorem sn_aload_n {p : Program} {l : Launch} {e : Env} {R : Room} {s : State} {m : MethodId} {args : Array Value} {below : List Frame} {meth : Method} {c : Code} {Q : State → Prop} {D : va_G} {dA : Nat → ClassId} {A : Nat → Prop} {nL : Nat} {cl : List vw_C} {n0 : Nat} {V0 : sa_V} {Ts : List Cond} {cc : ByteArray} {own : String} (C0 : sa_C p s m args c D dA A nL cl Ts cc own) {pc : Nat} {n : Fin 4} (hd : decode cc pc = .ok (.aload_n n, 1)) : sa_snd p l e R s m args below meth c Q D dA A nL cl n0 V0 pc (so_aload n 1) := by
  obtain ⟨hx, hb, hts, hown, hml, hK, hA⟩ := C0
  rintro ⟨pc, lo, st, cs, G, kc, ks⟩ sts rfl h k V H locs ls hG
  unfold so_aload at h
  dsimp only at h
  split at h
  · rename_i q hq
    cases h
    exact lv_aload_n hx hb hd rfl (sa_look_at hG.2.1 hq) (k _ List.mem_cons_self V H locs ls hG)
  · cases h
theorem sn_aload {p : Program} {l : Launch} {e : Env} {R : Room} {s : State} {m : MethodId} {args : Array Value} {below : List Frame} {meth : Method} {c : Code} {Q : State → Prop} {D : va_G} {dA : Nat → ClassId} {A : Nat → Prop} {nL : Nat} {cl : List vw_C} {n0 : Nat} {V0 : sa_V} {Ts : List Cond} {cc : ByteArray} {own : String} (C0 : sa_C p s m args c D dA A nL cl Ts cc own) {pc : Nat} {i : Nat} (hd : decode cc pc = .ok (.aload i, 2)) : sa_snd p l e R s m args below meth c Q D dA A nL cl n0 V0 pc (so_aload i 2) := by
  obtain ⟨hx, hb, hts, hown, hml, hK, hA⟩ := C0
  rintro ⟨pc, lo, st, cs, G, kc, ks⟩ sts rfl h k V H locs ls hG
  unfold so_aload at h
  dsimp only at h
  split at h
  · rename_i q hq
    cases h
    exact lv_aload hx hb hd (sa_look_at hG.2.1 hq) (k _ List.mem_cons_self V H locs ls hG)
  · cases h
def so_lload (i len : Nat) : sa_op := fun S => match sa_look i S.2.1 with
  | some (.inr (.inr q)) => some [(S.1 + len, S.2.1, .inr (.inr q) :: S.2.2.1, S.2.2.2)]
  | _ => none
theorem sn_lload_n {p : Program} {l : Launch} {e : Env} {R : Room} {s : State} {m : MethodId} {args : Array Value} {below : List Frame} {meth : Method} {c : Code} {Q : State → Prop} {D : va_G} {dA : Nat → ClassId} {A : Nat → Prop} {nL : Nat} {cl : List vw_C} {n0 : Nat} {V0 : sa_V} {Ts : List Cond} {cc : ByteArray} {own : String} (C0 : sa_C p s m args c D dA A nL cl Ts cc own) {pc : Nat} {n : Fin 4} (hd : decode cc pc = .ok (.lload_n n, 1)) : sa_snd p l e R s m args below meth c Q D dA A nL cl n0 V0 pc (so_lload n 1) := by
  obtain ⟨hx, hb, hts, hown, hml, hK, hA⟩ := C0
  rintro ⟨pc, lo, st, cs, G, kc, ks⟩ sts rfl h k V H locs ls hG
  unfold so_lload at h
  dsimp only at h
  split at h
  · rename_i q hq
    cases h
    exact lv_lload_n hx hb hd rfl (sa_look_at hG.2.1 hq) (k _ List.mem_cons_self V H locs ls hG)
  · cases h
theorem sn_lload {p : Program} {l : Launch} {e : Env} {R : Room} {s : State} {m : MethodId} {args : Array Value} {below : List Frame} {meth : Method} {c : Code} {Q : State → Prop} {D : va_G} {dA : Nat → ClassId} {A : Nat → Prop} {nL : Nat} {cl : List vw_C} {n0 : Nat} {V0 : sa_V} {Ts : List Cond} {cc : ByteArray} {own : String} (C0 : sa_C p s m args c D dA A nL cl Ts cc own) {pc : Nat} {i : Nat} (hd : decode cc pc = .ok (.lload i, 2)) : sa_snd p l e R s m args below meth c Q D dA A nL cl n0 V0 pc (so_lload i 2) := by
  obtain ⟨hx, hb, hts, hown, hml, hK, hA⟩ := C0
  rintro ⟨pc, lo, st, cs, G, kc, ks⟩ sts rfl h k V H locs ls hG
  unfold so_lload at h
  dsimp only at h
  split at h
  · rename_i q hq
    cases h
    exact lv_lload hx hb hd (sa_look_at hG.2.1 hq) (k _ List.mem_cons_self V H locs ls hG)
  · cases h
def so_istore (nL i len : Nat) : sa_op := fun S => match S.2.2.1 with
  | .inl q :: rest => if i < nL then some [(S.1 + len, sa_set1 i (.inl q) S.2.1, rest, S.2.2.2)] else none
  | _ => none
theorem sn_istore_n {p : Program} {l : Launch} {e : Env} {R : Room} {s : State} {m : MethodId} {args : Array Value} {below : List Frame} {meth : Method} {c : Code} {Q : State → Prop} {D : va_G} {dA : Nat → ClassId} {A : Nat → Prop} {nL : Nat} {cl : List vw_C} {n0 : Nat} {V0 : sa_V} {Ts : List Cond} {cc : ByteArray} {own : String} (C0 : sa_C p s m args c D dA A nL cl Ts cc own) {pc : Nat} {n : Fin 4} (hd : decode cc pc = .ok (.istore_n n, 1)) : sa_snd p l e R s m args below meth c Q D dA A nL cl n0 V0 pc (so_istore nL n 1) := by
  obtain ⟨hx, hb, hts, hown, hml, hK, hA⟩ := C0
  rintro ⟨pc, lo, st, cs, G, kc, ks⟩ sts rfl h k V H locs ls hG
  unfold so_istore at h
  dsimp only at h
  split at h
  · rename_i q rest
    split at h
    · rename_i hi
      cases h
      exact lv_istore_n hx hb hd rfl hG.2.1 hi (sa_set1_lv V _ (.inl q) lo) (fun ls' hl' => k _ List.mem_cons_self V H locs ls' ⟨hG.1, hl', hG.2.2⟩)
    · cases h
  · cases h
theorem sn_istore {p : Program} {l : Launch} {e : Env} {R : Room} {s : State} {m : MethodId} {args : Array Value} {below : List Frame} {meth : Method} {c : Code} {Q : State → Prop} {D : va_G} {dA : Nat → ClassId} {A : Nat → Prop} {nL : Nat} {cl : List vw_C} {n0 : Nat} {V0 : sa_V} {Ts : List Cond} {cc : ByteArray} {own : String} (C0 : sa_C p s m args c D dA A nL cl Ts cc own) {pc : Nat} {i : Nat} (hd : decode cc pc = .ok (.istore i, 2)) : sa_snd p l e R s m args below meth c Q D dA A nL cl n0 V0 pc (so_istore nL i 2) := by
  obtain ⟨hx, hb, hts, hown, hml, hK, hA⟩ := C0
  rintro ⟨pc, lo, st, cs, G, kc, ks⟩ sts rfl h k V H locs ls hG
  unfold so_istore at h
  dsimp only at h
  split at h
  · rename_i q rest
    split at h
    · rename_i hi
      cases h
      exact lv_istore hx hb hd hG.2.1 hi (sa_set1_lv V _ (.inl q) lo) (fun ls' hl' => k _ List.mem_cons_self V H locs ls' ⟨hG.1, hl', hG.2.2⟩)
    · cases h
  · cases h
def so_astore (nL i len : Nat) : sa_op := fun S => match S.2.2.1 with
  | .inr (.inl (some q)) :: rest => if i < nL then some [(S.1 + len, sa_set1 i (.inr (.inl (some q))) S.2.1, rest, S.2.2.2)] else none
  | _ => none
theorem sn_astore_n {p : Program} {l : Launch} {e : Env} {R : Room} {s : State} {m : MethodId} {args : Array Value} {below : List Frame} {meth : Method} {c : Code} {Q : State → Prop} {D : va_G} {dA : Nat → ClassId} {A : Nat → Prop} {nL : Nat} {cl : List vw_C} {n0 : Nat} {V0 : sa_V} {Ts : List Cond} {cc : ByteArray} {own : String} (C0 : sa_C p s m args c D dA A nL cl Ts cc own) {pc : Nat} {n : Fin 4} (hd : decode cc pc = .ok (.astore_n n, 1)) : sa_snd p l e R s m args below meth c Q D dA A nL cl n0 V0 pc (so_astore nL n 1) := by
  obtain ⟨hx, hb, hts, hown, hml, hK, hA⟩ := C0
  rintro ⟨pc, lo, st, cs, G, kc, ks⟩ sts rfl h k V H locs ls hG
  unfold so_astore at h
  dsimp only at h
  split at h
  · rename_i q rest
    split at h
    · rename_i hi
      cases h
      exact lv_astore_n hx hb hd rfl hG.2.1 hi (sa_set1_lv V _ (.inr (.inl (some q))) lo) (fun ls' hl' => k _ List.mem_cons_self V H locs ls' ⟨hG.1, hl', hG.2.2⟩)
    · cases h
  · cases h
theorem sn_astore {p : Program} {l : Launch} {e : Env} {R : Room} {s : State} {m : MethodId} {args : Array Value} {below : List Frame} {meth : Method} {c : Code} {Q : State → Prop} {D : va_G} {dA : Nat → ClassId} {A : Nat → Prop} {nL : Nat} {cl : List vw_C} {n0 : Nat} {V0 : sa_V} {Ts : List Cond} {cc : ByteArray} {own : String} (C0 : sa_C p s m args c D dA A nL cl Ts cc own) {pc : Nat} {i : Nat} (hd : decode cc pc = .ok (.astore i, 2)) : sa_snd p l e R s m args below meth c Q D dA A nL cl n0 V0 pc (so_astore nL i 2) := by
  obtain ⟨hx, hb, hts, hown, hml, hK, hA⟩ := C0
  rintro ⟨pc, lo, st, cs, G, kc, ks⟩ sts rfl h k V H locs ls hG
  unfold so_astore at h
  dsimp only at h
  split at h
  · rename_i q rest
    split at h
    · rename_i hi
      cases h
      exact lv_astore hx hb hd hG.2.1 hi (sa_set1_lv V _ (.inr (.inl (some q))) lo) (fun ls' hl' => k _ List.mem_cons_self V H locs ls' ⟨hG.1, hl', hG.2.2⟩)
    · cases h
  · cases h
def so_lstore (nL i len : Nat) : sa_op := fun S => match S.2.2.1 with
  | .inr (.inr q) :: rest => if i + 1 < nL then some [(S.1 + len, sa_set2 i (.inr (.inr q)) S.2.1, rest, S.2.2.2)] else none
  | _ => none
theorem sn_lstore_n {p : Program} {l : Launch} {e : Env} {R : Room} {s : State} {m : MethodId} {args : Array Value} {below : List Frame} {meth : Method} {c : Code} {Q : State → Prop} {D : va_G} {dA : Nat → ClassId} {A : Nat → Prop} {nL : Nat} {cl : List vw_C} {n0 : Nat} {V0 : sa_V} {Ts : List Cond} {cc : ByteArray} {own : String} (C0 : sa_C p s m args c D dA A nL cl Ts cc own) {pc : Nat} {n : Fin 4} (hd : decode cc pc = .ok (.lstore_n n, 1)) : sa_snd p l e R s m args below meth c Q D dA A nL cl n0 V0 pc (so_lstore nL n 1) := by
  obtain ⟨hx, hb, hts, hown, hml, hK, hA⟩ := C0
  rintro ⟨pc, lo, st, cs, G, kc, ks⟩ sts rfl h k V H locs ls hG
  unfold so_lstore at h
  dsimp only at h
  split at h
  · rename_i q rest
    split at h
    · rename_i hi
      cases h
      exact lv_lstore_n hx hb hd rfl hG.2.1 hi (sa_set2_lv V _ (.inr (.inr q)) lo) (fun ls' hl' => k _ List.mem_cons_self V H locs ls' ⟨hG.1, hl', hG.2.2⟩)
    · cases h
  · cases h
theorem sn_lstore {p : Program} {l : Launch} {e : Env} {R : Room} {s : State} {m : MethodId} {args : Array Value} {below : List Frame} {meth : Method} {c : Code} {Q : State → Prop} {D : va_G} {dA : Nat → ClassId} {A : Nat → Prop} {nL : Nat} {cl : List vw_C} {n0 : Nat} {V0 : sa_V} {Ts : List Cond} {cc : ByteArray} {own : String} (C0 : sa_C p s m args c D dA A nL cl Ts cc own) {pc : Nat} {i : Nat} (hd : decode cc pc = .ok (.lstore i, 2)) : sa_snd p l e R s m args below meth c Q D dA A nL cl n0 V0 pc (so_lstore nL i 2) := by
  obtain ⟨hx, hb, hts, hown, hml, hK, hA⟩ := C0
  rintro ⟨pc, lo, st, cs, G, kc, ks⟩ sts rfl h k V H locs ls hG
  unfold so_lstore at h
  dsimp only at h
  split at h
  · rename_i q rest
    split at h
    · rename_i hi
      cases h
      exact lv_lstore hx hb hd hG.2.1 hi (sa_set2_lv V _ (.inr (.inr q)) lo) (fun ls' hl' => k _ List.mem_cons_self V H locs ls' ⟨hG.1, hl', hG.2.2⟩)
    · cases h
  · cases h
theorem sa_i_add (V : sa_V) (q : Nat × Int) (n : Int) : sa_i V q + Int32.ofInt n = sa_i V (q.1, q.2 + n) := by
  unfold sa_i
  rw [← Int32.ofInt_add, Int.add_assoc]
def so_iinc (nL i : Nat) (n : Int) : sa_op := fun S => match sa_look i S.2.1 with
  | some (.inl q) => if i < nL then some [(S.1 + 3, sa_set1 i (.inl (q.1, q.2 + n)) S.2.1, S.2.2)] else none
  | _ => none
theorem sn_iinc {p : Program} {l : Launch} {e : Env} {R : Room} {s : State} {m : MethodId} {args : Array Value} {below : List Frame} {meth : Method} {c : Code} {Q : State → Prop} {D : va_G} {dA : Nat → ClassId} {A : Nat → Prop} {nL : Nat} {cl : List vw_C} {n0 : Nat} {V0 : sa_V} {Ts : List Cond} {cc : ByteArray} {own : String} (C0 : sa_C p s m args c D dA A nL cl Ts cc own) {pc : Nat} {i : Nat} {n : Int} (hd : decode cc pc = .ok (.iinc i n, 3)) : sa_snd p l e R s m args below meth c Q D dA A nL cl n0 V0 pc (so_iinc nL i n) := by
  obtain ⟨hx, hb, hts, hown, hml, hK, hA⟩ := C0
  rintro ⟨pc, lo, st, cs, G, kc, ks⟩ sts rfl h k V H locs ls hG
  unfold so_iinc at h
  dsimp only at h
  split at h
  · rename_i q hq
    split at h
    · rename_i hi
      cases h
      obtain ⟨kk, hk⟩ := List.getElem?_of_mem (show (i, Value.int (sa_i V q)) ∈ sa_lv V lo from List.mem_map.mpr ⟨(i, .inl q), sa_look_mem hq, rfl⟩)
      exact lv_iinc hx hb hd hG.2.1 hk (sa_i_add V q n) hi (sa_set1_lv V _ (.inl (q.1, q.2 + n)) lo) (fun ls' hl' => k _ List.mem_cons_self V H locs ls' ⟨hG.1, hl', hG.2.2⟩)
    · cases h
  · cases h
theorem sa_i_0 {V : sa_V} {G : sa_B} (h : sa_I V G) (n : Int) : sa_i V (0, n) = Int32.ofInt n := by
  unfold sa_i
  rw [h.2, Int.zero_add]
def so_int (n : Int) (len : Nat) : sa_op := fun S => some [(S.1 + len, S.2.1, .inl (0, n) :: S.2.2.1, S.2.2.2)]
theorem sa_k_int {p : Program} {l : Launch} {e : Env} {R : Room} {s : State} {m : MethodId} {args : Array Value} {below : List Frame} {meth : Method} {c : Code} {Q : State → Prop} {D : va_G} {dA : Nat → ClassId} {A : Nat → Prop} {nL : Nat} {cl : List vw_C} {n0 : Nat} {V0 : sa_V} {V : sa_V} {H : Heap} {locs : List Loc} {ls : Array Slot} {pc : Nat} {lo : sa_L} {st : List sa_v} {cs : List sa_c} {G : sa_B} {kc ks : Nat} {n : Int} (hG : sa_G D dA A nL cl n0 V0 s.heap V lo cs G H locs ls) (k : sa_W p l e R s m args below meth c Q D dA A nL cl n0 V0 (pc, lo, .inl (0, n) :: st, cs, G, kc, ks)) : W p l e R s m args below meth c H locs kc ks Q (F0 m pc ls (.int (Int32.ofInt n) :: st.map (sa_val V))) := by
  have h := k V H locs ls hG
  rw [← sa_i_0 hG.1.1 n]
  exact h
theorem sn_iconst {p : Program} {l : Launch} {e : Env} {R : Room} {s : State} {m : MethodId} {args : Array Value} {below : List Frame} {meth : Method} {c : Code} {Q : State → Prop} {D : va_G} {dA : Nat → ClassId} {A : Nat → Prop} {nL : Nat} {cl : List vw_C} {n0 : Nat} {V0 : sa_V} {Ts : List Cond} {cc : ByteArray} {own : String} (C0 : sa_C p s m args c D dA A nL cl Ts cc own) {pc : Nat} {n : Int} (hd : decode cc pc = .ok (.iconst n, 1)) : sa_snd p l e R s m args below meth c Q D dA A nL cl n0 V0 pc (so_int n 1) := by
  obtain ⟨hx, hb, hts, hown, hml, hK, hA⟩ := C0
  rintro ⟨pc, lo, st, cs, G, kc, ks⟩ sts rfl h k V H locs ls hG
  cases h
  exact lv_iconst hx hb hd rfl (sa_k_int hG (k _ List.mem_cons_self))
theorem sn_bipush {p : Program} {l : Launch} {e : Env} {R : Room} {s : State} {m : MethodId} {args : Array Value} {below : List Frame} {meth : Method} {c : Code} {Q : State → Prop} {D : va_G} {dA : Nat → ClassId} {A : Nat → Prop} {nL : Nat} {cl : List vw_C} {n0 : Nat} {V0 : sa_V} {Ts : List Cond} {cc : ByteArray} {own : String} (C0 : sa_C p s m args c D dA A nL cl Ts cc own) {pc : Nat} {n : Int} (hd : decode cc pc = .ok (.bipush n, 2)) (hv : (Int8.ofInt n).toInt32 = Int32.ofInt n) : sa_snd p l e R s m args below meth c Q D dA A nL cl n0 V0 pc (so_int n 2) := by
  obtain ⟨hx, hb, hts, hown, hml, hK, hA⟩ := C0
  rintro ⟨pc, lo, st, cs, G, kc, ks⟩ sts rfl h k V H locs ls hG
  cases h
  exact lv_bipush hx hb hd hv (sa_k_int hG (k _ List.mem_cons_self))
theorem sn_sipush {p : Program} {l : Launch} {e : Env} {R : Room} {s : State} {m : MethodId} {args : Array Value} {below : List Frame} {meth : Method} {c : Code} {Q : State → Prop} {D : va_G} {dA : Nat → ClassId} {A : Nat → Prop} {nL : Nat} {cl : List vw_C} {n0 : Nat} {V0 : sa_V} {Ts : List Cond} {cc : ByteArray} {own : String} (C0 : sa_C p s m args c D dA A nL cl Ts cc own) {pc : Nat} {n : Int} (hd : decode cc pc = .ok (.sipush n, 3)) (hv : (Int16.ofInt n).toInt32 = Int32.ofInt n) : sa_snd p l e R s m args below meth c Q D dA A nL cl n0 V0 pc (so_int n 3) := by
  obtain ⟨hx, hb, hts, hown, hml, hK, hA⟩ := C0
  rintro ⟨pc, lo, st, cs, G, kc, ks⟩ sts rfl h k V H locs ls hG
  cases h
  exact lv_sipush hx hb hd hv (sa_k_int hG (k _ List.mem_cons_self))
theorem sn_ldc {p : Program} {l : Launch} {e : Env} {R : Room} {s : State} {m : MethodId} {args : Array Value} {below : List Frame} {meth : Method} {c : Code} {Q : State → Prop} {D : va_G} {dA : Nat → ClassId} {A : Nat → Prop} {nL : Nat} {cl : List vw_C} {n0 : Nat} {V0 : sa_V} {Ts : List Cond} {cc : ByteArray} {own : String} (C0 : sa_C p s m args c D dA A nL cl Ts cc own) {pc : Nat} {n : Int} {idx : Nat} (hd : decode cc pc = .ok (.ldc idx, 2)) (hc : Cond.constant own idx (Int32.ofInt n) ∈ Ts) : sa_snd p l e R s m args below meth c Q D dA A nL cl n0 V0 pc (so_int n 2) := by
  obtain ⟨hx, hb, hts, hown, hml, hK, hA⟩ := C0
  rintro ⟨pc, lo, st, cs, G, kc, ks⟩ sts rfl h k V H locs ls hG
  cases h
  exact lv_ldc hx hb hown (hts _ hc) hd (sa_k_int hG (k _ List.mem_cons_self))
def so_dup : sa_op := fun S => match S.2.2.1 with
  | v :: rest => if sa_cat v = 1 then some [(S.1 + 1, S.2.1, v :: v :: rest, S.2.2.2)] else none
  | _ => none
theorem sn_dup {p : Program} {l : Launch} {e : Env} {R : Room} {s : State} {m : MethodId} {args : Array Value} {below : List Frame} {meth : Method} {c : Code} {Q : State → Prop} {D : va_G} {dA : Nat → ClassId} {A : Nat → Prop} {nL : Nat} {cl : List vw_C} {n0 : Nat} {V0 : sa_V} {Ts : List Cond} {cc : ByteArray} {own : String} (C0 : sa_C p s m args c D dA A nL cl Ts cc own) {pc : Nat}  (hd : decode cc pc = .ok (.dup, 1)) : sa_snd p l e R s m args below meth c Q D dA A nL cl n0 V0 pc so_dup := by
  obtain ⟨hx, hb, hts, hown, hml, hK, hA⟩ := C0
  rintro ⟨pc, lo, st, cs, G, kc, ks⟩ sts rfl h k V H locs ls hG
  unfold so_dup at h
  dsimp only at h
  split at h
  · rename_i v rest
    split at h
    · rename_i hv
      cases h
      exact lv_dup hx hb hd (by rw [sa_cat_val]; exact hv) (k _ List.mem_cons_self V H locs ls hG)
    · cases h
  · cases h
def so_pop : sa_op := fun S => match S.2.2.1 with
  | v :: rest => if sa_cat v = 1 then some [(S.1 + 1, S.2.1, rest, S.2.2.2)] else none
  | _ => none
theorem sn_pop {p : Program} {l : Launch} {e : Env} {R : Room} {s : State} {m : MethodId} {args : Array Value} {below : List Frame} {meth : Method} {c : Code} {Q : State → Prop} {D : va_G} {dA : Nat → ClassId} {A : Nat → Prop} {nL : Nat} {cl : List vw_C} {n0 : Nat} {V0 : sa_V} {Ts : List Cond} {cc : ByteArray} {own : String} (C0 : sa_C p s m args c D dA A nL cl Ts cc own) {pc : Nat}  (hd : decode cc pc = .ok (.pop, 1)) : sa_snd p l e R s m args below meth c Q D dA A nL cl n0 V0 pc so_pop := by
  obtain ⟨hx, hb, hts, hown, hml, hK, hA⟩ := C0
  rintro ⟨pc, lo, st, cs, G, kc, ks⟩ sts rfl h k V H locs ls hG
  unfold so_pop at h
  dsimp only at h
  split at h
  · rename_i v rest
    split at h
    · rename_i hv
      cases h
      exact lv_pop hx hb hd (by rw [sa_cat_val]; exact hv) (k _ List.mem_cons_self V H locs ls hG)
    · cases h
  · cases h
def so_dup2 : sa_op := fun S => match S.2.2.1 with
  | v :: u :: rest => if sa_cat v = 1 ∧ sa_cat u = 1 then some [(S.1 + 1, S.2.1, v :: u :: v :: u :: rest, S.2.2.2)] else none
  | _ => none
theorem sn_dup2 {p : Program} {l : Launch} {e : Env} {R : Room} {s : State} {m : MethodId} {args : Array Value} {below : List Frame} {meth : Method} {c : Code} {Q : State → Prop} {D : va_G} {dA : Nat → ClassId} {A : Nat → Prop} {nL : Nat} {cl : List vw_C} {n0 : Nat} {V0 : sa_V} {Ts : List Cond} {cc : ByteArray} {own : String} (C0 : sa_C p s m args c D dA A nL cl Ts cc own) {pc : Nat}  (hd : decode cc pc = .ok (.dup2, 1)) : sa_snd p l e R s m args below meth c Q D dA A nL cl n0 V0 pc so_dup2 := by
  obtain ⟨hx, hb, hts, hown, hml, hK, hA⟩ := C0
  rintro ⟨pc, lo, st, cs, G, kc, ks⟩ sts rfl h k V H locs ls hG
  unfold so_dup2 at h
  dsimp only at h
  split at h
  · rename_i v u rest
    split at h
    · rename_i hv
      cases h
      exact lv_dup2_11 hx hb hd (by rw [sa_cat_val]; exact hv.1) (by rw [sa_cat_val]; exact hv.2) (k _ List.mem_cons_self V H locs ls hG)
    · cases h
  · cases h
def so_goto (tgt : Nat) : sa_op := fun S => some [(tgt, S.2)]
theorem sn_goto {p : Program} {l : Launch} {e : Env} {R : Room} {s : State} {m : MethodId} {args : Array Value} {below : List Frame} {meth : Method} {c : Code} {Q : State → Prop} {D : va_G} {dA : Nat → ClassId} {A : Nat → Prop} {nL : Nat} {cl : List vw_C} {n0 : Nat} {V0 : sa_V} {Ts : List Cond} {cc : ByteArray} {own : String} (C0 : sa_C p s m args c D dA A nL cl Ts cc own) {pc : Nat} {off : Int} {tgt : Nat} (hd : decode cc pc = .ok (.goto off, 3)) (ht : (pc : Int) + off = (tgt : Int)) : sa_snd p l e R s m args below meth c Q D dA A nL cl n0 V0 pc (so_goto tgt) := by
  obtain ⟨hx, hb, hts, hown, hml, hK, hA⟩ := C0
  rintro ⟨pc, lo, st, cs, G, kc, ks⟩ sts rfl h k V H locs ls hG
  cases h
  exact lv_goto hx hb hd ht (k _ List.mem_cons_self V H locs ls hG)
def so_bin (f : sa_B → Nat × Int → Nat × Int → Option sa_r) : sa_op := fun S => match S.2.2.1 with
  | .inl y :: .inl x :: rest => match f S.2.2.2.2.1 x y with
    | some r => sa_push (S.1 + 1) S.2.1 rest S.2.2.2.1 S.2.2.2.2.1 S.2.2.2.2.2.1 S.2.2.2.2.2.2 r
    | none => none
  | _ => none
/-- what such a function must keep -/
def sa_bok (f : sa_B → Nat × Int → Nat × Int → Option sa_r) (g : Int32 → Int32 → Int32) : Prop := ∀ (V : sa_V) (G : sa_B) (x y : Nat × Int) (r : sa_r), sa_I V G → f G x y = some r → sa_is V r (g (sa_i V x) (sa_i V y))
theorem sn_iadd {p : Program} {l : Launch} {e : Env} {R : Room} {s : State} {m : MethodId} {args : Array Value} {below : List Frame} {meth : Method} {c : Code} {Q : State → Prop} {D : va_G} {dA : Nat → ClassId} {A : Nat → Prop} {nL : Nat} {cl : List vw_C} {n0 : Nat} {V0 : sa_V} {Ts : List Cond} {cc : ByteArray} {own : String} (C0 : sa_C p s m args c D dA A nL cl Ts cc own) {pc : Nat} {f : sa_B → Nat × Int → Nat × Int → Option sa_r} (hf : sa_bok f (fun x y => x + y)) (hd : decode cc pc = .ok (.iadd, 1)) : sa_snd p l e R s m args below meth c Q D dA A nL cl n0 V0 pc (so_bin f) := by
  obtain ⟨hx, hb, hts, hown, hml, hK, hA⟩ := C0
  rintro ⟨pc, lo, st, cs, G, kc, ks⟩ sts rfl h k V H locs ls hG
  unfold so_bin at h
  dsimp only at h
  split at h
  · rename_i y x rest
    split at h
    · rename_i r hr
      exact lv_iadd hx hb hd (sa_push_ok hG (hf V G x y r hG.1.1 hr) h k)
    · cases h
  · cases h
theorem sn_isub {p : Program} {l : Launch} {e : Env} {R : Room} {s : State} {m : MethodId} {args : Array Value} {below : List Frame} {meth : Method} {c : Code} {Q : State → Prop} {D : va_G} {dA : Nat → ClassId} {A : Nat → Prop} {nL : Nat} {cl : List vw_C} {n0 : Nat} {V0 : sa_V} {Ts : List Cond} {cc : ByteArray} {own : String} (C0 : sa_C p s m args c D dA A nL cl Ts cc own) {pc : Nat} {f : sa_B → Nat × Int → Nat × Int → Option sa_r} (hf : sa_bok f (fun x y => x - y)) (hd : decode cc pc = .ok (.isub, 1)) : sa_snd p l e R s m args below meth c Q D dA A nL cl n0 V0 pc (so_bin f) := by
  obtain ⟨hx, hb, hts, hown, hml, hK, hA⟩ := C0
  rintro ⟨pc, lo, st, cs, G, kc, ks⟩ sts rfl h k V H locs ls hG
  unfold so_bin at h
  dsimp only at h
  split at h
  · rename_i y x rest
    split at h
    · rename_i r hr
      exact lv_isub hx hb hd (sa_push_ok hG (hf V G x y r hG.1.1 hr) h k)
    · cases h
  · cases h
theorem sn_imul {p : Program} {l : Launch} {e : Env} {R : Room} {s : State} {m : MethodId} {args : Array Value} {below : List Frame} {meth : Method} {c : Code} {Q : State → Prop} {D : va_G} {dA : Nat → ClassId} {A : Nat → Prop} {nL : Nat} {cl : List vw_C} {n0 : Nat} {V0 : sa_V} {Ts : List Cond} {cc : ByteArray} {own : String} (C0 : sa_C p s m args c D dA A nL cl Ts cc own) {pc : Nat} {f : sa_B → Nat × Int → Nat × Int → Option sa_r} (hf : sa_bok f (fun x y => x * y)) (hd : decode cc pc = .ok (.imul, 1)) : sa_snd p l e R s m args below meth c Q D dA A nL cl n0 V0 pc (so_bin f) := by
  obtain ⟨hx, hb, hts, hown, hml, hK, hA⟩ := C0
  rintro ⟨pc, lo, st, cs, G, kc, ks⟩ sts rfl h k V H locs ls hG
  unfold so_bin at h
  dsimp only at h
  split at h
  · rename_i y x rest
    split at h
    · rename_i r hr
      exact lv_imul hx hb hd (sa_push_ok hG (hf V G x y r hG.1.1 hr) h k)
    · cases h
  · cases h
theorem sn_iand {p : Program} {l : Launch} {e : Env} {R : Room} {s : State} {m : MethodId} {args : Array Value} {below : List Frame} {meth : Method} {c : Code} {Q : State → Prop} {D : va_G} {dA : Nat → ClassId} {A : Nat → Prop} {nL : Nat} {cl : List vw_C} {n0 : Nat} {V0 : sa_V} {Ts : List Cond} {cc : ByteArray} {own : String} (C0 : sa_C p s m args c D dA A nL cl Ts cc own) {pc : Nat} {f : sa_B → Nat × Int → Nat × Int → Option sa_r} (hf : sa_bok f (fun x y => x &&& y)) (hd : decode cc pc = .ok (.iand, 1)) : sa_snd p l e R s m args below meth c Q D dA A nL cl n0 V0 pc (so_bin f) := by
  obtain ⟨hx, hb, hts, hown, hml, hK, hA⟩ := C0
  rintro ⟨pc, lo, st, cs, G, kc, ks⟩ sts rfl h k V H locs ls hG
  unfold so_bin at h
  dsimp only at h
  split at h
  · rename_i y x rest
    split at h
    · rename_i r hr
      exact lv_iand hx hb hd (sa_push_ok hG (hf V G x y r hG.1.1 hr) h k)
    · cases h
  · cases h
theorem sn_ior {p : Program} {l : Launch} {e : Env} {R : Room} {s : State} {m : MethodId} {args : Array Value} {below : List Frame} {meth : Method} {c : Code} {Q : State → Prop} {D : va_G} {dA : Nat → ClassId} {A : Nat → Prop} {nL : Nat} {cl : List vw_C} {n0 : Nat} {V0 : sa_V} {Ts : List Cond} {cc : ByteArray} {own : String} (C0 : sa_C p s m args c D dA A nL cl Ts cc own) {pc : Nat} {f : sa_B → Nat × Int → Nat × Int → Option sa_r} (hf : sa_bok f (fun x y => x ||| y)) (hd : decode cc pc = .ok (.ior, 1)) : sa_snd p l e R s m args below meth c Q D dA A nL cl n0 V0 pc (so_bin f) := by
  obtain ⟨hx, hb, hts, hown, hml, hK, hA⟩ := C0
  rintro ⟨pc, lo, st, cs, G, kc, ks⟩ sts rfl h k V H locs ls hG
  unfold so_bin at h
  dsimp only at h
  split at h
  · rename_i y x rest
    split at h
    · rename_i r hr
      exact lv_ior hx hb hd (sa_push_ok hG (hf V G x y r hG.1.1 hr) h k)
    · cases h
  · cases h
theorem sn_ixor {p : Program} {l : Launch} {e : Env} {R : Room} {s : State} {m : MethodId} {args : Array Value} {below : List Frame} {meth : Method} {c : Code} {Q : State → Prop} {D : va_G} {dA : Nat → ClassId} {A : Nat → Prop} {nL : Nat} {cl : List vw_C} {n0 : Nat} {V0 : sa_V} {Ts : List Cond} {cc : ByteArray} {own : String} (C0 : sa_C p s m args c D dA A nL cl Ts cc own) {pc : Nat} {f : sa_B → Nat × Int → Nat × Int → Option sa_r} (hf : sa_bok f (fun x y => x ^^^ y)) (hd : decode cc pc = .ok (.ixor, 1)) : sa_snd p l e R s m args below meth c Q D dA A nL cl n0 V0 pc (so_bin f) := by
  obtain ⟨hx, hb, hts, hown, hml, hK, hA⟩ := C0
  rintro ⟨pc, lo, st, cs, G, kc, ks⟩ sts rfl h k V H locs ls hG
  unfold so_bin at h
  dsimp only at h
  split at h
  · rename_i y x rest
    split at h
    · rename_i r hr
      exact lv_ixor hx hb hd (sa_push_ok hG (hf V G x y r hG.1.1 hr) h k)
    · cases h
  · cases h
theorem sn_ishl {p : Program} {l : Launch} {e : Env} {R : Room} {s : State} {m : MethodId} {args : Array Value} {below : List Frame} {meth : Method} {c : Code} {Q : State → Prop} {D : va_G} {dA : Nat → ClassId} {A : Nat → Prop} {nL : Nat} {cl : List vw_C} {n0 : Nat} {V0 : sa_V} {Ts : List Cond} {cc : ByteArray} {own : String} (C0 : sa_C p s m args c D dA A nL cl Ts cc own) {pc : Nat} {f : sa_B → Nat × Int → Nat × Int → Option sa_r} (hf : sa_bok f (fun x y => x <<< (y &&& 31))) (hd : decode cc pc = .ok (.ishl, 1)) : sa_snd p l e R s m args below meth c Q D dA A nL cl n0 V0 pc (so_bin f) := by
  obtain ⟨hx, hb, hts, hown, hml, hK, hA⟩ := C0
  rintro ⟨pc, lo, st, cs, G, kc, ks⟩ sts rfl h k V H locs ls hG
  unfold so_bin at h
  dsimp only at h
  split at h
  · rename_i y x rest
    split at h
    · rename_i r hr
      exact lv_ishl hx hb hd (sa_push_ok hG (hf V G x y r hG.1.1 hr) h k)
    · cases h
  · cases h
theorem sn_ishr {p : Program} {l : Launch} {e : Env} {R : Room} {s : State} {m : MethodId} {args : Array Value} {below : List Frame} {meth : Method} {c : Code} {Q : State → Prop} {D : va_G} {dA : Nat → ClassId} {A : Nat → Prop} {nL : Nat} {cl : List vw_C} {n0 : Nat} {V0 : sa_V} {Ts : List Cond} {cc : ByteArray} {own : String} (C0 : sa_C p s m args c D dA A nL cl Ts cc own) {pc : Nat} {f : sa_B → Nat × Int → Nat × Int → Option sa_r} (hf : sa_bok f (fun x y => x >>> (y &&& 31))) (hd : decode cc pc = .ok (.ishr, 1)) : sa_snd p l e R s m args below meth c Q D dA A nL cl n0 V0 pc (so_bin f) := by
  obtain ⟨hx, hb, hts, hown, hml, hK, hA⟩ := C0
  rintro ⟨pc, lo, st, cs, G, kc, ks⟩ sts rfl h k V H locs ls hG
  unfold so_bin at h
  dsimp only at h
  split at h
  · rename_i y x rest
    split at h
    · rename_i r hr
      exact lv_ishr hx hb hd (sa_push_ok hG (hf V G x y r hG.1.1 hr) h k)
    · cases h
  · cases h
theorem sn_iushr {p : Program} {l : Launch} {e : Env} {R : Room} {s : State} {m : MethodId} {args : Array Value} {below : List Frame} {meth : Method} {c : Code} {Q : State → Prop} {D : va_G} {dA : Nat → ClassId} {A : Nat → Prop} {nL : Nat} {cl : List vw_C} {n0 : Nat} {V0 : sa_V} {Ts : List Cond} {cc : ByteArray} {own : String} (C0 : sa_C p s m args c D dA A nL cl Ts cc own) {pc : Nat} {f : sa_B → Nat × Int → Nat × Int → Option sa_r} (hf : sa_bok f (fun x y => (x.toUInt32 >>> (y.toUInt32 &&& Int32.toUInt32 31)).toInt32)) (hd : decode cc pc = .ok (.iushr, 1)) : sa_snd p l e R s m args below meth c Q D dA A nL cl n0 V0 pc (so_bin f) := by
  obtain ⟨hx, hb, hts, hown, hml, hK, hA⟩ := C0
  rintro ⟨pc, lo, st, cs, G, kc, ks⟩ sts rfl h k V H locs ls hG
  unfold so_bin at h
  dsimp only at h
  split at h
  · rename_i y x rest
    split at h
    · rename_i r hr
      exact lv_iushr hx hb hd rfl (sa_push_ok hG (hf V G x y r hG.1.1 hr) h k)
    · cases h
  · cases h
def sa_bok0 (f : sa_B → Nat × Int → Nat × Int → Option sa_r) (g : Int32 → Int32 → Int32) : Prop := ∀ (V : sa_V) (G : sa_B) (x y : Nat × Int) (r : sa_r), sa_I V G → f G x y = some r → ¬ sa_i V y = 0 ∧ sa_is V r (g (sa_i V x) (sa_i V y))
theorem sn_idiv {p : Program} {l : Launch} {e : Env} {R : Room} {s : State} {m : MethodId} {args : Array Value} {below : List Frame} {meth : Method} {c : Code} {Q : State → Prop} {D : va_G} {dA : Nat → ClassId} {A : Nat → Prop} {nL : Nat} {cl : List vw_C} {n0 : Nat} {V0 : sa_V} {Ts : List Cond} {cc : ByteArray} {own : String} (C0 : sa_C p s m args c D dA A nL cl Ts cc own) {pc : Nat} {f : sa_B → Nat × Int → Nat × Int → Option sa_r} (hf : sa_bok0 f (fun x y => x / y)) (hd : decode cc pc = .ok (.idiv, 1)) : sa_snd p l e R s m args below meth c Q D dA A nL cl n0 V0 pc (so_bin f) := by
  obtain ⟨hx, hb, hts, hown, hml, hK, hA⟩ := C0
  rintro ⟨pc, lo, st, cs, G, kc, ks⟩ sts rfl h k V H locs ls hG
  unfold so_bin at h
  dsimp only at h
  split at h
  · rename_i y x rest
    split at h
    · rename_i r hr
      have hq := hf V G x y r hG.1.1 hr
      exact lv_idiv hx hb hd hq.1 (sa_push_ok hG hq.2 h k)
    · cases h
  · cases h
theorem sn_irem {p : Program} {l : Launch} {e : Env} {R : Room} {s : State} {m : MethodId} {args : Array Value} {below : List Frame} {meth : Method} {c : Code} {Q : State → Prop} {D : va_G} {dA : Nat → ClassId} {A : Nat → Prop} {nL : Nat} {cl : List vw_C} {n0 : Nat} {V0 : sa_V} {Ts : List Cond} {cc : ByteArray} {own : String} (C0 : sa_C p s m args c D dA A nL cl Ts cc own) {pc : Nat} {f : sa_B → Nat × Int → Nat × Int → Option sa_r} (hf : sa_bok0 f (fun x y => x - x / y * y)) (hd : decode cc pc = .ok (.irem, 1)) : sa_snd p l e R s m args below meth c Q D dA A nL cl n0 V0 pc (so_bin f) := by
  obtain ⟨hx, hb, hts, hown, hml, hK, hA⟩ := C0
  rintro ⟨pc, lo, st, cs, G, kc, ks⟩ sts rfl h k V H locs ls hG
  unfold so_bin at h
  dsimp only at h
  split at h
  · rename_i y x rest
    split at h
    · rename_i r hr
      have hq := hf V G x y r hG.1.1 hr
      exact lv_irem hx hb hd hq.1 (sa_push_ok hG hq.2 h k)
    · cases h
  · cases h
theorem sa_k0 {V : sa_V} {G : sa_B} (h : sa_I V G) {q : Nat × Int} (hq : q.1 = 0) : sa_i V q = Int32.ofInt q.2 := by
  obtain ⟨s, n⟩ := q
  subst hq
  exact sa_i_0 h n
theorem sa_is_c {V : sa_V} {G : sa_B} (h : sa_I V G) (x : Int32) : sa_is V (.inl (0, x.toInt)) x := by
  show sa_i V (0, x.toInt) = x
  rw [sa_i_0 h, Int32.ofInt_toInt]
def sa_top : sa_r := .inr (-2147483648, 2147483647)
theorem sa_is_top (V : sa_V) (x : Int32) : sa_is V sa_top x := ⟨by have := Int32.le_toInt x; simpa using this, by have := Int32.toInt_lt x; simp at this; show x.toInt ≤ 2147483647; omega⟩
def sf_add (G : sa_B) (x y : Nat × Int) : Option sa_r :=
  if x.1 = 0 then some (.inl (y.1, y.2 + x.2)) else if y.1 = 0 then some (.inl (x.1, x.2 + y.2)) else match sa_iv G x, sa_iv G y with
  | some a, some b => if -2147483648 ≤ a.1 + b.1 ∧ a.2 + b.2 ≤ 2147483647 then some (.inr (a.1 + b.1, a.2 + b.2)) else some sa_top
  | _, _ => some sa_top
theorem sf_add_ok : sa_bok sf_add (fun x y => x + y) := by
  intro V G x y r hI h
  unfold sf_add at h
  split at h
  · rename_i h1
    cases h
    show sa_i V _ = _ + _
    rw [sa_k0 hI h1, Int32.add_comm, sa_i_add]
  · split at h
    · rename_i h1
      cases h
      show sa_i V _ = _ + _
      rw [sa_k0 hI h1, sa_i_add]
    · split at h
      · rename_i a b ha hb
        split at h
        · rename_i h2
          cases h
          obtain ⟨e1, l1, u1⟩ := sa_iv_ok hI ha
          obtain ⟨e2, l2, u2⟩ := sa_iv_ok hI hb
          have e3 : (sa_i V x + sa_i V y).toInt = (sa_i V x).toInt + (sa_i V y).toInt := by
            conv => lhs; rw [← Int32.ofInt_toInt (sa_i V x), ← Int32.ofInt_toInt (sa_i V y), ← Int32.ofInt_add]
            exact sa_ofInt_toInt (by omega) (by omega)
          show _ ≤ (sa_i V x + sa_i V y).toInt ∧ (sa_i V x + sa_i V y).toInt ≤ _
          rw [e3]
          exact ⟨by show a.1 + b.1 ≤ _; omega, by show _ ≤ a.2 + b.2; omega⟩
        · cases h; exact sa_is_top V _
      · cases h; exact sa_is_top V _
def sf_sub (G : sa_B) (x y : Nat × Int) : Option sa_r :=
  if y.1 = 0 then some (.inl (x.1, x.2 + (-y.2))) else match sa_iv G x, sa_iv G y with
  | some a, some b => if -2147483648 ≤ a.1 - b.2 ∧ a.2 - b.1 ≤ 2147483647 then some (.inr (a.1 - b.2, a.2 - b.1)) else some sa_top
  | _, _ => some sa_top
theorem sf_sub_ok : sa_bok sf_sub (fun x y => x - y) := by
  intro V G x y r hI h
  unfold sf_sub at h
  split at h
  · rename_i h1
    cases h
    show sa_i V _ = _ - _
    rw [← sa_i_add V x (-y.2), sa_k0 hI h1, Int32.ofInt_neg, Int32.sub_eq_add_neg]
  · split at h
    · rename_i a b ha hb
      split at h
      · rename_i h2
        cases h
        obtain ⟨e1, l1, u1⟩ := sa_iv_ok hI ha
        obtain ⟨e2, l2, u2⟩ := sa_iv_ok hI hb
        have e3 : (sa_i V x - sa_i V y).toInt = (sa_i V x).toInt - (sa_i V y).toInt := by
          conv => lhs; rw [← Int32.ofInt_toInt (sa_i V x), ← Int32.ofInt_toInt (sa_i V y), ← Int32.ofInt_sub]
          exact sa_ofInt_toInt (by omega) (by omega)
        show _ ≤ (sa_i V x - sa_i V y).toInt ∧ (sa_i V x - sa_i V y).toInt ≤ _
        rw [e3]
        exact ⟨by show a.1 - b.2 ≤ _; omega, by show _ ≤ a.2 - b.1; omega⟩
      · cases h; exact sa_is_top V _
    · cases h; exact sa_is_top V _
/-- a number that is known -/
def sa_kv (G : sa_B) (x : Nat × Int) : Option Int := match sa_iv G x with
  | some b => if b.1 = b.2 then some b.1 else none
  | none => none
theorem sa_kv_ok {V : sa_V} {G : sa_B} {x : Nat × Int} {a : Int} (hI : sa_I V G) (h : sa_kv G x = some a) : sa_i V x = Int32.ofInt a := by
  unfold sa_kv at h
  split at h
  · rename_i b hb
    split at h
    · rename_i h1
      cases h
      obtain ⟨e1, l1, u1⟩ := sa_iv_ok hI hb
      rw [show b.1 = (sa_i V x).toInt by omega, Int32.ofInt_toInt]
    · cases h
  · cases h
/-- two known numbers: the answer itself; else any number -/
def sf_cc (g : Int32 → Int32 → Int32) (G : sa_B) (x y : Nat × Int) : Option sa_r := match sa_kv G x, sa_kv G y with
  | some a, some b => some (.inl (0, (g (Int32.ofInt a) (Int32.ofInt b)).toInt))
  | _, _ => some sa_top
theorem sf_cc_ok (g : Int32 → Int32 → Int32) : sa_bok (sf_cc g) g := by
  intro V G x y r hI h
  unfold sf_cc at h
  split at h
  · rename_i a b ha hb
    cases h
    rw [sa_kv_ok hI ha, sa_kv_ok hI hb]
    exact sa_is_c hI _
  · cases h; exact sa_is_top V _
/-- nothing shifted is nothing -/
theorem sa_shr0 (y : Int32) : (0 : Int32) >>> (y &&& 31) = 0 := by
  apply Int32.toBitVec_inj.mp
  rw [Int32.toBitVec_shiftRight]
  simp
def sf_shr (_ : sa_B) (x y : Nat × Int) : Option sa_r :=
  if x.1 = 0 ∧ x.2 = 0 then some (.inl (0, 0)) else if x.1 = 0 ∧ y.1 = 0 then some (.inl (0, (Int32.ofInt x.2 >>> (Int32.ofInt y.2 &&& 31)).toInt)) else some sa_top
theorem sf_shr_ok : sa_bok sf_shr (fun x y => x >>> (y &&& 31)) := by
  intro V G x y r hI h
  unfold sf_shr at h
  split at h
  · rename_i h1
    cases h
    show sa_i V (0, 0) = sa_i V x >>> (sa_i V y &&& 31)
    rw [sa_k0 hI h1.1, h1.2, sa_i_0 hI]
    exact (sa_shr0 _).symm
  · split at h
    · rename_i h1
      cases h
      rw [sa_k0 hI h1.1, sa_k0 hI h1.2]
      exact sa_is_c hI _
    · cases h; exact sa_is_top V _
/-- with a mask: from 0 to the mask -/
def sf_and (_ : sa_B) (x y : Nat × Int) : Option sa_r :=
  if x.1 = 0 ∧ y.1 = 0 then some (.inl (0, (Int32.ofInt x.2 &&& Int32.ofInt y.2).toInt)) else if y.1 = 0 ∧ y.2 = -1 then some (.inl x) else if y.1 = 0 ∧ 0 ≤ y.2 ∧ y.2 ≤ 2147483647 then some (.inr (0, y.2)) else some sa_top
theorem sa_and_mask (x : Int32) {n : Int} (h0 : 0 ≤ n) (h1 : n ≤ 2147483647) : 0 ≤ (x &&& Int32.ofInt n).toInt ∧ (x &&& Int32.ofInt n).toInt ≤ n := by
  obtain ⟨k, rfl⟩ := Int.eq_ofNat_of_zero_le h0
  have hk : k < 2147483648 := by omega
  have hb : (Int32.ofInt (k : Int)).toBitVec = BitVec.ofNat 32 k := by
    show BitVec.ofInt 32 (k : Int) = BitVec.ofNat 32 k
    exact BitVec.ofInt_natCast 32 k
  have ht : (x &&& Int32.ofInt (k : Int)).toBitVec.toNat ≤ k := by
    rw [Int32.toBitVec_and, hb, BitVec.toNat_and, BitVec.toNat_ofNat, Nat.mod_eq_of_lt (by omega)]
    exact Nat.and_le_right
  have hi : (x &&& Int32.ofInt (k : Int)).toInt = ((x &&& Int32.ofInt (k : Int)).toBitVec.toNat : Int) := by
    show (x &&& Int32.ofInt (k : Int)).toBitVec.toInt = _
    rw [BitVec.toInt_eq_toNat_of_lt]
    omega
  rw [hi]
  omega
theorem sf_and_ok : sa_bok sf_and (fun x y => x &&& y) := by
  intro V G x y r hI h
  unfold sf_and at h
  split at h
  · rename_i h1
    cases h
    rw [sa_k0 hI h1.1, sa_k0 hI h1.2]
    exact sa_is_c hI _
  · split at h
    · rename_i h1
      cases h
      rw [sa_k0 hI h1.1, h1.2]
      show sa_i V x = sa_i V x &&& Int32.ofInt (-1)
      apply Int32.toBitVec_inj.mp
      rw [Int32.toBitVec_and, show (Int32.ofInt (-1)).toBitVec = BitVec.allOnes 32 from rfl, BitVec.and_allOnes]
    · split at h
      · rename_i h1
        cases h
        rw [sa_k0 hI h1.1]
        exact sa_and_mask _ h1.2.1 h1.2.2
      · cases h; exact sa_is_top V _
/-- a divisor that is a constant, not 0 -/
def sf_dd (g : Int32 → Int32 → Int32) (_ : sa_B) (x y : Nat × Int) : Option sa_r :=
  if y.1 = 0 ∧ ¬ Int32.ofInt y.2 = 0 then (if x.1 = 0 then some (.inl (0, (g (Int32.ofInt x.2) (Int32.ofInt y.2)).toInt)) else some sa_top) else none
theorem sf_dd_ok (g : Int32 → Int32 → Int32) : sa_bok0 (sf_dd g) g := by
  intro V G x y r hI h
  unfold sf_dd at h
  split at h
  · rename_i h1
    rw [sa_k0 hI h1.1]
    refine ⟨h1.2, ?_⟩
    split at h
    · rename_i h2
      cases h
      rw [sa_k0 hI h2]
      exact sa_is_c hI _
    · cases h; exact sa_is_top V _
  · cases h
end SA1
end
section
section SA2
def sa_hi (G : sa_B) (s : Nat) (z : Int) : sa_B := match G[s]? with
  | some b => G.set s (b.1, if b.2 ≤ z then b.2 else z)
  | none => G
def sa_lw (G : sa_B) (s : Nat) (z : Int) : sa_B := match G[s]? with
  | some b => G.set s (if z ≤ b.1 then b.1 else z, b.2)
  | none => G
theorem sa_I_hi {V : sa_V} {G : sa_B} {s : Nat} {z : Int} (h : sa_I V G) (hz : (V s).1 ≤ z) : sa_I V (sa_hi G s z) := by
  unfold sa_hi
  split
  · rename_i b hb
    refine ⟨fun i b' hi => ?_, h.2⟩
    by_cases hs : s = i
    · subst hs
      have hl := (List.getElem?_eq_some_iff.mp hb).1
      rw [List.getElem?_set_self hl] at hi
      cases hi
      obtain ⟨h1, h2⟩ := h.1 _ _ hb
      refine ⟨h1, ?_⟩
      show _ ≤ (if b.2 ≤ z then b.2 else z)
      split <;> omega
    · rw [List.getElem?_set_ne hs] at hi
      exact h.1 i b' hi
  · exact h
theorem sa_I_lw {V : sa_V} {G : sa_B} {s : Nat} {z : Int} (h : sa_I V G) (hz : z ≤ (V s).1) : sa_I V (sa_lw G s z) := by
  unfold sa_lw
  split
  · rename_i b hb
    refine ⟨fun i b' hi => ?_, h.2⟩
    by_cases hs : s = i
    · subst hs
      have hl := (List.getElem?_eq_some_iff.mp hb).1
      rw [List.getElem?_set_self hl] at hi
      cases hi
      obtain ⟨h1, h2⟩ := h.1 _ _ hb
      refine ⟨?_, h2⟩
      show (if z ≤ b.1 then b.1 else z) ≤ _
      split <;> omega
    · rw [List.getElem?_set_ne hs] at hi
      exact h.1 i b' hi
  · exact h
theorem sa_hi_len (G : sa_B) (s : Nat) (z : Int) : (sa_hi G s z).length = G.length := by
  unfold sa_hi
  split
  · exact List.length_set
  · rfl
theorem sa_lw_len (G : sa_B) (s : Nat) (z : Int) : (sa_lw G s z).length = G.length := by
  unfold sa_lw
  split
  · exact List.length_set
  · rfl
abbrev sa_R : Type := sa_B → Nat × Int → Nat × Int → List sa_B
def sa_rok (r : sa_R) (P : Int32 → Int32 → Prop) : Prop := ∀ (V : sa_V) (G : sa_B) (x y : Nat × Int), sa_I V G → P (sa_i V x) (sa_i V y) → ∃ G', G' ∈ r G x y ∧ sa_I V G' ∧ G'.length = G.length
def sr_lt : sa_R := fun G x y => match sa_iv G x, sa_iv G y with
  | some a, some b => if a.1 < b.2 then [sa_lw (sa_hi G x.1 (b.2 - 1 - x.2)) y.1 (a.1 + 1 - y.2)] else []
  | _, _ => [G]
theorem sr_lt_ok : sa_rok sr_lt (fun x y => x < y) := by
  intro V G x y hI h
  rw [Int32.lt_iff_toInt_lt] at h
  unfold sr_lt
  split
  · rename_i a b ha hb
    obtain ⟨e1, l1, u1⟩ := sa_iv_ok hI ha
    obtain ⟨e2, l2, u2⟩ := sa_iv_ok hI hb
    rw [if_pos (by omega)]
    exact ⟨_, List.mem_cons_self, sa_I_lw (sa_I_hi hI (by omega)) (by omega), by rw [sa_lw_len, sa_hi_len]⟩
  · exact ⟨_, List.mem_cons_self, hI, rfl⟩
def sr_le : sa_R := fun G x y => match sa_iv G x, sa_iv G y with
  | some a, some b => if a.1 ≤ b.2 then [sa_lw (sa_hi G x.1 (b.2 - x.2)) y.1 (a.1 - y.2)] else []
  | _, _ => [G]
theorem sr_le_ok : sa_rok sr_le (fun x y => x ≤ y) := by
  intro V G x y hI h
  rw [Int32.le_iff_toInt_le] at h
  unfold sr_le
  split
  · rename_i a b ha hb
    obtain ⟨e1, l1, u1⟩ := sa_iv_ok hI ha
    obtain ⟨e2, l2, u2⟩ := sa_iv_ok hI hb
    rw [if_pos (by omega)]
    exact ⟨_, List.mem_cons_self, sa_I_lw (sa_I_hi hI (by omega)) (by omega), by rw [sa_lw_len, sa_hi_len]⟩
  · exact ⟨_, List.mem_cons_self, hI, rfl⟩
def sr_eq : sa_R := fun G x y => match sa_iv G x, sa_iv G y with
  | some a, some b => if a.1 ≤ b.2 ∧ b.1 ≤ a.2 then [sa_lw (sa_hi (sa_lw (sa_hi G x.1 (b.2 - x.2)) x.1 (b.1 - x.2)) y.1 (a.2 - y.2)) y.1 (a.1 - y.2)] else []
  | _, _ => [G]
theorem sr_eq_ok : sa_rok sr_eq (fun x y => x = y) := by
  intro V G x y hI h
  unfold sr_eq
  split
  · rename_i a b ha hb
    obtain ⟨e1, l1, u1⟩ := sa_iv_ok hI ha
    obtain ⟨e2, l2, u2⟩ := sa_iv_ok hI hb
    have h : sa_i V x = sa_i V y := h
    rw [h] at e1 l1 u1
    rw [if_pos (by omega)]
    exact ⟨_, List.mem_cons_self, sa_I_lw (sa_I_hi (sa_I_lw (sa_I_hi hI (by omega)) (by omega)) (by omega)) (by omega), by rw [sa_lw_len, sa_hi_len, sa_lw_len, sa_hi_len]⟩
  · exact ⟨_, List.mem_cons_self, hI, rfl⟩
def sr_ne : sa_R := fun G x y => match sa_iv G x, sa_iv G y with
  | some a, some b => if b.1 = b.2 then (if a.1 < b.1 then [sa_hi G x.1 (b.1 - 1 - x.2)] else []) ++ (if b.1 < a.2 then [sa_lw G x.1 (b.1 + 1 - x.2)] else []) else [G]
  | _, _ => [G]
theorem sr_ne_ok : sa_rok sr_ne (fun x y => ¬ x = y) := by
  intro V G x y hI h
  unfold sr_ne
  split
  · rename_i a b ha hb
    obtain ⟨e1, l1, u1⟩ := sa_iv_ok hI ha
    obtain ⟨e2, l2, u2⟩ := sa_iv_ok hI hb
    have h3 : ¬ (sa_i V x).toInt = (sa_i V y).toInt := fun q => h (Int32.toInt_inj.mp q)
    split
    · by_cases hlt : (sa_i V x).toInt < (sa_i V y).toInt
      · exact ⟨_, List.mem_append_left _ (by rw [if_pos (by omega)]; exact List.mem_cons_self), sa_I_hi hI (by omega), sa_hi_len _ _ _⟩
      · exact ⟨_, List.mem_append_right _ (by rw [if_pos (by omega)]; exact List.mem_cons_self), sa_I_lw hI (by omega), sa_lw_len _ _ _⟩
    · exact ⟨_, List.mem_cons_self, hI, rfl⟩
  · exact ⟨_, List.mem_cons_self, hI, rfl⟩
def sr_flip (r : sa_R) : sa_R := fun G x y => r G y x
theorem sr_flip_ok {r : sa_R} {P : Int32 → Int32 → Prop} (h : sa_rok r P) : sa_rok (sr_flip r) (fun x y => P y x) := fun V G x y hI hp => h V G y x hI hp
theorem sr_nlt_ok : sa_rok (sr_flip sr_le) (fun x y => ¬ x < y) := fun V G x y hI hp => sr_le_ok V G y x hI (Int32.not_lt.mp hp)
theorem sr_nle_ok : sa_rok (sr_flip sr_lt) (fun x y => ¬ x ≤ y) := fun V G x y hI hp => sr_lt_ok V G y x hI (Int32.not_le.mp hp)
theorem sr_nle'_ok : sa_rok sr_lt (fun x y => ¬ y ≤ x) := fun V G x y hI hp => sr_lt_ok V G x y hI (Int32.not_le.mp hp)
theorem sr_nlt'_ok : sa_rok sr_le (fun x y => ¬ y < x) := fun V G x y hI hp => sr_le_ok V G x y hI (Int32.not_lt.mp hp)
def sa_br (r : sa_R) (S : sa_S) (x y : Nat × Int) (pc : Nat) (rest : List sa_v) : List sa_S := (r S.2.2.2.2.1 x y).map (fun G' => (pc, S.2.1, rest, S.2.2.2.1, G', S.2.2.2.2.2))
theorem sa_br_ok {p : Program} {l : Launch} {e : Env} {R : Room} {s : State} {m : MethodId} {args : Array Value} {below : List Frame} {meth : Method} {c : Code} {Q : State → Prop} {D : va_G} {dA : Nat → ClassId} {A : Nat → Prop} {nL : Nat} {cl : List vw_C} {n0 : Nat} {V0 : sa_V} {r : sa_R} {P : Int32 → Int32 → Prop} (hr : sa_rok r P) {lo : sa_L} {st : List sa_v} {cs : List sa_c} {G : sa_B} {kc ks pc0 pc : Nat} {x y : Nat × Int} {rest : List sa_v} {V : sa_V} {H : Heap} {locs : List Loc} {ls : Array Slot} (hG : sa_G D dA A nL cl n0 V0 s.heap V lo cs G H locs ls) (hp : P (sa_i V x) (sa_i V y))
    (k : ∀ S' ∈ sa_br r (pc0, lo, st, cs, G, kc, ks) x y pc rest, sa_W p l e R s m args below meth c Q D dA A nL cl n0 V0 S') : W p l e R s m args below meth c H locs kc ks Q (F0 m pc ls (rest.map (sa_val V))) := by
  obtain ⟨G', h1, h2⟩ := hr V G x y hG.1.1 hp
  exact k (pc, lo, rest, cs, G', kc, ks) (List.mem_map.mpr ⟨G', h1, rfl⟩) V H locs ls ⟨⟨h2.1, by rw [h2.2]; exact hG.1.2.1, hG.1.2.2⟩, hG.2⟩
def so_icmp (rt rf : sa_R) (tgt : Nat) : sa_op := fun S => match S.2.2.1 with
  | .inl y :: .inl x :: rest => some (sa_br rt S x y tgt rest ++ sa_br rf S x y (S.1 + 3) rest)
  | _ => none
def so_if (rt rf : sa_R) (tgt : Nat) : sa_op := fun S => match S.2.2.1 with
  | .inl x :: rest => some (sa_br rt S x (0, 0) tgt rest ++ sa_br rf S x (0, 0) (S.1 + 3) rest)
  | _ => none
theorem sn_icmp_eq {p : Program} {l : Launch} {e : Env} {R : Room} {s : State} {m : MethodId} {args : Array Value} {below : List Frame} {meth : Method} {c : Code} {Q : State → Prop} {D : va_G} {dA : Nat → ClassId} {A : Nat → Prop} {nL : Nat} {cl : List vw_C} {n0 : Nat} {V0 : sa_V} {Ts : List Cond} {cc : ByteArray} {own : String} (C0 : sa_C p s m args c D dA A nL cl Ts cc own) {pc : Nat} {off : Int} {tgt : Nat} (hd : decode cc pc = .ok (.if_icmp .eq off, 3)) (ht : (pc : Int) + off = (tgt : Int)) : sa_snd p l e R s m args below meth c Q D dA A nL cl n0 V0 pc (so_icmp sr_eq sr_ne tgt) := by
  obtain ⟨hx, hb, hts, hown, hml, hK, hA⟩ := C0
  rintro ⟨pc, lo, st, cs, G, kc, ks⟩ sts rfl h k V H locs ls hG
  unfold so_icmp at h
  dsimp only at h
  split at h
  · rename_i y x rest
    cases h
    exact lv_icmp_eq hx hb hd ht (fun hp => sa_br_ok sr_eq_ok hG hp (fun S' hS => k S' (List.mem_append_left _ hS))) (fun hp => sa_br_ok sr_ne_ok hG hp (fun S' hS => k S' (List.mem_append_right _ hS)))
  · cases h
theorem sn_if_eq {p : Program} {l : Launch} {e : Env} {R : Room} {s : State} {m : MethodId} {args : Array Value} {below : List Frame} {meth : Method} {c : Code} {Q : State → Prop} {D : va_G} {dA : Nat → ClassId} {A : Nat → Prop} {nL : Nat} {cl : List vw_C} {n0 : Nat} {V0 : sa_V} {Ts : List Cond} {cc : ByteArray} {own : String} (C0 : sa_C p s m args c D dA A nL cl Ts cc own) {pc : Nat} {off : Int} {tgt : Nat} (hd : decode cc pc = .ok (.ifCond .eq off, 3)) (ht : (pc : Int) + off = (tgt : Int)) : sa_snd p l e R s m args below meth c Q D dA A nL cl n0 V0 pc (so_if sr_eq sr_ne tgt) := by
  obtain ⟨hx, hb, hts, hown, hml, hK, hA⟩ := C0
  rintro ⟨pc, lo, st, cs, G, kc, ks⟩ sts rfl h k V H locs ls hG
  unfold so_if at h
  dsimp only at h
  split at h
  · rename_i x rest
    cases h
    have e0 : sa_i V (0, 0) = 0 := (sa_i_0 hG.1.1 0).trans rfl
    exact lv_if_eq hx hb hd ht (fun hp => sa_br_ok sr_eq_ok hG (by rw [e0]; exact hp) (fun S' hS => k S' (List.mem_append_left _ hS))) (fun hp => sa_br_ok sr_ne_ok hG (by rw [e0]; exact hp) (fun S' hS => k S' (List.mem_append_right _ hS)))
  · cases h
theorem sn_icmp_ne {p : Program} {l : Launch} {e : Env} {R : Room} {s : State} {m : MethodId} {args : Array Value} {below : List Frame} {meth : Method} {c : Code} {Q : State → Prop} {D : va_G} {dA : Nat → ClassId} {A : Nat → Prop} {nL : Nat} {cl : List vw_C} {n0 : Nat} {V0 : sa_V} {Ts : List Cond} {cc : ByteArray} {own : String} (C0 : sa_C p s m args c D dA A nL cl Ts cc own) {pc : Nat} {off : Int} {tgt : Nat} (hd : decode cc pc = .ok (.if_icmp .ne off, 3)) (ht : (pc : Int) + off = (tgt : Int)) : sa_snd p l e R s m args below meth c Q D dA A nL cl n0 V0 pc (so_icmp sr_ne sr_eq tgt) := by
  obtain ⟨hx, hb, hts, hown, hml, hK, hA⟩ := C0
  rintro ⟨pc, lo, st, cs, G, kc, ks⟩ sts rfl h k V H locs ls hG
  unfold so_icmp at h
  dsimp only at h
  split at h
  · rename_i y x rest
    cases h
    exact lv_icmp_ne hx hb hd ht (fun hp => sa_br_ok sr_ne_ok hG hp (fun S' hS => k S' (List.mem_append_left _ hS))) (fun hp => sa_br_ok sr_eq_ok hG hp (fun S' hS => k S' (List.mem_append_right _ hS)))
  · cases h
theorem sn_if_ne {p : Program} {l : Launch} {e : Env} {R : Room} {s : State} {m : MethodId} {args : Array Value} {below : List Frame} {meth : Method} {c : Code} {Q : State → Prop} {D : va_G} {dA : Nat → ClassId} {A : Nat → Prop} {nL : Nat} {cl : List vw_C} {n0 : Nat} {V0 : sa_V} {Ts : List Cond} {cc : ByteArray} {own : String} (C0 : sa_C p s m args c D dA A nL cl Ts cc own) {pc : Nat} {off : Int} {tgt : Nat} (hd : decode cc pc = .ok (.ifCond .ne off, 3)) (ht : (pc : Int) + off = (tgt : Int)) : sa_snd p l e R s m args below meth c Q D dA A nL cl n0 V0 pc (so_if sr_ne sr_eq tgt) := by
  obtain ⟨hx, hb, hts, hown, hml, hK, hA⟩ := C0
  rintro ⟨pc, lo, st, cs, G, kc, ks⟩ sts rfl h k V H locs ls hG
  unfold so_if at h
  dsimp only at h
  split at h
  · rename_i x rest
    cases h
    have e0 : sa_i V (0, 0) = 0 := (sa_i_0 hG.1.1 0).trans rfl
    exact lv_if_ne hx hb hd ht (fun hp => sa_br_ok sr_ne_ok hG (by rw [e0]; exact hp) (fun S' hS => k S' (List.mem_append_left _ hS))) (fun hp => sa_br_ok sr_eq_ok hG (by rw [e0]; exact hp) (fun S' hS => k S' (List.mem_append_right _ hS)))
  · cases h
theorem sn_icmp_lt {p : Program} {l : Launch} {e : Env} {R : Room} {s : State} {m : MethodId} {args : Array Value} {below : List Frame} {meth : Method} {c : Code} {Q : State → Prop} {D : va_G} {dA : Nat → ClassId} {A : Nat → Prop} {nL : Nat} {cl : List vw_C} {n0 : Nat} {V0 : sa_V} {Ts : List Cond} {cc : ByteArray} {own : String} (C0 : sa_C p s m args c D dA A nL cl Ts cc own) {pc : Nat} {off : Int} {tgt : Nat} (hd : decode cc pc = .ok (.if_icmp .lt off, 3)) (ht : (pc : Int) + off = (tgt : Int)) : sa_snd p l e R s m args below meth c Q D dA A nL cl n0 V0 pc (so_icmp sr_lt (sr_flip sr_le) tgt) := by
  obtain ⟨hx, hb, hts, hown, hml, hK, hA⟩ := C0
  rintro ⟨pc, lo, st, cs, G, kc, ks⟩ sts rfl h k V H locs ls hG
  unfold so_icmp at h
  dsimp only at h
  split at h
  · rename_i y x rest
    cases h
    exact lv_icmp_lt hx hb hd ht (fun hp => sa_br_ok sr_lt_ok hG hp (fun S' hS => k S' (List.mem_append_left _ hS))) (fun hp => sa_br_ok sr_nlt_ok hG hp (fun S' hS => k S' (List.mem_append_right _ hS)))
  · cases h
theorem sn_if_lt {p : Program} {l : Launch} {e : Env} {R : Room} {s : State} {m : MethodId} {args : Array Value} {below : List Frame} {meth : Method} {c : Code} {Q : State → Prop} {D : va_G} {dA : Nat → ClassId} {A : Nat → Prop} {nL : Nat} {cl : List vw_C} {n0 : Nat} {V0 : sa_V} {Ts : List Cond} {cc : ByteArray} {own : String} (C0 : sa_C p s m args c D dA A nL cl Ts cc own) {pc : Nat} {off : Int} {tgt : Nat} (hd : decode cc pc = .ok (.ifCond .lt off, 3)) (ht : (pc : Int) + off = (tgt : Int)) : sa_snd p l e R s m args below meth c Q D dA A nL cl n0 V0 pc (so_if sr_lt (sr_flip sr_le) tgt) := by
  obtain ⟨hx, hb, hts, hown, hml, hK, hA⟩ := C0
  rintro ⟨pc, lo, st, cs, G, kc, ks⟩ sts rfl h k V H locs ls hG
  unfold so_if at h
  dsimp only at h
  split at h
  · rename_i x rest
    cases h
    have e0 : sa_i V (0, 0) = 0 := (sa_i_0 hG.1.1 0).trans rfl
    exact lv_if_lt hx hb hd ht (fun hp => sa_br_ok sr_lt_ok hG (by rw [e0]; exact hp) (fun S' hS => k S' (List.mem_append_left _ hS))) (fun hp => sa_br_ok sr_nlt_ok hG (by rw [e0]; exact hp) (fun S' hS => k S' (List.mem_append_right _ hS)))
  · cases h
theorem sn_icmp_ge {p : Program} {l : Launch} {e : Env} {R : Room} {s : State} {m : MethodId} {args : Array Value} {below : List Frame} {meth : Method} {c : Code} {Q : State → Prop} {D : va_G} {dA : Nat → ClassId} {A : Nat → Prop} {nL : Nat} {cl : List vw_C} {n0 : Nat} {V0 : sa_V} {Ts : List Cond} {cc : ByteArray} {own : String} (C0 : sa_C p s m args c D dA A nL cl Ts cc own) {pc : Nat} {off : Int} {tgt : Nat} (hd : decode cc pc = .ok (.if_icmp .ge off, 3)) (ht : (pc : Int) + off = (tgt : Int)) : sa_snd p l e R s m args below meth c Q D dA A nL cl n0 V0 pc (so_icmp (sr_flip sr_le) sr_lt tgt) := by
  obtain ⟨hx, hb, hts, hown, hml, hK, hA⟩ := C0
  rintro ⟨pc, lo, st, cs, G, kc, ks⟩ sts rfl h k V H locs ls hG
  unfold so_icmp at h
  dsimp only at h
  split at h
  · rename_i y x rest
    cases h
    exact lv_icmp_ge hx hb hd ht (fun hp => sa_br_ok (sr_flip_ok sr_le_ok) hG hp (fun S' hS => k S' (List.mem_append_left _ hS))) (fun hp => sa_br_ok sr_nle'_ok hG hp (fun S' hS => k S' (List.mem_append_right _ hS)))
  · cases h
theorem sn_if_ge {p : Program} {l : Launch} {e : Env} {R : Room} {s : State} {m : MethodId} {args : Array Value} {below : List Frame} {meth : Method} {c : Code} {Q : State → Prop} {D : va_G} {dA : Nat → ClassId} {A : Nat → Prop} {nL : Nat} {cl : List vw_C} {n0 : Nat} {V0 : sa_V} {Ts : List Cond} {cc : ByteArray} {own : String} (C0 : sa_C p s m args c D dA A nL cl Ts cc own) {pc : Nat} {off : Int} {tgt : Nat} (hd : decode cc pc = .ok (.ifCond .ge off, 3)) (ht : (pc : Int) + off = (tgt : Int)) : sa_snd p l e R s m args below meth c Q D dA A nL cl n0 V0 pc (so_if (sr_flip sr_le) sr_lt tgt) := by
  obtain ⟨hx, hb, hts, hown, hml, hK, hA⟩ := C0
  rintro ⟨pc, lo, st, cs, G, kc, ks⟩ sts rfl h k V H locs ls hG
  unfold so_if at h
  dsimp only at h
  split at h
  · rename_i x rest
    cases h
    have e0 : sa_i V (0, 0) = 0 := (sa_i_0 hG.1.1 0).trans rfl
    exact lv_if_ge hx hb hd ht (fun hp => sa_br_ok (sr_flip_ok sr_le_ok) hG (by rw [e0]; exact hp) (fun S' hS => k S' (List.mem_append_left _ hS))) (fun hp => sa_br_ok sr_nle'_ok hG (by rw [e0]; exact hp) (fun S' hS => k S' (List.mem_append_right _ hS)))
  · cases h
theorem sn_icmp_gt {p : Program} {l : Launch} {e : Env} {R : Room} {s : State} {m : MethodId} {args : Array Value} {below : List Frame} {meth : Method} {c : Code} {Q : State → Prop} {D : va_G} {dA : Nat → ClassId} {A : Nat → Prop} {nL : Nat} {cl : List vw_C} {n0 : Nat} {V0 : sa_V} {Ts : List Cond} {cc : ByteArray} {own : String} (C0 : sa_C p s m args c D dA A nL cl Ts cc own) {pc : Nat} {off : Int} {tgt : Nat} (hd : decode cc pc = .ok (.if_icmp .gt off, 3)) (ht : (pc : Int) + off = (tgt : Int)) : sa_snd p l e R s m args below meth c Q D dA A nL cl n0 V0 pc (so_icmp (sr_flip sr_lt) sr_le tgt) := by
  obtain ⟨hx, hb, hts, hown, hml, hK, hA⟩ := C0
  rintro ⟨pc, lo, st, cs, G, kc, ks⟩ sts rfl h k V H locs ls hG
  unfold so_icmp at h
  dsimp only at h
  split at h
  · rename_i y x rest
    cases h
    exact lv_icmp_gt hx hb hd ht (fun hp => sa_br_ok (sr_flip_ok sr_lt_ok) hG hp (fun S' hS => k S' (List.mem_append_left _ hS))) (fun hp => sa_br_ok sr_nlt'_ok hG hp (fun S' hS => k S' (List.mem_append_right _ hS)))
  · cases h
theorem sn_if_gt {p : Program} {l : Launch} {e : Env} {R : Room} {s : State} {m : MethodId} {args : Array Value} {below : List Frame} {meth : Method} {c : Code} {Q : State → Prop} {D : va_G} {dA : Nat → ClassId} {A : Nat → Prop} {nL : Nat} {cl : List vw_C} {n0 : Nat} {V0 : sa_V} {Ts : List Cond} {cc : ByteArray} {own : String} (C0 : sa_C p s m args c D dA A nL cl Ts cc own) {pc : Nat} {off : Int} {tgt : Nat} (hd : decode cc pc = .ok (.ifCond .gt off, 3)) (ht : (pc : Int) + off = (tgt : Int)) : sa_snd p l e R s m args below meth c Q D dA A nL cl n0 V0 pc (so_if (sr_flip sr_lt) sr_le tgt) := by
  obtain ⟨hx, hb, hts, hown, hml, hK, hA⟩ := C0
  rintro ⟨pc, lo, st, cs, G, kc, ks⟩ sts rfl h k V H locs ls hG
  unfold so_if at h
  dsimp only at h
  split at h
  · rename_i x rest
    cases h
    have e0 : sa_i V (0, 0) = 0 := (sa_i_0 hG.1.1 0).trans rfl
    exact lv_if_gt hx hb hd ht (fun hp => sa_br_ok (sr_flip_ok sr_lt_ok) hG (by rw [e0]; exact hp) (fun S' hS => k S' (List.mem_append_left _ hS))) (fun hp => sa_br_ok sr_nlt'_ok hG (by rw [e0]; exact hp) (fun S' hS => k S' (List.mem_append_right _ hS)))
  · cases h
theorem sn_icmp_le {p : Program} {l : Launch} {e : Env} {R : Room} {s : State} {m : MethodId} {args : Array Value} {below : List Frame} {meth : Method} {c : Code} {Q : State → Prop} {D : va_G} {dA : Nat → ClassId} {A : Nat → Prop} {nL : Nat} {cl : List vw_C} {n0 : Nat} {V0 : sa_V} {Ts : List Cond} {cc : ByteArray} {own : String} (C0 : sa_C p s m args c D dA A nL cl Ts cc own) {pc : Nat} {off : Int} {tgt : Nat} (hd : decode cc pc = .ok (.if_icmp .le off, 3)) (ht : (pc : Int) + off = (tgt : Int)) : sa_snd p l e R s m args below meth c Q D dA A nL cl n0 V0 pc (so_icmp sr_le (sr_flip sr_lt) tgt) := by
  obtain ⟨hx, hb, hts, hown, hml, hK, hA⟩ := C0
  rintro ⟨pc, lo, st, cs, G, kc, ks⟩ sts rfl h k V H locs ls hG
  unfold so_icmp at h
  dsimp only at h
  split at h
  · rename_i y x rest
    cases h
    exact lv_icmp_le hx hb hd ht (fun hp => sa_br_ok sr_le_ok hG hp (fun S' hS => k S' (List.mem_append_left _ hS))) (fun hp => sa_br_ok sr_nle_ok hG hp (fun S' hS => k S' (List.mem_append_right _ hS)))
  · cases h
theorem sn_if_le {p : Program} {l : Launch} {e : Env} {R : Room} {s : State} {m : MethodId} {args : Array Value} {below : List Frame} {meth : Method} {c : Code} {Q : State → Prop} {D : va_G} {dA : Nat → ClassId} {A : Nat → Prop} {nL : Nat} {cl : List vw_C} {n0 : Nat} {V0 : sa_V} {Ts : List Cond} {cc : ByteArray} {own : String} (C0 : sa_C p s m args c D dA A nL cl Ts cc own) {pc : Nat} {off : Int} {tgt : Nat} (hd : decode cc pc = .ok (.ifCond .le off, 3)) (ht : (pc : Int) + off = (tgt : Int)) : sa_snd p l e R s m args below meth c Q D dA A nL cl n0 V0 pc (so_if sr_le (sr_flip sr_lt) tgt) := by
  obtain ⟨hx, hb, hts, hown, hml, hK, hA⟩ := C0
  rintro ⟨pc, lo, st, cs, G, kc, ks⟩ sts rfl h k V H locs ls hG
  unfold so_if at h
  dsimp only at h
  split at h
  · rename_i x rest
    cases h
    have e0 : sa_i V (0, 0) = 0 := (sa_i_0 hG.1.1 0).trans rfl
    exact lv_if_le hx hb hd ht (fun hp => sa_br_ok sr_le_ok hG (by rw [e0]; exact hp) (fun S' hS => k S' (List.mem_append_left _ hS))) (fun hp => sa_br_ok sr_nle_ok hG (by rw [e0]; exact hp) (fun S' hS => k S' (List.mem_append_right _ hS)))
  · cases h
def sa_tsw (S : sa_S) (x : Nat × Int) (rest : List sa_v) : Int → List Nat → List sa_S
  | _, [] => []
  | a, t :: l => sa_br sr_eq S x (0, a) t rest ++ sa_tsw S x rest (a + 1) l
theorem sa_tsw_in {S : sa_S} {x : Nat × Int} {rest : List sa_v} : ∀ (l : List Nat) (a : Int) (j t : Nat), l[j]? = some t → ∀ S' ∈ sa_br sr_eq S x (0, a + j) t rest, S' ∈ sa_tsw S x rest a l
  | [], _, _, _, h => by simp at h
  | t0 :: l, a, 0, t, h => by
    cases h
    intro S' hS
    rw [show a + ((0 : Nat) : Int) = a by omega] at hS
    exact List.mem_append_left _ hS
  | t0 :: l, a, j + 1, t, h => by
    intro S' hS
    rw [show a + ((j + 1 : Nat) : Int) = (a + 1) + (j : Int) by omega] at hS
    exact List.mem_append_right _ (sa_tsw_in l (a + 1) j t (by simpa using h) S' hS)
def so_tsw (a : Int) (tg : List Nat) (df : Nat) : sa_op := fun S => match S.2.2.1 with
  | .inl x :: rest => match sa_iv S.2.2.2.2.1 x with
    | some b => some (sa_tsw S x rest a tg ++ (if a ≤ b.1 ∧ b.2 < a + tg.length then [] else [(df, S.2.1, rest, S.2.2.2)]))
    | none => none
  | _ => none
theorem sn_tsw {p : Program} {l : Launch} {e : Env} {R : Room} {s : State} {m : MethodId} {args : Array Value} {below : List Frame} {meth : Method} {c : Code} {Q : State → Prop} {D : va_G} {dA : Nat → ClassId} {A : Nat → Prop} {nL : Nat} {cl : List vw_C} {n0 : Nat} {V0 : sa_V} {Ts : List Cond} {cc : ByteArray} {own : String} (C0 : sa_C p s m args c D dA A nL cl Ts cc own) {pc : Nat} {dflt a b : Int} {offs : Array Int} {len df : Nat} {tg : List Nat} (hd : decode cc pc = .ok (.tableswitch dflt a b offs, len)) (hb0 : b = a + tg.length - 1) (ha1 : -2147483648 ≤ a) (ha2 : a + tg.length ≤ 2147483647) (ho : offs.toList.map (fun o => (pc : Int) + o) = tg.map Int.ofNat) (ht : (pc : Int) + dflt = (df : Int)) : sa_snd p l e R s m args below meth c Q D dA A nL cl n0 V0 pc (so_tsw a tg df) := by
  obtain ⟨hx, hb, hts, hown, hml, hK, hA⟩ := C0
  rintro ⟨pc, lo, st, cs, G, kc, ks⟩ sts rfl h k V H locs ls hG
  unfold so_tsw at h
  dsimp only at h
  split at h
  · rename_i x rest
    split at h
    · rename_i bb hbb
      cases h
      obtain ⟨e1, l1, u1⟩ := sa_iv_ok hG.1.1 hbb
      by_cases hin : (sa_i V x).toInt < a ∨ b < (sa_i V x).toInt
      · refine lv_tableOut hx hb hd hin ht ?_
        refine k (df, lo, rest, cs, G, kc, ks) (List.mem_append_right _ ?_) V H locs ls hG
        rw [if_neg (by omega)]
        exact List.mem_cons_self
      · have hj : ((sa_i V x).toInt - a).toNat < offs.toList.length := by
          have hlen : offs.toList.length = tg.length := by rw [← List.length_map (f := fun o => (pc : Int) + o), ho, List.length_map]
          rw [hlen]
          omega
        obtain ⟨off, hoff⟩ : ∃ off, offs.toList[((sa_i V x).toInt - a).toNat]? = some off := ⟨_, List.getElem?_eq_getElem hj⟩
        have h5 : (offs.toList.map (fun o => (pc : Int) + o))[((sa_i V x).toInt - a).toNat]? = some ((pc : Int) + off) := by rw [List.getElem?_map, hoff]; rfl
        rw [ho, List.getElem?_map] at h5
        cases h6 : tg[((sa_i V x).toInt - a).toNat]? with
        | none => rw [h6] at h5; cases h5
        | some t =>
          rw [h6] at h5
          have h7 : (pc : Int) + off = (t : Int) := (Option.some.inj h5).symm
          refine lv_tableIn hx hb hd (fun q => hin (Or.inl q)) (fun q => hin (Or.inr q)) (by rw [← Array.getElem?_toList]; exact hoff) h7 ?_
          refine sa_br_ok (st := .inl x :: rest) (pc0 := pc) (y := (0, a + (((sa_i V x).toInt - a).toNat : Int))) sr_eq_ok hG ?_ (fun S' hS => k S' (List.mem_append_left _ (sa_tsw_in tg a _ t h6 S' hS)))
          show sa_i V x = sa_i V _
          rw [sa_i_0 hG.1.1, show a + (((sa_i V x).toInt - a).toNat : Int) = (sa_i V x).toInt by omega, Int32.ofInt_toInt]
    · cases h
  · cases h
def so_lsw (ps : List (Int × Int)) (dflt : Int) : sa_op := fun S => match S.2.2.1 with
  | .inl x :: rest => if x.1 = 0 ∧ -2147483648 ≤ x.2 ∧ x.2 ≤ 2147483647 ∧ 0 ≤ (S.1 : Int) + Op.lookupswitch.offset ps dflt x.2 then some [(((S.1 : Int) + Op.lookupswitch.offset ps dflt x.2).toNat, S.2.1, rest, S.2.2.2)] else none
  | _ => none
theorem sn_lsw {p : Program} {l : Launch} {e : Env} {R : Room} {s : State} {m : MethodId} {args : Array Value} {below : List Frame} {meth : Method} {c : Code} {Q : State → Prop} {D : va_G} {dA : Nat → ClassId} {A : Nat → Prop} {nL : Nat} {cl : List vw_C} {n0 : Nat} {V0 : sa_V} {Ts : List Cond} {cc : ByteArray} {own : String} (C0 : sa_C p s m args c D dA A nL cl Ts cc own) {pc : Nat} {dflt : Int} {ps : Array (Int × Int)} {len : Nat} (hd : decode cc pc = .ok (.lookupswitch dflt ps, len)) (hp : (ps.toList.zip (ps.toList.drop 1)).all (fun (a, next) => a.1 < next.1) = true) : sa_snd p l e R s m args below meth c Q D dA A nL cl n0 V0 pc (so_lsw ps.toList dflt) := by
  obtain ⟨hx, hb, hts, hown, hml, hK, hA⟩ := C0
  rintro ⟨pc, lo, st, cs, G, kc, ks⟩ sts rfl h k V H locs ls hG
  unfold so_lsw at h
  dsimp only at h
  split at h
  · rename_i x rest
    split at h
    · rename_i h1
      cases h
      refine lv_lookup (x := sa_i V x) hx hb hd hp rfl ?_ (k _ List.mem_cons_self V H locs ls hG)
      rw [sa_k0 hG.1.1 h1.1, sa_ofInt_toInt h1.2.1 h1.2.2.1]
      dsimp only
      omega
    · cases h
  · cases h
end SA2
end
section
section SA3
def sa_find (a : Nat) : List sa_c → Nat → Option (Nat × ((Nat × List sa_v) ⊕ (Nat × sa_a)))
  | [], _ => none
  | q :: l, i => if q.1 = a then some (i, q.2) else sa_find a l (i + 1)
theorem sa_find_at {a : Nat} {x : (Nat × List sa_v) ⊕ (Nat × sa_a)} : ∀ {cs : List sa_c} {i j : Nat}, sa_find a cs i = some (j, x) → ∃ d, j = i + d ∧ cs[d]? = some (a, x)
  | [], _, _, h => by cases h
  | q :: l, i, j, h => by
    unfold sa_find at h
    split at h
    · rename_i h1
      cases h
      exact ⟨0, rfl, by rw [← h1]; rfl⟩
    · obtain ⟨d, h1, h2⟩ := sa_find_at h
      exact ⟨d + 1, by omega, by simpa using h2⟩
theorem sa_find_0 {V : sa_V} {dA : Nat → ClassId} {a j : Nat} {x : (Nat × List sa_v) ⊕ (Nat × sa_a)} {cs : List sa_c} (h : sa_find a cs 0 = some (j, x)) : (cs.map (sa_e V dA))[j]? = some (sa_ad V a, sa_el V dA x) := by
  obtain ⟨d, h1, h2⟩ := sa_find_at h
  rw [Nat.zero_add] at h1
  subst h1
  rw [List.getElem?_map, h2]
  rfl
/-- what the rows need of a class -/
def sa_cls (cl : List vw_C) (Ts : List Cond) (ci : Nat) (C : String) (T : u_T) (N : Nat) (ty : Nat → FieldType) : Prop := cl[ci]? = some (C, T, N) ∧ (∀ w ∈ u_ws C T N, w ∈ Ts) ∧ (∀ k, k < N → parseFieldDescriptor (T k).2.2.1 = some (ty k)) ∧ ∀ a, a < N → ∀ b, b < N → a ≠ b → (T a).2.1 ≠ (T b).2.1
def so_get (ci f : Nat) : sa_op := fun S => match S.2.2.1 with
  | .inr (.inl (some a)) :: rest => match sa_find a S.2.2.2.1 0 with
    | some (_, .inl (cj, fs)) => if cj = ci then match fs[f]? with
      | some v => some [(S.1 + 3, S.2.1, v :: rest, S.2.2.2)]
      | none => none
      else none
    | _ => none
  | _ => none
theorem sn_get {p : Program} {l : Launch} {e : Env} {R : Room} {s : State} {m : MethodId} {args : Array Value} {below : List Frame} {meth : Method} {c : Code} {Q : State → Prop} {D : va_G} {dA : Nat → ClassId} {A : Nat → Prop} {nL : Nat} {cl : List vw_C} {n0 : Nat} {V0 : sa_V} {Ts : List Cond} {cc : ByteArray} {own : String} (C0 : sa_C p s m args c D dA A nL cl Ts cc own) {pc : Nat} {ci f N idx : Nat} {C : String} {T : u_T} {ty : Nat → FieldType} (hc : sa_cls cl Ts ci C T N ty) (hd : decode cc pc = .ok (.getfield idx, 3)) (hf : f < N) (hl : Cond.fieldLink own idx (T f).1 (T f).2.1 (T f).2.2.1 ∈ Ts) : sa_snd p l e R s m args below meth c Q D dA A nL cl n0 V0 pc (so_get ci f) := by
  obtain ⟨hx, hb, hts, hown, hml, hK, hA⟩ := C0
  rintro ⟨pc, lo, st, cs, G, kc, ks⟩ sts rfl h k V H locs ls hG
  unfold so_get at h
  dsimp only at h
  split at h
  · rename_i a rest
    split at h
    · rename_i j cj fs hj
      split at h
      · rename_i hcj
        subst hcj
        split at h
        · rename_i v hv
          cases h
          exact va_get (D := D) (v := sa_val V v) hx hb hts hc.2.1 hown hK hG.2.2.1 j (sa_find_0 hj) hc.1 f hf (hts _ hl) (fun _ h9 => h9) (by rw [List.getElem?_map, hv]; rfl) hd (k _ List.mem_cons_self V H locs ls hG)
        · cases h
      · cases h
    · cases h
  · cases h
/-- may this value stand in a field of this type -/
def sa_fit (G : sa_B) (t : FieldType) (v : sa_v) : Bool := match t, v with
  | .int, .inl _ => true
  | .boolean, .inl q => match sa_iv G q with
    | some b => decide (0 ≤ b.1 ∧ b.2 ≤ 1)
    | none => false
  | .long, .inr (.inr _) => true
  | .object _, .inr (.inl _) => true
  | .array _, .inr (.inl _) => true
  | _, _ => false
theorem sa_01 {x : Int32} (h0 : 0 ≤ x.toInt) (h1 : x.toInt ≤ 1) : x = 0 ∨ x = 1 := by
  have h : x.toInt = 0 ∨ x.toInt = 1 := by omega
  rcases h with h | h
  · exact Or.inl (Int32.toInt_inj.mp (by rw [h]; rfl))
  · exact Or.inr (Int32.toInt_inj.mp (by rw [h]; rfl))
theorem sa_fit_ok {V : sa_V} {G : sa_B} {t : FieldType} {v : sa_v} (hI : sa_I V G) (h : sa_fit G t v = true) : narrow t (sa_val V v) = sa_val V v ∧ fits t (sa_val V v) = true := by
  rcases v with q | (_ | r) | j <;> cases t <;> first | (cases h; done) | exact ⟨rfl, rfl⟩ | skip
  · unfold sa_fit at h
    dsimp only at h
    split at h
    · rename_i b hb
      obtain ⟨e1, l1, u1⟩ := sa_iv_ok hI hb
      have h := of_decide_eq_true h
      show narrow .boolean (.int (sa_i V q)) = .int (sa_i V q) ∧ fits .boolean (.int (sa_i V q)) = true
      rcases sa_01 (x := sa_i V q) (by omega) (by omega) with h2 | h2 <;> rw [h2] <;> exact ⟨rfl, rfl⟩
    · cases h
def so_put (ci f : Nat) (t : FieldType) : sa_op := fun S => match S.2.2.1 with
  | v :: .inr (.inl (some a)) :: rest => match sa_find a S.2.2.2.1 0 with
    | some (j, .inl (cj, fs)) => if cj = ci ∧ f < fs.length ∧ sa_fit S.2.2.2.2.1 t v = true then some [(S.1 + 3, S.2.1, rest, S.2.2.2.1.set j (a, .inl (cj, fs.set f v)), S.2.2.2.2)] else none
    | _ => none
  | _ => none
theorem sa_set_map {V : sa_V} {dA : Nat → ClassId} {cs : List sa_c} {j a ci f : Nat} {fs : List sa_v} {v : sa_v} : (cs.map (sa_e V dA)).set j (sa_ad V a, .inr (ci, (fs.map (sa_val V)).set f (sa_val V v))) = (cs.set j (a, .inl (ci, fs.set f v))).map (sa_e V dA) := by
  rw [List.map_set]
  congr 1
  show _ = (sa_ad V a, Sum.inr (ci, (fs.set f v).map (sa_val V)))
  rw [List.map_set]
theorem sn_put {p : Program} {l : Launch} {e : Env} {R : Room} {s : State} {m : MethodId} {args : Array Value} {below : List Frame} {meth : Method} {c : Code} {Q : State → Prop} {D : va_G} {dA : Nat → ClassId} {A : Nat → Prop} {nL : Nat} {cl : List vw_C} {n0 : Nat} {V0 : sa_V} {Ts : List Cond} {cc : ByteArray} {own : String} (C0 : sa_C p s m args c D dA A nL cl Ts cc own) {pc : Nat} {ci f N idx : Nat} {C : String} {T : u_T} {ty : Nat → FieldType} {t : FieldType} (hc : sa_cls cl Ts ci C T N ty) (hd : decode cc pc = .ok (.putfield idx, 3)) (hf : f < N) (hl : Cond.fieldLink own idx (T f).1 (T f).2.1 (T f).2.2.1 ∈ Ts) (hfin : (T f).2.2.2 = false) (hty : ty f = t) : sa_snd p l e R s m args below meth c Q D dA A nL cl n0 V0 pc (so_put ci f t) := by
  obtain ⟨hx, hb, hts, hown, hml, hK, hA⟩ := C0
  rintro ⟨pc, lo, st, cs, G, kc, ks⟩ sts rfl h k V H locs ls hG
  unfold so_put at h
  dsimp only at h
  split at h
  · rename_i v a rest
    split at h
    · rename_i j cj fs hj
      split at h
      · rename_i hh
        obtain ⟨h1, h2, h3⟩ := hh
        subst h1
        cases h
        have hfit := sa_fit_ok hG.1.1 h3
        refine va_put (D := D) (v := sa_val V v) (ty := t) hx hb hts hc.2.1 ty hc.2.2.1 hc.2.2.2 hown hK hG.2.2.1 hG.2.2.2.1 hG.2.2.2.2 j (sa_find_0 hj) hc.1 f hf (hts _ hl) (fun _ h9 => h9) hfin (by rw [← hty]; exact hc.2.2.1 f hf) hfit.1 hfit.2 (by rw [List.length_map]; exact h2) hd (fun H1 locs1 hP hD hS => ?_)
        rw [sa_set_map] at hP hD
        exact k _ List.mem_cons_self V H1 locs1 ls ⟨hG.1, hG.2.1, hP, hD, hS⟩
      · cases h
    · cases h
  · cases h
theorem sn_putF {p : Program} {l : Launch} {e : Env} {R : Room} {s : State} {m : MethodId} {args : Array Value} {below : List Frame} {meth : Method} {c : Code} {Q : State → Prop} {D : va_G} {dA : Nat → ClassId} {A : Nat → Prop} {nL : Nat} {cl : List vw_C} {n0 : Nat} {V0 : sa_V} {Ts : List Cond} {cc : ByteArray} {own : String} (C0 : sa_C p s m args c D dA A nL cl Ts cc own) {pc : Nat} {ci f N idx : Nat} {C : String} {T : u_T} {ty : Nat → FieldType} {t : FieldType} (hc : sa_cls cl Ts ci C T N ty) (hd : decode cc pc = .ok (.putfield idx, 3)) (hf : f < N) (hl : Cond.fieldLink own idx (T f).1 (T f).2.1 (T f).2.2.1 ∈ Ts) (hfin : (T f).2.2.2 = true) (hin2 : meth.name = "<init>") (hdecl : (T f).1 = own) (hty : ty f = t) : sa_snd p l e R s m args below meth c Q D dA A nL cl n0 V0 pc (so_put ci f t) := by
  obtain ⟨hx, hb, hts, hown, hml, hK, hA⟩ := C0
  rintro ⟨pc, lo, st, cs, G, kc, ks⟩ sts rfl h k V H locs ls hG
  unfold so_put at h
  dsimp only at h
  split at h
  · rename_i v a rest
    split at h
    · rename_i j cj fs hj
      split at h
      · rename_i hh
        obtain ⟨h1, h2, h3⟩ := hh
        subst h1
        cases h
        have hfit := sa_fit_ok hG.1.1 h3
        refine va_putF (D := D) (v := sa_val V v) (ty := t) hx hb hts hc.2.1 ty hc.2.2.1 hc.2.2.2 hown hK hG.2.2.1 hG.2.2.2.1 hG.2.2.2.2 j (sa_find_0 hj) hc.1 f hf (hts _ hl) (fun _ h9 => h9) hfin hin2 hdecl (by rw [← hty]; exact hc.2.2.1 f hf) hfit.1 hfit.2 (by rw [List.length_map]; exact h2) hd (fun H1 locs1 hP hD hS => ?_)
        rw [sa_set_map] at hP hD
        exact k _ List.mem_cons_self V H1 locs1 ls ⟨hG.1, hG.2.1, hP, hD, hS⟩
      · cases h
    · cases h
  · cases h
theorem sa_ix {V : sa_V} {G : sa_B} (hI : sa_I V G) {x : Nat × Int} {n : Nat} (h : x.1 = 0 ∧ 0 ≤ x.2 ∧ x.2 ≤ 2147483647) (hn : x.2.toNat < n) : (sa_i V x).toNatClampNeg = x.2.toNat ∧ vp_in (sa_i V x) n := by
  have e1 : (sa_i V x).toInt = x.2 := by rw [sa_k0 hI h.1]; exact sa_ofInt_toInt (by omega) h.2.2
  have e2 : (sa_i V x).toNatClampNeg = x.2.toNat := by rw [← e1]; rfl
  refine ⟨e2, fun q => ?_⟩
  rcases q with q | q
  · rw [Int32.lt_iff_toInt_lt, e1] at q
    have : x.2 < 0 := q
    omega
  · rw [e2] at q
    omega
def sa_ok_ix (x : Nat × Int) : Bool := decide (x.1 = 0 ∧ 0 ≤ x.2 ∧ x.2 ≤ 2147483647)
/-- a place in a row, where it is known -/
def sa_ixn (G : sa_B) (x : Nat × Int) : Option Nat := match sa_iv G x with
  | some b => if b.1 = b.2 ∧ 0 ≤ b.1 then some b.1.toNat else none
  | none => none
theorem sa_ixk {V : sa_V} {G : sa_B} (hI : sa_I V G) {x : Nat × Int} {j : Nat} (h : sa_ixn G x = some j) : (sa_i V x).toNatClampNeg = j ∧ ∀ n, j < n → vp_in (sa_i V x) n := by
  unfold sa_ixn at h
  split at h
  · rename_i b hb
    split at h
    · rename_i h1
      cases h
      obtain ⟨e1, l1, u1⟩ := sa_iv_ok hI hb
      have e0 : (sa_i V x).toInt = b.1 := by omega
      have e2 : (sa_i V x).toNatClampNeg = b.1.toNat := by rw [← e0]; rfl
      refine ⟨e2, fun n hn q => ?_⟩
      rcases q with q | q
      · rw [Int32.lt_iff_toInt_lt, e0] at q
        have : b.1 < 0 := q
        omega
      · rw [e2] at q
        omega
    · cases h
  · cases h
def so_iald (t : Nat) : sa_op := fun S => match S.2.2.1 with
  | .inl x :: .inr (.inl (some a)) :: rest => match sa_find a S.2.2.2.1 0 with
    | some (_, .inr (tt, .inl l)) => if tt = t then match sa_ixn S.2.2.2.2.1 x with
      | some j => match l[j]? with
        | some q => some [(S.1 + 1, S.2.1, .inl q :: rest, S.2.2.2)]
        | none => none
      | none => none
      else none
    | _ => none
  | _ => none
theorem sn_iald {p : Program} {l : Launch} {e : Env} {R : Room} {s : State} {m : MethodId} {args : Array Value} {below : List Frame} {meth : Method} {c : Code} {Q : State → Prop} {D : va_G} {dA : Nat → ClassId} {A : Nat → Prop} {nL : Nat} {cl : List vw_C} {n0 : Nat} {V0 : sa_V} {Ts : List Cond} {cc : ByteArray} {own : String} (C0 : sa_C p s m args c D dA A nL cl Ts cc own) {pc : Nat}  (hd : decode cc pc = .ok (.iaload, 1)) : sa_snd p l e R s m args below meth c Q D dA A nL cl n0 V0 pc (so_iald 0) := by
  obtain ⟨hx, hb, hts, hown, hml, hK, hA⟩ := C0
  rintro ⟨pc, lo, st, cs, G, kc, ks⟩ sts rfl h k V H locs ls hG
  unfold so_iald at h
  dsimp only at h
  split at h
  · rename_i x a rest
    split at h
    · rename_i j tt l9 hj
      split at h
      · rename_i h1
        subst h1
        split at h
        · rename_i jx hjx
          split at h
          · rename_i q hq
            cases h
            have hlt := (List.getElem?_eq_some_iff.mp hq).1
            obtain ⟨i1, i2⟩ := sa_ixk hG.1.1 hjx
            refine va_iald (D := D) hx hb hK hG.2.2.1 j 0 (sa_find_0 hj) rfl (i2 _ hlt) hd ?_
            rw [i1, show sa_f V l9 jx = sa_i V q by unfold sa_f; rw [hq]]
            exact k _ List.mem_cons_self V H locs ls hG
          · cases h
        · cases h
      · cases h
    · cases h
  · cases h
theorem sn_bald {p : Program} {l : Launch} {e : Env} {R : Room} {s : State} {m : MethodId} {args : Array Value} {below : List Frame} {meth : Method} {c : Code} {Q : State → Prop} {D : va_G} {dA : Nat → ClassId} {A : Nat → Prop} {nL : Nat} {cl : List vw_C} {n0 : Nat} {V0 : sa_V} {Ts : List Cond} {cc : ByteArray} {own : String} (C0 : sa_C p s m args c D dA A nL cl Ts cc own) {pc : Nat}  (hd : decode cc pc = .ok (.baload, 1)) : sa_snd p l e R s m args below meth c Q D dA A nL cl n0 V0 pc (so_iald 1) := by
  obtain ⟨hx, hb, hts, hown, hml, hK, hA⟩ := C0
  rintro ⟨pc, lo, st, cs, G, kc, ks⟩ sts rfl h k V H locs ls hG
  unfold so_iald at h
  dsimp only at h
  split at h
  · rename_i x a rest
    split at h
    · rename_i j tt l9 hj
      split at h
      · rename_i h1
        subst h1
        split at h
        · rename_i jx hjx
          split at h
          · rename_i q hq
            cases h
            have hlt := (List.getElem?_eq_some_iff.mp hq).1
            obtain ⟨i1, i2⟩ := sa_ixk hG.1.1 hjx
            refine va_bald (D := D) hx hb hK hG.2.2.1 j 1 (sa_find_0 hj) rfl (i2 _ hlt) hd ?_
            rw [i1, show sa_f V l9 jx = sa_i V q by unfold sa_f; rw [hq]]
            exact k _ List.mem_cons_self V H locs ls hG
          · cases h
        · cases h
      · cases h
    · cases h
  · cases h
theorem sn_zald {p : Program} {l : Launch} {e : Env} {R : Room} {s : State} {m : MethodId} {args : Array Value} {below : List Frame} {meth : Method} {c : Code} {Q : State → Prop} {D : va_G} {dA : Nat → ClassId} {A : Nat → Prop} {nL : Nat} {cl : List vw_C} {n0 : Nat} {V0 : sa_V} {Ts : List Cond} {cc : ByteArray} {own : String} (C0 : sa_C p s m args c D dA A nL cl Ts cc own) {pc : Nat}  (hd : decode cc pc = .ok (.baload, 1)) : sa_snd p l e R s m args below meth c Q D dA A nL cl n0 V0 pc (so_iald 3) := by
  obtain ⟨hx, hb, hts, hown, hml, hK, hA⟩ := C0
  rintro ⟨pc, lo, st, cs, G, kc, ks⟩ sts rfl h k V H locs ls hG
  unfold so_iald at h
  dsimp only at h
  split at h
  · rename_i x a rest
    split at h
    · rename_i j tt l9 hj
      split at h
      · rename_i h1
        subst h1
        split at h
        · rename_i jx hjx
          split at h
          · rename_i q hq
            cases h
            have hlt := (List.getElem?_eq_some_iff.mp hq).1
            obtain ⟨i1, i2⟩ := sa_ixk hG.1.1 hjx
            refine va_zald (D := D) hx hb hK hG.2.2.1 j 3 (sa_find_0 hj) rfl (i2 _ hlt) hd ?_
            rw [i1, show sa_f V l9 jx = sa_i V q by unfold sa_f; rw [hq]]
            exact k _ List.mem_cons_self V H locs ls hG
          · cases h
        · cases h
      · cases h
    · cases h
  · cases h
theorem sa_f_set {V : sa_V} {l : List (Nat × Int)} {j : Nat} {q : Nat × Int} (h : j < l.length) : upd (sa_f V l) j (sa_i V q) = sa_f V (l.set j q) := by
  funext i
  by_cases hi : i = j
  · subst hi
    rw [pk_us]
    unfold sa_f
    rw [List.getElem?_set_self h]
  · rw [pk_un hi]
    unfold sa_f
    rw [List.getElem?_set_ne (Ne.symm hi)]
theorem sa_set_arr {V : sa_V} {dA : Nat → ClassId} {cs : List sa_c} {i a t j : Nat} {l : List (Nat × Int)} {q : Nat × Int} (h : j < l.length) : (cs.map (sa_e V dA)).set i (sa_ad V a, .inl (dA t, l.length, .inl (upd (sa_f V l) j (sa_i V q)))) = (cs.set i (a, .inr (t, .inl (l.set j q)))).map (sa_e V dA) := by
  rw [List.map_set, sa_f_set h]
  congr 1
  show _ = (sa_ad V a, Sum.inl (dA t, (l.set j q).length, Sum.inl (sa_f V (l.set j q))))
  rw [List.length_set]
def so_iast (t : Nat) (bl bh : Int) : sa_op := fun S => match S.2.2.1 with
  | .inl v :: .inl x :: .inr (.inl (some a)) :: rest => match sa_find a S.2.2.2.1 0, sa_iv S.2.2.2.2.1 v, sa_ixn S.2.2.2.2.1 x with
    | some (i, .inr (tt, .inl l)), some b, some j => if tt = t ∧ j < l.length ∧ bl ≤ b.1 ∧ b.2 ≤ bh then some [(S.1 + 1, S.2.1, rest, S.2.2.2.1.set i (a, .inr (tt, .inl (l.set j v))), S.2.2.2.2)] else none
    | _, _, _ => none
  | _ => none
theorem sa_nar_b {x : Int32} (h0 : -128 ≤ x.toInt) (h1 : x.toInt ≤ 127) : vp_nar .byte x = x := by
  rw [vp_nar_byte]
  apply Int32.toInt_inj.mp
  rw [Int8.toInt_toInt32]
  show (x.toInt8).toInt = x.toInt
  rw [Int32.toInt_toInt8]
  exact Int.bmod_eq_of_le (by omega) (by omega)
theorem sa_nar_z {x : Int32} (h0 : 0 ≤ x.toInt) (h1 : x.toInt ≤ 1) : vp_nar .boolean x = x := by
  rcases sa_01 h0 h1 with h | h <;> rw [h] <;> rfl
theorem sn_iast {p : Program} {l : Launch} {e : Env} {R : Room} {s : State} {m : MethodId} {args : Array Value} {below : List Frame} {meth : Method} {c : Code} {Q : State → Prop} {D : va_G} {dA : Nat → ClassId} {A : Nat → Prop} {nL : Nat} {cl : List vw_C} {n0 : Nat} {V0 : sa_V} {Ts : List Cond} {cc : ByteArray} {own : String} (C0 : sa_C p s m args c D dA A nL cl Ts cc own) {pc : Nat}  (hd : decode cc pc = .ok (.iastore, 1)) : sa_snd p l e R s m args below meth c Q D dA A nL cl n0 V0 pc (so_iast 0 (-2147483648) 2147483647) := by
  obtain ⟨hx, hb, hts, hown, hml, hK, hA⟩ := C0
  rintro ⟨pc, lo, st, cs, G, kc, ks⟩ sts rfl h k V H locs ls hG
  unfold so_iast at h
  dsimp only at h
  split at h
  · rename_i v x a rest
    split at h
    · rename_i i tt l9 b jx hj hbv hjx
      split at h
      · rename_i hh
        obtain ⟨h1, h3, h4, h5⟩ := hh
        subst h1
        cases h
        obtain ⟨e1, l1, u1⟩ := sa_iv_ok hG.1.1 hbv
        obtain ⟨i1, i2⟩ := sa_ixk hG.1.1 hjx
        have i2 := i2 _ h3
        refine va_iast (D := D) (x := sa_i V v) hx hb hK hG.2.2.1 hG.2.2.2.1 hG.2.2.2.2 i 0 (sa_find_0 hj) rfl i2 hd (fun H1 locs1 hP hD hS => ?_)
        rw [i1, sa_set_arr h3] at hP hD
        exact k _ List.mem_cons_self V H1 locs1 ls ⟨hG.1, hG.2.1, hP, hD, hS⟩
      · cases h
    · cases h
  · cases h
theorem sn_bast {p : Program} {l : Launch} {e : Env} {R : Room} {s : State} {m : MethodId} {args : Array Value} {below : List Frame} {meth : Method} {c : Code} {Q : State → Prop} {D : va_G} {dA : Nat → ClassId} {A : Nat → Prop} {nL : Nat} {cl : List vw_C} {n0 : Nat} {V0 : sa_V} {Ts : List Cond} {cc : ByteArray} {own : String} (C0 : sa_C p s m args c D dA A nL cl Ts cc own) {pc : Nat}  (hd : decode cc pc = .ok (.bastore, 1)) : sa_snd p l e R s m args below meth c Q D dA A nL cl n0 V0 pc (so_iast 1 (-128) 127) := by
  obtain ⟨hx, hb, hts, hown, hml, hK, hA⟩ := C0
  rintro ⟨pc, lo, st, cs, G, kc, ks⟩ sts rfl h k V H locs ls hG
  unfold so_iast at h
  dsimp only at h
  split at h
  · rename_i v x a rest
    split at h
    · rename_i i tt l9 b jx hj hbv hjx
      split at h
      · rename_i hh
        obtain ⟨h1, h3, h4, h5⟩ := hh
        subst h1
        cases h
        obtain ⟨e1, l1, u1⟩ := sa_iv_ok hG.1.1 hbv
        obtain ⟨i1, i2⟩ := sa_ixk hG.1.1 hjx
        have i2 := i2 _ h3
        refine va_bast (D := D) (x := sa_i V v) hx hb hK hG.2.2.1 hG.2.2.2.1 hG.2.2.2.2 i 1 (sa_find_0 hj) rfl i2 hd (fun H1 locs1 hP hD hS => ?_)
        rw [i1, sa_nar_b (by omega) (by omega), sa_set_arr h3] at hP hD
        exact k _ List.mem_cons_self V H1 locs1 ls ⟨hG.1, hG.2.1, hP, hD, hS⟩
      · cases h
    · cases h
  · cases h
theorem sn_zast {p : Program} {l : Launch} {e : Env} {R : Room} {s : State} {m : MethodId} {args : Array Value} {below : List Frame} {meth : Method} {c : Code} {Q : State → Prop} {D : va_G} {dA : Nat → ClassId} {A : Nat → Prop} {nL : Nat} {cl : List vw_C} {n0 : Nat} {V0 : sa_V} {Ts : List Cond} {cc : ByteArray} {own : String} (C0 : sa_C p s m args c D dA A nL cl Ts cc own) {pc : Nat}  (hd : decode cc pc = .ok (.bastore, 1)) : sa_snd p l e R s m args below meth c Q D dA A nL cl n0 V0 pc (so_iast 3 0 1) := by
  obtain ⟨hx, hb, hts, hown, hml, hK, hA⟩ := C0
  rintro ⟨pc, lo, st, cs, G, kc, ks⟩ sts rfl h k V H locs ls hG
  unfold so_iast at h
  dsimp only at h
  split at h
  · rename_i v x a rest
    split at h
    · rename_i i tt l9 b jx hj hbv hjx
      split at h
      · rename_i hh
        obtain ⟨h1, h3, h4, h5⟩ := hh
        subst h1
        cases h
        obtain ⟨e1, l1, u1⟩ := sa_iv_ok hG.1.1 hbv
        obtain ⟨i1, i2⟩ := sa_ixk hG.1.1 hjx
        have i2 := i2 _ h3
        refine va_zast (D := D) (x := sa_i V v) hx hb hK hG.2.2.1 hG.2.2.2.1 hG.2.2.2.2 i 3 (sa_find_0 hj) rfl i2 hd (fun H1 locs1 hP hD hS => ?_)
        rw [i1, sa_nar_z (by omega) (by omega), sa_set_arr h3] at hP hD
        exact k _ List.mem_cons_self V H1 locs1 ls ⟨hG.1, hG.2.1, hP, hD, hS⟩
      · cases h
    · cases h
  · cases h
def sa_len : sa_a → Nat
  | .inl l => l.length
  | .inr (.inl q) => q.1
  | .inr (.inr l) => l.length
theorem sa_len_ok (V : sa_V) (a : sa_a) : (sa_arr V a).1 = sa_len a := by
  rcases a with l | q | l <;> rfl
def so_alen : sa_op := fun S => match S.2.2.1 with
  | .inr (.inl (some a)) :: rest => match sa_find a S.2.2.2.1 0 with
    | some (_, .inr (tt, x)) => if tt < 6 then some [(S.1 + 1, S.2.1, .inl (0, (sa_len x : Int)) :: rest, S.2.2.2)] else none
    | _ => none
  | _ => none
theorem sa_tys_at {dA : Nat → ClassId} {t : Nat} (h : t < 6) : ∃ ty, (sa_tys dA)[t]? = some (dA t, ty) := by
  rcases (show t = 0 ∨ t = 1 ∨ t = 2 ∨ t = 3 ∨ t = 4 ∨ t = 5 by omega) with rfl | rfl | rfl | rfl | rfl | rfl <;> exact ⟨_, rfl⟩
theorem sn_alen {p : Program} {l : Launch} {e : Env} {R : Room} {s : State} {m : MethodId} {args : Array Value} {below : List Frame} {meth : Method} {c : Code} {Q : State → Prop} {D : va_G} {dA : Nat → ClassId} {A : Nat → Prop} {nL : Nat} {cl : List vw_C} {n0 : Nat} {V0 : sa_V} {Ts : List Cond} {cc : ByteArray} {own : String} (C0 : sa_C p s m args c D dA A nL cl Ts cc own) {pc : Nat}  (hd : decode cc pc = .ok (.arraylength, 1)) : sa_snd p l e R s m args below meth c Q D dA A nL cl n0 V0 pc so_alen := by
  obtain ⟨hx, hb, hts, hown, hml, hK, hA⟩ := C0
  rintro ⟨pc, lo, st, cs, G, kc, ks⟩ sts rfl h k V H locs ls hG
  unfold so_alen at h
  dsimp only at h
  split at h
  · rename_i a rest
    split at h
    · rename_i j tt x hj
      split at h
      · rename_i h1
        cases h
        obtain ⟨ty, hty⟩ := sa_tys_at (dA := dA) h1
        refine va_alen (D := D) (v := Int32.ofInt (sa_len x : Int)) hx hb hK hG.2.2.1 j tt (sa_find_0 hj) hty ?_ hd (sa_k_int hG (k _ List.mem_cons_self))
        rw [sa_len_ok]
        exact (Int32.ofInt_eq_ofNat).symm
      · cases h
    · cases h
  · cases h
/-- a place that may be one of some: one after the other -/
def sa_spl (S : sa_S) (x : Nat × Int) : Nat → Int → List sa_S
  | 0, _ => []
  | n + 1, a => (sr_eq S.2.2.2.2.1 x (0, a)).map (fun G' => (S.1, S.2.1, S.2.2.1, S.2.2.2.1, G', S.2.2.2.2.2)) ++ sa_spl S x n (a + 1)
theorem sa_spl_in {S : sa_S} {x : Nat × Int} : ∀ (n : Nat) (a : Int) (j : Nat), j < n → ∀ G' ∈ sr_eq S.2.2.2.2.1 x (0, a + j), (S.1, S.2.1, S.2.2.1, S.2.2.2.1, G', S.2.2.2.2.2) ∈ sa_spl S x n a
  | 0, _, _, h, _, _ => absurd h (Nat.not_lt_zero _)
  | n + 1, a, 0, _, G', hG => by
    rw [show a + ((0 : Nat) : Int) = a by omega] at hG
    exact List.mem_append_left _ (List.mem_map.mpr ⟨G', hG, rfl⟩)
  | n + 1, a, j + 1, h, G', hG => by
    rw [show a + ((j + 1 : Nat) : Int) = (a + 1) + (j : Int) by omega] at hG
    exact List.mem_append_right _ (sa_spl_in n (a + 1) j (by omega) G' hG)
def so_spl (d : Nat) (op : sa_op) : sa_op := fun S => match S.2.2.1[d]? with
  | some (.inl x) => match sa_iv S.2.2.2.2.1 x with
    | some b => if b.1 = b.2 then op S else if b.2 - b.1 ≤ 64 then some (sa_spl S x (b.2 - b.1 + 1).toNat b.1) else none
    | none => op S
  | _ => op S
theorem sn_spl {p : Program} {l : Launch} {e : Env} {R : Room} {s : State} {m : MethodId} {args : Array Value} {below : List Frame} {meth : Method} {c : Code} {Q : State → Prop} {D : va_G} {dA : Nat → ClassId} {A : Nat → Prop} {nL : Nat} {cl : List vw_C} {n0 : Nat} {V0 : sa_V} {pc d : Nat} {op : sa_op} (ho : sa_snd p l e R s m args below meth c Q D dA A nL cl n0 V0 pc op) : sa_snd p l e R s m args below meth c Q D dA A nL cl n0 V0 pc (so_spl d op) := by
  intro S sts h0 h k
  unfold so_spl at h
  split at h
  · rename_i x hx
    split at h
    · rename_i b hb
      split at h
      · exact ho S sts h0 h k
      · split at h
        · cases h
          intro V H locs ls hG
          obtain ⟨e1, l1, u1⟩ := sa_iv_ok hG.1.1 hb
          obtain ⟨G', g1, g2, g3⟩ := sr_eq_ok V S.2.2.2.2.1 x (0, b.1 + (((sa_i V x).toInt - b.1).toNat : Int)) hG.1.1 (by
            show sa_i V x = sa_i V _
            rw [sa_i_0 hG.1.1, show b.1 + (((sa_i V x).toInt - b.1).toNat : Int) = (sa_i V x).toInt by omega, Int32.ofInt_toInt])
          exact k _ (sa_spl_in _ b.1 _ (by omega) G' g1) V H locs ls ⟨⟨g2, by show n0 ≤ G'.length; rw [g3]; exact hG.1.2.1, hG.1.2.2⟩, hG.2⟩
        · cases h
    · exact ho S sts h0 h k
  · exact ho S sts h0 h k
end SA3
end
section
section SA4
theorem sa_G_new {D : va_G} {dA : Nat → ClassId} {A : Nat → Prop} {nL : Nat} {cl : List vw_C} {n0 : Nat} {V0 : sa_V} {H0 : Heap} {V : sa_V} {lo : sa_L} {st : List sa_v} {cs : List sa_c} {G : sa_B} {H H1 : Heap} {locs locs1 : List Loc} {ls : Array Slot} {q : Nat} {x : (Nat × List sa_v) ⊕ (Nat × sa_a)} {el : va_E}
    (h : sa_G D dA A nL cl n0 V0 H0 V lo cs G H locs ls) (hw : sa_wf G.length lo st cs = true) (he : sa_el (sa_upd V G.length (0, 0, fun _ => 0, q)) dA x = el) (hP : va_P D cl (cs.map (sa_e V dA) ++ [(q, el)]) H1) (hD : va_D A (cs.map (sa_e V dA) ++ [(q, el)])) (hS : va_S A H0 H1 locs1) :
    sa_G D dA A nL cl n0 V0 H0 (sa_upd V G.length (0, 0, fun _ => 0, q)) lo (cs ++ [(G.length, x)]) (G ++ [(0, 0)]) H1 locs1 ls ∧ st.map (sa_val (sa_upd V G.length (0, 0, fun _ => 0, q))) = st.map (sa_val V) := by
  have hw2 := hw
  simp only [sa_wf, Bool.and_eq_true, decide_eq_true_eq] at hw
  obtain ⟨⟨⟨h0, h1⟩, h2⟩, h3⟩ := hw
  obtain ⟨g1, g2, g3, g4, g5⟩ := h
  have he2 : (cs ++ [(G.length, x)]).map (sa_e (sa_upd V G.length (0, 0, fun _ => 0, q)) dA) = cs.map (sa_e V dA) ++ [(q, el)] := by
    rw [List.map_append, sa_cs_upd h3]
    congr 1
    show [(sa_ad _ _, sa_el _ _ _)] = _
    rw [he]
    unfold sa_ad
    rw [sa_upd_eq]
  exact ⟨⟨sa_J_upd g1 h0 ⟨Int.le_refl _, Int.le_refl _⟩, by rw [sa_lv_upd h1]; exact g2, by rw [he2]; exact hP, by rw [he2]; exact hD, hS⟩, sa_st_upd h2⟩
theorem sa_k_ref {p : Program} {l : Launch} {e : Env} {R : Room} {s : State} {m : MethodId} {args : Array Value} {below : List Frame} {meth : Method} {c : Code} {Q : State → Prop} {D : va_G} {dA : Nat → ClassId} {A : Nat → Prop} {nL : Nat} {cl : List vw_C} {n0 : Nat} {V0 : sa_V} {V : sa_V} {H1 : Heap} {locs1 : List Loc} {ls : Array Slot} {pc : Nat} {lo : sa_L} {rest : List sa_v} {cs1 : List sa_c} {G : sa_B} {kc ks q : Nat} (hG : sa_G D dA A nL cl n0 V0 s.heap (sa_upd V G.length (0, 0, fun _ => 0, q)) lo cs1 (G ++ [(0, 0)]) H1 locs1 ls ∧ rest.map (sa_val (sa_upd V G.length (0, 0, fun _ => 0, q))) = rest.map (sa_val V)) (k : sa_W p l e R s m args below meth c Q D dA A nL cl n0 V0 (pc, lo, .inr (.inl (some G.length)) :: rest, cs1, G ++ [(0, 0)], kc, ks)) : W p l e R s m args below meth c H1 locs1 kc ks Q (F0 m pc ls (.ref q :: rest.map (sa_val V))) := by
  have h := k _ H1 locs1 ls hG.1
  have e1 : (List.map (sa_val (sa_upd V G.length (0, 0, fun _ => 0, q))) (.inr (.inl (some G.length)) :: rest)) = Value.ref q :: rest.map (sa_val V) := by
    rw [List.map_cons, hG.2]
    congr 1
    show Value.ref (sa_ad _ _) = _
    unfold sa_ad
    rw [sa_upd_eq]
  dsimp only at h
  rw [e1] at h
  exact h
theorem sa_cA {D : va_G} {cl : List vw_C} {dA : Nat → ClassId} {s : State} {cA : ClassId} {t : Nat} {ty : FieldType} (hK : va_K D cl (sa_tys dA) s) (hK' : va_K D cl (sa_tys dA ++ [(cA, ty)]) s) (ht : (sa_tys dA)[t]? = some (dA t, ty)) : cA = dA t := by
  have h1 := (hK.2 t _ ht).2
  have h2 := (hK'.2 6 (cA, ty) rfl).2
  cases ty with
  | object C =>
    obtain ⟨_, _, _, _, _, e1⟩ := h1
    obtain ⟨_, _, _, _, _, e2⟩ := h2
    exact Option.some.inj (e2.symm.trans e1)
  | _ => exact Option.some.inj (h2.symm.trans h1)
theorem sa_f_rep {V : sa_V} (h : (V 0).1 = 0) (n : Nat) : sa_f V (List.replicate n (0, 0)) = fun _ => 0 := by
  funext j
  unfold sa_f
  split
  · rename_i q hq
    have hm := List.mem_of_getElem? hq
    rw [(List.mem_replicate.mp hm).2]
    show Int32.ofInt ((V 0).1 + 0) = 0
    rw [h]
    rfl
  · rfl
def sa_n0 (t N n : Nat) : sa_a := if t = 2 then .inr (.inl (N, n)) else .inl (List.replicate N (0, 0))
def so_newa (t maxC maxS : Nat) : sa_op := fun S => match S.2.2.1 with
  | .inl x :: rest => if sa_ok_ix x = true ∧ x.2 ≤ 1000000 ∧ S.2.2.2.2.2.1 + 1 ≤ maxC ∧ S.2.2.2.2.2.2 + x.2.toNat ≤ maxS ∧ sa_wf S.2.2.2.2.1.length S.2.1 rest S.2.2.2.1 = true then some [(S.1 + 2, S.2.1, .inr (.inl (some S.2.2.2.2.1.length)) :: rest, S.2.2.2.1 ++ [(S.2.2.2.2.1.length, .inr (t, sa_n0 t x.2.toNat S.2.2.2.2.1.length))], S.2.2.2.2.1 ++ [(0, 0)], S.2.2.2.2.2.1 + 1, S.2.2.2.2.2.2 + x.2.toNat)] else none
  | _ => none
theorem sa_nn {V : sa_V} {G : sa_B} (hI : sa_I V G) {x : Nat × Int} (h : x.1 = 0 ∧ 0 ≤ x.2 ∧ x.2 ≤ 2147483647) : ¬ sa_i V x < 0 ∧ (sa_i V x).toNatClampNeg = x.2.toNat := by
  obtain ⟨h1, h2⟩ := sa_ix hI h (Nat.lt_succ_self _)
  exact ⟨fun q => h2 (Or.inl q), h1⟩
theorem sn_newaI {p : Program} {l : Launch} {e : Env} {R : Room} {s : State} {m : MethodId} {args : Array Value} {below : List Frame} {meth : Method} {c : Code} {Q : State → Prop} {D : va_G} {dA : Nat → ClassId} {A : Nat → Prop} {nL : Nat} {cl : List vw_C} {n0 : Nat} {V0 : sa_V} {Ts : List Cond} {cc : ByteArray} {own : String} (C0 : sa_C p s m args c D dA A nL cl Ts cc own) {pc : Nat} {maxC maxS : Nat} (hd : decode cc pc = .ok (.newarray .int, 2)) (hw0 : Cond.arrayClass .int ∈ Ts) (hC : maxC ≤ R.cells) (hS0 : maxS ≤ R.slots) : sa_snd p l e R s m args below meth c Q D dA A nL cl n0 V0 pc (so_newa 0 maxC maxS) := by
  obtain ⟨hx, hb, hts, hown, hml, hK, hA⟩ := C0
  rintro ⟨pc, lo, st, cs, G, kc, ks⟩ sts rfl h k V H locs ls hG
  unfold so_newa at h
  dsimp only at h
  split at h
  · rename_i x rest
    split at h
    · rename_i hh
      obtain ⟨h1, h2, h3, h4, h5⟩ := hh
      have h1 := of_decide_eq_true h1
      cases h
      obtain ⟨n1, n2⟩ := sa_nn hG.1.1 h1
      have hbytes : x.2.toNat * componentBytes .int ≤ 536870912 := Nat.le_trans (Nat.mul_le_mul (show x.2.toNat ≤ 1000000 by omega) (show componentBytes .int ≤ 8 by decide)) (by decide)
      refine va_newa (D := D) (atype := .int) (ty := .int) (a0 := (x.2.toNat, .inl (fun _ => 0))) hx hb (hts _ hw0) rfl hK hG.2.2.1 hG.2.2.2.1 hG.2.2.2.2 hA (fun _ => rfl) n1 n2 hbytes (Nat.le_trans h3 hC) (Nat.le_trans h4 hS0) hd (fun q cA H1 hK' hP hD hS => ?_)
      have hc := sa_cA (t := 0) hK hK' rfl
      subst hc
      refine sa_k_ref (sa_G_new (q := q) (x := .inr (0, sa_n0 0 x.2.toNat G.length)) hG h5 ?_ hP hD hS) (k _ List.mem_cons_self)
      show Sum.inl (dA 0, (List.replicate x.2.toNat ((0 : Nat), (0 : Int))).length, Sum.inl (sa_f _ _)) = _
      rw [sa_f_rep, List.length_replicate]
      rw [sa_upd_ne (by simp only [sa_wf, Bool.and_eq_true, decide_eq_true_eq] at h5; exact h5.1.1.1)]
      exact hG.1.1.2
    · cases h
  · cases h
theorem sn_newaB {p : Program} {l : Launch} {e : Env} {R : Room} {s : State} {m : MethodId} {args : Array Value} {below : List Frame} {meth : Method} {c : Code} {Q : State → Prop} {D : va_G} {dA : Nat → ClassId} {A : Nat → Prop} {nL : Nat} {cl : List vw_C} {n0 : Nat} {V0 : sa_V} {Ts : List Cond} {cc : ByteArray} {own : String} (C0 : sa_C p s m args c D dA A nL cl Ts cc own) {pc : Nat} {maxC maxS : Nat} (hd : decode cc pc = .ok (.newarray .byte, 2)) (hw0 : Cond.arrayClass .byte ∈ Ts) (hC : maxC ≤ R.cells) (hS0 : maxS ≤ R.slots) : sa_snd p l e R s m args below meth c Q D dA A nL cl n0 V0 pc (so_newa 1 maxC maxS) := by
  obtain ⟨hx, hb, hts, hown, hml, hK, hA⟩ := C0
  rintro ⟨pc, lo, st, cs, G, kc, ks⟩ sts rfl h k V H locs ls hG
  unfold so_newa at h
  dsimp only at h
  split at h
  · rename_i x rest
    split at h
    · rename_i hh
      obtain ⟨h1, h2, h3, h4, h5⟩ := hh
      have h1 := of_decide_eq_true h1
      cases h
      obtain ⟨n1, n2⟩ := sa_nn hG.1.1 h1
      have hbytes : x.2.toNat * componentBytes .byte ≤ 536870912 := Nat.le_trans (Nat.mul_le_mul (show x.2.toNat ≤ 1000000 by omega) (show componentBytes .byte ≤ 8 by decide)) (by decide)
      refine va_newa (D := D) (atype := .byte) (ty := .byte) (a0 := (x.2.toNat, .inl (fun _ => 0))) hx hb (hts _ hw0) rfl hK hG.2.2.1 hG.2.2.2.1 hG.2.2.2.2 hA (fun _ => rfl) n1 n2 hbytes (Nat.le_trans h3 hC) (Nat.le_trans h4 hS0) hd (fun q cA H1 hK' hP hD hS => ?_)
      have hc := sa_cA (t := 1) hK hK' rfl
      subst hc
      refine sa_k_ref (sa_G_new (q := q) (x := .inr (1, sa_n0 1 x.2.toNat G.length)) hG h5 ?_ hP hD hS) (k _ List.mem_cons_self)
      show Sum.inl (dA 1, (List.replicate x.2.toNat ((0 : Nat), (0 : Int))).length, Sum.inl (sa_f _ _)) = _
      rw [sa_f_rep, List.length_replicate]
      rw [sa_upd_ne (by simp only [sa_wf, Bool.and_eq_true, decide_eq_true_eq] at h5; exact h5.1.1.1)]
      exact hG.1.1.2
    · cases h
  · cases h
theorem sn_newaJ {p : Program} {l : Launch} {e : Env} {R : Room} {s : State} {m : MethodId} {args : Array Value} {below : List Frame} {meth : Method} {c : Code} {Q : State → Prop} {D : va_G} {dA : Nat → ClassId} {A : Nat → Prop} {nL : Nat} {cl : List vw_C} {n0 : Nat} {V0 : sa_V} {Ts : List Cond} {cc : ByteArray} {own : String} (C0 : sa_C p s m args c D dA A nL cl Ts cc own) {pc : Nat} {maxC maxS : Nat} (hd : decode cc pc = .ok (.newarray .long, 2)) (hw0 : Cond.arrayClass .long ∈ Ts) (hC : maxC ≤ R.cells) (hS0 : maxS ≤ R.slots) : sa_snd p l e R s m args below meth c Q D dA A nL cl n0 V0 pc (so_newa 2 maxC maxS) := by
  obtain ⟨hx, hb, hts, hown, hml, hK, hA⟩ := C0
  rintro ⟨pc, lo, st, cs, G, kc, ks⟩ sts rfl h k V H locs ls hG
  unfold so_newa at h
  dsimp only at h
  split at h
  · rename_i x rest
    split at h
    · rename_i hh
      obtain ⟨h1, h2, h3, h4, h5⟩ := hh
      have h1 := of_decide_eq_true h1
      cases h
      obtain ⟨n1, n2⟩ := sa_nn hG.1.1 h1
      have hbytes : x.2.toNat * componentBytes .long ≤ 536870912 := Nat.le_trans (Nat.mul_le_mul (show x.2.toNat ≤ 1000000 by omega) (show componentBytes .long ≤ 8 by decide)) (by decide)
      refine va_newa (D := D) (atype := .long) (ty := .long) (a0 := (x.2.toNat, .inr (.inl (fun _ => 0)))) hx hb (hts _ hw0) rfl hK hG.2.2.1 hG.2.2.2.1 hG.2.2.2.2 hA (fun _ => rfl) n1 n2 hbytes (Nat.le_trans h3 hC) (Nat.le_trans h4 hS0) hd (fun q cA H1 hK' hP hD hS => ?_)
      have hc := sa_cA (t := 2) hK hK' rfl
      subst hc
      refine sa_k_ref (sa_G_new (q := q) (x := .inr (2, sa_n0 2 x.2.toNat G.length)) hG h5 ?_ hP hD hS) (k _ List.mem_cons_self)
      show Sum.inl (dA 2, x.2.toNat, Sum.inr (Sum.inl (sa_upd V G.length _ G.length).2.2.1)) = _
      rw [sa_upd_eq]
      
      
    · cases h
  · cases h
theorem sn_newaZ {p : Program} {l : Launch} {e : Env} {R : Room} {s : State} {m : MethodId} {args : Array Value} {below : List Frame} {meth : Method} {c : Code} {Q : State → Prop} {D : va_G} {dA : Nat → ClassId} {A : Nat → Prop} {nL : Nat} {cl : List vw_C} {n0 : Nat} {V0 : sa_V} {Ts : List Cond} {cc : ByteArray} {own : String} (C0 : sa_C p s m args c D dA A nL cl Ts cc own) {pc : Nat} {maxC maxS : Nat} (hd : decode cc pc = .ok (.newarray .boolean, 2)) (hw0 : Cond.arrayClass .boolean ∈ Ts) (hC : maxC ≤ R.cells) (hS0 : maxS ≤ R.slots) : sa_snd p l e R s m args below meth c Q D dA A nL cl n0 V0 pc (so_newa 3 maxC maxS) := by
  obtain ⟨hx, hb, hts, hown, hml, hK, hA⟩ := C0
  rintro ⟨pc, lo, st, cs, G, kc, ks⟩ sts rfl h k V H locs ls hG
  unfold so_newa at h
  dsimp only at h
  split at h
  · rename_i x rest
    split at h
    · rename_i hh
      obtain ⟨h1, h2, h3, h4, h5⟩ := hh
      have h1 := of_decide_eq_true h1
      cases h
      obtain ⟨n1, n2⟩ := sa_nn hG.1.1 h1
      have hbytes : x.2.toNat * componentBytes .boolean ≤ 536870912 := Nat.le_trans (Nat.mul_le_mul (show x.2.toNat ≤ 1000000 by omega) (show componentBytes .boolean ≤ 8 by decide)) (by decide)
      refine va_newa (D := D) (atype := .boolean) (ty := .boolean) (a0 := (x.2.toNat, .inl (fun _ => 0))) hx hb (hts _ hw0) rfl hK hG.2.2.1 hG.2.2.2.1 hG.2.2.2.2 hA (fun _ => rfl) n1 n2 hbytes (Nat.le_trans h3 hC) (Nat.le_trans h4 hS0) hd (fun q cA H1 hK' hP hD hS => ?_)
      have hc := sa_cA (t := 3) hK hK' rfl
      subst hc
      refine sa_k_ref (sa_G_new (q := q) (x := .inr (3, sa_n0 3 x.2.toNat G.length)) hG h5 ?_ hP hD hS) (k _ List.mem_cons_self)
      show Sum.inl (dA 3, (List.replicate x.2.toNat ((0 : Nat), (0 : Int))).length, Sum.inl (sa_f _ _)) = _
      rw [sa_f_rep, List.length_replicate]
      rw [sa_upd_ne (by simp only [sa_wf, Bool.and_eq_true, decide_eq_true_eq] at h5; exact h5.1.1.1)]
      exact hG.1.1.2
    · cases h
  · cases h
def so_newq (t maxC maxS : Nat) : sa_op := fun S => match S.2.2.1 with
  | .inl x :: rest => if sa_ok_ix x = true ∧ x.2 ≤ 1000000 ∧ S.2.2.2.2.2.1 + 1 ≤ maxC ∧ S.2.2.2.2.2.2 + x.2.toNat ≤ maxS ∧ sa_wf S.2.2.2.2.1.length S.2.1 rest S.2.2.2.1 = true then some [(S.1 + 3, S.2.1, .inr (.inl (some S.2.2.2.2.1.length)) :: rest, S.2.2.2.1 ++ [(S.2.2.2.2.1.length, .inr (t, .inr (.inr (List.replicate x.2.toNat none))))], S.2.2.2.2.1 ++ [(0, 0)], S.2.2.2.2.2.1 + 1, S.2.2.2.2.2.2 + x.2.toNat)] else none
  | _ => none
theorem sa_g_rep {V : sa_V} (n : Nat) : sa_g V (List.replicate n none) = fun _ => none := by
  funext j
  unfold sa_g
  rw [List.getD_eq_getElem?_getD, List.getElem?_replicate]
  split <;> rfl
theorem sn_newq {p : Program} {l : Launch} {e : Env} {R : Room} {s : State} {m : MethodId} {args : Array Value} {below : List Frame} {meth : Method} {c : Code} {Q : State → Prop} {D : va_G} {dA : Nat → ClassId} {A : Nat → Prop} {nL : Nat} {cl : List vw_C} {n0 : Nat} {V0 : sa_V} {Ts : List Cond} {cc : ByteArray} {own : String} (C0 : sa_C p s m args c D dA A nL cl Ts cc own) {pc : Nat} {maxC maxS t idx : Nat} {C : String} (hd : decode cc pc = .ok (.anewarray idx, 3)) (hl : Cond.classLink own idx C ∈ Ts) (hov : va_AO C s) (ht : (sa_tys dA)[t]? = some (dA t, .object C)) (hC : maxC ≤ R.cells) (hS0 : maxS ≤ R.slots) : sa_snd p l e R s m args below meth c Q D dA A nL cl n0 V0 pc (so_newq t maxC maxS) := by
  obtain ⟨hx, hb, hts, hown, hml, hK, hA⟩ := C0
  rintro ⟨pc, lo, st, cs, G, kc, ks⟩ sts rfl h k V H locs ls hG
  unfold so_newq at h
  dsimp only at h
  split at h
  · rename_i x rest
    split at h
    · rename_i hh
      obtain ⟨h1, h2, h3, h4, h5⟩ := hh
      have h1 := of_decide_eq_true h1
      cases h
      obtain ⟨n1, n2⟩ := sa_nn hG.1.1 h1
      refine va_newq (D := D) hx hb hown (hts _ hl) hov hK hG.2.2.1 hG.2.2.2.1 hG.2.2.2.2 hA n1 n2 (by omega) (Nat.le_trans h3 hC) (Nat.le_trans h4 hS0) hd (fun q cA H1 hK' hP hD hS => ?_)
      have hc := sa_cA (t := t) hK hK' ht
      subst hc
      refine sa_k_ref (sa_G_new (q := q) (x := .inr (t, .inr (.inr (List.replicate x.2.toNat none)))) hG h5 ?_ hP hD hS) (k _ List.mem_cons_self)
      show Sum.inl (dA t, (List.replicate x.2.toNat (none : Option Nat)).length, Sum.inr (Sum.inr (Sum.inr (Sum.inr (sa_g _ _))))) = _
      rw [sa_g_rep, List.length_replicate]
    · cases h
  · cases h
def sa_d0 (n : Nat) : Nat → sa_v
  | 0 => .inl (0, 0)
  | 1 => .inr (.inl none)
  | _ => .inr (.inr n)
def sa_d1 : Nat → Value
  | 0 => .int 0
  | 1 => .null
  | _ => .long 0
theorem sa_d_ok {V : sa_V} {n q : Nat} (h : (V 0).1 = 0) (h0 : 0 < n) (j : Nat) : sa_val (sa_upd V n (0, 0, fun _ => 0, q)) (sa_d0 n j) = sa_d1 j := by
  match j with
  | 0 =>
    show Value.int (Int32.ofInt ((sa_upd V n _ 0).1 + 0)) = _
    rw [sa_upd_ne h0, h]
    rfl
  | 1 => rfl
  | j + 2 =>
    show Value.long (sa_upd V n _ n).2.1 = _
    rw [sa_upd_eq]
    rfl
def so_new (ci N : Nat) (ks0 : List Nat) (maxC maxS : Nat) : sa_op := fun S =>
  if S.2.2.2.2.2.1 + 1 ≤ maxC ∧ S.2.2.2.2.2.2 + N ≤ maxS ∧ sa_wf S.2.2.2.2.1.length S.2.1 S.2.2.1 S.2.2.2.1 = true then some [(S.1 + 3, S.2.1, .inr (.inl (some S.2.2.2.2.1.length)) :: S.2.2.1, S.2.2.2.1 ++ [(S.2.2.2.2.1.length, .inl (ci, ks0.map (sa_d0 S.2.2.2.2.1.length)))], S.2.2.2.2.1 ++ [(0, 0)], S.2.2.2.2.2.1 + 1, S.2.2.2.2.2.2 + N)] else none
theorem sn_new {p : Program} {l : Launch} {e : Env} {R : Room} {s : State} {m : MethodId} {args : Array Value} {below : List Frame} {meth : Method} {c : Code} {Q : State → Prop} {D : va_G} {dA : Nat → ClassId} {A : Nat → Prop} {nL : Nat} {cl : List vw_C} {n0 : Nat} {V0 : sa_V} {Ts : List Cond} {cc : ByteArray} {own : String} (C0 : sa_C p s m args c D dA A nL cl Ts cc own) {pc : Nat} {maxC maxS ci N idx : Nat} {C : String} {T : u_T} {ty : Nat → FieldType} {ks0 : List Nat} (hc : sa_cls cl Ts ci C T N ty) (hd : decode cc pc = .ok (.new idx, 3)) (hl : Cond.classLink own idx C ∈ Ts) (hi : Cond.instantiable C N ∈ Ts) (hin : Cond.initialized C ∈ Ts) (hk0 : ∀ j, j < N → defaultValue (ty j) = vp_V (ks0.map sa_d1) j) (hC : maxC ≤ R.cells) (hS0 : maxS ≤ R.slots) : sa_snd p l e R s m args below meth c Q D dA A nL cl n0 V0 pc (so_new ci N ks0 maxC maxS) := by
  obtain ⟨hx, hb, hts, hown, hml, hK, hA⟩ := C0
  rintro ⟨pc, lo, st, cs, G, kc, ks⟩ sts rfl h k V H locs ls hG
  unfold so_new at h
  dsimp only at h
  split at h
  · rename_i hh
    obtain ⟨h3, h4, h5⟩ := hh
    cases h
    refine va_new (D := D) (fs := ks0.map sa_d1) hx hb hts hc.2.1 ty hc.2.2.1 hown (hts _ hl) (hts _ hi) (hts _ hin) hK hG.2.2.1 hG.2.2.2.1 hG.2.2.2.2 hA hc.1 hk0 (Nat.le_trans h3 hC) (Nat.le_trans h4 hS0) hd (fun q H1 hP hD hS => ?_)
    refine sa_k_ref (sa_G_new (q := q) (x := .inl (ci, ks0.map (sa_d0 G.length))) hG h5 ?_ hP hD hS) (k _ List.mem_cons_self)
    show Sum.inr (ci, (ks0.map (sa_d0 G.length)).map (sa_val _)) = _
    rw [List.map_map]
    congr 2
    apply List.map_congr_left
    intro j _
    exact sa_d_ok hG.1.1.2 (by simp only [sa_wf, Bool.and_eq_true, decide_eq_true_eq] at h5; exact h5.1.1.1) j
  · cases h
/-! rows of references -/
def so_aald (t : Nat) : sa_op := fun S => match S.2.2.1 with
  | .inl x :: .inr (.inl (some a)) :: rest => match sa_find a S.2.2.2.1 0 with
    | some (_, .inr (tt, .inr (.inr l))) => if tt = t then match sa_ixn S.2.2.2.2.1 x with
      | some j => match l[j]? with
        | some (some q) => some [(S.1 + 1, S.2.1, .inr (.inl (some q)) :: rest, S.2.2.2)]
        | _ => none
      | none => none
      else none
    | _ => none
  | _ => none
theorem sn_aald {p : Program} {l : Launch} {e : Env} {R : Room} {s : State} {m : MethodId} {args : Array Value} {below : List Frame} {meth : Method} {c : Code} {Q : State → Prop} {D : va_G} {dA : Nat → ClassId} {A : Nat → Prop} {nL : Nat} {cl : List vw_C} {n0 : Nat} {V0 : sa_V} {Ts : List Cond} {cc : ByteArray} {own : String} (C0 : sa_C p s m args c D dA A nL cl Ts cc own) {pc : Nat} {t : Nat} {C : String} (hd : decode cc pc = .ok (.aaload, 1)) (ht : (sa_tys dA)[t]? = some (dA t, .object C)) : sa_snd p l e R s m args below meth c Q D dA A nL cl n0 V0 pc (so_aald t) := by
  obtain ⟨hx, hb, hts, hown, hml, hK, hA⟩ := C0
  rintro ⟨pc, lo, st, cs, G, kc, ks⟩ sts rfl h k V H locs ls hG
  unfold so_aald at h
  dsimp only at h
  split at h
  · rename_i x a rest
    split at h
    · rename_i j tt l9 hj
      split at h
      · rename_i h1
        subst h1
        split at h
        · rename_i jx hjx
          split at h
          · rename_i q hq
            cases h
            have hlt := (List.getElem?_eq_some_iff.mp hq).1
            obtain ⟨i1, i2⟩ := sa_ixk hG.1.1 hjx
            refine va_aldq (D := D) hx hb hK hG.2.2.1 j _ (sa_find_0 hj) ht (i2 _ hlt) hd ?_
            rw [i1, show sa_g V l9 jx = some (sa_ad V q) by unfold sa_g; rw [List.getD_eq_getElem?_getD, hq]; rfl]
            exact k _ List.mem_cons_self V H locs ls hG
          · cases h
        · cases h
      · cases h
    · cases h
  · cases h
theorem sa_g_set {V : sa_V} {l : List (Option Nat)} {j q : Nat} (h : j < l.length) : va_up (sa_g V l) j (some (sa_ad V q)) = sa_g V (l.set j (some q)) := by
  funext i
  unfold va_up sa_g
  rw [List.getD_eq_getElem?_getD, List.getD_eq_getElem?_getD]
  by_cases hi : i = j
  · subst hi
    rw [if_pos rfl, List.getElem?_set_self h]
    rfl
  · rw [if_neg hi, List.getElem?_set_ne (Ne.symm hi)]
def so_aast (t ci : Nat) : sa_op := fun S => match S.2.2.1 with
  | .inr (.inl (some q)) :: .inl x :: .inr (.inl (some a)) :: rest => match sa_find a S.2.2.2.1 0, sa_find q S.2.2.2.1 0 with
    | some (i, .inr (tt, .inr (.inr l))), some (_, .inl (cj, _)) => if tt = t ∧ cj = ci ∧ sa_ok_ix x = true ∧ x.2.toNat < l.length then some [(S.1 + 1, S.2.1, rest, S.2.2.2.1.set i (a, .inr (tt, .inr (.inr (l.set x.2.toNat (some q))))), S.2.2.2.2)] else none
    | _, _ => none
  | _ => none
theorem sn_aast {p : Program} {l : Launch} {e : Env} {R : Room} {s : State} {m : MethodId} {args : Array Value} {below : List Frame} {meth : Method} {c : Code} {Q : State → Prop} {D : va_G} {dA : Nat → ClassId} {A : Nat → Prop} {nL : Nat} {cl : List vw_C} {n0 : Nat} {V0 : sa_V} {Ts : List Cond} {cc : ByteArray} {own : String} (C0 : sa_C p s m args c D dA A nL cl Ts cc own) {pc : Nat} {t ci N : Nat} {C : String} {T : u_T} {ty : Nat → FieldType} (hc : sa_cls cl Ts ci C T N ty) (hd : decode cc pc = .ok (.aastore, 1)) (ht : (sa_tys dA)[t]? = some (dA t, .object C)) : sa_snd p l e R s m args below meth c Q D dA A nL cl n0 V0 pc (so_aast t ci) := by
  obtain ⟨hx, hb, hts, hown, hml, hK, hA⟩ := C0
  rintro ⟨pc, lo, st, cs, G, kc, ks⟩ sts rfl h k V H locs ls hG
  unfold so_aast at h
  dsimp only at h
  split at h
  · rename_i q x a rest
    split at h
    · rename_i i tt l9 j9 cj fs hj hq
      split at h
      · rename_i hh
        obtain ⟨h1, h1', h2, h3⟩ := hh
        subst h1
        subst h1'
        have h2 := of_decide_eq_true h2
        cases h
        obtain ⟨i1, i2⟩ := sa_ix hG.1.1 h2 h3
        refine va_astq (D := D) (r := (C, T, N)) hx hb hK hG.2.2.1 hG.2.2.2.1 hG.2.2.2.2 i _ j9 cj (sa_find_0 hj) ht (sa_find_0 hq) hc.1 i2 hd (fun H1 locs1 hP hD hS => ?_)
        have e9 : (cs.map (sa_e V dA)).set i (sa_ad V a, .inl (dA tt, l9.length, .inr (.inr (.inr (.inr (va_up (sa_g V l9) x.2.toNat (some (sa_ad V q)))))))) = (cs.set i (a, .inr (tt, .inr (.inr (l9.set x.2.toNat (some q)))))).map (sa_e V dA) := by
          rw [List.map_set, sa_g_set h3]
          congr 1
          show _ = (sa_ad V a, Sum.inl (dA tt, (l9.set x.2.toNat (some q)).length, Sum.inr (Sum.inr (Sum.inr (Sum.inr (sa_g V (l9.set x.2.toNat (some q))))))))
          rw [List.length_set]
        rw [i1, e9] at hP hD
        exact k _ List.mem_cons_self V H1 locs1 ls ⟨hG.1, hG.2.1, hP, hD, hS⟩
      · cases h
    · cases h
  · cases h
end SA4
end
section
section SA5
def sa_ixin (G : sa_B) (x : Nat × Int) (N : Nat) : Bool := match sa_ixn G x with
  | some j => decide (j < N)
  | none => false
def so_i2b : sa_op := fun S => match S.2.2.1 with
  | .inl x :: rest => sa_push (S.1 + 1) S.2.1 rest S.2.2.2.1 S.2.2.2.2.1 S.2.2.2.2.2.1 S.2.2.2.2.2.2 (if x.1 = 0 then .inl (0, (Int32.ofInt x.2).toInt8.toInt32.toInt) else .inr (-128, 127))
  | _ => none
theorem sn_i2b {p : Program} {l : Launch} {e : Env} {R : Room} {s : State} {m : MethodId} {args : Array Value} {below : List Frame} {meth : Method} {c : Code} {Q : State → Prop} {D : va_G} {dA : Nat → ClassId} {A : Nat → Prop} {nL : Nat} {cl : List vw_C} {n0 : Nat} {V0 : sa_V} {Ts : List Cond} {cc : ByteArray} {own : String} (C0 : sa_C p s m args c D dA A nL cl Ts cc own) {pc : Nat}  (hd : decode cc pc = .ok (.i2b, 1)) : sa_snd p l e R s m args below meth c Q D dA A nL cl n0 V0 pc so_i2b := by
  obtain ⟨hx, hb, hts, hown, hml, hK, hA⟩ := C0
  rintro ⟨pc, lo, st, cs, G, kc, ks⟩ sts rfl h k V H locs ls hG
  unfold so_i2b at h
  dsimp only at h
  split at h
  · rename_i x rest
    refine lv_i2b (v := (sa_i V x).toInt8.toInt32) hx hb hd rfl (sa_push_ok hG ?_ h k)
    split
    · rename_i h1
      rw [sa_k0 hG.1.1 h1]
      exact sa_is_c hG.1.1 _
    · refine ⟨?_, ?_⟩
      · show -128 ≤ (sa_i V x).toInt8.toInt32.toInt
        rw [Int8.toInt_toInt32]
        exact Int8.le_toInt _
      · show (sa_i V x).toInt8.toInt32.toInt ≤ 127
        rw [Int8.toInt_toInt32]
        have := Int8.toInt_lt (sa_i V x).toInt8
        omega
  · cases h
theorem sa_pushl_ok {p : Program} {l : Launch} {e : Env} {R : Room} {s : State} {m : MethodId} {args : Array Value} {below : List Frame} {meth : Method} {c : Code} {Q : State → Prop} {D : va_G} {dA : Nat → ClassId} {A : Nat → Prop} {nL : Nat} {cl : List vw_C} {n0 : Nat} {V0 : sa_V} {V : sa_V} {H : Heap} {locs : List Loc} {ls : Array Slot} {pc : Nat} {lo : sa_L} {rest : List sa_v} {cs : List sa_c} {G : sa_B} {kc ks : Nat} {x : Int64} (hG : sa_G D dA A nL cl n0 V0 s.heap V lo cs G H locs ls) (hw : sa_wf G.length lo rest cs = true) (k : sa_W p l e R s m args below meth c Q D dA A nL cl n0 V0 (pc, lo, .inr (.inr G.length) :: rest, cs, G ++ [(0, 0)], kc, ks)) : W p l e R s m args below meth c H locs kc ks Q (F0 m pc ls (.long x :: rest.map (sa_val V))) := by
  obtain ⟨g1, g2⟩ := sa_G_upd (x := (0, x, fun _ => 0, 0)) (b := (0, 0)) hG hw ⟨Int.le_refl _, Int.le_refl _⟩
  have h := k _ H locs ls g1
  have e1 : (List.map (sa_val (sa_upd V G.length (0, x, fun _ => 0, 0))) (.inr (.inr G.length) :: rest)) = Value.long x :: rest.map (sa_val V) := by
    rw [List.map_cons, g2]
    congr 1
    show Value.long (sa_upd V G.length _ G.length).2.1 = _
    rw [sa_upd_eq]
  dsimp only at h
  rw [e1] at h
  exact h
def so_lald : sa_op := fun S => match S.2.2.1 with
  | .inl x :: .inr (.inl (some a)) :: rest => match sa_find a S.2.2.2.1 0 with
    | some (_, .inr (tt, .inr (.inl q))) => if tt = 2 ∧ sa_ixin S.2.2.2.2.1 x q.1 = true ∧ sa_wf S.2.2.2.2.1.length S.2.1 rest S.2.2.2.1 = true then some [(S.1 + 1, S.2.1, .inr (.inr S.2.2.2.2.1.length) :: rest, S.2.2.2.1, S.2.2.2.2.1 ++ [(0, 0)], S.2.2.2.2.2)] else none
    | _ => none
  | _ => none
theorem sn_lald {p : Program} {l : Launch} {e : Env} {R : Room} {s : State} {m : MethodId} {args : Array Value} {below : List Frame} {meth : Method} {c : Code} {Q : State → Prop} {D : va_G} {dA : Nat → ClassId} {A : Nat → Prop} {nL : Nat} {cl : List vw_C} {n0 : Nat} {V0 : sa_V} {Ts : List Cond} {cc : ByteArray} {own : String} (C0 : sa_C p s m args c D dA A nL cl Ts cc own) {pc : Nat}  (hd : decode cc pc = .ok (.laload, 1)) : sa_snd p l e R s m args below meth c Q D dA A nL cl n0 V0 pc so_lald := by
  obtain ⟨hx, hb, hts, hown, hml, hK, hA⟩ := C0
  rintro ⟨pc, lo, st, cs, G, kc, ks⟩ sts rfl h k V H locs ls hG
  unfold so_lald at h
  dsimp only at h
  split at h
  · rename_i x a rest
    split at h
    · rename_i j tt q hj
      split at h
      · rename_i hh
        obtain ⟨h1, h2, h4⟩ := hh
        subst h1
        cases h
        unfold sa_ixin at h2
        split at h2
        rotate_left
        · cases h2
        rename_i jx hjx
        obtain ⟨i1, i2⟩ := sa_ixk hG.1.1 hjx
        have i2 := i2 _ (of_decide_eq_true h2)
        exact va_lald (D := D) hx hb hK hG.2.2.1 j 2 (sa_find_0 hj) rfl i2 hd (sa_pushl_ok hG h4 (k _ List.mem_cons_self))
      · cases h
    · cases h
  · cases h
/-- a row of longs holds something new -/
theorem sa_G_lrow {D : va_G} {dA : Nat → ClassId} {A : Nat → Prop} {nL : Nat} {cl : List vw_C} {n0 : Nat} {V0 : sa_V} {H0 : Heap} {V : sa_V} {lo : sa_L} {st : List sa_v} {cs : List sa_c} {G : sa_B} {H H1 : Heap} {locs locs1 : List Loc} {ls : Array Slot} {a i N b : Nat} {f : Nat → Int64}
    (h : sa_G D dA A nL cl n0 V0 H0 V lo cs G H locs ls) (hw : sa_wf G.length lo st cs = true) (hj : sa_find a cs 0 = some (i, .inr (2, .inr (.inl (N, b))))) (hP : va_P D cl ((cs.map (sa_e V dA)).set i (sa_ad V a, .inl (dA 2, N, .inr (.inl f)))) H1) (hD : va_D A ((cs.map (sa_e V dA)).set i (sa_ad V a, .inl (dA 2, N, .inr (.inl f))))) (hS : va_S A H0 H1 locs1) :
    sa_G D dA A nL cl n0 V0 H0 (sa_upd V G.length (0, 0, f, 0)) lo (cs.set i (a, .inr (2, .inr (.inl (N, G.length))))) (G ++ [(0, 0)]) H1 locs1 ls ∧ st.map (sa_val (sa_upd V G.length (0, 0, f, 0))) = st.map (sa_val V) := by
  have hw2 := hw
  simp only [sa_wf, Bool.and_eq_true, decide_eq_true_eq] at hw
  obtain ⟨⟨⟨h0, h1⟩, h2⟩, h3⟩ := hw
  obtain ⟨g1, g2, g3, g4, g5⟩ := h
  obtain ⟨d, hd1, hd2⟩ := sa_find_at hj
  have ha : a < G.length := by
    have := List.all_eq_true.mp h3 _ (List.mem_of_getElem? hd2)
    simp only [sa_wfc, Bool.and_eq_true, decide_eq_true_eq] at this
    exact this.1
  have he2 : (cs.set i (a, .inr (2, .inr (.inl (N, G.length))))).map (sa_e (sa_upd V G.length (0, 0, f, 0)) dA) = (cs.map (sa_e V dA)).set i (sa_ad V a, .inl (dA 2, N, .inr (.inl f))) := by
    rw [List.map_set, sa_cs_upd h3]
    congr 1
    show (sa_ad _ a, Sum.inl (dA 2, N, Sum.inr (Sum.inl (sa_upd V G.length (0, 0, f, 0) G.length).2.2.1))) = _
    unfold sa_ad
    rw [sa_upd_eq, sa_upd_ne ha]
  exact ⟨⟨sa_J_upd g1 h0 ⟨Int.le_refl _, Int.le_refl _⟩, by rw [sa_lv_upd h1]; exact g2, by rw [he2]; exact hP, by rw [he2]; exact hD, hS⟩, sa_st_upd h2⟩
def so_last : sa_op := fun S => match S.2.2.1 with
  | .inr (.inr _) :: .inl x :: .inr (.inl (some a)) :: rest => match sa_find a S.2.2.2.1 0 with
    | some (i, .inr (tt, .inr (.inl (N, _)))) => if tt = 2 ∧ sa_ixin S.2.2.2.2.1 x N = true ∧ sa_wf S.2.2.2.2.1.length S.2.1 rest S.2.2.2.1 = true then some [(S.1 + 1, S.2.1, rest, S.2.2.2.1.set i (a, .inr (2, .inr (.inl (N, S.2.2.2.2.1.length)))), S.2.2.2.2.1 ++ [(0, 0)], S.2.2.2.2.2)] else none
    | _ => none
  | _ => none
theorem sn_last {p : Program} {l : Launch} {e : Env} {R : Room} {s : State} {m : MethodId} {args : Array Value} {below : List Frame} {meth : Method} {c : Code} {Q : State → Prop} {D : va_G} {dA : Nat → ClassId} {A : Nat → Prop} {nL : Nat} {cl : List vw_C} {n0 : Nat} {V0 : sa_V} {Ts : List Cond} {cc : ByteArray} {own : String} (C0 : sa_C p s m args c D dA A nL cl Ts cc own) {pc : Nat}  (hd : decode cc pc = .ok (.lastore, 1)) : sa_snd p l e R s m args below meth c Q D dA A nL cl n0 V0 pc so_last := by
  obtain ⟨hx, hb, hts, hown, hml, hK, hA⟩ := C0
  rintro ⟨pc, lo, st, cs, G, kc, ks⟩ sts rfl h k V H locs ls hG
  unfold so_last at h
  dsimp only at h
  split at h
  · rename_i jv x a rest
    split at h
    · rename_i i tt N b hj
      split at h
      · rename_i hh
        obtain ⟨h1, h2, h4⟩ := hh
        subst h1
        cases h
        unfold sa_ixin at h2
        split at h2
        rotate_left
        · cases h2
        rename_i jx hjx
        obtain ⟨i1, i2⟩ := sa_ixk hG.1.1 hjx
        have i2 := i2 _ (of_decide_eq_true h2)
        refine va_last (D := D) (x := (V jv).2.1) hx hb hK hG.2.2.1 hG.2.2.2.1 hG.2.2.2.2 i 2 (sa_find_0 hj) rfl i2 hd (fun H1 locs1 hP hD hS => ?_)
        obtain ⟨g1, g2⟩ := sa_G_lrow hG h4 hj hP hD hS
        have h9 := k _ List.mem_cons_self _ H1 locs1 ls g1
        dsimp only at h9
        rw [g2] at h9
        exact h9
      · cases h
    · cases h
  · cases h
/-- a row of ints is copied whole -/
def so_acpi : sa_op := fun S => match S.2.2.1 with
  | .inl n :: .inl dp :: .inr (.inl (some a1)) :: .inl sp :: .inr (.inl (some a0)) :: [] => match sa_find a0 S.2.2.2.1 0, sa_find a1 S.2.2.2.1 0 with
    | some (_, .inr (t0, .inl l0)), some (i1, .inr (t1, .inl l1)) => if t0 = 0 ∧ t1 = 0 ∧ dp = (0, 0) ∧ sp = (0, 0) ∧ sa_ok_ix n = true ∧ n.2.toNat = l0.length ∧ l0.length = l1.length then some [(S.1 + 3, S.2.1, [], S.2.2.2.1.set i1 (a1, .inr (0, .inl l0)), S.2.2.2.2)] else none
    | _, _ => none
  | _ => none
theorem sa_cpy {V : sa_V} {l0 l1 : List (Nat × Int)} (h : l0.length = l1.length) : va_cpy (sa_f V l0) (sa_f V l1) 0 0 l0.length = sa_f V l0 := by
  funext j
  unfold va_cpy
  split
  · rw [Nat.sub_zero, Nat.zero_add]
  · rename_i hj
    have hj : l0.length ≤ j := by omega
    unfold sa_f
    rw [List.getElem?_eq_none (by omega), List.getElem?_eq_none hj]
theorem sn_acpi {p : Program} {l : Launch} {e : Env} {R : Room} {s : State} {m : MethodId} {args : Array Value} {below : List Frame} {meth : Method} {c : Code} {Q : State → Prop} {D : va_G} {dA : Nat → ClassId} {A : Nat → Prop} {nL : Nat} {cl : List vw_C} {n0 : Nat} {V0 : sa_V} {Ts : List Cond} {cc : ByteArray} {own : String} (C0 : sa_C p s m args c D dA A nL cl Ts cc own) {pc : Nat} {idx : Nat} (hd : decode cc pc = .ok (.invokestatic idx, 3)) (hl : Cond.methodLink own idx arraycopyName ∈ Ts) (hn1 : Cond.native arraycopyName ∈ Ts) (hn2 : Cond.static arraycopyName ∈ Ts) (hn3 : Cond.initialized "java/lang/System" ∈ Ts) (hR1 : 1 ≤ R.frames) (hR2 : nativeFrameWords "java/lang/System" "arraycopy" 5 + 11 ≤ R.locals) : sa_snd p l e R s m args below meth c Q D dA A nL cl n0 V0 pc so_acpi := by
  obtain ⟨hx, hb, hts, hown, hml, hK, hA⟩ := C0
  rintro ⟨pc, lo, st, cs, G, kc, ks⟩ sts rfl h k V H locs ls hG
  unfold so_acpi at h
  dsimp only at h
  split at h
  · rename_i n dp a1 sp a0
    split at h
    · rename_i i0 t0 l0 i1 t1 l1 hj0 hj1
      split at h
      · rename_i hh
        obtain ⟨h1, h2, h3, h4, h5, h6, h7⟩ := hh
        subst h1 h2 h3 h4
        have h5 := of_decide_eq_true h5
        cases h
        obtain ⟨n1, n2⟩ := sa_nn hG.1.1 h5
        have e0 : sa_i V (0, 0) = 0 := (sa_i_0 hG.1.1 0).trans rfl
        have z1 : ¬ sa_i V (0, 0) < 0 := by rw [e0]; decide
        have z2 : (sa_i V (0, 0)).toNatClampNeg = 0 := by rw [e0]; rfl
        refine va_copyi (D := D) (ty := .int) (sp := sa_i V (0, 0)) (dp := sa_i V (0, 0)) (n := sa_i V n) hx hb (by rw [hml]; exact hG.2.1.1.symm) hown (hts _ hl) (hts _ hn1) (hts _ hn2) (hts _ hn3) hK hG.2.2.1 hG.2.2.2.1 hG.2.2.2.2 i0 i1 0 0 (sa_find_0 hj0) (sa_find_0 hj1) rfl rfl rfl z1 z1 n1 (by rw [n2, z2]; omega) (by rw [n2, z2]; omega) (fun _ _ => rfl) hR1 (by rw [List.map_nil, List.map_nil]; exact (Nat.zero_add _).symm ▸ hR2) hd (fun H1 locs1 hP hD hS => ?_)
        have e9 : (cs.map (sa_e V dA)).set i1 (sa_ad V a1, .inl (dA 0, l1.length, .inl (sa_f V l0))) = (cs.set i1 (a1, .inr (0, .inl l0))).map (sa_e V dA) := by
          rw [List.map_set, ← h7]
          rfl
        rw [n2, z2, h6, sa_cpy h7, e9] at hP hD
        exact k _ List.mem_cons_self V H1 locs1 ls ⟨hG.1, hG.2.1, hP, hD, hS⟩
      · cases h
    · cases h
  · cases h
def so_acpl : sa_op := fun S => match S.2.2.1 with
  | .inl n :: .inl dp :: .inr (.inl (some a1)) :: .inl sp :: .inr (.inl (some a0)) :: [] => match sa_find a0 S.2.2.2.1 0, sa_find a1 S.2.2.2.1 0 with
    | some (_, .inr (t0, .inr (.inl (N0, _)))), some (i1, .inr (t1, .inr (.inl (N1, _)))) => if t0 = 2 ∧ t1 = 2 ∧ dp = (0, 0) ∧ sp = (0, 0) ∧ sa_ok_ix n = true ∧ n.2.toNat ≤ N0 ∧ n.2.toNat ≤ N1 ∧ sa_wf S.2.2.2.2.1.length S.2.1 [] S.2.2.2.1 = true then some [(S.1 + 3, S.2.1, [], S.2.2.2.1.set i1 (a1, .inr (2, .inr (.inl (N1, S.2.2.2.2.1.length)))), S.2.2.2.2.1 ++ [(0, 0)], S.2.2.2.2.2)] else none
    | _, _ => none
  | _ => none
theorem sn_acpl {p : Program} {l : Launch} {e : Env} {R : Room} {s : State} {m : MethodId} {args : Array Value} {below : List Frame} {meth : Method} {c : Code} {Q : State → Prop} {D : va_G} {dA : Nat → ClassId} {A : Nat → Prop} {nL : Nat} {cl : List vw_C} {n0 : Nat} {V0 : sa_V} {Ts : List Cond} {cc : ByteArray} {own : String} (C0 : sa_C p s m args c D dA A nL cl Ts cc own) {pc : Nat} {idx : Nat} (hd : decode cc pc = .ok (.invokestatic idx, 3)) (hl : Cond.methodLink own idx arraycopyName ∈ Ts) (hn1 : Cond.native arraycopyName ∈ Ts) (hn2 : Cond.static arraycopyName ∈ Ts) (hn3 : Cond.initialized "java/lang/System" ∈ Ts) (hR1 : 1 ≤ R.frames) (hR2 : nativeFrameWords "java/lang/System" "arraycopy" 5 + 11 ≤ R.locals) : sa_snd p l e R s m args below meth c Q D dA A nL cl n0 V0 pc so_acpl := by
  obtain ⟨hx, hb, hts, hown, hml, hK, hA⟩ := C0
  rintro ⟨pc, lo, st, cs, G, kc, ks⟩ sts rfl h k V H locs ls hG
  unfold so_acpl at h
  dsimp only at h
  split at h
  · rename_i n dp a1 sp a0
    split at h
    · rename_i i0 t0 N0 b0 i1 t1 N1 b1 hj0 hj1
      split at h
      · rename_i hh
        obtain ⟨h1, h2, h3, h4, h5, h6, h7, h8⟩ := hh
        subst h1 h2 h3 h4
        have h5 := of_decide_eq_true h5
        cases h
        obtain ⟨n1, n2⟩ := sa_nn hG.1.1 h5
        have e0 : sa_i V (0, 0) = 0 := (sa_i_0 hG.1.1 0).trans rfl
        have z1 : ¬ sa_i V (0, 0) < 0 := by rw [e0]; decide
        have z2 : (sa_i V (0, 0)).toNatClampNeg = 0 := by rw [e0]; rfl
        refine va_copyl (D := D) (ty := .long) (sp := sa_i V (0, 0)) (dp := sa_i V (0, 0)) (n := sa_i V n) hx hb (by rw [hml]; exact hG.2.1.1.symm) hown (hts _ hl) (hts _ hn1) (hts _ hn2) (hts _ hn3) hK hG.2.2.1 hG.2.2.2.1 hG.2.2.2.2 i0 i1 2 2 (sa_find_0 hj0) (sa_find_0 hj1) rfl rfl rfl z1 z1 n1 (by rw [n2, z2]; omega) (by rw [n2, z2]; omega) (fun _ _ => rfl) hR1 (by rw [List.map_nil, List.map_nil]; exact (Nat.zero_add _).symm ▸ hR2) hd (fun H1 locs1 hP hD hS => ?_)
        obtain ⟨g1, g2⟩ := sa_G_lrow (st := []) hG h8 hj1 hP hD hS
        have h9 := k _ List.mem_cons_self _ H1 locs1 ls g1
        exact h9
      · cases h
    · cases h
  · cases h
end SA5
end
section
section SA6
/-! signs for signs -/
def sa_pl (V : sa_V) (g : Nat → Nat × Int) : sa_V := fun k => ((V (g k).1).1 + (g k).2, (V (g k).1).2)
def sa_sq (g : Nat → Nat × Int) (q : Nat × Int) : Nat × Int := ((g q.1).1, (g q.1).2 + q.2)
def sa_sv (g : Nat → Nat × Int) : sa_v → sa_v
  | .inl q => .inl (sa_sq g q)
  | .inr (.inl none) => .inr (.inl none)
  | .inr (.inl (some k)) => .inr (.inl (some (g k).1))
  | .inr (.inr j) => .inr (.inr (g j).1)
def sa_sa (g : Nat → Nat × Int) : sa_a → sa_a
  | .inl l => .inl (l.map (sa_sq g))
  | .inr (.inl q) => .inr (.inl (q.1, (g q.2).1))
  | .inr (.inr l) => .inr (.inr (l.map (Option.map (fun k => (g k).1))))
def sa_sx (g : Nat → Nat × Int) : ((Nat × List sa_v) ⊕ (Nat × sa_a)) → ((Nat × List sa_v) ⊕ (Nat × sa_a))
  | .inl o => .inl (o.1, o.2.map (sa_sv g))
  | .inr a => .inr (a.1, sa_sa g a.2)
def sa_sc (g : Nat → Nat × Int) (q : sa_c) : sa_c := ((g q.1).1, sa_sx g q.2)
theorem sa_i_pl (V : sa_V) (g : Nat → Nat × Int) (q : Nat × Int) : sa_i V (sa_sq g q) = sa_i (sa_pl V g) q := by
  unfold sa_i sa_pl sa_sq
  dsimp only
  rw [Int.add_assoc]
theorem sa_val_pl (V : sa_V) (g : Nat → Nat × Int) (v : sa_v) : sa_val V (sa_sv g v) = sa_val (sa_pl V g) v := by
  rcases v with q | (_ | k) | j
  · show Value.int _ = Value.int _
    rw [sa_i_pl]
  · rfl
  · rfl
  · rfl
theorem sa_arr_pl (V : sa_V) (g : Nat → Nat × Int) (a : sa_a) : sa_arr V (sa_sa g a) = sa_arr (sa_pl V g) a := by
  rcases a with l | q | l
  · show ((l.map (sa_sq g)).length, Sum.inl (sa_f V (l.map (sa_sq g)))) = (l.length, Sum.inl (sa_f (sa_pl V g) l))
    rw [List.length_map]
    congr 2
    funext j
    unfold sa_f
    rw [List.getElem?_map]
    cases l[j]? with
    | none => rfl
    | some q => exact sa_i_pl V g q
  · rfl
  · show ((l.map (Option.map (fun k => (g k).1))).length, _) = (l.length, _)
    rw [List.length_map]
    congr 5
    funext j
    unfold sa_g
    rw [List.getD_eq_getElem?_getD, List.getD_eq_getElem?_getD, List.getElem?_map]
    cases l[j]? with
    | none => rfl
    | some o => cases o <;> rfl
theorem sa_e_pl (V : sa_V) (g : Nat → Nat × Int) (dA : Nat → ClassId) (q : sa_c) : sa_e V dA (sa_sc g q) = sa_e (sa_pl V g) dA q := by
  obtain ⟨k, o | a⟩ := q
  · show (sa_ad V (g k).1, Sum.inr (o.1, (o.2.map (sa_sv g)).map (sa_val V))) = (sa_ad (sa_pl V g) k, Sum.inr (o.1, o.2.map (sa_val (sa_pl V g))))
    have e1 : (o.2.map (sa_sv g)).map (sa_val V) = o.2.map (sa_val (sa_pl V g)) := by
      rw [List.map_map]
      exact List.map_congr_left (fun v _ => sa_val_pl V g v)
    rw [e1]
    rfl
  · show (sa_ad V (g k).1, Sum.inl (dA a.1, sa_arr V (sa_sa g a.2))) = (sa_ad (sa_pl V g) k, Sum.inl (dA a.1, sa_arr (sa_pl V g) a.2))
    rw [sa_arr_pl]
    rfl
/-! what a method does: arguments, cells, bounds; its ends: answer, cells, bounds; cells and slots made -/
abbrev sa_O : Type := Option sa_v × List sa_c × sa_B
abbrev sa_K : Type := List sa_v × List sa_c × sa_B × List sa_O × Nat × Nat
/-- links to private members of nest mates -/
def sa_NL : List (String × Nat × MethodName × String) := [("OffThenOn", 20, ⟨"OffThenOn$World", "<init>", "()V"⟩, "OffThenOn"), ("OffThenOn$World", 9, ⟨"OffThenOn$House", "<init>", "()V"⟩, "OffThenOn"), ("OffThenOn$World", 18, ⟨"OffThenOn$State", "<init>", "()V"⟩, "OffThenOn"), ("OffThenOn$World", 25, ⟨"OffThenOn$Sentence", "<init>", "()V"⟩, "OffThenOn"), ("OffThenOn$History", 17, ⟨"OffThenOn$State", "<init>", "()V"⟩, "OffThenOn"), ("OffThenOn", 38, ⟨"OffThenOn$State", "<init>", "()V"⟩, "OffThenOn"), ("OffThenOn", 45, ⟨"OffThenOn$HouseReader", "<init>", "()V"⟩, "OffThenOn"), ("OffThenOn$HouseReader", 11, ⟨"OffThenOn$Reader", "<init>", "()V"⟩, "OffThenOn"), ("OffThenOn$HouseReader", 20, ⟨"OffThenOn$House", "<init>", "()V"⟩, "OffThenOn"), ("OffThenOn", 52, ⟨"OffThenOn$LogReader", "<init>", "()V"⟩, "OffThenOn"), ("OffThenOn$LogReader", 11, ⟨"OffThenOn$Reader", "<init>", "()V"⟩, "OffThenOn"), ("OffThenOn", 59, ⟨"OffThenOn$SentenceReader", "<init>", "()V"⟩, "OffThenOn"), ("OffThenOn$SentenceReader", 11, ⟨"OffThenOn$Reader", "<init>", "()V"⟩, "OffThenOn"), ("OffThenOn$SentenceReader", 20, ⟨"OffThenOn$Sentence", "<init>", "()V"⟩, "OffThenOn"), ("OffThenOn", 66, ⟨"OffThenOn$Planner", "<init>", "()V"⟩, "OffThenOn"), ("OffThenOn$House", 68, ⟨"OffThenOn", "bit", "(II)I"⟩, "OffThenOn"), ("OffThenOn$State", 63, ⟨"OffThenOn", "bit", "(II)I"⟩, "OffThenOn"), ("OffThenOn$Sentence", 59, ⟨"OffThenOn", "bit", "(II)I"⟩, "OffThenOn"), ("OffThenOn$Planner", 32, ⟨"OffThenOn", "bit", "(II)I"⟩, "OffThenOn")]
def sa_U (D : va_G) (cl : List vw_C) (dA : Nat → ClassId) (U : State) : Prop := va_K D cl (sa_tys dA) U ∧ va_AO "OffThenOn$World" U ∧ va_AO "OffThenOn$State" U ∧ ∀ q ∈ sa_NL, va_Nw (.methodLinkNest q.1 q.2.1 q.2.2.1 q.2.2.2) U
theorem sa_U.warm {D : va_G} {cl : List vw_C} {dA : Nat → ClassId} {s U : State} (hW : s.WarmedH U.vm) (h : sa_U D cl dA s) : sa_U D cl dA U := ⟨va_K.moved hW.alike h.1, va_AO.moved hW.alike h.2.1, va_AO.moved hW.alike h.2.2.1, fun q hq => va_Nw.warmM hW (h.2.2.2 q hq)⟩
theorem sa_U.same {D : va_G} {cl : List vw_C} {dA : Nat → ClassId} {u U : State} (hv : u.vm = U.vm) (h : sa_U D cl dA u) : sa_U D cl dA U := ⟨va_K.moved (by rw [hv]; exact Vm.Alike.refl _) h.1, va_AO.moved (by rw [hv]; exact Vm.Alike.refl _) h.2.1, va_AO.moved (by rw [hv]; exact Vm.Alike.refl _) h.2.2.1, fun q hq => va_Nw.same rfl hv (h.2.2.2 q hq)⟩
def sa_P (D : va_G) (dA : Nat → ClassId) (cl : List vw_C) (sz : Nat) (V : sa_V) (K : sa_K) : Array Value → State → Prop := va_Pc (K.1.map (sa_val V)) (fun U => U.heap.size = sz ∧ va_P D cl (K.2.1.map (sa_e V dA)) U.heap ∧ sa_U D cl dA U ∧ va_D (fun _ => True) (K.2.1.map (sa_e V dA)))
def sa_Q (D : va_G) (dA : Nat → ClassId) (cl : List vw_C) (sz : Nat) (V : sa_V) (K : sa_K) : Array Value → State → Outcome → State → Prop := fun _ st oc t =>
  (∃ o ∈ K.2.2.2.1, ∃ V' : sa_V, (∀ k, k < K.2.2.1.length → V' k = V k) ∧ sa_I V' o.2.2 ∧ oc = .returned (o.1.map (sa_val V')) ∧ va_P D cl (o.2.1.map (sa_e V' dA)) t.heap ∧ va_D (va_A (K.2.1.map (sa_e V dA)) sz) (o.2.1.map (sa_e V' dA))) ∧ va_F (va_A (K.2.1.map (sa_e V dA)) sz) st t
def sa_Met (l : Launch) (cl : List vw_C) (Ts : List Cond) (y : MethodName) (cc : ByteArray) (maxL : Nat) (ret : Option FieldType) (fr lc : Nat) (K : sa_K) : Prop :=
  ∀ (D : va_G) (dA : Nat → ClassId) (sz : Nat) (V : sa_V), sa_I V K.2.2.1 → Met l y (Cond.code y cc maxL ret :: Ts) { frames := fr, cells := K.2.2.2.2.1, slots := K.2.2.2.2.2, locals := lc } (sa_P D dA cl sz V K) (sa_Q D dA cl sz V K) K.2.2.2.2.1 K.2.2.2.2.2 (va_A (K.2.1.map (sa_e V dA)) sz)
/-! which sign is which -/
abbrev sa_rr : Type := List (Nat × Nat × Int)
def sa_lk (k : Nat) : sa_rr → Option (Nat × Int)
  | [] => none
  | q :: l => if q.1 = k then some q.2 else sa_lk k l
def sa_sb (r : sa_rr) (k : Nat) : Nat × Int := match sa_lk k r with
  | some x => x
  | none => (0, 0)
def sa_bd (r : sa_rr) (k : Nat) (x : Nat × Int) : sa_rr := if k = 0 then r else match sa_lk k r with
  | some _ => r
  | none => (k, x) :: r
def sa_m1 (r : sa_rr) : sa_v → sa_v → sa_rr
  | .inl q, .inl u => sa_bd r q.1 (u.1, u.2 - q.2)
  | .inr (.inl (some k)), .inr (.inl (some u)) => sa_bd r k (u, 0)
  | .inr (.inr j), .inr (.inr u) => sa_bd r j (u, 0)
  | _, _ => r
def sa_ml : List sa_v → List sa_v → sa_rr → sa_rr
  | v :: l, u :: l', r => sa_ml l l' (sa_m1 r v u)
  | _, _, r => r
def sa_mi : List (Nat × Int) → List (Nat × Int) → sa_rr → sa_rr
  | v :: l, u :: l', r => sa_mi l l' (sa_bd r v.1 (u.1, u.2 - v.2))
  | _, _, r => r
def sa_mq : List (Option Nat) → List (Option Nat) → sa_rr → sa_rr
  | some v :: l, some u :: l', r => sa_mq l l' (sa_bd r v (u, 0))
  | _ :: l, _ :: l', r => sa_mq l l' r
  | _, _, r => r
def sa_mx (r : sa_rr) : ((Nat × List sa_v) ⊕ (Nat × sa_a)) → ((Nat × List sa_v) ⊕ (Nat × sa_a)) → sa_rr
  | .inl o, .inl u => sa_ml o.2 u.2 r
  | .inr (_, .inl l), .inr (_, .inl l') => sa_mi l l' r
  | .inr (_, .inr (.inl q)), .inr (_, .inr (.inl u)) => sa_bd r q.2 (u.2, 0)
  | .inr (_, .inr (.inr l)), .inr (_, .inr (.inr l')) => sa_mq l l' r
  | _, _ => r
def sa_mcs (cs : List sa_c) : List sa_c → sa_rr → sa_rr
  | [], r => r
  | q :: l, r => match sa_find (sa_sb r q.1).1 cs 0 with
    | some y => sa_mcs cs l (sa_mx r q.2 y.2)
    | none => sa_mcs cs l r
def sa_idx (cs : List sa_c) (a : Nat) : Nat := match sa_find a cs 0 with
  | some y => y.1
  | none => cs.length
def sa_bck (r : sa_rr) (GK G : sa_B) : Bool := (List.range GK.length).all (fun k => match GK[k]?, G[(sa_sb r k).1]? with
  | some b, some b' => decide (b.1 ≤ b'.1 + (sa_sb r k).2 ∧ b'.2 + (sa_sb r k).2 ≤ b.2)
  | _, _ => false)
def sa_rf (r : sa_rr) (Go : sa_B) : List Nat → sa_B → sa_B
  | [], G => G
  | k :: l, G => match Go[k]? with
    | some b => sa_rf r Go l (sa_lw (sa_hi G (sa_sb r k).1 (b.2 - (sa_sb r k).2)) (sa_sb r k).1 (b.1 - (sa_sb r k).2))
    | none => sa_rf r Go l G
theorem sa_rf_ok {V : sa_V} {r : sa_rr} {Go : sa_B} : ∀ (l : List Nat) (G : sa_B), sa_I V G → (∀ k ∈ l, ∀ b, Go[k]? = some b → b.1 ≤ (V (sa_sb r k).1).1 + (sa_sb r k).2 ∧ (V (sa_sb r k).1).1 + (sa_sb r k).2 ≤ b.2) → sa_I V (sa_rf r Go l G) ∧ (sa_rf r Go l G).length = G.length
  | [], G, h, _ => ⟨h, rfl⟩
  | k :: l, G, h, hb => by
    unfold sa_rf
    split
    · rename_i b hk
      obtain ⟨b1, b2⟩ := hb k List.mem_cons_self b hk
      obtain ⟨r1, r2⟩ := sa_rf_ok l _ (sa_I_lw (s := (sa_sb r k).1) (z := b.1 - (sa_sb r k).2) (sa_I_hi (s := (sa_sb r k).1) (z := b.2 - (sa_sb r k).2) h (by omega)) (by omega)) (fun k' hk' => hb k' (List.mem_cons_of_mem _ hk'))
      exact ⟨r1, by rw [r2, sa_lw_len, sa_hi_len]⟩
    · exact sa_rf_ok l G h (fun k' hk' => hb k' (List.mem_cons_of_mem _ hk'))
def sa_g2 (r : sa_rr) (n0 n : Nat) (k : Nat) : Nat × Int := if k < n0 then sa_sb r k else (n + (k - n0), 0)
def sa_rest (cs : List sa_c) (isC : List Nat) : List Nat := (List.range cs.length).filter (fun i => !(isC.contains i))
def sa_end (K : sa_K) (S : sa_S) (r : sa_rr) (isC : List Nat) (rest : List sa_v) (o : sa_O) : sa_S :=
  (S.1 + 3, S.2.1, (match o.1 with | some v => sa_sv (sa_g2 r K.2.2.1.length S.2.2.2.2.1.length) v :: rest | none => rest), (sa_rest S.2.2.2.1 isC).filterMap (fun i => S.2.2.2.1[i]?) ++ o.2.1.map (sa_sc (sa_g2 r K.2.2.1.length S.2.2.2.2.1.length)), sa_rf r o.2.2 (List.range K.2.2.1.length) S.2.2.2.2.1 ++ o.2.2.drop K.2.2.1.length, S.2.2.2.2.2.1 + K.2.2.2.2.1, S.2.2.2.2.2.2 + K.2.2.2.2.2)
def sa_eqx : ((Nat × List sa_v) ⊕ (Nat × sa_a)) → ((Nat × List sa_v) ⊕ (Nat × sa_a)) → Bool
  | .inl o, .inl u => decide (o.1 = u.1 ∧ o.2 = u.2)
  | .inr (t, .inl l), .inr (t', .inl l') => decide (t = t' ∧ l = l')
  | .inr (t, .inr (.inl q)), .inr (t', .inr (.inl u)) => decide (t = t' ∧ q = u)
  | .inr (t, .inr (.inr l)), .inr (t', .inr (.inr l')) => decide (t = t' ∧ l = l')
  | _, _ => false
theorem sa_eqx_ok {x y : (Nat × List sa_v) ⊕ (Nat × sa_a)} (h : sa_eqx x y = true) : x = y := by
  unfold sa_eqx at h
  split at h
  · rename_i o u
    obtain ⟨o1, o2⟩ := o
    obtain ⟨u1, u2⟩ := u
    obtain ⟨h1, h2⟩ := of_decide_eq_true h
    dsimp only at h1 h2
    rw [h1, h2]
  · obtain ⟨h1, h2⟩ := of_decide_eq_true h
    rw [h1, h2]
  · obtain ⟨h1, h2⟩ := of_decide_eq_true h
    rw [h1, h2]
  · obtain ⟨h1, h2⟩ := of_decide_eq_true h
    rw [h1, h2]
  · cases h
def sa_eqo (o : Option sa_c) (q : sa_c) : Bool := match o with
  | some p => decide (p.1 = q.1) && sa_eqx p.2 q.2
  | none => false
theorem sa_eqo_ok {o : Option sa_c} {q : sa_c} (h : sa_eqo o q = true) : o = some q := by
  cases o with
  | none => cases h
  | some p =>
    have h : (decide (p.1 = q.1) && sa_eqx p.2 q.2) = true := h
    rw [Bool.and_eq_true] at h
    rw [show p = q from Prod.ext (of_decide_eq_true h.1) (sa_eqx_ok h.2)]
def sa_eql : List (Option sa_c) → List sa_c → Bool
  | [], [] => true
  | o :: l, q :: l' => sa_eqo o q && sa_eql l l'
  | _, _ => false
theorem sa_eql_ok : ∀ {l : List (Option sa_c)} {w : List sa_c}, sa_eql l w = true → l = w.map some
  | [], [], _ => rfl
  | [], _ :: _, h => by cases h
  | _ :: _, [], h => by cases h
  | o :: l, q :: w, h => by
    have h : (sa_eqo o q && sa_eql l w) = true := h
    rw [Bool.and_eq_true] at h
    rw [List.map_cons, ← sa_eql_ok h.2]
    rw [sa_eqo_ok h.1]
def sa_fitK (K : sa_K) (S : sa_S) (r : sa_rr) (isC : List Nat) (as rest : List sa_v) (maxC maxS : Nat) : Bool :=
  decide (K.1.map (sa_sv (sa_sb r)) = as) && sa_eql (isC.map (fun i => S.2.2.2.1[i]?)) (K.2.1.map (sa_sc (sa_sb r))) && va_nd isC && sa_bck r K.2.2.1 S.2.2.2.2.1 && decide ((rest.map sa_cat).sum ≤ 8) && decide (S.2.2.2.2.2.1 + K.2.2.2.2.1 ≤ maxC) && decide (S.2.2.2.2.2.2 + K.2.2.2.2.2 ≤ maxS) && decide (sa_sb r 0 = (0, 0)) && sa_wf S.2.2.2.2.1.length S.2.1 rest S.2.2.2.1
def sa_rof (K : sa_K) (S : sa_S) : sa_rr := sa_mcs S.2.2.2.1 K.2.1 (sa_ml K.1 (S.2.2.1.take K.1.length).reverse [])
def sa_cof (K : sa_K) (S : sa_S) (r : sa_rr) : List Nat := K.2.1.map (fun q => sa_idx S.2.2.2.1 (sa_sb r q.1).1)
def so_call (K : sa_K) (maxC maxS : Nat) : sa_op := fun S =>
  if K.1.length ≤ S.2.2.1.length ∧ sa_fitK K S (sa_rof K S) (sa_cof K S (sa_rof K S)) (S.2.2.1.take K.1.length).reverse (S.2.2.1.drop K.1.length) maxC maxS = true then some ((K.2.2.2.1.map (sa_end K S (sa_rof K S) (sa_cof K S (sa_rof K S)) (S.2.2.1.drop K.1.length))).filter (fun S' => S'.2.2.2.2.1.all (fun b => decide (b.1 ≤ b.2)))) else none
theorem sa_fm {α β : Type} {f : α → Option β} : ∀ {l : List α} {w : List β}, l.map f = w.map some → l.filterMap f = w
  | [], [], _ => rfl
  | [], _ :: _, h => by cases h
  | _ :: _, [], h => by cases h
  | a :: l, b :: w, h => by
    rw [List.map_cons, List.map_cons] at h
    obtain ⟨h1, h2⟩ := List.cons.inj h
    rw [List.filterMap_cons_some h1, sa_fm h2]
theorem sa_sum (V : sa_V) (st : List sa_v) : ((st.map (sa_val V)).map (fun v => v.category)).sum = (st.map sa_cat).sum := by
  rw [List.map_map]
  congr 1
  apply List.map_congr_left
  intro v _
  exact sa_cat_val V v
theorem sa_nd_filter : ∀ (f : Nat → Bool) (n : Nat), va_nd ((List.range n).filter f) = true := by
  intro f n
  have key : ∀ l : List Nat, l.Nodup → va_nd l = true := by
    intro l
    induction l with
    | nil => intro _; rfl
    | cons a l ih =>
      intro h
      rw [List.nodup_cons] at h
      show (decide (a ∉ l) && va_nd l) = true
      rw [ih h.2, decide_eq_true h.1]
      rfl
  exact key _ (List.Nodup.sublist (List.filter_sublist) (List.nodup_range))
/-- behind a call -/
theorem sa_call_ok {p : Program} {l : Launch} {e : Env} {R : Room} {s : State} {m : MethodId} {args : Array Value} {below : List Frame} {meth : Method} {c : Code} {Q : State → Prop} {D : va_G} {dA : Nat → ClassId} {A : Nat → Prop} {nL : Nat} {cl : List vw_C} {n0 : Nat} {V0 : sa_V} {K : sa_K} {maxC maxS pc : Nat} {lo : sa_L} {st : List sa_v} {cs : List sa_c} {G : sa_B} {kc ks : Nat} {sts : List sa_S} {V : sa_V} {H : Heap} {locs : List Loc} {ls : Array Slot} {a : Array Value}
    (hA : ∀ q, s.heap.size ≤ q → A q) (h : so_call K maxC maxS (pc, lo, st, cs, G, kc, ks) = some sts) (k : ∀ S' ∈ sts, sa_W p l e R s m args below meth c Q D dA A nL cl n0 V0 S') (hG : sa_G D dA A nL cl n0 V0 s.heap V lo cs G H locs ls)
    (vr : ∀ (As rest : List sa_v) (V1 : sa_V), st = As.reverse ++ rest → As.map (sa_val V) = K.1.map (sa_val V1) → As.length = K.1.length → sa_I V1 K.2.2.1 → ((rest.map (sa_val V)).map (fun v => v.category)).sum ≤ 8 → va_P D cl (K.2.1.map (sa_e V1 dA)) H → va_D (fun _ => True) (K.2.1.map (sa_e V1 dA)) → kc + K.2.2.2.2.1 ≤ maxC → ks + K.2.2.2.2.2 ≤ maxS →
      va_Run p l e R s m args below meth c H locs kc ks K.2.2.2.2.1 K.2.2.2.2.2 (F0 m pc ls (st.map (sa_val V))) (rest.map (sa_val V)) (sa_Q D dA cl H.size V1 K a) (va_A (K.2.1.map (sa_e V1 dA)) H.size)) :
    W p l e R s m args below meth c H locs kc ks Q (F0 m pc ls (st.map (sa_val V))) := by
  unfold so_call at h
  dsimp only at h
  split at h
  · rename_i hh
    obtain ⟨hlen, hfit⟩ := hh
    generalize hr : sa_rof K (pc, lo, st, cs, G, kc, ks) = r at h hfit
    generalize hC : sa_cof K (pc, lo, st, cs, G, kc, ks) r = isC at h hfit
    generalize has : (st.take K.1.length).reverse = As at hfit
    generalize hre : st.drop K.1.length = rest at h hfit
    simp only [sa_fitK, Bool.and_eq_true, decide_eq_true_eq] at hfit
    obtain ⟨⟨⟨⟨⟨⟨⟨⟨f1, f2⟩, f3⟩, f4⟩, f5⟩, f6⟩, f7⟩, f8⟩, f9⟩ := hfit
    cases h
    have hst : st = As.reverse ++ rest := by rw [← has, ← hre, List.reverse_reverse, List.take_append_drop]
    have hwf := f9
    simp only [sa_wf, Bool.and_eq_true, decide_eq_true_eq] at hwf
    obtain ⟨⟨⟨w0, w1⟩, w2⟩, w3⟩ := hwf
    -- the callee's start
    have b4 : ∀ j b, K.2.2.1[j]? = some b → (sa_sb r j).1 < G.length ∧ b.1 ≤ (sa_pl V (sa_sb r) j).1 ∧ (sa_pl V (sa_sb r) j).1 ≤ b.2 := by
      intro j b hj
      have hjl := (List.getElem?_eq_some_iff.mp hj).1
      have h4 := List.all_eq_true.mp f4 j (List.mem_range.mpr hjl)
      rw [hj] at h4
      split at h4
      · rename_i b1 b' e1 e2
        cases e1
        have h4 := of_decide_eq_true h4
        obtain ⟨g1, g2⟩ := hG.1.1.1 _ _ e2
        refine ⟨(List.getElem?_eq_some_iff.mp e2).1, ?_, ?_⟩
        · show b.1 ≤ (V _).1 + _
          omega
        · show (V _).1 + _ ≤ b.2
          omega
      · cases h4
    have hI1 : sa_I (sa_pl V (sa_sb r)) K.2.2.1 := by
      refine ⟨fun j b hj => (b4 j b hj).2, ?_⟩
      show (V (sa_sb r 0).1).1 + (sa_sb r 0).2 = 0
      rw [f8]
      show (V 0).1 + 0 = 0
      rw [hG.1.1.2]
      rfl
    have hCe : isC.map (fun i => (cs.map (sa_e V dA))[i]?) = (K.2.1.map (sa_e (sa_pl V (sa_sb r)) dA)).map some := by
      have := congrArg (List.map (Option.map (sa_e V dA))) (sa_eql_ok f2)
      rw [List.map_map, List.map_map, List.map_map] at this
      rw [List.map_map]
      refine Eq.trans (List.map_congr_left (fun i _ => ?_)) (this.trans (List.map_congr_left (fun q _ => ?_)))
      · show (cs.map (sa_e V dA))[i]? = Option.map (sa_e V dA) cs[i]?
        rw [List.getElem?_map]
      · show some (sa_e V dA (sa_sc (sa_sb r) q)) = some (sa_e (sa_pl V (sa_sb r)) dA q)
        rw [sa_e_pl]
    have hP1 := hG.2.2.1.sub isC (sa_fm hCe)
    have hD1 := (hG.2.2.2.1.sub isC f3 hCe)
    have hF := va_free (wc := K.2.1.map (sa_e (sa_pl V (sa_sb r)) dA)) hG.2.2.2.1 hG.2.2.2.2 hA isC hCe
    have hargs : As.map (sa_val V) = K.1.map (sa_val (sa_pl V (sa_sb r))) := by
      rw [← f1, List.map_map]
      exact List.map_congr_left (fun v _ => sa_val_pl V _ v)
    have hAl : As.length = K.1.length := by rw [← f1, List.length_map]
    have vrun := vr As rest (sa_pl V (sa_sb r)) hst hargs hAl hI1 (by rw [sa_sum]; exact f5) hP1 (hD1.weaken (fun _ _ _ _ => trivial)) f6 f7
    intro T hT X
    obtain ⟨v, st₀, t, T', L, t0, X', hL, e1, e2, ⟨⟨o, ho, V', hV', hI', hoc, hPo, hDo⟩, hz, hkk⟩, stp⟩ := vrun T hT X
    rw [t0] at hz hkk
    obtain ⟨Vn, hVn⟩ : ∃ Vn : sa_V, Vn = (fun j => if j < G.length then V j else V' (K.2.2.1.length + (j - G.length))) := ⟨_, rfl⟩
    have vlt : ∀ j, j < G.length → Vn j = V j := fun j hj => by rw [hVn]; exact if_pos hj
    have vge : ∀ j, Vn (G.length + j) = V' (K.2.2.1.length + j) := fun j => by
      rw [hVn]
      show (if G.length + j < G.length then _ else _) = _
      rw [if_neg (by omega), show G.length + j - G.length = j by omega]
    have hVV : V' = sa_pl Vn (sa_g2 r K.2.2.1.length G.length) := by
      funext j
      by_cases hj : j < K.2.2.1.length
      · have hj2 := (b4 j _ (List.getElem?_eq_getElem hj)).1
        unfold sa_pl sa_g2
        rw [if_pos hj, vlt _ hj2, hV' j hj]
        rfl
      · unfold sa_pl sa_g2
        rw [if_neg hj]
        show _ = ((Vn (G.length + (j - K.2.2.1.length))).1 + 0, (Vn (G.length + (j - K.2.2.1.length))).2)
        rw [vge, show K.2.2.1.length + (j - K.2.2.1.length) = j by omega, Int.add_zero]
    have agree : ∀ v : sa_v, sa_wfv G.length v = true → sa_val Vn v = sa_val V v := by
      intro v hv
      rcases v with q | (_ | j) | j
      · show Value.int (Int32.ofInt ((Vn q.1).1 + q.2)) = _
        rw [vlt _ (of_decide_eq_true hv)]
        rfl
      · rfl
      · show Value.ref (Vn j).2.2.2 = _
        rw [vlt _ (of_decide_eq_true hv)]
        rfl
      · show Value.long (Vn j).2.1 = _
        rw [vlt _ (of_decide_eq_true hv)]
        rfl
    have agreeC : ∀ q : sa_c, sa_wfc G.length q = true → sa_e Vn dA q = sa_e V dA q := by
      intro q hq
      obtain ⟨j, o9 | a9⟩ := q
      · simp only [sa_wfc, Bool.and_eq_true, decide_eq_true_eq, List.all_eq_true] at hq
        show (sa_ad Vn j, Sum.inr (o9.1, o9.2.map (sa_val Vn))) = (sa_ad V j, Sum.inr (o9.1, o9.2.map (sa_val V)))
        unfold sa_ad
        rw [vlt _ hq.1]
        congr 3
        exact List.map_congr_left (fun v hv => agree v (hq.2 v hv))
      · simp only [sa_wfc, Bool.and_eq_true, decide_eq_true_eq] at hq
        have ha : sa_arr Vn a9.2 = sa_arr V a9.2 := by
          obtain ⟨hq1, hq2⟩ := hq
          obtain ⟨t9, l9 | q9 | l9⟩ := a9
          · have hh : ∀ q ∈ l9, q.1 < G.length := fun q hq => of_decide_eq_true (List.all_eq_true.mp hq2 q hq)
            show (l9.length, _) = (l9.length, _)
            congr 2
            funext i
            unfold sa_f
            split
            · rename_i q hq
              unfold sa_i
              rw [vlt _ (hh q (List.mem_of_getElem? hq))]
            · rfl
          · have hh : q9.2 < G.length := of_decide_eq_true hq2
            show (q9.1, _) = (q9.1, _)
            rw [vlt _ hh]
          · have hh : ∀ o ∈ l9, _ := List.all_eq_true.mp hq2
            show (l9.length, _) = (l9.length, _)
            congr 5
            funext i
            unfold sa_g
            rw [List.getD_eq_getElem?_getD]
            cases hj : l9[i]? with
            | none => rfl
            | some o =>
              cases o with
              | none => rfl
              | some k9 =>
                have hk9 : k9 < G.length := of_decide_eq_true (hh _ (List.mem_of_getElem? hj))
                show some (sa_ad _ _) = some (sa_ad _ _)
                unfold sa_ad
                rw [vlt _ hk9]
        show (sa_ad Vn j, Sum.inl (dA a9.1, sa_arr Vn a9.2)) = (sa_ad V j, Sum.inl (dA a9.1, sa_arr V a9.2))
        rw [ha]
        unfold sa_ad
        rw [vlt _ hq.1]
    -- the cells
    have hmemR : ∀ q ∈ (sa_rest cs isC).filterMap (fun i => cs[i]?), sa_wfc G.length q = true := by
      intro q hq
      obtain ⟨i, -, hi⟩ := List.mem_filterMap.mp hq
      exact List.all_eq_true.mp w3 q (List.mem_of_getElem? hi)
    have hRe : (sa_rest cs isC).map (fun i => (cs.map (sa_e V dA))[i]?) = (((sa_rest cs isC).filterMap (fun i => cs[i]?)).map (sa_e Vn dA)).map some := by
      have key : ∀ l : List Nat, (∀ i ∈ l, i < cs.length) → l.map (fun i => cs[i]?) = (l.filterMap (fun i => cs[i]?)).map some := by
        intro l
        induction l with
        | nil => intro _; rfl
        | cons i l ih =>
          intro hl
          have hi := hl i List.mem_cons_self
          rw [List.map_cons, List.filterMap_cons_some (List.getElem?_eq_getElem hi), List.map_cons, ih (fun j hj => hl j (List.mem_cons_of_mem _ hj)), List.getElem?_eq_getElem hi]
      have h1 := key (sa_rest cs isC) (fun i hi => List.mem_range.mp (List.mem_filter.mp hi).1)
      have h2 := congrArg (List.map (Option.map (sa_e V dA))) h1
      rw [List.map_map, List.map_map] at h2
      rw [List.map_map]
      refine Eq.trans (List.map_congr_left (fun i _ => ?_)) (h2.trans (List.map_congr_left (fun q hq => ?_)))
      · show (cs.map (sa_e V dA))[i]? = Option.map (sa_e V dA) cs[i]?
        rw [List.getElem?_map]
      · show some (sa_e V dA q) = some (sa_e Vn dA q)
        rw [agreeC q (hmemR q hq)]
    obtain ⟨hPj, hDj⟩ := va_join (H1 := T'.heap) hG.2.2.1 hG.2.2.2.1 isC (sa_rest cs isC) hCe hRe (sa_nd_filter _ _) (fun i hi hi2 => by
      have := (List.mem_filter.mp hi).2
      simp at this
      exact this hi2) (fun q h1 h2 => by rw [e1]; exact hkk q h1 h2) hF (by rw [← e1] at hPo; exact hPo) hDo
    have hcells : ((sa_rest cs isC).filterMap (fun i => cs[i]?) ++ o.2.1.map (sa_sc (sa_g2 r K.2.2.1.length G.length))).map (sa_e Vn dA) = ((sa_rest cs isC).filterMap (fun i => cs[i]?)).map (sa_e Vn dA) ++ o.2.1.map (sa_e V' dA) := by
      rw [List.map_append, List.map_map]
      congr 1
      apply List.map_congr_left
      intro q _
      rw [hVV]
      exact sa_e_pl Vn _ dA q
    rw [← hcells] at hPj hDj
    -- the bounds
    have hIV : sa_I Vn G := ⟨fun i b hi => by rw [vlt i (List.getElem?_eq_some_iff.mp hi).1]; exact hG.1.1.1 i b hi, by rw [vlt 0 w0]; exact hG.1.1.2⟩
    obtain ⟨hrf1, hrf2⟩ := sa_rf_ok (V := Vn) (r := r) (Go := o.2.2) (List.range K.2.2.1.length) G hIV (fun j hj b hb => by
      have hjl := List.mem_range.mp hj
      have hj2 := (b4 j _ (List.getElem?_eq_getElem hjl)).1
      have h9 := hI'.1 j b hb
      rw [hV' j hjl] at h9
      rw [vlt _ hj2]
      exact h9)
    have hIn : sa_I Vn (sa_rf r o.2.2 (List.range K.2.2.1.length) G ++ o.2.2.drop K.2.2.1.length) := by
      refine ⟨fun i b hi => ?_, hIV.2⟩
      by_cases hl : i < G.length
      · rw [List.getElem?_append_left (by rw [hrf2]; exact hl)] at hi
        exact hrf1.1 i b hi
      · rw [List.getElem?_append_right (by rw [hrf2]; omega), hrf2, List.getElem?_drop] at hi
        have h9 := hI'.1 _ b hi
        have e9 : Vn i = V' (K.2.2.1.length + (i - G.length)) := by
          have := vge (i - G.length)
          rwa [show G.length + (i - G.length) = i by omega] at this
        rw [e9]
        exact h9
    -- the state behind it
    have hk9 := k (sa_end K (pc, lo, st, cs, G, kc, ks) r isC rest o) (List.mem_filter.mpr ⟨List.mem_map.mpr ⟨o, ho, rfl⟩, List.all_eq_true.mpr (fun b hb9 => decide_eq_true (by
      obtain ⟨i9, hi9⟩ := List.getElem?_of_mem hb9
      have h9 := hIn.1 i9 b hi9
      omega))⟩)
    have hSn : va_S A s.heap T'.heap (locs ++ L) := ⟨Nat.le_trans hG.2.2.2.2.1 (by rw [e1]; exact hz), fun q h1 h2 => by rw [e1, hkk q (Nat.lt_of_lt_of_le h1 hG.2.2.2.2.1) (fun z => h2 (hF q z))]; exact hG.2.2.2.2.2.1 q h1 h2, fun q hq => by
      rcases List.mem_append.mp hq with h | h
      · exact hG.2.2.2.2.2.2 q h
      · exact hF _ (hL q h)⟩
    have hlv : sa_lv Vn lo = sa_lv V lo := List.map_congr_left (fun q hq => by rw [agree _ (List.all_eq_true.mp w1 q hq)])
    have hrs : rest.map (sa_val Vn) = rest.map (sa_val V) := List.map_congr_left (fun q hq => agree _ (List.all_eq_true.mp w2 q hq))
    have hWn := hk9 Vn T'.heap (locs ++ L) ls ⟨⟨hIn, by show n0 ≤ (sa_rf r o.2.2 (List.range K.2.2.1.length) G ++ o.2.2.drop K.2.2.1.length).length; rw [List.length_append, hrf2]; exact Nat.le_trans hG.1.2.1 (Nat.le_add_right _ _), fun j hj => by rw [vlt j (Nat.lt_of_lt_of_le hj hG.1.2.1)]; exact hG.1.2.2 j hj⟩, by show lv_has ls nL (sa_lv Vn lo); rw [hlv]; exact hG.2.1, hPj, hDj, hSn⟩
    obtain ⟨t2, a1, b1⟩ := hWn T' rfl X'
    refine ⟨t2, stp t2 ?_, b1⟩
    have hv : v = o.1.map (sa_val V') := Outcome.returned.inj hoc
    have hstk : (match o.1 with | some v => sa_sv (sa_g2 r K.2.2.1.length G.length) v :: rest | none => rest).map (sa_val Vn) = v.toList ++ rest.map (sa_val V) := by
      rw [hv]
      cases o.1 with
      | none => exact hrs
      | some u =>
        show sa_val Vn (sa_sv _ u) :: rest.map (sa_val Vn) = sa_val V' u :: rest.map (sa_val V)
        rw [hrs, sa_val_pl, ← hVV]
    have a2 : Steps p.tables e below (T'.setTop (F0 m (pc + 3) ls ((match o.1 with | some v => sa_sv (sa_g2 r K.2.2.1.length G.length) v :: rest | none => rest).map (sa_val Vn)))) t2 := a1
    rw [hstk] at a2
    exact a2
  · cases h
end SA6
end
section
section SA7
theorem sa_blind {D : va_G} {dA : Nat → ClassId} {cl : List vw_C} {sz : Nat} {V : sa_V} {K : sa_K} : FrameBlind (sa_P D dA cl sz V K) := by
  intro a U g mk q
  obtain ⟨q0, q1, qP, qU, qD⟩ := q
  exact ⟨q0, q1, qP, sa_U.same (u := U) (U := U.calling g mk a) rfl qU, qD⟩
theorem sa_pre {D : va_G} {dA : Nat → ClassId} {cl : List vw_C} {V1 : sa_V} {K : sa_K} {s : State} {H : Heap} {vs : List Value} (hU : sa_U D cl dA s) (hv : vs = K.1.map (sa_val V1)) (hP : va_P D cl (K.2.1.map (sa_e V1 dA)) H) (hD : va_D (fun _ => True) (K.2.1.map (sa_e V1 dA))) : ∀ U : State, U.heap = H → s.WarmedH U.vm → sa_P D dA cl H.size V1 K vs.toArray U :=
  fun U hUH hW => ⟨by rw [hv], by rw [hUH], by rw [hUH]; exact hP, sa_U.warm hW hU, hD⟩
/-- the words of a method: its code's, and the list's -/
theorem sa_good {Ts : List Cond} (hg : ∀ w ∈ Ts, goodWord w = true) {w : Cond} (h : w ∈ Ts) : GoodIn Ts (w :: Ts) := by
  intro u hu
  rcases List.mem_cons.mp hu with rfl | hu
  · exact ⟨h, good_of_word (hg _ h)⟩
  · exact ⟨hu, good_of_word (hg _ hu)⟩
theorem sa_goodV {Ts : List Cond} (hg : ∀ w ∈ Ts, goodWord w = true) {w : Cond} (h : w ∈ Ts) {l : List Cond} (hl : ∀ u ∈ l, u ∈ Ts) : GoodIn Ts (l ++ (w :: Ts)) := by
  intro u hu
  rcases List.mem_append.mp hu with hu | hu
  · exact ⟨hl u hu, good_of_word (hg _ (hl u hu))⟩
  · exact sa_good hg h u hu
def sa_arg (y : MethodName) (n : Nat) : Prop := y.cls ≠ "java/lang/invoke/MethodHandle" ∧ y.cls ≠ "java/lang/invoke/VarHandle" ∧ (parseMethodDescriptor y.desc).map (fun d => d.parameters.length) = some n
theorem sa_take {st As rest : List sa_v} {n : Nat} (h : st = As.reverse ++ rest) (hl : As.length = n) : (st.take n).reverse = As := by
  rw [h, List.take_append_of_le_length (by rw [List.length_reverse]; omega), List.take_of_length_le (by rw [List.length_reverse]; omega), List.reverse_reverse]
theorem sa_stk {V : sa_V} {v : sa_v} {As rest : List sa_v} : ((v :: As).reverse ++ rest).map (sa_val V) = (As.map (sa_val V)).reverse ++ sa_val V v :: rest.map (sa_val V) := by
  rw [List.reverse_cons, List.map_append, List.map_append, List.map_reverse, List.append_assoc]
  rfl
def so_callV (ci : Nat) (K : sa_K) (maxC maxS : Nat) : sa_op := fun S => match (S.2.2.1.take K.1.length).reverse with
  | .inr (.inl (some a)) :: _ => match sa_find a S.2.2.2.1 0 with
    | some (_, .inl (cj, _)) => if cj = ci then so_call K maxC maxS S else none
    | _ => none
  | _ => none
def so_callI (K : sa_K) (maxC maxS : Nat) : sa_op := fun S => match (S.2.2.1.take K.1.length).reverse with
  | .inr (.inl (some _)) :: _ => so_call K maxC maxS S
  | _ => none
theorem sn_callV {p : Program} {l : Launch} {e : Env} {R : Room} {s : State} {m : MethodId} {args : Array Value} {below : List Frame} {meth : Method} {c : Code} {Q : State → Prop} {D : va_G} {dA : Nat → ClassId} {A : Nat → Prop} {nL : Nat} {cl : List vw_C} {n0 : Nat} {V0 : sa_V} {Ts : List Cond} {cc : ByteArray} {own : String} (C0 : sa_C p s m args c D dA A nL cl Ts cc own) {pc : Nat} {K : sa_K} {y : MethodName} {cy : ByteArray} {mL fr lc idx n maxC maxS : Nat} {ret : Option FieldType} {ci N : Nat} {T : u_T} (hU : sa_U D cl dA s) (hg : ∀ w ∈ Ts, goodWord w = true) (hM : sa_Met l cl Ts y cy mL ret fr lc K) (hcode : Cond.code y cy mL ret ∈ Ts) (hd : decode cc pc = .ok (.invokevirtual idx, 3)) (w1 : Cond.methodLink own idx y ∈ Ts) (w2 : Cond.instanceMethod y ∈ Ts) (w3 : Cond.selects y.cls y y ∈ Ts) (w4 : Cond.initialized y.cls ∈ Ts) (hcl : cl[ci]? = some (y.cls, T, N)) (hy : sa_arg y n) (hn : K.1.length = n + 1) (hR : fr + 1 ≤ R.frames ∧ 8 + (mL + 11) + lc ≤ R.locals) (hC : maxC ≤ R.cells) (hS0 : maxS ≤ R.slots) : sa_snd p l e R s m args below meth c Q D dA A nL cl n0 V0 pc (so_callV ci K maxC maxS) := by
  obtain ⟨hx, hb, hts, hown, hml, hK, hA⟩ := C0
  rintro ⟨pc, lo, st, cs, G, kc, ks⟩ sts rfl h k V H locs ls hG
  unfold so_callV at h
  dsimp only at h
  split at h
  · rename_i b As0 heq
    split at h
    · rename_i j cj fs hj
      split at h
      · rename_i hcj
        subst hcj
        refine sa_call_ok (a := #[]) hA h k hG (fun As rest V1 hst hargs hAl hI1 hsum hP1 hD1 hc1 hs1 => ?_)
        have e1 := (sa_take hst hAl).symm.trans heq
        subst e1
        have rv := va_recv (D := D) hK hG.2.2.1 hcl (sa_find_0 (V := V) (dA := dA) hj)
        exact va_runV (C := y.cls) (bytes := cy) (maxL := mL) (ret := ret) (b := sa_ad V b) (As := As0.map (sa_val V)) (n := n) ⟨hx, hb, hml, hown, hts⟩ (hM D dA H.size V1 hI1) (cwV n hts (sa_goodV hg hcode (by intro u hu; simp only [List.mem_cons, List.not_mem_nil, or_false] at hu; rcases hu with rfl | rfl | rfl | rfl <;> assumption)) rfl rfl rfl ⟨rfl, hy⟩ hR) ⟨sa_blind, rv, sa_pre hU hargs hP1 hD1⟩ rfl (by rw [List.length_map]; rw [List.length_cons] at hAl; omega) hG.2.1.1 (by show st.map (sa_val V) = _; rw [show st = _ from hst]; exact sa_stk) (lv_room hsum) hd ⟨Nat.le_trans hc1 hC, Nat.le_trans hs1 hS0⟩
      · cases h
    · cases h
  · cases h
theorem sn_callVN {p : Program} {l : Launch} {e : Env} {R : Room} {s : State} {m : MethodId} {args : Array Value} {below : List Frame} {meth : Method} {c : Code} {Q : State → Prop} {D : va_G} {dA : Nat → ClassId} {A : Nat → Prop} {nL : Nat} {cl : List vw_C} {n0 : Nat} {V0 : sa_V} {Ts : List Cond} {cc : ByteArray} {own : String} (C0 : sa_C p s m args c D dA A nL cl Ts cc own) {pc : Nat} {K : sa_K} {y : MethodName} {cy : ByteArray} {mL fr lc idx n maxC maxS : Nat} {ret : Option FieldType} {ci N : Nat} {T : u_T} {host : String} (hU : sa_U D cl dA s) (hg : ∀ w ∈ Ts, goodWord w = true) (hM : sa_Met l cl Ts y cy mL ret fr lc K) (hcode : Cond.code y cy mL ret ∈ Ts) (hd : decode cc pc = .ok (.invokevirtual idx, 3)) (w1 : (own, idx, y, host) ∈ sa_NL) (w2 : Cond.instanceMethod y ∈ Ts) (w3 : Cond.selects y.cls y y ∈ Ts) (w4 : Cond.initialized y.cls ∈ Ts) (hcl : cl[ci]? = some (y.cls, T, N)) (hy : sa_arg y n) (hn : K.1.length = n + 1) (hR : fr + 1 ≤ R.frames ∧ 8 + (mL + 11) + lc ≤ R.locals) (hC : maxC ≤ R.cells) (hS0 : maxS ≤ R.slots) : sa_snd p l e R s m args below meth c Q D dA A nL cl n0 V0 pc (so_callV ci K maxC maxS) := by
  obtain ⟨hx, hb, hts, hown, hml, hK, hA⟩ := C0
  rintro ⟨pc, lo, st, cs, G, kc, ks⟩ sts rfl h k V H locs ls hG
  unfold so_callV at h
  dsimp only at h
  split at h
  · rename_i b As0 heq
    split at h
    · rename_i j cj fs hj
      split at h
      · rename_i hcj
        subst hcj
        refine sa_call_ok (a := #[]) hA h k hG (fun As rest V1 hst hargs hAl hI1 hsum hP1 hD1 hc1 hs1 => ?_)
        have e1 := (sa_take hst hAl).symm.trans heq
        subst e1
        have rv := va_recv (D := D) hK hG.2.2.1 hcl (sa_find_0 (V := V) (dA := dA) hj)
        exact va_runVN (C := y.cls) (host := host) (bytes := cy) (maxL := mL) (ret := ret) (b := sa_ad V b) (As := As0.map (sa_val V)) (n := n) ⟨hx, hb, hml, hown, hts⟩ (hM D dA H.size V1 hI1) ⟨va_cnB n hts (sa_good hg hcode) rfl rfl rfl (hU.2.2.2 _ w1) (hts _ w4) hy hR, hts _ w2, hts _ w3⟩ ⟨sa_blind, rv, sa_pre hU hargs hP1 hD1⟩ rfl (by rw [List.length_map]; rw [List.length_cons] at hAl; omega) hG.2.1.1 (by show st.map (sa_val V) = _; rw [show st = _ from hst]; exact sa_stk) (lv_room hsum) hd ⟨Nat.le_trans hc1 hC, Nat.le_trans hs1 hS0⟩
      · cases h
    · cases h
  · cases h
theorem sn_callI {p : Program} {l : Launch} {e : Env} {R : Room} {s : State} {m : MethodId} {args : Array Value} {below : List Frame} {meth : Method} {c : Code} {Q : State → Prop} {D : va_G} {dA : Nat → ClassId} {A : Nat → Prop} {nL : Nat} {cl : List vw_C} {n0 : Nat} {V0 : sa_V} {Ts : List Cond} {cc : ByteArray} {own : String} (C0 : sa_C p s m args c D dA A nL cl Ts cc own) {pc : Nat} {K : sa_K} {y : MethodName} {cy : ByteArray} {mL fr lc idx n maxC maxS : Nat} {ret : Option FieldType}  (hU : sa_U D cl dA s) (hg : ∀ w ∈ Ts, goodWord w = true) (hM : sa_Met l cl Ts y cy mL ret fr lc K) (hcode : Cond.code y cy mL ret ∈ Ts) (hd : decode cc pc = .ok (.invokespecial idx, 3)) (w1 : Cond.methodLink own idx y ∈ Ts) (w2 : Cond.instanceMethod y ∈ Ts) (w4 : Cond.initialized y.cls ∈ Ts) (hy1 : y.name = "<init>") (hret : ret = none) (hy : sa_arg y n) (hn : K.1.length = n + 1) (hR : fr + 1 ≤ R.frames ∧ 8 + (mL + 11) + lc ≤ R.locals) (hC : maxC ≤ R.cells) (hS0 : maxS ≤ R.slots) : sa_snd p l e R s m args below meth c Q D dA A nL cl n0 V0 pc (so_callI K maxC maxS) := by
  obtain ⟨hx, hb, hts, hown, hml, hK, hA⟩ := C0
  rintro ⟨pc, lo, st, cs, G, kc, ks⟩ sts rfl h k V H locs ls hG
  unfold so_callI at h
  dsimp only at h
  split at h
  · rename_i b As0 heq
    refine sa_call_ok (a := #[]) hA h k hG (fun As rest V1 hst hargs hAl hI1 hsum hP1 hD1 hc1 hs1 => ?_)
    have e1 := (sa_take hst hAl).symm.trans heq
    subst e1
    exact va_runI (bytes := cy) (maxL := mL) (b := sa_ad V b) (As := As0.map (sa_val V)) (n := n) ⟨hx, hb, hml, hown, hts⟩ (hM D dA H.size V1 hI1) (by subst hret; exact cwI n hts (sa_good hg hcode) rfl rfl rfl (hts _ w4) (hts _ w1) (hts _ w2) hy1 hy hR) ⟨sa_blind, sa_pre hU hargs hP1 hD1⟩ rfl (by rw [List.length_map]; rw [List.length_cons] at hAl; omega) hG.2.1.1 (by show st.map (sa_val V) = _; rw [show st = _ from hst]; exact sa_stk) (lv_room hsum) hd ⟨Nat.le_trans hc1 hC, Nat.le_trans hs1 hS0⟩
  · cases h
theorem sn_callIN {p : Program} {l : Launch} {e : Env} {R : Room} {s : State} {m : MethodId} {args : Array Value} {below : List Frame} {meth : Method} {c : Code} {Q : State → Prop} {D : va_G} {dA : Nat → ClassId} {A : Nat → Prop} {nL : Nat} {cl : List vw_C} {n0 : Nat} {V0 : sa_V} {Ts : List Cond} {cc : ByteArray} {own : String} (C0 : sa_C p s m args c D dA A nL cl Ts cc own) {pc : Nat} {K : sa_K} {y : MethodName} {cy : ByteArray} {mL fr lc idx n maxC maxS : Nat} {ret : Option FieldType} {host : String} (hU : sa_U D cl dA s) (hg : ∀ w ∈ Ts, goodWord w = true) (hM : sa_Met l cl Ts y cy mL ret fr lc K) (hcode : Cond.code y cy mL ret ∈ Ts) (hd : decode cc pc = .ok (.invokespecial idx, 3)) (w1 : (own, idx, y, host) ∈ sa_NL) (w2 : Cond.instanceMethod y ∈ Ts) (w4 : Cond.initialized y.cls ∈ Ts) (hy1 : y.name = "<init>") (hret : ret = none) (hy : sa_arg y n) (hn : K.1.length = n + 1) (hR : fr + 1 ≤ R.frames ∧ 8 + (mL + 11) + lc ≤ R.locals) (hC : maxC ≤ R.cells) (hS0 : maxS ≤ R.slots) : sa_snd p l e R s m args below meth c Q D dA A nL cl n0 V0 pc (so_callI K maxC maxS) := by
  obtain ⟨hx, hb, hts, hown, hml, hK, hA⟩ := C0
  rintro ⟨pc, lo, st, cs, G, kc, ks⟩ sts rfl h k V H locs ls hG
  unfold so_callI at h
  dsimp only at h
  split at h
  · rename_i b As0 heq
    refine sa_call_ok (a := #[]) hA h k hG (fun As rest V1 hst hargs hAl hI1 hsum hP1 hD1 hc1 hs1 => ?_)
    have e1 := (sa_take hst hAl).symm.trans heq
    subst e1
    exact va_runIN (host := host) (bytes := cy) (maxL := mL) (b := sa_ad V b) (As := As0.map (sa_val V)) (n := n) ⟨hx, hb, hml, hown, hts⟩ (hM D dA H.size V1 hI1) (by subst hret; exact ⟨va_cnB n hts (sa_good hg hcode) rfl rfl rfl (hU.2.2.2 _ w1) (hts _ w4) hy hR, hy1, hts _ w2⟩) ⟨sa_blind, sa_pre hU hargs hP1 hD1⟩ rfl (by rw [List.length_map]; rw [List.length_cons] at hAl; omega) hG.2.1.1 (by show st.map (sa_val V) = _; rw [show st = _ from hst]; exact sa_stk) (lv_room hsum) hd ⟨Nat.le_trans hc1 hC, Nat.le_trans hs1 hS0⟩
  · cases h
theorem sn_callS {p : Program} {l : Launch} {e : Env} {R : Room} {s : State} {m : MethodId} {args : Array Value} {below : List Frame} {meth : Method} {c : Code} {Q : State → Prop} {D : va_G} {dA : Nat → ClassId} {A : Nat → Prop} {nL : Nat} {cl : List vw_C} {n0 : Nat} {V0 : sa_V} {Ts : List Cond} {cc : ByteArray} {own : String} (C0 : sa_C p s m args c D dA A nL cl Ts cc own) {pc : Nat} {K : sa_K} {y : MethodName} {cy : ByteArray} {mL fr lc idx n maxC maxS : Nat} {ret : Option FieldType}  (hU : sa_U D cl dA s) (hg : ∀ w ∈ Ts, goodWord w = true) (hM : sa_Met l cl Ts y cy mL ret fr lc K) (hcode : Cond.code y cy mL ret ∈ Ts) (hd : decode cc pc = .ok (.invokestatic idx, 3)) (w1 : Cond.methodLink own idx y ∈ Ts) (w2 : Cond.static y ∈ Ts) (w4 : Cond.initialized y.cls ∈ Ts) (hy : sa_arg y n) (hn : K.1.length = n) (hR : fr + 1 ≤ R.frames ∧ 8 + (mL + 11) + lc ≤ R.locals) (hC : maxC ≤ R.cells) (hS0 : maxS ≤ R.slots) : sa_snd p l e R s m args below meth c Q D dA A nL cl n0 V0 pc (so_call K maxC maxS) := by
  obtain ⟨hx, hb, hts, hown, hml, hK, hA⟩ := C0
  rintro ⟨pc, lo, st, cs, G, kc, ks⟩ sts rfl h k V H locs ls hG
  refine sa_call_ok (a := #[]) hA h k hG (fun As rest V1 hst hargs hAl hI1 hsum hP1 hD1 hc1 hs1 => ?_)
  exact va_runS (bytes := cy) (maxL := mL) (ret := ret) (As := As.map (sa_val V)) (n := n) ⟨hx, hb, hml, hown, hts⟩ (hM D dA H.size V1 hI1) (va_cwS n hts (sa_goodV hg hcode (by intro u hu; simp only [List.mem_cons, List.not_mem_nil, or_false] at hu; rcases hu with rfl | rfl | rfl <;> assumption)) rfl rfl rfl hy hR) ⟨sa_blind, sa_pre hU hargs hP1 hD1⟩ rfl (by rw [List.length_map, hAl, hn]) hG.2.1.1 (by show st.map (sa_val V) = _; rw [show st = _ from hst, List.map_append, List.map_reverse]) (lv_room hsum) hd ⟨Nat.le_trans hc1 hC, Nat.le_trans hs1 hS0⟩
theorem sn_callSN {p : Program} {l : Launch} {e : Env} {R : Room} {s : State} {m : MethodId} {args : Array Value} {below : List Frame} {meth : Method} {c : Code} {Q : State → Prop} {D : va_G} {dA : Nat → ClassId} {A : Nat → Prop} {nL : Nat} {cl : List vw_C} {n0 : Nat} {V0 : sa_V} {Ts : List Cond} {cc : ByteArray} {own : String} (C0 : sa_C p s m args c D dA A nL cl Ts cc own) {pc : Nat} {K : sa_K} {y : MethodName} {cy : ByteArray} {mL fr lc idx n maxC maxS : Nat} {ret : Option FieldType} {host : String} (hU : sa_U D cl dA s) (hg : ∀ w ∈ Ts, goodWord w = true) (hM : sa_Met l cl Ts y cy mL ret fr lc K) (hcode : Cond.code y cy mL ret ∈ Ts) (hd : decode cc pc = .ok (.invokestatic idx, 3)) (w1 : (own, idx, y, host) ∈ sa_NL) (w2 : Cond.static y ∈ Ts) (w4 : Cond.initialized y.cls ∈ Ts) (hy : sa_arg y n) (hn : K.1.length = n) (hR : fr + 1 ≤ R.frames ∧ 8 + (mL + 11) + lc ≤ R.locals) (hC : maxC ≤ R.cells) (hS0 : maxS ≤ R.slots) : sa_snd p l e R s m args below meth c Q D dA A nL cl n0 V0 pc (so_call K maxC maxS) := by
  obtain ⟨hx, hb, hts, hown, hml, hK, hA⟩ := C0
  rintro ⟨pc, lo, st, cs, G, kc, ks⟩ sts rfl h k V H locs ls hG
  refine sa_call_ok (a := #[]) hA h k hG (fun As rest V1 hst hargs hAl hI1 hsum hP1 hD1 hc1 hs1 => ?_)
  exact va_runSN (host := host) (bytes := cy) (maxL := mL) (ret := ret) (As := As.map (sa_val V)) (n := n) ⟨hx, hb, hml, hown, hts⟩ (hM D dA H.size V1 hI1) ⟨va_cnB n hts (sa_good hg hcode) rfl rfl rfl (hU.2.2.2 _ w1) (hts _ w4) hy hR, hts _ w2, trivial⟩ ⟨sa_blind, sa_pre hU hargs hP1 hD1⟩ rfl (by rw [List.length_map, hAl, hn]) hG.2.1.1 (by show st.map (sa_val V) = _; rw [show st = _ from hst, List.map_append, List.map_reverse]) (lv_room hsum) hd ⟨Nat.le_trans hc1 hC, Nat.le_trans hs1 hS0⟩
def so_obj : sa_op := fun S => match S.2.2.1 with
  | .inr (.inl (some _)) :: rest => if (rest.map sa_cat).sum ≤ 8 then some [(S.1 + 3, S.2.1, rest, S.2.2.2)] else none
  | _ => none
theorem sn_obj {p : Program} {l : Launch} {e : Env} {R : Room} {s : State} {m : MethodId} {args : Array Value} {below : List Frame} {meth : Method} {c : Code} {Q : State → Prop} {D : va_G} {dA : Nat → ClassId} {A : Nat → Prop} {nL : Nat} {cl : List vw_C} {n0 : Nat} {V0 : sa_V} {Ts : List Cond} {cc : ByteArray} {own : String} (C0 : sa_C p s m args c D dA A nL cl Ts cc own) {pc idx : Nat} (hd : decode cc pc = .ok (.invokespecial idx, 3)) (w1 : Cond.methodLink own idx Lib.objectInit ∈ Ts) (w2 : Cond.instanceMethod Lib.objectInit ∈ Ts) (w3 : Cond.code Lib.objectInit ⟨#[0xb1]⟩ 1 none ∈ Ts) (hR1 : 1 ≤ R.frames) (hR2 : 20 ≤ R.locals) : sa_snd p l e R s m args below meth c Q D dA A nL cl n0 V0 pc so_obj := by
  obtain ⟨hx, hb, hts, hown, hml, hK, hA⟩ := C0
  rintro ⟨pc, lo, st, cs, G, kc, ks⟩ sts rfl h k V H locs ls hG
  unfold so_obj at h
  dsimp only at h
  split at h
  · rename_i a rest
    split at h
    · rename_i h1
      cases h
      refine W.objInit hx hb hown (hts _ w1) (hts _ w2) (hts _ w3) rfl (by rw [hml]; exact hG.2.1.1) rfl hd hR1 ?_ (k _ List.mem_cons_self V H locs ls hG)
      have e1 := sa_sum V rest
      have e2 := lv_room (m := m) (pc := pc) (ls := ls) (rest := rest.map (sa_val V)) (st := rest.map (sa_val V)) (by rw [e1]; exact h1)
      have e3 : 2 * (F0 m pc ls (List.map (sa_val V) (.inr (.inl (some a)) :: rest))).monitorRoom + ((rest.map (sa_val V)).map (fun v => v.category)).sum ≤ 8 := e2
      exact Nat.le_trans (Nat.add_le_add_right e3 12) hR2
    · cases h
  · cases h
end SA7
end
section
section SA8
def sa_args : Nat → List sa_v → sa_L
  | _, [] => []
  | i, v :: vs => (i, v) :: sa_args (if sa_cat v = 2 then i + 2 else i + 1) vs
theorem sa_args_lv (V : sa_V) : ∀ (i : Nat) (vs : List sa_v), lv_args i (vs.map (sa_val V)) = sa_lv V (sa_args i vs)
  | _, [] => rfl
  | i, v :: vs => by
    show (i, sa_val V v) :: lv_args (if (sa_val V v).category = 2 then i + 2 else i + 1) (vs.map (sa_val V)) = (i, sa_val V v) :: sa_lv V (sa_args (if sa_cat v = 2 then i + 2 else i + 1) vs)
    rw [sa_cat_val, sa_args_lv V _ vs]
theorem sa_sl_len (V : sa_V) : ∀ vs : List sa_v, (lg_sl (vs.map (sa_val V))).length = (vs.map sa_cat).sum
  | [] => rfl
  | v :: vs => by
    have e := sa_sl_len V vs
    unfold lg_sl at e ⊢
    rw [List.map_cons, List.flatMap_cons, List.length_append, e, List.map_cons, List.sum_cons, sa_cat_val]
    rcases v with q | (_ | k) | j <;> rfl
def sa_fd (pc : Nat) : List (Nat × sa_op) → Option sa_op
  | [] => none
  | q :: l => if q.1 = pc then some q.2 else sa_fd pc l
theorem sa_fd_mem {pc : Nat} {op : sa_op} : ∀ {l : List (Nat × sa_op)}, sa_fd pc l = some op → (pc, op) ∈ l
  | [], h => by cases h
  | q :: l, h => by
    unfold sa_fd at h
    split at h
    · rename_i h1
      cases h
      rw [← h1]
      exact List.mem_cons_self
    · exact List.mem_cons_of_mem _ (sa_fd_mem h)
def sa_ri : Option FieldType → Instr
  | none => .return_
  | some _ => .ireturn
def sa_keep (cs : List sa_c) (w : List sa_c) : List Nat := w.map (fun q => sa_idx cs q.1)
def sa_fin (rets : List Nat) (t : Option FieldType) (K : sa_K) (S : sa_S) : Bool :=
  rets.contains S.1 && decide (S.2.2.2.2.2.1 ≤ K.2.2.2.2.1) && decide (S.2.2.2.2.2.2 ≤ K.2.2.2.2.2) && K.2.2.2.1.any (fun o => (match t, S.2.2.1, o.1 with
    | some ty, [.inl q], some (.inl u) => decide (q = u) && sa_fit S.2.2.2.2.1 ty (.inl q)
    | none, [], none => true
    | _, _, _ => false) && decide (o.2.2 = S.2.2.2.2.1) && va_nd (sa_keep S.2.2.2.1 o.2.1) && sa_eql ((sa_keep S.2.2.2.1 o.2.1).map (fun i => S.2.2.2.1[i]?)) o.2.1)
theorem sa_keep_ok {D : va_G} {cl : List vw_C} {A : Nat → Prop} {V : sa_V} {dA : Nat → ClassId} {cs w : List sa_c} {H : Heap} (hP : va_P D cl (cs.map (sa_e V dA)) H) (hD : va_D A (cs.map (sa_e V dA))) (h1 : va_nd (sa_keep cs w) = true) (h2 : sa_eql ((sa_keep cs w).map (fun i => cs[i]?)) w = true) : va_P D cl (w.map (sa_e V dA)) H ∧ va_D A (w.map (sa_e V dA)) := by
  have e : (sa_keep cs w).map (fun i => (cs.map (sa_e V dA))[i]?) = (w.map (sa_e V dA)).map some := by
    have := congrArg (List.map (Option.map (sa_e V dA))) (sa_eql_ok h2)
    rw [List.map_map, List.map_map] at this
    rw [List.map_map]
    refine Eq.trans (List.map_congr_left (fun i _ => ?_)) this
    show (cs.map (sa_e V dA))[i]? = Option.map (sa_e V dA) cs[i]?
    rw [List.getElem?_map]
  exact ⟨hP.sub _ (sa_fm e), hD.sub _ h1 e⟩
/-- the end of a method -/
theorem sa_fin_ok {p : Program} {l : Launch} {e : Env} {R : Room} {s : State} {m : MethodId} {args : Array Value} {below : List Frame} {meth : Method} {c : Code} {D : va_G} {dA : Nat → ClassId} {A : Nat → Prop} {nL : Nat} {cl : List vw_C} {V0 : sa_V} {K : sa_K} {cc : ByteArray} {rets : List Nat} {t : Option FieldType}
    (hx : p.tables.exec = Jvm.exec) (hb : c.code = cc) (hlocks : meth.locks = false) (hr : meth.sig.returnType = t) (hA : A = va_A (K.2.1.map (sa_e V0 dA)) s.heap.size) (hd : ∀ pc ∈ rets, decode cc pc = .ok (sa_ri t, 1))
    (S : sa_S) (h : sa_fin rets t K S = true) : sa_W p l e R s m args below meth c (MQ below (sa_Q D dA cl s.heap.size V0 K) args s K.2.2.2.2.1 K.2.2.2.2.2 A) D dA A nL cl K.2.2.1.length V0 S := by
  obtain ⟨pc, lo, st, cs, G, kc, ks⟩ := S
  intro V H locs ls hG
  simp only [sa_fin, Bool.and_eq_true, decide_eq_true_eq, List.any_eq_true] at h
  obtain ⟨⟨⟨h1, h2⟩, h3⟩, o, ho, ⟨⟨h4, h5⟩, h6⟩, h7⟩ := h
  have hpc : pc ∈ rets := by simpa using h1
  obtain ⟨hP9, hD9⟩ := sa_keep_ok hG.2.2.1 hG.2.2.2.1 h6 h7
  refine W.widen (k := K.2.2.2.2.1) (n := K.2.2.2.2.2) h2 h3 ?_
  have hI : sa_I V o.2.2 := by rw [h5]; exact hG.1.1
  have hq : ∀ (oc : Outcome) (t9 : State), t9.heap = H → oc = .returned (o.1.map (sa_val V)) → sa_Q D dA cl s.heap.size V0 K args s oc t9 := by
    intro oc t9 ht9 hoc
    subst hA
    exact ⟨⟨o, ho, V, hG.1.2.2, hI, hoc, by rw [ht9]; exact hP9, hD9⟩, hG.2.2.2.2.F ht9⟩
  have hd1 := hd pc hpc
  clear hd
  split at h4
  · rename_i ty q u he2
    rw [Bool.and_eq_true] at h4
    obtain ⟨h8, h9⟩ := h4
    have h8 := of_decide_eq_true h8
    subst h8
    obtain ⟨n1, n2⟩ := sa_fit_ok (V := V) hG.1.1 h9
    refine W.zret (v := sa_i V q) hx hb hr n1 (fun t9 ht9 _ => hq _ t9 ht9 ?_) (fun q9 hq9 => hG.2.2.2.2.2.2 q9 hq9) hd1
    rw [he2]
    rfl
  · rename_i he2
    refine W.vret hx hb hr (fun t9 ht9 _ => hq _ t9 ht9 ?_) (fun q9 hq9 => hG.2.2.2.2.2.2 q9 hq9) hd1
    rw [he2]
    rfl
  · cases h4
/-- A METHOD, out of its run over signs -/
theorem sa_method {l : Launch} {cl : List vw_C} {Ts : List Cond} {y : MethodName} {cc : ByteArray} {mL : Nat} {ret : Option FieldType} {fr lc : Nat} {K : sa_K} (hy : plainName y.cls = true) (rets : List Nat) (tab : List (Nat × sa_op)) (fuel : Nat)
    (hd : ∀ pc ∈ rets, decode cc pc = .ok (sa_ri ret, 1))
    (hops : ∀ (p : Program) (e : Env) (s : State) (m : MethodId) (args : Array Value) (below : List Frame) (meth : Method) (c : Code) (Q : State → Prop) (D : va_G) (dA : Nat → ClassId) (A : Nat → Prop) (n0 : Nat) (V0 : sa_V), sa_C p s m args c D dA A mL cl Ts cc y.cls → sa_U D cl dA s → meth.name = y.name → ∀ q ∈ tab, sa_snd p l e { frames := fr, cells := K.2.2.2.2.1, slots := K.2.2.2.2.2, locals := lc } s m args below meth c Q D dA A mL cl n0 V0 q.1 q.2)
    (hlen : (K.1.map sa_cat).sum ≤ mL) (hrun : sa_run (fun pc => sa_fd pc tab) (sa_fin rets ret K) fuel (0, sa_args 0 K.1, [], K.2.1, K.2.2.1, 0, 0) = true) : sa_Met l cl Ts y cc mL ret fr lc K := by
  intro D dA sz V hI
  refine Met.ofW (cc := cc) (maxL := mL) (ret := ret) hy rfl ?_
  intro p e s m args below meth c s₁ B hml hv
  obtain ⟨hargs, hsz, hP, hU, hD0⟩ := hv
  subst hargs
  have hts0 := atoms_spec (ws := Cond.code y cc mL ret :: Ts) B.pre
  have hown : s.vm.findClass y.cls = some m.cls := findClass_of_methodNamed B.named
  have hin : meth.name = y.name := (name_of_methodNamed B.named B.method).1
  subst hsz
  have hD := hD0.self (sz := s.heap.size)
  have hS : va_S (va_A (K.2.1.map (sa_e V dA)) s.heap.size) s.heap s.heap [] := va_S.rf
  have hl := lv_entry (K.1.map (sa_val V)) (n := mL) (by rw [sa_sl_len]; exact hlen)
  rw [sa_args_lv] at hl
  rw [lg_entry_eq]
  have hC : sa_C p s m (K.1.map (sa_val V)).toArray c D dA (va_A (K.2.1.map (sa_e V dA)) s.heap.size) mL cl Ts cc y.cls := ⟨B.exec, B.bytes, fun w hw => hts0 w (List.mem_cons_of_mem _ hw), hown, hml, hU.1, fun q h => Or.inr h⟩
  have hW := sa_run_ok (p := p) (l := l) (e := e) (R := { frames := fr, cells := K.2.2.2.2.1, slots := K.2.2.2.2.2, locals := lc }) (s := s) (m := m) (args := (K.1.map (sa_val V)).toArray) (below := below) (meth := meth) (c := c) (Q := MQ below (sa_Q D dA cl s.heap.size V K) (K.1.map (sa_val V)).toArray s K.2.2.2.2.1 K.2.2.2.2.2 (va_A (K.2.1.map (sa_e V dA)) s.heap.size)) (D := D) (dA := dA) (A := va_A (K.2.1.map (sa_e V dA)) s.heap.size) (nL := mL) (cl := cl) (n0 := K.2.2.1.length) (V0 := V)
    (fun pc op h => hops p e s m _ below meth c _ D dA _ _ V hC hU hin (pc, op) (sa_fd_mem h)) (fun S _ h => sa_fin_ok B.exec B.bytes B.notSynchronized B.returns rfl hd S h) fuel _ hrun
  exact hW V s.heap [] _ ⟨⟨hI, Nat.le_refl _, fun _ _ => rfl⟩, hl, hP, hD, hS⟩
end SA8
end
section
theorem i_vc : Claimed_1_1 ∧ Claimed_1_2 := sorry
end
