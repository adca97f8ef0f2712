/-! A machine over signs: ints are a sign and a number beside it, each sign has its bounds, cells hold signs; what it does is what the machine does (own work). -/
section SA0
abbrev sa_v : Type := (Nat × Int) ⊕ (Option Nat ⊕ Nat)
abbrev sa_x : Type := Int × Int64 × (Nat → Int64) × Nat
abbrev sa_V : Type := Nat → sa_x
noncomputable def sa_i (V : sa_V) (q : Nat × Int) : Int32 := Int32.ofInt ((V q.1).1 + q.2)
noncomputable def sa_ad (V : sa_V) (k : Nat) : Nat := (V k).2.2.2
noncomputable def sa_val (V : sa_V) : sa_v → Value
  | .inl q => .int (sa_i V q)
  | .inr (.inl none) => .null
  | .inr (.inl (some k)) => .ref (sa_ad V k)
  | .inr (.inr j) => .long (V j).2.1
noncomputable def sa_f (V : sa_V) (l : List (Nat × Int)) (j : Nat) : Int32 := match l[j]? with
  | some q => sa_i V q
  | none => 0
noncomputable def sa_g (V : sa_V) (l : List (Option Nat)) (j : Nat) : Option Nat := (l.getD j none).map (sa_ad V)
abbrev sa_a : Type := List (Nat × Int) ⊕ ((Nat × Nat) ⊕ List (Option Nat))
noncomputable def sa_arr (V : sa_V) : sa_a → vp_A
  | .inl l => (l.length, .inl (sa_f V l))
  | .inr (.inl q) => (q.1, .inr (.inl (V q.2).2.2.1))
  | .inr (.inr l) => (l.length, .inr (.inr (.inr (.inr (sa_g V l)))))
abbrev sa_c : Type := Nat × ((Nat × List sa_v) ⊕ (Nat × sa_a))
noncomputable def sa_el (V : sa_V) (dA : Nat → ClassId) : ((Nat × List sa_v) ⊕ (Nat × sa_a)) → va_E
  | .inl o => .inr (o.1, o.2.map (sa_val V))
  | .inr a => .inl (dA a.1, sa_arr V a.2)
noncomputable def sa_e (V : sa_V) (dA : Nat → ClassId) (q : sa_c) : Nat × va_E := (sa_ad V q.1, sa_el V dA q.2)
abbrev sa_L : Type := List (Nat × sa_v)
abbrev sa_B : Type := List (Int × Int)
/-- pc, locals, stack, cells, bounds, cells made, slots made -/
abbrev sa_S : Type := Nat × sa_L × List sa_v × List sa_c × sa_B × Nat × Nat
noncomputable def sa_lv (V : sa_V) (lo : sa_L) : List (Nat × Value) := lo.map (fun q => (q.1, sa_val V q.2))
noncomputable def sa_I (V : sa_V) (G : sa_B) : Prop := (∀ (i : Nat) (b : Int × Int), G[i]? = some b → b.1 ≤ (V i).1 ∧ (V i).1 ≤ b.2) ∧ (V 0).1 = 0
/-- and the first n0 signs mean what they meant at the start -/
noncomputable def sa_J (n0 : Nat) (V0 V : sa_V) (G : sa_B) : Prop := sa_I V G ∧ n0 ≤ G.length ∧ ∀ k, k < n0 → V k = V0 k
noncomputable def sa_G (D : va_G) (dA : Nat → ClassId) (A : Nat → Prop) (nL : Nat) (cl : List vw_C) (n0 : Nat) (V0 : sa_V) (H0 : Heap) (V : sa_V) (lo : sa_L) (cs : List sa_c) (G : sa_B) (H : Heap) (locs : List Loc) (ls : Array Slot) : Prop :=
  sa_J n0 V0 V G ∧ lv_has ls nL (sa_lv V lo) ∧ va_P D cl (cs.map (sa_e V dA)) H ∧ va_D A (cs.map (sa_e V dA)) ∧ va_S A H0 H locs
noncomputable def sa_W (p : Program) (l : Launch) (e : Env) (R : Room) (s : State) (m : MethodId) (args : Array Value) (below : List Frame) (meth : Method) (c : Code) (Q : State → Prop) (D : va_G) (dA : Nat → ClassId) (A : Nat → Prop) (nL : Nat) (cl : List vw_C) (n0 : Nat) (V0 : sa_V) (S : sa_S) : Prop :=
  ∀ (V : sa_V) (H : Heap) (locs : List Loc) (ls : Array Slot), sa_G D dA A nL cl n0 V0 s.heap V S.2.1 S.2.2.2.1 S.2.2.2.2.1 H locs ls → W p l e R s m args below meth c H locs S.2.2.2.2.2.1 S.2.2.2.2.2.2 Q (F0 m S.1 ls (S.2.2.1.map (sa_val V)))
abbrev sa_op : Type := sa_S → Option (List sa_S)
noncomputable def sa_snd (p : Program) (l : Launch) (e : Env) (R : Room) (s : State) (m : MethodId) (args : Array Value) (below : List Frame) (meth : Method) (c : Code) (Q : State → Prop) (D : va_G) (dA : Nat → ClassId) (A : Nat → Prop) (nL : Nat) (cl : List vw_C) (n0 : Nat) (V0 : sa_V) (pc : Nat) (op : sa_op) : Prop :=
  ∀ (S : sa_S) (sts : List sa_S), S.1 = pc → op S = some sts → (∀ S' ∈ sts, sa_W p l e R s m args below meth c Q D dA A nL cl n0 V0 S') → sa_W p l e R s m args below meth c Q D dA A nL cl n0 V0 S
noncomputable def sa_tys (dA : Nat → ClassId) : List (ClassId × FieldType) := [(dA 0, .int), (dA 1, .byte), (dA 2, .long), (dA 3, .boolean), (dA 4, .object "OffThenOn$World"), (dA 5, .object "OffThenOn$State")]
/-- what every row needs of its method -/
noncomputable def sa_C (p : Program) (s : State) (m : MethodId) (args : Array Value) (c : Code) (D : va_G) (dA : Nat → ClassId) (A : Nat → Prop) (nL : Nat) (cl : List vw_C) (Ts : List Cond) (cc : ByteArray) (own : String) : Prop :=
  p.tables.exec = Jvm.exec ∧ c.code = cc ∧ (∀ w ∈ Ts, w.before args s = true) ∧ s.vm.findClass own = some m.cls ∧ c.maxLocals = nL ∧ va_K D cl (sa_tys dA) s ∧ (∀ q, s.heap.size ≤ q → A q)
noncomputable def sa_run (find : Nat → Option sa_op) (fin : sa_S → Bool) : Nat → sa_S → Bool
  | 0, _ => false
  | n + 1, S => match find S.1 with
    | none => fin S
    | some op => match op S with
      | none => false
      | some sts => match sts with
        | [S'] => sa_run find fin n S'
        | _ => sts.all (sa_run find fin n)
theorem sa_run_ok {p : Program} {l : Launch} {e : Env} {R : Room} {s : State} {m : MethodId} {args : Array Value} {below : List Frame} {meth : Method} {c : Code} {Q : State → Prop} {D : va_G} {dA : Nat → ClassId} {A : Nat → Prop} {nL : Nat} {cl : List vw_C} {n0 : Nat} {V0 : sa_V} {find : Nat → Option sa_op} {fin : sa_S → Bool}
    (hf : ∀ pc op, find pc = some op → sa_snd p l e R s m args below meth c Q D dA A nL cl n0 V0 pc op) (he : ∀ S, find S.1 = none → fin S = true → sa_W p l e R s m args below meth c Q D dA A nL cl n0 V0 S) : ∀ (n : Nat) (S : sa_S), sa_run find fin n S = true → sa_W p l e R s m args below meth c Q D dA A nL cl n0 V0 S := by
  intro n
  induction n with
  | zero => intro S h; cases h
  | succ n ih =>
    intro S h
    unfold sa_run at h
    split at h
    · rename_i h1
      exact he S h1 h
    · rename_i op h1
      split at h
      · cases h
      · rename_i sts h2
        refine hf _ op h1 S sts rfl h2 (fun S' h' => ?_)
        split at h
        · rename_i S9
          have e9 : S' = S9 := by simpa using h'
          rw [e9]
          exact ih S9 h
        · exact ih S' (List.all_eq_true.mp h S' h')
/-! values -/
/-! plain tests, for the kernel -/
noncomputable def sa_ge {α : Type} (l : List α) : Nat → Option α := List.rec (motive := fun _ => Nat → Option α) (fun _ => none) (fun a _ ih k => Nat.rec (motive := fun _ => Option α) (some a) (fun m _ => ih m) k) l
theorem sa_ge_eq {α : Type} : ∀ (l : List α) (k : Nat), sa_ge l k = l[k]?
  | [], _ => by rw [List.getElem?_nil]; rfl
  | _ :: _, 0 => rfl
  | a :: l, k + 1 => by
    rw [List.getElem?_cons_succ, ← sa_ge_eq l k]
    rfl
noncomputable def sa_ile (a b : Int) : Bool := Int.rec (motive := fun _ => Bool) (fun m => Int.rec (motive := fun _ => Bool) (fun n => Nat.ble m n) (fun _ => false) b) (fun m => Int.rec (motive := fun _ => Bool) (fun _ => true) (fun n => Nat.ble n m) b) a
theorem sa_ble_iff (m n : Nat) : Nat.ble m n = true ↔ m ≤ n := ⟨Nat.le_of_ble_eq_true, Nat.ble_eq_true_of_le⟩
theorem sa_ile_iff (a b : Int) : sa_ile a b = true ↔ a ≤ b := by
  cases a with
  | ofNat m =>
    cases b with
    | ofNat n => exact (sa_ble_iff m n).trans Int.ofNat_le.symm
    | negSucc n => exact ⟨fun h => absurd (show false = true from h) (by decide), fun h => by have : (m : Int) ≤ Int.negSucc n := h; omega⟩
  | negSucc m =>
    cases b with
    | ofNat n => exact ⟨fun _ => by show Int.negSucc m ≤ (n : Int); omega, fun _ => rfl⟩
    | negSucc n => exact (sa_ble_iff n m).trans ⟨fun h => by omega, fun h => by omega⟩
noncomputable def sa_ieq (a b : Int) : Bool := Int.rec (motive := fun _ => Bool) (fun m => Int.rec (motive := fun _ => Bool) (fun n => Nat.beq m n) (fun _ => false) b) (fun m => Int.rec (motive := fun _ => Bool) (fun _ => false) (fun n => Nat.beq m n) b) a
theorem sa_beq_iff (m n : Nat) : Nat.beq m n = true ↔ m = n := ⟨Nat.eq_of_beq_eq_true, fun h => by rw [h]; exact Nat.beq_refl n⟩
theorem sa_ieq_iff (a b : Int) : sa_ieq a b = true ↔ a = b := by
  cases a with
  | ofNat m =>
    cases b with
    | ofNat n => exact (sa_beq_iff m n).trans ⟨fun h => by rw [h], fun h => Int.ofNat.inj h⟩
    | negSucc n => exact ⟨fun h => absurd (show false = true from h) (by decide), fun h => by cases h⟩
  | negSucc m =>
    cases b with
    | ofNat n => exact ⟨fun h => absurd (show false = true from h) (by decide), fun h => by cases h⟩
    | negSucc n => exact (sa_beq_iff m n).trans ⟨fun h => by rw [h], fun h => Int.negSucc.inj h⟩
noncomputable def sa_ia (a b : Int) : Int := Int.rec (motive := fun _ => Int) (fun m => Int.rec (motive := fun _ => Int) (fun n => Int.ofNat (Nat.add m n)) (fun n => Bool.rec (motive := fun _ => Int) (Int.negSucc (Nat.sub n m)) (Int.ofNat (Nat.sub m (Nat.succ n))) (Nat.ble (Nat.succ n) m)) b) (fun m => Int.rec (motive := fun _ => Int) (fun n => Bool.rec (motive := fun _ => Int) (Int.negSucc (Nat.sub m n)) (Int.ofNat (Nat.sub n (Nat.succ m))) (Nat.ble (Nat.succ m) n)) (fun n => Int.negSucc (Nat.succ (Nat.add m n))) b) a
theorem sa_ia_eq (a b : Int) : sa_ia a b = a + b := by
  cases a with
  | ofNat m =>
    cases b with
    | ofNat n => rfl
    | negSucc n =>
      show (Bool.rec (Int.negSucc (Nat.sub n m)) (Int.ofNat (Nat.sub m (Nat.succ n))) (Nat.ble (Nat.succ n) m) : Int) = Int.ofNat m + Int.negSucc n
      cases h : Nat.ble (Nat.succ n) m with
      | true =>
        have h1 := Nat.le_of_ble_eq_true h
        show Int.ofNat (m - (n + 1)) = (m : Int) + Int.negSucc n
        have : ((m - (n + 1) : Nat) : Int) = (m : Int) + Int.negSucc n := by omega
        exact this
      | false =>
        have h1 : ¬ Nat.succ n ≤ m := fun hc => by rw [Nat.ble_eq_true_of_le hc] at h; cases h
        show Int.negSucc (n - m) = (m : Int) + Int.negSucc n
        omega
  | negSucc m =>
    cases b with
    | ofNat n =>
      show (Bool.rec (Int.negSucc (Nat.sub m n)) (Int.ofNat (Nat.sub n (Nat.succ m))) (Nat.ble (Nat.succ m) n) : Int) = Int.negSucc m + Int.ofNat n
      cases h : Nat.ble (Nat.succ m) n with
      | true =>
        have h1 := Nat.le_of_ble_eq_true h
        have : ((n - (m + 1) : Nat) : Int) = Int.negSucc m + (n : Int) := by omega
        exact this
      | false =>
        have h1 : ¬ Nat.succ m ≤ n := fun hc => by rw [Nat.ble_eq_true_of_le hc] at h; cases h
        show Int.negSucc (m - n) = Int.negSucc m + (n : Int)
        omega
    | negSucc n =>
      show Int.negSucc (Nat.succ (m + n)) = Int.negSucc m + Int.negSucc n
      omega
noncomputable def sa_look (i : Nat) (lo : sa_L) : Option sa_v := List.rec (motive := fun _ => Option sa_v) none (fun q _ ih => Bool.rec (motive := fun _ => Option sa_v) ih (some q.2) (Nat.beq q.1 i)) lo
theorem sa_look_cons (i : Nat) (q : Nat × sa_v) (l : sa_L) : sa_look i (q :: l) = if q.1 = i then some q.2 else sa_look i l := by
  show (Bool.rec (sa_look i l) (some q.2) (Nat.beq q.1 i) : Option sa_v) = _
  cases h : Nat.beq q.1 i with
  | true => rw [if_pos (Nat.eq_of_beq_eq_true h)]
  | false => rw [if_neg (fun hc => by rw [hc, Nat.beq_refl] at h; cases h)]
theorem sa_look_mem {i : Nat} {v : sa_v} : ∀ {lo : sa_L}, sa_look i lo = some v → (i, v) ∈ lo
  | [], h => by cases h
  | q :: l, h => by
    rw [sa_look_cons] at h
    split at h
    · rename_i h1
      cases h
      rw [← h1]
      exact List.mem_cons_self
    · exact List.mem_cons_of_mem _ (sa_look_mem h)
theorem sa_look_at {V : sa_V} {ls : Array Slot} {nL i : Nat} {v : sa_v} {lo : sa_L} (hl : lv_has ls nL (sa_lv V lo)) (h : sa_look i lo = some v) : ls[i]? = some (.val (sa_val V v)) :=
  hl.2.2 (i, sa_val V v) (List.mem_map.mpr ⟨(i, v), sa_look_mem h, rfl⟩)
noncomputable def sa_cat : sa_v → Nat
  | .inr (.inr _) => 2
  | _ => 1
theorem sa_cat_val (V : sa_V) (v : sa_v) : (sa_val V v).category = sa_cat v := by
  rcases v with q | (_ | k) | j <;> rfl
noncomputable def sa_set1 (i : Nat) (v : sa_v) (lo : sa_L) : sa_L := (i, v) :: lo.filter (fun q => !(q.1 == i) && !(q.1 + 1 == i && sa_cat q.2 == 2))
noncomputable def sa_set2 (i : Nat) (v : sa_v) (lo : sa_L) : sa_L := (i, v) :: lo.filter (fun q => !(q.1 == i) && (!(q.1 == i + 1) && !(q.1 + 1 == i && sa_cat q.2 == 2)))
theorem sa_set1_lv (V : sa_V) (i : Nat) (v : sa_v) (lo : sa_L) : (i, sa_val V v) :: (sa_lv V lo).filter (fun q => !(q.1 == i) && !(q.1 + 1 == i && q.2.category == 2)) = sa_lv V (sa_set1 i v lo) := by
  unfold sa_lv sa_set1
  rw [List.filter_map, List.map_cons]
  congr 2
  apply List.filter_congr
  intro q _
  simp only [Function.comp, sa_cat_val]
theorem sa_set2_lv (V : sa_V) (i : Nat) (v : sa_v) (lo : sa_L) : (i, sa_val V v) :: (sa_lv V lo).filter (fun q => !(q.1 == i) && (!(q.1 == i + 1) && !(q.1 + 1 == i && q.2.category == 2))) = sa_lv V (sa_set2 i v lo) := by
  unfold sa_lv sa_set2
  rw [List.filter_map, List.map_cons]
  congr 2
  apply List.filter_congr
  intro q _
  simp only [Function.comp, sa_cat_val]
/-! new signs -/
noncomputable def sa_upd (V : sa_V) (n : Nat) (x : sa_x) : sa_V := fun k => if k = n then x else V k
noncomputable def sa_wfv (n : Nat) : sa_v → Bool
  | .inl q => decide (q.1 < n)
  | .inr (.inl none) => true
  | .inr (.inl (some k)) => decide (k < n)
  | .inr (.inr j) => decide (j < n)
noncomputable def sa_wfa (n : Nat) : sa_a → Bool
  | .inl l => l.all (fun q => decide (q.1 < n))
  | .inr (.inl q) => decide (q.2 < n)
  | .inr (.inr l) => l.all (fun o => match o with | none => true | some k => decide (k < n))
noncomputable def sa_wfc (n : Nat) (q : sa_c) : Bool := decide (q.1 < n) && match q.2 with
  | .inl o => o.2.all (sa_wfv n)
  | .inr a => sa_wfa n a.2
noncomputable def sa_wf (n : Nat) (lo : sa_L) (st : List sa_v) (cs : List sa_c) : Bool := decide (0 < n) && lo.all (fun q => sa_wfv n q.2) && st.all (sa_wfv n) && cs.all (sa_wfc n)
theorem sa_upd_ne {V : sa_V} {n k : Nat} {x : sa_x} (h : k < n) : sa_upd V n x k = V k := by
  unfold sa_upd; rw [if_neg (by omega)]
theorem sa_upd_eq {V : sa_V} {n : Nat} {x : sa_x} : sa_upd V n x n = x := by
  unfold sa_upd; rw [if_pos rfl]
theorem sa_val_upd {V : sa_V} {n : Nat} {x : sa_x} {v : sa_v} (h : sa_wfv n v = true) : sa_val (sa_upd V n x) v = sa_val V v := by
  rcases v with q | (_ | k) | j
  · have h : q.1 < n := of_decide_eq_true h
    show Value.int (sa_i _ _) = Value.int (sa_i _ _)
    unfold sa_i; rw [sa_upd_ne h]
  · rfl
  · have h : k < n := of_decide_eq_true h
    show Value.ref (sa_ad _ _) = Value.ref (sa_ad _ _)
    unfold sa_ad; rw [sa_upd_ne h]
  · have h : j < n := of_decide_eq_true h
    show Value.long _ = Value.long _
    rw [sa_upd_ne h]
theorem sa_arr_upd {V : sa_V} {n : Nat} {x : sa_x} {a : sa_a} (h : sa_wfa n a = true) : sa_arr (sa_upd V n x) a = sa_arr V a := by
  rcases a with l | q | l
  · have h : ∀ q ∈ l, q.1 < n := fun q hq => of_decide_eq_true (List.all_eq_true.mp h q hq)
    show (l.length, _) = (l.length, _)
    congr 2
    funext j
    unfold sa_f
    split
    · rename_i q hq
      unfold sa_i; rw [sa_upd_ne (h q (List.mem_of_getElem? hq))]
    · rfl
  · have h : q.2 < n := of_decide_eq_true h
    show (q.1, _) = (q.1, _)
    rw [sa_upd_ne h]
  · have h : ∀ o ∈ l, _ := List.all_eq_true.mp h
    show (l.length, _) = (l.length, _)
    congr 5
    funext j
    unfold sa_g
    rw [List.getD_eq_getElem?_getD]
    cases hj : l[j]? with
    | none => rfl
    | some o =>
      cases o with
      | none => rfl
      | some k =>
        have hk : k < n := of_decide_eq_true (h _ (List.mem_of_getElem? hj))
        show some (sa_ad _ _) = some (sa_ad _ _)
        unfold sa_ad; rw [sa_upd_ne hk]
theorem sa_e_upd {V : sa_V} {dA : Nat → ClassId} {n : Nat} {x : sa_x} {q : sa_c} (h : sa_wfc n q = true) : sa_e (sa_upd V n x) dA q = sa_e V dA q := by
  obtain ⟨k, o | a⟩ := q
  · simp only [sa_wfc, Bool.and_eq_true, decide_eq_true_eq, List.all_eq_true] at h
    unfold sa_e sa_el sa_ad
    rw [sa_upd_ne h.1]
    dsimp only
    congr 3
    exact List.map_congr_left (fun v hv => sa_val_upd (h.2 v hv))
  · simp only [sa_wfc, Bool.and_eq_true, decide_eq_true_eq] at h
    unfold sa_e sa_el sa_ad
    rw [sa_upd_ne h.1]
    dsimp only
    rw [sa_arr_upd h.2]
theorem sa_cs_upd {V : sa_V} {dA : Nat → ClassId} {n : Nat} {x : sa_x} {cs : List sa_c} (h : cs.all (sa_wfc n) = true) : cs.map (sa_e (sa_upd V n x) dA) = cs.map (sa_e V dA) :=
  List.map_congr_left (fun q hq => sa_e_upd (List.all_eq_true.mp h q hq))
theorem sa_lv_upd {V : sa_V} {n : Nat} {x : sa_x} {lo : sa_L} (h : lo.all (fun q => sa_wfv n q.2) = true) : sa_lv (sa_upd V n x) lo = sa_lv V lo :=
  List.map_congr_left (fun q hq => by rw [sa_val_upd (List.all_eq_true.mp h q hq)])
theorem sa_st_upd {V : sa_V} {n : Nat} {x : sa_x} {st : List sa_v} (h : st.all (sa_wfv n) = true) : st.map (sa_val (sa_upd V n x)) = st.map (sa_val V) :=
  List.map_congr_left (fun q hq => sa_val_upd (List.all_eq_true.mp h q hq))
theorem sa_I_upd {V : sa_V} {G : sa_B} {x : sa_x} {b : Int × Int} (h : sa_I V G) (h0 : 0 < G.length) (hb : b.1 ≤ x.1 ∧ x.1 ≤ b.2) : sa_I (sa_upd V G.length x) (G ++ [b]) := by
  refine ⟨fun i b' hi => ?_, ?_⟩
  · by_cases hl : i < G.length
    · rw [List.getElem?_append_left hl] at hi
      rw [sa_upd_ne hl]
      exact h.1 i b' hi
    · rw [List.getElem?_append_right (by omega)] at hi
      have hz : i - G.length < 1 := (List.getElem?_eq_some_iff.mp hi).1
      have hi0 : i = G.length := by omega
      subst hi0
      rw [Nat.sub_self] at hi
      cases hi
      rw [sa_upd_eq]
      exact hb
  · rw [sa_upd_ne h0]; exact h.2
theorem sa_J_upd {n0 : Nat} {V0 V : sa_V} {G : sa_B} {x : sa_x} {b : Int × Int} (h : sa_J n0 V0 V G) (h0 : 0 < G.length) (hb : b.1 ≤ x.1 ∧ x.1 ≤ b.2) : sa_J n0 V0 (sa_upd V G.length x) (G ++ [b]) :=
  ⟨sa_I_upd h.1 h0 hb, by rw [List.length_append]; exact Nat.le_trans h.2.1 (Nat.le_add_right _ _), fun k hk => by rw [sa_upd_ne (Nat.lt_of_lt_of_le hk h.2.1)]; exact h.2.2 k hk⟩
theorem sa_G_upd {D : va_G} {dA : Nat → ClassId} {A : Nat → Prop} {nL : Nat} {cl : List vw_C} {n0 : Nat} {V0 : sa_V} {H0 : Heap} {V : sa_V} {lo : sa_L} {st : List sa_v} {cs : List sa_c} {G : sa_B} {H : Heap} {locs : List Loc} {ls : Array Slot} {x : sa_x} {b : Int × Int}
    (h : sa_G D dA A nL cl n0 V0 H0 V lo cs G H locs ls) (hw : sa_wf G.length lo st cs = true) (hb : b.1 ≤ x.1 ∧ x.1 ≤ b.2) : sa_G D dA A nL cl n0 V0 H0 (sa_upd V G.length x) lo cs (G ++ [b]) H locs ls ∧ st.map (sa_val (sa_upd V G.length x)) = st.map (sa_val V) := by
  simp only [sa_wf, Bool.and_eq_true, decide_eq_true_eq] at hw
  obtain ⟨⟨⟨h0, h1⟩, h2⟩, h3⟩ := hw
  obtain ⟨g1, g2, g3, g4, g5⟩ := h
  exact ⟨⟨sa_J_upd g1 h0 hb, by rw [sa_lv_upd h1]; exact g2, by rw [sa_cs_upd h3]; exact g3, by rw [sa_cs_upd h3]; exact g4, g5⟩, sa_st_upd h2⟩
/-- an answer of a row: an int by its sign, or a new sign with bounds -/
abbrev sa_r : Type := (Nat × Int) ⊕ (Int × Int)
noncomputable def sa_is (V : sa_V) (r : sa_r) (x : Int32) : Prop := match r with
  | .inl q => sa_i V q = x
  | .inr b => b.1 ≤ x.toInt ∧ x.toInt ≤ b.2
noncomputable def sa_push (pc : Nat) (lo : sa_L) (rest : List sa_v) (cs : List sa_c) (G : sa_B) (kc ks : Nat) (r : sa_r) : Option (List sa_S) := match r with
  | .inl q => some [(pc, lo, .inl q :: rest, cs, G, kc, ks)]
  | .inr b => if sa_wf G.length lo rest cs = true then some [(pc, lo, .inl (G.length, 0) :: rest, cs, G ++ [b], kc, ks)] else none
theorem sa_i_new {V : sa_V} {n : Nat} {x : Int32} {y : sa_x} (h : y.1 = x.toInt) : sa_i (sa_upd V n y) (n, 0) = x := by
  show Int32.ofInt ((sa_upd V n y n).1 + 0) = x
  rw [sa_upd_eq, h, Int.add_zero, Int32.ofInt_toInt]
theorem sa_push_ok {p : Program} {l : Launch} {e : Env} {R : Room} {s : State} {m : MethodId} {args : Array Value} {below : List Frame} {meth : Method} {c : Code} {Q : State → Prop} {D : va_G} {dA : Nat → ClassId} {A : Nat → Prop} {nL : Nat} {cl : List vw_C} {n0 : Nat} {V0 : sa_V}
    {pc : Nat} {lo : sa_L} {rest : List sa_v} {cs : List sa_c} {G : sa_B} {kc ks : Nat} {r : sa_r} {sts : List sa_S} {V : sa_V} {H : Heap} {locs : List Loc} {ls : Array Slot} {x : Int32}
    (hG : sa_G D dA A nL cl n0 V0 s.heap V lo cs G H locs ls) (hr : sa_is V r x) (h : sa_push pc lo rest cs G kc ks r = some sts) (k : ∀ S' ∈ sts, sa_W p l e R s m args below meth c Q D dA A nL cl n0 V0 S') : W p l e R s m args below meth c H locs kc ks Q (F0 m pc ls (.int x :: rest.map (sa_val V))) := by
  cases r with
  | inl q =>
    cases h
    have h1 := k _ List.mem_cons_self V H locs ls hG
    have h2 : sa_i V q = x := hr
    rw [← h2]
    exact h1
  | inr b =>
    unfold sa_push at h
    dsimp only at h
    split at h
    · rename_i hw
      cases h
      obtain ⟨g1, g2⟩ := sa_G_upd (x := (x.toInt, 0, fun _ => 0, 0)) hG hw hr
      have h1 := k _ List.mem_cons_self _ H locs ls g1
      have h3 : (List.map (sa_val (sa_upd V G.length (x.toInt, 0, fun _ => 0, 0))) (.inl (G.length, 0) :: rest)) = Value.int x :: rest.map (sa_val V) := by
        rw [List.map_cons, g2]
        congr 1
        show Value.int (sa_i _ _) = _
        rw [sa_i_new rfl]
      dsimp only at h1
      rw [h3] at h1
      exact h1
    · cases h
/-- bounds of an int -/
noncomputable def sa_iv (G : sa_B) (q : Nat × Int) : Option (Int × Int) := Option.rec (motive := fun _ => Option (Int × Int)) none (fun b => Bool.rec (motive := fun _ => Option (Int × Int)) none (Bool.rec (motive := fun _ => Option (Int × Int)) none (some (sa_ia b.1 q.2, sa_ia b.2 q.2)) (sa_ile (sa_ia b.2 q.2) (Int.ofNat 2147483647))) (sa_ile (Int.negSucc 2147483647) (sa_ia b.1 q.2))) (sa_ge G q.1)
theorem sa_iv_eq (G : sa_B) (q : Nat × Int) : sa_iv G q = match G[q.1]? with
    | some b => if -2147483648 ≤ b.1 + q.2 ∧ b.2 + q.2 ≤ 2147483647 then some (b.1 + q.2, b.2 + q.2) else none
    | none => none := by
  unfold sa_iv
  rw [sa_ge_eq]
  cases G[q.1]? with
  | none => rfl
  | some b =>
    show (Bool.rec none (Bool.rec none (some (sa_ia b.1 q.2, sa_ia b.2 q.2)) (sa_ile (sa_ia b.2 q.2) (Int.ofNat 2147483647))) (sa_ile (Int.negSucc 2147483647) (sa_ia b.1 q.2)) : Option (Int × Int)) = if -2147483648 ≤ b.1 + q.2 ∧ b.2 + q.2 ≤ 2147483647 then some (b.1 + q.2, b.2 + q.2) else none
    rw [sa_ia_eq, sa_ia_eq]
    cases h1 : sa_ile (Int.negSucc 2147483647) (b.1 + q.2) with
    | false =>
      rw [if_neg (fun hc => by rw [(sa_ile_iff _ _).mpr (show Int.negSucc 2147483647 ≤ b.1 + q.2 from hc.1)] at h1; cases h1)]
    | true =>
      have a1 : (-2147483648 : Int) ≤ b.1 + q.2 := (sa_ile_iff _ _).mp h1
      cases h2 : sa_ile (b.2 + q.2) (Int.ofNat 2147483647) with
      | false => rw [if_neg (fun hc => by rw [(sa_ile_iff _ _).mpr (show b.2 + q.2 ≤ Int.ofNat 2147483647 from hc.2)] at h2; cases h2)]
      | true =>
        have a2 : b.2 + q.2 ≤ 2147483647 := (sa_ile_iff _ _).mp h2
        rw [if_pos ⟨a1, a2⟩]
theorem sa_ofInt_toInt {z : Int} (h1 : -2147483648 ≤ z) (h2 : z ≤ 2147483647) : (Int32.ofInt z).toInt = z := Int32.toInt_ofInt_of_le (by simpa using h1) (by simp; omega)
theorem sa_iv_ok {V : sa_V} {G : sa_B} {q : Nat × Int} {b : Int × Int} (h : sa_I V G) (hb : sa_iv G q = some b) : (sa_i V q).toInt = (V q.1).1 + q.2 ∧ b.1 ≤ (sa_i V q).toInt ∧ (sa_i V q).toInt ≤ b.2 := by
  rw [sa_iv_eq] at hb
  split at hb
  · rename_i b' hb'
    split at hb
    · rename_i h2
      cases hb
      obtain ⟨h3, h4⟩ := h.1 _ _ hb'
      have h5 : (sa_i V q).toInt = (V q.1).1 + q.2 := sa_ofInt_toInt (by omega) (by omega)
      exact ⟨h5, by rw [h5]; omega, by rw [h5]; omega⟩
    · cases hb
  · cases hb
end SA0
