section SA8
noncomputable def sa_args : Nat → List sa_v → sa_L
  | _, [] => []
  | i, v :: vs => (i, v) :: sa_args (if sa_cat v = 2 then i + 2 else i + 1) vs
theorem sa_args_lv (V : sa_V) : ∀ (i : Nat) (vs : List sa_v), lv_args i (vs.map (sa_val V)) = sa_lv V (sa_args i vs)
  | _, [] => rfl
  | i, v :: vs => by
    show (i, sa_val V v) :: lv_args (if (sa_val V v).category = 2 then i + 2 else i + 1) (vs.map (sa_val V)) = (i, sa_val V v) :: sa_lv V (sa_args (if sa_cat v = 2 then i + 2 else i + 1) vs)
    rw [sa_cat_val, sa_args_lv V _ vs]
theorem sa_sl_len (V : sa_V) : ∀ vs : List sa_v, (lg_sl (vs.map (sa_val V))).length = (vs.map sa_cat).sum
  | [] => rfl
  | v :: vs => by
    have e := sa_sl_len V vs
    unfold lg_sl at e ⊢
    rw [List.map_cons, List.flatMap_cons, List.length_append, e, List.map_cons, List.sum_cons, sa_cat_val]
    rcases v with q | (_ | k) | j <;> rfl
noncomputable def sa_fd (pc : Nat) : List (Nat × sa_op) → Option sa_op
  | [] => none
  | q :: l => if q.1 = pc then some q.2 else sa_fd pc l
theorem sa_fd_mem {pc : Nat} {op : sa_op} : ∀ {l : List (Nat × sa_op)}, sa_fd pc l = some op → (pc, op) ∈ l
  | [], h => by cases h
  | q :: l, h => by
    unfold sa_fd at h
    split at h
    · rename_i h1
      cases h
      rw [← h1]
      exact List.mem_cons_self
    · exact List.mem_cons_of_mem _ (sa_fd_mem h)
noncomputable def sa_ri : Option FieldType → Instr
  | none => .return_
  | some _ => .ireturn
noncomputable def sa_keep (cs : List sa_c) (w : List sa_c) : List Nat := w.map (fun q => sa_idx cs q.1)
noncomputable def sa_fin (rets : List Nat) (t : Option FieldType) (K : sa_K) (S : sa_S) : Bool :=
  rets.contains S.1 && decide (S.2.2.2.2.2.1 ≤ K.2.2.2.2.1) && decide (S.2.2.2.2.2.2 ≤ K.2.2.2.2.2) && K.2.2.2.1.any (fun o => (match t, S.2.2.1, o.1 with
    | some ty, [.inl q], some (.inl u) => decide (q = u) && sa_fit S.2.2.2.2.1 ty (.inl q)
    | none, [], none => true
    | _, _, _ => false) && decide (o.2.2 = S.2.2.2.2.1) && va_nd (sa_keep S.2.2.2.1 o.2.1) && sa_eql ((sa_keep S.2.2.2.1 o.2.1).map (fun i => S.2.2.2.1[i]?)) o.2.1)
theorem sa_keep_ok {D : va_G} {cl : List vw_C} {A : Nat → Prop} {V : sa_V} {dA : Nat → ClassId} {cs w : List sa_c} {H : Heap} (hP : va_P D cl (cs.map (sa_e V dA)) H) (hD : va_D A (cs.map (sa_e V dA))) (h1 : va_nd (sa_keep cs w) = true) (h2 : sa_eql ((sa_keep cs w).map (fun i => cs[i]?)) w = true) : va_P D cl (w.map (sa_e V dA)) H ∧ va_D A (w.map (sa_e V dA)) := by
  have e : (sa_keep cs w).map (fun i => (cs.map (sa_e V dA))[i]?) = (w.map (sa_e V dA)).map some := by
    have := congrArg (List.map (Option.map (sa_e V dA))) (sa_eql_ok h2)
    rw [List.map_map, List.map_map] at this
    rw [List.map_map]
    refine Eq.trans (List.map_congr_left (fun i _ => ?_)) this
    show (cs.map (sa_e V dA))[i]? = Option.map (sa_e V dA) cs[i]?
    rw [List.getElem?_map]
  exact ⟨hP.sub _ (sa_fm e), hD.sub _ h1 e⟩
/-- the end of a method -/
theorem sa_fin_ok {p : Program} {l : Launch} {e : Env} {R : Room} {s : State} {m : MethodId} {args : Array Value} {below : List Frame} {meth : Method} {c : Code} {D : va_G} {dA : Nat → ClassId} {A : Nat → Prop} {nL : Nat} {cl : List vw_C} {V0 : sa_V} {K : sa_K} {cc : ByteArray} {rets : List Nat} {t : Option FieldType}
    (hx : p.tables.exec = Jvm.exec) (hb : c.code = cc) (hlocks : meth.locks = false) (hr : meth.sig.returnType = t) (hA : A = va_A (K.2.1.map (sa_e V0 dA)) s.heap.size) (hd : ∀ pc ∈ rets, decode cc pc = .ok (sa_ri t, 1))
    (S : sa_S) (h : sa_fin rets t K S = true) : sa_W p l e R s m args below meth c (MQ below (sa_Q D dA cl s.heap.size V0 K) args s K.2.2.2.2.1 K.2.2.2.2.2 A) D dA A nL cl K.2.2.1.length V0 S := by
  obtain ⟨pc, lo, st, cs, G, kc, ks⟩ := S
  intro V H locs ls hG
  simp only [sa_fin, Bool.and_eq_true, decide_eq_true_eq, List.any_eq_true] at h
  obtain ⟨⟨⟨h1, h2⟩, h3⟩, o, ho, ⟨⟨h4, h5⟩, h6⟩, h7⟩ := h
  have hpc : pc ∈ rets := by simpa using h1
  obtain ⟨hP9, hD9⟩ := sa_keep_ok hG.2.2.1 hG.2.2.2.1 h6 h7
  refine W.widen (k := K.2.2.2.2.1) (n := K.2.2.2.2.2) h2 h3 ?_
  have hI : sa_I V o.2.2 := by rw [h5]; exact hG.1.1
  have hq : ∀ (oc : Outcome) (t9 : State), t9.heap = H → oc = .returned (o.1.map (sa_val V)) → sa_Q D dA cl s.heap.size V0 K args s oc t9 := by
    intro oc t9 ht9 hoc
    subst hA
    exact ⟨⟨o, ho, V, hG.1.2.2, hI, hoc, by rw [ht9]; exact hP9, hD9⟩, hG.2.2.2.2.F ht9⟩
  have hd1 := hd pc hpc
  clear hd
  split at h4
  · rename_i ty q u he2
    rw [Bool.and_eq_true] at h4
    obtain ⟨h8, h9⟩ := h4
    have h8 := of_decide_eq_true h8
    subst h8
    obtain ⟨n1, n2⟩ := sa_fit_ok (V := V) hG.1.1 h9
    refine W.zret (v := sa_i V q) hx hb hr n1 (fun t9 ht9 _ => hq _ t9 ht9 ?_) (fun q9 hq9 => hG.2.2.2.2.2.2 q9 hq9) hd1
    rw [he2]
    rfl
  · rename_i he2
    refine W.vret hx hb hr (fun t9 ht9 _ => hq _ t9 ht9 ?_) (fun q9 hq9 => hG.2.2.2.2.2.2 q9 hq9) hd1
    rw [he2]
    rfl
  · cases h4
/-- A METHOD, out of its run over signs -/
theorem sa_method {l : Launch} {cl : List vw_C} {Ts : List Cond} {y : MethodName} {cc : ByteArray} {mL : Nat} {ret : Option FieldType} {fr lc : Nat} {K : sa_K} (hy : plainName y.cls = true) (rets : List Nat) (tab : List (Nat × sa_op)) (fuel : Nat)
    (hd : ∀ pc ∈ rets, decode cc pc = .ok (sa_ri ret, 1))
    (hops : ∀ (p : Program) (e : Env) (s : State) (m : MethodId) (args : Array Value) (below : List Frame) (meth : Method) (c : Code) (Q : State → Prop) (D : va_G) (dA : Nat → ClassId) (A : Nat → Prop) (n0 : Nat) (V0 : sa_V), sa_C p s m args c D dA A mL cl Ts cc y.cls → sa_U D cl dA s → meth.name = y.name → ∀ q ∈ tab, sa_snd p l e { frames := fr, cells := K.2.2.2.2.1, slots := K.2.2.2.2.2, locals := lc } s m args below meth c Q D dA A mL cl n0 V0 q.1 q.2)
    (hlen : (K.1.map sa_cat).sum ≤ mL) (hrun : sa_run (fun pc => sa_fd pc tab) (sa_fin rets ret K) fuel (0, sa_args 0 K.1, [], K.2.1, K.2.2.1, 0, 0) = true) : sa_Met l cl Ts y cc mL ret fr lc K := by
  intro D dA sz V hI
  refine Met.ofW (cc := cc) (maxL := mL) (ret := ret) hy rfl ?_
  intro p e s m args below meth c s₁ B hml hv
  obtain ⟨hargs, hsz, hP, hU, hD0⟩ := hv
  subst hargs
  have hts0 := atoms_spec (ws := Cond.code y cc mL ret :: Ts) B.pre
  have hown : s.vm.findClass y.cls = some m.cls := findClass_of_methodNamed B.named
  have hin : meth.name = y.name := (name_of_methodNamed B.named B.method).1
  subst hsz
  have hD := hD0.self (sz := s.heap.size)
  have hS : va_S (va_A (K.2.1.map (sa_e V dA)) s.heap.size) s.heap s.heap [] := va_S.rf
  have hl := lv_entry (K.1.map (sa_val V)) (n := mL) (by rw [sa_sl_len]; exact hlen)
  rw [sa_args_lv] at hl
  rw [lg_entry_eq]
  have hC : sa_C p s m (K.1.map (sa_val V)).toArray c D dA (va_A (K.2.1.map (sa_e V dA)) s.heap.size) mL cl Ts cc y.cls := ⟨B.exec, B.bytes, fun w hw => hts0 w (List.mem_cons_of_mem _ hw), hown, hml, hU.1, fun q h => Or.inr h⟩
  have hW := sa_run_ok (p := p) (l := l) (e := e) (R := { frames := fr, cells := K.2.2.2.2.1, slots := K.2.2.2.2.2, locals := lc }) (s := s) (m := m) (args := (K.1.map (sa_val V)).toArray) (below := below) (meth := meth) (c := c) (Q := MQ below (sa_Q D dA cl s.heap.size V K) (K.1.map (sa_val V)).toArray s K.2.2.2.2.1 K.2.2.2.2.2 (va_A (K.2.1.map (sa_e V dA)) s.heap.size)) (D := D) (dA := dA) (A := va_A (K.2.1.map (sa_e V dA)) s.heap.size) (nL := mL) (cl := cl) (n0 := K.2.2.1.length) (V0 := V)
    (fun pc op h => hops p e s m _ below meth c _ D dA _ _ V hC hU hin (pc, op) (sa_fd_mem h)) (fun S _ h => sa_fin_ok B.exec B.bytes B.notSynchronized B.returns rfl hd S h) fuel _ hrun
  exact hW V s.heap [] _ ⟨⟨hI, Nat.le_refl _, fun _ _ => rfl⟩, hl, hP, hD, hS⟩
end SA8
