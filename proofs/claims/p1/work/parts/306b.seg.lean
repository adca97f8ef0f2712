section SA9
/-- a state from which the machine's rows end well: whatever the rows carry back -/
def sa_Ok (find : Nat → Option sa_op) (fin : sa_S → Bool) (S : sa_S) : Prop := ∀ P : sa_S → Prop, (∀ S op sts, find S.1 = some op → op S = some sts → (∀ S' ∈ sts, P S') → P S) → (∀ S, find S.1 = none → fin S = true → P S) → P S
def sa_at (T S : sa_S) : Bool := decide (S.1 = T.1) && (decide (S.2.1 = T.2.1) && (decide (S.2.2.1 = T.2.2.1) && (sa_eql (S.2.2.2.1.map some) T.2.2.2.1 && decide (S.2.2.2.2 = T.2.2.2.2))))
theorem sa_at_eq {T S : sa_S} (h : sa_at T S = true) : S = T := by
  obtain ⟨pc, lo, st, cs, r⟩ := S
  obtain ⟨pc', lo', st', cs', r'⟩ := T
  simp only [sa_at, Bool.and_eq_true, decide_eq_true_eq] at h
  obtain ⟨h1, h2, h3, h4, h5⟩ := h
  have h6 : cs = cs' := by
    have h7 := congrArg (List.filterMap id) (sa_eql_ok h4)
    simpa using h7
  subst h1 h2 h3 h5 h6
  rfl
/-- a run up to the states Ts -/
def sa_runC (find : Nat → Option sa_op) (fin : sa_S → Bool) (Ts : List sa_S) : Nat → sa_S → Bool
  | 0, S => Ts.any (fun T => sa_at T S)
  | n + 1, S => match Ts.any (fun T => sa_at T S) with
    | true => true
    | false => match find S.1 with
      | none => fin S
      | some op => match op S with
        | none => false
        | some sts => match sts with
          | [S'] => sa_runC find fin Ts n S'
          | _ => sts.all (sa_runC find fin Ts n)
theorem sa_runC_ok {find : Nat → Option sa_op} {fin : sa_S → Bool} {Ts : List sa_S} (hT : ∀ T ∈ Ts, sa_Ok find fin T) : ∀ (n : Nat) (S : sa_S), sa_runC find fin Ts n S = true → sa_Ok find fin S := by
  have hc : ∀ S, Ts.any (fun T => sa_at T S) = true → sa_Ok find fin S := by
    intro S h
    obtain ⟨T, h1, h2⟩ := List.any_eq_true.mp h
    rw [sa_at_eq h2]
    exact hT T h1
  intro n
  induction n with
  | zero => intro S h; exact hc S h
  | succ n ih =>
    intro S h
    unfold sa_runC at h
    split at h
    · rename_i h0
      exact hc S h0
    · split at h
      · rename_i h1
        intro P hP hf
        exact hf S h1 h
      · rename_i op h1
        split at h
        · cases h
        · rename_i sts h2
          intro P hP hf
          refine hP S op sts h1 h2 (fun S' h' => ?_)
          split at h
          · rename_i S9
            have e9 : S' = S9 := by simpa using h'
            rw [e9]
            exact ih S9 h P hP hf
          · exact ih S' (List.all_eq_true.mp h S' h') P hP hf
theorem sa_methodO {l : Launch} {cl : List vw_C} {Ts : List Cond} {y : MethodName} {cc : ByteArray} {mL : Nat} {ret : Option FieldType} {fr lc : Nat} {K : sa_K} (hy : plainName y.cls = true) (rets : List Nat) (tab : List (Nat × sa_op))
    (hd : ∀ pc ∈ rets, decode cc pc = .ok (sa_ri ret, 1))
    (hops : ∀ (p : Program) (e : Env) (s : State) (m : MethodId) (args : Array Value) (below : List Frame) (meth : Method) (c : Code) (Q : State → Prop) (D : va_G) (dA : Nat → ClassId) (A : Nat → Prop) (n0 : Nat) (V0 : sa_V), sa_C p s m args c D dA A mL cl Ts cc y.cls → sa_U D cl dA s → meth.name = y.name → ∀ q ∈ tab, sa_snd p l e { frames := fr, cells := K.2.2.2.2.1, slots := K.2.2.2.2.2, locals := lc } s m args below meth c Q D dA A mL cl n0 V0 q.1 q.2)
    (hlen : (K.1.map sa_cat).sum ≤ mL) (hrun : sa_Ok (fun pc => sa_fd pc tab) (sa_fin rets ret K) (0, sa_args 0 K.1, [], K.2.1, K.2.2.1, 0, 0)) : sa_Met l cl Ts y cc mL ret fr lc K := by
  intro D dA sz V hI
  refine Met.ofW (cc := cc) (maxL := mL) (ret := ret) hy rfl ?_
  intro p e s m args below meth c s₁ B hml hv
  obtain ⟨hargs, hsz, hP, hU, hD0⟩ := hv
  subst hargs
  have hts0 := atoms_spec (ws := Cond.code y cc mL ret :: Ts) B.pre
  have hown : s.vm.findClass y.cls = some m.cls := findClass_of_methodNamed B.named
  have hin : meth.name = y.name := (name_of_methodNamed B.named B.method).1
  subst hsz
  have hD := hD0.self (sz := s.heap.size)
  have hS : va_S (va_A (K.2.1.map (sa_e V dA)) s.heap.size) s.heap s.heap [] := va_S.rf
  have hl := lv_entry (K.1.map (sa_val V)) (n := mL) (by rw [sa_sl_len]; exact hlen)
  rw [sa_args_lv] at hl
  rw [lg_entry_eq]
  have hC : sa_C p s m (K.1.map (sa_val V)).toArray c D dA (va_A (K.2.1.map (sa_e V dA)) s.heap.size) mL cl Ts cc y.cls := ⟨B.exec, B.bytes, fun w hw => hts0 w (List.mem_cons_of_mem _ hw), hown, hml, hU.1, fun q h => Or.inr h⟩
  have hW := hrun (sa_W p l e { frames := fr, cells := K.2.2.2.2.1, slots := K.2.2.2.2.2, locals := lc } s m (K.1.map (sa_val V)).toArray below meth c (MQ below (sa_Q D dA cl s.heap.size V K) (K.1.map (sa_val V)).toArray s K.2.2.2.2.1 K.2.2.2.2.2 (va_A (K.2.1.map (sa_e V dA)) s.heap.size)) D dA (va_A (K.2.1.map (sa_e V dA)) s.heap.size) mL cl K.2.2.1.length V) (fun S op sts h h2 h3 => hops p e s m _ below meth c _ D dA _ _ V hC hU hin (S.1, op) (sa_fd_mem h) S sts rfl h2 h3) (fun S _ h => sa_fin_ok B.exec B.bytes B.notSynchronized B.returns rfl hd S h)
  exact hW V s.heap [] _ ⟨⟨hI, Nat.le_refl _, fun _ _ => rfl⟩, hl, hP, hD, hS⟩
end SA9
