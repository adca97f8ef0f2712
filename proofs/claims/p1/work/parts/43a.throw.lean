section SAT2
abbrev sa_NSE2 : String := "java/util/NoSuchElementException"
def sa_nm2 : List String := ["java/lang/RuntimeException", "java/lang/Exception"]
def sa_XW2 : List Cond := [.castable sa_NSE2 sa_NSE2, .declares (Bundle.init0 "java/lang/RuntimeException"), .declares (Bundle.init0 "java/lang/Exception"), .declares (Bundle.init0 "java/lang/Throwable")]
theorem sa_XW_on2 : ∀ w ∈ sa_XW2, w.onTables = true := by decide +kernel
theorem sa_XW_warm2 {s U : State} (hW : s.WarmedH U.vm) (h : ∀ w ∈ sa_XW2, va_Nw w s) : ∀ w ∈ sa_XW2, va_Nw w U := by
  intro w hw
  have hz := h w hw
  simp only [sa_XW2, List.mem_cons, List.not_mem_nil, or_false] at hw
  rcases hw with rfl | rfl | rfl | rfl
  · exact va_Nw.warmC hW hz
  · exact va_Nw.warmD hW hz
  · exact va_Nw.warmD hW hz
  · exact va_Nw.warmD hW hz
def sa_Z2 (A : Nat → Prop) (U : State) (H : Heap) : Prop := vx_Zq Bundle.tN "UNASSIGNED_STACK" Bundle.steD A U H ∧ vx_Zq Bundle.tN "SUPPRESSED_SENTINEL" Bundle.listD A U H
def sa_ZZ2 (A : Nat → Prop) (U : State) (H : Heap) : Prop := sa_Z2 A U H ∧ ∀ w ∈ sa_XW2, va_Nw w U
/-- where a call begins -/
theorem sa_ZZ2.call {A B : Nat → Prop} {s U : State} {H : Heap} {locs : List Loc} (h : sa_ZZ2 A s s.heap) (hS : va_S A s.heap H locs) (hAB : ∀ q, B q → A q) (hUH : U.heap = H) (hW : s.WarmedH U.vm) : sa_ZZ2 B U U.heap := by
  refine ⟨⟨?_, ?_⟩, sa_XW_warm2 hW h.2⟩
  · rw [hUH]; exact (vx_Zq.kept (vx_Zq.moved hW.alike h.1.1) (fun a h1 h2 => hS.2.1 a h1 h2)).narrow hAB
  · rw [hUH]; exact (vx_Zq.kept (vx_Zq.moved hW.alike h.1.2) (fun a h1 h2 => hS.2.1 a h1 h2)).narrow hAB
def sa_PX2 (D : va_G) (dA : Nat → ClassId) (cl : List vw_C) (sz : Nat) (V : sa_V) (K : sa_K) : Array Value → State → Prop := fun v U => sa_P D dA cl sz V K v U ∧ sa_ZZ2 (va_A (K.2.1.map (sa_e V dA)) sz) U U.heap
theorem sa_blindX2 {D : va_G} {dA : Nat → ClassId} {cl : List vw_C} {sz : Nat} {V : sa_V} {K : sa_K} : FrameBlind (sa_PX2 D dA cl sz V K) := by
  intro a U g mk q
  obtain ⟨q1, ⟨z1, z2⟩, z3⟩ := q
  exact ⟨sa_blind a U g mk q1, ⟨vx_Zq.moved (u := U) (U := U.calling g mk a) (Vm.Alike.refl U.vm) z1, vx_Zq.moved (u := U) (U := U.calling g mk a) (Vm.Alike.refl U.vm) z2⟩, fun w hw => va_Nw.same (sa_XW_on2 w hw) (u := U) (U := U.calling g mk a) rfl (z3 w hw)⟩
def sa_XC2 (A : Nat → Prop) : String → State → State → Prop := fun E st t => E = sa_NSE2 ∧ va_F A st t
def sa_MetX2 (l : Launch) (cl : List vw_C) (Ts : List Cond) (y : MethodName) (cc : ByteArray) (maxL : Nat) (ret : Option FieldType) (fr lc : Nat) (K : sa_K) : Prop :=
  ∀ (D : va_G) (dA : Nat → ClassId) (sz : Nat) (V : sa_V), sa_I V K.2.2.1 → vx_Met l y (Cond.code y cc maxL ret :: Ts) { frames := fr, cells := K.2.2.2.2.1, slots := K.2.2.2.2.2, locals := lc } (sa_PX2 D dA cl sz V K) (fun _ _ _ _ => False) (sa_XC2 (va_A (K.2.1.map (sa_e V dA)) sz)) K.2.2.2.2.1 K.2.2.2.2.2 (va_A (K.2.1.map (sa_e V dA)) sz)
def sa_finX2 (tp : List Nat) (K : sa_K) (S : sa_S) : Bool := tp.contains S.1 && decide (S.2.2.2.2.2.1 + 1 ≤ K.2.2.2.2.1) && decide (S.2.2.2.2.2.2 + 6 ≤ K.2.2.2.2.2) && decide ((S.2.2.1.map sa_cat).sum ≤ 8)
/-- what stands where a method throws -/
def sa_thr2 (Ts : List Cond) (own : String) (cc : ByteArray) (pc : Nat) : Prop := ∃ ik ic : Nat, decode cc pc = .ok (.new ik, 3) ∧ decode cc (pc + 3) = .ok (.dup, 1) ∧ decode cc (pc + 4) = .ok (.invokespecial ic, 3) ∧ decode cc (pc + 7) = .ok (.athrow, 1) ∧ Cond.classLink own ik sa_NSE2 ∈ Ts ∧ ∀ w ∈ vx_at0 own ic sa_NSE2 sa_nm2, w ∈ Ts ∨ w ∈ sa_XW2
theorem sa_methodX2 {l : Launch} (hl : l.stackTraces = false) {cl : List vw_C} {Ts : List Cond} {y : MethodName} {cc : ByteArray} {mL : Nat} {ret : Option FieldType} {fr lc : Nat} {K : sa_K} (hy : plainName y.cls = true) (hg : ∀ w ∈ Ts, goodWord w = true) (hini : Cond.initialized sa_NSE2 ∈ Ts) (tp : List Nat) (tab : List (Nat × sa_op)) (fuel : Nat) (hfr : 6 ≤ fr) (hlc : 100 ≤ lc)
    (hthr : ∀ pc ∈ tp, sa_thr2 Ts y.cls cc pc)
    (hops : ∀ (p : Program) (e : Env) (s : State) (m : MethodId) (args : Array Value) (below : List Frame) (meth : Method) (c : Code) (Q : State → Prop) (D : va_G) (dA : Nat → ClassId) (A : Nat → Prop) (n0 : Nat) (V0 : sa_V), sa_C p s m args c D dA A mL cl Ts cc y.cls → sa_U D cl dA s → meth.name = y.name → ∀ q ∈ tab, sa_snd p l e { frames := fr, cells := K.2.2.2.2.1, slots := K.2.2.2.2.2, locals := lc } s m args below meth c Q D dA A mL cl n0 V0 q.1 q.2)
    (hlen : (K.1.map sa_cat).sum ≤ mL) (hrun : sa_run (fun pc => sa_fd pc tab) (sa_finX2 tp K) fuel (0, sa_args 0 K.1, [], K.2.1, K.2.2.1, 0, 0) = true) : sa_MetX2 l cl Ts y cc mL ret fr lc K := by
  intro D dA sz V hI
  refine vx_ofW (cc := cc) (maxL := mL) (ret := ret) hy rfl ?_
  intro p e s m args below meth c s₁ B hml hno hv
  obtain ⟨⟨hargs, hsz, hP, hU, hD0⟩, ⟨hz1, hz2⟩, hz3⟩ := hv
  subst hargs
  have hts0 := atoms_spec (ws := Cond.code y cc mL ret :: Ts) B.pre
  have hts : ∀ w ∈ Ts, w.before (K.1.map (sa_val V)).toArray s = true := fun w hw => hts0 w (List.mem_cons_of_mem _ hw)
  have hown : s.vm.findClass y.cls = some m.cls := findClass_of_methodNamed B.named
  have hin : meth.name = y.name := (name_of_methodNamed B.named B.method).1
  subst hsz
  have hD := hD0.self (sz := s.heap.size)
  have hS : va_S (va_A (K.2.1.map (sa_e V dA)) s.heap.size) s.heap s.heap [] := va_S.rf
  have hl9 := lv_entry (K.1.map (sa_val V)) (n := mL) (by rw [sa_sl_len]; exact hlen)
  rw [sa_args_lv] at hl9
  rw [lg_entry_eq]
  have hC : sa_C p s m (K.1.map (sa_val V)).toArray c D dA (va_A (K.2.1.map (sa_e V dA)) s.heap.size) mL cl Ts cc y.cls := ⟨B.exec, B.bytes, hts, hown, hml, hU.1, fun q h => Or.inr h⟩
  have hW := sa_run_ok (p := p) (l := l) (e := e) (R := { frames := fr, cells := K.2.2.2.2.1, slots := K.2.2.2.2.2, locals := lc }) (s := s) (m := m) (args := (K.1.map (sa_val V)).toArray) (below := below) (meth := meth) (c := c) (Q := vx_MQ below (fun _ _ _ _ => False) (sa_XC2 (va_A (K.2.1.map (sa_e V dA)) s.heap.size)) (K.1.map (sa_val V)).toArray s K.2.2.2.2.1 K.2.2.2.2.2 (va_A (K.2.1.map (sa_e V dA)) s.heap.size)) (D := D) (dA := dA) (A := va_A (K.2.1.map (sa_e V dA)) s.heap.size) (nL := mL) (cl := cl) (n0 := K.2.2.1.length) (V0 := V)
    (fun pc op h => hops p e s m _ below meth c _ D dA _ _ V hC hU hin (pc, op) (sa_fd_mem h)) (fun S _ h => by
      obtain ⟨pc, lo, st, cs, G, kc, ks⟩ := S
      intro V1 H locs ls hG
      simp only [sa_finX2, Bool.and_eq_true, decide_eq_true_eq] at h
      obtain ⟨⟨⟨h1, h2⟩, h3⟩, h4⟩ := h
      have hpc : pc ∈ tp := by simpa using h1
      obtain ⟨ik, ic, d0, d3, d4, d7, hck, hat⟩ := hthr pc hpc
      have hxw : ∀ w ∈ sa_XW2, w.before (K.1.map (sa_val V)).toArray s = true := fun w hw => va_Nw.use (sa_XW_on2 w hw) (hz3 w hw)
      exact vx_throw0 (cls := sa_NSE2) (names := sa_nm2) B.exec B.bytes hl hown (by decide +kernel) (by decide +kernel) (hts _ hck) (hts _ hini) (fun w hw => (hat w hw).elim (hts w) (hxw w))
        (fun w hw => by
          rcases List.mem_cons.mp hw with rfl | hw
          · rfl
          · rcases List.mem_cons.mp hw with rfl | hw
            · rfl
            · rcases hat w hw with h9 | h9
              · unfold vx_ot; rw [hg w h9, Bool.or_true]
              · unfold vx_ot; rw [sa_XW_on2 w h9, Bool.true_or])
        hz1 hz2 hG.2.2.2.2 (by rw [hml]; exact hG.2.1.1) d0 d3 d4 d7 (fun x hx => (hno x hx).elim) (show 2 + 3 < fr by omega) (by
          rw [sa_sum]
          have e9 : (13 * (sa_nm2.length + 1) + 42) = 81 := rfl
          rw [e9]
          show (st.map sa_cat).sum + 81 ≤ lc
          have h4 : (st.map sa_cat).sum ≤ 8 := h4
          omega) h2 h3 B.notSynchronized (fun t _ t1 t2 => ⟨rfl, Nat.le_trans hG.2.2.2.2.1 t1, fun q q1 q2 => (t2 q (Nat.lt_of_lt_of_le q1 hG.2.2.2.2.1)).trans (hG.2.2.2.2.2.1 q q1 q2)⟩) (fun z hz => hG.2.2.2.2.2.2 z hz) h2 h3) fuel _ hrun
  exact hW V s.heap [] _ ⟨⟨hI, Nat.le_refl _, fun _ _ => rfl⟩, hl9, hP, hD, hS⟩
end SAT2
