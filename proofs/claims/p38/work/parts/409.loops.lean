section TY9
theorem tb_ev_agree {V V' : sa_V} {n : Nat} (h : ∀ k, k < n → V' k = V k) : ∀ {l : List (Nat × Int)}, l.all (fun q => decide (q.1 < n)) = true → tb_ev V' l = tb_ev V l
  | [], _ => rfl
  | q :: l, hl => by
    simp only [List.all_cons, Bool.and_eq_true, decide_eq_true_eq] at hl
    unfold tb_ev
    rw [h _ hl.1, tb_ev_agree h hl.2]
/-- a jump to one of the templates, with a smaller rank -/
noncomputable def tb_lf (Z : tb_Z) (n0 : Nat) (TS : List (tb_S × tb_l)) (ρ : Option tb_l) (S : tb_S) : Bool := TS.any (fun t => match decide (t.1.1 = S.1) with
  | false => false
  | true => match tb_luv S.2.1 t.1.2.1 with
    | none => false
    | some us => tb_jmp Z n0 t.1 S us && match ρ with
      | none => true
      | some ρ => tb_ent S.2.2.2.2.1 S.2.2.2.1.2.2 2 (tb_ax (-1) (tb_sl (tb_jg Z n0 t.1 S us) t.2.1).1 ρ.1) (ρ.2 - t.2.2 - (tb_sl (tb_jg Z n0 t.1 S us) t.2.1).2 - 1))
noncomputable def tb_tok (n0 : Nat) (t : tb_S × tb_l) : Bool := tb_ent t.1.2.2.2.2.1 t.1.2.2.2.1.2.2 2 (tb_ax (-1) [] t.2.1) t.2.2 && (t.2.1.all (fun q => decide (q.1 < t.1.2.2.2.2.1.length)) && decide (n0 ≤ t.1.2.2.2.2.1.length))
noncomputable def tb_leaf (Z : tb_Z) (n0 : Nat) (TS : List (tb_S × tb_l)) (hs : List Nat) (fin : tb_S → Bool) (ρ : Option tb_l) (S : tb_S) : Bool := fin S || match hs.contains S.1 with
  | false => false
  | true => tb_lf Z n0 TS ρ S
/-- what a method's run must be -/
noncomputable def tb_chk (Z : tb_Z) (K : tb_K) (TS : List (tb_S × tb_l)) (hs : List Nat) (find : Nat → Option tb_op) (fin : tb_S → Bool) (fuel : Nat) : Bool :=
  TS.all (fun t => tb_tok K.2.2.2.1.length t && tb_nrm t.1 (tb_run find (tb_leaf Z K.2.2.2.1.length TS hs fin (some t.2)) fuel)) && tb_nrm (0, sa_args 0 K.1, [], (K.2.1, [], K.2.2.1), K.2.2.2.1, 0, 0) (tb_run find (tb_leaf Z K.2.2.2.1.length TS hs fin none) fuel)
theorem tb_chk_ok {p : Program} {l : Launch} {e : Env} {R : Room} {s : State} {m : MethodId} {args : Array Value} {below : List Frame} {meth : Method} {c : Code} {Q : State → Prop} {D : va_G} {dA : Nat → ClassId} {A : Nat → Prop} {nL : Nat} {cl : List vw_C} {V0 : sa_V} {E : tb_E} {Z : tb_Z} {K : tb_K} {TS : List (tb_S × tb_l)} {hs : List Nat} {find : Nat → Option tb_op} {fin : tb_S → Bool} {fuel : Nat} (hz : tb_z E = Z)
    (hf : ∀ (n1 : Nat) (V1 : sa_V), K.2.2.2.1.length ≤ n1 → (∀ k, k < K.2.2.2.1.length → V1 k = V0 k) → ∀ pc op, find pc = some op → tb_snd p l e R s m args below meth c Q D dA A nL cl n1 V1 E pc op)
    (he : ∀ (n1 : Nat) (V1 : sa_V) S, K.2.2.2.1.length ≤ n1 → (∀ k, k < K.2.2.2.1.length → V1 k = V0 k) → fin S = true → tb_W p l e R s m args below meth c Q D dA A nL cl n1 V1 E S)
    (h : tb_chk Z K TS hs find fin fuel = true) : tb_W p l e R s m args below meth c Q D dA A nL cl K.2.2.2.1.length V0 E (0, sa_args 0 K.1, [], (K.2.1, [], K.2.2.1), K.2.2.2.1, 0, 0) := by
  unfold tb_chk at h
  rw [Bool.and_eq_true, tb_nrm_eq] at h
  obtain ⟨h1, h2⟩ := h
  have nn : ∀ t ∈ TS, ∀ V, sa_I V t.1.2.2.2.2.1 → (∀ x ∈ t.1.2.2.2.1.2.2, tb_lo V x) → 0 ≤ tb_ev V t.2.1 + t.2.2 := by
    intro t ht V hI hL
    have h3 := List.all_eq_true.mp h1 t ht
    rw [Bool.and_eq_true] at h3
    have h4 := h3.1
    unfold tb_tok at h4
    rw [Bool.and_eq_true] at h4
    have h5 := tb_ent_ok hI hL 2 _ _ h4.1
    rw [tb_ax_ev hI.2] at h5
    have h6 : tb_ev V [] = 0 := rfl
    omega
  have key : ∀ (N : Nat) (t : tb_S × tb_l), t ∈ TS → ∀ (V : sa_V), (tb_ev V t.2.1 + t.2.2).toNat < N → ∀ (H : Heap) (locs : List Loc) (ls : Array Slot), tb_G D dA A nL cl K.2.2.2.1.length V0 E s.heap V t.1.2.1 t.1.2.2.2.1 t.1.2.2.2.2.1 H locs ls → W p l e R s m args below meth c H locs t.1.2.2.2.2.2.1 t.1.2.2.2.2.2.2 Q (F0 m t.1.1 ls (t.1.2.2.1.map (sa_val V))) := by
    intro N
    induction N with
    | zero => intro t _ V hlt; omega
    | succ N ih =>
      intro t ht V hlt H locs ls hG
      have h3 := List.all_eq_true.mp h1 t ht
      rw [Bool.and_eq_true] at h3
      obtain ⟨h4, h5⟩ := h3
      rw [tb_nrm_eq] at h5
      unfold tb_tok at h4
      rw [Bool.and_eq_true, Bool.and_eq_true] at h4
      obtain ⟨-, t2, t3⟩ := h4
      have t3 := of_decide_eq_true t3
      have hrun := tb_run_ok (n0 := t.1.2.2.2.2.1.length) (V0 := V) (E := E) (hf _ _ t3 (fun k hk => hG.1.2.2 k hk)) (fun S hS => by
        unfold tb_leaf at hS
        rw [Bool.or_eq_true] at hS
        rcases hS with hS | hS
        · exact he _ _ S t3 (fun k hk => hG.1.2.2 k hk) hS
        · split at hS
          · cases hS
          · obtain ⟨t', ht', hS⟩ := List.any_eq_true.mp hS
            split at hS
            · cases hS
            · rename_i hpc
              have hpc : t'.1.1 = S.1 := of_decide_eq_true hpc
              split at hS
              · cases hS
              · rename_i us hus
                rw [Bool.and_eq_true] at hS
                obtain ⟨s1, s2⟩ := hS
                intro V2 H2 locs2 ls2 hG2
                obtain ⟨g1, g2⟩ := tb_jmp_ok hz hG2 t3 hus s1
                obtain ⟨w, -, -, -, -, -, -, m7⟩ := hG2.2.2.1
                have hdec := tb_ent_ok hG2.1.1 m7 2 _ _ s2
                rw [tb_ax_ev hG2.1.1.2, tb_ev_agree hG2.1.2.2 t2] at hdec
                have hnew := tb_sl_ev (V := V2) hG2.1.1.2 (tb_jg Z K.2.2.2.1.length t'.1 S us) t'.2.1
                have g1' : tb_G D dA A nL cl K.2.2.2.1.length V0 E s.heap (tb_pl V2 (tb_jg Z K.2.2.2.1.length t'.1 S us)) t'.1.2.1 t'.1.2.2.2.1 t'.1.2.2.2.2.1 H2 locs2 ls2 := ⟨⟨g1.1.1, g1.1.2.1, fun k hk => (g1.1.2.2 k hk).trans (hG.1.2.2 k hk)⟩, g1.2⟩
                obtain ⟨w', -, -, -, -, -, -, m8⟩ := g1'.2.2.1
                have hnn := nn t' ht' _ g1'.1.1 m8
                have hW := ih t' ht' _ (by omega) H2 locs2 ls2 g1'
                rw [g2, hpc] at hW
                unfold tb_jmp at s1
                simp only [Bool.and_eq_true] at s1
                exact W.widen (of_decide_eq_true s1.2.2.2.1) (of_decide_eq_true s1.2.2.2.2.1) hW) fuel t.1 h5
      exact hrun V H locs ls ⟨⟨hG.1.1, Nat.le_refl _, fun _ _ => rfl⟩, hG.2⟩
  refine tb_run_ok (hf _ _ (Nat.le_refl _) (fun k hk => rfl)) (fun S hS => ?_) fuel _ h2
  unfold tb_leaf at hS
  rw [Bool.or_eq_true] at hS
  rcases hS with hS | hS
  · exact he _ _ S (Nat.le_refl _) (fun k hk => rfl) hS
  · split at hS
    · cases hS
    · obtain ⟨t', ht', hS⟩ := List.any_eq_true.mp hS
      split at hS
      · cases hS
      · rename_i hpc
        have hpc : t'.1.1 = S.1 := of_decide_eq_true hpc
        split at hS
        · cases hS
        · rename_i us hus
          rw [Bool.and_eq_true] at hS
          obtain ⟨s1, -⟩ := hS
          intro V2 H2 locs2 ls2 hG2
          obtain ⟨g1, g2⟩ := tb_jmp_ok hz hG2 (Nat.le_refl _) hus s1
          have hW := key _ t' ht' _ (Nat.lt_succ_self _) H2 locs2 ls2 g1
          rw [g2, hpc] at hW
          unfold tb_jmp at s1
          simp only [Bool.and_eq_true] at s1
          exact W.widen (of_decide_eq_true s1.2.2.2.1) (of_decide_eq_true s1.2.2.2.2.1) hW
/-- A METHOD, out of its runs -/
theorem tb_methodX {X : tb_Xt} {l : Launch} {cl : List vw_C} {Ts : List Cond} {Z : tb_Z} {y : MethodName} {cc : ByteArray} {mL : Nat} {ret : Option FieldType} {fr lc : Nat} {K : tb_K} (hy : plainName y.cls = true) (rets : List Nat) (tab : List (Nat × tb_op)) (TS : List (tb_S × tb_l)) (hs : List Nat) (fuel : Nat)
    (hd : ∀ pc ∈ rets, decode cc pc = .ok (tb_ri ret, 1))
    (hops : ∀ (p : Program) (e : Env) (s : State) (m : MethodId) (args : Array Value) (below : List Frame) (meth : Method) (c : Code) (Q : State → Prop) (D : va_G) (dA : Nat → ClassId) (A : Nat → Prop) (VE : sa_V) (n0 : Nat) (V0 : sa_V) (E : tb_E), sa_C p s m args c D dA A mL cl Ts cc y.cls → sa_U D cl dA s → X VE A s → K.2.2.2.1.length ≤ n0 → (∀ k, k < K.2.2.2.1.length → V0 k = VE k) → tb_z E = Z → tb_mod E = K.2.2.2.2.2 → ∀ q ∈ tab, tb_snd p l e { frames := fr, cells := 0, slots := 0, locals := lc } s m args below meth c Q D dA A mL cl n0 V0 E q.1 q.2)
    (hlen : (K.1.map sa_cat).sum ≤ mL) (hrun : tb_chk Z K TS hs (fun pc => tb_as pc tab) (tb_fin Z rets ret K) fuel = true) : tb_MetX l cl Ts Z X y cc mL ret fr lc K := by
  intro D dA sz V E hI hX hz hm
  refine Met.ofW (cc := cc) (maxL := mL) (ret := ret) hy rfl ?_
  intro p e s m args below meth c s₁ B hml hv
  obtain ⟨hargs, hsz, ⟨hP, hD0, hwk, hfa, hru, hlo⟩, hU, hXX⟩ := hv
  subst hargs
  have hts0 := atoms_spec (ws := Cond.code y cc mL ret :: Ts) B.pre
  have hown : s.vm.findClass y.cls = some m.cls := findClass_of_methodNamed B.named
  subst hsz
  have hD := hD0.self (sz := s.heap.size)
  have hS : va_S (va_A (tb_w0 E) s.heap.size) s.heap s.heap [] := va_S.rf
  have hl := lv_entry (K.1.map (sa_val V)) (n := mL) (by rw [sa_sl_len]; exact hlen)
  rw [sa_args_lv] at hl
  rw [lg_entry_eq]
  have hC : sa_C p s m (K.1.map (sa_val V)).toArray c D dA (va_A (tb_w0 E) s.heap.size) mL cl Ts cc y.cls := ⟨B.exec, B.bytes, fun w hw => hts0 w (List.mem_cons_of_mem _ hw), hown, hml, hU.1, fun q h => Or.inr h⟩
  have hW := tb_chk_ok (p := p) (l := l) (e := e) (R := { frames := fr, cells := 0, slots := 0, locals := lc }) (s := s) (m := m) (args := (K.1.map (sa_val V)).toArray) (below := below) (meth := meth) (c := c) (Q := MQ below (tb_Q D dA cl s.heap.size E V K) (K.1.map (sa_val V)).toArray s 0 0 (va_A (tb_w0 E) s.heap.size)) (D := D) (dA := dA) (A := va_A (tb_w0 E) s.heap.size) (nL := mL) (cl := cl) (V0 := V) (E := E) hz
    (fun n1 V1 q1 q2 pc op h => hops p e s m _ below meth c _ D dA _ V _ _ E hC hU hXX q1 q2 hz hm (pc, op) (tb_as_mem h)) (fun n1 V1 S g1 g2 h => tb_fin_ok hz B.exec B.bytes B.notSynchronized B.returns rfl hd g1 g2 S h) hrun
  exact hW V s.heap [] _ ⟨⟨hI, Nat.le_refl _, fun _ _ => rfl⟩, hl, ⟨tb_w0 E, hP, hD, hwk, fun j a κ e0 e9 i h1 h2 h3 _ => by
    have := congrArg Prod.snd (Option.some.inj (h2.symm.trans h3))
    have : e0 = e9 := this
    rw [this], hfa, fun i r hr _ => hru i r hr, hlo⟩, hX, hS⟩
theorem tb_method {l : Launch} {cl : List vw_C} {Ts : List Cond} {Z : tb_Z} {y : MethodName} {cc : ByteArray} {mL : Nat} {ret : Option FieldType} {fr lc : Nat} {K : tb_K} (hy : plainName y.cls = true) (rets : List Nat) (tab : List (Nat × tb_op)) (TS : List (tb_S × tb_l)) (hs : List Nat) (fuel : Nat)
    (hd : ∀ pc ∈ rets, decode cc pc = .ok (tb_ri ret, 1))
    (hops : ∀ (p : Program) (e : Env) (s : State) (m : MethodId) (args : Array Value) (below : List Frame) (meth : Method) (c : Code) (Q : State → Prop) (D : va_G) (dA : Nat → ClassId) (A : Nat → Prop) (n0 : Nat) (V0 : sa_V) (E : tb_E), sa_C p s m args c D dA A mL cl Ts cc y.cls → sa_U D cl dA s → tb_Ou A s s.heap → tb_z E = Z → tb_mod E = K.2.2.2.2.2 → ∀ q ∈ tab, tb_snd p l e { frames := fr, cells := 0, slots := 0, locals := lc } s m args below meth c Q D dA A mL cl n0 V0 E q.1 q.2)
    (hlen : (K.1.map sa_cat).sum ≤ mL) (hrun : tb_chk Z K TS hs (fun pc => tb_as pc tab) (tb_fin Z rets ret K) fuel = true) : tb_Met l cl Ts Z y cc mL ret fr lc K :=
  tb_methodX hy rets tab TS hs fuel hd (fun p e s m args below meth c Q D dA A _ n0 V0 E h1 h2 h3 _ _ h6 h7 => hops p e s m args below meth c Q D dA A n0 V0 E h1 h2 h3 h6 h7) hlen hrun
end TY9
