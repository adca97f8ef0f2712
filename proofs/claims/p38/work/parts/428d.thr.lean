section XWT
/-! methods that may throw -/
noncomputable def xw_QT (D : va_G) (dA : Nat → ClassId) (cl : List vw_C) (KT : List tb_kd) (al : List (Nat × Nat)) (w0 : va_W) (sz : Nat) (PostX : xw_M → Prop) : String → State → State → Prop := fun x st t => x = sa_NSE ∧ (∃ (w' : va_W) (μ' : xw_M), va_P D cl w' t.heap ∧ va_D (va_A w0 sz) w' ∧ xw_R dA al KT w' μ' ∧ PostX μ') ∧ va_F (va_A w0 sz) st t
noncomputable def xw_MetT (l : Launch) (KT : List tb_kd) (KL : List Nat) (y : MethodName) (cc : ByteArray) (maxL : Nat) (ret : Option FieldType) (fr lc : Nat) (vs : (Nat → Nat) → List Value) (μ : xw_M) (Post : Int → xw_M → Prop) (PostX : xw_M → Prop) : Prop :=
  ∀ (D : va_G) (dA : Nat → ClassId) (sz : Nat) (al : List (Nat × Nat)) (w0 : va_W), al.map Prod.snd = KL → xw_R dA al KT w0 μ → vx_Met l y (Cond.code y cc maxL ret :: sa_Ts) { frames := fr, cells := 1, slots := 6, locals := lc } (xw_P D dA vwCl w0 sz (vs (xw_ad al))) (xw_Q D dA vwCl KT al w0 sz (fun v μ' => ∃ r : Int, v = some (.int (Int32.ofInt r)) ∧ Post r μ')) (xw_QT D dA vwCl KT al w0 sz PostX) 1 6 (va_A w0 sz)
theorem xw_ofT {l : Launch} {KT : List tb_kd} {KL : List Nat} {y : MethodName} {cc : ByteArray} {mL : Nat} {ret : Option FieldType} {fr lc : Nat} {vs : (Nat → Nat) → List Value} {μ : xw_M} {Post : Int → xw_M → Prop} {PostX : xw_M → Prop} (hy : plainName y.cls = true) (hlen : ∀ ad, (lg_sl (vs ad)).length ≤ mL)
    (body : ∀ (p : Program) (e : Env) (s : State) (m : MethodId) (args : Array Value) (below : List Frame) (meth : Method) (c : Code) (D : va_G) (dA : Nat → ClassId) (A : Nat → Prop) (al : List (Nat × Nat)) (w0 : va_W) (sz : Nat), sa_C p s m args c D dA A mL vwCl sa_Ts cc y.cls → sa_U D vwCl dA s → tb_Ou A s s.heap → al.map Prod.snd = KL → meth.sig.returnType = ret → meth.locks = false → A = va_A w0 sz → (∀ x ∈ c.exceptionTable.toList, False) →
      xw_W p l e { frames := fr, cells := 1, slots := 6, locals := lc } s m args below meth c (vx_MQ below (xw_Q D dA vwCl KT al w0 sz (fun v μ' => ∃ r : Int, v = some (.int (Int32.ofInt r)) ∧ Post r μ')) (xw_QT D dA vwCl KT al w0 sz PostX) args s 1 6 A) D dA A mL vwCl KT al 0 0 μ 0 (lv_args 0 (vs (xw_ad al))) []) : xw_MetT l KT KL y cc mL ret fr lc vs μ Post PostX := by
  intro D dA sz al w0 hKL hR
  refine vx_ofW (cc := cc) (maxL := mL) (ret := ret) hy rfl ?_
  intro p e s m args below meth c s₁ B hml hno hv
  obtain ⟨hargs, hsz, ⟨hP, hD0⟩, hU, hX⟩ := hv
  subst hargs
  have hts0 := atoms_spec (ws := Cond.code y cc mL ret :: sa_Ts) B.pre
  have hown : s.vm.findClass y.cls = some m.cls := findClass_of_methodNamed B.named
  subst hsz
  have hD := hD0.self (sz := s.heap.size)
  have hS : va_S (va_A w0 s.heap.size) s.heap s.heap [] := va_S.rf
  have hl := lv_entry (vs (xw_ad al)) (n := mL) (hlen _)
  rw [lg_entry_eq]
  have hC : sa_C p s m (vs (xw_ad al)).toArray c D dA (va_A w0 s.heap.size) mL vwCl sa_Ts cc y.cls := ⟨B.exec, B.bytes, fun w hw => hts0 w (List.mem_cons_of_mem _ hw), hown, hml, hU.1, fun q h => Or.inr h⟩
  exact body p e s m (vs (xw_ad al)).toArray below meth c D dA (va_A w0 s.heap.size) al w0 s.heap.size hC hU hX hKL B.returns B.notSynchronized rfl (fun x hx => hno x hx) s.heap [] _ w0 hl hP hD hR hS
variable {p : Program} {l : Launch} {e : Env} {s : State} {m : MethodId} {args : Array Value} {below : List Frame} {meth : Method} {c : Code} {D : va_G} {dA : Nat → ClassId} {A : Nat → Prop} {nL : Nat} {KT : List tb_kd} {al : List (Nat × Nat)} {μ : xw_M} {cc : ByteArray} {own : String} {pc fr lc : Nat} {L : List (Nat × Value)} {st : List Value}
theorem xw_iretT (C0 : sa_C p s m args c D dA A nL vwCl sa_Ts cc own) {w0 : va_W} {sz : Nat} {Post : Option Value → xw_M → Prop} {PostX : xw_M → Prop} {ty : FieldType} {z : Int} (hA : A = va_A w0 sz) (hr : meth.sig.returnType = some ty) (hlocks : meth.locks = false) (hn : narrow ty (.int (Int32.ofInt z)) = .int (Int32.ofInt z)) (hd : decode cc pc = .ok (.ireturn, 1)) (hq : Post (some (.int (Int32.ofInt z))) μ) : xw_W p l e { frames := fr, cells := 1, slots := 6, locals := lc } s m args below meth c (vx_MQ below (xw_Q D dA vwCl KT al w0 sz Post) (xw_QT D dA vwCl KT al w0 sz PostX) args s 1 6 A) D dA A nL vwCl KT al 0 0 μ pc L [.int (Int32.ofInt z)] := by
  intro H locs ls w h1 h2 h3 h4 h5
  subst hA
  refine vx_ret (W.widen (k := 1) (n := 6) (Nat.zero_le _) (Nat.zero_le _) ?_)
  exact W.zret C0.1 C0.2.1 hr hn (fun t ht _ => ⟨⟨_, w, μ, rfl, by rw [ht]; exact h2, h3, h4, hq⟩, h5.F ht⟩) (fun q hq9 => h5.2.2 q hq9) hd
/-- a NoSuchElementException made and thrown -/
theorem xw_throw (C0 : sa_C p s m args c D dA A nL vwCl sa_Ts cc own) (hl : l.stackTraces = false) (hO : tb_Ou A s s.heap) {w0 : va_W} {sz : Nat} {Post : Option Value → xw_M → Prop} {PostX : xw_M → Prop} (hA : A = va_A w0 sz) (hlocks : meth.locks = false) (hno : ∀ x ∈ c.exceptionTable.toList, False) (hini : Cond.initialized sa_NSE ∈ sa_Ts) (hthr : sa_thr sa_Ts own cc pc) (hfr : 6 ≤ fr) (hlc : 100 ≤ lc) (hcat : (st.map (fun v => v.category)).sum ≤ 8) (hq : PostX μ) : xw_W p l e { frames := fr, cells := 1, slots := 6, locals := lc } s m args below meth c (vx_MQ below (xw_Q D dA vwCl KT al w0 sz Post) (xw_QT D dA vwCl KT al w0 sz PostX) args s 1 6 A) D dA A nL vwCl KT al 0 0 μ pc L st := by
  intro H locs ls w h1 h2 h3 h4 h5
  obtain ⟨hx, hb, hts, hown, hml, hK, hAA⟩ := C0
  obtain ⟨⟨⟨hz1, hz2⟩, hz3⟩, hO2⟩ := id hO
  obtain ⟨ik, ic, d0, d3, d4, d7, hck, hat⟩ := hthr
  have hxw : ∀ w ∈ sa_XW, w.before args s = true := fun w hw => va_Nw.use (sa_XW_on w hw) (hz3 w hw)
  subst hA
  exact vx_throw0 (cls := sa_NSE) (names := sa_nm) hx hb hl hown (by decide +kernel) (by decide +kernel) (hts _ hck) (hts _ hini) (fun w hw => (hat w hw).elim (hts w) (hxw w))
    (fun w hw => by
      rcases List.mem_cons.mp hw with rfl | hw
      · rfl
      · rcases List.mem_cons.mp hw with rfl | hw
        · rfl
        · rcases hat w hw with h9 | h9
          · unfold vx_ot; rw [sa_Tg w h9, Bool.or_true]
          · unfold vx_ot; rw [sa_XW_on w h9, Bool.true_or])
    hz1 hz2 h5 (by rw [hml]; exact h1.1) d0 d3 d4 d7 (fun x hx => (hno x hx).elim) (show 2 + 3 < fr by omega) (by
      have e9 : (13 * (sa_nm.length + 1) + 42) = 81 := rfl
      rw [e9]
      show (st.map (fun v => v.category)).sum + 81 ≤ lc
      omega) (show 0 + 1 ≤ 1 by omega) (show 0 + 6 ≤ 6 by omega) hlocks (fun t _ t1 t2 => ⟨rfl, by
        refine ⟨w, μ, h2.kept (fun k9 q9 hk9 => ?_), h3, h4, hq⟩
        have hat9 := h2 k9 q9 hk9
        refine t2 _ ?_
        unfold va_at at hat9
        split at hat9
        · exact (Array.getElem?_eq_some_iff.mp hat9).1
        · obtain ⟨r9, -, ob⟩ := hat9
          obtain ⟨cell9, q9, -⟩ := ob
          exact (Array.getElem?_eq_some_iff.mp q9).1, Nat.le_trans h5.1 t1, fun q q1 q2 => (t2 q (Nat.lt_of_lt_of_le q1 h5.1)).trans (h5.2.1 q q1 q2)⟩) (fun z hz => h5.2.2 z hz) (show 0 + 1 ≤ 1 by omega) (show 0 + 6 ≤ 6 by omega)
end XWT
