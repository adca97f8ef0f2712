section XWH
/-! a method that catches, calls of it; the law's own rows -/
variable {p : Program} {l : Launch} {e : Env} {R : Room} {s : State} {m : MethodId} {args : Array Value} {below : List Frame} {meth : Method} {c : Code} {Q : State → Prop} {D : va_G} {dA : Nat → ClassId} {A : Nat → Prop} {nL : Nat} {KT : List tb_kd} {KL : List Nat} {al : List (Nat × Nat)} {kc ks : Nat} {μ : xw_M} {cc : ByteArray} {own : String} {pc : Nat} {L : List (Nat × Value)} {st rest As : List Value}
theorem xw_inA {w : va_W} {H : Heap} {locs : List Loc} (hA : ∀ q, s.heap.size ≤ q → A q) (h3 : va_D A w) (h5 : va_S A s.heap H locs) : ∀ q, va_A w H.size q → A q := by
  intro q hq
  rcases hq with ⟨k9, e9, hq⟩ | hq
  · exact h3.2 k9 _ hq
  · exact hA q (Nat.le_trans h5.1 hq)
theorem xw_ext {H : Heap} {locs L9 : List Loc} {T t : State} {w : va_W} (hF : ∀ q, va_A w H.size q → A q) (h5 : va_S A s.heap H locs) (hL : ∀ q ∈ L9, va_A w H.size q.base) (x1 : T.heap = t.heap) (hzz : H.size ≤ t.heap.size) (hkk : ∀ q, q < H.size → ¬ va_A w H.size q → t.heap[q]? = H[q]?) : va_S A s.heap T.heap (locs ++ L9) :=
  ⟨Nat.le_trans h5.1 (by rw [x1]; exact hzz), fun q g1 g2 => by rw [x1, hkk q (Nat.lt_of_lt_of_le g1 h5.1) (fun z => g2 (hF q z))]; exact h5.2.1 q g1 g2, fun q hq => by
    rcases List.mem_append.mp hq with h | h
    · exact h5.2.2 q h
    · exact hF _ (hL q h)⟩
/-- behind a call's run that may have taken a cell -/
theorem xw_back1 {st' : List Value} {Post : Option Value → xw_M → Prop} {w : va_W} {H : Heap} {locs : List Loc} {ls : Array Slot} {a : Array Value} (hA : ∀ q, s.heap.size ≤ q → A q) (h1 : lv_has ls nL L) (h3 : va_D A w) (h5 : va_S A s.heap H locs) (hrun : va_Run p l e R s m args below meth c H locs kc ks 1 6 (F0 m pc ls st) st' (xw_Q D dA vwCl KT al w H.size Post a) (va_A w H.size)) (kk : ∀ (v : Option Value) (μ' : xw_M), Post v μ' → xw_W p l e R s m args below meth c Q D dA A nL vwCl KT al (kc + 1) (ks + 6) μ' (pc + 3) L (v.toList ++ st')) : W p l e R s m args below meth c H locs kc ks Q (F0 m pc ls st) := by
  intro T hT X
  obtain ⟨v, st₀, t, T', L9, t0, X', hL, x1, x2, ⟨⟨v9, w', μ', hoc, m1, m2, m3, m4⟩, hzz, hkk⟩, stp⟩ := hrun T hT X
  have hv := Outcome.returned.inj hoc
  subst hv
  rw [t0] at hzz hkk
  have hF := xw_inA hA h3 h5
  obtain ⟨t2, a1, b1⟩ := kk v μ' m4 T'.heap (locs ++ L9) ls w' h1 (by rw [x1]; exact m1) (m2.weaken (fun j q hj hq => hF _ hq)) m3 (xw_ext hF h5 hL x1 hzz hkk) T' rfl X'
  exact ⟨t2, stp t2 a1, b1⟩
/-- a call that may throw, where it is caught -/
theorem xw_callX (C0 : sa_C p s m args c D dA A nL vwCl sa_Ts cc own) (hU : sa_U D vwCl dA s) (hO : tb_Ou A s s.heap) (hKL : al.map Prod.snd = KL) {hp : Nat} {y : MethodName} {cy : ByteArray} {mL fr lc idx n ci N j κ : Nat} {T : u_T} {ret : Option FieldType} {ts : List tb_t} {vs : (Nat → Nat) → List Value} {Post : Int → xw_M → Prop} {PostX : xw_M → Prop} {xe : ExceptionTableEntry} (hM : xw_MetT l KT KL y cy mL ret fr lc vs μ Post PostX) (hcode : Cond.code y cy mL ret ∈ sa_Ts) (hd : decode cc pc = .ok (.invokevirtual idx, 3)) (w1 : Cond.methodLink own idx y ∈ sa_Ts) (w2 : Cond.instanceMethod y ∈ sa_Ts) (w3 : Cond.selects y.cls y y ∈ sa_Ts) (w4 : Cond.initialized y.cls ∈ sa_Ts) (hcl : vwCl[ci]? = some (y.cls, T, N)) (hy : sa_arg y n) (hR : fr + 1 ≤ R.frames ∧ 8 + (mL + 11) + lc ≤ R.locals) (hvs : vs (xw_ad al) = .ref (xw_ad al j) :: As) (hn : As.length = n) (hst : st = As.reverse ++ .ref (xw_ad al j) :: rest) (hkc : kc + 1 ≤ R.cells ∧ ks + 6 ≤ R.slots) (hcat : (rest.map (fun v => v.category)).sum ≤ 8) (hj : al[j]? = some (xw_ad al j, κ)) (hk : KT[κ]? = some (.inl (ci, ts))) (hsplit : c.exceptionTable.toList = [xe]) (hcov : covers xe pc = true) (hct : xe.catchType ≠ 0) (hlk : Cond.classLink own xe.catchType sa_NSE ∈ sa_Ts) (hhp : xe.handlerPc = hp) (kk : ∀ (r : Int) (μ' : xw_M), Post r μ' → xw_W p l e R s m args below meth c Q D dA A nL vwCl KT al (kc + 1) (ks + 6) μ' (pc + 3) L (.int (Int32.ofInt r) :: rest)) (kx : ∀ (q : Nat) (μ' : xw_M), PostX μ' → xw_W p l e R s m args below meth c Q D dA A nL vwCl KT al (kc + 1) (ks + 6) μ' hp L [.ref q]) : xw_W p l e R s m args below meth c Q D dA A nL vwCl KT al kc ks μ pc L st := by
  intro H locs ls w h1 h2 h3 h4 h5
  obtain ⟨hx, hb, hts, hown, hml, hK, hA⟩ := C0
  obtain ⟨e9, j2, ⟨fs, rfl, j4⟩⟩ := xw_cell h4 hj hk
  have rv := va_recv (D := D) hK h2 hcl j2
  have hp0 := xw_pre (vs := vs (xw_ad al)) hU hO hA h2 h3 h5
  rw [hvs] at hp0
  have hrun := vx_runV (p := p) (e := e) (m := m) (below := below) (meth := meth) (c := c) (H := H) (locs := locs) (cells := kc) (slots := ks) (C := y.cls) (bytes := cy) (maxL := mL) (ret := ret) (b := xw_ad al j) (As := As) (rest := rest) (n := n) (g := F0 m pc ls st) ⟨hx, hb, hml, hown, hts⟩ (hM D dA H.size al w hKL h4) (cwV n hts (sa_goodV sa_Tg hcode (by intro u hu; simp only [List.mem_cons, List.not_mem_nil, or_false] at hu; rcases hu with rfl | rfl | rfl | rfl <;> assumption)) rfl rfl rfl ⟨rfl, hy⟩ hR) ⟨xw_bl, rv, by rw [hvs]; exact hp0⟩ rfl hn h1.1 hst (lv_room hcat) hd hkc
  have hF := xw_inA hA h3 h5
  intro T9 hT9 X9
  rcases hrun T9 hT9 X9 with ⟨v, st₀, t, T', L9, t0, X', hL, x1, x2, ⟨⟨v9, w', μ', hoc, m1, m2, m3, ⟨r, hv, m4⟩⟩, hzz, hkk⟩, stp⟩ | ⟨q, st₀, t, T', L9, Ex, ce, t0, X', hL, x1, x2, ⟨hE, ⟨w', μ', m1, m2, m3, m4⟩, hzz, hkk⟩, hce, hcv9, hcls, stp⟩
  · have hv9 := Outcome.returned.inj hoc
    subst hv9
    subst hv
    rw [t0] at hzz hkk
    obtain ⟨t2, a1, b1⟩ := kk r μ' m4 T'.heap (locs ++ L9) ls w' h1 (by rw [x1]; exact m1) (m2.weaken (fun j q hj hq => hF _ hq)) m3 (xw_ext hF h5 hL x1 hzz hkk) T' rfl X'
    exact ⟨t2, stp t2 a1, b1⟩
  · subst hE
    rw [t0] at hzz hkk
    have hW := kx q μ' m4 T'.heap (locs ++ L9) ls w' h1 (by rw [x1]; exact m1) (m2.weaken (fun j q hj hq => hF _ hq)) m3 (xw_ext hF h5 hL x1 hzz hkk)
    have hcast : (Cond.castable sa_NSE sa_NSE).before args s = true := va_Nw.use rfl (hO.1.2 _ (List.mem_cons_self))
    obtain ⟨t2, a1, b1⟩ := sa_caught (pc := pc) (rest := rest) hown hsplit hcov hct (hts _ hlk) hcast (by rw [x1]; exact hce) hcv9 hcls (by rw [hhp]; exact hW) T' rfl X'
    exact ⟨t2, stp.trans a1, b1⟩
noncomputable def xw_MetH (l : Launch) (KT : List tb_kd) (KL : List Nat) (y : MethodName) (cc : ByteArray) (maxL : Nat) (ret : Option FieldType) (hh : List (Nat × Nat × Nat × Nat)) (fr lc : Nat) (vs : (Nat → Nat) → List Value) (μ : xw_M) (Post : Int → xw_M → Prop) : Prop :=
  ∀ (D : va_G) (dA : Nat → ClassId) (sz : Nat) (al : List (Nat × Nat)) (w0 : va_W), al.map Prod.snd = KL → xw_R dA al KT w0 μ → Met l y (Cond.codeWith y cc maxL ret hh :: sa_Ts) { frames := fr, cells := 1, slots := 6, locals := lc } (xw_P D dA vwCl w0 sz (vs (xw_ad al))) (xw_Q D dA vwCl KT al w0 sz (fun v μ' => ∃ r : Int, v = some (.int (Int32.ofInt r)) ∧ Post r μ')) 1 6 (va_A w0 sz)
theorem xw_ofH {l : Launch} {KT : List tb_kd} {KL : List Nat} {y : MethodName} {cc : ByteArray} {mL : Nat} {ret : Option FieldType} {hh : List (Nat × Nat × Nat × Nat)} {fr lc : Nat} {vs : (Nat → Nat) → List Value} {μ : xw_M} {Post : Int → xw_M → Prop} (hy : plainName y.cls = true) (hlen : ∀ ad, (lg_sl (vs ad)).length ≤ mL)
    (body : ∀ (p : Program) (e : Env) (s : State) (m : MethodId) (args : Array Value) (below : List Frame) (meth : Method) (c : Code) (D : va_G) (dA : Nat → ClassId) (A : Nat → Prop) (al : List (Nat × Nat)) (w0 : va_W) (sz : Nat), sa_C p s m args c D dA A mL vwCl sa_Ts cc y.cls → sa_U D vwCl dA s → tb_Ou A s s.heap → al.map Prod.snd = KL → c.exceptionTable.toList = tableOf hh → meth.sig.returnType = ret → meth.locks = false → A = va_A w0 sz →
      xw_W p l e { frames := fr, cells := 1, slots := 6, locals := lc } s m args below meth c (MQ below (xw_Q D dA vwCl KT al w0 sz (fun v μ' => ∃ r : Int, v = some (.int (Int32.ofInt r)) ∧ Post r μ')) args s 1 6 A) D dA A mL vwCl KT al 0 0 μ 0 (lv_args 0 (vs (xw_ad al))) []) : xw_MetH l KT KL y cc mL ret hh fr lc vs μ Post := by
  intro D dA sz al w0 hKL hR
  refine va_MetW (cc := cc) (maxL := mL) (ret := ret) (hh := hh) hy rfl ?_
  intro p e s m args below meth c s₁ B hml hv
  obtain ⟨hargs, hsz, ⟨hP, hD0⟩, hU, hX⟩ := hv
  subst hargs
  have hts0 := atoms_spec (ws := Cond.codeWith y cc mL ret hh :: sa_Ts) B.pre
  have htab := vx_table (x := y) B (hts0 _ List.mem_cons_self)
  have hown : s.vm.findClass y.cls = some m.cls := findClass_of_methodNamed B.named
  subst hsz
  have hD := hD0.self (sz := s.heap.size)
  have hS : va_S (va_A w0 s.heap.size) s.heap s.heap [] := va_S.rf
  have hl := lv_entry (vs (xw_ad al)) (n := mL) (hlen _)
  rw [lg_entry_eq]
  have hC : sa_C p s m (vs (xw_ad al)).toArray c D dA (va_A w0 s.heap.size) mL vwCl sa_Ts cc y.cls := ⟨B.exec, B.bytes, fun w hw => hts0 w (List.mem_cons_of_mem _ hw), hown, hml, hU.1, fun q h => Or.inr h⟩
  exact body p e s m (vs (xw_ad al)).toArray below meth c D dA (va_A w0 s.heap.size) al w0 s.heap.size hC hU hX hKL htab B.returns B.notSynchronized rfl s.heap [] _ w0 hl hP hD hR hS
theorem xw_iretH (C0 : sa_C p s m args c D dA A nL vwCl sa_Ts cc own) {w0 : va_W} {sz : Nat} {Post : Option Value → xw_M → Prop} {ty : FieldType} {z : Int} (hA : A = va_A w0 sz) (hr : meth.sig.returnType = some ty) (hlocks : meth.locks = false) (hn : narrow ty (.int (Int32.ofInt z)) = .int (Int32.ofInt z)) (hd : decode cc pc = .ok (.ireturn, 1)) (hq : Post (some (.int (Int32.ofInt z))) μ) : xw_W p l e R s m args below meth c (MQ below (xw_Q D dA vwCl KT al w0 sz Post) args s 1 6 A) D dA A nL vwCl KT al 1 6 μ pc L [.int (Int32.ofInt z)] := by
  intro H locs ls w h1 h2 h3 h4 h5
  subst hA
  exact W.zret C0.1 C0.2.1 hr hn (fun t ht _ => ⟨⟨_, w, μ, rfl, by rw [ht]; exact h2, h3, h4, hq⟩, h5.F ht⟩) (fun q hq9 => h5.2.2 q hq9) hd
theorem xw_callSH (C0 : sa_C p s m args c D dA A nL vwCl sa_Ts cc own) (hU : sa_U D vwCl dA s) (hO : tb_Ou A s s.heap) (hKL : al.map Prod.snd = KL) {y : MethodName} {cy : ByteArray} {mL fr lc idx n : Nat} {ret : Option FieldType} {hh : List (Nat × Nat × Nat × Nat)} {vs : (Nat → Nat) → List Value} {Post : Int → xw_M → Prop} (hM : xw_MetH l KT KL y cy mL ret hh fr lc vs μ Post) (hcode : Cond.codeWith y cy mL ret hh ∈ sa_Ts) (hd : decode cc pc = .ok (.invokestatic idx, 3)) (w1 : Cond.methodLink own idx y ∈ sa_Ts) (w2 : Cond.static y ∈ sa_Ts) (w4 : Cond.initialized y.cls ∈ sa_Ts) (hy : sa_arg y n) (hR : fr + 1 ≤ R.frames ∧ 8 + (mL + 11) + lc ≤ R.locals) (hvs : vs (xw_ad al) = As) (hn : As.length = n) (hst : st = As.reverse ++ rest) (hkc : kc + 1 ≤ R.cells ∧ ks + 6 ≤ R.slots) (hcat : (rest.map (fun v => v.category)).sum ≤ 8) (kk : ∀ (r : Int) (μ' : xw_M), Post r μ' → xw_W p l e R s m args below meth c Q D dA A nL vwCl KT al (kc + 1) (ks + 6) μ' (pc + 3) L (.int (Int32.ofInt r) :: rest)) : xw_W p l e R s m args below meth c Q D dA A nL vwCl KT al kc ks μ pc L st := by
  intro H locs ls w h1 h2 h3 h4 h5
  obtain ⟨hx, hb, hts, hown, hml, hK, hA⟩ := C0
  have hp := xw_pre (vs := vs (xw_ad al)) hU hO hA h2 h3 h5
  rw [hvs] at hp
  have hrun := vx_runSW (p := p) (e := e) (below := below) (meth := meth) (H := H) (locs := locs) (cells := kc) (slots := ks) (bytes := cy) (maxL := mL) (ret := ret) (hh := hh) (As := As) (rest := rest) (n := n) (g := F0 m pc ls st) ⟨hx, hb, hml, hown, hts⟩ (hM D dA H.size al w hKL h4) (vx_cwSW n hts (sa_goodV sa_Tg hcode (by intro u hu; simp only [List.mem_cons, List.not_mem_nil, or_false] at hu; rcases hu with rfl | rfl | rfl <;> assumption)) rfl rfl rfl hy hR) ⟨xw_bl, by rw [hvs]; exact hp⟩ rfl hn h1.1 hst (lv_room hcat) hd hkc
  exact xw_back1 hA h1 h3 h5 hrun (fun v μ' ⟨r, hv, hq⟩ => by subst hv; exact kk r μ' hq)
/-- the script's next number -/
theorem xw_sld (C0 : sa_C p s m args c D dA A nL vwCl sa_Ts cc own) {b Ln i j : Nat} {xs : Nat → Int32} (hX : va_X b Ln xs s s.heap) (hbl : b < s.heap.size) (hbA : ¬ A b) (hi : i + j < Ln) (hL : Ln ≤ 3072) (hd : decode cc pc = .ok (.iaload, 1)) (kk : xw_W p l e R s m args below meth c Q D dA A nL vwCl KT al kc ks μ (pc + 1) L (.int (Int32.ofInt (xs (i + j)).toInt) :: st)) : xw_W p l e R s m args below meth c Q D dA A nL vwCl KT al kc ks μ pc L (.int (Int32.ofInt ((i : Int) + (j : Int))) :: .ref b :: st) := by
  intro H locs ls w h1 h2 h3 h4 h5
  obtain ⟨hx, hb, hts, hown, hml, hK, hA⟩ := C0
  have vx : (Int32.ofInt ((i : Int) + (j : Int))).toInt = ((i + j : Nat) : Int) := by
    rw [sa_ofInt_toInt (by omega) (by omega)]
    omega
  have vn : (Int32.ofInt ((i : Int) + (j : Int))).toNatClampNeg = i + j := by
    show (Int32.ofInt ((i : Int) + (j : Int))).toInt.toNat = i + j
    rw [vx]
    omega
  have h8 : W p l e R s m args below meth c H locs kc ks Q (F0 m (pc + 1) ls (.int (xs (Int32.ofInt ((i : Int) + (j : Int))).toNatClampNeg) :: st)) := by
    rw [vn]
    have h9 := kk H locs ls w h1 h2 h3 h4 h5
    rw [Int32.ofInt_toInt] at h9
    exact h9
  exact va_sld hx hb hX hbl hbA h5 (vp_in_iff.mpr ⟨by omega, by omega⟩) hd h8
theorem xw_wid {kc' ks' : Nat} (h1 : kc ≤ kc') (h2 : ks ≤ ks') (kk : xw_W p l e R s m args below meth c Q D dA A nL vwCl KT al kc' ks' μ pc L st) : xw_W p l e R s m args below meth c Q D dA A nL vwCl KT al kc ks μ pc L st := fun H locs ls w g1 g2 g3 g4 g5 => W.widen h1 h2 (kk H locs ls w g1 g2 g3 g4 g5)
end XWH
