section TYJ
/-! texts: the JDK's own methods on the six constants -/
noncomputable def tb_J (l : Launch) (Ts : List Cond) (y : MethodName) (cc : ByteArray) (mL : Nat) (ret : Option FieldType) (fr lc : Nat) (av : List Value) (B : State → Prop) (post : Option Value → Prop) : Prop := Met l y (Cond.code y cc mL ret :: Ts) { frames := fr, cells := 0, slots := 0, locals := lc } (va_Pc av B) (fun _ st oc t => (∃ v, oc = .returned v ∧ post v) ∧ t.heap = st.heap) 0 0 (fun _ => False)
theorem tb_Jgo {p : Program} {l : Launch} {e : Env} {R : Room} {s : State} {m : MethodId} {args : Array Value} {below : List Frame} {meth : Method} {c : Code} {H : Heap} {locs : List Loc} {kc ks pc : Nat} {Q : State → Prop} {ls : Array Slot} {st0 rest : List Value} {post : Option Value → Prop} (hrun : va_Run p l e R s m args below meth c H locs kc ks 0 0 (F0 m pc ls st0) rest (fun st oc t => (∃ v, oc = .returned v ∧ post v) ∧ t.heap = st.heap) (fun _ => False)) (k : ∀ v, post v → W p l e R s m args below meth c H locs kc ks Q (F0 m (pc + 3) ls (v.toList ++ rest))) : W p l e R s m args below meth c H locs kc ks Q (F0 m pc ls st0) := by
  intro T hT X
  obtain ⟨v, st₀, t, T', L, t0, X', hL, x1, x2, ⟨⟨v', hq1, hq3⟩, hq2⟩, stp⟩ := hrun T hT X
  have hL0 : L = [] := by
    cases L with
    | nil => rfl
    | cons a l9 => exact (hL a List.mem_cons_self).elim
  subst hL0
  have hv : v = v' := Outcome.returned.inj hq1
  subst hv
  obtain ⟨t2, a1, b1⟩ := k v hq3 T' (by rw [x1, hq2, t0]) (by simpa using X')
  exact ⟨t2, stp t2 a1, b1⟩
noncomputable def tb_bB (B : State → Prop) : Prop := ∀ u U : State, u.vm = U.vm → u.heap = U.heap → B u → B U
theorem tb_Jbl {av : List Value} {B : State → Prop} (h : tb_bB B) : FrameBlind (va_Pc av B) := fun a U g mk q => ⟨q.1, h U (U.calling g mk a) rfl rfl q.2⟩
noncomputable def tb_bO (tk : Nat) (adK adV : Nat → Nat) (A : Nat → Prop) : State → Prop := fun U => tb_okO tk adK adV A U U.heap
theorem tb_bO_bl {tk : Nat} {adK adV : Nat → Nat} {A : Nat → Prop} : tb_bB (tb_bO tk adK adV A) := by
  intro u U hv hh h
  unfold tb_bO at h ⊢
  rw [hh] at h
  exact h.same hv
theorem tb_JS {p : Program} {l : Launch} {e : Env} {R : Room} {s : State} {m : MethodId} {args : Array Value} {below : List Frame} {meth : Method} {c : Code} {H : Heap} {locs : List Loc} {kc ks pc : Nat} {Q : State → Prop} {ls : Array Slot} {rest : List Value} {post : Option Value → Prop} {cc : ByteArray} {own : String} {nL : Nat} {y : MethodName} {cy : ByteArray} {mL fr lc idx n : Nat} {ret : Option FieldType} {av : List Value} {B : State → Prop} (hx : p.tables.exec = Jvm.exec) (hb : c.code = cc) (hml : c.maxLocals = nL) (hown : s.vm.findClass own = some m.cls) (hts : ∀ w ∈ sa_Ts, w.before args s = true) (hsz : ls.size = nL) (hM : tb_J l sa_Ts y cy mL ret fr lc av B post) (hB : tb_bB B) (hpre : ∀ U : State, U.heap = H → s.WarmedH U.vm → B U) (hcode : Cond.code y cy mL ret ∈ sa_Ts) (hd : decode cc pc = .ok (.invokestatic idx, 3)) (w1 : Cond.methodLink own idx y ∈ sa_Ts) (w2 : Cond.static y ∈ sa_Ts) (w4 : Cond.initialized y.cls ∈ sa_Ts) (hy : sa_arg y n) (hn : av.length = n) (hR : fr + 1 ≤ R.frames ∧ 8 + (mL + 11) + lc ≤ R.locals) (hsum : (rest.map (fun v => v.category)).sum ≤ 8) (hC : kc ≤ R.cells) (hS0 : ks ≤ R.slots)
    (k : ∀ v, post v → W p l e R s m args below meth c H locs kc ks Q (F0 m (pc + 3) ls (v.toList ++ rest))) : W p l e R s m args below meth c H locs kc ks Q (F0 m pc ls (av.reverse ++ rest)) :=
  tb_Jgo (va_runS (bytes := cy) (maxL := mL) (ret := ret) (As := av) (n := n) ⟨hx, hb, hml, hown, hts⟩ hM (va_cwS n hts (sa_goodV sa_Tg hcode (by intro z hz; simp only [List.mem_cons, List.not_mem_nil, or_false] at hz; rcases hz with rfl | rfl | rfl <;> assumption)) rfl rfl rfl hy hR) ⟨tb_Jbl hB, fun U h1 h2 => ⟨rfl, hpre U h1 h2⟩⟩ rfl hn hsz rfl (lv_room hsum) hd ⟨hC, hS0⟩) k
theorem tb_JV {p : Program} {l : Launch} {e : Env} {R : Room} {s : State} {m : MethodId} {args : Array Value} {below : List Frame} {meth : Method} {c : Code} {H : Heap} {locs : List Loc} {kc ks pc : Nat} {Q : State → Prop} {ls : Array Slot} {rest : List Value} {post : Option Value → Prop} {cc : ByteArray} {own : String} {nL : Nat} {y : MethodName} {cy : ByteArray} {mL fr lc idx n b : Nat} {ret : Option FieldType} {av : List Value} {B : State → Prop} (hx : p.tables.exec = Jvm.exec) (hb : c.code = cc) (hml : c.maxLocals = nL) (hown : s.vm.findClass own = some m.cls) (hts : ∀ w ∈ sa_Ts, w.before args s = true) (hsz : ls.size = nL) (hM : tb_J l sa_Ts y cy mL ret fr lc (.ref b :: av) B post) (hB : tb_bB B) (hpre : ∀ U : State, U.heap = H → s.WarmedH U.vm → B U) (hcode : Cond.code y cy mL ret ∈ sa_Ts) (hd : decode cc pc = .ok (.invokevirtual idx, 3)) (w1 : Cond.methodLink own idx y ∈ sa_Ts) (w2 : Cond.instanceMethod y ∈ sa_Ts) (w3 : Cond.selects y.cls y y ∈ sa_Ts) (w4 : Cond.initialized y.cls ∈ sa_Ts) (hrv : ∃ cell : Cell, H[b]? = some cell ∧ cell.vm.isStatics = false ∧ s.vm.findClass y.cls = some cell.cls) (hy : sa_arg y n) (hn : av.length = n) (hR : fr + 1 ≤ R.frames ∧ 8 + (mL + 11) + lc ≤ R.locals) (hsum : (rest.map (fun v => v.category)).sum ≤ 8) (hC : kc ≤ R.cells) (hS0 : ks ≤ R.slots)
    (k : ∀ v, post v → W p l e R s m args below meth c H locs kc ks Q (F0 m (pc + 3) ls (v.toList ++ rest))) : W p l e R s m args below meth c H locs kc ks Q (F0 m pc ls (av.reverse ++ .ref b :: rest)) :=
  tb_Jgo (va_runV (C := y.cls) (bytes := cy) (maxL := mL) (ret := ret) (b := b) (As := av) (n := n) ⟨hx, hb, hml, hown, hts⟩ hM (cwV n hts (sa_goodV sa_Tg hcode (by intro z hz; simp only [List.mem_cons, List.not_mem_nil, or_false] at hz; rcases hz with rfl | rfl | rfl | rfl <;> assumption)) rfl rfl rfl ⟨rfl, hy⟩ hR) ⟨tb_Jbl hB, hrv, fun U h1 h2 => ⟨rfl, hpre U h1 h2⟩⟩ rfl hn hsz rfl (lv_room hsum) hd ⟨hC, hS0⟩) k
noncomputable def yS_len : MethodName := ⟨"java/lang/String", "length", "()I"⟩
noncomputable def yS_cod : MethodName := ⟨"java/lang/String", "coder", "()B"⟩
noncomputable def yS_cha : MethodName := ⟨"java/lang/String", "charAt", "(I)C"⟩
noncomputable def yS_isl : MethodName := ⟨"java/lang/String", "isLatin1", "()Z"⟩
noncomputable def yS_lch : MethodName := ⟨"java/lang/StringLatin1", "charAt", "([BI)C"⟩
noncomputable def yS_chk : MethodName := ⟨"java/lang/String", "checkIndex", "(II)V"⟩
noncomputable def yS_pre : MethodName := ⟨"jdk/internal/util/Preconditions", "checkIndex", "(IILjava/util/function/BiFunction;)I"⟩
abbrev cS_len : ByteArray := prog_22_method_54_code
abbrev cS_cod : ByteArray := prog_22_method_152_code
abbrev cS_cha : ByteArray := prog_22_method_56_code
abbrev cS_isl : ByteArray := prog_22_method_154_code
abbrev cS_lch : ByteArray := prog_23_method_2_code
abbrev cS_chk : ByteArray := prog_22_method_155_code
abbrev cS_pre : ByteArray := prog_30_method_11_code
theorem j_cod {l : Launch} {tk i fr lc : Nat} {adK adV : Nat → Nat} {A : Nat → Prop} (hi : i < 6) : tb_J l sa_Ts yS_cod cS_cod 1 (some .byte) fr lc [.ref (adK i)] (tb_bO tk adK adV A) (fun v => v = some (.int 0)) := by
  refine Met.ofW (cc := cS_cod) (maxL := 1) (ret := some .byte) (by decide) rfl ?_
  intro p e s m args below meth c s₁ B hml hv
  obtain ⟨hv0, hO⟩ := hv
  subst hv0
  have hts0 := atoms_spec (ws := Cond.code yS_cod cS_cod 1 (some .byte) :: sa_Ts) B.pre
  have hts : ∀ w ∈ sa_Ts, w.before [Value.ref (adK i)].toArray s = true := fun w hw => hts0 w (List.mem_cons_of_mem _ hw)
  have hown : s.vm.findClass "java/lang/String" = some m.cls := findClass_of_methodNamed B.named
  have hl := lv_entry [Value.ref (adK i)] (n := 1) (Nat.le_refl 1)
  rw [lg_entry_eq]
  obtain ⟨-, -, hSt, hZ, -⟩ := hO
  obtain ⟨h1, h2, h3, h4⟩ := hSt.1 i hi
  have hS : va_S A s.heap s.heap [] := va_S.rf
  refine va_gets (index := 38) (own := "java/lang/String") (ref := "java/lang/String") B.exec B.bytes hZ hS hown (hts _ tv_888) (fun _ h => h) (by decide +kernel) ?_
  refine lv_if_eq (tgt := 13) (off := 10) B.exec B.bytes (by decide +kernel) rfl (fun h => absurd h (by decide)) (fun _ => ?_)
  refine lv_aload_n (k := 0) B.exec B.bytes (by decide +kernel) rfl (hl.2.2 (0, .ref (adK i)) List.mem_cons_self) ?_
  refine vk_getf (index := 15) (own := "java/lang/String") (ref := "java/lang/String") B.exec B.bytes h2 hS hown (hts _ tv_1902) (fun _ h => h) (by decide +kernel) ?_
  refine lv_goto (tgt := 14) (off := 4) B.exec B.bytes (by decide +kernel) rfl ?_
  exact W.zret (v := 0) B.exec B.bytes B.returns rfl (fun t ht _ => ⟨⟨_, rfl, rfl⟩, ht⟩) (fun q hq => by cases hq) (by decide +kernel)
theorem j_isl {l : Launch} {tk i fr lc : Nat} {adK adV : Nat → Nat} {A : Nat → Prop} (hi : i < 6) : tb_J l sa_Ts yS_isl cS_isl 1 (some .boolean) fr lc [.ref (adK i)] (tb_bO tk adK adV A) (fun v => v = some (.int 1)) := by
  refine Met.ofW (cc := cS_isl) (maxL := 1) (ret := some .boolean) (by decide) rfl ?_
  intro p e s m args below meth c s₁ B hml hv
  obtain ⟨hv0, hO⟩ := hv
  subst hv0
  have hts0 := atoms_spec (ws := Cond.code yS_isl cS_isl 1 (some .boolean) :: sa_Ts) B.pre
  have hts : ∀ w ∈ sa_Ts, w.before [Value.ref (adK i)].toArray s = true := fun w hw => hts0 w (List.mem_cons_of_mem _ hw)
  have hown : s.vm.findClass "java/lang/String" = some m.cls := findClass_of_methodNamed B.named
  have hl := lv_entry [Value.ref (adK i)] (n := 1) (Nat.le_refl 1)
  rw [lg_entry_eq]
  obtain ⟨-, -, hSt, hZ, -⟩ := hO
  obtain ⟨h1, h2, h3, h4⟩ := hSt.1 i hi
  have hS : va_S A s.heap s.heap [] := va_S.rf
  refine va_gets (index := 38) (own := "java/lang/String") (ref := "java/lang/String") B.exec B.bytes hZ hS hown (hts _ tv_888) (fun _ h => h) (by decide +kernel) ?_
  refine lv_if_eq (tgt := 17) (off := 14) B.exec B.bytes (by decide +kernel) rfl (fun h => absurd h (by decide)) (fun _ => ?_)
  refine lv_aload_n (k := 0) B.exec B.bytes (by decide +kernel) rfl (hl.2.2 (0, .ref (adK i)) List.mem_cons_self) ?_
  refine vk_getf (index := 15) (own := "java/lang/String") (ref := "java/lang/String") B.exec B.bytes h2 hS hown (hts _ tv_1902) (fun _ h => h) (by decide +kernel) ?_
  refine lv_if_ne (tgt := 17) (off := 7) B.exec B.bytes (by decide +kernel) rfl (fun h => absurd rfl h) (fun _ => ?_)
  refine lv_iconst (v := 1) B.exec B.bytes (show decode cS_isl 13 = .ok (.iconst 1, 1) by decide +kernel) rfl ?_
  refine lv_goto (tgt := 18) (off := 4) B.exec B.bytes (by decide +kernel) rfl ?_
  exact W.zret (v := 1) B.exec B.bytes B.returns rfl (fun t ht _ => ⟨⟨_, rfl, rfl⟩, ht⟩) (fun q hq => by cases hq) (by decide +kernel)
theorem tb_shr0 : ∀ j, j < 6 → Int32.ofNat (tb_len.getD j 0) >>> ((0 : Int32) &&& 31) = Int32.ofNat (tb_len.getD j 0) := by decide +kernel
theorem yb_cod : sa_arg yS_cod 0 := ⟨by decide +kernel, by decide +kernel, by decide +kernel⟩
theorem yb_len : sa_arg yS_len 0 := ⟨by decide +kernel, by decide +kernel, by decide +kernel⟩
theorem yb_isl : sa_arg yS_isl 0 := ⟨by decide +kernel, by decide +kernel, by decide +kernel⟩
theorem yb_cha : sa_arg yS_cha 1 := ⟨by decide +kernel, by decide +kernel, by decide +kernel⟩
theorem yb_lch : sa_arg yS_lch 2 := ⟨by decide +kernel, by decide +kernel, by decide +kernel⟩
theorem yb_chk : sa_arg yS_chk 2 := ⟨by decide +kernel, by decide +kernel, by decide +kernel⟩
theorem yb_pre : sa_arg yS_pre 3 := ⟨by decide +kernel, by decide +kernel, by decide +kernel⟩
theorem j_len {l : Launch} {tk i : Nat} {adK adV : Nat → Nat} {A : Nat → Prop} (hi : i < 6) : tb_J l sa_Ts yS_len cS_len 1 (some .int) 1 20 [.ref (adK i)] (tb_bO tk adK adV A) (fun v => v = some (.int (Int32.ofNat (tb_len.getD i 0)))) := by
  refine Met.ofW (cc := cS_len) (maxL := 1) (ret := some .int) (by decide) rfl ?_
  intro p e s m args below meth c s₁ B hml hv
  obtain ⟨hv0, hO⟩ := hv
  subst hv0
  have hts0 := atoms_spec (ws := Cond.code yS_len cS_len 1 (some .int) :: sa_Ts) B.pre
  have hts : ∀ w ∈ sa_Ts, w.before [Value.ref (adK i)].toArray s = true := fun w hw => hts0 w (List.mem_cons_of_mem _ hw)
  have hown : s.vm.findClass "java/lang/String" = some m.cls := findClass_of_methodNamed B.named
  have hl := lv_entry [Value.ref (adK i)] (n := 1) (Nat.le_refl 1)
  rw [lg_entry_eq]
  have hO9 : tb_okO tk adK adV A s s.heap := hO
  obtain ⟨-, -, hSt, hZ, -⟩ := hO
  obtain ⟨h1, h2, h3, h4⟩ := hSt.1 i hi
  have hS : va_S A s.heap s.heap [] := va_S.rf
  refine lv_aload_n (k := 0) B.exec B.bytes (by decide +kernel) rfl (hl.2.2 (0, .ref (adK i)) List.mem_cons_self) ?_
  refine vk_getf (index := 9) (own := "java/lang/String") (ref := "java/lang/String") B.exec B.bytes h3 hS hown (hts _ tv_1901) (fun _ h => h) (by decide +kernel) ?_
  refine va_tlen B.exec B.bytes h4 hS rfl (by decide +kernel) ?_
  refine lv_aload_n (k := 0) B.exec B.bytes (by decide +kernel) rfl (hl.2.2 (0, .ref (adK i)) List.mem_cons_self) ?_
  refine tb_JV (av := []) (idx := 335) (n := 0) (own := "java/lang/String") B.exec B.bytes hml hown hts hl.1 (j_cod (l := l) (tk := tk) (adV := adV) (A := A) (fr := 0) (lc := 0) hi) tb_bO_bl (fun U h8 h9 => tb_okO.call hO9 hS (fun _ h => h) h8 h9) tv_887 (by decide +kernel) tv_884 tv_885 tv_886 tv_21 (vk_recv hSt hi hS) yb_cod rfl ⟨Nat.le_refl _, Nat.le_refl _⟩ (Nat.le_of_ble_eq_true rfl) (Nat.le_refl _) (Nat.le_refl _) (fun v hv => ?_)
  subst hv
  refine lv_ishr B.exec B.bytes (by decide +kernel) ?_
  rw [tb_shr0 i hi]
  exact W.zret (v := Int32.ofNat (tb_len.getD i 0)) B.exec B.bytes B.returns rfl (fun t ht _ => ⟨⟨_, rfl, rfl⟩, ht⟩) (fun q hq => by cases hq) (by decide +kernel)
theorem j_pre {l : Launch} {fr lc : Nat} {x n : Int32} {f : Value} (h0 : 0 ≤ x.toInt) (h1 : x.toInt < n.toInt) (hf : (lg_sl [Value.int x, Value.int n, f]).length ≤ 3) : tb_J l sa_Ts yS_pre cS_pre 3 (some .int) fr lc [.int x, .int n, f] (fun _ => True) (fun v => v = some (.int x)) := by
  refine Met.ofW (cc := cS_pre) (maxL := 3) (ret := some .int) (by decide) rfl ?_
  intro p e s m args below meth c s₁ B hml hv
  obtain ⟨hv0, -⟩ := hv
  subst hv0
  have hl := lv_entry [Value.int x, Value.int n, f] (n := 3) hf
  rw [lg_entry_eq]
  have l0 := hl.2.2 (0, .int x) List.mem_cons_self
  have l1 := hl.2.2 (1, .int n) (List.mem_cons_of_mem _ List.mem_cons_self)
  refine lv_iload_n (k := 0) B.exec B.bytes (by decide +kernel) rfl l0 ?_
  refine lv_if_lt (tgt := 9) (off := 8) B.exec B.bytes (by decide +kernel) rfl (fun h => ?_) (fun _ => ?_)
  · rw [Int32.lt_iff_toInt_lt] at h
    have : (0 : Int32).toInt = 0 := rfl
    omega
  refine lv_iload_n (k := 0) B.exec B.bytes (by decide +kernel) rfl l0 ?_
  refine lv_iload_n (k := 1) B.exec B.bytes (by decide +kernel) rfl l1 ?_
  refine lv_icmp_lt (tgt := 16) (off := 10) B.exec B.bytes (by decide +kernel) rfl (fun _ => ?_) (fun h => ?_)
  · refine lv_iload_n (k := 0) B.exec B.bytes (by decide +kernel) rfl l0 ?_
    exact W.zret (v := x) B.exec B.bytes B.returns rfl (fun t ht _ => ⟨⟨_, rfl, rfl⟩, ht⟩) (fun q hq => by cases hq) (by decide +kernel)
  · rw [Int32.lt_iff_toInt_lt] at h
    exact absurd h1 h
theorem j_chk {l : Launch} {tk : Nat} {adK adV : Nat → Nat} {A : Nat → Prop} {x n : Int32} (h0 : 0 ≤ x.toInt) (h1 : x.toInt < n.toInt) : tb_J l sa_Ts yS_chk cS_chk 2 none 1 30 [.int x, .int n] (tb_bO tk adK adV A) (fun v => v = none) := by
  refine Met.ofW (cc := cS_chk) (maxL := 2) (ret := none) (by decide) rfl ?_
  intro p e s m args below meth c s₁ B hml hv
  obtain ⟨hv0, hO⟩ := hv
  subst hv0
  have hts0 := atoms_spec (ws := Cond.code yS_chk cS_chk 2 none :: sa_Ts) B.pre
  have hts : ∀ w ∈ sa_Ts, w.before [Value.int x, Value.int n].toArray s = true := fun w hw => hts0 w (List.mem_cons_of_mem _ hw)
  have hown : s.vm.findClass "java/lang/String" = some m.cls := findClass_of_methodNamed B.named
  have hl := lv_entry [Value.int x, Value.int n] (n := 2) (Nat.le_refl 2)
  rw [lg_entry_eq]
  have l0 := hl.2.2 (0, .int x) List.mem_cons_self
  have l1 := hl.2.2 (1, .int n) (List.mem_cons_of_mem _ List.mem_cons_self)
  obtain ⟨-, -, -, -, -, -, hZq⟩ := hO
  have hS : va_S A s.heap s.heap [] := va_S.rf
  obtain ⟨f, hf, hZ⟩ : ∃ f : Value, (lg_sl [Value.int x, Value.int n, f]).length ≤ 3 ∧ va_Z "jdk/internal/util/Preconditions" "SIOOBE_FORMATTER" "Ljava/util/function/BiFunction;" f A s s.heap := by
    rcases hZq with h9 | ⟨t9, h9⟩
    · exact ⟨.null, Nat.le_refl 3, h9⟩
    · exact ⟨.ref t9, Nat.le_refl 3, h9⟩
  refine lv_iload_n (k := 0) B.exec B.bytes (by decide +kernel) rfl l0 ?_
  refine lv_iload_n (k := 1) B.exec B.bytes (by decide +kernel) rfl l1 ?_
  refine va_gets (index := 1053) (own := "java/lang/String") (ref := "jdk/internal/util/Preconditions") B.exec B.bytes hZ hS hown (hts _ tv_904) (fun _ h => h) (by decide +kernel) ?_
  refine tb_JS (av := [.int x, .int n, f]) (rest := []) (idx := 1059) (n := 3) (own := "java/lang/String") B.exec B.bytes hml hown hts hl.1 (j_pre (l := l) (fr := 0) (lc := 0) h0 h1 hf) (fun _ _ _ _ h => h) (fun _ _ _ => trivial) tv_908 (by decide +kernel) tv_906 tv_907 tv_23 yb_pre rfl ⟨Nat.le_refl _, by decide⟩ (Nat.le_of_ble_eq_true rfl) (Nat.le_refl _) (Nat.le_refl _) (fun v hv => ?_)
  subst hv
  refine lv_pop B.exec B.bytes (by decide +kernel) rfl ?_
  exact W.vret B.exec B.bytes B.returns (fun t ht _ => ⟨⟨_, rfl, rfl⟩, ht⟩) (fun q hq => by cases hq) (by decide +kernel)
theorem tb_chr : ∀ i, i < 6 → ∀ j, j < tb_len.getD i 0 → (((tb_byt.getD i []).getD j 0 &&& 255).toUInt32 % 65536).toInt32 = (tb_byt.getD i []).getD j 0 ∧ narrow .char (.int ((tb_byt.getD i []).getD j 0)) = .int ((tb_byt.getD i []).getD j 0) ∧ 0 ≤ ((tb_byt.getD i []).getD j 0).toInt ∧ ((tb_byt.getD i []).getD j 0).toInt ≤ 65535 := by decide +kernel
theorem tb_lenI : ∀ i, i < 6 → (Int32.ofNat (tb_len.getD i 0)).toInt = (tb_len.getD i 0 : Nat) := by decide +kernel
noncomputable def tb_ch (v : Option Value) : Prop := ∃ c : Int32, v = some (.int c) ∧ narrow .char (.int c) = .int c ∧ 0 ≤ c.toInt ∧ c.toInt ≤ 65535
theorem j_lch {l : Launch} {tk i : Nat} {adK adV : Nat → Nat} {A : Nat → Prop} {x : Int32} (hi : i < 6) (h0 : 0 ≤ x.toInt) (h1 : x.toInt < (tb_len.getD i 0 : Nat)) : tb_J l sa_Ts yS_lch cS_lch 2 (some .char) 2 60 [.ref (adV i), .int x] (tb_bO tk adK adV A) tb_ch := by
  refine Met.ofW (cc := cS_lch) (maxL := 2) (ret := some .char) (by decide) rfl ?_
  intro p e s m args below meth c s₁ B hml hv
  obtain ⟨hv0, hO⟩ := hv
  subst hv0
  have hts0 := atoms_spec (ws := Cond.code yS_lch cS_lch 2 (some .char) :: sa_Ts) B.pre
  have hts : ∀ w ∈ sa_Ts, w.before [Value.ref (adV i), Value.int x].toArray s = true := fun w hw => hts0 w (List.mem_cons_of_mem _ hw)
  have hown : s.vm.findClass "java/lang/StringLatin1" = some m.cls := findClass_of_methodNamed B.named
  have hl := lv_entry [Value.ref (adV i), Value.int x] (n := 2) (Nat.le_refl 2)
  rw [lg_entry_eq]
  have l0 := hl.2.2 (0, .ref (adV i)) List.mem_cons_self
  have l1 := hl.2.2 (1, .int x) (List.mem_cons_of_mem _ List.mem_cons_self)
  have hO9 : tb_okO tk adK adV A s s.heap := hO
  obtain ⟨-, -, hSt, hZ, -⟩ := hO
  obtain ⟨-, -, -, h4⟩ := hSt.1 i hi
  have hS : va_S A s.heap s.heap [] := va_S.rf
  have hnat : x.toNatClampNeg < tb_len.getD i 0 := by
    show x.toInt.toNat < _
    omega
  obtain ⟨c1, c2, c3, c4⟩ := tb_chr i hi _ hnat
  refine lv_iload_n (k := 1) B.exec B.bytes (by decide +kernel) rfl l1 ?_
  refine lv_aload_n (k := 0) B.exec B.bytes (by decide +kernel) rfl l0 ?_
  refine va_tlen B.exec B.bytes h4 hS rfl (by decide +kernel) ?_
  refine tb_JS (av := [.int x, .int (Int32.ofNat (tb_len.getD i 0))]) (rest := []) (idx := 9) (n := 2) (own := "java/lang/StringLatin1") B.exec B.bytes hml hown hts hl.1 (j_chk (l := l) (tk := tk) (adK := adK) (adV := adV) (A := A) h0 (by rw [tb_lenI i hi]; exact h1)) tb_bO_bl (fun U h8 h9 => tb_okO.call hO9 hS (fun _ h => h) h8 h9) tv_903 (by decide +kernel) tv_901 tv_902 tv_21 yb_chk rfl ⟨Nat.le_refl _, by decide⟩ (Nat.le_of_ble_eq_true rfl) (Nat.le_refl _) (Nat.le_refl _) (fun v hv => ?_)
  subst hv
  refine lv_aload_n (k := 0) B.exec B.bytes (by decide +kernel) rfl l0 ?_
  refine lv_iload_n (k := 1) B.exec B.bytes (by decide +kernel) rfl l1 ?_
  refine va_tb (v := .int ((tb_byt.getD i []).getD x.toNatClampNeg 0)) B.exec B.bytes h4 hS (vp_in_iff.mpr ⟨h0, h1⟩) rfl (by decide +kernel) ?_
  refine lv_sipush (n := 255) (v := 255) B.exec B.bytes (by decide +kernel) (by decide) ?_
  refine lv_iand B.exec B.bytes (by decide +kernel) ?_
  refine lv_i2c B.exec B.bytes (by decide +kernel) c1 ?_
  exact W.zret (v := (tb_byt.getD i []).getD x.toNatClampNeg 0) B.exec B.bytes B.returns c2 (fun t ht _ => ⟨⟨_, rfl, _, rfl, c2, c3, c4⟩, ht⟩) (fun q hq => by cases hq) (by decide +kernel)
theorem j_cha {l : Launch} {tk i : Nat} {adK adV : Nat → Nat} {A : Nat → Prop} {x : Int32} (hi : i < 6) (h0 : 0 ≤ x.toInt) (h1 : x.toInt < (tb_len.getD i 0 : Nat)) : tb_J l sa_Ts yS_cha cS_cha 2 (some .char) 3 90 [.ref (adK i), .int x] (tb_bO tk adK adV A) tb_ch := by
  refine Met.ofW (cc := cS_cha) (maxL := 2) (ret := some .char) (by decide) rfl ?_
  intro p e s m args below meth c s₁ B hml hv
  obtain ⟨hv0, hO⟩ := hv
  subst hv0
  have hts0 := atoms_spec (ws := Cond.code yS_cha cS_cha 2 (some .char) :: sa_Ts) B.pre
  have hts : ∀ w ∈ sa_Ts, w.before [Value.ref (adK i), Value.int x].toArray s = true := fun w hw => hts0 w (List.mem_cons_of_mem _ hw)
  have hown : s.vm.findClass "java/lang/String" = some m.cls := findClass_of_methodNamed B.named
  have hl := lv_entry [Value.ref (adK i), Value.int x] (n := 2) (Nat.le_refl 2)
  rw [lg_entry_eq]
  have l0 := hl.2.2 (0, .ref (adK i)) List.mem_cons_self
  have l1 := hl.2.2 (1, .int x) (List.mem_cons_of_mem _ List.mem_cons_self)
  have hO9 : tb_okO tk adK adV A s s.heap := hO
  obtain ⟨-, -, hSt, hZ, -⟩ := hO
  obtain ⟨-, -, h3, h4⟩ := hSt.1 i hi
  have hS : va_S A s.heap s.heap [] := va_S.rf
  refine lv_aload_n (k := 0) B.exec B.bytes (by decide +kernel) rfl l0 ?_
  refine tb_JV (av := []) (rest := []) (idx := 492) (n := 0) (own := "java/lang/String") B.exec B.bytes hml hown hts hl.1 (j_isl (l := l) (tk := tk) (adV := adV) (A := A) (fr := 0) (lc := 0) hi) tb_bO_bl (fun U h8 h9 => tb_okO.call hO9 hS (fun _ h => h) h8 h9) tv_897 (by decide +kernel) tv_894 tv_895 tv_896 tv_21 (vk_recv hSt hi hS) yb_isl rfl ⟨by decide, by decide⟩ (Nat.le_of_ble_eq_true rfl) (Nat.le_refl _) (Nat.le_refl _) (fun v hv => ?_)
  subst hv
  refine lv_if_eq (tgt := 16) (off := 12) B.exec B.bytes (by decide +kernel) rfl (fun h => absurd h (by decide)) (fun _ => ?_)
  refine lv_aload_n (k := 0) B.exec B.bytes (by decide +kernel) rfl l0 ?_
  refine vk_getf (index := 9) (own := "java/lang/String") (ref := "java/lang/String") B.exec B.bytes h3 hS hown (hts _ tv_1901) (fun _ h => h) (by decide +kernel) ?_
  refine lv_iload_n (k := 1) B.exec B.bytes (by decide +kernel) rfl l1 ?_
  refine tb_JS (av := [.ref (adV i), .int x]) (rest := []) (idx := 495) (n := 2) (own := "java/lang/String") B.exec B.bytes hml hown hts hl.1 (j_lch (l := l) (tk := tk) (adK := adK) (adV := adV) (A := A) hi h0 h1) tb_bO_bl (fun U h8 h9 => tb_okO.call hO9 hS (fun _ h => h) h8 h9) tv_900 (by decide +kernel) tv_898 tv_899 tv_22 yb_lch rfl ⟨by decide, by decide⟩ (Nat.le_of_ble_eq_true rfl) (Nat.le_refl _) (Nat.le_refl _) (fun v hv => ?_)
  obtain ⟨c9, rfl, hnar, c3, c4⟩ := hv
  exact W.zret (v := c9) B.exec B.bytes B.returns hnar (fun t ht _ => ⟨⟨_, rfl, _, rfl, hnar, c3, c4⟩, ht⟩) (fun q hq => by cases hq) (by decide +kernel)
end TYJ
