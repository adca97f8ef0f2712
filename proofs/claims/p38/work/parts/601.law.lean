section TYP
/-! the law: its helpers -/
noncomputable def tb_finH (mc ms : Nat) (Z : tb_Z) (rets : List Nat) (t : Option FieldType) (K : tb_K) (S : tb_S) : Bool := match rets.contains S.1 with
  | false => false
  | true => decide (S.2.2.2.2.2.1 ≤ mc) && (decide (S.2.2.2.2.2.2 ≤ ms) && (decide (S.2.2.2.1.2.1 = []) && (tb_rf1 t S.2.2.2.2.1 S.2.2.1 && K.2.2.2.2.1.any (fun o => decide (K.2.2.2.1.length ≤ o.2.2.2.length) && tb_tab o.2.2.2.length K.2.2.2.1.length (tb_bind Z K.2.2.2.1.length o.1.toList S.2.2.1 o.2.1 S.2.2.2.1.1 S.2.2.2.2.1) (fun g => tb_fit Z g o.1.toList S.2.2.1 o.2.1 o.2.2.1 o.2.2.2 S.2.2.2.1 S.2.2.2.2.1)))))
theorem tb_finH_ok {p : Program} {l : Launch} {e : Env} {R : Room} {s : State} {m : MethodId} {args : Array Value} {below : List Frame} {meth : Method} {c : Code} {D : va_G} {dA : Nat → ClassId} {A : Nat → Prop} {nL : Nat} {cl : List vw_C} {n1 : Nat} {V0 V1 : sa_V} {E : tb_E} {Z : tb_Z} {K : tb_K} {cc : ByteArray} {rets : List Nat} {t : Option FieldType} {mc ms : Nat}
    (hz : tb_z E = Z) (hx : p.tables.exec = Jvm.exec) (hb : c.code = cc) (hlocks : meth.locks = false) (hr : meth.sig.returnType = t) (hA : A = va_A (tb_w0 E) s.heap.size) (hd : ∀ pc ∈ rets, decode cc pc = .ok (tb_ri t, 1)) (h01 : K.2.2.2.1.length ≤ n1) (hV : ∀ k, k < K.2.2.2.1.length → V1 k = V0 k)
    (S : tb_S) (h : tb_finH mc ms Z rets t K S = true) : tb_W p l e R s m args below meth c (MQ below (tb_Q D dA cl s.heap.size E V0 K) args s mc ms A) D dA A nL cl n1 V1 E S := by
  obtain ⟨pc, lo, st, cs, G, kc, ks⟩ := S
  intro V H locs ls hG
  unfold tb_finH at h
  split at h
  · cases h
  · rename_i hpc
    rw [Bool.and_eq_true, Bool.and_eq_true, Bool.and_eq_true, Bool.and_eq_true] at h
    obtain ⟨h1, h2, h3, h4, h5⟩ := h
    have hpc : pc ∈ rets := by simpa using hpc
    have h1 : kc ≤ mc := of_decide_eq_true h1
    have h2 : ks ≤ ms := of_decide_eq_true h2
    have h3 : cs.2.1 = [] := of_decide_eq_true h3
    obtain ⟨o, ho, h6⟩ := List.any_eq_true.mp h5
    rw [Bool.and_eq_true, tb_tab_eq] at h6
    obtain ⟨h7, h8⟩ := h6
    have h7 := of_decide_eq_true h7
    obtain ⟨w, n1', n2, n3, n4, n5, n6, n7⟩ := hG.2.2.1
    obtain ⟨f1, f2, f3, f4, f5⟩ := tb_fit_ok hz hG.1.1 hG.2.2.2.1 n5 n7 h8
    generalize hgg : tb_gn o.2.2.2.length _ = gg at f1 f2 f3 f4 f5
    have hagree : ∀ k, k < K.2.2.2.1.length → tb_pl V gg k = V0 k := by
      intro k hk
      rw [← hgg, tb_gn_n0 hG.2.2.2.1 hk h7, hG.1.2.2 k (Nat.lt_of_lt_of_le hk h01)]
      exact hV k hk
    refine W.widen (k := mc) (n := ms) h1 h2 ?_
    have hq : ∀ (oc : Outcome) (t9 : State), t9.heap = H → oc = .returned (o.1.map (sa_val (tb_pl V gg))) → tb_Q D dA cl s.heap.size E V0 K args s oc t9 := by
      intro oc t9 ht9 hoc
      subst hA
      exact ⟨⟨o, ho, tb_pl V gg, hagree, f1, f2, hoc, by rw [ht9]; exact ⟨w, n1', n2, n3, n4, f4, fun i r hr9 _ => n6 i r hr9 (by rw [h3]; exact List.not_mem_nil), f5⟩⟩, hG.2.2.2.2.F ht9⟩
    have hd1 := hd pc hpc
    clear hd
    unfold tb_rf1 at h4
    split at h4
    · rename_i ty q he
      rw [Bool.and_eq_true] at h4
      have h9 := of_decide_eq_true h4.2
      obtain ⟨m1, m2⟩ := sa_fit_ok (V := V) hG.1.1 h4.1
      have hst : st = [.inl q] := he
      subst hst
      have hri : tb_ri (some ty) = .ireturn := by
        cases ty <;> first | rfl | exact absurd rfl h9
      rw [hri] at hd1
      refine W.zret (v := sa_i V q) hx hb hr m1 (fun t9 ht9 _ => hq _ t9 ht9 ?_) (fun q9 hq9 => hG.2.2.2.2.2.2 q9 hq9) hd1
      cases ho1 : o.1 with
      | none => rw [ho1] at f3; cases f3
      | some v =>
        rw [ho1] at f3
        have f3 : [sa_val (tb_pl V gg) v] = [Value.int (sa_i V q)] := f3
        have := (List.cons.inj f3).1
        show Outcome.returned (some _) = Outcome.returned (some (sa_val (tb_pl V gg) v))
        rw [this]
    · rename_i j he
      have hst : st = [.inr (.inr j)] := he
      subst hst
      refine W.lret (v := (V j).2.1) hx hb hr (fun t9 ht9 _ => hq _ t9 ht9 ?_) (fun q9 hq9 => hG.2.2.2.2.2.2 q9 hq9) hd1
      cases ho1 : o.1 with
      | none => rw [ho1] at f3; cases f3
      | some v =>
        rw [ho1] at f3
        have f3 : [sa_val (tb_pl V gg) v] = [Value.long (V j).2.1] := f3
        have := (List.cons.inj f3).1
        show Outcome.returned (some _) = Outcome.returned (some (sa_val (tb_pl V gg) v))
        rw [this]
    · rename_i he
      have hst : st = [] := he
      subst hst
      refine W.vret hx hb hr (fun t9 ht9 _ => hq _ t9 ht9 ?_) (fun q9 hq9 => hG.2.2.2.2.2.2 q9 hq9) hd1
      cases ho1 : o.1 with
      | none => rfl
      | some v => rw [ho1] at f3; cases f3
    · cases h4
theorem tb_methodH {l : Launch} {Z : tb_Z} {y : MethodName} {cc : ByteArray} {mL : Nat} {ret : Option FieldType} {hh : List (Nat × Nat × Nat × Nat)} {fr lc : Nat} {K : tb_K} (hy : plainName y.cls = true) (rets : List Nat) (tab : List (Nat × tb_op)) (fuel : Nat)
    (hd : ∀ pc ∈ rets, decode cc pc = .ok (tb_ri ret, 1))
    (hops : ∀ (p : Program) (e : Env) (s : State) (m : MethodId) (args : Array Value) (below : List Frame) (meth : Method) (c : Code) (Q : State → Prop) (D : va_G) (dA : Nat → ClassId) (A : Nat → Prop) (n0 : Nat) (V0 : sa_V) (E : tb_E), sa_C p s m args c D dA A mL vwCl sa_Ts cc y.cls → sa_U D vwCl dA s → tb_Ou A s s.heap → c.exceptionTable.toList = tableOf hh → tb_z E = Z → tb_mod E = K.2.2.2.2.2 → ∀ q ∈ tab, tb_snd p l e { frames := fr, cells := 1, slots := 6, locals := lc } s m args below meth c Q D dA A mL vwCl n0 V0 E q.1 q.2)
    (hlen : (K.1.map sa_cat).sum ≤ mL) (hrun : tb_chk Z K [] [] (fun pc => tb_as pc tab) (tb_finH 1 6 Z rets ret K) fuel = true) : tb_MetH l vwCl sa_Ts Z y cc mL ret hh fr lc K := by
  intro D dA sz V E hI hX hz hm
  refine va_MetW (cc := cc) (maxL := mL) (ret := ret) (hh := hh) hy rfl ?_
  intro p e s m args below meth c s₁ B hml hv
  obtain ⟨hargs, hsz, ⟨hP, hD0, hwk, hfa, hru, hlo⟩, hU, hXX⟩ := hv
  subst hargs
  have hts0 := atoms_spec (ws := Cond.codeWith y cc mL ret hh :: sa_Ts) B.pre
  have htab := vx_table (x := y) B (hts0 _ List.mem_cons_self)
  have hown : s.vm.findClass y.cls = some m.cls := findClass_of_methodNamed B.named
  subst hsz
  have hD := hD0.self (sz := s.heap.size)
  have hS : va_S (va_A (tb_w0 E) s.heap.size) s.heap s.heap [] := va_S.rf
  have hl := lv_entry (K.1.map (sa_val V)) (n := mL) (by rw [sa_sl_len]; exact hlen)
  rw [sa_args_lv] at hl
  rw [lg_entry_eq]
  have hC : sa_C p s m (K.1.map (sa_val V)).toArray c D dA (va_A (tb_w0 E) s.heap.size) mL vwCl sa_Ts cc y.cls := ⟨B.exec, B.bytes, fun w hw => hts0 w (List.mem_cons_of_mem _ hw), hown, hml, hU.1, fun q h => Or.inr h⟩
  have hW := tb_chk_ok (p := p) (l := l) (e := e) (R := { frames := fr, cells := 1, slots := 6, locals := lc }) (s := s) (m := m) (args := (K.1.map (sa_val V)).toArray) (below := below) (meth := meth) (c := c) (Q := MQ below (tb_Q D dA vwCl s.heap.size E V K) (K.1.map (sa_val V)).toArray s 1 6 (va_A (tb_w0 E) s.heap.size)) (D := D) (dA := dA) (A := va_A (tb_w0 E) s.heap.size) (nL := mL) (cl := vwCl) (V0 := V) (E := E) hz
    (fun n1 V1 q1 q2 pc op h => hops p e s m _ below meth c _ D dA _ _ _ E hC hU hXX htab hz hm (pc, op) (tb_as_mem h)) (fun n1 V1 S g1 g2 h => tb_finH_ok hz B.exec B.bytes B.notSynchronized B.returns rfl hd g1 g2 S h) hrun
  exact hW V s.heap [] _ ⟨⟨hI, Nat.le_refl _, fun _ _ => rfl⟩, hl, ⟨tb_w0 E, hP, hD, hwk, fun j a κ e0 e9 i h1 h2 h3 _ => by
    have := congrArg Prod.snd (Option.some.inj (h2.symm.trans h3))
    have : e0 = e9 := this
    rw [this], hfa, fun i r hr _ => hru i r hr, hlo⟩, hX, hS⟩
theorem tn_callSH {p : Program} {l : Launch} {e : Env} {R : Room} {s : State} {m : MethodId} {args : Array Value} {below : List Frame} {meth : Method} {c : Code} {Q : State → Prop} {D : va_G} {dA : Nat → ClassId} {A : Nat → Prop} {nL : Nat} {cl : List vw_C} {n0 : Nat} {V0 : sa_V} {E : tb_E} {cc : ByteArray} {own : String} (C0 : sa_C p s m args c D dA A nL cl sa_Ts cc own) {Z : tb_Z} {mod : List (Nat × Nat × Nat)} (hz : tb_z E = Z) (hcv : Z.1.all tb_cv = true) (hm : tb_mod E = mod) {pc : Nat} {K : tb_K} {y : MethodName} {cy : ByteArray} {mL fr lc idx n maxC maxS : Nat} {ret : Option FieldType} {hh : List (Nat × Nat × Nat × Nat)} (hU : sa_U D cl dA s) (hO : tb_Ou A s s.heap) (hM : tb_MetH l cl sa_Ts Z y cy mL ret hh fr lc K) (hcode : Cond.codeWith y cy mL ret hh ∈ sa_Ts) (hd : decode cc pc = .ok (.invokestatic idx, 3)) (w1 : Cond.methodLink own idx y ∈ sa_Ts) (w2 : Cond.static y ∈ sa_Ts) (w4 : Cond.initialized y.cls ∈ sa_Ts) (hy : sa_arg y n) (hn : K.1.length = n) (hR : fr + 1 ≤ R.frames ∧ 8 + (mL + 11) + lc ≤ R.locals) (hC : maxC + 1 ≤ R.cells) (hS0 : maxS + 6 ≤ R.slots) :
    ∀ (S : tb_S) (sts : List tb_S), S.1 = pc → to_cs Z mod (tb_gS maxC maxS) [K] S = some sts → (∀ S' ∈ sts, tb_W p l e R s m args below meth c Q D dA A nL cl n0 V0 E (tb_up 1 6 S')) → tb_W p l e R s m args below meth c Q D dA A nL cl n0 V0 E S := by
  obtain ⟨hx, hb, hts, hown, hml, hK, hA⟩ := C0
  rintro ⟨pc, lo, st, cs, G, kc, ks⟩ sts rfl h k V H locs ls hG
  refine tb_calls_okG (mc := 1) (ms := 6) (a := #[]) hz hcv hm hA h k hG (fun K9 x V2 hKm hgr hG2 hsv As rest V1 w hst hargs hAl hI1 hX1 hsum hP0 hNw hF => ?_)
  have hK9 : K9 = K := by simpa using hKm
  subst hK9
  unfold tb_gS at hgr
  rw [Bool.and_eq_true] at hgr
  have r1 : kc ≤ maxC := of_decide_eq_true hgr.1
  have r2 : ks ≤ maxS := of_decide_eq_true hgr.2
  exact tb_RunG.of (vx_runSW (bytes := cy) (maxL := mL) (ret := ret) (hh := hh) (As := As.map (sa_val V2)) (n := n) ⟨hx, hb, hml, hown, hts⟩ (hM D dA H.size V1 (tb_al E, w, K9.2.2.2.2.2, tb_z E) hI1 hX1 hz rfl) (vx_cwSW n hts (sa_goodV sa_Tg hcode (by intro u hu; simp only [List.mem_cons, List.not_mem_nil, or_false] at hu; rcases hu with rfl | rfl | rfl <;> assumption)) rfl rfl rfl hy hR) ⟨tb_blind tb_X0_bl, tb_preP hU hargs hP0 (fun U hUH hW => tb_Ou.call hO hG2.2.2.2.2 hF hUH hW)⟩ rfl (by rw [List.length_map, hAl, hn]) hG2.2.1.1 (by show st.map (sa_val V2) = _; rw [show st = _ from hst, List.map_append, List.map_reverse]) (lv_room hsum) hd ⟨show kc + 1 ≤ R.cells by omega, show ks + 6 ≤ R.slots by omega⟩)
end TYP
section TYL
/-! the law's body, whatever was made before -/
noncomputable def tb_par (op : tb_op) : Prop := ∀ (S : tb_S) (b bs : Nat), op (tb_up b bs S) = (op S).map (List.map (tb_up b bs))
noncomputable def tb_sndU (p : Program) (l : Launch) (e : Env) (R : Room) (s : State) (m : MethodId) (args : Array Value) (below : List Frame) (meth : Method) (c : Code) (Q : State → Prop) (D : va_G) (dA : Nat → ClassId) (A : Nat → Prop) (nL : Nat) (cl : List vw_C) (n0 : Nat) (V0 : sa_V) (E : tb_E) (B BS pc : Nat) (op : tb_op) : Prop := ∀ (b bs : Nat), b ≤ B → bs ≤ BS → ∀ (S : tb_S) (sts : List tb_S), S.1 = pc → op S = some sts → (∀ S' ∈ sts, tb_W p l e R s m args below meth c Q D dA A nL cl n0 V0 E (tb_up b bs S')) → tb_W p l e R s m args below meth c Q D dA A nL cl n0 V0 E (tb_up b bs S)
theorem tu_of {p : Program} {l : Launch} {e : Env} {R : Room} {s : State} {m : MethodId} {args : Array Value} {below : List Frame} {meth : Method} {c : Code} {Q : State → Prop} {D : va_G} {dA : Nat → ClassId} {A : Nat → Prop} {nL : Nat} {cl : List vw_C} {n0 : Nat} {V0 : sa_V} {E : tb_E} {B BS pc : Nat} {op : tb_op} (h : tb_snd p l e R s m args below meth c Q D dA A nL cl n0 V0 E pc op) (hp : tb_par op) : tb_sndU p l e R s m args below meth c Q D dA A nL cl n0 V0 E B BS pc op := by
  intro b bs _ _ S sts hpc hop k
  refine h (tb_up b bs S) (sts.map (tb_up b bs)) hpc (by rw [hp, hop]; rfl) (fun S' hS' => ?_)
  obtain ⟨S0, h0, rfl⟩ := List.mem_map.mp hS'
  exact k S0 h0
theorem tp_aload (i n : Nat) : tb_par (to_aload i n) := by
  rintro ⟨pc, lo, st, cs, G, kc, ks⟩ b bs
  unfold to_aload tb_up
  dsimp only
  generalize sa_look i lo = x
  rcases x with _ | (q | (_ | q) | j) <;> rfl
theorem tp_iload (i n : Nat) : tb_par (to_iload i n) := by
  rintro ⟨pc, lo, st, cs, G, kc, ks⟩ b bs
  unfold to_iload tb_up
  dsimp only
  generalize sa_look i lo = x
  rcases x with _ | (q | (_ | q) | j) <;> rfl
theorem tp_int (z : Int) (n : Nat) : tb_par (to_int z n) := fun _ _ _ => rfl
theorem tp_goto (t : Nat) : tb_par (to_goto t) := fun _ _ _ => rfl
theorem tp_pop : tb_par to_pop := by
  rintro ⟨pc, lo, st, cs, G, kc, ks⟩ b bs
  unfold to_pop tb_up
  dsimp only
  cases st with
  | nil => rfl
  | cons v rest => dsimp only; split <;> rfl
theorem tp_istore (nL i n : Nat) : tb_par (to_istore nL i n) := by
  rintro ⟨pc, lo, st, cs, G, kc, ks⟩ b bs
  unfold to_istore tb_up
  dsimp only
  rcases st with _ | ⟨q | r, rest⟩
  · rfl
  · dsimp only; split <;> rfl
  · rfl
theorem tp_bin (f : sa_B → Nat × Int → Nat × Int → Option sa_r) : tb_par (to_bin f) := by
  rintro ⟨pc, lo, st, cs, G, kc, ks⟩ b bs
  unfold to_bin tb_up
  dsimp only
  rcases st with _ | ⟨y | r, _ | ⟨x | r2, rest⟩⟩
  · rfl
  · rfl
  · dsimp only
    generalize f G x y = r
    rcases r with _ | (q | bd)
    · rfl
    · rfl
    · unfold tb_push
      dsimp only
      split <;> rfl
  · rfl
  · rfl
  · rfl
  · rfl
theorem tb_br_up (r : sa_R) (S : tb_S) (x y : Nat × Int) (pc : Nat) (rest : List sa_v) (b bs : Nat) : tb_br r (tb_up b bs S) x y pc rest = (tb_br r S x y pc rest).map (tb_up b bs) := by
  unfold tb_br
  rw [List.map_map]
  rfl
theorem tp_icmp (rt rf : sa_R) (t : Nat) : tb_par (to_icmp rt rf t) := by
  intro S b bs
  unfold to_icmp
  show (match S.2.2.1 with
    | .inl y :: .inl x :: rest => some (tb_br rt (tb_up b bs S) x y t rest ++ tb_br rf (tb_up b bs S) x y (S.1 + 3) rest)
    | _ => none) = Option.map (List.map (tb_up b bs)) (match S.2.2.1 with
    | .inl y :: .inl x :: rest => some (tb_br rt S x y t rest ++ tb_br rf S x y (S.1 + 3) rest)
    | _ => none)
  generalize S.2.2.1 = st
  rcases st with _ | ⟨y | r, _ | ⟨x | r2, rest⟩⟩
  · rfl
  · rfl
  · show some _ = some _
    rw [List.map_append, tb_br_up, tb_br_up]
  · rfl
  · rfl
  · rfl
  · rfl
theorem tb_tsw_up (S : tb_S) (x : Nat × Int) (rest : List sa_v) (b bs : Nat) : ∀ (tg : List Nat) (a : Int), tb_tsw (tb_up b bs S) x rest a tg = (tb_tsw S x rest a tg).map (tb_up b bs)
  | [], _ => rfl
  | t :: l, a => by
    unfold tb_tsw
    rw [List.map_append, tb_br_up, tb_tsw_up S x rest b bs l]
theorem tp_tsx (a : Int) (tg : List Nat) (df : Nat) : tb_par (to_tsx a tg df) := by
  intro S b bs
  unfold to_tsx
  show (match S.2.2.1 with
    | .inl x :: rest => match sa_iv S.2.2.2.2.1 x with
      | some b9 => some (tb_tsw (tb_up b bs S) x rest a tg ++ ((if b9.1 < a then [(df, S.2.1, rest, S.2.2.2.1, sa_hi S.2.2.2.2.1 x.1 (a - 1 - x.2), S.2.2.2.2.2.1 + b, S.2.2.2.2.2.2 + bs)] else []) ++ (if a + tg.length ≤ b9.2 then [(df, S.2.1, rest, S.2.2.2.1, sa_lw S.2.2.2.2.1 x.1 (a + tg.length - x.2), S.2.2.2.2.2.1 + b, S.2.2.2.2.2.2 + bs)] else [])))
      | none => none
    | _ => none) = _
  cases hst : S.2.2.1 with
  | nil => rfl
  | cons v rest =>
    rcases v with x | r
    · dsimp only
      cases sa_iv S.2.2.2.2.1 x with
      | none => rfl
      | some b9 =>
        show some _ = some _
        rw [List.map_append, List.map_append, tb_tsw_up]
        congr 3
        · split <;> rfl
        · split <;> rfl
    · rfl
theorem tp_inc (nL i : Nat) (z : Int) : tb_par (to_inc nL i z) := by
  rintro ⟨pc, lo, st, cs, G, kc, ks⟩ b bs
  unfold to_inc tb_up
  dsimp only
  generalize sa_look i lo = x
  rcases x with _ | (q | (_ | q) | j)
  · rfl
  · dsimp only
    split
    · split
      · rfl
      · split <;> rfl
    · rfl
  · rfl
  · rfl
  · rfl
theorem tb_c0_up {Z : tb_Z} {mod : List (Nat × Nat × Nat)} {K : tb_K} {S : tb_S} {b bs : Nat} {sts : List tb_S} (h : tb_c0 Z mod K S = some sts) : tb_c0 Z mod K (tb_up b bs S) = some (sts.map (tb_up b bs)) := by
  unfold tb_c0 at h ⊢
  rw [tb_tab_eq] at h ⊢
  change tb_c0g Z mod K S (tb_cg Z K S) = some sts at h
  show tb_c0g Z mod K (tb_up b bs S) (tb_cg Z K S) = _
  generalize tb_cg Z K S = g at h
  unfold tb_c0g at h ⊢
  split at h
  · rename_i hh
    cases h
    refine Eq.trans (if_pos ?_) ?_
    · exact hh
    · congr 1
      have e9 : K.2.2.2.2.1.map (tb_end K (tb_up b bs S) g ((tb_up b bs S).2.2.1.drop K.1.length)) = (K.2.2.2.2.1.map (tb_end K S g (S.2.2.1.drop K.1.length))).map (tb_up b bs) := by
        rw [List.map_map]
        rfl
      rw [e9, List.filter_map]
      rfl
  · cases h
theorem tl_c1_up {Z : tb_Z} {mod : List (Nat × Nat × Nat)} {grd grd' : tb_S → Bool} {K : tb_K} {S : tb_S} {b bs : Nat} {sts : List tb_S} (hg : ∀ S', grd S' = true → S'.2.2.2.2.2 = S.2.2.2.2.2 → grd' (tb_up b bs S') = true) (h : to_c1 Z mod grd K S = some sts) : to_c1 Z mod grd' K (tb_up b bs S) = some (sts.map (tb_up b bs)) := by
  unfold to_c1 at h ⊢
  split at h
  · rename_i x hx
    split at h
    · rename_i hgr
      rw [tb_nrm_eq] at h
      have hx' : tb_gh Z (tb_up b bs S).2.1 (tb_up b bs S).2.2.1 K.1 ((tb_up b bs S).2.2.1.take K.1.length).reverse K.2.1 [] ((tb_up b bs S).2.2.2.1, (tb_up b bs S).2.2.2.2.1) = some x := hx
      rw [hx']
      have hg' := hg _ hgr rfl
      show (match grd' (tb_up b bs (S.1, S.2.1, S.2.2.1, x.1, x.2, S.2.2.2.2.2)) with
        | true => tb_nrm (tb_up b bs (S.1, S.2.1, S.2.2.1, x.1, x.2, S.2.2.2.2.2)) (tb_c0 Z mod K)
        | false => none) = _
      rw [hg', tb_nrm_eq]
      exact tb_c0_up h
    · cases h
  · cases h
noncomputable def tl_V (Z : tb_Z) (mod : List (Nat × Nat × Nat)) (ci n : Nat) (K : tb_K) : tb_op := to_c1 Z mod (tb_gV Z ci n 1 6) K
noncomputable def tl_S (Z : tb_Z) (mod : List (Nat × Nat × Nat)) (K : tb_K) : tb_op := fun S => (to_c1 Z mod (tb_gS 1 6) K S).map (List.map (tb_up 1 6))
theorem tb_gS_up {S : tb_S} {b bs B BS : Nat} (hb : b ≤ B) (hbs : bs ≤ BS) (h : tb_gS 1 6 S = true) : tb_gS (1 + B) (6 + BS) (tb_up b bs S) = true := by
  unfold tb_gS at h ⊢
  rw [Bool.and_eq_true] at h ⊢
  have h1 := of_decide_eq_true h.1
  have h2 := of_decide_eq_true h.2
  exact ⟨decide_eq_true (by show S.2.2.2.2.2.1 + b ≤ _; omega), decide_eq_true (by show S.2.2.2.2.2.2 + bs ≤ _; omega)⟩
theorem tb_gV_up {Z : tb_Z} {ci n : Nat} {S : tb_S} {b bs B BS : Nat} (hb : b ≤ B) (hbs : bs ≤ BS) (h : tb_gV Z ci n 1 6 S = true) : tb_gV Z ci n (1 + B) (6 + BS) (tb_up b bs S) = true := by
  unfold tb_gV at h ⊢
  rw [Bool.and_eq_true, Bool.and_eq_true] at h ⊢
  have h1 := of_decide_eq_true h.1.1
  have h2 := of_decide_eq_true h.1.2
  exact ⟨⟨decide_eq_true (by show S.2.2.2.2.2.1 + b ≤ _; omega), decide_eq_true (by show S.2.2.2.2.2.2 + bs ≤ _; omega)⟩, h.2⟩
theorem tl_cs {Z : tb_Z} {mod : List (Nat × Nat × Nat)} {grd : tb_S → Bool} {K : tb_K} {S : tb_S} {sts : List tb_S} (h : to_c1 Z mod grd K S = some sts) : to_cs Z mod grd [K] S = some sts := by
  unfold to_cs
  rw [h]
theorem tb_up_up (a b c d : Nat) (S : tb_S) : tb_up a b (tb_up c d S) = tb_up c d (tb_up a b S) := by
  unfold tb_up
  dsimp only
  rw [Nat.add_right_comm, Nat.add_right_comm S.2.2.2.2.2.2]
/-- the law's method calls -/
theorem tu_V {p : Program} {l : Launch} {e : Env} {R : Room} {s : State} {m : MethodId} {args : Array Value} {below : List Frame} {meth : Method} {c : Code} {Q : State → Prop} {D : va_G} {dA : Nat → ClassId} {A : Nat → Prop} {nL : Nat} {cl : List vw_C} {n0 : Nat} {V0 : sa_V} {E : tb_E} {cc : ByteArray} {own : String} (C0 : sa_C p s m args c D dA A nL cl sa_Ts cc own) {Z : tb_Z} {mod : List (Nat × Nat × Nat)} (hz : tb_z E = Z) (hcv : Z.1.all tb_cv = true) (hm : tb_mod E = mod) {B BS pc : Nat} {K : tb_K} {y : MethodName} {cy : ByteArray} {mL fr lc idx n : Nat} {ret : Option FieldType} {ci N : Nat} {T : u_T} (hU : sa_U D cl dA s) (hO : tb_Ou A s s.heap) (hM : tb_Met l cl sa_Ts Z y cy mL ret fr lc K) (hcode : Cond.code y cy mL ret ∈ sa_Ts) (hd : decode cc pc = .ok (.invokevirtual idx, 3)) (w1 : Cond.methodLink own idx y ∈ sa_Ts) (w2 : Cond.instanceMethod y ∈ sa_Ts) (w3 : Cond.selects y.cls y y ∈ sa_Ts) (w4 : Cond.initialized y.cls ∈ sa_Ts) (hcl : cl[ci]? = some (y.cls, T, N)) (hy : sa_arg y n) (hn : K.1.length = n + 1) (hR : fr + 1 ≤ R.frames ∧ 8 + (mL + 11) + lc ≤ R.locals) (hC : 1 + B ≤ R.cells) (hS0 : 6 + BS ≤ R.slots) : tb_sndU p l e R s m args below meth c Q D dA A nL cl n0 V0 E B BS pc (tl_V Z mod ci (n + 1) K) := by
  intro b bs hb hbs S sts hpc hop k
  have h1 := tn_callV (Ks := [K]) (l := l) (maxC := 1 + B) (maxS := 6 + BS) (n := n) (n0 := n0) (V0 := V0) (Q := Q) (e := e) (below := below) (meth := meth) C0 hz hcv hm hU hO sa_Tg (fun K9 h9 => by rw [List.mem_singleton.mp h9]; exact hM) hcode hd w1 w2 w3 w4 hcl hy (fun K9 h9 => by rw [List.mem_singleton.mp h9]; exact hn) hR hC hS0
  refine h1 (tb_up b bs S) (sts.map (tb_up b bs)) hpc (tl_cs (tl_c1_up (fun S' h8 _ => tb_gV_up hb hbs h8) hop)) (fun S' hS' => ?_)
  obtain ⟨S0, h0, rfl⟩ := List.mem_map.mp hS'
  exact k S0 h0
theorem tu_SH {p : Program} {l : Launch} {e : Env} {R : Room} {s : State} {m : MethodId} {args : Array Value} {below : List Frame} {meth : Method} {c : Code} {Q : State → Prop} {D : va_G} {dA : Nat → ClassId} {A : Nat → Prop} {nL : Nat} {cl : List vw_C} {n0 : Nat} {V0 : sa_V} {E : tb_E} {cc : ByteArray} {own : String} (C0 : sa_C p s m args c D dA A nL cl sa_Ts cc own) {Z : tb_Z} {mod : List (Nat × Nat × Nat)} (hz : tb_z E = Z) (hcv : Z.1.all tb_cv = true) (hm : tb_mod E = mod) {B BS pc : Nat} {K : tb_K} {y : MethodName} {cy : ByteArray} {mL fr lc idx n : Nat} {ret : Option FieldType} {hh : List (Nat × Nat × Nat × Nat)} (hU : sa_U D cl dA s) (hO : tb_Ou A s s.heap) (hM : tb_MetH l cl sa_Ts Z y cy mL ret hh fr lc K) (hcode : Cond.codeWith y cy mL ret hh ∈ sa_Ts) (hd : decode cc pc = .ok (.invokestatic idx, 3)) (w1 : Cond.methodLink own idx y ∈ sa_Ts) (w2 : Cond.static y ∈ sa_Ts) (w4 : Cond.initialized y.cls ∈ sa_Ts) (hy : sa_arg y n) (hn : K.1.length = n) (hR : fr + 1 ≤ R.frames ∧ 8 + (mL + 11) + lc ≤ R.locals) (hC : 1 + B + 1 ≤ R.cells) (hS0 : 6 + BS + 6 ≤ R.slots) : tb_sndU p l e R s m args below meth c Q D dA A nL cl n0 V0 E B BS pc (tl_S Z mod K) := by
  intro b bs hb hbs S sts hpc hop k
  unfold tl_S at hop
  cases h0 : to_c1 Z mod (tb_gS 1 6) K S with
  | none => rw [h0] at hop; cases hop
  | some sts0 =>
    rw [h0] at hop
    have hop : some (sts0.map (tb_up 1 6)) = some sts := hop
    cases hop
    refine tn_callSH (l := l) (maxC := 1 + B) (maxS := 6 + BS) (n := n) (n0 := n0) (V0 := V0) (Q := Q) (e := e) (below := below) (meth := meth) C0 hz hcv hm hU hO hM hcode hd w1 w2 w4 hy hn hR hC hS0 (tb_up b bs S) (sts0.map (tb_up b bs)) hpc (tl_cs (tl_c1_up (fun S' h8 _ => tb_gS_up hb hbs h8) h0)) (fun S' hS' => ?_)
    obtain ⟨S0, h9, rfl⟩ := List.mem_map.mp hS'
    rw [tb_up_up]
    exact k _ (List.mem_map.mpr ⟨S0, h9, rfl⟩)
theorem tl_run_ok {p : Program} {l : Launch} {e : Env} {R : Room} {s : State} {m : MethodId} {args : Array Value} {below : List Frame} {meth : Method} {c : Code} {Q : State → Prop} {D : va_G} {dA : Nat → ClassId} {A : Nat → Prop} {nL : Nat} {cl : List vw_C} {n0 : Nat} {V0 : sa_V} {E : tb_E} {B BS b bs : Nat} {find : Nat → Option tb_op} {leaf : tb_S → Bool} (hb : b ≤ B) (hbs : bs ≤ BS)
    (hf : ∀ pc op, find pc = some op → tb_sndU p l e R s m args below meth c Q D dA A nL cl n0 V0 E B BS pc op) (hl : ∀ S, leaf S = true → tb_W p l e R s m args below meth c Q D dA A nL cl n0 V0 E (tb_up b bs S)) : ∀ (n : Nat) (S : tb_S), tb_run find leaf n S = true → tb_W p l e R s m args below meth c Q D dA A nL cl n0 V0 E (tb_up b bs S) := by
  intro n
  induction n with
  | zero => intro S h; exact hl S h
  | succ n ih =>
    intro S h
    rw [tb_run_succ] at h
    split at h
    · rename_i h0
      exact hl S h0
    · split at h
      · cases h
      · rename_i op h1
        split at h
        · cases h
        · rename_i sts h2
          refine hf _ op h1 b bs hb hbs S sts rfl h2 (fun S' h' => ?_)
          have h3 := List.all_eq_true.mp h S' h'
          rw [tb_nrm_eq] at h3
          exact ih S' h3
end TYL
