section TY8
/-! contracts: arguments, facts, relations, bounds; ends; slots that may change -/
abbrev tb_O : Type := Option sa_v × List tb_f × List tb_l × sa_B
abbrev tb_K : Type := List sa_v × List tb_f × List tb_l × sa_B × List tb_O × List (Nat × Nat × Nat)
noncomputable def tb_P0 (D : va_G) (dA : Nat → ClassId) (cl : List vw_C) (E : tb_E) (V : sa_V) (K : tb_K) (H : Heap) : Prop := va_P D cl (tb_w0 E) H ∧ va_D (fun _ => True) (tb_w0 E) ∧ tb_wk dA (tb_al E) (tb_z E).1 (tb_w0 E) ∧ (∀ f ∈ K.2.1, tb_fa V (tb_w0 E) f) ∧ (∀ (i : Nat) (r : tb_ru), (tb_z E).2.2[i]? = some r → tb_rh (tb_al E) (tb_w0 E) r) ∧ ∀ l ∈ K.2.2.1, tb_lo V l
noncomputable def tb_P (X : tb_Xt) (D : va_G) (dA : Nat → ClassId) (cl : List vw_C) (sz : Nat) (E : tb_E) (V : sa_V) (K : tb_K) : Array Value → State → Prop := va_Pc (K.1.map (sa_val V)) (fun U => U.heap.size = sz ∧ tb_P0 D dA cl E V K U.heap ∧ sa_U D cl dA U ∧ X V (va_A (tb_w0 E) sz) U)
noncomputable def tb_Q (D : va_G) (dA : Nat → ClassId) (cl : List vw_C) (sz : Nat) (E : tb_E) (V : sa_V) (K : tb_K) : Array Value → State → Outcome → State → Prop := fun _ st oc t =>
  (∃ o ∈ K.2.2.2.2.1, ∃ V' : sa_V, (∀ k, k < K.2.2.2.1.length → V' k = V k) ∧ sa_I V' o.2.2.2 ∧ tb_X E V' ∧ oc = .returned (o.1.map (sa_val V')) ∧ tb_N D dA (va_A (tb_w0 E) sz) cl E V' (o.2.1, [], o.2.2.1) t.heap) ∧ va_F (va_A (tb_w0 E) sz) st t
noncomputable def tb_MetX (l : Launch) (cl : List vw_C) (Ts : List Cond) (Z : tb_Z) (X : tb_Xt) (y : MethodName) (cc : ByteArray) (maxL : Nat) (ret : Option FieldType) (fr lc : Nat) (K : tb_K) : Prop :=
  ∀ (D : va_G) (dA : Nat → ClassId) (sz : Nat) (V : sa_V) (E : tb_E), sa_I V K.2.2.2.1 → tb_X E V → tb_z E = Z → tb_mod E = K.2.2.2.2.2 → Met l y (Cond.code y cc maxL ret :: Ts) { frames := fr, cells := 0, slots := 0, locals := lc } (tb_P X D dA cl sz E V K) (tb_Q D dA cl sz E V K) 0 0 (va_A (tb_w0 E) sz)
noncomputable def tb_Met (l : Launch) (cl : List vw_C) (Ts : List Cond) (Z : tb_Z) (y : MethodName) (cc : ByteArray) (maxL : Nat) (ret : Option FieldType) (fr lc : Nat) (K : tb_K) : Prop := tb_MetX l cl Ts Z tb_X0 y cc maxL ret fr lc K
/-! jumps -/
noncomputable def tb_luv (lo : sa_L) : sa_L → Option (List sa_v)
  | [] => some []
  | q :: l => match sa_look q.1 lo, tb_luv lo l with
    | some v, some r => some (v :: r)
    | _, _ => none
theorem tb_luv_ok {V V1 : sa_V} {ls : Array Slot} {nL : Nat} {lo : sa_L} (h : lv_has ls nL (sa_lv V lo)) : ∀ {tl : sa_L} {us : List sa_v}, tb_luv lo tl = some us → (tl.map (fun q => q.2)).map (sa_val V1) = us.map (sa_val V) → ∀ q ∈ sa_lv V1 tl, ls[q.1]? = some (.val q.2)
  | [], _, _, _, q, hq => by cases hq
  | t :: tl, us, hu, he, q, hq => by
    unfold tb_luv at hu
    split at hu
    · rename_i v r hv hr
      cases hu
      rw [List.map_cons, List.map_cons, List.map_cons] at he
      obtain ⟨he1, he2⟩ := List.cons.inj he
      rcases List.mem_cons.mp hq with rfl | hq
      · show ls[t.1]? = some (.val (sa_val V1 t.2))
        rw [he1]
        exact sa_look_at h hv
      · exact tb_luv_ok h hr he2 q hq
    · cases hu
noncomputable def tb_sub (a b : List Nat) : Bool := a.all (fun x => b.contains x)
noncomputable def tb_jg (Z : tb_Z) (n0 : Nat) (T S : tb_S) (us : List sa_v) : Nat → Nat × Int := tb_gn T.2.2.2.2.1.length (tb_sb n0 (tb_bind Z n0 (T.2.1.map (fun q => q.2) ++ T.2.2.1) (us ++ S.2.2.1) T.2.2.2.1.1 S.2.2.2.1.1 S.2.2.2.2.1))
/-! a state, worked out -/
noncomputable def tb_fN {β : Type} (n : Nat) (k : Nat → β) : β := Nat.rec (motive := fun _ => β) (k 0) (fun m _ => k (Nat.succ m)) n
theorem tb_fN_eq {β : Type} (n : Nat) (k : Nat → β) : tb_fN n k = k n := by cases n <;> rfl
noncomputable def tb_fI {β : Type} (z : Int) (k : Int → β) : β := Int.rec (motive := fun _ => β) (fun n => Nat.rec (motive := fun _ => β) (k (Int.ofNat 0)) (fun m _ => k (Int.ofNat (Nat.succ m))) n) (fun n => Nat.rec (motive := fun _ => β) (k (Int.negSucc 0)) (fun m _ => k (Int.negSucc (Nat.succ m))) n) z
theorem tb_fI_eq {β : Type} (z : Int) (k : Int → β) : tb_fI z k = k z := by
  cases z with
  | ofNat n => cases n <;> rfl
  | negSucc n => cases n <;> rfl
noncomputable def tb_fl {α β : Type} (f : α → (α → β) → β) (l : List α) : (List α → β) → β := List.rec (motive := fun _ => (List α → β) → β) (fun k => k []) (fun a _ ih k => f a (fun a' => ih (fun l' => k (a' :: l')))) l
theorem tb_fl_eq {α β : Type} {f : α → (α → β) → β} (hf : ∀ a k, f a k = k a) : ∀ (l : List α) (k : List α → β), tb_fl f l k = k l
  | [], _ => rfl
  | a :: l, k => by
    show f a (fun a' => tb_fl f l (fun l' => k (a' :: l'))) = k (a :: l)
    rw [hf, tb_fl_eq hf l]
noncomputable def tb_fq {β : Type} (q : Nat × Int) (k : Nat × Int → β) : β := Prod.rec (motive := fun _ => β) (fun a b => tb_fN a (fun a => tb_fI b (fun b => k (a, b)))) q
theorem tb_fq_eq {β : Type} (q : Nat × Int) (k : Nat × Int → β) : tb_fq q k = k q := by
  obtain ⟨a, b⟩ := q
  show tb_fN a (fun a => tb_fI b (fun b => k (a, b))) = k (a, b)
  rw [tb_fN_eq, tb_fI_eq]
noncomputable def tb_frr {β : Type} (q : Nat × Nat × Int) (k : Nat × Nat × Int → β) : β := Prod.rec (motive := fun _ => β) (fun a b => tb_fN a (fun a => tb_fq b (fun b => k (a, b)))) q
theorem tb_frr_eq {β : Type} (q : Nat × Nat × Int) (k : Nat × Nat × Int → β) : tb_frr q k = k q := by
  obtain ⟨a, b⟩ := q
  show tb_fN a (fun a => tb_fq b (fun b => k (a, b))) = k (a, b)
  rw [tb_fN_eq, tb_fq_eq]
noncomputable def tb_fb {β : Type} (q : Int × Int) (k : Int × Int → β) : β := Prod.rec (motive := fun _ => β) (fun a b => tb_fI a (fun a => tb_fI b (fun b => k (a, b)))) q
theorem tb_fb_eq {β : Type} (q : Int × Int) (k : Int × Int → β) : tb_fb q k = k q := by
  obtain ⟨a, b⟩ := q
  show tb_fI a (fun a => tb_fI b (fun b => k (a, b))) = k (a, b)
  rw [tb_fI_eq, tb_fI_eq]
noncomputable def tb_fv {β : Type} (v : sa_v) (k : sa_v → β) : β := Sum.rec (motive := fun _ => β) (fun q => tb_fq q (fun q => k (.inl q))) (fun r => Sum.rec (motive := fun _ => β) (fun o => Option.rec (motive := fun _ => β) (k (.inr (.inl none))) (fun n => tb_fN n (fun n => k (.inr (.inl (some n))))) o) (fun n => tb_fN n (fun n => k (.inr (.inr n)))) r) v
theorem tb_fv_eq {β : Type} (v : sa_v) (k : sa_v → β) : tb_fv v k = k v := by
  rcases v with q | (_ | n) | n
  · exact tb_fq_eq q (fun q => k (.inl q))
  · rfl
  · exact tb_fN_eq n (fun n => k (.inr (.inl (some n))))
  · exact tb_fN_eq n (fun n => k (.inr (.inr n)))
noncomputable def tb_flo {β : Type} (q : Nat × sa_v) (k : Nat × sa_v → β) : β := Prod.rec (motive := fun _ => β) (fun a b => tb_fN a (fun a => tb_fv b (fun b => k (a, b)))) q
theorem tb_flo_eq {β : Type} (q : Nat × sa_v) (k : Nat × sa_v → β) : tb_flo q k = k q := by
  obtain ⟨a, b⟩ := q
  show tb_fN a (fun a => tb_fv b (fun b => k (a, b))) = k (a, b)
  rw [tb_fN_eq, tb_fv_eq]
noncomputable def tb_ff {β : Type} (f : tb_f) (k : tb_f → β) : β := Prod.rec (motive := fun _ => β) (fun a r => Prod.rec (motive := fun _ => β) (fun b c => tb_fN a (fun a => tb_fq b (fun b => tb_fv c (fun c => k (a, b, c))))) r) f
theorem tb_ff_eq {β : Type} (f : tb_f) (k : tb_f → β) : tb_ff f k = k f := by
  obtain ⟨a, b, c⟩ := f
  show tb_fN a (fun a => tb_fq b (fun b => tb_fv c (fun c => k (a, b, c)))) = k (a, b, c)
  rw [tb_fN_eq, tb_fq_eq, tb_fv_eq]
noncomputable def tb_fL {β : Type} (l : tb_l) (k : tb_l → β) : β := Prod.rec (motive := fun _ => β) (fun a b => tb_fl tb_fq a (fun a => tb_fI b (fun b => k (a, b)))) l
theorem tb_fL_eq {β : Type} (l : tb_l) (k : tb_l → β) : tb_fL l k = k l := by
  obtain ⟨a, b⟩ := l
  show tb_fl tb_fq a (fun a => tb_fI b (fun b => k (a, b))) = k (a, b)
  rw [tb_fl_eq tb_fq_eq, tb_fI_eq]
noncomputable def tb_nrm {β : Type} (S : tb_S) (k : tb_S → β) : β := tb_fN S.1 (fun pc => tb_fl tb_flo S.2.1 (fun lo => tb_fl tb_fv S.2.2.1 (fun st => tb_fl tb_ff S.2.2.2.1.1 (fun F => tb_fl tb_fN S.2.2.2.1.2.1 (fun sus => tb_fl tb_fL S.2.2.2.1.2.2 (fun LC => tb_fl tb_fb S.2.2.2.2.1 (fun G => tb_fN S.2.2.2.2.2.1 (fun kc => tb_fN S.2.2.2.2.2.2 (fun ks => k (pc, lo, st, (F, sus, LC), G, kc, ks))))))))))
theorem tb_nrm_eq {β : Type} (S : tb_S) (k : tb_S → β) : tb_nrm S k = k S := by
  unfold tb_nrm
  rw [tb_fN_eq, tb_fl_eq tb_flo_eq, tb_fl_eq tb_fv_eq, tb_fl_eq tb_ff_eq, tb_fl_eq tb_fN_eq, tb_fl_eq tb_fL_eq, tb_fl_eq tb_fb_eq, tb_fN_eq, tb_fN_eq]
/-- a table of the signs, worked out -/
noncomputable def tb_tab {β : Type} (n n0 : Nat) (r : sa_rr) (k : (Nat → Nat × Int) → β) : β := tb_fl tb_frr r (fun r => tb_fl tb_fq ((List.range n).map (tb_sb n0 r)) (fun gl => k (tb_tg gl)))
theorem tb_tab_eq {β : Type} (n n0 : Nat) (r : sa_rr) (k : (Nat → Nat × Int) → β) : tb_tab n n0 r k = k (tb_gn n (tb_sb n0 r)) := by
  unfold tb_tab
  rw [tb_fl_eq tb_frr_eq, tb_fl_eq tb_fq_eq, tb_tg_eq]
noncomputable def tb_jmp (Z : tb_Z) (n0 : Nat) (T S : tb_S) (us : List sa_v) : Bool :=
  decide (T.1 = S.1) && (tb_tab T.2.2.2.2.1.length n0 (tb_bind Z n0 (T.2.1.map (fun q => q.2) ++ T.2.2.1) (us ++ S.2.2.1) T.2.2.2.1.1 S.2.2.2.1.1 S.2.2.2.2.1) (fun g => tb_fit Z g (T.2.1.map (fun q => q.2) ++ T.2.2.1) (us ++ S.2.2.1) T.2.2.2.1.1 T.2.2.2.1.2.2 T.2.2.2.2.1 S.2.2.2.1 S.2.2.2.2.1) && (tb_sub S.2.2.2.1.2.1 T.2.2.2.1.2.1 && (decide (S.2.2.2.2.2.1 ≤ T.2.2.2.2.2.1) && (decide (S.2.2.2.2.2.2 ≤ T.2.2.2.2.2.2) && (decide (n0 ≤ T.2.2.2.2.1.length) && decide ((T.2.1.map (fun q => q.2)).length = us.length))))))
theorem tb_jmp_ok {D : va_G} {dA : Nat → ClassId} {A : Nat → Prop} {nL : Nat} {cl : List vw_C} {n0 n1 : Nat} {V0 : sa_V} {E : tb_E} {H0 : Heap} {V : sa_V} {H : Heap} {locs : List Loc} {ls : Array Slot} {Z : tb_Z} {T S : tb_S} {us : List sa_v} (hz : tb_z E = Z) (hG : tb_G D dA A nL cl n1 V0 E H0 V S.2.1 S.2.2.2.1 S.2.2.2.2.1 H locs ls) (h01 : n0 ≤ n1) (hu : tb_luv S.2.1 T.2.1 = some us) (hj : tb_jmp Z n0 T S us = true) :
    tb_G D dA A nL cl n0 V0 E H0 (tb_pl V (tb_jg Z n0 T S us)) T.2.1 T.2.2.2.1 T.2.2.2.2.1 H locs ls ∧ T.2.2.1.map (sa_val (tb_pl V (tb_jg Z n0 T S us))) = S.2.2.1.map (sa_val V) := by
  unfold tb_jmp at hj
  rw [tb_tab_eq] at hj
  rw [Bool.and_eq_true, Bool.and_eq_true, Bool.and_eq_true, Bool.and_eq_true, Bool.and_eq_true, Bool.and_eq_true] at hj
  obtain ⟨-, j2, j3, -, -, j6, j7⟩ := hj
  have j6 := of_decide_eq_true j6
  have j7 := of_decide_eq_true j7
  obtain ⟨w, n1', n2, n3, n4, n5, n6, n7⟩ := hG.2.2.1
  obtain ⟨f1, f2, f3, f4, f5⟩ := tb_fit_ok hz hG.1.1 hG.2.2.2.1 n5 n7 j2
  change sa_I (tb_pl V (tb_jg Z n0 T S us)) _ at f1
  change tb_X E (tb_pl V (tb_jg Z n0 T S us)) at f2
  change List.map (sa_val (tb_pl V (tb_jg Z n0 T S us))) _ = _ at f3
  rw [List.map_append, List.map_append] at f3
  obtain ⟨f6, f7⟩ := List.append_inj f3 (by rw [List.length_map, List.length_map (f := sa_val V)]; exact j7)
  refine ⟨⟨⟨f1, j6, fun k hk => ?_⟩, ⟨hG.2.1.1, hG.2.1.2.1, tb_luv_ok hG.2.1 hu f6⟩, ⟨w, n1', n2, n3, n4, f4, fun i r hr hi => n6 i r hr (fun z => hi ?_), f5⟩, f2, hG.2.2.2.2⟩, f7⟩
  · rw [show tb_pl V (tb_jg Z n0 T S us) k = V k from tb_gn_n0 hG.2.2.2.1 hk j6]
    exact hG.1.2.2 k (Nat.lt_of_lt_of_le hk h01)
  · have := List.all_eq_true.mp j3 i z
    simpa using this
/-! runs -/
noncomputable def tb_run (find : Nat → Option tb_op) (leaf : tb_S → Bool) (n : Nat) : tb_S → Bool := Nat.rec (motive := fun _ => tb_S → Bool) leaf (fun _ ih S => Bool.rec (motive := fun _ => Bool) (Option.rec (motive := fun _ => Bool) false (fun op => Option.rec (motive := fun _ => Bool) false (fun sts => tb_all (fun S' => tb_nrm S' ih) sts) (op S)) (find S.1)) true (leaf S)) n
theorem tb_run_succ {find : Nat → Option tb_op} {leaf : tb_S → Bool} {n : Nat} {S : tb_S} : tb_run find leaf (n + 1) S = match leaf S with
    | true => true
    | false => match find S.1 with
      | none => false
      | some op => match op S with
        | none => false
        | some sts => sts.all (fun S' => tb_nrm S' (tb_run find leaf n)) := by
  show (Bool.rec (Option.rec (motive := fun _ => Bool) false (fun op => Option.rec (motive := fun _ => Bool) false (fun sts => tb_all (fun S' => tb_nrm S' (tb_run find leaf n)) sts) (op S)) (find S.1)) true (leaf S) : Bool) = _
  cases leaf S with
  | true => rfl
  | false =>
    cases find S.1 with
    | none => rfl
    | some op =>
      show (Option.rec (motive := fun _ => Bool) false (fun sts => tb_all (fun S' => tb_nrm S' (tb_run find leaf n)) sts) (op S) : Bool) = match op S with
        | none => false
        | some sts => sts.all (fun S' => tb_nrm S' (tb_run find leaf n))
      cases op S with
      | none => rfl
      | some sts => exact tb_all_eq _ sts
theorem tb_run_ok {p : Program} {l : Launch} {e : Env} {R : Room} {s : State} {m : MethodId} {args : Array Value} {below : List Frame} {meth : Method} {c : Code} {Q : State → Prop} {D : va_G} {dA : Nat → ClassId} {A : Nat → Prop} {nL : Nat} {cl : List vw_C} {n0 : Nat} {V0 : sa_V} {E : tb_E} {find : Nat → Option tb_op} {leaf : tb_S → Bool}
    (hf : ∀ pc op, find pc = some op → tb_snd p l e R s m args below meth c Q D dA A nL cl n0 V0 E pc op) (hl : ∀ S, leaf S = true → tb_W p l e R s m args below meth c Q D dA A nL cl n0 V0 E S) : ∀ (n : Nat) (S : tb_S), tb_run find leaf n S = true → tb_W p l e R s m args below meth c Q D dA A nL cl n0 V0 E S := by
  intro n
  induction n with
  | zero => intro S h; exact hl S h
  | succ n ih =>
    intro S h
    rw [tb_run_succ] at h
    split at h
    · rename_i h0
      exact hl S h0
    · split at h
      · cases h
      · rename_i op h1
        split at h
        · cases h
        · rename_i sts h2
          refine hf _ op h1 S sts rfl h2 (fun S' h' => ?_)
          have h3 := List.all_eq_true.mp h S' h'
          rw [tb_nrm_eq] at h3
          exact ih S' h3
/-! ends -/
noncomputable def tb_og (Z : tb_Z) (n0 : Nat) (o : tb_O) (S : tb_S) : Nat → Nat × Int := tb_gn o.2.2.2.length (tb_sb n0 (tb_bind Z n0 o.1.toList S.2.2.1 o.2.1 S.2.2.2.1.1 S.2.2.2.2.1))
noncomputable def tb_rf1 (t : Option FieldType) (G : sa_B) (st : List sa_v) : Bool := match t, st with
  | some ty, [.inl q] => sa_fit G ty (.inl q) && decide (¬ ty = .long)
  | some .long, [.inr (.inr _)] => true
  | none, [] => true
  | _, _ => false
noncomputable def tb_fin (Z : tb_Z) (rets : List Nat) (t : Option FieldType) (K : tb_K) (S : tb_S) : Bool := match rets.contains S.1 with
  | false => false
  | true => decide (S.2.2.2.2.2.1 ≤ 0) && (decide (S.2.2.2.2.2.2 ≤ 0) && (decide (S.2.2.2.1.2.1 = []) && (tb_rf1 t S.2.2.2.2.1 S.2.2.1 && K.2.2.2.2.1.any (fun o => decide (K.2.2.2.1.length ≤ o.2.2.2.length) && tb_tab o.2.2.2.length K.2.2.2.1.length (tb_bind Z K.2.2.2.1.length o.1.toList S.2.2.1 o.2.1 S.2.2.2.1.1 S.2.2.2.2.1) (fun g => tb_fit Z g o.1.toList S.2.2.1 o.2.1 o.2.2.1 o.2.2.2 S.2.2.2.1 S.2.2.2.2.1)))))
noncomputable def tb_ri : Option FieldType → Instr
  | none => .return_
  | some .long => .lreturn
  | some _ => .ireturn
theorem tb_fin_ok {p : Program} {l : Launch} {e : Env} {R : Room} {s : State} {m : MethodId} {args : Array Value} {below : List Frame} {meth : Method} {c : Code} {D : va_G} {dA : Nat → ClassId} {A : Nat → Prop} {nL : Nat} {cl : List vw_C} {n1 : Nat} {V0 V1 : sa_V} {E : tb_E} {Z : tb_Z} {K : tb_K} {cc : ByteArray} {rets : List Nat} {t : Option FieldType} {mc ms : Nat}
    (hz : tb_z E = Z) (hx : p.tables.exec = Jvm.exec) (hb : c.code = cc) (hlocks : meth.locks = false) (hr : meth.sig.returnType = t) (hA : A = va_A (tb_w0 E) s.heap.size) (hd : ∀ pc ∈ rets, decode cc pc = .ok (tb_ri t, 1)) (h01 : K.2.2.2.1.length ≤ n1) (hV : ∀ k, k < K.2.2.2.1.length → V1 k = V0 k)
    (S : tb_S) (h : tb_fin Z rets t K S = true) : tb_W p l e R s m args below meth c (MQ below (tb_Q D dA cl s.heap.size E V0 K) args s mc ms A) D dA A nL cl n1 V1 E S := by
  obtain ⟨pc, lo, st, cs, G, kc, ks⟩ := S
  intro V H locs ls hG
  unfold tb_fin at h
  split at h
  · cases h
  · rename_i hpc
    rw [Bool.and_eq_true, Bool.and_eq_true, Bool.and_eq_true, Bool.and_eq_true] at h
    obtain ⟨h1, h2, h3, h4, h5⟩ := h
    have hpc : pc ∈ rets := by simpa using hpc
    have h1 : kc ≤ 0 := of_decide_eq_true h1
    have h2 : ks ≤ 0 := of_decide_eq_true h2
    have h3 : cs.2.1 = [] := of_decide_eq_true h3
    obtain ⟨o, ho, h6⟩ := List.any_eq_true.mp h5
    rw [Bool.and_eq_true, tb_tab_eq] at h6
    obtain ⟨h7, h8⟩ := h6
    have h7 := of_decide_eq_true h7
    obtain ⟨w, n1', n2, n3, n4, n5, n6, n7⟩ := hG.2.2.1
    obtain ⟨f1, f2, f3, f4, f5⟩ := tb_fit_ok hz hG.1.1 hG.2.2.2.1 n5 n7 h8
    generalize hgg : tb_gn o.2.2.2.length _ = gg at f1 f2 f3 f4 f5
    have hagree : ∀ k, k < K.2.2.2.1.length → tb_pl V gg k = V0 k := by
      intro k hk
      rw [← hgg, tb_gn_n0 hG.2.2.2.1 hk h7, hG.1.2.2 k (Nat.lt_of_lt_of_le hk h01)]
      exact hV k hk
    refine W.widen (k := mc) (n := ms) (Nat.le_trans h1 (Nat.zero_le _)) (Nat.le_trans h2 (Nat.zero_le _)) ?_
    have hq : ∀ (oc : Outcome) (t9 : State), t9.heap = H → oc = .returned (o.1.map (sa_val (tb_pl V gg))) → tb_Q D dA cl s.heap.size E V0 K args s oc t9 := by
      intro oc t9 ht9 hoc
      subst hA
      exact ⟨⟨o, ho, tb_pl V gg, hagree, f1, f2, hoc, by rw [ht9]; exact ⟨w, n1', n2, n3, n4, f4, fun i r hr9 _ => n6 i r hr9 (by rw [h3]; exact List.not_mem_nil), f5⟩⟩, hG.2.2.2.2.F ht9⟩
    have hd1 := hd pc hpc
    clear hd
    unfold tb_rf1 at h4
    split at h4
    · rename_i ty q he
      rw [Bool.and_eq_true] at h4
      have h9 := of_decide_eq_true h4.2
      obtain ⟨m1, m2⟩ := sa_fit_ok (V := V) hG.1.1 h4.1
      have hst : st = [.inl q] := he
      subst hst
      have hri : tb_ri (some ty) = .ireturn := by
        cases ty <;> first | rfl | exact absurd rfl h9
      rw [hri] at hd1
      refine W.zret (v := sa_i V q) hx hb hr m1 (fun t9 ht9 _ => hq _ t9 ht9 ?_) (fun q9 hq9 => hG.2.2.2.2.2.2 q9 hq9) hd1
      cases ho1 : o.1 with
      | none => rw [ho1] at f3; cases f3
      | some v =>
        rw [ho1] at f3
        have f3 : [sa_val (tb_pl V gg) v] = [Value.int (sa_i V q)] := f3
        have := (List.cons.inj f3).1
        show Outcome.returned (some _) = Outcome.returned (some (sa_val (tb_pl V gg) v))
        rw [this]
    · rename_i j he
      have hst : st = [.inr (.inr j)] := he
      subst hst
      refine W.lret (v := (V j).2.1) hx hb hr (fun t9 ht9 _ => hq _ t9 ht9 ?_) (fun q9 hq9 => hG.2.2.2.2.2.2 q9 hq9) hd1
      cases ho1 : o.1 with
      | none => rw [ho1] at f3; cases f3
      | some v =>
        rw [ho1] at f3
        have f3 : [sa_val (tb_pl V gg) v] = [Value.long (V j).2.1] := f3
        have := (List.cons.inj f3).1
        show Outcome.returned (some _) = Outcome.returned (some (sa_val (tb_pl V gg) v))
        rw [this]
    · rename_i he
      have hst : st = [] := he
      subst hst
      refine W.vret hx hb hr (fun t9 ht9 _ => hq _ t9 ht9 ?_) (fun q9 hq9 => hG.2.2.2.2.2.2 q9 hq9) hd1
      cases ho1 : o.1 with
      | none => rfl
      | some v => rw [ho1] at f3; cases f3
    · cases h4
end TY8
