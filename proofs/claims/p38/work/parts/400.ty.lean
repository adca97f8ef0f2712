/-! Cells have kinds, slots have types; what a state knows of the heap: facts on slots, rules between slots, relations between signs (own work). -/
section TY0
/-! plain tests, for the kernel -/
noncomputable def tb_ieq (a b : Int) : Bool := Int.rec (motive := fun _ => Bool) (fun m => Int.rec (motive := fun _ => Bool) (fun n => Nat.beq m n) (fun _ => false) b) (fun m => Int.rec (motive := fun _ => Bool) (fun _ => false) (fun n => Nat.beq m n) b) a
theorem tb_ieq_ok {a b : Int} (h : tb_ieq a b = true) : a = b := by
  cases a with
  | ofNat m =>
    cases b with
    | ofNat n => exact congrArg Int.ofNat (Nat.eq_of_beq_eq_true h)
    | negSucc n => exact absurd (show false = true from h) (by decide)
  | negSucc m =>
    cases b with
    | ofNat n => exact absurd (show false = true from h) (by decide)
    | negSucc n => exact congrArg Int.negSucc (Nat.eq_of_beq_eq_true h)
theorem tb_ieq_rf : ∀ a : Int, tb_ieq a a = true
  | .ofNat m => Nat.beq_refl m
  | .negSucc m => Nat.beq_refl m
theorem tb_ine {a b : Int} (h : Bool.not (tb_ieq a b) = true) : ¬ a = b := by
  rintro rfl
  rw [tb_ieq_rf] at h
  cases h
noncomputable def tb_ile (a b : Int) : Bool := Int.rec (motive := fun _ => Bool) (fun m => Int.rec (motive := fun _ => Bool) (fun n => Nat.ble m n) (fun _ => false) b) (fun m => Int.rec (motive := fun _ => Bool) (fun _ => true) (fun n => Nat.ble n m) b) a
theorem tb_ile_ok {a b : Int} (h : tb_ile a b = true) : a ≤ b := by
  cases a with
  | ofNat m =>
    cases b with
    | ofNat n => exact Int.ofNat_le.mpr (Nat.le_of_ble_eq_true h)
    | negSucc n => exact absurd (show false = true from h) (by decide)
  | negSucc m =>
    cases b with
    | ofNat n => show Int.negSucc m ≤ (n : Int); omega
    | negSucc n =>
      have := Nat.le_of_ble_eq_true (show Nat.ble n m = true from h)
      omega
noncomputable def tb_ge {α : Type} (l : List α) : Nat → Option α := List.rec (motive := fun _ => Nat → Option α) (fun _ => none) (fun a _ ih k => Nat.rec (motive := fun _ => Option α) (some a) (fun m _ => ih m) k) l
theorem tb_ge_eq {α : Type} : ∀ (l : List α) (k : Nat), tb_ge l k = l[k]?
  | [], _ => by rw [List.getElem?_nil]; rfl
  | _ :: _, 0 => rfl
  | a :: l, k + 1 => by
    rw [List.getElem?_cons_succ, ← tb_ge_eq l k]
    rfl
noncomputable def tb_all {α : Type} (f : α → Bool) (l : List α) : Bool := List.rec (motive := fun _ => Bool) true (fun a _ ih => Bool.rec (motive := fun _ => Bool) false ih (f a)) l
theorem tb_all_eq {α : Type} (f : α → Bool) : ∀ l : List α, tb_all f l = l.all f
  | [] => rfl
  | a :: l => by
    rw [List.all_cons, ← tb_all_eq f l]
    show (Bool.rec false (tb_all f l) (f a) : Bool) = _
    cases f a <;> rfl
theorem tb_blt_eq (a b : Nat) : Nat.ble (Nat.succ a) b = decide (a < b) := by
  rw [Bool.eq_iff_iff, decide_eq_true_iff]
  exact ⟨Nat.le_of_ble_eq_true, Nat.ble_eq_true_of_le⟩
noncomputable def tb_wfv (n : Nat) (v : sa_v) : Bool := Sum.rec (motive := fun _ => Bool) (fun q => Nat.ble (Nat.succ q.1) n) (fun r => Sum.rec (motive := fun _ => Bool) (fun o => Option.rec (motive := fun _ => Bool) true (fun k => Nat.ble (Nat.succ k) n) o) (fun j => Nat.ble (Nat.succ j) n) r) v
theorem tb_wfv_eq (n : Nat) (v : sa_v) : tb_wfv n v = sa_wfv n v := by
  rcases v with q | (_ | k) | j
  · exact tb_blt_eq q.1 n
  · rfl
  · exact tb_blt_eq k n
  · exact tb_blt_eq j n
/-- a slot's type: 0 int, 1 long, 2 a reference; from, to -/
abbrev tb_t : Type := Nat × Int × Int
abbrev tb_kd : Type := (Nat × List tb_t) ⊕ (Nat × Nat × List (Nat × tb_t))
noncomputable def tb_rl : List (Nat × tb_t) → Nat → Option tb_t
  | [], _ => none
  | q :: l, i => if i < q.1 then some q.2 else tb_rl l (i - q.1)
noncomputable def tb_ty (k : tb_kd) (i : Nat) : Option tb_t := match k with
  | .inl o => o.2[i]?
  | .inr a => if i < a.2.1 then tb_rl a.2.2 i else none
/-- kinds, which of them have one cell alone; rules: where all of these slots are within, that one is -/
abbrev tb_p : Type := Nat × Nat × Int × Int
abbrev tb_ru : Type := List tb_p × tb_p
abbrev tb_Z : Type := List tb_kd × List Bool × List tb_ru
noncomputable def tb_KB : Int := 1180591620717411303424
/-- addresses and kinds, the cells at the start, which slots may change -/
abbrev tb_E : Type := List (Nat × Nat) × va_W × List (Nat × Nat × Nat) × tb_Z
noncomputable def tb_al (E : tb_E) : List (Nat × Nat) := E.1
noncomputable def tb_w0 (E : tb_E) : va_W := E.2.1
noncomputable def tb_mod (E : tb_E) : List (Nat × Nat × Nat) := E.2.2.1
noncomputable def tb_z (E : tb_E) : tb_Z := E.2.2.2
abbrev tb_f : Type := Nat × (Nat × Int) × sa_v
abbrev tb_l : Type := List (Nat × Int) × Int
/-- facts, rules that are open, relations -/
abbrev tb_c : Type := List tb_f × List Nat × List tb_l
abbrev tb_S : Type := Nat × sa_L × List sa_v × tb_c × sa_B × Nat × Nat
abbrev tb_op : Type := tb_S → Option (List tb_S)
noncomputable def tb_rd (e : va_E) (i : Nat) : Option Value := match e with
  | .inr o => o.2[i]?
  | .inl (_, n, .inl f) => if i < n then some (.int (f i)) else none
  | .inl (_, n, .inr (.inl f)) => if i < n then some (.long (f i)) else none
  | .inl (_, n, .inr (.inr (.inr (.inr f)))) => if i < n then some (va_rf (f i)) else none
  | _ => none
noncomputable def tb_sh (dA : Nat → ClassId) (k : tb_kd) (e : va_E) : Prop := match k with
  | .inl o => ∃ fs : List Value, e = .inr (o.1, fs) ∧ fs.length = o.2.length
  | .inr a => if a.1 = 2 then ∃ f : Nat → Int64, e = .inl (dA a.1, a.2.1, .inr (.inl f)) else if a.1 < 4 then ∃ f : Nat → Int32, e = .inl (dA a.1, a.2.1, .inl f) else ∃ f : Nat → Option Nat, e = .inl (dA a.1, a.2.1, .inr (.inr (.inr (.inr f))))
noncomputable def tb_vt (al : List (Nat × Nat)) (t : tb_t) (v : Value) : Prop := match t.1, v with
  | 0, .int x => t.2.1 ≤ x.toInt ∧ x.toInt ≤ t.2.2
  | 1, .long x => t.2.1 ≤ x.toInt ∧ x.toInt ≤ t.2.2
  | 2, .ref a => ∃ (j κ : Nat), al[j]? = some (a, κ) ∧ t.2.1 ≤ (κ : Int) ∧ (κ : Int) ≤ t.2.2
  | _, _ => False
noncomputable def tb_ck (dA : Nat → ClassId) (al : List (Nat × Nat)) (k : tb_kd) (e : va_E) : Prop := tb_sh dA k e ∧ ∀ (i : Nat) (t : tb_t), tb_ty k i = some t → ∃ v : Value, tb_rd e i = some v ∧ tb_vt al t v
noncomputable def tb_wk (dA : Nat → ClassId) (al : List (Nat × Nat)) (KT : List tb_kd) (w : va_W) : Prop := w.length = al.length ∧ ∀ (j a κ : Nat), al[j]? = some (a, κ) → ∃ (k : tb_kd) (e : va_E), KT[κ]? = some k ∧ w[j]? = some (a, e) ∧ tb_ck dA al k e
/-- what stands in a slot -/
noncomputable def tb_at (w : va_W) (a i : Nat) (v : Value) : Prop := ∃ (j : Nat) (e : va_E), w[j]? = some (a, e) ∧ tb_rd e i = some v
noncomputable def tb_ix (V : sa_V) (q : Nat × Int) : Int := (V q.1).1 + q.2
noncomputable def tb_fa (V : sa_V) (w : va_W) (f : tb_f) : Prop := 0 ≤ tb_ix V f.2.1 ∧ tb_at w (sa_ad V f.1) (tb_ix V f.2.1).toNat (sa_val V f.2.2)
noncomputable def tb_in (al : List (Nat × Nat)) (w : va_W) (p : tb_p) : Prop := ∃ (j a : Nat) (x : Int32), al[j]? = some (a, p.1) ∧ tb_at w a p.2.1 (.int x) ∧ p.2.2.1 ≤ x.toInt ∧ x.toInt ≤ p.2.2.2
noncomputable def tb_rh (al : List (Nat × Nat)) (w : va_W) (r : tb_ru) : Prop := (∀ p ∈ r.1, tb_in al w p) → tb_in al w r.2
noncomputable def tb_ev (V : sa_V) : List (Nat × Int) → Int
  | [] => 0
  | q :: l => q.2 * (V q.1).1 + tb_ev V l
noncomputable def tb_lo (V : sa_V) (l : tb_l) : Prop := tb_ev V l.1 ≤ l.2
noncomputable def tb_md (mod : List (Nat × Nat × Nat)) (κ i : Nat) : Bool := mod.any (fun m => decide (m.1 = κ ∧ m.2.1 ≤ i ∧ i ≤ m.2.2))
noncomputable def tb_fm (E : tb_E) (w : va_W) : Prop := ∀ (j a κ : Nat) (e0 e : va_E) (i : Nat), (tb_al E)[j]? = some (a, κ) → (tb_w0 E)[j]? = some (a, e0) → w[j]? = some (a, e) → tb_md (tb_mod E) κ i = false → tb_rd e i = tb_rd e0 i
noncomputable def tb_N (D : va_G) (dA : Nat → ClassId) (A : Nat → Prop) (cl : List vw_C) (E : tb_E) (V : sa_V) (cs : tb_c) (H : Heap) : Prop := ∃ w : va_W, va_P D cl w H ∧ va_D A w ∧ tb_wk dA (tb_al E) (tb_z E).1 w ∧ tb_fm E w ∧ (∀ f ∈ cs.1, tb_fa V w f) ∧ (∀ (i : Nat) (r : tb_ru), (tb_z E).2.2[i]? = some r → i ∉ cs.2.1 → tb_rh (tb_al E) w r) ∧ ∀ l ∈ cs.2.2, tb_lo V l
noncomputable def tb_sg (E : tb_E) (κ : Nat) : Bool := (tb_z E).2.1.getD κ false
noncomputable def tb_X (E : tb_E) (V : sa_V) : Prop := (∀ k : Nat, (V k).2.1 = Int64.ofInt (V k).1) ∧ (∀ k : Nat, tb_KB ≤ (V k).1 → ∃ j : Nat, (tb_al E)[j]? = some (sa_ad V k, ((V k).1 - tb_KB).toNat)) ∧ ∀ κ : Nat, tb_sg E κ = true → ∀ (i j a b : Nat), (tb_al E)[i]? = some (a, κ) → (tb_al E)[j]? = some (b, κ) → i = j
noncomputable def tb_G (D : va_G) (dA : Nat → ClassId) (A : Nat → Prop) (nL : Nat) (cl : List vw_C) (n0 : Nat) (V0 : sa_V) (E : tb_E) (H0 : Heap) (V : sa_V) (lo : sa_L) (cs : tb_c) (G : sa_B) (H : Heap) (locs : List Loc) (ls : Array Slot) : Prop :=
  sa_J n0 V0 V G ∧ lv_has ls nL (sa_lv V lo) ∧ tb_N D dA A cl E V cs H ∧ tb_X E V ∧ va_S A H0 H locs
noncomputable def tb_W (p : Program) (l : Launch) (e : Env) (R : Room) (s : State) (m : MethodId) (args : Array Value) (below : List Frame) (meth : Method) (c : Code) (Q : State → Prop) (D : va_G) (dA : Nat → ClassId) (A : Nat → Prop) (nL : Nat) (cl : List vw_C) (n0 : Nat) (V0 : sa_V) (E : tb_E) (S : tb_S) : Prop :=
  ∀ (V : sa_V) (H : Heap) (locs : List Loc) (ls : Array Slot), tb_G D dA A nL cl n0 V0 E s.heap V S.2.1 S.2.2.2.1 S.2.2.2.2.1 H locs ls → W p l e R s m args below meth c H locs S.2.2.2.2.2.1 S.2.2.2.2.2.2 Q (F0 m S.1 ls (S.2.2.1.map (sa_val V)))
noncomputable def tb_snd (p : Program) (l : Launch) (e : Env) (R : Room) (s : State) (m : MethodId) (args : Array Value) (below : List Frame) (meth : Method) (c : Code) (Q : State → Prop) (D : va_G) (dA : Nat → ClassId) (A : Nat → Prop) (nL : Nat) (cl : List vw_C) (n0 : Nat) (V0 : sa_V) (E : tb_E) (pc : Nat) (op : tb_op) : Prop :=
  ∀ (S : tb_S) (sts : List tb_S), S.1 = pc → op S = some sts → (∀ S' ∈ sts, tb_W p l e R s m args below meth c Q D dA A nL cl n0 V0 E S') → tb_W p l e R s m args below meth c Q D dA A nL cl n0 V0 E S
/-! new signs -/
noncomputable def tb_wff (n : Nat) (f : tb_f) : Bool := decide (f.1 < n) && (decide (f.2.1.1 < n) && sa_wfv n f.2.2)
noncomputable def tb_wfl (n : Nat) (l : tb_l) : Bool := l.1.all (fun q => decide (q.1 < n))
noncomputable def tb_wfc (n : Nat) (cs : tb_c) : Bool := cs.1.all (tb_wff n) && cs.2.2.all (tb_wfl n)
noncomputable def tb_wf (n : Nat) (lo : sa_L) (st : List sa_v) (cs : tb_c) : Bool := Nat.ble (Nat.succ 0) n && tb_all (fun q => tb_wfv n q.2) lo && tb_all (fun v => tb_wfv n v) st && (tb_all (fun f => Nat.ble (Nat.succ f.1) n && (Nat.ble (Nat.succ f.2.1.1) n && tb_wfv n f.2.2)) cs.1 && tb_all (fun l => tb_all (fun q => Nat.ble (Nat.succ q.1) n) l.1) cs.2.2)
theorem tb_wf_old {n : Nat} {lo : sa_L} {st : List sa_v} {cs : tb_c} : tb_wf n lo st cs = (decide (0 < n) && lo.all (fun q => sa_wfv n q.2) && st.all (sa_wfv n) && tb_wfc n cs) := by
  unfold tb_wf tb_wfc tb_wff tb_wfl
  simp only [tb_all_eq, tb_blt_eq, tb_wfv_eq]
theorem tb_fa_upd {V : sa_V} {n : Nat} {x : sa_x} {w : va_W} {f : tb_f} (h : tb_wff n f = true) : tb_fa (sa_upd V n x) w f ↔ tb_fa V w f := by
  simp only [tb_wff, Bool.and_eq_true, decide_eq_true_eq] at h
  unfold tb_fa tb_ix sa_ad
  rw [sa_upd_ne h.1, sa_upd_ne h.2.1, sa_val_upd h.2.2]
theorem tb_ev_upd {V : sa_V} {n : Nat} {x : sa_x} : ∀ {l : List (Nat × Int)}, l.all (fun q => decide (q.1 < n)) = true → tb_ev (sa_upd V n x) l = tb_ev V l
  | [], _ => rfl
  | q :: l, h => by
    simp only [List.all_cons, Bool.and_eq_true, decide_eq_true_eq] at h
    unfold tb_ev
    rw [sa_upd_ne h.1, tb_ev_upd h.2]
theorem tb_lo_upd {V : sa_V} {n : Nat} {x : sa_x} {l : tb_l} (h : tb_wfl n l = true) : tb_lo (sa_upd V n x) l ↔ tb_lo V l := by
  unfold tb_lo
  rw [tb_ev_upd h]
theorem tb_N_upd {D : va_G} {dA : Nat → ClassId} {A : Nat → Prop} {cl : List vw_C} {E : tb_E} {V : sa_V} {cs : tb_c} {H : Heap} {n : Nat} {x : sa_x} (hw : tb_wfc n cs = true) (h : tb_N D dA A cl E V cs H) : tb_N D dA A cl E (sa_upd V n x) cs H := by
  simp only [tb_wfc, Bool.and_eq_true, List.all_eq_true] at hw
  obtain ⟨w, h1, h2, h3, h4, h5, h6, h7⟩ := h
  exact ⟨w, h1, h2, h3, h4, fun f hf => (tb_fa_upd (hw.1 f hf)).mpr (h5 f hf), h6, fun l hl => (tb_lo_upd (hw.2 l hl)).mpr (h7 l hl)⟩
/-- what a new sign may be: an int or a long, or a cell of a kind -/
noncomputable def tb_nx (E : tb_E) (x : sa_x) : Prop := x.2.1 = Int64.ofInt x.1 ∧ (tb_KB ≤ x.1 → ∃ j : Nat, (tb_al E)[j]? = some (x.2.2.2, (x.1 - tb_KB).toNat))
theorem tb_X_upd {E : tb_E} {V : sa_V} {n : Nat} {x : sa_x} (h : tb_X E V) (hx : tb_nx E x) : tb_X E (sa_upd V n x) := by
  refine ⟨fun k => ?_, fun k hk => ?_, h.2.2⟩
  · by_cases hkn : k = n
    · subst hkn; rw [sa_upd_eq]; exact hx.1
    · unfold sa_upd; rw [if_neg hkn]; exact h.1 k
  · by_cases hkn : k = n
    · subst hkn
      unfold sa_ad
      rw [sa_upd_eq] at hk ⊢
      exact hx.2 hk
    · unfold sa_ad sa_upd at *
      rw [if_neg hkn] at hk ⊢
      exact h.2.1 k hk
theorem tb_G_upd {D : va_G} {dA : Nat → ClassId} {A : Nat → Prop} {nL : Nat} {cl : List vw_C} {n0 : Nat} {V0 : sa_V} {E : tb_E} {H0 : Heap} {V : sa_V} {lo : sa_L} {st : List sa_v} {cs : tb_c} {G : sa_B} {H : Heap} {locs : List Loc} {ls : Array Slot} {x : sa_x} {b : Int × Int}
    (h : tb_G D dA A nL cl n0 V0 E H0 V lo cs G H locs ls) (hw : tb_wf G.length lo st cs = true) (hb : b.1 ≤ x.1 ∧ x.1 ≤ b.2) (hx : tb_nx E x) : tb_G D dA A nL cl n0 V0 E H0 (sa_upd V G.length x) lo cs (G ++ [b]) H locs ls ∧ st.map (sa_val (sa_upd V G.length x)) = st.map (sa_val V) := by
  simp only [tb_wf_old, Bool.and_eq_true, decide_eq_true_eq] at hw
  obtain ⟨⟨⟨h0, h1⟩, h2⟩, h3⟩ := hw
  obtain ⟨g1, g2, g3, g4, g5⟩ := h
  exact ⟨⟨sa_J_upd g1 h0 hb, by rw [sa_lv_upd h1]; exact g2, tb_N_upd h3 g3, tb_X_upd g4 hx, g5⟩, sa_st_upd h2⟩
theorem tb_nx_int {E : tb_E} (x : Int32) : tb_nx E (x.toInt, Int64.ofInt x.toInt, fun _ => 0, 0) := ⟨rfl, fun h => by
  have h1 := Int32.toInt_lt x
  have h2 : tb_KB ≤ x.toInt := h
  unfold tb_KB at h2
  simp at h1
  omega⟩
theorem tb_nx_long {E : tb_E} (x : Int64) : tb_nx E (x.toInt, Int64.ofInt x.toInt, fun _ => 0, 0) := ⟨rfl, fun h => by
  have h1 := Int64.toInt_lt x
  have h2 : tb_KB ≤ x.toInt := h
  unfold tb_KB at h2
  simp at h1
  omega⟩
noncomputable def tb_push (pc : Nat) (lo : sa_L) (rest : List sa_v) (cs : tb_c) (G : sa_B) (kc ks : Nat) (r : sa_r) : Option (List tb_S) := match r with
  | .inl q => some [(pc, lo, .inl q :: rest, cs, G, kc, ks)]
  | .inr b => if tb_wf G.length lo rest cs = true then some [(pc, lo, .inl (G.length, 0) :: rest, cs, G ++ [b], kc, ks)] else none
theorem tb_push_ok {p : Program} {l : Launch} {e : Env} {R : Room} {s : State} {m : MethodId} {args : Array Value} {below : List Frame} {meth : Method} {c : Code} {Q : State → Prop} {D : va_G} {dA : Nat → ClassId} {A : Nat → Prop} {nL : Nat} {cl : List vw_C} {n0 : Nat} {V0 : sa_V} {E : tb_E} {pc : Nat} {lo : sa_L} {rest : List sa_v} {cs : tb_c} {G : sa_B} {kc ks : Nat} {r : sa_r} {sts : List tb_S} {V : sa_V} {H : Heap} {locs : List Loc} {ls : Array Slot} {x : Int32}
    (hG : tb_G D dA A nL cl n0 V0 E s.heap V lo cs G H locs ls) (hr : sa_is V r x) (h : tb_push pc lo rest cs G kc ks r = some sts) (k : ∀ S' ∈ sts, tb_W p l e R s m args below meth c Q D dA A nL cl n0 V0 E S') : W p l e R s m args below meth c H locs kc ks Q (F0 m pc ls (.int x :: rest.map (sa_val V))) := by
  cases r with
  | inl q =>
    cases h
    have h1 := k _ List.mem_cons_self V H locs ls hG
    have h2 : sa_i V q = x := hr
    rw [← h2]
    exact h1
  | inr b =>
    unfold tb_push at h
    dsimp only at h
    split at h
    · rename_i hw
      cases h
      obtain ⟨g1, g2⟩ := tb_G_upd (x := (x.toInt, Int64.ofInt x.toInt, fun _ => 0, 0)) hG hw hr (tb_nx_int x)
      have h1 := k _ List.mem_cons_self _ H locs ls g1
      have h3 : (List.map (sa_val (sa_upd V G.length (x.toInt, Int64.ofInt x.toInt, fun _ => 0, 0))) (.inl (G.length, 0) :: rest)) = Value.int x :: rest.map (sa_val V) := by
        rw [List.map_cons, g2]
        congr 1
        show Value.int (sa_i _ _) = _
        rw [sa_i_new rfl]
      dsimp only at h1
      rw [h3] at h1
      exact h1
    · cases h
theorem tb_long_new {V : sa_V} {n : Nat} {x : Int64} : sa_val (sa_upd V n (x.toInt, Int64.ofInt x.toInt, fun _ => 0, 0)) (.inr (.inr n)) = .long x := by
  show Value.long (sa_upd V n _ n).2.1 = _
  rw [sa_upd_eq]
  show Value.long (Int64.ofInt x.toInt) = _
  rw [Int64.ofInt_toInt]
noncomputable def tb_pushl (pc : Nat) (lo : sa_L) (rest : List sa_v) (cs : tb_c) (G : sa_B) (kc ks : Nat) (b : Int × Int) : Option (List tb_S) :=
  if tb_wf G.length lo rest cs = true then some [(pc, lo, .inr (.inr G.length) :: rest, cs, G ++ [b], kc, ks)] else none
theorem tb_pushl_ok {p : Program} {l : Launch} {e : Env} {R : Room} {s : State} {m : MethodId} {args : Array Value} {below : List Frame} {meth : Method} {c : Code} {Q : State → Prop} {D : va_G} {dA : Nat → ClassId} {A : Nat → Prop} {nL : Nat} {cl : List vw_C} {n0 : Nat} {V0 : sa_V} {E : tb_E} {pc : Nat} {lo : sa_L} {rest : List sa_v} {cs : tb_c} {G : sa_B} {kc ks : Nat} {b : Int × Int} {sts : List tb_S} {V : sa_V} {H : Heap} {locs : List Loc} {ls : Array Slot} {x : Int64}
    (hG : tb_G D dA A nL cl n0 V0 E s.heap V lo cs G H locs ls) (hr : b.1 ≤ x.toInt ∧ x.toInt ≤ b.2) (h : tb_pushl pc lo rest cs G kc ks b = some sts) (k : ∀ S' ∈ sts, tb_W p l e R s m args below meth c Q D dA A nL cl n0 V0 E S') : W p l e R s m args below meth c H locs kc ks Q (F0 m pc ls (.long x :: rest.map (sa_val V))) := by
  unfold tb_pushl at h
  split at h
  · rename_i hw
    cases h
    obtain ⟨g1, g2⟩ := tb_G_upd (x := (x.toInt, Int64.ofInt x.toInt, fun _ => 0, 0)) hG hw hr (tb_nx_long x)
    have h1 := k _ List.mem_cons_self _ H locs ls g1
    dsimp only at h1
    rw [List.map_cons, g2, tb_long_new] at h1
    exact h1
  · cases h
end TY0
