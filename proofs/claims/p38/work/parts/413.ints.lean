section TYD
noncomputable def tf_sh (G : sa_B) (x : Nat × Int) (a : Int) : sa_r := if (sa_iv G (x.1, x.2 + a)).isSome = true then .inl (x.1, x.2 + a) else sa_top
theorem tf_sh_ok {V : sa_V} {G : sa_B} (x : Nat × Int) (a : Int) : sa_is V (tf_sh G x a) (sa_i V x + Int32.ofInt a) := by
  unfold tf_sh
  split
  · show sa_i V _ = _
    rw [sa_i_add]
  · exact sa_is_top V _
noncomputable def tf_add (G : sa_B) (x y : Nat × Int) : Option sa_r :=
  if y.1 = 0 then some (tf_sh G x y.2) else if x.1 = 0 then some (tf_sh G y x.2) else match sa_kv G y with
  | some b => some (tf_sh G x b)
  | none => match sa_kv G x with
    | some a => some (tf_sh G y a)
    | none => sf_add G x y
theorem tf_add_ok : sa_bok tf_add (fun x y => x + y) := by
  intro V G x y r hI h
  unfold tf_add at h
  split at h
  · rename_i h1
    cases h
    rw [sa_k0 hI h1]
    exact tf_sh_ok x y.2
  · split at h
    · rename_i h1
      cases h
      rw [sa_k0 hI h1]
      show sa_is V _ (Int32.ofInt x.2 + sa_i V y)
      rw [Int32.add_comm]
      exact tf_sh_ok y x.2
    · split at h
      · rename_i b hb
        cases h
        rw [sa_kv_ok hI hb]
        exact tf_sh_ok x b
      · split at h
        · rename_i a ha
          cases h
          rw [sa_kv_ok hI ha]
          show sa_is V _ (Int32.ofInt a + sa_i V y)
          rw [Int32.add_comm]
          exact tf_sh_ok y a
        · exact sf_add_ok V G x y r hI h
/-- the difference, by bounds and relations -/
noncomputable def tb_lh (LC : List tb_l) (x y : Nat) : List tb_l → Int → Int
  | [], d => d
  | l :: r, d => if tb_ax (-1) l.1 (tb_ax 1 (tb_add y (-1) []) [(x, 1)]) = [] then tb_lh LC x y r (min d l.2) else tb_lh LC x y r d
theorem tb_lh_ok {V : sa_V} (h0 : (V 0).1 = 0) {LC : List tb_l} {x y : Nat} : ∀ (r : List tb_l) (d : Int), (∀ l ∈ r, tb_lo V l) → (V x).1 - (V y).1 ≤ d → (V x).1 - (V y).1 ≤ tb_lh LC x y r d
  | [], d, _, h => h
  | l :: r, d, hl, h => by
    unfold tb_lh
    split
    · rename_i h1
      have h2 := tb_ax_ev h0 (-1) (tb_ax 1 (tb_add y (-1) []) [(x, 1)]) l.1
      rw [h1, tb_ax_ev h0, tb_add_ev h0] at h2
      have h3 : tb_ev V [] = 0 := rfl
      have h4 : tb_ev V [(x, 1)] = 1 * (V x).1 + 0 := rfl
      have h5 : tb_ev V l.1 ≤ l.2 := hl l List.mem_cons_self
      rw [h3, h4] at h2
      refine tb_lh_ok h0 r _ (fun q hq => hl q (List.mem_cons_of_mem _ hq)) ?_
      have : (V x).1 - (V y).1 ≤ l.2 := by omega
      omega
    · exact tb_lh_ok h0 r d (fun q hq => hl q (List.mem_cons_of_mem _ hq)) h
noncomputable def tf_sub (LC : List tb_l) (G : sa_B) (x y : Nat × Int) : sa_r := match sa_kv G y with
  | some b => tf_sh G x (-b)
  | none => match sa_iv G x, sa_iv G y with
    | some a, some b => if x.1 = y.1 then (if -2147483648 ≤ x.2 - y.2 ∧ x.2 - y.2 ≤ 2147483647 then .inl (0, x.2 - y.2) else sa_top) else
        if -2147483648 ≤ max (a.1 - b.2) (x.2 - y.2 - tb_lh LC y.1 x.1 LC (b.2 - y.2 - (a.1 - x.2))) ∧ min (a.2 - b.1) (tb_lh LC x.1 y.1 LC (a.2 - x.2 - (b.1 - y.2)) + x.2 - y.2) ≤ 2147483647 then .inr (max (a.1 - b.2) (x.2 - y.2 - tb_lh LC y.1 x.1 LC (b.2 - y.2 - (a.1 - x.2))), min (a.2 - b.1) (tb_lh LC x.1 y.1 LC (a.2 - x.2 - (b.1 - y.2)) + x.2 - y.2)) else sa_top
    | _, _ => sa_top
theorem tf_sub_ok {V : sa_V} {G : sa_B} {LC : List tb_l} (hI : sa_I V G) (hL : ∀ l ∈ LC, tb_lo V l) (x y : Nat × Int) : sa_is V (tf_sub LC G x y) (sa_i V x - sa_i V y) := by
  unfold tf_sub
  split
  · rename_i b hb
    rw [sa_kv_ok hI hb, Int32.sub_eq_add_neg, ← Int32.ofInt_neg]
    exact tf_sh_ok x (-b)
  · split
    · rename_i a b ha hb
      obtain ⟨e1, l1, u1⟩ := sa_iv_ok hI ha
      obtain ⟨e2, l2, u2⟩ := sa_iv_ok hI hb
      have e3 : sa_i V x - sa_i V y = Int32.ofInt ((sa_i V x).toInt - (sa_i V y).toInt) := by
        conv => lhs; rw [← Int32.ofInt_toInt (sa_i V x), ← Int32.ofInt_toInt (sa_i V y), ← Int32.ofInt_sub]
      split
      · rename_i h1
        split
        · show sa_i V (0, x.2 - y.2) = _
          rw [sa_i_0 hI, e3]
          congr 1
          rw [e1, e2, h1]
          omega
        · exact sa_is_top V _
      · split
        · rename_i h2
          have k1 := tb_lh_ok (V := V) hI.2 (LC := LC) (x := x.1) (y := y.1) LC (a.2 - x.2 - (b.1 - y.2)) hL (by omega)
          have k2 := tb_lh_ok (V := V) hI.2 (LC := LC) (x := y.1) (y := x.1) LC (b.2 - y.2 - (a.1 - x.2)) hL (by omega)
          have e4 : (sa_i V x - sa_i V y).toInt = (sa_i V x).toInt - (sa_i V y).toInt := by
            rw [e3]
            exact sa_ofInt_toInt (by omega) (by omega)
          show _ ≤ (sa_i V x - sa_i V y).toInt ∧ (sa_i V x - sa_i V y).toInt ≤ _
          rw [e4]
          exact ⟨by show max _ _ ≤ _; omega, by show _ ≤ min _ _; omega⟩
        · exact sa_is_top V _
    · exact sa_is_top V _
noncomputable def to_sub : tb_op := fun S => match S.2.2.1 with
  | .inl y :: .inl x :: rest => tb_push (S.1 + 1) S.2.1 rest S.2.2.2.1 S.2.2.2.2.1 S.2.2.2.2.2.1 S.2.2.2.2.2.2 (tf_sub S.2.2.2.1.2.2 S.2.2.2.2.1 x y)
  | _ => none
theorem tn_sub {p : Program} {l : Launch} {e : Env} {R : Room} {s : State} {m : MethodId} {args : Array Value} {below : List Frame} {meth : Method} {c : Code} {Q : State → Prop} {D : va_G} {dA : Nat → ClassId} {A : Nat → Prop} {nL : Nat} {cl : List vw_C} {n0 : Nat} {V0 : sa_V} {E : tb_E} {Ts : List Cond} {cc : ByteArray} {own : String} (C0 : sa_C p s m args c D dA A nL cl Ts cc own) {pc : Nat} (hd : decode cc pc = .ok (.isub, 1)) : tb_snd p l e R s m args below meth c Q D dA A nL cl n0 V0 E pc to_sub := by
  obtain ⟨hx, hb, hts, hown, hml, hK, hA⟩ := C0
  rintro ⟨pc, lo, st, cs, G, kc, ks⟩ sts rfl h k V H locs ls hG
  unfold to_sub at h
  dsimp only at h
  split at h
  · rename_i y x rest
    obtain ⟨w, n1, n2, n3, n4, n5, n6, n7⟩ := hG.2.2.1
    exact lv_isub hx hb hd (tb_push_ok hG (tf_sub_ok hG.1.1 n7 x y) h k)
  · cases h
/-- one more or less in a local -/
noncomputable def to_inc (nL i : Nat) (n : Int) : tb_op := fun S => match sa_look i S.2.1 with
  | some (.inl q) => if i < nL then (if (sa_iv S.2.2.2.2.1 (q.1, q.2 + n)).isSome = true then some [(S.1 + 3, sa_set1 i (.inl (q.1, q.2 + n)) S.2.1, S.2.2)] else if tb_wf S.2.2.2.2.1.length S.2.1 S.2.2.1 S.2.2.2.1 = true then some [(S.1 + 3, sa_set1 i (.inl (S.2.2.2.2.1.length, 0)) S.2.1, S.2.2.1, S.2.2.2.1, S.2.2.2.2.1 ++ [(-2147483648, 2147483647)], S.2.2.2.2.2)] else none) else none
  | _ => none
theorem tn_inc {p : Program} {l : Launch} {e : Env} {R : Room} {s : State} {m : MethodId} {args : Array Value} {below : List Frame} {meth : Method} {c : Code} {Q : State → Prop} {D : va_G} {dA : Nat → ClassId} {A : Nat → Prop} {nL : Nat} {cl : List vw_C} {n0 : Nat} {V0 : sa_V} {E : tb_E} {Ts : List Cond} {cc : ByteArray} {own : String} (C0 : sa_C p s m args c D dA A nL cl Ts cc own) {pc : Nat} {i : Nat} {n : Int} (hd : decode cc pc = .ok (.iinc i n, 3)) : tb_snd p l e R s m args below meth c Q D dA A nL cl n0 V0 E pc (to_inc nL i n) := by
  obtain ⟨hx, hb, hts, hown, hml, hK, hA⟩ := C0
  rintro ⟨pc, lo, st, cs, G, kc, ks⟩ sts rfl h k V H locs ls hG
  unfold to_inc at h
  dsimp only at h
  split at h
  · rename_i q hq
    split at h
    · rename_i hi
      obtain ⟨kk, hk⟩ := List.getElem?_of_mem (show (i, Value.int (sa_i V q)) ∈ sa_lv V lo from List.mem_map.mpr ⟨(i, .inl q), sa_look_mem hq, rfl⟩)
      split at h
      · cases h
        exact lv_iinc hx hb hd hG.2.1 hk (sa_i_add V q n) hi (sa_set1_lv V _ (.inl (q.1, q.2 + n)) lo) (fun ls' hl' => k _ List.mem_cons_self V H locs ls' ⟨hG.1, hl', hG.2.2⟩)
      · split at h
        · rename_i hw
          cases h
          have ht := sa_is_top V (sa_i V q + Int32.ofInt n)
          obtain ⟨g1, g2⟩ := tb_G_upd (b := (-2147483648, 2147483647)) (x := ((sa_i V q + Int32.ofInt n).toInt, Int64.ofInt (sa_i V q + Int32.ofInt n).toInt, fun _ => 0, 0)) hG hw ht (tb_nx_int _)
          have hw1 := hw
          simp only [tb_wf_old, Bool.and_eq_true, decide_eq_true_eq] at hw1
          have e1 : sa_lv V lo = sa_lv (sa_upd V G.length ((sa_i V q + Int32.ofInt n).toInt, Int64.ofInt (sa_i V q + Int32.ofInt n).toInt, fun _ => 0, 0)) lo := (sa_lv_upd hw1.1.1.2).symm
          refine lv_iinc hx hb hd hG.2.1 hk (show sa_i V q + Int32.ofInt n = sa_i (sa_upd V G.length ((sa_i V q + Int32.ofInt n).toInt, Int64.ofInt (sa_i V q + Int32.ofInt n).toInt, fun _ => 0, 0)) (G.length, 0) from (sa_i_new rfl).symm) hi (lv' := sa_lv (sa_upd V G.length ((sa_i V q + Int32.ofInt n).toInt, Int64.ofInt (sa_i V q + Int32.ofInt n).toInt, fun _ => 0, 0)) (sa_set1 i (.inl (G.length, 0)) lo)) (by rw [e1]; exact sa_set1_lv _ _ (.inl (G.length, 0)) lo) (fun ls' hl' => ?_)
          have h9 := k _ List.mem_cons_self _ H locs ls' ⟨g1.1, hl', g1.2.2⟩
          dsimp only at h9
          rw [g2] at h9
          exact h9
        · cases h
    · cases h
  · cases h
/-! products, quotients, remainders -/
noncomputable def tf_mul (G : sa_B) (x y : Nat × Int) : Option sa_r := match sa_kv G x, sa_kv G y with
  | some a, some b => some (.inl (0, (Int32.ofInt a * Int32.ofInt b).toInt))
  | _, _ => match sa_iv G x, sa_iv G y with
    | some a, some b => if 0 ≤ a.1 ∧ 0 ≤ b.1 ∧ a.2 * b.2 ≤ 2147483647 then some (.inr (a.1 * b.1, a.2 * b.2)) else some sa_top
    | _, _ => some sa_top
theorem tf_mul_ok : sa_bok tf_mul (fun x y => x * y) := by
  intro V G x y r hI h
  unfold tf_mul at h
  split at h
  · rename_i a b ha hb
    cases h
    rw [sa_kv_ok hI ha, sa_kv_ok hI hb]
    exact sa_is_c hI _
  · split at h
    · rename_i a b ha hb
      split at h
      · rename_i h2
        cases h
        obtain ⟨e1, l1, u1⟩ := sa_iv_ok hI ha
        obtain ⟨e2, l2, u2⟩ := sa_iv_ok hI hb
        have k1 : a.1 * b.1 ≤ (sa_i V x).toInt * (sa_i V y).toInt := Int.mul_le_mul l1 l2 h2.2.1 (by omega)
        have k2 : (sa_i V x).toInt * (sa_i V y).toInt ≤ a.2 * b.2 := Int.mul_le_mul u1 u2 (by omega) (by omega)
        have k3 : 0 ≤ a.1 * b.1 := Int.mul_nonneg h2.1 h2.2.1
        have e3 : (sa_i V x * sa_i V y).toInt = (sa_i V x).toInt * (sa_i V y).toInt := by
          conv => lhs; rw [← Int32.ofInt_toInt (sa_i V x), ← Int32.ofInt_toInt (sa_i V y), ← Int32.ofInt_mul]
          exact sa_ofInt_toInt (by omega) (by omega)
        show _ ≤ (sa_i V x * sa_i V y).toInt ∧ (sa_i V x * sa_i V y).toInt ≤ _
        rw [e3]
        exact ⟨k1, k2⟩
      · cases h; exact sa_is_top V _
    · cases h; exact sa_is_top V _
theorem tf_ne0 {x : Int32} (h : ¬ x.toInt = 0) : ¬ x = 0 := fun z => h (by rw [z]; rfl)
theorem tf_divI {x y : Int32} (h : 1 ≤ y.toInt) : (x / y).toInt = x.toInt.tdiv y.toInt := Int32.toInt_div_of_ne_right x y (fun z => by rw [z] at h; exact absurd h (by decide))
noncomputable def tf_div (G : sa_B) (x y : Nat × Int) : Option sa_r := match sa_iv G x, sa_iv G y with
  | some a, some b => if b.1 ≤ 0 ∧ 0 ≤ b.2 then none else if b.1 = b.2 ∧ 1 ≤ b.1 then some (.inr (a.1.tdiv b.1, a.2.tdiv b.1)) else if 1 ≤ b.1 ∧ 0 ≤ a.1 then some (.inr (0, a.2)) else some sa_top
  | _, _ => none
theorem tf_div_ok : sa_bok0 tf_div (fun x y => x / y) := by
  intro V G x y r hI h
  unfold tf_div at h
  split at h
  · rename_i a b ha hb
    obtain ⟨e1, l1, u1⟩ := sa_iv_ok hI ha
    obtain ⟨e2, l2, u2⟩ := sa_iv_ok hI hb
    split at h
    · cases h
    · rename_i h1
      refine ⟨tf_ne0 (by omega), ?_⟩
      split at h
      · rename_i h2
        cases h
        show _ ≤ (sa_i V x / sa_i V y).toInt ∧ (sa_i V x / sa_i V y).toInt ≤ _
        rw [tf_divI (by omega), show (sa_i V y).toInt = b.1 by omega]
        exact ⟨Int.tdiv_le_tdiv (by omega) l1, Int.tdiv_le_tdiv (by omega) u1⟩
      · split at h
        · rename_i h3
          cases h
          show 0 ≤ (sa_i V x / sa_i V y).toInt ∧ (sa_i V x / sa_i V y).toInt ≤ a.2
          rw [tf_divI (by omega)]
          exact ⟨Int.tdiv_nonneg (by omega) (by omega), Int.le_trans (Int.tdiv_le_self _ (by omega)) u1⟩
        · cases h; exact sa_is_top V _
  · cases h
theorem tf_remI {x y : Int32} (h : 1 ≤ y.toInt) : (x - x / y * y).toInt = x.toInt.tmod y.toInt := by
  have h1 : x / y = Int32.ofInt (x.toInt.tdiv y.toInt) := by rw [← tf_divI h, Int32.ofInt_toInt]
  have h2 : x - x / y * y = Int32.ofInt (x.toInt - x.toInt.tdiv y.toInt * y.toInt) := by
    rw [Int32.ofInt_sub, Int32.ofInt_mul, ← h1, Int32.ofInt_toInt, Int32.ofInt_toInt]
  have h3 : x.toInt - x.toInt.tdiv y.toInt * y.toInt = x.toInt.tmod y.toInt := by
    rw [Int.tmod_def, Int.mul_comm]
  have h4 := Int.tmod_lt_of_pos x.toInt (show 0 < y.toInt by omega)
  have h5 := Int.lt_tmod_of_pos x.toInt (show 0 < y.toInt by omega)
  have h6 := Int32.toInt_lt y
  simp at h6
  rw [h2, h3]
  exact sa_ofInt_toInt (by omega) (by omega)
noncomputable def tf_rem (G : sa_B) (x y : Nat × Int) : Option sa_r := match sa_iv G x, sa_iv G y with
  | some a, some b => if b.1 ≤ 0 ∧ 0 ≤ b.2 then none else if a.1 = a.2 ∧ b.1 = b.2 ∧ 1 ≤ b.1 then some (.inr (a.1.tmod b.1, a.1.tmod b.1)) else if 1 ≤ b.1 then (if 0 ≤ a.1 then some (.inr (0, min a.2 (b.2 - 1))) else some (.inr (-(b.2 - 1), b.2 - 1))) else some sa_top
  | _, _ => none
theorem tf_rem_ok : sa_bok0 tf_rem (fun x y => x - x / y * y) := by
  intro V G x y r hI h
  unfold tf_rem at h
  split at h
  · rename_i a b ha hb
    obtain ⟨e1, l1, u1⟩ := sa_iv_ok hI ha
    obtain ⟨e2, l2, u2⟩ := sa_iv_ok hI hb
    split at h
    · cases h
    · rename_i h1
      refine ⟨tf_ne0 (by omega), ?_⟩
      split at h
      · rename_i h2
        cases h
        show _ ≤ (sa_i V x - sa_i V x / sa_i V y * sa_i V y).toInt ∧ (sa_i V x - sa_i V x / sa_i V y * sa_i V y).toInt ≤ _
        rw [tf_remI (by omega), show (sa_i V y).toInt = b.1 by omega, show (sa_i V x).toInt = a.1 by omega]
        exact ⟨Int.le_refl _, Int.le_refl _⟩
      · split at h
        · rename_i h3
          have h4 := Int.tmod_lt_of_pos (sa_i V x).toInt (show 0 < (sa_i V y).toInt by omega)
          have h5 := Int.lt_tmod_of_pos (sa_i V x).toInt (show 0 < (sa_i V y).toInt by omega)
          split at h
          · rename_i h6
            cases h
            have h7 := Int.tmod_nonneg (sa_i V y).toInt (show 0 ≤ (sa_i V x).toInt by omega)
            have h8 : (sa_i V x).toInt.tmod (sa_i V y).toInt ≤ (sa_i V x).toInt := by
              have := Int.tmod_def (sa_i V x).toInt (sa_i V y).toInt
              have h9 : 0 ≤ (sa_i V y).toInt * (sa_i V x).toInt.tdiv (sa_i V y).toInt := Int.mul_nonneg (by omega) (Int.tdiv_nonneg (by omega) (by omega))
              omega
            show 0 ≤ (sa_i V x - sa_i V x / sa_i V y * sa_i V y).toInt ∧ (sa_i V x - sa_i V x / sa_i V y * sa_i V y).toInt ≤ min a.2 (b.2 - 1)
            rw [tf_remI (by omega)]
            omega
          · cases h
            show -(b.2 - 1) ≤ (sa_i V x - sa_i V x / sa_i V y * sa_i V y).toInt ∧ (sa_i V x - sa_i V x / sa_i V y * sa_i V y).toInt ≤ b.2 - 1
            rw [tf_remI (by omega)]
            omega
        · cases h; exact sa_is_top V _
  · cases h
end TYD
