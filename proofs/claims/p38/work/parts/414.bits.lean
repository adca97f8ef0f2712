section TYE
theorem tf_and_le {x y : Int32} (h : 0 ≤ y.toInt) : 0 ≤ (x &&& y).toInt ∧ (x &&& y).toInt ≤ y.toInt := by
  have h1 := Int32.toInt_lt y
  simp at h1
  have := sa_and_mask x (n := y.toInt) h (by omega)
  rw [Int32.ofInt_toInt] at this
  exact this
theorem tf_and_ones (x : Int32) : x &&& Int32.ofInt (-1) = x := by
  apply Int32.toBitVec_inj.mp
  rw [Int32.toBitVec_and, show (Int32.ofInt (-1)).toBitVec = BitVec.allOnes 32 from rfl, BitVec.and_allOnes]
noncomputable def tf_and (G : sa_B) (x y : Nat × Int) : Option sa_r := match sa_kv G x, sa_kv G y with
  | some a, some b => some (.inl (0, (Int32.ofInt a &&& Int32.ofInt b).toInt))
  | _, _ => match sa_iv G x, sa_iv G y with
    | some a, some b => if b.1 = -1 ∧ b.2 = -1 then some (.inl x) else if a.1 = -1 ∧ a.2 = -1 then some (.inl y) else if 0 ≤ a.1 ∧ 0 ≤ b.1 then some (.inr (0, min a.2 b.2)) else if 0 ≤ a.1 then some (.inr (0, a.2)) else if 0 ≤ b.1 then some (.inr (0, b.2)) else some sa_top
    | _, _ => some sa_top
theorem tf_and_ok : sa_bok tf_and (fun x y => x &&& y) := by
  intro V G x y r hI h
  unfold tf_and at h
  split at h
  · rename_i a b ha hb
    cases h
    rw [sa_kv_ok hI ha, sa_kv_ok hI hb]
    exact sa_is_c hI _
  · split at h
    · rename_i a b ha hb
      obtain ⟨e1, l1, u1⟩ := sa_iv_ok hI ha
      obtain ⟨e2, l2, u2⟩ := sa_iv_ok hI hb
      split at h
      · rename_i h1
        cases h
        show sa_i V x = sa_i V x &&& sa_i V y
        rw [← Int32.ofInt_toInt (sa_i V y), show (sa_i V y).toInt = -1 by omega, tf_and_ones]
      · split at h
        · rename_i h1
          cases h
          show sa_i V y = sa_i V x &&& sa_i V y
          rw [Int32.and_comm, ← Int32.ofInt_toInt (sa_i V x), show (sa_i V x).toInt = -1 by omega, tf_and_ones]
        · split at h
          · rename_i h1
            cases h
            obtain ⟨k1, k2⟩ := tf_and_le (x := sa_i V x) (y := sa_i V y) (by omega)
            obtain ⟨k3, k4⟩ := tf_and_le (x := sa_i V y) (y := sa_i V x) (by omega)
            rw [Int32.and_comm] at k4
            show 0 ≤ (sa_i V x &&& sa_i V y).toInt ∧ (sa_i V x &&& sa_i V y).toInt ≤ min a.2 b.2
            omega
          · split at h
            · cases h
              obtain ⟨k3, k4⟩ := tf_and_le (x := sa_i V y) (y := sa_i V x) (by omega)
              rw [Int32.and_comm] at k3 k4
              show 0 ≤ (sa_i V x &&& sa_i V y).toInt ∧ (sa_i V x &&& sa_i V y).toInt ≤ a.2
              omega
            · split at h
              · cases h
                obtain ⟨k1, k2⟩ := tf_and_le (x := sa_i V x) (y := sa_i V y) (by omega)
                show 0 ≤ (sa_i V x &&& sa_i V y).toInt ∧ (sa_i V x &&& sa_i V y).toInt ≤ b.2
                omega
              · cases h; exact sa_is_top V _
    · cases h; exact sa_is_top V _
/-- below a power of two -/
noncomputable def tf_pw (h : Int) : Nat → Nat → Option Nat
  | 0, _ => none
  | n + 1, k => if h < 2 ^ k then some k else tf_pw h n (k + 1)
theorem tf_pw_ok {h : Int} : ∀ {n k r : Nat}, tf_pw h n k = some r → h < 2 ^ r
  | 0, _, _, q => by cases q
  | n + 1, k, r, q => by
    unfold tf_pw at q
    split at q
    · rename_i h1
      cases q
      exact h1
    · exact tf_pw_ok q
theorem tf_nn {x : Int32} (h : 0 ≤ x.toInt) : x.toInt = (x.toBitVec.toNat : Int) := by
  show x.toBitVec.toInt = _
  have h1 : 0 ≤ x.toBitVec.toInt := h
  rw [BitVec.toInt_eq_toNat_of_lt]
  rw [BitVec.toInt_eq_toNat_cond] at h1
  split at h1
  · assumption
  · have := x.toBitVec.isLt
    omega
theorem tf_or_lt {x y : Int32} {k : Nat} (hk : k ≤ 31) (hx : 0 ≤ x.toInt) (hy : 0 ≤ y.toInt) (h1 : x.toInt < 2 ^ k) (h2 : y.toInt < 2 ^ k) : 0 ≤ (x ||| y).toInt ∧ (x ||| y).toInt < 2 ^ k := by
  rw [tf_nn hx] at h1
  rw [tf_nn hy] at h2
  have g1 : x.toBitVec.toNat < 2 ^ k := by exact_mod_cast h1
  have g2 : y.toBitVec.toNat < 2 ^ k := by exact_mod_cast h2
  have g3 : (x ||| y).toBitVec.toNat < 2 ^ k := by
    rw [Int32.toBitVec_or, BitVec.toNat_or]
    exact Nat.or_lt_two_pow g1 g2
  have g4 : 2 ^ k ≤ 2 ^ 31 := Nat.pow_le_pow_right (by decide) hk
  have g5 : (x ||| y).toInt = ((x ||| y).toBitVec.toNat : Int) := by
    show (x ||| y).toBitVec.toInt = _
    rw [BitVec.toInt_eq_toNat_of_lt]
    omega
  rw [g5]
  exact ⟨Int.natCast_nonneg _, by exact_mod_cast g3⟩
noncomputable def tf_or (G : sa_B) (x y : Nat × Int) : Option sa_r := match sa_kv G x, sa_kv G y with
  | some a, some b => some (.inl (0, (Int32.ofInt a ||| Int32.ofInt b).toInt))
  | _, _ => match sa_iv G x, sa_iv G y with
    | some a, some b => if 0 ≤ a.1 ∧ 0 ≤ b.1 then match tf_pw (max a.2 b.2) 32 0 with
      | some k => if k ≤ 31 then some (.inr (0, 2 ^ k - 1)) else some sa_top
      | none => some sa_top
      else some sa_top
    | _, _ => some sa_top
theorem tf_or_ok : sa_bok tf_or (fun x y => x ||| y) := by
  intro V G x y r hI h
  unfold tf_or at h
  split at h
  · rename_i a b ha hb
    cases h
    rw [sa_kv_ok hI ha, sa_kv_ok hI hb]
    exact sa_is_c hI _
  · split at h
    · rename_i a b ha hb
      obtain ⟨e1, l1, u1⟩ := sa_iv_ok hI ha
      obtain ⟨e2, l2, u2⟩ := sa_iv_ok hI hb
      split at h
      · split at h
        · rename_i k hk
          split at h
          · rename_i hk31
            cases h
            have hk := tf_pw_ok hk
            obtain ⟨g1, g2⟩ := tf_or_lt (x := sa_i V x) (y := sa_i V y) hk31 (by omega) (by omega) (by omega) (by omega)
            show 0 ≤ (sa_i V x ||| sa_i V y).toInt ∧ (sa_i V x ||| sa_i V y).toInt ≤ 2 ^ k - 1
            omega
          · cases h; exact sa_is_top V _
        · cases h; exact sa_is_top V _
      · cases h; exact sa_is_top V _
    · cases h; exact sa_is_top V _
/-- one, shifted -/
theorem tf_shl1 : ∀ n : Fin 31, ((1 : Int32) <<< (Int32.ofInt ((n : Nat) : Int) &&& 31)).toInt = ((2 ^ (n : Nat) : Nat) : Int) := by decide
noncomputable def tf_shl (G : sa_B) (x y : Nat × Int) : Option sa_r := match sa_kv G x, sa_kv G y with
  | some a, some b => some (.inl (0, (Int32.ofInt a <<< (Int32.ofInt b &&& 31)).toInt))
  | some a, none => match sa_iv G y with
    | some b => if a = 1 ∧ 0 ≤ b.1 ∧ b.2 ≤ 30 then some (.inr (((2 ^ b.1.toNat : Nat) : Int), ((2 ^ b.2.toNat : Nat) : Int))) else some sa_top
    | none => some sa_top
  | _, _ => some sa_top
theorem tf_shl_ok : sa_bok tf_shl (fun x y => x <<< (y &&& 31)) := by
  intro V G x y r hI h
  unfold tf_shl at h
  split at h
  · rename_i a b ha hb
    cases h
    rw [sa_kv_ok hI ha, sa_kv_ok hI hb]
    exact sa_is_c hI _
  · rename_i a ha hb
    split at h
    · rename_i b hb
      split at h
      · rename_i h1
        cases h
        obtain ⟨e2, l2, u2⟩ := sa_iv_ok hI hb
        have hn : (sa_i V y).toInt.toNat < 31 := by omega
        have h2 := tf_shl1 ⟨(sa_i V y).toInt.toNat, hn⟩
        dsimp only at h2
        rw [show (((sa_i V y).toInt.toNat : Nat) : Int) = (sa_i V y).toInt by omega, Int32.ofInt_toInt] at h2
        show _ ≤ (sa_i V x <<< (sa_i V y &&& 31)).toInt ∧ (sa_i V x <<< (sa_i V y &&& 31)).toInt ≤ _
        rw [sa_kv_ok hI ha, h1.1, show Int32.ofInt 1 = (1 : Int32) from rfl, h2]
        refine ⟨?_, ?_⟩
        · show ((2 ^ b.1.toNat : Nat) : Int) ≤ _
          exact_mod_cast Nat.pow_le_pow_right (by decide) (show b.1.toNat ≤ (sa_i V y).toInt.toNat by omega)
        · show _ ≤ ((2 ^ b.2.toNat : Nat) : Int)
          exact_mod_cast Nat.pow_le_pow_right (by decide) (show (sa_i V y).toInt.toNat ≤ b.2.toNat by omega)
      · cases h; exact sa_is_top V _
    · cases h; exact sa_is_top V _
  · cases h; exact sa_is_top V _
/-- shifted right by eight, without a sign -/
theorem tf_us8 (x : Int32) : 0 ≤ ((x.toUInt32 >>> ((Int32.ofInt 8).toUInt32 &&& Int32.toUInt32 31)).toInt32).toInt ∧ ((x.toUInt32 >>> ((Int32.ofInt 8).toUInt32 &&& Int32.toUInt32 31)).toInt32).toInt ≤ 16777215 := by
  have e1 : (Int32.ofInt 8).toUInt32 &&& Int32.toUInt32 31 = 8 := by decide
  rw [e1]
  have h1 : (x.toUInt32 >>> 8).toNat ≤ 16777215 := by
    have : (x.toUInt32 >>> (8 : UInt32)).toNat = x.toUInt32.toNat / 2 ^ 8 := by
      rw [UInt32.toNat_shiftRight]
      show x.toUInt32.toNat >>> (8 % 32) = _
      rw [Nat.shiftRight_eq_div_pow]
    have h3 := UInt32.toNat_lt x.toUInt32
    rw [this]
    omega
  have h2 : (x.toUInt32 >>> 8).toInt32.toInt = ((x.toUInt32 >>> 8).toNat : Int) := by
    show (x.toUInt32 >>> 8).toInt32.toBitVec.toInt = _
    rw [BitVec.toInt_eq_toNat_of_lt]
    · rfl
    · show 2 * (x.toUInt32 >>> 8).toNat < 2 ^ 32
      omega
  rw [h2]
  omega
noncomputable def tf_ushr (G : sa_B) (x y : Nat × Int) : Option sa_r := match sa_kv G x, sa_kv G y with
  | some a, some b => some (.inl (0, ((Int32.ofInt a).toUInt32 >>> ((Int32.ofInt b).toUInt32 &&& Int32.toUInt32 31)).toInt32.toInt))
  | none, some b => if b = 8 then some (.inr (0, 16777215)) else some sa_top
  | _, _ => some sa_top
theorem tf_ushr_ok : sa_bok tf_ushr (fun x y => (x.toUInt32 >>> (y.toUInt32 &&& Int32.toUInt32 31)).toInt32) := by
  intro V G x y r hI h
  unfold tf_ushr at h
  split at h
  · rename_i a b ha hb
    cases h
    rw [sa_kv_ok hI ha, sa_kv_ok hI hb]
    exact sa_is_c hI _
  · rename_i b ha hb
    split at h
    · rename_i h1
      cases h
      rw [sa_kv_ok hI hb, h1]
      exact tf_us8 _
    · cases h; exact sa_is_top V _
  · cases h; exact sa_is_top V _
/-! with a relation beside the answer -/
noncomputable def to_rel (f : sa_B → Nat × Int → Nat × Int → Option sa_r) (d : Int) (ok : sa_B → Nat × Int → Nat × Int → Bool) : tb_op := fun S => match S.2.2.1 with
  | .inl y :: .inl x :: rest => match f S.2.2.2.2.1 x y with
    | some (.inr b) => if ok S.2.2.2.2.1 x y = true ∧ tb_wf S.2.2.2.2.1.length S.2.1 rest S.2.2.2.1 = true then some [(S.1 + 1, S.2.1, .inl (S.2.2.2.2.1.length, 0) :: rest, (S.2.2.2.1.1, S.2.2.2.1.2.1, S.2.2.2.1.2.2 ++ [([(y.1, -1), (S.2.2.2.2.1.length, 1)], y.2 + d)]), S.2.2.2.2.1 ++ [b], S.2.2.2.2.2)] else tb_push (S.1 + 1) S.2.1 rest S.2.2.2.1 S.2.2.2.2.1 S.2.2.2.2.2.1 S.2.2.2.2.2.2 (.inr b)
    | some r => tb_push (S.1 + 1) S.2.1 rest S.2.2.2.1 S.2.2.2.2.1 S.2.2.2.2.2.1 S.2.2.2.2.2.2 r
    | none => none
  | _ => none
theorem tb_rel_ok {p : Program} {l : Launch} {e : Env} {R : Room} {s : State} {m : MethodId} {args : Array Value} {below : List Frame} {meth : Method} {c : Code} {Q : State → Prop} {D : va_G} {dA : Nat → ClassId} {A : Nat → Prop} {nL : Nat} {cl : List vw_C} {n0 : Nat} {V0 : sa_V} {E : tb_E} {f : sa_B → Nat × Int → Nat × Int → Option sa_r} {d : Int} {ok : sa_B → Nat × Int → Nat × Int → Bool} {lo : sa_L} {cs : tb_c} {G : sa_B} {pc kc ks : Nat} {x y : Nat × Int} {rest : List sa_v} {sts : List tb_S} {V : sa_V} {H : Heap} {locs : List Loc} {ls : Array Slot} {r : Int32} (hG : tb_G D dA A nL cl n0 V0 E s.heap V lo cs G H locs ls) (hr : ∀ q, f G x y = some q → sa_is V q r) (hok : ok G x y = true → r.toInt ≤ (V y.1).1 + y.2 + d ∧ y.1 < G.length)
    (h : to_rel f d ok (pc, lo, .inl y :: .inl x :: rest, cs, G, kc, ks) = some sts) (k : ∀ S' ∈ sts, tb_W p l e R s m args below meth c Q D dA A nL cl n0 V0 E S') : W p l e R s m args below meth c H locs kc ks Q (F0 m (pc + 1) ls (.int r :: rest.map (sa_val V))) := by
  unfold to_rel at h
  dsimp only at h
  split at h
  · rename_i b hb
    have hrb := hr _ hb
    split at h
    · rename_i hh
      obtain ⟨h1, hw⟩ := hh
      cases h
      obtain ⟨k1, k2⟩ := hok h1
      obtain ⟨⟨g1, g2, ⟨w, m1, m2, m3, m4, m5, m6, m7⟩, g4, g5⟩, g6⟩ := tb_G_upd (x := (r.toInt, Int64.ofInt r.toInt, fun _ => 0, 0)) hG hw hrb (tb_nx_int r)
      have hw9 := k _ List.mem_cons_self _ H locs ls ⟨g1, g2, ⟨w, m1, m2, m3, m4, m5, m6, fun q hq => by
        rcases List.mem_append.mp hq with hq | hq
        · exact m7 q hq
        · rw [List.mem_singleton.mp hq]
          show -1 * (sa_upd V G.length (r.toInt, Int64.ofInt r.toInt, fun _ => 0, 0) y.1).1 + (1 * (sa_upd V G.length (r.toInt, Int64.ofInt r.toInt, fun _ => 0, 0) G.length).1 + 0) ≤ y.2 + d
          rw [sa_upd_ne k2, sa_upd_eq]
          show -1 * (V y.1).1 + (1 * r.toInt + 0) ≤ y.2 + d
          omega⟩, g4, g5⟩
      dsimp only at hw9
      rw [List.map_cons, g6] at hw9
      have e9 : sa_val (sa_upd V G.length (r.toInt, Int64.ofInt r.toInt, fun _ => 0, 0)) (.inl (G.length, 0)) = .int r := by
        show Value.int (sa_i _ _) = _
        rw [sa_i_new rfl]
      rw [e9] at hw9
      exact hw9
    · exact tb_push_ok hG hrb h k
  · rename_i r9 hr9
    exact tb_push_ok hG (hr _ hr9) h k
  · cases h
noncomputable def tf_oka (G : sa_B) (_ y : Nat × Int) : Bool := match sa_iv G y with
  | some b => decide (0 ≤ b.1)
  | none => false
noncomputable def tf_okr (G : sa_B) (x y : Nat × Int) : Bool := match sa_iv G x, sa_iv G y with
  | some a, some b => decide (0 ≤ a.1 ∧ 1 ≤ b.1)
  | _, _ => false
theorem tf_lt {G : sa_B} {q : Nat × Int} {b : Int × Int} (h : sa_iv G q = some b) : q.1 < G.length := by
  rw [sa_iv_eq] at h
  split at h
  · rename_i b' hb'
    exact (List.getElem?_eq_some_iff.mp hb').1
  · cases h
theorem tn_andL {p : Program} {l : Launch} {e : Env} {R : Room} {s : State} {m : MethodId} {args : Array Value} {below : List Frame} {meth : Method} {c : Code} {Q : State → Prop} {D : va_G} {dA : Nat → ClassId} {A : Nat → Prop} {nL : Nat} {cl : List vw_C} {n0 : Nat} {V0 : sa_V} {E : tb_E} {Ts : List Cond} {cc : ByteArray} {own : String} (C0 : sa_C p s m args c D dA A nL cl Ts cc own) {pc : Nat} (hd : decode cc pc = .ok (.iand, 1)) : tb_snd p l e R s m args below meth c Q D dA A nL cl n0 V0 E pc (to_rel tf_and 0 tf_oka) := by
  obtain ⟨hx, hb, hts, hown, hml, hK, hA⟩ := C0
  rintro ⟨pc, lo, st, cs, G, kc, ks⟩ sts rfl h k V H locs ls hG
  have h0 := h
  unfold to_rel at h
  dsimp only at h
  split at h
  · rename_i y x rest
    refine lv_iand hx hb hd (tb_rel_ok hG (fun q hq => tf_and_ok V G x y q hG.1.1 hq) (fun hok => ?_) h0 k)
    unfold tf_oka at hok
    split at hok
    · rename_i b hb9
      have hok := of_decide_eq_true hok
      obtain ⟨e2, l2, u2⟩ := sa_iv_ok hG.1.1 hb9
      have := (tf_and_le (x := sa_i V x) (y := sa_i V y) (by omega)).2
      exact ⟨by omega, tf_lt hb9⟩
    · cases hok
  · cases h
theorem tn_remL {p : Program} {l : Launch} {e : Env} {R : Room} {s : State} {m : MethodId} {args : Array Value} {below : List Frame} {meth : Method} {c : Code} {Q : State → Prop} {D : va_G} {dA : Nat → ClassId} {A : Nat → Prop} {nL : Nat} {cl : List vw_C} {n0 : Nat} {V0 : sa_V} {E : tb_E} {Ts : List Cond} {cc : ByteArray} {own : String} (C0 : sa_C p s m args c D dA A nL cl Ts cc own) {pc : Nat} (hd : decode cc pc = .ok (.irem, 1)) : tb_snd p l e R s m args below meth c Q D dA A nL cl n0 V0 E pc (to_rel tf_rem (-1) tf_okr) := by
  obtain ⟨hx, hb, hts, hown, hml, hK, hA⟩ := C0
  rintro ⟨pc, lo, st, cs, G, kc, ks⟩ sts rfl h k V H locs ls hG
  have h0 := h
  unfold to_rel at h
  dsimp only at h
  split at h
  · rename_i y x rest
    have hne : ¬ sa_i V y = 0 := by
      split at h
      · rename_i b hq
        exact (tf_rem_ok V G x y _ hG.1.1 hq).1
      · rename_i r9 _ hq
        exact (tf_rem_ok V G x y _ hG.1.1 hq).1
      · cases h
    refine lv_irem hx hb hd hne (tb_rel_ok hG (fun q hq => (tf_rem_ok V G x y q hG.1.1 hq).2) (fun hok => ?_) h0 k)
    unfold tf_okr at hok
    split at hok
    · rename_i a b ha9 hb9
      have hok := of_decide_eq_true hok
      obtain ⟨e1, l1, u1⟩ := sa_iv_ok hG.1.1 ha9
      obtain ⟨e2, l2, u2⟩ := sa_iv_ok hG.1.1 hb9
      have := Int.tmod_lt_of_pos (sa_i V x).toInt (show 0 < (sa_i V y).toInt by omega)
      rw [tf_remI (by omega)]
      exact ⟨by omega, tf_lt hb9⟩
    · cases hok
  · cases h
end TYE
