section SAL2
/-- the script: the first signs are its address, its length, its ints -/
def sa_V12 (b L : Nat) (xs : Nat → Int32) : sa_V := fun k => if k = 1 then (0, 0, fun _ => 0, b) else if k = 2 then ((L : Int), 0, fun _ => 0, 0) else if 3 ≤ k ∧ k < 9 then ((xs (k - 3)).toInt, 0, fun _ => 0, 0) else (0, 0, fun _ => 0, 0)
def so_sld2 : sa_op := fun S => match S.2.2.1 with
  | .inl x :: .inr (.inl (some 1)) :: rest => match sa_ixn S.2.2.2.2.1 x, S.2.2.2.2.1[2]? with
    | some j, some b => if j < 6 ∧ (j : Int) < b.1 then some [(S.1 + 1, S.2.1, .inl (3 + j, 0) :: rest, S.2.2.2)] else none
    | _, _ => none
  | _ => none
theorem sn_sld2 {p : Program} {l : Launch} {e : Env} {R : Room} {s : State} {m : MethodId} {args : Array Value} {below : List Frame} {meth : Method} {c : Code} {Q : State → Prop} {D : va_G} {dA : Nat → ClassId} {A : Nat → Prop} {nL : Nat} {cl : List vw_C} {Ts : List Cond} {cc : ByteArray} {own : String} (C0 : sa_C p s m args c D dA A nL cl Ts cc own) {pc b L : Nat} {xs : Nat → Int32} (hX : va_X b L xs s s.heap) (hbl : b < s.heap.size) (hbA : ¬ A b) (hd : decode cc pc = .ok (.iaload, 1)) : sa_snd p l e R s m args below meth c Q D dA A nL cl 9 (sa_V12 b L xs) pc so_sld2 := by
  obtain ⟨hx, hb, hts, hown, hml, hK, hA⟩ := C0
  rintro ⟨pc, lo, st, cs, G, kc, ks⟩ sts rfl h k V H locs ls hG
  unfold so_sld2 at h
  dsimp only at h
  split at h
  · rename_i x rest
    split at h
    · rename_i j bb hj hb2
      split at h
      · rename_i hh
        cases h
        obtain ⟨i1, i2⟩ := sa_ixk hG.1.1 hj
        have v1 : sa_ad V 1 = b := by
          show (V 1).2.2.2 = b
          rw [hG.1.2.2 1 (by decide)]
          rfl
        have v2 : (V 2).1 = (L : Int) := by rw [hG.1.2.2 2 (by decide)]; rfl
        have v3 : sa_i V (3 + j, 0) = xs j := by
          show Int32.ofInt ((V (3 + j)).1 + 0) = xs j
          rw [hG.1.2.2 (3 + j) (by omega)]
          show Int32.ofInt ((if 3 + j = 1 then _ else if 3 + j = 2 then _ else if 3 ≤ 3 + j ∧ 3 + j < 9 then _ else _ : sa_x).1 + 0) = xs j
          rw [if_neg (by omega), if_neg (by omega), if_pos (by omega), show 3 + j - 3 = j by omega, Int.add_zero, Int32.ofInt_toInt]
        have hjL : j < L := by
          have := (hG.1.1.1 2 bb hb2).1
          omega
        have h9 := k _ List.mem_cons_self V H locs ls hG
        have h8 : W p l e R s m args below meth c H locs kc ks Q (F0 m (pc + 1) ls (.int (xs (sa_i V x).toNatClampNeg) :: rest.map (sa_val V))) := by
          rw [i1, ← v3]
          exact h9
        show W p l e R s m args below meth c H locs kc ks Q (F0 m pc ls (.int (sa_i V x) :: .ref (sa_ad V 1) :: rest.map (sa_val V)))
        rw [v1]
        exact va_sld hx hb hX hbl hbA hG.2.2.2.2 (i2 L hjL) hd h8
      · cases h
    · cases h
  · cases h
def so_slen2 : sa_op := fun S => match S.2.2.1 with
  | .inr (.inl (some 1)) :: rest => some [(S.1 + 1, S.2.1, .inl (2, 0) :: rest, S.2.2.2)]
  | _ => none
theorem sn_slen2 {p : Program} {l : Launch} {e : Env} {R : Room} {s : State} {m : MethodId} {args : Array Value} {below : List Frame} {meth : Method} {c : Code} {Q : State → Prop} {D : va_G} {dA : Nat → ClassId} {A : Nat → Prop} {nL : Nat} {cl : List vw_C} {Ts : List Cond} {cc : ByteArray} {own : String} (C0 : sa_C p s m args c D dA A nL cl Ts cc own) {pc b L : Nat} {xs : Nat → Int32} (hX : va_X b L xs s s.heap) (hbl : b < s.heap.size) (hbA : ¬ A b) (hd : decode cc pc = .ok (.arraylength, 1)) : sa_snd p l e R s m args below meth c Q D dA A nL cl 9 (sa_V12 b L xs) pc so_slen2 := by
  obtain ⟨hx, hb, hts, hown, hml, hK, hA⟩ := C0
  rintro ⟨pc, lo, st, cs, G, kc, ks⟩ sts rfl h k V H locs ls hG
  unfold so_slen2 at h
  dsimp only at h
  split at h
  · rename_i rest
    cases h
    have v1 : sa_ad V 1 = b := by
      show (V 1).2.2.2 = b
      rw [hG.1.2.2 1 (by decide)]
      rfl
    have v2 : sa_i V (2, 0) = Int32.ofNat L := by
      show Int32.ofInt ((V 2).1 + 0) = _
      rw [hG.1.2.2 2 (by decide)]
      show Int32.ofInt ((L : Int) + 0) = _
      rw [Int.add_zero]
      exact Int32.ofInt_eq_ofNat
    have h9 := k _ List.mem_cons_self V H locs ls hG
    have h8 : W p l e R s m args below meth c H locs kc ks Q (F0 m (pc + 1) ls (.int (Int32.ofNat L) :: rest.map (sa_val V))) := by
      rw [← v2]
      exact h9
    show W p l e R s m args below meth c H locs kc ks Q (F0 m pc ls (.ref (sa_ad V 1) :: rest.map (sa_val V)))
    rw [v1]
    exact va_slen hx hb hX hbl hbA hG.2.2.2.2 hd h8
  · cases h
end SAL2
