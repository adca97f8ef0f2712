section TYF
/-! branches: two numbers on one sign -/
noncomputable def tr_s (f : Int → Int → Bool) (r : sa_R) : sa_R := fun G x y => if x.1 = y.1 ∧ (sa_iv G x).isSome = true ∧ (sa_iv G y).isSome = true then (if f x.2 y.2 = true then [G] else []) else r G x y
theorem tr_s_ok {f : Int → Int → Bool} {r : sa_R} {P : Int32 → Int32 → Prop} (hr : sa_rok r P) (hf : ∀ (u v : Int32) (z a b : Int), u.toInt = z + a → v.toInt = z + b → P u v → f a b = true) : sa_rok (tr_s f r) P := by
  intro V G x y hI hp
  unfold tr_s
  split
  · rename_i h1
    obtain ⟨h1, h2, h3⟩ := h1
    obtain ⟨a, ha⟩ := Option.isSome_iff_exists.mp h2
    obtain ⟨b, hb⟩ := Option.isSome_iff_exists.mp h3
    obtain ⟨e1, -, -⟩ := sa_iv_ok hI ha
    obtain ⟨e2, -, -⟩ := sa_iv_ok hI hb
    rw [if_pos (hf _ _ (V x.1).1 x.2 y.2 e1 (by rw [e2, h1]) hp)]
    exact ⟨G, List.mem_cons_self, hI, rfl⟩
  · exact hr V G x y hI hp
noncomputable def tr_lt : sa_R := tr_s (fun a b => decide (a < b)) sr_lt
noncomputable def tr_le : sa_R := tr_s (fun a b => decide (a ≤ b)) sr_le
noncomputable def tr_eq : sa_R := tr_s (fun a b => decide (a = b)) sr_eq
noncomputable def tr_ne0 : sa_R := fun G x y => match sa_kv G y with
  | some _ => sr_ne G x y
  | none => sr_ne G y x
noncomputable def tr_ne : sa_R := tr_s (fun a b => decide (¬ a = b)) tr_ne0
theorem tr_lt_ok : sa_rok tr_lt (fun x y => x < y) := tr_s_ok sr_lt_ok (fun u v z a b h1 h2 h => decide_eq_true (by rw [Int32.lt_iff_toInt_lt] at h; omega))
theorem tr_le_ok : sa_rok tr_le (fun x y => x ≤ y) := tr_s_ok sr_le_ok (fun u v z a b h1 h2 h => decide_eq_true (by rw [Int32.le_iff_toInt_le] at h; omega))
theorem tr_eq_ok : sa_rok tr_eq (fun x y => x = y) := tr_s_ok sr_eq_ok (fun u v z a b h1 h2 h => decide_eq_true (by rw [h] at h1; omega))
theorem tr_ne0_ok : sa_rok tr_ne0 (fun x y => ¬ x = y) := by
  intro V G x y hI hp
  unfold tr_ne0
  split
  · exact sr_ne_ok V G x y hI hp
  · exact sr_ne_ok V G y x hI (fun z => hp z.symm)
theorem tr_ne_ok : sa_rok tr_ne (fun x y => ¬ x = y) := tr_s_ok tr_ne0_ok (fun u v z a b h1 h2 h => decide_eq_true (fun q => h (Int32.toInt_inj.mp (by omega))))
theorem tr_nlt_ok : sa_rok (sr_flip tr_le) (fun x y => ¬ x < y) := fun V G x y hI hp => tr_le_ok V G y x hI (Int32.not_lt.mp hp)
theorem tr_nle_ok : sa_rok (sr_flip tr_lt) (fun x y => ¬ x ≤ y) := fun V G x y hI hp => tr_lt_ok V G y x hI (Int32.not_le.mp hp)
theorem tr_nle'_ok : sa_rok tr_lt (fun x y => ¬ y ≤ x) := fun V G x y hI hp => tr_lt_ok V G x y hI (Int32.not_le.mp hp)
theorem tr_nlt'_ok : sa_rok tr_le (fun x y => ¬ y < x) := fun V G x y hI hp => tr_le_ok V G x y hI (Int32.not_lt.mp hp)
theorem tr_flip_ok {r : sa_R} {P : Int32 → Int32 → Prop} (h : sa_rok r P) : sa_rok (sr_flip r) (fun x y => P y x) := fun V G x y hI hp => h V G y x hI hp
theorem tx_icmp_eq {p : Program} {l : Launch} {e : Env} {R : Room} {s : State} {m : MethodId} {args : Array Value} {below : List Frame} {meth : Method} {c : Code} {Q : State → Prop} {D : va_G} {dA : Nat → ClassId} {A : Nat → Prop} {nL : Nat} {cl : List vw_C} {n0 : Nat} {V0 : sa_V} {E : tb_E} {Ts : List Cond} {cc : ByteArray} {own : String} (C0 : sa_C p s m args c D dA A nL cl Ts cc own) {pc : Nat} {off : Int} {tgt : Nat} (hd : decode cc pc = .ok (.if_icmp .eq off, 3)) (ht : (pc : Int) + off = (tgt : Int)) : tb_snd p l e R s m args below meth c Q D dA A nL cl n0 V0 E pc (to_icmp tr_eq tr_ne tgt) := by
  obtain ⟨hx, hb, hts, hown, hml, hK, hA⟩ := C0
  rintro ⟨pc, lo, st, cs, G, kc, ks⟩ sts rfl h k V H locs ls hG
  unfold to_icmp at h
  dsimp only at h
  split at h
  · rename_i y x rest
    cases h
    exact lv_icmp_eq hx hb hd ht (fun hp => tb_br_ok tr_eq_ok hG hp (fun S' hS => k S' (List.mem_append_left _ hS))) (fun hp => tb_br_ok tr_ne_ok hG hp (fun S' hS => k S' (List.mem_append_right _ hS)))
  · cases h
theorem tx_if_eq {p : Program} {l : Launch} {e : Env} {R : Room} {s : State} {m : MethodId} {args : Array Value} {below : List Frame} {meth : Method} {c : Code} {Q : State → Prop} {D : va_G} {dA : Nat → ClassId} {A : Nat → Prop} {nL : Nat} {cl : List vw_C} {n0 : Nat} {V0 : sa_V} {E : tb_E} {Ts : List Cond} {cc : ByteArray} {own : String} (C0 : sa_C p s m args c D dA A nL cl Ts cc own) {pc : Nat} {off : Int} {tgt : Nat} (hd : decode cc pc = .ok (.ifCond .eq off, 3)) (ht : (pc : Int) + off = (tgt : Int)) : tb_snd p l e R s m args below meth c Q D dA A nL cl n0 V0 E pc (to_if tr_eq tr_ne tgt) := by
  obtain ⟨hx, hb, hts, hown, hml, hK, hA⟩ := C0
  rintro ⟨pc, lo, st, cs, G, kc, ks⟩ sts rfl h k V H locs ls hG
  unfold to_if at h
  dsimp only at h
  split at h
  · rename_i x rest
    cases h
    have e0 : sa_i V (0, 0) = 0 := (sa_i_0 hG.1.1 0).trans rfl
    exact lv_if_eq hx hb hd ht (fun hp => tb_br_ok tr_eq_ok hG (by rw [e0]; exact hp) (fun S' hS => k S' (List.mem_append_left _ hS))) (fun hp => tb_br_ok tr_ne_ok hG (by rw [e0]; exact hp) (fun S' hS => k S' (List.mem_append_right _ hS)))
  · cases h
theorem tx_icmp_ne {p : Program} {l : Launch} {e : Env} {R : Room} {s : State} {m : MethodId} {args : Array Value} {below : List Frame} {meth : Method} {c : Code} {Q : State → Prop} {D : va_G} {dA : Nat → ClassId} {A : Nat → Prop} {nL : Nat} {cl : List vw_C} {n0 : Nat} {V0 : sa_V} {E : tb_E} {Ts : List Cond} {cc : ByteArray} {own : String} (C0 : sa_C p s m args c D dA A nL cl Ts cc own) {pc : Nat} {off : Int} {tgt : Nat} (hd : decode cc pc = .ok (.if_icmp .ne off, 3)) (ht : (pc : Int) + off = (tgt : Int)) : tb_snd p l e R s m args below meth c Q D dA A nL cl n0 V0 E pc (to_icmp tr_ne tr_eq tgt) := by
  obtain ⟨hx, hb, hts, hown, hml, hK, hA⟩ := C0
  rintro ⟨pc, lo, st, cs, G, kc, ks⟩ sts rfl h k V H locs ls hG
  unfold to_icmp at h
  dsimp only at h
  split at h
  · rename_i y x rest
    cases h
    exact lv_icmp_ne hx hb hd ht (fun hp => tb_br_ok tr_ne_ok hG hp (fun S' hS => k S' (List.mem_append_left _ hS))) (fun hp => tb_br_ok tr_eq_ok hG hp (fun S' hS => k S' (List.mem_append_right _ hS)))
  · cases h
theorem tx_if_ne {p : Program} {l : Launch} {e : Env} {R : Room} {s : State} {m : MethodId} {args : Array Value} {below : List Frame} {meth : Method} {c : Code} {Q : State → Prop} {D : va_G} {dA : Nat → ClassId} {A : Nat → Prop} {nL : Nat} {cl : List vw_C} {n0 : Nat} {V0 : sa_V} {E : tb_E} {Ts : List Cond} {cc : ByteArray} {own : String} (C0 : sa_C p s m args c D dA A nL cl Ts cc own) {pc : Nat} {off : Int} {tgt : Nat} (hd : decode cc pc = .ok (.ifCond .ne off, 3)) (ht : (pc : Int) + off = (tgt : Int)) : tb_snd p l e R s m args below meth c Q D dA A nL cl n0 V0 E pc (to_if tr_ne tr_eq tgt) := by
  obtain ⟨hx, hb, hts, hown, hml, hK, hA⟩ := C0
  rintro ⟨pc, lo, st, cs, G, kc, ks⟩ sts rfl h k V H locs ls hG
  unfold to_if at h
  dsimp only at h
  split at h
  · rename_i x rest
    cases h
    have e0 : sa_i V (0, 0) = 0 := (sa_i_0 hG.1.1 0).trans rfl
    exact lv_if_ne hx hb hd ht (fun hp => tb_br_ok tr_ne_ok hG (by rw [e0]; exact hp) (fun S' hS => k S' (List.mem_append_left _ hS))) (fun hp => tb_br_ok tr_eq_ok hG (by rw [e0]; exact hp) (fun S' hS => k S' (List.mem_append_right _ hS)))
  · cases h
theorem tx_icmp_lt {p : Program} {l : Launch} {e : Env} {R : Room} {s : State} {m : MethodId} {args : Array Value} {below : List Frame} {meth : Method} {c : Code} {Q : State → Prop} {D : va_G} {dA : Nat → ClassId} {A : Nat → Prop} {nL : Nat} {cl : List vw_C} {n0 : Nat} {V0 : sa_V} {E : tb_E} {Ts : List Cond} {cc : ByteArray} {own : String} (C0 : sa_C p s m args c D dA A nL cl Ts cc own) {pc : Nat} {off : Int} {tgt : Nat} (hd : decode cc pc = .ok (.if_icmp .lt off, 3)) (ht : (pc : Int) + off = (tgt : Int)) : tb_snd p l e R s m args below meth c Q D dA A nL cl n0 V0 E pc (to_icmp tr_lt (sr_flip tr_le) tgt) := by
  obtain ⟨hx, hb, hts, hown, hml, hK, hA⟩ := C0
  rintro ⟨pc, lo, st, cs, G, kc, ks⟩ sts rfl h k V H locs ls hG
  unfold to_icmp at h
  dsimp only at h
  split at h
  · rename_i y x rest
    cases h
    exact lv_icmp_lt hx hb hd ht (fun hp => tb_br_ok tr_lt_ok hG hp (fun S' hS => k S' (List.mem_append_left _ hS))) (fun hp => tb_br_ok tr_nlt_ok hG hp (fun S' hS => k S' (List.mem_append_right _ hS)))
  · cases h
theorem tx_if_lt {p : Program} {l : Launch} {e : Env} {R : Room} {s : State} {m : MethodId} {args : Array Value} {below : List Frame} {meth : Method} {c : Code} {Q : State → Prop} {D : va_G} {dA : Nat → ClassId} {A : Nat → Prop} {nL : Nat} {cl : List vw_C} {n0 : Nat} {V0 : sa_V} {E : tb_E} {Ts : List Cond} {cc : ByteArray} {own : String} (C0 : sa_C p s m args c D dA A nL cl Ts cc own) {pc : Nat} {off : Int} {tgt : Nat} (hd : decode cc pc = .ok (.ifCond .lt off, 3)) (ht : (pc : Int) + off = (tgt : Int)) : tb_snd p l e R s m args below meth c Q D dA A nL cl n0 V0 E pc (to_if tr_lt (sr_flip tr_le) tgt) := by
  obtain ⟨hx, hb, hts, hown, hml, hK, hA⟩ := C0
  rintro ⟨pc, lo, st, cs, G, kc, ks⟩ sts rfl h k V H locs ls hG
  unfold to_if at h
  dsimp only at h
  split at h
  · rename_i x rest
    cases h
    have e0 : sa_i V (0, 0) = 0 := (sa_i_0 hG.1.1 0).trans rfl
    exact lv_if_lt hx hb hd ht (fun hp => tb_br_ok tr_lt_ok hG (by rw [e0]; exact hp) (fun S' hS => k S' (List.mem_append_left _ hS))) (fun hp => tb_br_ok tr_nlt_ok hG (by rw [e0]; exact hp) (fun S' hS => k S' (List.mem_append_right _ hS)))
  · cases h
theorem tx_icmp_ge {p : Program} {l : Launch} {e : Env} {R : Room} {s : State} {m : MethodId} {args : Array Value} {below : List Frame} {meth : Method} {c : Code} {Q : State → Prop} {D : va_G} {dA : Nat → ClassId} {A : Nat → Prop} {nL : Nat} {cl : List vw_C} {n0 : Nat} {V0 : sa_V} {E : tb_E} {Ts : List Cond} {cc : ByteArray} {own : String} (C0 : sa_C p s m args c D dA A nL cl Ts cc own) {pc : Nat} {off : Int} {tgt : Nat} (hd : decode cc pc = .ok (.if_icmp .ge off, 3)) (ht : (pc : Int) + off = (tgt : Int)) : tb_snd p l e R s m args below meth c Q D dA A nL cl n0 V0 E pc (to_icmp (sr_flip tr_le) tr_lt tgt) := by
  obtain ⟨hx, hb, hts, hown, hml, hK, hA⟩ := C0
  rintro ⟨pc, lo, st, cs, G, kc, ks⟩ sts rfl h k V H locs ls hG
  unfold to_icmp at h
  dsimp only at h
  split at h
  · rename_i y x rest
    cases h
    exact lv_icmp_ge hx hb hd ht (fun hp => tb_br_ok (tr_flip_ok tr_le_ok) hG hp (fun S' hS => k S' (List.mem_append_left _ hS))) (fun hp => tb_br_ok tr_nle'_ok hG hp (fun S' hS => k S' (List.mem_append_right _ hS)))
  · cases h
theorem tx_if_ge {p : Program} {l : Launch} {e : Env} {R : Room} {s : State} {m : MethodId} {args : Array Value} {below : List Frame} {meth : Method} {c : Code} {Q : State → Prop} {D : va_G} {dA : Nat → ClassId} {A : Nat → Prop} {nL : Nat} {cl : List vw_C} {n0 : Nat} {V0 : sa_V} {E : tb_E} {Ts : List Cond} {cc : ByteArray} {own : String} (C0 : sa_C p s m args c D dA A nL cl Ts cc own) {pc : Nat} {off : Int} {tgt : Nat} (hd : decode cc pc = .ok (.ifCond .ge off, 3)) (ht : (pc : Int) + off = (tgt : Int)) : tb_snd p l e R s m args below meth c Q D dA A nL cl n0 V0 E pc (to_if (sr_flip tr_le) tr_lt tgt) := by
  obtain ⟨hx, hb, hts, hown, hml, hK, hA⟩ := C0
  rintro ⟨pc, lo, st, cs, G, kc, ks⟩ sts rfl h k V H locs ls hG
  unfold to_if at h
  dsimp only at h
  split at h
  · rename_i x rest
    cases h
    have e0 : sa_i V (0, 0) = 0 := (sa_i_0 hG.1.1 0).trans rfl
    exact lv_if_ge hx hb hd ht (fun hp => tb_br_ok (tr_flip_ok tr_le_ok) hG (by rw [e0]; exact hp) (fun S' hS => k S' (List.mem_append_left _ hS))) (fun hp => tb_br_ok tr_nle'_ok hG (by rw [e0]; exact hp) (fun S' hS => k S' (List.mem_append_right _ hS)))
  · cases h
theorem tx_icmp_gt {p : Program} {l : Launch} {e : Env} {R : Room} {s : State} {m : MethodId} {args : Array Value} {below : List Frame} {meth : Method} {c : Code} {Q : State → Prop} {D : va_G} {dA : Nat → ClassId} {A : Nat → Prop} {nL : Nat} {cl : List vw_C} {n0 : Nat} {V0 : sa_V} {E : tb_E} {Ts : List Cond} {cc : ByteArray} {own : String} (C0 : sa_C p s m args c D dA A nL cl Ts cc own) {pc : Nat} {off : Int} {tgt : Nat} (hd : decode cc pc = .ok (.if_icmp .gt off, 3)) (ht : (pc : Int) + off = (tgt : Int)) : tb_snd p l e R s m args below meth c Q D dA A nL cl n0 V0 E pc (to_icmp (sr_flip tr_lt) tr_le tgt) := by
  obtain ⟨hx, hb, hts, hown, hml, hK, hA⟩ := C0
  rintro ⟨pc, lo, st, cs, G, kc, ks⟩ sts rfl h k V H locs ls hG
  unfold to_icmp at h
  dsimp only at h
  split at h
  · rename_i y x rest
    cases h
    exact lv_icmp_gt hx hb hd ht (fun hp => tb_br_ok (tr_flip_ok tr_lt_ok) hG hp (fun S' hS => k S' (List.mem_append_left _ hS))) (fun hp => tb_br_ok tr_nlt'_ok hG hp (fun S' hS => k S' (List.mem_append_right _ hS)))
  · cases h
theorem tx_if_gt {p : Program} {l : Launch} {e : Env} {R : Room} {s : State} {m : MethodId} {args : Array Value} {below : List Frame} {meth : Method} {c : Code} {Q : State → Prop} {D : va_G} {dA : Nat → ClassId} {A : Nat → Prop} {nL : Nat} {cl : List vw_C} {n0 : Nat} {V0 : sa_V} {E : tb_E} {Ts : List Cond} {cc : ByteArray} {own : String} (C0 : sa_C p s m args c D dA A nL cl Ts cc own) {pc : Nat} {off : Int} {tgt : Nat} (hd : decode cc pc = .ok (.ifCond .gt off, 3)) (ht : (pc : Int) + off = (tgt : Int)) : tb_snd p l e R s m args below meth c Q D dA A nL cl n0 V0 E pc (to_if (sr_flip tr_lt) tr_le tgt) := by
  obtain ⟨hx, hb, hts, hown, hml, hK, hA⟩ := C0
  rintro ⟨pc, lo, st, cs, G, kc, ks⟩ sts rfl h k V H locs ls hG
  unfold to_if at h
  dsimp only at h
  split at h
  · rename_i x rest
    cases h
    have e0 : sa_i V (0, 0) = 0 := (sa_i_0 hG.1.1 0).trans rfl
    exact lv_if_gt hx hb hd ht (fun hp => tb_br_ok (tr_flip_ok tr_lt_ok) hG (by rw [e0]; exact hp) (fun S' hS => k S' (List.mem_append_left _ hS))) (fun hp => tb_br_ok tr_nlt'_ok hG (by rw [e0]; exact hp) (fun S' hS => k S' (List.mem_append_right _ hS)))
  · cases h
theorem tx_icmp_le {p : Program} {l : Launch} {e : Env} {R : Room} {s : State} {m : MethodId} {args : Array Value} {below : List Frame} {meth : Method} {c : Code} {Q : State → Prop} {D : va_G} {dA : Nat → ClassId} {A : Nat → Prop} {nL : Nat} {cl : List vw_C} {n0 : Nat} {V0 : sa_V} {E : tb_E} {Ts : List Cond} {cc : ByteArray} {own : String} (C0 : sa_C p s m args c D dA A nL cl Ts cc own) {pc : Nat} {off : Int} {tgt : Nat} (hd : decode cc pc = .ok (.if_icmp .le off, 3)) (ht : (pc : Int) + off = (tgt : Int)) : tb_snd p l e R s m args below meth c Q D dA A nL cl n0 V0 E pc (to_icmp tr_le (sr_flip tr_lt) tgt) := by
  obtain ⟨hx, hb, hts, hown, hml, hK, hA⟩ := C0
  rintro ⟨pc, lo, st, cs, G, kc, ks⟩ sts rfl h k V H locs ls hG
  unfold to_icmp at h
  dsimp only at h
  split at h
  · rename_i y x rest
    cases h
    exact lv_icmp_le hx hb hd ht (fun hp => tb_br_ok tr_le_ok hG hp (fun S' hS => k S' (List.mem_append_left _ hS))) (fun hp => tb_br_ok tr_nle_ok hG hp (fun S' hS => k S' (List.mem_append_right _ hS)))
  · cases h
theorem tx_if_le {p : Program} {l : Launch} {e : Env} {R : Room} {s : State} {m : MethodId} {args : Array Value} {below : List Frame} {meth : Method} {c : Code} {Q : State → Prop} {D : va_G} {dA : Nat → ClassId} {A : Nat → Prop} {nL : Nat} {cl : List vw_C} {n0 : Nat} {V0 : sa_V} {E : tb_E} {Ts : List Cond} {cc : ByteArray} {own : String} (C0 : sa_C p s m args c D dA A nL cl Ts cc own) {pc : Nat} {off : Int} {tgt : Nat} (hd : decode cc pc = .ok (.ifCond .le off, 3)) (ht : (pc : Int) + off = (tgt : Int)) : tb_snd p l e R s m args below meth c Q D dA A nL cl n0 V0 E pc (to_if tr_le (sr_flip tr_lt) tgt) := by
  obtain ⟨hx, hb, hts, hown, hml, hK, hA⟩ := C0
  rintro ⟨pc, lo, st, cs, G, kc, ks⟩ sts rfl h k V H locs ls hG
  unfold to_if at h
  dsimp only at h
  split at h
  · rename_i x rest
    cases h
    have e0 : sa_i V (0, 0) = 0 := (sa_i_0 hG.1.1 0).trans rfl
    exact lv_if_le hx hb hd ht (fun hp => tb_br_ok tr_le_ok hG (by rw [e0]; exact hp) (fun S' hS => k S' (List.mem_append_left _ hS))) (fun hp => tb_br_ok tr_nle_ok hG (by rw [e0]; exact hp) (fun S' hS => k S' (List.mem_append_right _ hS)))
  · cases h
/-- a table by keys -/
noncomputable def tb_lk (S : tb_S) (x : Nat × Int) (rest : List sa_v) (pc : Nat) : List (Int × Int) → Option (List tb_S)
  | [] => some []
  | q :: l => match tb_lk S x rest pc l with
    | some r => if 0 ≤ (pc : Int) + q.2 ∧ -2147483648 ≤ q.1 ∧ q.1 ≤ 2147483647 then some (tb_br tr_eq S x (0, q.1) ((pc : Int) + q.2).toNat rest ++ r) else none
    | none => none
noncomputable def to_lsw (ps : List (Int × Int)) (dflt : Int) : tb_op := fun S => match S.2.2.1 with
  | .inl x :: rest => match tb_lk S x rest S.1 ps with
    | some r => if 0 ≤ (S.1 : Int) + dflt then some ((match sa_kv S.2.2.2.2.1 x with
      | some a => if ps.any (fun q => decide (q.1 = a)) = true then [] else [(((S.1 : Int) + dflt).toNat, S.2.1, rest, S.2.2.2)]
      | none => [(((S.1 : Int) + dflt).toNat, S.2.1, rest, S.2.2.2)]) ++ r) else none
    | none => none
  | _ => none
theorem tb_lk_ok {S : tb_S} {x : Nat × Int} {rest : List sa_v} {pc : Nat} {z : Int} : ∀ {ps : List (Int × Int)} {r : List tb_S} {dflt : Int}, tb_lk S x rest pc ps = some r → (Op.lookupswitch.offset ps dflt z = dflt ∧ ¬ (ps.any (fun q => decide (q.1 = z)) = true)) ∨ (0 ≤ (pc : Int) + Op.lookupswitch.offset ps dflt z ∧ -2147483648 ≤ z ∧ z ≤ 2147483647 ∧ ∀ S' ∈ tb_br tr_eq S x (0, z) ((pc : Int) + Op.lookupswitch.offset ps dflt z).toNat rest, S' ∈ r)
  | [], r, dflt, h => Or.inl ⟨rfl, by simp⟩
  | q :: l, r, dflt, h => by
    unfold tb_lk at h
    split at h
    · rename_i r' hr
      split at h
      · rename_i h1
        cases h
        obtain ⟨a, o⟩ := q
        rw [Op.lookupswitch.offset_cons]
        by_cases ha : a = z
        · rw [if_pos ha]
          subst ha
          exact Or.inr ⟨h1.1, h1.2.1, h1.2.2, fun S' hS => List.mem_append_left _ hS⟩
        · rw [if_neg ha]
          rcases tb_lk_ok (dflt := dflt) hr with ⟨g1, g2⟩ | ⟨g1, g2, g3, g4⟩
          · exact Or.inl ⟨g1, by simpa [ha] using g2⟩
          · exact Or.inr ⟨g1, g2, g3, fun S' hS => List.mem_append_right _ (g4 S' hS)⟩
      · cases h
    · cases h
theorem tn_lsw {p : Program} {l : Launch} {e : Env} {R : Room} {s : State} {m : MethodId} {args : Array Value} {below : List Frame} {meth : Method} {c : Code} {Q : State → Prop} {D : va_G} {dA : Nat → ClassId} {A : Nat → Prop} {nL : Nat} {cl : List vw_C} {n0 : Nat} {V0 : sa_V} {E : tb_E} {Ts : List Cond} {cc : ByteArray} {own : String} (C0 : sa_C p s m args c D dA A nL cl Ts cc own) {pc : Nat} {dflt : Int} {ps : Array (Int × Int)} {len : Nat} (hd : decode cc pc = .ok (.lookupswitch dflt ps, len)) (hp : (ps.toList.zip (ps.toList.drop 1)).all (fun (a, next) => a.1 < next.1) = true) : tb_snd p l e R s m args below meth c Q D dA A nL cl n0 V0 E pc (to_lsw ps.toList dflt) := by
  obtain ⟨hx, hb, hts, hown, hml, hK, hA⟩ := C0
  rintro ⟨pc, lo, st, cs, G, kc, ks⟩ sts rfl h k V H locs ls hG
  unfold to_lsw at h
  dsimp only at h
  split at h
  · rename_i x rest
    split at h
    · rename_i r hr
      split at h
      · rename_i h0
        cases h
        rcases tb_lk_ok (z := (sa_i V x).toInt) (dflt := dflt) hr with ⟨g1, g2⟩ | ⟨g1, g2, g3, g4⟩
        · refine lv_lookup (x := sa_i V x) (tgt := ((pc : Int) + dflt).toNat) hx hb hd hp g1 (by omega) ?_
          refine k (((pc : Int) + dflt).toNat, lo, rest, cs, G, kc, ks) (List.mem_append_left _ ?_) V H locs ls hG
          split
          · rename_i a ha
            rw [if_neg]
            · exact List.mem_cons_self
            · rw [sa_kv_ok hG.1.1 ha] at g2
              rw [sa_kv_eq] at ha
              split at ha
              · rename_i b hb9
                split at ha
                · cases ha
                  obtain ⟨e1, l1, u1⟩ := sa_iv_ok hG.1.1 hb9
                  have hr1 := Int32.le_toInt (sa_i V x)
                  have hr2 := Int32.toInt_lt (sa_i V x)
                  simp at hr1 hr2
                  rw [sa_ofInt_toInt (by omega) (by omega)] at g2
                  exact g2
                · cases ha
              · cases ha
          · exact List.mem_cons_self
        · refine lv_lookup (x := sa_i V x) (tgt := ((pc : Int) + Op.lookupswitch.offset ps.toList dflt (sa_i V x).toInt).toNat) hx hb hd hp rfl (by omega) ?_
          refine tb_br_ok (st := .inl x :: rest) (pc0 := pc) (y := (0, (sa_i V x).toInt)) tr_eq_ok hG ?_ (fun S' hS => k S' (List.mem_append_right _ (g4 S' hS)))
          show sa_i V x = sa_i V _
          rw [sa_i_0 hG.1.1, Int32.ofInt_toInt]
      · cases h
    · cases h
  · cases h
noncomputable def to_i2b : tb_op := fun S => match S.2.2.1 with
  | .inl x :: rest => tb_push (S.1 + 1) S.2.1 rest S.2.2.2.1 S.2.2.2.2.1 S.2.2.2.2.2.1 S.2.2.2.2.2.2 (.inr (-128, 127))
  | _ => none
theorem tn_i2b {p : Program} {l : Launch} {e : Env} {R : Room} {s : State} {m : MethodId} {args : Array Value} {below : List Frame} {meth : Method} {c : Code} {Q : State → Prop} {D : va_G} {dA : Nat → ClassId} {A : Nat → Prop} {nL : Nat} {cl : List vw_C} {n0 : Nat} {V0 : sa_V} {E : tb_E} {Ts : List Cond} {cc : ByteArray} {own : String} (C0 : sa_C p s m args c D dA A nL cl Ts cc own) {pc : Nat}  (hd : decode cc pc = .ok (.i2b, 1)) : tb_snd p l e R s m args below meth c Q D dA A nL cl n0 V0 E pc to_i2b := by
  obtain ⟨hx, hb, hts, hown, hml, hK, hA⟩ := C0
  rintro ⟨pc, lo, st, cs, G, kc, ks⟩ sts rfl h k V H locs ls hG
  unfold to_i2b at h
  dsimp only at h
  split at h
  · rename_i x rest
    refine lv_i2b (v := (sa_i V x).toInt8.toInt32) hx hb hd rfl (tb_push_ok hG ?_ h k)
    refine ⟨?_, ?_⟩
    · show -128 ≤ (sa_i V x).toInt8.toInt32.toInt
      rw [Int8.toInt_toInt32]
      exact Int8.le_toInt _
    · show (sa_i V x).toInt8.toInt32.toInt ≤ 127
      rw [Int8.toInt_toInt32]
      have := Int8.toInt_lt (sa_i V x).toInt8
      omega
  · cases h
/-! longs -/
noncomputable def tb_ltop : Int × Int := (-9223372036854775808, 9223372036854775807)
theorem tb_ltop_ok (x : Int64) : tb_ltop.1 ≤ x.toInt ∧ x.toInt ≤ tb_ltop.2 := by
  have h1 := Int64.le_toInt x
  have h2 := Int64.toInt_lt x
  unfold tb_ltop
  simp at h1 h2
  dsimp only
  omega
/-- bounds of a long -/
noncomputable def tb_lb (G : sa_B) (j : Nat) : Option (Int × Int) := match G[j]? with
  | some b => if -9223372036854775808 ≤ b.1 ∧ b.2 ≤ 9223372036854775807 then some b else none
  | none => none
theorem tb_lb_ok {E : tb_E} {V : sa_V} {G : sa_B} {j : Nat} {b : Int × Int} (hI : sa_I V G) (hX : tb_X E V) (h : tb_lb G j = some b) : b.1 ≤ (V j).2.1.toInt ∧ (V j).2.1.toInt ≤ b.2 := by
  unfold tb_lb at h
  split at h
  · rename_i b' hb'
    split at h
    · rename_i h1
      cases h
      obtain ⟨g1, g2⟩ := hI.1 _ _ hb'
      rw [tb_long_val hX (by omega) (by omega)]
      exact ⟨g1, g2⟩
    · cases h
  · cases h
noncomputable def tb_lr (lo hi : Int) : Int × Int := if -9223372036854775808 ≤ lo ∧ hi ≤ 9223372036854775807 then (lo, hi) else tb_ltop
theorem tb_lr_ok {x : Int64} {lo hi z : Int} (hx : x = Int64.ofInt z) (h1 : lo ≤ z) (h2 : z ≤ hi) : (tb_lr lo hi).1 ≤ x.toInt ∧ x.toInt ≤ (tb_lr lo hi).2 := by
  unfold tb_lr
  split
  · rename_i h
    rw [hx, Int64.toInt_ofInt_of_le (by simp; omega) (by simp; omega)]
    exact ⟨h1, h2⟩
  · exact tb_ltop_ok x
noncomputable def to_lbin (f : Int × Int → Int × Int → Option (Int × Int)) : tb_op := fun S => match S.2.2.1 with
  | .inr (.inr y) :: .inr (.inr x) :: rest => match tb_lb S.2.2.2.2.1 x, tb_lb S.2.2.2.2.1 y with
    | some a, some b => match f a b with
      | some r => tb_pushl (S.1 + 1) S.2.1 rest S.2.2.2.1 S.2.2.2.2.1 S.2.2.2.2.2.1 S.2.2.2.2.2.2 r
      | none => none
    | _, _ => none
  | _ => none
noncomputable def tl_add (a b : Int × Int) : Option (Int × Int) := some (tb_lr (a.1 + b.1) (a.2 + b.2))
noncomputable def tl_sub (a b : Int × Int) : Option (Int × Int) := some (tb_lr (a.1 - b.2) (a.2 - b.1))
noncomputable def tl_mul (a b : Int × Int) : Option (Int × Int) := if 0 ≤ a.1 ∧ a.1 = a.2 then some (if 0 ≤ b.1 then tb_lr (a.1 * b.1) (a.1 * b.2) else tb_lr (a.1 * b.1) (a.1 * b.2)) else some tb_ltop
noncomputable def tl_div (a b : Int × Int) : Option (Int × Int) := if 1 ≤ b.1 ∧ b.1 = b.2 then some (a.1.tdiv b.1, a.2.tdiv b.1) else none
noncomputable def tl_rem (_ b : Int × Int) : Option (Int × Int) := if 1 ≤ b.1 ∧ b.1 = b.2 then some (-(b.1 - 1), b.1 - 1) else none
noncomputable def tl_any (_ _ : Int × Int) : Option (Int × Int) := some tb_ltop
theorem tn_ladd {p : Program} {l : Launch} {e : Env} {R : Room} {s : State} {m : MethodId} {args : Array Value} {below : List Frame} {meth : Method} {c : Code} {Q : State → Prop} {D : va_G} {dA : Nat → ClassId} {A : Nat → Prop} {nL : Nat} {cl : List vw_C} {n0 : Nat} {V0 : sa_V} {E : tb_E} {Ts : List Cond} {cc : ByteArray} {own : String} (C0 : sa_C p s m args c D dA A nL cl Ts cc own) {pc : Nat} (hd : decode cc pc = .ok (.ladd, 1)) : tb_snd p l e R s m args below meth c Q D dA A nL cl n0 V0 E pc (to_lbin tl_add) := by
  obtain ⟨hx, hb, hts, hown, hml, hK, hA⟩ := C0
  rintro ⟨pc, lo, st, cs, G, kc, ks⟩ sts rfl h k V H locs ls hG
  unfold to_lbin at h
  dsimp only at h
  split at h
  · rename_i y x rest
    split at h
    · rename_i a b ha hb9
      obtain ⟨a1, a2⟩ := tb_lb_ok hG.1.1 hG.2.2.2.1 ha
      obtain ⟨b1, b2⟩ := tb_lb_ok hG.1.1 hG.2.2.2.1 hb9
      split at h
      · rename_i r hr
        cases hr
        refine lv_ladd hx hb hd (tb_pushl_ok hG ?_ h k)
        exact tb_lr_ok (z := (V x).2.1.toInt + (V y).2.1.toInt) (by conv => lhs; rw [← Int64.ofInt_toInt (V x).2.1, ← Int64.ofInt_toInt (V y).2.1, ← Int64.ofInt_add]) (by omega) (by omega)
      · cases h
    · cases h
  · cases h
theorem tn_lsub {p : Program} {l : Launch} {e : Env} {R : Room} {s : State} {m : MethodId} {args : Array Value} {below : List Frame} {meth : Method} {c : Code} {Q : State → Prop} {D : va_G} {dA : Nat → ClassId} {A : Nat → Prop} {nL : Nat} {cl : List vw_C} {n0 : Nat} {V0 : sa_V} {E : tb_E} {Ts : List Cond} {cc : ByteArray} {own : String} (C0 : sa_C p s m args c D dA A nL cl Ts cc own) {pc : Nat} (hd : decode cc pc = .ok (.lsub, 1)) : tb_snd p l e R s m args below meth c Q D dA A nL cl n0 V0 E pc (to_lbin tl_sub) := by
  obtain ⟨hx, hb, hts, hown, hml, hK, hA⟩ := C0
  rintro ⟨pc, lo, st, cs, G, kc, ks⟩ sts rfl h k V H locs ls hG
  unfold to_lbin at h
  dsimp only at h
  split at h
  · rename_i y x rest
    split at h
    · rename_i a b ha hb9
      obtain ⟨a1, a2⟩ := tb_lb_ok hG.1.1 hG.2.2.2.1 ha
      obtain ⟨b1, b2⟩ := tb_lb_ok hG.1.1 hG.2.2.2.1 hb9
      split at h
      · rename_i r hr
        cases hr
        refine lv_lsub hx hb hd (tb_pushl_ok hG ?_ h k)
        exact tb_lr_ok (z := (V x).2.1.toInt - (V y).2.1.toInt) (by conv => lhs; rw [← Int64.ofInt_toInt (V x).2.1, ← Int64.ofInt_toInt (V y).2.1, ← Int64.ofInt_sub]) (by omega) (by omega)
      · cases h
    · cases h
  · cases h
theorem tn_lmul {p : Program} {l : Launch} {e : Env} {R : Room} {s : State} {m : MethodId} {args : Array Value} {below : List Frame} {meth : Method} {c : Code} {Q : State → Prop} {D : va_G} {dA : Nat → ClassId} {A : Nat → Prop} {nL : Nat} {cl : List vw_C} {n0 : Nat} {V0 : sa_V} {E : tb_E} {Ts : List Cond} {cc : ByteArray} {own : String} (C0 : sa_C p s m args c D dA A nL cl Ts cc own) {pc : Nat} (hd : decode cc pc = .ok (.lmul, 1)) : tb_snd p l e R s m args below meth c Q D dA A nL cl n0 V0 E pc (to_lbin tl_mul) := by
  obtain ⟨hx, hb, hts, hown, hml, hK, hA⟩ := C0
  rintro ⟨pc, lo, st, cs, G, kc, ks⟩ sts rfl h k V H locs ls hG
  unfold to_lbin at h
  dsimp only at h
  split at h
  · rename_i y x rest
    split at h
    · rename_i a b ha hb9
      obtain ⟨a1, a2⟩ := tb_lb_ok hG.1.1 hG.2.2.2.1 ha
      obtain ⟨b1, b2⟩ := tb_lb_ok hG.1.1 hG.2.2.2.1 hb9
      split at h
      · rename_i r hr
        refine lv_lmul hx hb hd (tb_pushl_ok hG ?_ h k)
        unfold tl_mul at hr
        split at hr
        · rename_i h1
          cases hr
          have e1 : (V x).2.1.toInt = a.1 := by omega
          have e2 : (V x).2.1 * (V y).2.1 = Int64.ofInt (a.1 * (V y).2.1.toInt) := by
            conv => lhs; rw [← Int64.ofInt_toInt (V x).2.1, ← Int64.ofInt_toInt (V y).2.1, ← Int64.ofInt_mul, e1]
          have k1 := Int.mul_le_mul_of_nonneg_left b1 h1.1
          have k2 := Int.mul_le_mul_of_nonneg_left b2 h1.1
          split
          · exact tb_lr_ok e2 k1 k2
          · exact tb_lr_ok e2 k1 k2
        · cases hr
          exact tb_ltop_ok _
      · cases h
    · cases h
  · cases h
theorem tn_ldiv {p : Program} {l : Launch} {e : Env} {R : Room} {s : State} {m : MethodId} {args : Array Value} {below : List Frame} {meth : Method} {c : Code} {Q : State → Prop} {D : va_G} {dA : Nat → ClassId} {A : Nat → Prop} {nL : Nat} {cl : List vw_C} {n0 : Nat} {V0 : sa_V} {E : tb_E} {Ts : List Cond} {cc : ByteArray} {own : String} (C0 : sa_C p s m args c D dA A nL cl Ts cc own) {pc : Nat} (hd : decode cc pc = .ok (.ldiv, 1)) : tb_snd p l e R s m args below meth c Q D dA A nL cl n0 V0 E pc (to_lbin tl_div) := by
  obtain ⟨hx, hb, hts, hown, hml, hK, hA⟩ := C0
  rintro ⟨pc, lo, st, cs, G, kc, ks⟩ sts rfl h k V H locs ls hG
  unfold to_lbin at h
  dsimp only at h
  split at h
  · rename_i y x rest
    split at h
    · rename_i a b ha hb9
      obtain ⟨a1, a2⟩ := tb_lb_ok hG.1.1 hG.2.2.2.1 ha
      obtain ⟨b1, b2⟩ := tb_lb_ok hG.1.1 hG.2.2.2.1 hb9
      split at h
      · rename_i r hr
        unfold tl_div at hr
        split at hr
        · rename_i h1
          cases hr
          have hy1 : (V y).2.1.toInt = b.1 := by omega
          have hne : ¬ (V y).2.1 = 0 := fun z => by rw [z] at hy1; have : (0 : Int64).toInt = 0 := rfl; omega
          refine lv_ldiv hx hb hd hne (tb_pushl_ok hG ?_ h k)
          rw [Int64.toInt_div_of_ne_right _ _ (fun z => by rw [z] at hy1; have : (-1 : Int64).toInt = -1 := rfl; omega), hy1]
          exact ⟨Int.tdiv_le_tdiv (by omega) a1, Int.tdiv_le_tdiv (by omega) a2⟩
        · cases hr
      · cases h
    · cases h
  · cases h
theorem tn_lrem {p : Program} {l : Launch} {e : Env} {R : Room} {s : State} {m : MethodId} {args : Array Value} {below : List Frame} {meth : Method} {c : Code} {Q : State → Prop} {D : va_G} {dA : Nat → ClassId} {A : Nat → Prop} {nL : Nat} {cl : List vw_C} {n0 : Nat} {V0 : sa_V} {E : tb_E} {Ts : List Cond} {cc : ByteArray} {own : String} (C0 : sa_C p s m args c D dA A nL cl Ts cc own) {pc : Nat} (hd : decode cc pc = .ok (.lrem, 1)) : tb_snd p l e R s m args below meth c Q D dA A nL cl n0 V0 E pc (to_lbin tl_rem) := by
  obtain ⟨hx, hb, hts, hown, hml, hK, hA⟩ := C0
  rintro ⟨pc, lo, st, cs, G, kc, ks⟩ sts rfl h k V H locs ls hG
  unfold to_lbin at h
  dsimp only at h
  split at h
  · rename_i y x rest
    split at h
    · rename_i a b ha hb9
      obtain ⟨a1, a2⟩ := tb_lb_ok hG.1.1 hG.2.2.2.1 ha
      obtain ⟨b1, b2⟩ := tb_lb_ok hG.1.1 hG.2.2.2.1 hb9
      split at h
      · rename_i r hr
        unfold tl_rem at hr
        split at hr
        · rename_i h1
          cases hr
          have hy1 : (V y).2.1.toInt = b.1 := by omega
          have hne : ¬ (V y).2.1 = 0 := fun z => by rw [z] at hy1; have : (0 : Int64).toInt = 0 := rfl; omega
          refine lv_lrem hx hb hd hne (tb_pushl_ok hG ?_ h k)
          have e0 : ((V x).2.1 / (V y).2.1).toInt = (V x).2.1.toInt.tdiv (V y).2.1.toInt := Int64.toInt_div_of_ne_right _ _ (fun z => by rw [z] at hy1; have : (-1 : Int64).toInt = -1 := rfl; omega)
          have e1 : (V x).2.1 - (V x).2.1 / (V y).2.1 * (V y).2.1 = Int64.ofInt ((V x).2.1.toInt.tmod (V y).2.1.toInt) := by
            rw [Int.tmod_def, Int64.ofInt_sub, Int64.ofInt_mul, Int64.ofInt_toInt, Int64.ofInt_toInt, ← e0, Int64.ofInt_toInt, Int64.mul_comm]
          have h4 := Int.tmod_lt_of_pos (V x).2.1.toInt (show 0 < (V y).2.1.toInt by omega)
          have h5 := Int.lt_tmod_of_pos (V x).2.1.toInt (show 0 < (V y).2.1.toInt by omega)
          have h6 := Int64.toInt_lt (V y).2.1
          simp at h6
          rw [e1, Int64.toInt_ofInt_of_le (by simp; omega) (by simp; omega)]
          show -(b.1 - 1) ≤ _ ∧ _ ≤ b.1 - 1
          omega
        · cases hr
      · cases h
    · cases h
  · cases h
theorem tn_lor {p : Program} {l : Launch} {e : Env} {R : Room} {s : State} {m : MethodId} {args : Array Value} {below : List Frame} {meth : Method} {c : Code} {Q : State → Prop} {D : va_G} {dA : Nat → ClassId} {A : Nat → Prop} {nL : Nat} {cl : List vw_C} {n0 : Nat} {V0 : sa_V} {E : tb_E} {Ts : List Cond} {cc : ByteArray} {own : String} (C0 : sa_C p s m args c D dA A nL cl Ts cc own) {pc : Nat} (hd : decode cc pc = .ok (.lor, 1)) : tb_snd p l e R s m args below meth c Q D dA A nL cl n0 V0 E pc (to_lbin tl_any) := by
  obtain ⟨hx, hb, hts, hown, hml, hK, hA⟩ := C0
  rintro ⟨pc, lo, st, cs, G, kc, ks⟩ sts rfl h k V H locs ls hG
  unfold to_lbin at h
  dsimp only at h
  split at h
  · rename_i y x rest
    split at h
    · rename_i a b ha hb9
      obtain ⟨a1, a2⟩ := tb_lb_ok hG.1.1 hG.2.2.2.1 ha
      obtain ⟨b1, b2⟩ := tb_lb_ok hG.1.1 hG.2.2.2.1 hb9
      split at h
      · rename_i r hr
        cases hr
        exact lv_lor hx hb hd (tb_pushl_ok hG (tb_ltop_ok _) h k)
      · cases h
    · cases h
  · cases h
noncomputable def to_lsh : tb_op := fun S => match S.2.2.1 with
  | .inl _ :: .inr (.inr _) :: rest => tb_pushl (S.1 + 1) S.2.1 rest S.2.2.2.1 S.2.2.2.2.1 S.2.2.2.2.2.1 S.2.2.2.2.2.2 tb_ltop
  | _ => none
theorem tn_lshl {p : Program} {l : Launch} {e : Env} {R : Room} {s : State} {m : MethodId} {args : Array Value} {below : List Frame} {meth : Method} {c : Code} {Q : State → Prop} {D : va_G} {dA : Nat → ClassId} {A : Nat → Prop} {nL : Nat} {cl : List vw_C} {n0 : Nat} {V0 : sa_V} {E : tb_E} {Ts : List Cond} {cc : ByteArray} {own : String} (C0 : sa_C p s m args c D dA A nL cl Ts cc own) {pc : Nat} (hd : decode cc pc = .ok (.lshl, 1)) : tb_snd p l e R s m args below meth c Q D dA A nL cl n0 V0 E pc to_lsh := by
  obtain ⟨hx, hb, hts, hown, hml, hK, hA⟩ := C0
  rintro ⟨pc, lo, st, cs, G, kc, ks⟩ sts rfl h k V H locs ls hG
  unfold to_lsh at h
  dsimp only at h
  split at h
  · exact lv_lshl hx hb hd rfl (tb_pushl_ok hG (tb_ltop_ok _) h k)
  · cases h
theorem tn_lushr {p : Program} {l : Launch} {e : Env} {R : Room} {s : State} {m : MethodId} {args : Array Value} {below : List Frame} {meth : Method} {c : Code} {Q : State → Prop} {D : va_G} {dA : Nat → ClassId} {A : Nat → Prop} {nL : Nat} {cl : List vw_C} {n0 : Nat} {V0 : sa_V} {E : tb_E} {Ts : List Cond} {cc : ByteArray} {own : String} (C0 : sa_C p s m args c D dA A nL cl Ts cc own) {pc : Nat} (hd : decode cc pc = .ok (.lushr, 1)) : tb_snd p l e R s m args below meth c Q D dA A nL cl n0 V0 E pc to_lsh := by
  obtain ⟨hx, hb, hts, hown, hml, hK, hA⟩ := C0
  rintro ⟨pc, lo, st, cs, G, kc, ks⟩ sts rfl h k V H locs ls hG
  unfold to_lsh at h
  dsimp only at h
  split at h
  · exact lv_lushr hx hb hd rfl (tb_pushl_ok hG (tb_ltop_ok _) h k)
  · cases h
noncomputable def to_lcmp : tb_op := fun S => match S.2.2.1 with
  | .inr (.inr y) :: .inr (.inr x) :: rest => match tb_lb S.2.2.2.2.1 x, tb_lb S.2.2.2.2.1 y with
    | some a, some b => tb_push (S.1 + 1) S.2.1 rest S.2.2.2.1 S.2.2.2.2.1 S.2.2.2.2.2.1 S.2.2.2.2.2.2 (if a.2 < b.1 then .inr (-1, -1) else if b.2 < a.1 then .inr (1, 1) else .inr (-1, 1))
    | _, _ => none
  | _ => none
theorem tn_lcmp {p : Program} {l : Launch} {e : Env} {R : Room} {s : State} {m : MethodId} {args : Array Value} {below : List Frame} {meth : Method} {c : Code} {Q : State → Prop} {D : va_G} {dA : Nat → ClassId} {A : Nat → Prop} {nL : Nat} {cl : List vw_C} {n0 : Nat} {V0 : sa_V} {E : tb_E} {Ts : List Cond} {cc : ByteArray} {own : String} (C0 : sa_C p s m args c D dA A nL cl Ts cc own) {pc : Nat} (hd : decode cc pc = .ok (.lcmp, 1)) : tb_snd p l e R s m args below meth c Q D dA A nL cl n0 V0 E pc to_lcmp := by
  obtain ⟨hx, hb, hts, hown, hml, hK, hA⟩ := C0
  rintro ⟨pc, lo, st, cs, G, kc, ks⟩ sts rfl h k V H locs ls hG
  unfold to_lcmp at h
  dsimp only at h
  split at h
  · rename_i y x rest
    split at h
    · rename_i a b ha hb9
      obtain ⟨a1, a2⟩ := tb_lb_ok hG.1.1 hG.2.2.2.1 ha
      obtain ⟨b1, b2⟩ := tb_lb_ok hG.1.1 hG.2.2.2.1 hb9
      refine W.lcmp hx hb hd (tb_push_ok hG ?_ h k)
      unfold lg_cmp
      split
      · rename_i h1
        have h2 : ¬ (V y).2.1 < (V x).2.1 := by rw [Int64.lt_iff_toInt_lt]; omega
        have h3 : ¬ (V x).2.1 = (V y).2.1 := fun z => by rw [z] at a2; omega
        simp only [gt_iff_lt, h2, h3, if_false, beq_iff_eq]
        exact ⟨by decide, by decide⟩
      · split
        · rename_i h1 h4
          have h2 : (V y).2.1 < (V x).2.1 := by rw [Int64.lt_iff_toInt_lt]; omega
          simp only [gt_iff_lt, h2, if_true]
          exact ⟨by decide, by decide⟩
        · split
          · exact ⟨by decide, by decide⟩
          · split
            · exact ⟨by decide, by decide⟩
            · exact ⟨by decide, by decide⟩
    · cases h
  · cases h
noncomputable def to_l2i : tb_op := fun S => match S.2.2.1 with
  | .inr (.inr x) :: rest => match tb_lb S.2.2.2.2.1 x with
    | some a => tb_push (S.1 + 1) S.2.1 rest S.2.2.2.1 S.2.2.2.2.1 S.2.2.2.2.2.1 S.2.2.2.2.2.2 (if -2147483648 ≤ a.1 ∧ a.2 ≤ 2147483647 then .inr a else sa_top)
    | none => none
  | _ => none
theorem tn_l2i {p : Program} {l : Launch} {e : Env} {R : Room} {s : State} {m : MethodId} {args : Array Value} {below : List Frame} {meth : Method} {c : Code} {Q : State → Prop} {D : va_G} {dA : Nat → ClassId} {A : Nat → Prop} {nL : Nat} {cl : List vw_C} {n0 : Nat} {V0 : sa_V} {E : tb_E} {Ts : List Cond} {cc : ByteArray} {own : String} (C0 : sa_C p s m args c D dA A nL cl Ts cc own) {pc : Nat} (hd : decode cc pc = .ok (.l2i, 1)) : tb_snd p l e R s m args below meth c Q D dA A nL cl n0 V0 E pc to_l2i := by
  obtain ⟨hx, hb, hts, hown, hml, hK, hA⟩ := C0
  rintro ⟨pc, lo, st, cs, G, kc, ks⟩ sts rfl h k V H locs ls hG
  unfold to_l2i at h
  dsimp only at h
  split at h
  · rename_i x rest
    split at h
    · rename_i a ha
      obtain ⟨a1, a2⟩ := tb_lb_ok hG.1.1 hG.2.2.2.1 ha
      refine lv_l2i hx hb hd rfl (tb_push_ok hG ?_ h k)
      split
      · rename_i h1
        show a.1 ≤ (V x).2.1.toInt32.toInt ∧ (V x).2.1.toInt32.toInt ≤ a.2
        rw [Int64.toInt_toInt32, Int.bmod_eq_of_le (by omega) (by omega)]
        exact ⟨a1, a2⟩
      · exact sa_is_top V _
    · cases h
  · cases h
noncomputable def to_i2l : tb_op := fun S => match S.2.2.1 with
  | .inl x :: rest => match sa_iv S.2.2.2.2.1 x with
    | some a => tb_pushl (S.1 + 1) S.2.1 rest S.2.2.2.1 S.2.2.2.2.1 S.2.2.2.2.2.1 S.2.2.2.2.2.2 a
    | none => none
  | _ => none
theorem tn_i2l {p : Program} {l : Launch} {e : Env} {R : Room} {s : State} {m : MethodId} {args : Array Value} {below : List Frame} {meth : Method} {c : Code} {Q : State → Prop} {D : va_G} {dA : Nat → ClassId} {A : Nat → Prop} {nL : Nat} {cl : List vw_C} {n0 : Nat} {V0 : sa_V} {E : tb_E} {Ts : List Cond} {cc : ByteArray} {own : String} (C0 : sa_C p s m args c D dA A nL cl Ts cc own) {pc : Nat} (hd : decode cc pc = .ok (.i2l, 1)) : tb_snd p l e R s m args below meth c Q D dA A nL cl n0 V0 E pc to_i2l := by
  obtain ⟨hx, hb, hts, hown, hml, hK, hA⟩ := C0
  rintro ⟨pc, lo, st, cs, G, kc, ks⟩ sts rfl h k V H locs ls hG
  unfold to_i2l at h
  dsimp only at h
  split at h
  · rename_i x rest
    split at h
    · rename_i a ha
      obtain ⟨e1, a1, a2⟩ := sa_iv_ok hG.1.1 ha
      refine lv_i2l hx hb hd rfl (tb_pushl_ok hG ?_ h k)
      rw [Int32.toInt_toInt64]
      exact ⟨a1, a2⟩
    · cases h
  · cases h
noncomputable def to_lc (z : Int) (len : Nat) : tb_op := fun S => tb_pushl (S.1 + len) S.2.1 S.2.2.1 S.2.2.2.1 S.2.2.2.2.1 S.2.2.2.2.2.1 S.2.2.2.2.2.2 (z, z)
theorem tn_lconst {p : Program} {l : Launch} {e : Env} {R : Room} {s : State} {m : MethodId} {args : Array Value} {below : List Frame} {meth : Method} {c : Code} {Q : State → Prop} {D : va_G} {dA : Nat → ClassId} {A : Nat → Prop} {nL : Nat} {cl : List vw_C} {n0 : Nat} {V0 : sa_V} {E : tb_E} {Ts : List Cond} {cc : ByteArray} {own : String} (C0 : sa_C p s m args c D dA A nL cl Ts cc own) {pc : Nat} {n : Fin 2} {z : Int} (hd : decode cc pc = .ok (.lconst n, 1)) (hv : (Int64.ofNat (n : Nat)).toInt = z) : tb_snd p l e R s m args below meth c Q D dA A nL cl n0 V0 E pc (to_lc z 1) := by
  obtain ⟨hx, hb, hts, hown, hml, hK, hA⟩ := C0
  rintro ⟨pc, lo, st, cs, G, kc, ks⟩ sts rfl h k V H locs ls hG
  exact lv_lconst hx hb hd rfl (tb_pushl_ok hG ⟨by rw [hv]; exact Int.le_refl _, by rw [hv]; exact Int.le_refl _⟩ h k)
theorem tn_ldc2 {p : Program} {l : Launch} {e : Env} {R : Room} {s : State} {m : MethodId} {args : Array Value} {below : List Frame} {meth : Method} {c : Code} {Q : State → Prop} {D : va_G} {dA : Nat → ClassId} {A : Nat → Prop} {nL : Nat} {cl : List vw_C} {n0 : Nat} {V0 : sa_V} {E : tb_E} {Ts : List Cond} {cc : ByteArray} {own : String} (C0 : sa_C p s m args c D dA A nL cl Ts cc own) {pc : Nat} {idx : Nat} {v : Int64} {z : Int} (hd : decode cc pc = .ok (.ldc2_w idx, 3)) (hc : Cond.constantLong own idx v ∈ Ts) (hv : v.toInt = z) : tb_snd p l e R s m args below meth c Q D dA A nL cl n0 V0 E pc (to_lc z 3) := by
  obtain ⟨hx, hb, hts, hown, hml, hK, hA⟩ := C0
  rintro ⟨pc, lo, st, cs, G, kc, ks⟩ sts rfl h k V H locs ls hG
  exact lv_ldc2 hx hb hown (hts _ hc) hd (tb_pushl_ok hG ⟨by rw [hv]; exact Int.le_refl _, by rw [hv]; exact Int.le_refl _⟩ h k)
theorem tn_ldcw {p : Program} {l : Launch} {e : Env} {R : Room} {s : State} {m : MethodId} {args : Array Value} {below : List Frame} {meth : Method} {c : Code} {Q : State → Prop} {D : va_G} {dA : Nat → ClassId} {A : Nat → Prop} {nL : Nat} {cl : List vw_C} {n0 : Nat} {V0 : sa_V} {E : tb_E} {Ts : List Cond} {cc : ByteArray} {own : String} (C0 : sa_C p s m args c D dA A nL cl Ts cc own) {pc : Nat} {n : Int} {idx : Nat} (hd : decode cc pc = .ok (.ldc_w idx, 3)) (hc : Cond.constant own idx (Int32.ofInt n) ∈ Ts) : tb_snd p l e R s m args below meth c Q D dA A nL cl n0 V0 E pc (to_int n 3) := by
  obtain ⟨hx, hb, hts, hown, hml, hK, hA⟩ := C0
  rintro ⟨pc, lo, st, cs, G, kc, ks⟩ sts rfl h k V H locs ls hG
  cases h
  exact lv_ldcw hx hb hown (hts _ hc) hd (tb_k_int hG (k _ List.mem_cons_self))
end TYF
