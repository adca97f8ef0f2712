section SA2
noncomputable def sa_mp {α : Type} (f : α → α) (l : List α) : Nat → List α := List.rec (motive := fun _ => Nat → List α) (fun _ => []) (fun a t ih k => Nat.rec (motive := fun _ => List α) (f a :: t) (fun m _ => a :: ih m) k) l
theorem sa_mp_get {α : Type} (f : α → α) : ∀ (l : List α) (s i : Nat), (sa_mp f l s)[i]? = if i = s then l[i]?.map f else l[i]?
  | [], s, i => by
    show ([] : List α)[i]? = _
    rw [List.getElem?_nil]
    split <;> rfl
  | a :: l, 0, i => by
    show (f a :: l)[i]? = _
    cases i with
    | zero => rw [if_pos rfl]; rfl
    | succ i => rw [if_neg (by omega)]; rfl
  | a :: l, s + 1, i => by
    show (a :: sa_mp f l s)[i]? = _
    cases i with
    | zero => rw [if_neg (by omega)]; rfl
    | succ i =>
      rw [List.getElem?_cons_succ, List.getElem?_cons_succ, sa_mp_get f l s i]
      by_cases h : i = s
      · rw [if_pos h, if_pos (by omega)]
      · rw [if_neg h, if_neg (by omega)]
theorem sa_mp_len {α : Type} (f : α → α) : ∀ (l : List α) (s : Nat), (sa_mp f l s).length = l.length
  | [], _ => rfl
  | _ :: _, 0 => rfl
  | a :: l, s + 1 => by
    show (sa_mp f l s).length + 1 = l.length + 1
    rw [sa_mp_len f l s]
noncomputable def sa_hi (G : sa_B) (s : Nat) (z : Int) : sa_B := sa_mp (fun b => (b.1, Bool.rec (motive := fun _ => Int) z b.2 (sa_ile b.2 z))) G s
noncomputable def sa_lw (G : sa_B) (s : Nat) (z : Int) : sa_B := sa_mp (fun b => (Bool.rec (motive := fun _ => Int) z b.1 (sa_ile z b.1), b.2)) G s
theorem sa_I_hi {V : sa_V} {G : sa_B} {s : Nat} {z : Int} (h : sa_I V G) (hz : (V s).1 ≤ z) : sa_I V (sa_hi G s z) := by
  unfold sa_hi
  refine ⟨fun i b' hi => ?_, h.2⟩
  rw [sa_mp_get] at hi
  split at hi
  · rename_i hs
    subst hs
    cases hb : G[i]? with
    | none => rw [hb] at hi; cases hi
    | some b =>
      rw [hb] at hi
      cases hi
      obtain ⟨h1, h2⟩ := h.1 _ _ hb
      refine ⟨h1, ?_⟩
      show _ ≤ (Bool.rec z b.2 (sa_ile b.2 z) : Int)
      cases sa_ile b.2 z with
      | true => exact h2
      | false => exact hz
  · exact h.1 i b' hi
theorem sa_I_lw {V : sa_V} {G : sa_B} {s : Nat} {z : Int} (h : sa_I V G) (hz : z ≤ (V s).1) : sa_I V (sa_lw G s z) := by
  unfold sa_lw
  refine ⟨fun i b' hi => ?_, h.2⟩
  rw [sa_mp_get] at hi
  split at hi
  · rename_i hs
    subst hs
    cases hb : G[i]? with
    | none => rw [hb] at hi; cases hi
    | some b =>
      rw [hb] at hi
      cases hi
      obtain ⟨h1, h2⟩ := h.1 _ _ hb
      refine ⟨?_, h2⟩
      show (Bool.rec z b.1 (sa_ile z b.1) : Int) ≤ _
      cases sa_ile z b.1 with
      | true => exact h1
      | false => exact hz
  · exact h.1 i b' hi
theorem sa_hi_len (G : sa_B) (s : Nat) (z : Int) : (sa_hi G s z).length = G.length := sa_mp_len _ _ _
theorem sa_lw_len (G : sa_B) (s : Nat) (z : Int) : (sa_lw G s z).length = G.length := sa_mp_len _ _ _
abbrev sa_R : Type := sa_B → Nat × Int → Nat × Int → List sa_B
noncomputable def sa_rok (r : sa_R) (P : Int32 → Int32 → Prop) : Prop := ∀ (V : sa_V) (G : sa_B) (x y : Nat × Int), sa_I V G → P (sa_i V x) (sa_i V y) → ∃ G', G' ∈ r G x y ∧ sa_I V G' ∧ G'.length = G.length
noncomputable def sr_lt : sa_R := fun G x y => match sa_iv G x, sa_iv G y with
  | some a, some b => if a.1 < b.2 then [sa_lw (sa_hi G x.1 (b.2 - 1 - x.2)) y.1 (a.1 + 1 - y.2)] else []
  | _, _ => [G]
theorem sr_lt_ok : sa_rok sr_lt (fun x y => x < y) := by
  intro V G x y hI h
  rw [Int32.lt_iff_toInt_lt] at h
  unfold sr_lt
  split
  · rename_i a b ha hb
    obtain ⟨e1, l1, u1⟩ := sa_iv_ok hI ha
    obtain ⟨e2, l2, u2⟩ := sa_iv_ok hI hb
    rw [if_pos (by omega)]
    exact ⟨_, List.mem_cons_self, sa_I_lw (sa_I_hi hI (by omega)) (by omega), by rw [sa_lw_len, sa_hi_len]⟩
  · exact ⟨_, List.mem_cons_self, hI, rfl⟩
noncomputable def sr_le : sa_R := fun G x y => match sa_iv G x, sa_iv G y with
  | some a, some b => if a.1 ≤ b.2 then [sa_lw (sa_hi G x.1 (b.2 - x.2)) y.1 (a.1 - y.2)] else []
  | _, _ => [G]
theorem sr_le_ok : sa_rok sr_le (fun x y => x ≤ y) := by
  intro V G x y hI h
  rw [Int32.le_iff_toInt_le] at h
  unfold sr_le
  split
  · rename_i a b ha hb
    obtain ⟨e1, l1, u1⟩ := sa_iv_ok hI ha
    obtain ⟨e2, l2, u2⟩ := sa_iv_ok hI hb
    rw [if_pos (by omega)]
    exact ⟨_, List.mem_cons_self, sa_I_lw (sa_I_hi hI (by omega)) (by omega), by rw [sa_lw_len, sa_hi_len]⟩
  · exact ⟨_, List.mem_cons_self, hI, rfl⟩
noncomputable def sr_eq : sa_R := fun G x y => match sa_iv G x, sa_iv G y with
  | some a, some b => if a.1 ≤ b.2 ∧ b.1 ≤ a.2 then [sa_lw (sa_hi (sa_lw (sa_hi G x.1 (b.2 - x.2)) x.1 (b.1 - x.2)) y.1 (a.2 - y.2)) y.1 (a.1 - y.2)] else []
  | _, _ => [G]
theorem sr_eq_ok : sa_rok sr_eq (fun x y => x = y) := by
  intro V G x y hI h
  unfold sr_eq
  split
  · rename_i a b ha hb
    obtain ⟨e1, l1, u1⟩ := sa_iv_ok hI ha
    obtain ⟨e2, l2, u2⟩ := sa_iv_ok hI hb
    have h : sa_i V x = sa_i V y := h
    rw [h] at e1 l1 u1
    rw [if_pos (by omega)]
    exact ⟨_, List.mem_cons_self, sa_I_lw (sa_I_hi (sa_I_lw (sa_I_hi hI (by omega)) (by omega)) (by omega)) (by omega), by rw [sa_lw_len, sa_hi_len, sa_lw_len, sa_hi_len]⟩
  · exact ⟨_, List.mem_cons_self, hI, rfl⟩
noncomputable def sr_ne : sa_R := fun G x y => match sa_iv G x, sa_iv G y with
  | some a, some b => if b.1 = b.2 then (if a.1 < b.1 then [sa_hi G x.1 (b.1 - 1 - x.2)] else []) ++ (if b.1 < a.2 then [sa_lw G x.1 (b.1 + 1 - x.2)] else []) else [G]
  | _, _ => [G]
theorem sr_ne_ok : sa_rok sr_ne (fun x y => ¬ x = y) := by
  intro V G x y hI h
  unfold sr_ne
  split
  · rename_i a b ha hb
    obtain ⟨e1, l1, u1⟩ := sa_iv_ok hI ha
    obtain ⟨e2, l2, u2⟩ := sa_iv_ok hI hb
    have h3 : ¬ (sa_i V x).toInt = (sa_i V y).toInt := fun q => h (Int32.toInt_inj.mp q)
    split
    · by_cases hlt : (sa_i V x).toInt < (sa_i V y).toInt
      · exact ⟨_, List.mem_append_left _ (by rw [if_pos (by omega)]; exact List.mem_cons_self), sa_I_hi hI (by omega), sa_hi_len _ _ _⟩
      · exact ⟨_, List.mem_append_right _ (by rw [if_pos (by omega)]; exact List.mem_cons_self), sa_I_lw hI (by omega), sa_lw_len _ _ _⟩
    · exact ⟨_, List.mem_cons_self, hI, rfl⟩
  · exact ⟨_, List.mem_cons_self, hI, rfl⟩
noncomputable def sr_flip (r : sa_R) : sa_R := fun G x y => r G y x
theorem sr_flip_ok {r : sa_R} {P : Int32 → Int32 → Prop} (h : sa_rok r P) : sa_rok (sr_flip r) (fun x y => P y x) := fun V G x y hI hp => h V G y x hI hp
theorem sr_nlt_ok : sa_rok (sr_flip sr_le) (fun x y => ¬ x < y) := fun V G x y hI hp => sr_le_ok V G y x hI (Int32.not_lt.mp hp)
theorem sr_nle_ok : sa_rok (sr_flip sr_lt) (fun x y => ¬ x ≤ y) := fun V G x y hI hp => sr_lt_ok V G y x hI (Int32.not_le.mp hp)
theorem sr_nle'_ok : sa_rok sr_lt (fun x y => ¬ y ≤ x) := fun V G x y hI hp => sr_lt_ok V G x y hI (Int32.not_le.mp hp)
theorem sr_nlt'_ok : sa_rok sr_le (fun x y => ¬ y < x) := fun V G x y hI hp => sr_le_ok V G x y hI (Int32.not_lt.mp hp)
noncomputable def sa_br (r : sa_R) (S : sa_S) (x y : Nat × Int) (pc : Nat) (rest : List sa_v) : List sa_S := (r S.2.2.2.2.1 x y).map (fun G' => (pc, S.2.1, rest, S.2.2.2.1, G', S.2.2.2.2.2))
theorem sa_br_ok {p : Program} {l : Launch} {e : Env} {R : Room} {s : State} {m : MethodId} {args : Array Value} {below : List Frame} {meth : Method} {c : Code} {Q : State → Prop} {D : va_G} {dA : Nat → ClassId} {A : Nat → Prop} {nL : Nat} {cl : List vw_C} {n0 : Nat} {V0 : sa_V} {r : sa_R} {P : Int32 → Int32 → Prop} (hr : sa_rok r P) {lo : sa_L} {st : List sa_v} {cs : List sa_c} {G : sa_B} {kc ks pc0 pc : Nat} {x y : Nat × Int} {rest : List sa_v} {V : sa_V} {H : Heap} {locs : List Loc} {ls : Array Slot} (hG : sa_G D dA A nL cl n0 V0 s.heap V lo cs G H locs ls) (hp : P (sa_i V x) (sa_i V y))
    (k : ∀ S' ∈ sa_br r (pc0, lo, st, cs, G, kc, ks) x y pc rest, sa_W p l e R s m args below meth c Q D dA A nL cl n0 V0 S') : W p l e R s m args below meth c H locs kc ks Q (F0 m pc ls (rest.map (sa_val V))) := by
  obtain ⟨G', h1, h2⟩ := hr V G x y hG.1.1 hp
  exact k (pc, lo, rest, cs, G', kc, ks) (List.mem_map.mpr ⟨G', h1, rfl⟩) V H locs ls ⟨⟨h2.1, by rw [h2.2]; exact hG.1.2.1, hG.1.2.2⟩, hG.2⟩
noncomputable def so_icmp (rt rf : sa_R) (tgt : Nat) : sa_op := fun S => match S.2.2.1 with
  | .inl y :: .inl x :: rest => some (sa_br rt S x y tgt rest ++ sa_br rf S x y (S.1 + 3) rest)
  | _ => none
noncomputable def so_if (rt rf : sa_R) (tgt : Nat) : sa_op := fun S => match S.2.2.1 with
  | .inl x :: rest => some (sa_br rt S x (0, 0) tgt rest ++ sa_br rf S x (0, 0) (S.1 + 3) rest)
  | _ => none
theorem sn_icmp_eq {p : Program} {l : Launch} {e : Env} {R : Room} {s : State} {m : MethodId} {args : Array Value} {below : List Frame} {meth : Method} {c : Code} {Q : State → Prop} {D : va_G} {dA : Nat → ClassId} {A : Nat → Prop} {nL : Nat} {cl : List vw_C} {n0 : Nat} {V0 : sa_V} {Ts : List Cond} {cc : ByteArray} {own : String} (C0 : sa_C p s m args c D dA A nL cl Ts cc own) {pc : Nat} {off : Int} {tgt : Nat} (hd : decode cc pc = .ok (.if_icmp .eq off, 3)) (ht : (pc : Int) + off = (tgt : Int)) : sa_snd p l e R s m args below meth c Q D dA A nL cl n0 V0 pc (so_icmp sr_eq sr_ne tgt) := by
  obtain ⟨hx, hb, hts, hown, hml, hK, hA⟩ := C0
  rintro ⟨pc, lo, st, cs, G, kc, ks⟩ sts rfl h k V H locs ls hG
  unfold so_icmp at h
  dsimp only at h
  split at h
  · rename_i y x rest
    cases h
    exact lv_icmp_eq hx hb hd ht (fun hp => sa_br_ok sr_eq_ok hG hp (fun S' hS => k S' (List.mem_append_left _ hS))) (fun hp => sa_br_ok sr_ne_ok hG hp (fun S' hS => k S' (List.mem_append_right _ hS)))
  · cases h
theorem sn_if_eq {p : Program} {l : Launch} {e : Env} {R : Room} {s : State} {m : MethodId} {args : Array Value} {below : List Frame} {meth : Method} {c : Code} {Q : State → Prop} {D : va_G} {dA : Nat → ClassId} {A : Nat → Prop} {nL : Nat} {cl : List vw_C} {n0 : Nat} {V0 : sa_V} {Ts : List Cond} {cc : ByteArray} {own : String} (C0 : sa_C p s m args c D dA A nL cl Ts cc own) {pc : Nat} {off : Int} {tgt : Nat} (hd : decode cc pc = .ok (.ifCond .eq off, 3)) (ht : (pc : Int) + off = (tgt : Int)) : sa_snd p l e R s m args below meth c Q D dA A nL cl n0 V0 pc (so_if sr_eq sr_ne tgt) := by
  obtain ⟨hx, hb, hts, hown, hml, hK, hA⟩ := C0
  rintro ⟨pc, lo, st, cs, G, kc, ks⟩ sts rfl h k V H locs ls hG
  unfold so_if at h
  dsimp only at h
  split at h
  · rename_i x rest
    cases h
    have e0 : sa_i V (0, 0) = 0 := (sa_i_0 hG.1.1 0).trans rfl
    exact lv_if_eq hx hb hd ht (fun hp => sa_br_ok sr_eq_ok hG (by rw [e0]; exact hp) (fun S' hS => k S' (List.mem_append_left _ hS))) (fun hp => sa_br_ok sr_ne_ok hG (by rw [e0]; exact hp) (fun S' hS => k S' (List.mem_append_right _ hS)))
  · cases h
theorem sn_icmp_ne {p : Program} {l : Launch} {e : Env} {R : Room} {s : State} {m : MethodId} {args : Array Value} {below : List Frame} {meth : Method} {c : Code} {Q : State → Prop} {D : va_G} {dA : Nat → ClassId} {A : Nat → Prop} {nL : Nat} {cl : List vw_C} {n0 : Nat} {V0 : sa_V} {Ts : List Cond} {cc : ByteArray} {own : String} (C0 : sa_C p s m args c D dA A nL cl Ts cc own) {pc : Nat} {off : Int} {tgt : Nat} (hd : decode cc pc = .ok (.if_icmp .ne off, 3)) (ht : (pc : Int) + off = (tgt : Int)) : sa_snd p l e R s m args below meth c Q D dA A nL cl n0 V0 pc (so_icmp sr_ne sr_eq tgt) := by
  obtain ⟨hx, hb, hts, hown, hml, hK, hA⟩ := C0
  rintro ⟨pc, lo, st, cs, G, kc, ks⟩ sts rfl h k V H locs ls hG
  unfold so_icmp at h
  dsimp only at h
  split at h
  · rename_i y x rest
    cases h
    exact lv_icmp_ne hx hb hd ht (fun hp => sa_br_ok sr_ne_ok hG hp (fun S' hS => k S' (List.mem_append_left _ hS))) (fun hp => sa_br_ok sr_eq_ok hG hp (fun S' hS => k S' (List.mem_append_right _ hS)))
  · cases h
theorem sn_if_ne {p : Program} {l : Launch} {e : Env} {R : Room} {s : State} {m : MethodId} {args : Array Value} {below : List Frame} {meth : Method} {c : Code} {Q : State → Prop} {D : va_G} {dA : Nat → ClassId} {A : Nat → Prop} {nL : Nat} {cl : List vw_C} {n0 : Nat} {V0 : sa_V} {Ts : List Cond} {cc : ByteArray} {own : String} (C0 : sa_C p s m args c D dA A nL cl Ts cc own) {pc : Nat} {off : Int} {tgt : Nat} (hd : decode cc pc = .ok (.ifCond .ne off, 3)) (ht : (pc : Int) + off = (tgt : Int)) : sa_snd p l e R s m args below meth c Q D dA A nL cl n0 V0 pc (so_if sr_ne sr_eq tgt) := by
  obtain ⟨hx, hb, hts, hown, hml, hK, hA⟩ := C0
  rintro ⟨pc, lo, st, cs, G, kc, ks⟩ sts rfl h k V H locs ls hG
  unfold so_if at h
  dsimp only at h
  split at h
  · rename_i x rest
    cases h
    have e0 : sa_i V (0, 0) = 0 := (sa_i_0 hG.1.1 0).trans rfl
    exact lv_if_ne hx hb hd ht (fun hp => sa_br_ok sr_ne_ok hG (by rw [e0]; exact hp) (fun S' hS => k S' (List.mem_append_left _ hS))) (fun hp => sa_br_ok sr_eq_ok hG (by rw [e0]; exact hp) (fun S' hS => k S' (List.mem_append_right _ hS)))
  · cases h
theorem sn_icmp_lt {p : Program} {l : Launch} {e : Env} {R : Room} {s : State} {m : MethodId} {args : Array Value} {below : List Frame} {meth : Method} {c : Code} {Q : State → Prop} {D : va_G} {dA : Nat → ClassId} {A : Nat → Prop} {nL : Nat} {cl : List vw_C} {n0 : Nat} {V0 : sa_V} {Ts : List Cond} {cc : ByteArray} {own : String} (C0 : sa_C p s m args c D dA A nL cl Ts cc own) {pc : Nat} {off : Int} {tgt : Nat} (hd : decode cc pc = .ok (.if_icmp .lt off, 3)) (ht : (pc : Int) + off = (tgt : Int)) : sa_snd p l e R s m args below meth c Q D dA A nL cl n0 V0 pc (so_icmp sr_lt (sr_flip sr_le) tgt) := by
  obtain ⟨hx, hb, hts, hown, hml, hK, hA⟩ := C0
  rintro ⟨pc, lo, st, cs, G, kc, ks⟩ sts rfl h k V H locs ls hG
  unfold so_icmp at h
  dsimp only at h
  split at h
  · rename_i y x rest
    cases h
    exact lv_icmp_lt hx hb hd ht (fun hp => sa_br_ok sr_lt_ok hG hp (fun S' hS => k S' (List.mem_append_left _ hS))) (fun hp => sa_br_ok sr_nlt_ok hG hp (fun S' hS => k S' (List.mem_append_right _ hS)))
  · cases h
theorem sn_if_lt {p : Program} {l : Launch} {e : Env} {R : Room} {s : State} {m : MethodId} {args : Array Value} {below : List Frame} {meth : Method} {c : Code} {Q : State → Prop} {D : va_G} {dA : Nat → ClassId} {A : Nat → Prop} {nL : Nat} {cl : List vw_C} {n0 : Nat} {V0 : sa_V} {Ts : List Cond} {cc : ByteArray} {own : String} (C0 : sa_C p s m args c D dA A nL cl Ts cc own) {pc : Nat} {off : Int} {tgt : Nat} (hd : decode cc pc = .ok (.ifCond .lt off, 3)) (ht : (pc : Int) + off = (tgt : Int)) : sa_snd p l e R s m args below meth c Q D dA A nL cl n0 V0 pc (so_if sr_lt (sr_flip sr_le) tgt) := by
  obtain ⟨hx, hb, hts, hown, hml, hK, hA⟩ := C0
  rintro ⟨pc, lo, st, cs, G, kc, ks⟩ sts rfl h k V H locs ls hG
  unfold so_if at h
  dsimp only at h
  split at h
  · rename_i x rest
    cases h
    have e0 : sa_i V (0, 0) = 0 := (sa_i_0 hG.1.1 0).trans rfl
    exact lv_if_lt hx hb hd ht (fun hp => sa_br_ok sr_lt_ok hG (by rw [e0]; exact hp) (fun S' hS => k S' (List.mem_append_left _ hS))) (fun hp => sa_br_ok sr_nlt_ok hG (by rw [e0]; exact hp) (fun S' hS => k S' (List.mem_append_right _ hS)))
  · cases h
theorem sn_icmp_ge {p : Program} {l : Launch} {e : Env} {R : Room} {s : State} {m : MethodId} {args : Array Value} {below : List Frame} {meth : Method} {c : Code} {Q : State → Prop} {D : va_G} {dA : Nat → ClassId} {A : Nat → Prop} {nL : Nat} {cl : List vw_C} {n0 : Nat} {V0 : sa_V} {Ts : List Cond} {cc : ByteArray} {own : String} (C0 : sa_C p s m args c D dA A nL cl Ts cc own) {pc : Nat} {off : Int} {tgt : Nat} (hd : decode cc pc = .ok (.if_icmp .ge off, 3)) (ht : (pc : Int) + off = (tgt : Int)) : sa_snd p l e R s m args below meth c Q D dA A nL cl n0 V0 pc (so_icmp (sr_flip sr_le) sr_lt tgt) := by
  obtain ⟨hx, hb, hts, hown, hml, hK, hA⟩ := C0
  rintro ⟨pc, lo, st, cs, G, kc, ks⟩ sts rfl h k V H locs ls hG
  unfold so_icmp at h
  dsimp only at h
  split at h
  · rename_i y x rest
    cases h
    exact lv_icmp_ge hx hb hd ht (fun hp => sa_br_ok (sr_flip_ok sr_le_ok) hG hp (fun S' hS => k S' (List.mem_append_left _ hS))) (fun hp => sa_br_ok sr_nle'_ok hG hp (fun S' hS => k S' (List.mem_append_right _ hS)))
  · cases h
theorem sn_if_ge {p : Program} {l : Launch} {e : Env} {R : Room} {s : State} {m : MethodId} {args : Array Value} {below : List Frame} {meth : Method} {c : Code} {Q : State → Prop} {D : va_G} {dA : Nat → ClassId} {A : Nat → Prop} {nL : Nat} {cl : List vw_C} {n0 : Nat} {V0 : sa_V} {Ts : List Cond} {cc : ByteArray} {own : String} (C0 : sa_C p s m args c D dA A nL cl Ts cc own) {pc : Nat} {off : Int} {tgt : Nat} (hd : decode cc pc = .ok (.ifCond .ge off, 3)) (ht : (pc : Int) + off = (tgt : Int)) : sa_snd p l e R s m args below meth c Q D dA A nL cl n0 V0 pc (so_if (sr_flip sr_le) sr_lt tgt) := by
  obtain ⟨hx, hb, hts, hown, hml, hK, hA⟩ := C0
  rintro ⟨pc, lo, st, cs, G, kc, ks⟩ sts rfl h k V H locs ls hG
  unfold so_if at h
  dsimp only at h
  split at h
  · rename_i x rest
    cases h
    have e0 : sa_i V (0, 0) = 0 := (sa_i_0 hG.1.1 0).trans rfl
    exact lv_if_ge hx hb hd ht (fun hp => sa_br_ok (sr_flip_ok sr_le_ok) hG (by rw [e0]; exact hp) (fun S' hS => k S' (List.mem_append_left _ hS))) (fun hp => sa_br_ok sr_nle'_ok hG (by rw [e0]; exact hp) (fun S' hS => k S' (List.mem_append_right _ hS)))
  · cases h
theorem sn_icmp_gt {p : Program} {l : Launch} {e : Env} {R : Room} {s : State} {m : MethodId} {args : Array Value} {below : List Frame} {meth : Method} {c : Code} {Q : State → Prop} {D : va_G} {dA : Nat → ClassId} {A : Nat → Prop} {nL : Nat} {cl : List vw_C} {n0 : Nat} {V0 : sa_V} {Ts : List Cond} {cc : ByteArray} {own : String} (C0 : sa_C p s m args c D dA A nL cl Ts cc own) {pc : Nat} {off : Int} {tgt : Nat} (hd : decode cc pc = .ok (.if_icmp .gt off, 3)) (ht : (pc : Int) + off = (tgt : Int)) : sa_snd p l e R s m args below meth c Q D dA A nL cl n0 V0 pc (so_icmp (sr_flip sr_lt) sr_le tgt) := by
  obtain ⟨hx, hb, hts, hown, hml, hK, hA⟩ := C0
  rintro ⟨pc, lo, st, cs, G, kc, ks⟩ sts rfl h k V H locs ls hG
  unfold so_icmp at h
  dsimp only at h
  split at h
  · rename_i y x rest
    cases h
    exact lv_icmp_gt hx hb hd ht (fun hp => sa_br_ok (sr_flip_ok sr_lt_ok) hG hp (fun S' hS => k S' (List.mem_append_left _ hS))) (fun hp => sa_br_ok sr_nlt'_ok hG hp (fun S' hS => k S' (List.mem_append_right _ hS)))
  · cases h
theorem sn_if_gt {p : Program} {l : Launch} {e : Env} {R : Room} {s : State} {m : MethodId} {args : Array Value} {below : List Frame} {meth : Method} {c : Code} {Q : State → Prop} {D : va_G} {dA : Nat → ClassId} {A : Nat → Prop} {nL : Nat} {cl : List vw_C} {n0 : Nat} {V0 : sa_V} {Ts : List Cond} {cc : ByteArray} {own : String} (C0 : sa_C p s m args c D dA A nL cl Ts cc own) {pc : Nat} {off : Int} {tgt : Nat} (hd : decode cc pc = .ok (.ifCond .gt off, 3)) (ht : (pc : Int) + off = (tgt : Int)) : sa_snd p l e R s m args below meth c Q D dA A nL cl n0 V0 pc (so_if (sr_flip sr_lt) sr_le tgt) := by
  obtain ⟨hx, hb, hts, hown, hml, hK, hA⟩ := C0
  rintro ⟨pc, lo, st, cs, G, kc, ks⟩ sts rfl h k V H locs ls hG
  unfold so_if at h
  dsimp only at h
  split at h
  · rename_i x rest
    cases h
    have e0 : sa_i V (0, 0) = 0 := (sa_i_0 hG.1.1 0).trans rfl
    exact lv_if_gt hx hb hd ht (fun hp => sa_br_ok (sr_flip_ok sr_lt_ok) hG (by rw [e0]; exact hp) (fun S' hS => k S' (List.mem_append_left _ hS))) (fun hp => sa_br_ok sr_nlt'_ok hG (by rw [e0]; exact hp) (fun S' hS => k S' (List.mem_append_right _ hS)))
  · cases h
theorem sn_icmp_le {p : Program} {l : Launch} {e : Env} {R : Room} {s : State} {m : MethodId} {args : Array Value} {below : List Frame} {meth : Method} {c : Code} {Q : State → Prop} {D : va_G} {dA : Nat → ClassId} {A : Nat → Prop} {nL : Nat} {cl : List vw_C} {n0 : Nat} {V0 : sa_V} {Ts : List Cond} {cc : ByteArray} {own : String} (C0 : sa_C p s m args c D dA A nL cl Ts cc own) {pc : Nat} {off : Int} {tgt : Nat} (hd : decode cc pc = .ok (.if_icmp .le off, 3)) (ht : (pc : Int) + off = (tgt : Int)) : sa_snd p l e R s m args below meth c Q D dA A nL cl n0 V0 pc (so_icmp sr_le (sr_flip sr_lt) tgt) := by
  obtain ⟨hx, hb, hts, hown, hml, hK, hA⟩ := C0
  rintro ⟨pc, lo, st, cs, G, kc, ks⟩ sts rfl h k V H locs ls hG
  unfold so_icmp at h
  dsimp only at h
  split at h
  · rename_i y x rest
    cases h
    exact lv_icmp_le hx hb hd ht (fun hp => sa_br_ok sr_le_ok hG hp (fun S' hS => k S' (List.mem_append_left _ hS))) (fun hp => sa_br_ok sr_nle_ok hG hp (fun S' hS => k S' (List.mem_append_right _ hS)))
  · cases h
theorem sn_if_le {p : Program} {l : Launch} {e : Env} {R : Room} {s : State} {m : MethodId} {args : Array Value} {below : List Frame} {meth : Method} {c : Code} {Q : State → Prop} {D : va_G} {dA : Nat → ClassId} {A : Nat → Prop} {nL : Nat} {cl : List vw_C} {n0 : Nat} {V0 : sa_V} {Ts : List Cond} {cc : ByteArray} {own : String} (C0 : sa_C p s m args c D dA A nL cl Ts cc own) {pc : Nat} {off : Int} {tgt : Nat} (hd : decode cc pc = .ok (.ifCond .le off, 3)) (ht : (pc : Int) + off = (tgt : Int)) : sa_snd p l e R s m args below meth c Q D dA A nL cl n0 V0 pc (so_if sr_le (sr_flip sr_lt) tgt) := by
  obtain ⟨hx, hb, hts, hown, hml, hK, hA⟩ := C0
  rintro ⟨pc, lo, st, cs, G, kc, ks⟩ sts rfl h k V H locs ls hG
  unfold so_if at h
  dsimp only at h
  split at h
  · rename_i x rest
    cases h
    have e0 : sa_i V (0, 0) = 0 := (sa_i_0 hG.1.1 0).trans rfl
    exact lv_if_le hx hb hd ht (fun hp => sa_br_ok sr_le_ok hG (by rw [e0]; exact hp) (fun S' hS => k S' (List.mem_append_left _ hS))) (fun hp => sa_br_ok sr_nle_ok hG (by rw [e0]; exact hp) (fun S' hS => k S' (List.mem_append_right _ hS)))
  · cases h
noncomputable def sa_tsw (S : sa_S) (x : Nat × Int) (rest : List sa_v) : Int → List Nat → List sa_S
  | _, [] => []
  | a, t :: l => sa_br sr_eq S x (0, a) t rest ++ sa_tsw S x rest (a + 1) l
theorem sa_tsw_in {S : sa_S} {x : Nat × Int} {rest : List sa_v} : ∀ (l : List Nat) (a : Int) (j t : Nat), l[j]? = some t → ∀ S' ∈ sa_br sr_eq S x (0, a + j) t rest, S' ∈ sa_tsw S x rest a l
  | [], _, _, _, h => by simp at h
  | t0 :: l, a, 0, t, h => by
    cases h
    intro S' hS
    rw [show a + ((0 : Nat) : Int) = a by omega] at hS
    exact List.mem_append_left _ hS
  | t0 :: l, a, j + 1, t, h => by
    intro S' hS
    rw [show a + ((j + 1 : Nat) : Int) = (a + 1) + (j : Int) by omega] at hS
    exact List.mem_append_right _ (sa_tsw_in l (a + 1) j t (by simpa using h) S' hS)
noncomputable def so_tsw (a : Int) (tg : List Nat) (df : Nat) : sa_op := fun S => match S.2.2.1 with
  | .inl x :: rest => match sa_iv S.2.2.2.2.1 x with
    | some b => some (sa_tsw S x rest a tg ++ (if a ≤ b.1 ∧ b.2 < a + tg.length then [] else [(df, S.2.1, rest, S.2.2.2)]))
    | none => none
  | _ => none
theorem sn_tsw {p : Program} {l : Launch} {e : Env} {R : Room} {s : State} {m : MethodId} {args : Array Value} {below : List Frame} {meth : Method} {c : Code} {Q : State → Prop} {D : va_G} {dA : Nat → ClassId} {A : Nat → Prop} {nL : Nat} {cl : List vw_C} {n0 : Nat} {V0 : sa_V} {Ts : List Cond} {cc : ByteArray} {own : String} (C0 : sa_C p s m args c D dA A nL cl Ts cc own) {pc : Nat} {dflt a b : Int} {offs : Array Int} {len df : Nat} {tg : List Nat} (hd : decode cc pc = .ok (.tableswitch dflt a b offs, len)) (hb0 : b = a + tg.length - 1) (ha1 : -2147483648 ≤ a) (ha2 : a + tg.length ≤ 2147483647) (ho : offs.toList.map (fun o => (pc : Int) + o) = tg.map Int.ofNat) (ht : (pc : Int) + dflt = (df : Int)) : sa_snd p l e R s m args below meth c Q D dA A nL cl n0 V0 pc (so_tsw a tg df) := by
  obtain ⟨hx, hb, hts, hown, hml, hK, hA⟩ := C0
  rintro ⟨pc, lo, st, cs, G, kc, ks⟩ sts rfl h k V H locs ls hG
  unfold so_tsw at h
  dsimp only at h
  split at h
  · rename_i x rest
    split at h
    · rename_i bb hbb
      cases h
      obtain ⟨e1, l1, u1⟩ := sa_iv_ok hG.1.1 hbb
      by_cases hin : (sa_i V x).toInt < a ∨ b < (sa_i V x).toInt
      · refine lv_tableOut hx hb hd hin ht ?_
        refine k (df, lo, rest, cs, G, kc, ks) (List.mem_append_right _ ?_) V H locs ls hG
        rw [if_neg (by omega)]
        exact List.mem_cons_self
      · have hj : ((sa_i V x).toInt - a).toNat < offs.toList.length := by
          have hlen : offs.toList.length = tg.length := by rw [← List.length_map (f := fun o => (pc : Int) + o), ho, List.length_map]
          rw [hlen]
          omega
        obtain ⟨off, hoff⟩ : ∃ off, offs.toList[((sa_i V x).toInt - a).toNat]? = some off := ⟨_, List.getElem?_eq_getElem hj⟩
        have h5 : (offs.toList.map (fun o => (pc : Int) + o))[((sa_i V x).toInt - a).toNat]? = some ((pc : Int) + off) := by rw [List.getElem?_map, hoff]; rfl
        rw [ho, List.getElem?_map] at h5
        cases h6 : tg[((sa_i V x).toInt - a).toNat]? with
        | none => rw [h6] at h5; cases h5
        | some t =>
          rw [h6] at h5
          have h7 : (pc : Int) + off = (t : Int) := (Option.some.inj h5).symm
          refine lv_tableIn hx hb hd (fun q => hin (Or.inl q)) (fun q => hin (Or.inr q)) (by rw [← Array.getElem?_toList]; exact hoff) h7 ?_
          refine sa_br_ok (st := .inl x :: rest) (pc0 := pc) (y := (0, a + (((sa_i V x).toInt - a).toNat : Int))) sr_eq_ok hG ?_ (fun S' hS => k S' (List.mem_append_left _ (sa_tsw_in tg a _ t h6 S' hS)))
          show sa_i V x = sa_i V _
          rw [sa_i_0 hG.1.1, show a + (((sa_i V x).toInt - a).toNat : Int) = (sa_i V x).toInt by omega, Int32.ofInt_toInt]
    · cases h
  · cases h
noncomputable def so_lsw (ps : List (Int × Int)) (dflt : Int) : sa_op := fun S => match S.2.2.1 with
  | .inl x :: rest => if x.1 = 0 ∧ -2147483648 ≤ x.2 ∧ x.2 ≤ 2147483647 ∧ 0 ≤ (S.1 : Int) + Op.lookupswitch.offset ps dflt x.2 then some [(((S.1 : Int) + Op.lookupswitch.offset ps dflt x.2).toNat, S.2.1, rest, S.2.2.2)] else none
  | _ => none
theorem sn_lsw {p : Program} {l : Launch} {e : Env} {R : Room} {s : State} {m : MethodId} {args : Array Value} {below : List Frame} {meth : Method} {c : Code} {Q : State → Prop} {D : va_G} {dA : Nat → ClassId} {A : Nat → Prop} {nL : Nat} {cl : List vw_C} {n0 : Nat} {V0 : sa_V} {Ts : List Cond} {cc : ByteArray} {own : String} (C0 : sa_C p s m args c D dA A nL cl Ts cc own) {pc : Nat} {dflt : Int} {ps : Array (Int × Int)} {len : Nat} (hd : decode cc pc = .ok (.lookupswitch dflt ps, len)) (hp : (ps.toList.zip (ps.toList.drop 1)).all (fun (a, next) => a.1 < next.1) = true) : sa_snd p l e R s m args below meth c Q D dA A nL cl n0 V0 pc (so_lsw ps.toList dflt) := by
  obtain ⟨hx, hb, hts, hown, hml, hK, hA⟩ := C0
  rintro ⟨pc, lo, st, cs, G, kc, ks⟩ sts rfl h k V H locs ls hG
  unfold so_lsw at h
  dsimp only at h
  split at h
  · rename_i x rest
    split at h
    · rename_i h1
      cases h
      refine lv_lookup (x := sa_i V x) hx hb hd hp rfl ?_ (k _ List.mem_cons_self V H locs ls hG)
      rw [sa_k0 hG.1.1 h1.1, sa_ofInt_toInt h1.2.1 h1.2.2.1]
      dsimp only
      omega
    · cases h
  · cases h
end SA2
