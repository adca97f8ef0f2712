section SA7
theorem sa_blind {D : va_G} {dA : Nat → ClassId} {cl : List vw_C} {sz : Nat} {V : sa_V} {K : sa_K} : FrameBlind (sa_P D dA cl sz V K) := by
  intro a U g mk q
  obtain ⟨q0, q1, qP, qU, qD⟩ := q
  exact ⟨q0, q1, qP, sa_U.same (u := U) (U := U.calling g mk a) rfl qU, qD⟩
theorem sa_pre {D : va_G} {dA : Nat → ClassId} {cl : List vw_C} {V1 : sa_V} {K : sa_K} {s : State} {H : Heap} {vs : List Value} (hU : sa_U D cl dA s) (hv : vs = K.1.map (sa_val V1)) (hP : va_P D cl (K.2.1.map (sa_e V1 dA)) H) (hD : va_D (fun _ => True) (K.2.1.map (sa_e V1 dA))) : ∀ U : State, U.heap = H → s.WarmedH U.vm → sa_P D dA cl H.size V1 K vs.toArray U :=
  fun U hUH hW => ⟨by rw [hv], by rw [hUH], by rw [hUH]; exact hP, sa_U.warm hW hU, hD⟩
/-- the words of a method: its code's, and the list's -/
theorem sa_good {Ts : List Cond} (hg : ∀ w ∈ Ts, goodWord w = true) {w : Cond} (h : w ∈ Ts) : GoodIn Ts (w :: Ts) := by
  intro u hu
  rcases List.mem_cons.mp hu with rfl | hu
  · exact ⟨h, good_of_word (hg _ h)⟩
  · exact ⟨hu, good_of_word (hg _ hu)⟩
theorem sa_goodV {Ts : List Cond} (hg : ∀ w ∈ Ts, goodWord w = true) {w : Cond} (h : w ∈ Ts) {l : List Cond} (hl : ∀ u ∈ l, u ∈ Ts) : GoodIn Ts (l ++ (w :: Ts)) := by
  intro u hu
  rcases List.mem_append.mp hu with hu | hu
  · exact ⟨hl u hu, good_of_word (hg _ (hl u hu))⟩
  · exact sa_good hg h u hu
noncomputable def sa_arg (y : MethodName) (n : Nat) : Prop := y.cls ≠ "java/lang/invoke/MethodHandle" ∧ y.cls ≠ "java/lang/invoke/VarHandle" ∧ (parseMethodDescriptor y.desc).map (fun d => d.parameters.length) = some n
theorem sa_take {st As rest : List sa_v} {n : Nat} (h : st = As.reverse ++ rest) (hl : As.length = n) : (st.take n).reverse = As := by
  rw [h, List.take_append_of_le_length (by rw [List.length_reverse]; omega), List.take_of_length_le (by rw [List.length_reverse]; omega), List.reverse_reverse]
theorem sa_stk {V : sa_V} {v : sa_v} {As rest : List sa_v} : ((v :: As).reverse ++ rest).map (sa_val V) = (As.map (sa_val V)).reverse ++ sa_val V v :: rest.map (sa_val V) := by
  rw [List.reverse_cons, List.map_append, List.map_append, List.map_reverse, List.append_assoc]
  rfl
noncomputable def so_callV (ci : Nat) (K : sa_K) (maxC maxS : Nat) : sa_op := fun S => match (S.2.2.1.take K.1.length).reverse with
  | .inr (.inl (some a)) :: _ => match sa_find a S.2.2.2.1 0 with
    | some (_, .inl (cj, _)) => if cj = ci then so_call K maxC maxS S else none
    | _ => none
  | _ => none
noncomputable def so_callI (K : sa_K) (maxC maxS : Nat) : sa_op := fun S => match (S.2.2.1.take K.1.length).reverse with
  | .inr (.inl (some _)) :: _ => so_call K maxC maxS S
  | _ => none
theorem sn_callV {p : Program} {l : Launch} {e : Env} {R : Room} {s : State} {m : MethodId} {args : Array Value} {below : List Frame} {meth : Method} {c : Code} {Q : State → Prop} {D : va_G} {dA : Nat → ClassId} {A : Nat → Prop} {nL : Nat} {cl : List vw_C} {n0 : Nat} {V0 : sa_V} {Ts : List Cond} {cc : ByteArray} {own : String} (C0 : sa_C p s m args c D dA A nL cl Ts cc own) {pc : Nat} {K : sa_K} {y : MethodName} {cy : ByteArray} {mL fr lc idx n maxC maxS : Nat} {ret : Option FieldType} {ci N : Nat} {T : u_T} (hU : sa_U D cl dA s) (hg : ∀ w ∈ Ts, goodWord w = true) (hM : sa_Met l cl Ts y cy mL ret fr lc K) (hcode : Cond.code y cy mL ret ∈ Ts) (hd : decode cc pc = .ok (.invokevirtual idx, 3)) (w1 : Cond.methodLink own idx y ∈ Ts) (w2 : Cond.instanceMethod y ∈ Ts) (w3 : Cond.selects y.cls y y ∈ Ts) (w4 : Cond.initialized y.cls ∈ Ts) (hcl : cl[ci]? = some (y.cls, T, N)) (hy : sa_arg y n) (hn : K.1.length = n + 1) (hR : fr + 1 ≤ R.frames ∧ 8 + (mL + 11) + lc ≤ R.locals) (hC : maxC ≤ R.cells) (hS0 : maxS ≤ R.slots) : sa_snd p l e R s m args below meth c Q D dA A nL cl n0 V0 pc (so_callV ci K maxC maxS) := by
  obtain ⟨hx, hb, hts, hown, hml, hK, hA⟩ := C0
  rintro ⟨pc, lo, st, cs, G, kc, ks⟩ sts rfl h k V H locs ls hG
  unfold so_callV at h
  dsimp only at h
  split at h
  · rename_i b As0 heq
    split at h
    · rename_i j cj fs hj
      split at h
      · rename_i hcj
        subst hcj
        refine sa_call_ok (a := #[]) hA h k hG (fun As rest V1 hst hargs hAl hI1 hsum hP1 hD1 hc1 hs1 => ?_)
        have e1 := (sa_take hst hAl).symm.trans heq
        subst e1
        have rv := va_recv (D := D) hK hG.2.2.1 hcl (sa_find_0 (V := V) (dA := dA) hj)
        exact va_runV (C := y.cls) (bytes := cy) (maxL := mL) (ret := ret) (b := sa_ad V b) (As := As0.map (sa_val V)) (n := n) ⟨hx, hb, hml, hown, hts⟩ (hM D dA H.size V1 hI1) (cwV n hts (sa_goodV hg hcode (by intro u hu; simp only [List.mem_cons, List.not_mem_nil, or_false] at hu; rcases hu with rfl | rfl | rfl | rfl <;> assumption)) rfl rfl rfl ⟨rfl, hy⟩ hR) ⟨sa_blind, rv, sa_pre hU hargs hP1 hD1⟩ rfl (by rw [List.length_map]; rw [List.length_cons] at hAl; omega) hG.2.1.1 (by show st.map (sa_val V) = _; rw [show st = _ from hst]; exact sa_stk) (lv_room hsum) hd ⟨Nat.le_trans hc1 hC, Nat.le_trans hs1 hS0⟩
      · cases h
    · cases h
  · cases h
theorem sn_callVN {p : Program} {l : Launch} {e : Env} {R : Room} {s : State} {m : MethodId} {args : Array Value} {below : List Frame} {meth : Method} {c : Code} {Q : State → Prop} {D : va_G} {dA : Nat → ClassId} {A : Nat → Prop} {nL : Nat} {cl : List vw_C} {n0 : Nat} {V0 : sa_V} {Ts : List Cond} {cc : ByteArray} {own : String} (C0 : sa_C p s m args c D dA A nL cl Ts cc own) {pc : Nat} {K : sa_K} {y : MethodName} {cy : ByteArray} {mL fr lc idx n maxC maxS : Nat} {ret : Option FieldType} {ci N : Nat} {T : u_T} {host : String} (hU : sa_U D cl dA s) (hg : ∀ w ∈ Ts, goodWord w = true) (hM : sa_Met l cl Ts y cy mL ret fr lc K) (hcode : Cond.code y cy mL ret ∈ Ts) (hd : decode cc pc = .ok (.invokevirtual idx, 3)) (w1 : (own, idx, y, host) ∈ sa_NL) (w2 : Cond.instanceMethod y ∈ Ts) (w3 : Cond.selects y.cls y y ∈ Ts) (w4 : Cond.initialized y.cls ∈ Ts) (hcl : cl[ci]? = some (y.cls, T, N)) (hy : sa_arg y n) (hn : K.1.length = n + 1) (hR : fr + 1 ≤ R.frames ∧ 8 + (mL + 11) + lc ≤ R.locals) (hC : maxC ≤ R.cells) (hS0 : maxS ≤ R.slots) : sa_snd p l e R s m args below meth c Q D dA A nL cl n0 V0 pc (so_callV ci K maxC maxS) := by
  obtain ⟨hx, hb, hts, hown, hml, hK, hA⟩ := C0
  rintro ⟨pc, lo, st, cs, G, kc, ks⟩ sts rfl h k V H locs ls hG
  unfold so_callV at h
  dsimp only at h
  split at h
  · rename_i b As0 heq
    split at h
    · rename_i j cj fs hj
      split at h
      · rename_i hcj
        subst hcj
        refine sa_call_ok (a := #[]) hA h k hG (fun As rest V1 hst hargs hAl hI1 hsum hP1 hD1 hc1 hs1 => ?_)
        have e1 := (sa_take hst hAl).symm.trans heq
        subst e1
        have rv := va_recv (D := D) hK hG.2.2.1 hcl (sa_find_0 (V := V) (dA := dA) hj)
        exact va_runVN (C := y.cls) (host := host) (bytes := cy) (maxL := mL) (ret := ret) (b := sa_ad V b) (As := As0.map (sa_val V)) (n := n) ⟨hx, hb, hml, hown, hts⟩ (hM D dA H.size V1 hI1) ⟨va_cnB n hts (sa_good hg hcode) rfl rfl rfl (hU.2.2.2 _ w1) (hts _ w4) hy hR, hts _ w2, hts _ w3⟩ ⟨sa_blind, rv, sa_pre hU hargs hP1 hD1⟩ rfl (by rw [List.length_map]; rw [List.length_cons] at hAl; omega) hG.2.1.1 (by show st.map (sa_val V) = _; rw [show st = _ from hst]; exact sa_stk) (lv_room hsum) hd ⟨Nat.le_trans hc1 hC, Nat.le_trans hs1 hS0⟩
      · cases h
    · cases h
  · cases h
theorem sn_callI {p : Program} {l : Launch} {e : Env} {R : Room} {s : State} {m : MethodId} {args : Array Value} {below : List Frame} {meth : Method} {c : Code} {Q : State → Prop} {D : va_G} {dA : Nat → ClassId} {A : Nat → Prop} {nL : Nat} {cl : List vw_C} {n0 : Nat} {V0 : sa_V} {Ts : List Cond} {cc : ByteArray} {own : String} (C0 : sa_C p s m args c D dA A nL cl Ts cc own) {pc : Nat} {K : sa_K} {y : MethodName} {cy : ByteArray} {mL fr lc idx n maxC maxS : Nat} {ret : Option FieldType}  (hU : sa_U D cl dA s) (hg : ∀ w ∈ Ts, goodWord w = true) (hM : sa_Met l cl Ts y cy mL ret fr lc K) (hcode : Cond.code y cy mL ret ∈ Ts) (hd : decode cc pc = .ok (.invokespecial idx, 3)) (w1 : Cond.methodLink own idx y ∈ Ts) (w2 : Cond.instanceMethod y ∈ Ts) (w4 : Cond.initialized y.cls ∈ Ts) (hy1 : y.name = "<init>") (hret : ret = none) (hy : sa_arg y n) (hn : K.1.length = n + 1) (hR : fr + 1 ≤ R.frames ∧ 8 + (mL + 11) + lc ≤ R.locals) (hC : maxC ≤ R.cells) (hS0 : maxS ≤ R.slots) : sa_snd p l e R s m args below meth c Q D dA A nL cl n0 V0 pc (so_callI K maxC maxS) := by
  obtain ⟨hx, hb, hts, hown, hml, hK, hA⟩ := C0
  rintro ⟨pc, lo, st, cs, G, kc, ks⟩ sts rfl h k V H locs ls hG
  unfold so_callI at h
  dsimp only at h
  split at h
  · rename_i b As0 heq
    refine sa_call_ok (a := #[]) hA h k hG (fun As rest V1 hst hargs hAl hI1 hsum hP1 hD1 hc1 hs1 => ?_)
    have e1 := (sa_take hst hAl).symm.trans heq
    subst e1
    exact va_runI (bytes := cy) (maxL := mL) (b := sa_ad V b) (As := As0.map (sa_val V)) (n := n) ⟨hx, hb, hml, hown, hts⟩ (hM D dA H.size V1 hI1) (by subst hret; exact cwI n hts (sa_good hg hcode) rfl rfl rfl (hts _ w4) (hts _ w1) (hts _ w2) hy1 hy hR) ⟨sa_blind, sa_pre hU hargs hP1 hD1⟩ rfl (by rw [List.length_map]; rw [List.length_cons] at hAl; omega) hG.2.1.1 (by show st.map (sa_val V) = _; rw [show st = _ from hst]; exact sa_stk) (lv_room hsum) hd ⟨Nat.le_trans hc1 hC, Nat.le_trans hs1 hS0⟩
  · cases h
theorem sn_callIN {p : Program} {l : Launch} {e : Env} {R : Room} {s : State} {m : MethodId} {args : Array Value} {below : List Frame} {meth : Method} {c : Code} {Q : State → Prop} {D : va_G} {dA : Nat → ClassId} {A : Nat → Prop} {nL : Nat} {cl : List vw_C} {n0 : Nat} {V0 : sa_V} {Ts : List Cond} {cc : ByteArray} {own : String} (C0 : sa_C p s m args c D dA A nL cl Ts cc own) {pc : Nat} {K : sa_K} {y : MethodName} {cy : ByteArray} {mL fr lc idx n maxC maxS : Nat} {ret : Option FieldType} {host : String} (hU : sa_U D cl dA s) (hg : ∀ w ∈ Ts, goodWord w = true) (hM : sa_Met l cl Ts y cy mL ret fr lc K) (hcode : Cond.code y cy mL ret ∈ Ts) (hd : decode cc pc = .ok (.invokespecial idx, 3)) (w1 : (own, idx, y, host) ∈ sa_NL) (w2 : Cond.instanceMethod y ∈ Ts) (w4 : Cond.initialized y.cls ∈ Ts) (hy1 : y.name = "<init>") (hret : ret = none) (hy : sa_arg y n) (hn : K.1.length = n + 1) (hR : fr + 1 ≤ R.frames ∧ 8 + (mL + 11) + lc ≤ R.locals) (hC : maxC ≤ R.cells) (hS0 : maxS ≤ R.slots) : sa_snd p l e R s m args below meth c Q D dA A nL cl n0 V0 pc (so_callI K maxC maxS) := by
  obtain ⟨hx, hb, hts, hown, hml, hK, hA⟩ := C0
  rintro ⟨pc, lo, st, cs, G, kc, ks⟩ sts rfl h k V H locs ls hG
  unfold so_callI at h
  dsimp only at h
  split at h
  · rename_i b As0 heq
    refine sa_call_ok (a := #[]) hA h k hG (fun As rest V1 hst hargs hAl hI1 hsum hP1 hD1 hc1 hs1 => ?_)
    have e1 := (sa_take hst hAl).symm.trans heq
    subst e1
    exact va_runIN (host := host) (bytes := cy) (maxL := mL) (b := sa_ad V b) (As := As0.map (sa_val V)) (n := n) ⟨hx, hb, hml, hown, hts⟩ (hM D dA H.size V1 hI1) (by subst hret; exact ⟨va_cnB n hts (sa_good hg hcode) rfl rfl rfl (hU.2.2.2 _ w1) (hts _ w4) hy hR, hy1, hts _ w2⟩) ⟨sa_blind, sa_pre hU hargs hP1 hD1⟩ rfl (by rw [List.length_map]; rw [List.length_cons] at hAl; omega) hG.2.1.1 (by show st.map (sa_val V) = _; rw [show st = _ from hst]; exact sa_stk) (lv_room hsum) hd ⟨Nat.le_trans hc1 hC, Nat.le_trans hs1 hS0⟩
  · cases h
theorem sn_callS {p : Program} {l : Launch} {e : Env} {R : Room} {s : State} {m : MethodId} {args : Array Value} {below : List Frame} {meth : Method} {c : Code} {Q : State → Prop} {D : va_G} {dA : Nat → ClassId} {A : Nat → Prop} {nL : Nat} {cl : List vw_C} {n0 : Nat} {V0 : sa_V} {Ts : List Cond} {cc : ByteArray} {own : String} (C0 : sa_C p s m args c D dA A nL cl Ts cc own) {pc : Nat} {K : sa_K} {y : MethodName} {cy : ByteArray} {mL fr lc idx n maxC maxS : Nat} {ret : Option FieldType}  (hU : sa_U D cl dA s) (hg : ∀ w ∈ Ts, goodWord w = true) (hM : sa_Met l cl Ts y cy mL ret fr lc K) (hcode : Cond.code y cy mL ret ∈ Ts) (hd : decode cc pc = .ok (.invokestatic idx, 3)) (w1 : Cond.methodLink own idx y ∈ Ts) (w2 : Cond.static y ∈ Ts) (w4 : Cond.initialized y.cls ∈ Ts) (hy : sa_arg y n) (hn : K.1.length = n) (hR : fr + 1 ≤ R.frames ∧ 8 + (mL + 11) + lc ≤ R.locals) (hC : maxC ≤ R.cells) (hS0 : maxS ≤ R.slots) : sa_snd p l e R s m args below meth c Q D dA A nL cl n0 V0 pc (so_call K maxC maxS) := by
  obtain ⟨hx, hb, hts, hown, hml, hK, hA⟩ := C0
  rintro ⟨pc, lo, st, cs, G, kc, ks⟩ sts rfl h k V H locs ls hG
  refine sa_call_ok (a := #[]) hA h k hG (fun As rest V1 hst hargs hAl hI1 hsum hP1 hD1 hc1 hs1 => ?_)
  exact va_runS (bytes := cy) (maxL := mL) (ret := ret) (As := As.map (sa_val V)) (n := n) ⟨hx, hb, hml, hown, hts⟩ (hM D dA H.size V1 hI1) (va_cwS n hts (sa_goodV hg hcode (by intro u hu; simp only [List.mem_cons, List.not_mem_nil, or_false] at hu; rcases hu with rfl | rfl | rfl <;> assumption)) rfl rfl rfl hy hR) ⟨sa_blind, sa_pre hU hargs hP1 hD1⟩ rfl (by rw [List.length_map, hAl, hn]) hG.2.1.1 (by show st.map (sa_val V) = _; rw [show st = _ from hst, List.map_append, List.map_reverse]) (lv_room hsum) hd ⟨Nat.le_trans hc1 hC, Nat.le_trans hs1 hS0⟩
theorem sn_callSN {p : Program} {l : Launch} {e : Env} {R : Room} {s : State} {m : MethodId} {args : Array Value} {below : List Frame} {meth : Method} {c : Code} {Q : State → Prop} {D : va_G} {dA : Nat → ClassId} {A : Nat → Prop} {nL : Nat} {cl : List vw_C} {n0 : Nat} {V0 : sa_V} {Ts : List Cond} {cc : ByteArray} {own : String} (C0 : sa_C p s m args c D dA A nL cl Ts cc own) {pc : Nat} {K : sa_K} {y : MethodName} {cy : ByteArray} {mL fr lc idx n maxC maxS : Nat} {ret : Option FieldType} {host : String} (hU : sa_U D cl dA s) (hg : ∀ w ∈ Ts, goodWord w = true) (hM : sa_Met l cl Ts y cy mL ret fr lc K) (hcode : Cond.code y cy mL ret ∈ Ts) (hd : decode cc pc = .ok (.invokestatic idx, 3)) (w1 : (own, idx, y, host) ∈ sa_NL) (w2 : Cond.static y ∈ Ts) (w4 : Cond.initialized y.cls ∈ Ts) (hy : sa_arg y n) (hn : K.1.length = n) (hR : fr + 1 ≤ R.frames ∧ 8 + (mL + 11) + lc ≤ R.locals) (hC : maxC ≤ R.cells) (hS0 : maxS ≤ R.slots) : sa_snd p l e R s m args below meth c Q D dA A nL cl n0 V0 pc (so_call K maxC maxS) := by
  obtain ⟨hx, hb, hts, hown, hml, hK, hA⟩ := C0
  rintro ⟨pc, lo, st, cs, G, kc, ks⟩ sts rfl h k V H locs ls hG
  refine sa_call_ok (a := #[]) hA h k hG (fun As rest V1 hst hargs hAl hI1 hsum hP1 hD1 hc1 hs1 => ?_)
  exact va_runSN (host := host) (bytes := cy) (maxL := mL) (ret := ret) (As := As.map (sa_val V)) (n := n) ⟨hx, hb, hml, hown, hts⟩ (hM D dA H.size V1 hI1) ⟨va_cnB n hts (sa_good hg hcode) rfl rfl rfl (hU.2.2.2 _ w1) (hts _ w4) hy hR, hts _ w2, trivial⟩ ⟨sa_blind, sa_pre hU hargs hP1 hD1⟩ rfl (by rw [List.length_map, hAl, hn]) hG.2.1.1 (by show st.map (sa_val V) = _; rw [show st = _ from hst, List.map_append, List.map_reverse]) (lv_room hsum) hd ⟨Nat.le_trans hc1 hC, Nat.le_trans hs1 hS0⟩
noncomputable def so_obj : sa_op := fun S => match S.2.2.1 with
  | .inr (.inl (some _)) :: rest => if (rest.map sa_cat).sum ≤ 8 then some [(S.1 + 3, S.2.1, rest, S.2.2.2)] else none
  | _ => none
theorem sn_obj {p : Program} {l : Launch} {e : Env} {R : Room} {s : State} {m : MethodId} {args : Array Value} {below : List Frame} {meth : Method} {c : Code} {Q : State → Prop} {D : va_G} {dA : Nat → ClassId} {A : Nat → Prop} {nL : Nat} {cl : List vw_C} {n0 : Nat} {V0 : sa_V} {Ts : List Cond} {cc : ByteArray} {own : String} (C0 : sa_C p s m args c D dA A nL cl Ts cc own) {pc idx : Nat} (hd : decode cc pc = .ok (.invokespecial idx, 3)) (w1 : Cond.methodLink own idx Lib.objectInit ∈ Ts) (w2 : Cond.instanceMethod Lib.objectInit ∈ Ts) (w3 : Cond.code Lib.objectInit ⟨#[0xb1]⟩ 1 none ∈ Ts) (hR1 : 1 ≤ R.frames) (hR2 : 20 ≤ R.locals) : sa_snd p l e R s m args below meth c Q D dA A nL cl n0 V0 pc so_obj := by
  obtain ⟨hx, hb, hts, hown, hml, hK, hA⟩ := C0
  rintro ⟨pc, lo, st, cs, G, kc, ks⟩ sts rfl h k V H locs ls hG
  unfold so_obj at h
  dsimp only at h
  split at h
  · rename_i a rest
    split at h
    · rename_i h1
      cases h
      refine W.objInit hx hb hown (hts _ w1) (hts _ w2) (hts _ w3) rfl (by rw [hml]; exact hG.2.1.1) rfl hd hR1 ?_ (k _ List.mem_cons_self V H locs ls hG)
      have e1 := sa_sum V rest
      have e2 := lv_room (m := m) (pc := pc) (ls := ls) (rest := rest.map (sa_val V)) (st := rest.map (sa_val V)) (by rw [e1]; exact h1)
      have e3 : 2 * (F0 m pc ls (List.map (sa_val V) (.inr (.inl (some a)) :: rest))).monitorRoom + ((rest.map (sa_val V)).map (fun v => v.category)).sum ≤ 8 := e2
      exact Nat.le_trans (Nat.add_le_add_right e3 12) hR2
    · cases h
  · cases h
end SA7
