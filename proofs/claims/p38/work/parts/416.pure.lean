section TYG
noncomputable def tb_hb (x k : Int32) : Int32 := (x >>> (k &&& 31)) &&& 1
theorem tb_hb01 (x k : Int32) : tb_hb x k = 0 ∨ tb_hb x k = 1 := by
  have h := sa_and_mask (x >>> (k &&& 31)) (n := 1) (by decide) (by decide)
  exact sa_01 h.1 h.2
theorem tb_hb_lt {x : Int32} {b : Nat} (hb : b < 31) (h0 : 0 ≤ x.toInt) (h1 : x.toInt < ((2 ^ b : Nat) : Int)) : tb_hb x (Int32.ofInt (b : Int)) = 0 := by
  have e1 : ∀ n : Fin 31, (Int32.ofInt ((n : Nat) : Int) &&& 31).toBitVec.smod 32 = BitVec.ofNat 32 (n : Nat) := by decide
  have e2 : x >>> (Int32.ofInt (b : Int) &&& 31) = 0 := by
    apply Int32.toBitVec_inj.mp
    rw [Int32.toBitVec_shiftRight, e1 ⟨b, hb⟩]
    show x.toBitVec.sshiftRight (BitVec.ofNat 32 b).toNat = 0#32
    have hm : x.toBitVec.msb = false := by
      rw [BitVec.msb_eq_false_iff_two_mul_lt]
      have h2 := tf_nn h0
      have h3 := Int32.toInt_lt x
      simp at h3
      omega
    rw [BitVec.sshiftRight_eq_of_msb_false hm]
    apply BitVec.eq_of_toNat_eq
    rw [BitVec.toNat_ushiftRight, BitVec.toNat_ofNat, Nat.mod_eq_of_lt (by omega), Nat.shiftRight_eq_div_pow]
    rw [tf_nn h0] at h1
    have h4 : x.toBitVec.toNat < 2 ^ b := by exact_mod_cast h1
    rw [Nat.div_eq_of_lt h4]
    rfl
  unfold tb_hb
  rw [e2]
  decide
/-- a method of two ints that answers a bit, and changes nothing -/
noncomputable def tb_Pu (l : Launch) (Ts : List Cond) (y : MethodName) (cc : ByteArray) (maxL : Nat) (ret : Option FieldType) (fr lc : Nat) : Prop :=
  ∀ (x k : Int32), Met l y (Cond.code y cc maxL ret :: Ts) { frames := fr, cells := 0, slots := 0, locals := lc } (fun v _ => v = [Value.int x, Value.int k].toArray) (fun _ st oc t => oc = .returned (some (.int (tb_hb x k))) ∧ t.heap = st.heap) 0 0 (fun _ => False)
theorem tb_bit {l : Launch} {Ts : List Cond} {y : MethodName} {cc : ByteArray} {fr lc : Nat} (hy : plainName y.cls = true) (d0 : decode cc 0 = .ok (.iload_n 0, 1)) (d1 : decode cc 1 = .ok (.iload_n 1, 1)) (d2 : decode cc 2 = .ok (.ishr, 1)) (d3 : decode cc 3 = .ok (.iconst 1, 1)) (d4 : decode cc 4 = .ok (.iand, 1)) (d5 : decode cc 5 = .ok (.ireturn, 1)) : tb_Pu l Ts y cc 2 (some .int) fr lc := by
  intro x k
  refine Met.ofW (cc := cc) (maxL := 2) (ret := some .int) hy rfl ?_
  intro p e s m args below meth c s₁ B hml hv
  subst hv
  have hl := lv_entry [Value.int x, Value.int k] (n := 2) (Nat.le_refl 2)
  rw [lg_entry_eq]
  refine lv_iload_n B.exec B.bytes d0 rfl (hl.2.2 (0, .int x) List.mem_cons_self) ?_
  refine lv_iload_n B.exec B.bytes d1 rfl (hl.2.2 (1, .int k) (List.mem_cons_of_mem _ List.mem_cons_self)) ?_
  refine lv_ishr B.exec B.bytes d2 ?_
  refine lv_iconst (v := 1) B.exec B.bytes d3 rfl ?_
  refine lv_iand B.exec B.bytes d4 ?_
  exact W.zret (v := tb_hb x k) B.exec B.bytes B.returns rfl (fun t ht _ => ⟨rfl, ht⟩) (fun q hq => by cases hq) d5
theorem tb_has {l : Launch} {Ts : List Cond} {y : MethodName} {cc : ByteArray} {fr lc : Nat} (hy : plainName y.cls = true) (d0 : decode cc 0 = .ok (.iload_n 0, 1)) (d1 : decode cc 1 = .ok (.iload_n 1, 1)) (d2 : decode cc 2 = .ok (.ishr, 1)) (d3 : decode cc 3 = .ok (.iconst 1, 1)) (d4 : decode cc 4 = .ok (.iand, 1)) (d5 : decode cc 5 = .ok (.iconst 1, 1)) (d6 : decode cc 6 = .ok (.if_icmp .ne 7, 3)) (d9 : decode cc 9 = .ok (.iconst 1, 1)) (d10 : decode cc 10 = .ok (.goto 4, 3)) (d13 : decode cc 13 = .ok (.iconst 0, 1)) (d14 : decode cc 14 = .ok (.ireturn, 1)) : tb_Pu l Ts y cc 2 (some .boolean) fr lc := by
  intro x k
  refine Met.ofW (cc := cc) (maxL := 2) (ret := some .boolean) hy rfl ?_
  intro p e s m args below meth c s₁ B hml hv
  subst hv
  have hl := lv_entry [Value.int x, Value.int k] (n := 2) (Nat.le_refl 2)
  rw [lg_entry_eq]
  refine lv_iload_n B.exec B.bytes d0 rfl (hl.2.2 (0, .int x) List.mem_cons_self) ?_
  refine lv_iload_n B.exec B.bytes d1 rfl (hl.2.2 (1, .int k) (List.mem_cons_of_mem _ List.mem_cons_self)) ?_
  refine lv_ishr B.exec B.bytes d2 ?_
  refine lv_iconst (v := 1) B.exec B.bytes d3 rfl ?_
  refine lv_iand B.exec B.bytes d4 ?_
  refine lv_iconst (v := 1) B.exec B.bytes d5 rfl ?_
  refine lv_icmp_ne (tgt := 13) B.exec B.bytes d6 rfl (fun h => ?_) (fun h => ?_)
  · refine lv_iconst (v := 0) B.exec B.bytes d13 rfl ?_
    have h0 : tb_hb x k = 0 := (tb_hb01 x k).resolve_right h
    exact W.zret (v := 0) B.exec B.bytes B.returns rfl (fun t ht _ => ⟨by rw [h0], ht⟩) (fun q hq => by cases hq) d14
  · refine lv_iconst (v := 1) B.exec B.bytes d9 rfl ?_
    refine lv_goto (tgt := 14) B.exec B.bytes d10 rfl ?_
    have h0 : tb_hb x k = 1 := h
    exact W.zret (v := 1) B.exec B.bytes B.returns rfl (fun t ht _ => ⟨by rw [h0], ht⟩) (fun q hq => by cases hq) d14
noncomputable def to_has (maxC maxS : Nat) : tb_op := fun S => match S.2.2.1 with
  | .inl k :: .inl x :: rest => if S.2.2.2.2.2.1 ≤ maxC ∧ S.2.2.2.2.2.2 ≤ maxS ∧ (rest.map sa_cat).sum ≤ 8 then match sa_kv S.2.2.2.2.1 x, sa_kv S.2.2.2.2.1 k with
    | some a, some b => some [(S.1 + 3, S.2.1, .inl (0, (tb_hb (Int32.ofInt a) (Int32.ofInt b)).toInt) :: rest, S.2.2.2)]
    | _, _ => match sa_iv S.2.2.2.2.1 x, sa_kv S.2.2.2.2.1 k with
      | some a, some b => if 0 ≤ b ∧ b ≤ 30 ∧ 0 ≤ a.1 then some ((if ((2 ^ b.toNat : Nat) : Int) ≤ a.2 then [(S.1 + 3, S.2.1, .inl (0, 1) :: rest, S.2.2.2.1, sa_lw S.2.2.2.2.1 x.1 (((2 ^ b.toNat : Nat) : Int) - x.2), S.2.2.2.2.2)] else []) ++ [(S.1 + 3, S.2.1, .inl (0, 0) :: rest, S.2.2.2)]) else tb_push (S.1 + 3) S.2.1 rest S.2.2.2.1 S.2.2.2.2.1 S.2.2.2.2.2.1 S.2.2.2.2.2.2 (.inr (0, 1))
      | _, _ => tb_push (S.1 + 3) S.2.1 rest S.2.2.2.1 S.2.2.2.2.1 S.2.2.2.2.2.1 S.2.2.2.2.2.2 (.inr (0, 1))
    else none
  | _ => none
theorem tb_has_ok {p : Program} {l : Launch} {e : Env} {R : Room} {s : State} {m : MethodId} {args : Array Value} {below : List Frame} {meth : Method} {c : Code} {Q : State → Prop} {D : va_G} {dA : Nat → ClassId} {A : Nat → Prop} {nL : Nat} {cl : List vw_C} {n0 : Nat} {V0 : sa_V} {E : tb_E} {maxC maxS pc : Nat} {lo : sa_L} {st : List sa_v} {cs : tb_c} {G : sa_B} {kc ks : Nat} {sts : List tb_S} {V : sa_V} {H : Heap} {locs : List Loc} {ls : Array Slot} (h : to_has maxC maxS (pc, lo, st, cs, G, kc, ks) = some sts) (k : ∀ S' ∈ sts, tb_W p l e R s m args below meth c Q D dA A nL cl n0 V0 E S') (hG : tb_G D dA A nL cl n0 V0 E s.heap V lo cs G H locs ls)
    (vr : ∀ (u v : Int32) (rest : List Value), st.map (sa_val V) = .int v :: .int u :: rest → (rest.map (fun v => v.category)).sum ≤ 8 → kc ≤ maxC → ks ≤ maxS → va_Run p l e R s m args below meth c H locs kc ks 0 0 (F0 m pc ls (st.map (sa_val V))) rest (fun st oc t => oc = .returned (some (.int (tb_hb u v))) ∧ t.heap = st.heap) (fun _ => False)) :
    W p l e R s m args below meth c H locs kc ks Q (F0 m pc ls (st.map (sa_val V))) := by
  unfold to_has at h
  dsimp only at h
  split at h
  · rename_i k9 x9 rest
    split at h
    · rename_i hh
      obtain ⟨h1, h2, h3⟩ := hh
      have hrun := vr (sa_i V x9) (sa_i V k9) (rest.map (sa_val V)) rfl (by rw [sa_sum]; exact h3) h1 h2
      have key : W p l e R s m args below meth c H locs kc ks Q (F0 m (pc + 3) ls (.int (tb_hb (sa_i V x9) (sa_i V k9)) :: rest.map (sa_val V))) := by
        split at h
        · rename_i a b ha hb
          cases h
          have h9 := k _ List.mem_cons_self V H locs ls hG
          rw [sa_kv_ok hG.1.1 ha, sa_kv_ok hG.1.1 hb]
          have e9 : sa_val V (.inl (0, (tb_hb (Int32.ofInt a) (Int32.ofInt b)).toInt)) = .int (tb_hb (Int32.ofInt a) (Int32.ofInt b)) := by
            show Value.int (sa_i V _) = _
            rw [sa_i_0 hG.1.1, Int32.ofInt_toInt]
          dsimp only at h9
          rw [List.map_cons, e9] at h9
          exact h9
        · have h01 : sa_is V (.inr (0, 1)) (tb_hb (sa_i V x9) (sa_i V k9)) := by
            rcases tb_hb01 (sa_i V x9) (sa_i V k9) with q | q <;> rw [q] <;> exact ⟨by decide, by decide⟩
          split at h
          · rename_i a b ha hb
            split at h
            · rename_i hc
              cases h
              obtain ⟨e1, l1, u1⟩ := sa_iv_ok hG.1.1 ha
              have ek : sa_i V k9 = Int32.ofInt ((b.toNat : Nat) : Int) := by rw [sa_kv_ok hG.1.1 hb, show ((b.toNat : Nat) : Int) = b by omega]
              rcases tb_hb01 (sa_i V x9) (sa_i V k9) with q | q
              · have h9 := k _ (List.mem_append_right _ List.mem_cons_self) V H locs ls hG
                dsimp only at h9
                rw [List.map_cons] at h9
                have e9 : sa_val V (.inl (0, 0)) = .int 0 := by
                  show Value.int (sa_i V _) = _
                  rw [sa_i_0 hG.1.1]
                  rfl
                rw [e9] at h9
                rw [q]
                exact h9
              · have hge : ((2 ^ b.toNat : Nat) : Int) ≤ (sa_i V x9).toInt := by
                  by_cases hlt : (sa_i V x9).toInt < ((2 ^ b.toNat : Nat) : Int)
                  · rw [ek, tb_hb_lt (by omega) (by omega) hlt] at q
                    exact absurd q (by decide)
                  · omega
                have h9 := k (pc + 3, lo, .inl (0, 1) :: rest, cs, sa_lw G x9.1 (((2 ^ b.toNat : Nat) : Int) - x9.2), kc, ks) (List.mem_append_left _ (by rw [if_pos (by omega)]; exact List.mem_cons_self)) V H locs ls ⟨⟨sa_I_lw hG.1.1 (by omega), by show n0 ≤ (sa_lw G x9.1 _).length; rw [sa_lw_len]; exact hG.1.2.1, hG.1.2.2⟩, hG.2⟩
                dsimp only at h9
                rw [List.map_cons] at h9
                have e9 : sa_val V (.inl (0, 1)) = .int 1 := by
                  show Value.int (sa_i V _) = _
                  rw [sa_i_0 hG.1.1]
                  rfl
                rw [e9] at h9
                rw [q]
                exact h9
            · exact tb_push_ok hG h01 h k
          · exact tb_push_ok hG h01 h k
      intro T hT X
      obtain ⟨v, st₀, t, T', L, t0, X', hL, x1, x2, ⟨hq1, hq2⟩, stp⟩ := hrun T hT X
      have hL0 : L = [] := by
        cases L with
        | nil => rfl
        | cons a l9 => exact (hL a List.mem_cons_self).elim
      subst hL0
      have hv : v = some (.int (tb_hb (sa_i V x9) (sa_i V k9))) := Outcome.returned.inj hq1
      subst hv
      obtain ⟨t2, a1, b1⟩ := key T' (by rw [x1, hq2, t0]) (by simpa using X')
      exact ⟨t2, stp t2 a1, b1⟩
    · cases h
  · cases h
theorem tn_hasS {p : Program} {l : Launch} {e : Env} {R : Room} {s : State} {m : MethodId} {args : Array Value} {below : List Frame} {meth : Method} {c : Code} {Q : State → Prop} {D : va_G} {dA : Nat → ClassId} {A : Nat → Prop} {nL : Nat} {cl : List vw_C} {n0 : Nat} {V0 : sa_V} {E : tb_E} {Ts : List Cond} {cc : ByteArray} {own : String} (C0 : sa_C p s m args c D dA A nL cl Ts cc own) {pc : Nat} {y : MethodName} {cy : ByteArray} {mL fr lc idx maxC maxS : Nat} {ret : Option FieldType} (hg : ∀ w ∈ Ts, goodWord w = true) (hM : tb_Pu l Ts y cy mL ret fr lc) (hcode : Cond.code y cy mL ret ∈ Ts) (hd : decode cc pc = .ok (.invokestatic idx, 3)) (w1 : Cond.methodLink own idx y ∈ Ts) (w2 : Cond.static y ∈ Ts) (w4 : Cond.initialized y.cls ∈ Ts) (hy : sa_arg y 2) (hR : fr + 1 ≤ R.frames ∧ 8 + (mL + 11) + lc ≤ R.locals) (hC : maxC ≤ R.cells) (hS0 : maxS ≤ R.slots) : tb_snd p l e R s m args below meth c Q D dA A nL cl n0 V0 E pc (to_has maxC maxS) := by
  obtain ⟨hx, hb, hts, hown, hml, hK, hA⟩ := C0
  rintro ⟨pc, lo, st, cs, G, kc, ks⟩ sts rfl h k V H locs ls hG
  refine tb_has_ok h k hG (fun u v rest hst hsum r1 r2 => ?_)
  exact va_runS (bytes := cy) (maxL := mL) (ret := ret) (As := [.int u, .int v]) (n := 2) ⟨hx, hb, hml, hown, hts⟩ (hM u v) (va_cwS 2 hts (sa_goodV hg hcode (by intro z hz; simp only [List.mem_cons, List.not_mem_nil, or_false] at hz; rcases hz with rfl | rfl | rfl <;> assumption)) rfl rfl rfl hy hR) ⟨fun a U g mk q => q, fun U _ _ => rfl⟩ rfl rfl hG.2.1.1 hst (lv_room hsum) hd ⟨Nat.le_trans r1 hC, Nat.le_trans r2 hS0⟩
theorem tn_hasSN {p : Program} {l : Launch} {e : Env} {R : Room} {s : State} {m : MethodId} {args : Array Value} {below : List Frame} {meth : Method} {c : Code} {Q : State → Prop} {D : va_G} {dA : Nat → ClassId} {A : Nat → Prop} {nL : Nat} {cl : List vw_C} {n0 : Nat} {V0 : sa_V} {E : tb_E} {Ts : List Cond} {cc : ByteArray} {own : String} (C0 : sa_C p s m args c D dA A nL cl Ts cc own) {pc : Nat} {y : MethodName} {cy : ByteArray} {mL fr lc idx maxC maxS : Nat} {ret : Option FieldType} {host : String} (hU : sa_U D cl dA s) (hg : ∀ w ∈ Ts, goodWord w = true) (hM : tb_Pu l Ts y cy mL ret fr lc) (hcode : Cond.code y cy mL ret ∈ Ts) (hd : decode cc pc = .ok (.invokestatic idx, 3)) (w1 : (own, idx, y, host) ∈ sa_NL) (w2 : Cond.static y ∈ Ts) (w4 : Cond.initialized y.cls ∈ Ts) (hy : sa_arg y 2) (hR : fr + 1 ≤ R.frames ∧ 8 + (mL + 11) + lc ≤ R.locals) (hC : maxC ≤ R.cells) (hS0 : maxS ≤ R.slots) : tb_snd p l e R s m args below meth c Q D dA A nL cl n0 V0 E pc (to_has maxC maxS) := by
  obtain ⟨hx, hb, hts, hown, hml, hK, hA⟩ := C0
  rintro ⟨pc, lo, st, cs, G, kc, ks⟩ sts rfl h k V H locs ls hG
  refine tb_has_ok h k hG (fun u v rest hst hsum r1 r2 => ?_)
  exact va_runSN (host := host) (bytes := cy) (maxL := mL) (ret := ret) (As := [.int u, .int v]) (n := 2) ⟨hx, hb, hml, hown, hts⟩ (hM u v) ⟨va_cnB 2 hts (sa_good hg hcode) rfl rfl rfl (hU.2.2.2 _ w1) (hts _ w4) hy hR, hts _ w2, trivial⟩ ⟨fun a U g mk q => q, fun U _ _ => rfl⟩ rfl rfl hG.2.1.1 hst (lv_room hsum) hd ⟨Nat.le_trans r1 hC, Nat.le_trans r2 hS0⟩
end TYG
