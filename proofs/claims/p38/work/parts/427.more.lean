section TYN
/-! cuts of bounds; a bit that must be; runs in pieces -/
noncomputable def tb_cuts (s : Nat) : List Int → sa_B → List sa_B
  | [], G => [G]
  | c :: l, G => sa_hi G s (c - 1) :: tb_cuts s l (sa_lw G s c)
theorem tb_cuts_ok {V : sa_V} {s : Nat} : ∀ (l : List Int) (G : sa_B), sa_I V G → ∃ G' ∈ tb_cuts s l G, sa_I V G' ∧ G'.length = G.length
  | [], G, h => ⟨G, List.mem_cons_self, h, rfl⟩
  | c :: l, G, h => by
    by_cases h1 : (V s).1 ≤ c - 1
    · exact ⟨_, List.mem_cons_self, sa_I_hi h h1, sa_hi_len _ _ _⟩
    · obtain ⟨G', g1, g2, g3⟩ := tb_cuts_ok l (sa_lw G s c) (sa_I_lw h (by omega))
      exact ⟨G', List.mem_cons_of_mem _ g1, g2, by rw [g3, sa_lw_len]⟩
noncomputable def tb_cut (i : Nat) (cuts : List Int) : tb_op := fun S => match sa_look i S.2.1 with
  | some (.inl q) => some (((tb_cuts q.1 (cuts.map (fun c => c - q.2)) S.2.2.2.2.1).filter (fun G' => match tb_ge G' q.1 with
    | some b => tb_ile b.1 b.2
    | none => true)).map (fun G' => (S.1, S.2.1, S.2.2.1, S.2.2.2.1, G', S.2.2.2.2.2)))
  | _ => none
theorem tb_ile_of {a b : Int} (h : a ≤ b) : tb_ile a b = true := by
  cases hh : tb_ile a b with
  | true => rfl
  | false =>
    have h2 : Bool.not (tb_ile a b) = true := by rw [hh]; rfl
    have := tb_nle h2
    omega
theorem tn_cut {p : Program} {l : Launch} {e : Env} {R : Room} {s : State} {m : MethodId} {args : Array Value} {below : List Frame} {meth : Method} {c : Code} {Q : State → Prop} {D : va_G} {dA : Nat → ClassId} {A : Nat → Prop} {nL : Nat} {cl : List vw_C} {n0 : Nat} {V0 : sa_V} {E : tb_E} {i : Nat} {cuts : List Int} : tb_sil p l e R s m args below meth c Q D dA A nL cl n0 V0 E (tb_cut i cuts) := by
  rintro ⟨pc, lo, st, cs, G, kc, ks⟩ sts h k V H locs ls hG
  unfold tb_cut at h
  dsimp only at h
  split at h
  · rename_i q hq
    cases h
    obtain ⟨G', g1, g2, g3⟩ := tb_cuts_ok (s := q.1) (cuts.map (fun c => c - q.2)) G hG.1.1
    refine k (pc, lo, st, cs, G', kc, ks) (List.mem_map.mpr ⟨G', List.mem_filter.mpr ⟨g1, ?_⟩, rfl⟩) V H locs ls ⟨⟨g2, by show n0 ≤ G'.length; rw [g3]; exact hG.1.2.1, hG.1.2.2⟩, hG.2⟩
    split
    · rename_i b hb
      rw [tb_ge_eq] at hb
      have := g2.1 _ _ hb
      exact tb_ile_of (by omega)
    · rfl
  · cases h
theorem tb_hb_one {x : Int32} {b : Nat} (hb : b < 31) (h0 : ((2 ^ b : Nat) : Int) ≤ x.toInt) (h1 : x.toInt < ((2 * 2 ^ b : Nat) : Int)) : tb_hb x (Int32.ofInt (b : Int)) = 1 := by
  have hx : 0 ≤ x.toInt := Int.le_trans (Int.natCast_nonneg _) h0
  have e1 : ∀ n : Fin 31, (Int32.ofInt ((n : Nat) : Int) &&& 31).toBitVec.smod 32 = BitVec.ofNat 32 (n : Nat) := by decide
  have e2 : x >>> (Int32.ofInt (b : Int) &&& 31) = 1 := by
    apply Int32.toBitVec_inj.mp
    rw [Int32.toBitVec_shiftRight, e1 ⟨b, hb⟩]
    show x.toBitVec.sshiftRight (BitVec.ofNat 32 b).toNat = 1#32
    have hm : x.toBitVec.msb = false := by
      rw [BitVec.msb_eq_false_iff_two_mul_lt]
      have h2 := tf_nn hx
      have h3 := Int32.toInt_lt x
      simp at h3
      omega
    rw [BitVec.sshiftRight_eq_of_msb_false hm]
    apply BitVec.eq_of_toNat_eq
    rw [BitVec.toNat_ushiftRight, BitVec.toNat_ofNat, Nat.mod_eq_of_lt (by omega), Nat.shiftRight_eq_div_pow]
    rw [tf_nn hx] at h0 h1
    have h4 : 2 ^ b ≤ x.toBitVec.toNat := by exact_mod_cast h0
    have h5 : x.toBitVec.toNat < 2 * 2 ^ b := by exact_mod_cast h1
    have h6 : x.toBitVec.toNat / 2 ^ b = 1 := by
      apply Nat.div_eq_of_lt_le
      · rw [Nat.one_mul]; exact h4
      · exact h5
    rw [h6]
    rfl
  unfold tb_hb
  rw [e2]
  decide
noncomputable def to_hasA (maxC maxS : Nat) : tb_op := fun S => match S.2.2.1 with
  | .inl k :: .inl x :: rest => match sa_iv S.2.2.2.2.1 x, sa_kv S.2.2.2.2.1 k with
    | some a, some b => if 0 ≤ b ∧ b ≤ 30 ∧ ((2 ^ b.toNat : Nat) : Int) ≤ a.1 ∧ a.2 < ((2 * 2 ^ b.toNat : Nat) : Int) ∧ S.2.2.2.2.2.1 ≤ maxC ∧ S.2.2.2.2.2.2 ≤ maxS ∧ (rest.map sa_cat).sum ≤ 8 then some [(S.1 + 3, S.2.1, .inl (0, 1) :: rest, S.2.2.2)] else to_has maxC maxS S
    | _, _ => to_has maxC maxS S
  | _ => none
theorem tb_hasA_ok {p : Program} {l : Launch} {e : Env} {R : Room} {s : State} {m : MethodId} {args : Array Value} {below : List Frame} {meth : Method} {c : Code} {Q : State → Prop} {D : va_G} {dA : Nat → ClassId} {A : Nat → Prop} {nL : Nat} {cl : List vw_C} {n0 : Nat} {V0 : sa_V} {E : tb_E} {maxC maxS pc : Nat} {lo : sa_L} {st : List sa_v} {cs : tb_c} {G : sa_B} {kc ks : Nat} {sts : List tb_S} {V : sa_V} {H : Heap} {locs : List Loc} {ls : Array Slot} (h : to_hasA maxC maxS (pc, lo, st, cs, G, kc, ks) = some sts) (k : ∀ S' ∈ sts, tb_W p l e R s m args below meth c Q D dA A nL cl n0 V0 E S') (hG : tb_G D dA A nL cl n0 V0 E s.heap V lo cs G H locs ls)
    (vr : ∀ (u v : Int32) (rest : List Value), st.map (sa_val V) = .int v :: .int u :: rest → (rest.map (fun v => v.category)).sum ≤ 8 → kc ≤ maxC → ks ≤ maxS → va_Run p l e R s m args below meth c H locs kc ks 0 0 (F0 m pc ls (st.map (sa_val V))) rest (fun st oc t => oc = .returned (some (.int (tb_hb u v))) ∧ t.heap = st.heap) (fun _ => False)) :
    W p l e R s m args below meth c H locs kc ks Q (F0 m pc ls (st.map (sa_val V))) := by
  unfold to_hasA at h
  dsimp only at h
  split at h
  · rename_i k9 x9 rest
    split at h
    · rename_i a b ha hb
      split at h
      · rename_i hh
        obtain ⟨c1, c2, c3, c4, h1, h2, h3⟩ := hh
        cases h
        have hrun := vr (sa_i V x9) (sa_i V k9) (rest.map (sa_val V)) rfl (by rw [sa_sum]; exact h3) h1 h2
        have key : W p l e R s m args below meth c H locs kc ks Q (F0 m (pc + 3) ls (.int (tb_hb (sa_i V x9) (sa_i V k9)) :: rest.map (sa_val V))) := by
          obtain ⟨e1, l1, u1⟩ := sa_iv_ok hG.1.1 ha
          have ek : sa_i V k9 = Int32.ofInt ((b.toNat : Nat) : Int) := by rw [sa_kv_ok hG.1.1 hb, show ((b.toNat : Nat) : Int) = b by omega]
          rw [ek, tb_hb_one (by omega) (by omega) (by omega)]
          have h9 := k _ List.mem_cons_self V H locs ls hG
          dsimp only at h9
          rw [List.map_cons] at h9
          have e9 : sa_val V (.inl (0, 1)) = .int 1 := by
            show Value.int (sa_i V _) = _
            rw [sa_i_0 hG.1.1]
            rfl
          rw [e9] at h9
          exact h9
        intro T hT X
        obtain ⟨v, st₀, t, T', L, t0, X', hL, x1, x2, ⟨hq1, hq2⟩, stp⟩ := hrun T hT X
        have hL0 : L = [] := by
          cases L with
          | nil => rfl
          | cons a l9 => exact (hL a List.mem_cons_self).elim
        subst hL0
        have hv : v = some (.int (tb_hb (sa_i V x9) (sa_i V k9))) := Outcome.returned.inj hq1
        subst hv
        obtain ⟨t2, a1, b1⟩ := key T' (by rw [x1, hq2, t0]) (by simpa using X')
        exact ⟨t2, stp t2 a1, b1⟩
      · exact tb_has_ok h k hG vr
    · exact tb_has_ok h k hG vr
  · cases h
theorem tn_hasAS {p : Program} {l : Launch} {e : Env} {R : Room} {s : State} {m : MethodId} {args : Array Value} {below : List Frame} {meth : Method} {c : Code} {Q : State → Prop} {D : va_G} {dA : Nat → ClassId} {A : Nat → Prop} {nL : Nat} {cl : List vw_C} {n0 : Nat} {V0 : sa_V} {E : tb_E} {Ts : List Cond} {cc : ByteArray} {own : String} (C0 : sa_C p s m args c D dA A nL cl Ts cc own) {pc : Nat} {y : MethodName} {cy : ByteArray} {mL fr lc idx maxC maxS : Nat} {ret : Option FieldType} (hg : ∀ w ∈ Ts, goodWord w = true) (hM : tb_Pu l Ts y cy mL ret fr lc) (hcode : Cond.code y cy mL ret ∈ Ts) (hd : decode cc pc = .ok (.invokestatic idx, 3)) (w1 : Cond.methodLink own idx y ∈ Ts) (w2 : Cond.static y ∈ Ts) (w4 : Cond.initialized y.cls ∈ Ts) (hy : sa_arg y 2) (hR : fr + 1 ≤ R.frames ∧ 8 + (mL + 11) + lc ≤ R.locals) (hC : maxC ≤ R.cells) (hS0 : maxS ≤ R.slots) : tb_snd p l e R s m args below meth c Q D dA A nL cl n0 V0 E pc (to_hasA maxC maxS) := by
  obtain ⟨hx, hb, hts, hown, hml, hK, hA⟩ := C0
  rintro ⟨pc, lo, st, cs, G, kc, ks⟩ sts rfl h k V H locs ls hG
  refine tb_hasA_ok h k hG (fun u v rest hst hsum r1 r2 => ?_)
  exact va_runS (bytes := cy) (maxL := mL) (ret := ret) (As := [.int u, .int v]) (n := 2) ⟨hx, hb, hml, hown, hts⟩ (hM u v) (va_cwS 2 hts (sa_goodV hg hcode (by intro z hz; simp only [List.mem_cons, List.not_mem_nil, or_false] at hz; rcases hz with rfl | rfl | rfl <;> assumption)) rfl rfl rfl hy hR) ⟨fun a U g mk q => q, fun U _ _ => rfl⟩ rfl rfl hG.2.1.1 hst (lv_room hsum) hd ⟨Nat.le_trans r1 hC, Nat.le_trans r2 hS0⟩
theorem tn_hasASN {p : Program} {l : Launch} {e : Env} {R : Room} {s : State} {m : MethodId} {args : Array Value} {below : List Frame} {meth : Method} {c : Code} {Q : State → Prop} {D : va_G} {dA : Nat → ClassId} {A : Nat → Prop} {nL : Nat} {cl : List vw_C} {n0 : Nat} {V0 : sa_V} {E : tb_E} {Ts : List Cond} {cc : ByteArray} {own : String} (C0 : sa_C p s m args c D dA A nL cl Ts cc own) {pc : Nat} {y : MethodName} {cy : ByteArray} {mL fr lc idx maxC maxS : Nat} {ret : Option FieldType} {host : String} (hU : sa_U D cl dA s) (hg : ∀ w ∈ Ts, goodWord w = true) (hM : tb_Pu l Ts y cy mL ret fr lc) (hcode : Cond.code y cy mL ret ∈ Ts) (hd : decode cc pc = .ok (.invokestatic idx, 3)) (w1 : (own, idx, y, host) ∈ sa_NL) (w2 : Cond.static y ∈ Ts) (w4 : Cond.initialized y.cls ∈ Ts) (hy : sa_arg y 2) (hR : fr + 1 ≤ R.frames ∧ 8 + (mL + 11) + lc ≤ R.locals) (hC : maxC ≤ R.cells) (hS0 : maxS ≤ R.slots) : tb_snd p l e R s m args below meth c Q D dA A nL cl n0 V0 E pc (to_hasA maxC maxS) := by
  obtain ⟨hx, hb, hts, hown, hml, hK, hA⟩ := C0
  rintro ⟨pc, lo, st, cs, G, kc, ks⟩ sts rfl h k V H locs ls hG
  refine tb_hasA_ok h k hG (fun u v rest hst hsum r1 r2 => ?_)
  exact va_runSN (host := host) (bytes := cy) (maxL := mL) (ret := ret) (As := [.int u, .int v]) (n := 2) ⟨hx, hb, hml, hown, hts⟩ (hM u v) ⟨va_cnB 2 hts (sa_good hg hcode) rfl rfl rfl (hU.2.2.2 _ w1) (hts _ w4) hy hR, hts _ w2, trivial⟩ ⟨fun a U g mk q => q, fun U _ _ => rfl⟩ rfl rfl hG.2.1.1 hst (lv_room hsum) hd ⟨Nat.le_trans r1 hC, Nat.le_trans r2 hS0⟩
/-- one behind the other -/
noncomputable def to_then (pc2 : Nat) (a b : tb_op) : tb_op := fun S => match a S with
  | some [S1] => match Nat.beq S1.1 pc2 with
    | true => b S1
    | false => none
  | _ => none
theorem tn_then {p : Program} {l : Launch} {e : Env} {R : Room} {s : State} {m : MethodId} {args : Array Value} {below : List Frame} {meth : Method} {c : Code} {Q : State → Prop} {D : va_G} {dA : Nat → ClassId} {A : Nat → Prop} {nL : Nat} {cl : List vw_C} {n0 : Nat} {V0 : sa_V} {E : tb_E} {pc pc2 : Nat} {a b : tb_op} (h1 : tb_snd p l e R s m args below meth c Q D dA A nL cl n0 V0 E pc a) (h2 : tb_snd p l e R s m args below meth c Q D dA A nL cl n0 V0 E pc2 b) : tb_snd p l e R s m args below meth c Q D dA A nL cl n0 V0 E pc (to_then pc2 a b) := by
  intro S sts hpc h k
  unfold to_then at h
  split at h
  · rename_i S1 hS1
    split at h
    · rename_i hb
      exact h1 S [S1] hpc hS1 (fun S' hS' => by rw [List.mem_singleton.mp hS']; exact h2 S1 sts (Nat.eq_of_beq_eq_true hb) h k)
    · cases h
  · cases h
/-- one template's run -/
noncomputable def tb_ck1 (K : tb_K) (TS : List (tb_S × tb_l)) (hs : List Nat) (tab : List (Nat × tb_op)) (fin : tb_S → Bool) (fuel : Nat) (t : tb_S × tb_l) : Bool := tb_tok K.2.2.2.1.length t && tb_nrm t.1 (tb_run (fun pc => tb_as pc tab) (tb_leaf tb_Z0 K.2.2.2.1.length TS hs fin (some t.2)) fuel)
noncomputable def tb_ck0 (K : tb_K) (TS : List (tb_S × tb_l)) (hs : List Nat) (tab : List (Nat × tb_op)) (fin : tb_S → Bool) (fuel : Nat) : Bool := tb_nrm (0, sa_args 0 K.1, [], (K.2.1, [], K.2.2.1), K.2.2.2.1, 0, 0) (tb_run (fun pc => tb_as pc tab) (tb_leaf tb_Z0 K.2.2.2.1.length TS hs fin none) fuel)
theorem tb_chk_of {K : tb_K} {TS : List (tb_S × tb_l)} {hs : List Nat} {tab : List (Nat × tb_op)} {fin : tb_S → Bool} {fuel : Nat} (h1 : ∀ t ∈ TS, tb_ck1 K TS hs tab fin fuel t = true) (h2 : tb_ck0 K TS hs tab fin fuel = true) : tb_chk tb_Z0 K TS hs (fun pc => tb_as pc tab) fin fuel = true := by
  unfold tb_chk
  rw [Bool.and_eq_true]
  exact ⟨List.all_eq_true.mpr h1, h2⟩
theorem tb_ck_app {K : tb_K} {TS T1 T2 : List (tb_S × tb_l)} {hs : List Nat} {tab : List (Nat × tb_op)} {fin : tb_S → Bool} {fuel : Nat} (h1 : T1.all (tb_ck1 K TS hs tab fin fuel) = true) (h2 : ∀ t ∈ T2, tb_ck1 K TS hs tab fin fuel t = true) : ∀ t ∈ T1 ++ T2, tb_ck1 K TS hs tab fin fuel t = true := fun t ht => (List.mem_append.mp ht).elim (fun h => List.all_eq_true.mp h1 t h) (h2 t)
end TYN
