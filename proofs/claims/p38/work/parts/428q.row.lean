
section XWX
variable {p : Program} {l : Launch} {e : Env} {R : Room} {s : State} {m : MethodId} {args : Array Value} {below : List Frame} {meth : Method} {c : Code} {Q : State → Prop} {D : va_G} {dA : Nat → ClassId} {A : Nat → Prop} {nL : Nat} {cl : List vw_C} {KT : List tb_kd} {al : List (Nat × Nat)} {kc ks : Nat} {μ : xw_M} {Ts : List Cond} {cc : ByteArray} {own : String} {pc : Nat} {L L' : List (Nat × Value)} {st : List Value}
/-! further rows: constants, two on top twice, keywords, rows copied -/
theorem xw_ldc2 (C0 : sa_C p s m args c D dA A nL cl Ts cc own) {idx : Nat} {v : Int64} {z : Int} (hd : decode cc pc = .ok (.ldc2_w idx, 3)) (hc : Cond.constantLong own idx v ∈ Ts) (hv : v = Int64.ofInt z) (kk : xw_W p l e R s m args below meth c Q D dA A nL cl KT al kc ks μ (pc + 3) L (.long (Int64.ofInt z) :: st)) : xw_W p l e R s m args below meth c Q D dA A nL cl KT al kc ks μ pc L st :=
  fun H locs ls w h1 h2 h3 h4 h5 => lv_ldc2 C0.1 C0.2.1 C0.2.2.2.1 (C0.2.2.1 _ hc) hd (by rw [hv]; exact kk H locs ls w h1 h2 h3 h4 h5)
theorem xw_ldcw (C0 : sa_C p s m args c D dA A nL cl Ts cc own) {idx : Nat} {z : Int} (hd : decode cc pc = .ok (.ldc_w idx, 3)) (hc : Cond.constant own idx (Int32.ofInt z) ∈ Ts) (kk : xw_W p l e R s m args below meth c Q D dA A nL cl KT al kc ks μ (pc + 3) L (.int (Int32.ofInt z) :: st)) : xw_W p l e R s m args below meth c Q D dA A nL cl KT al kc ks μ pc L st :=
  fun H locs ls w h1 h2 h3 h4 h5 => lv_ldcw C0.1 C0.2.1 C0.2.2.2.1 (C0.2.2.1 _ hc) hd (kk H locs ls w h1 h2 h3 h4 h5)
theorem xw_dup2 (C0 : sa_C p s m args c D dA A nL cl Ts cc own) {va vb : Value} (hd : decode cc pc = .ok (.dup2, 1)) (h1 : va.category = 1) (h2 : vb.category = 1) (kk : xw_W p l e R s m args below meth c Q D dA A nL cl KT al kc ks μ (pc + 1) L (va :: vb :: va :: vb :: st)) : xw_W p l e R s m args below meth c Q D dA A nL cl KT al kc ks μ pc L (va :: vb :: st) :=
  fun H locs ls w g1 g2 g3 g4 g5 => lv_dup2_11 C0.1 C0.2.1 hd h1 h2 (kk H locs ls w g1 g2 g3 g4 g5)
/-- a number on top, by another name -/
theorem xw_nI {a b : Int} (h : Int32.ofInt a = Int32.ofInt b) (kk : xw_W p l e R s m args below meth c Q D dA A nL cl KT al kc ks μ pc L (.int (Int32.ofInt b) :: st)) : xw_W p l e R s m args below meth c Q D dA A nL cl KT al kc ks μ pc L (.int (Int32.ofInt a) :: st) := by rw [h]; exact kk
theorem xw_nL {a b : Int} (h : Int64.ofInt a = Int64.ofInt b) (kk : xw_W p l e R s m args below meth c Q D dA A nL cl KT al kc ks μ pc L (.long (Int64.ofInt b) :: st)) : xw_W p l e R s m args below meth c Q D dA A nL cl KT al kc ks μ pc L (.long (Int64.ofInt a) :: st) := by rw [h]; exact kk
theorem xb_wI (a : Int) : ∃ r : Int, (-2147483648 ≤ r ∧ r ≤ 2147483647) ∧ ((-2147483648 ≤ a ∧ a ≤ 2147483647) → r = a) ∧ Int32.ofInt a = Int32.ofInt r := ⟨(Int32.ofInt a).toInt, ⟨by have := (Int32.ofInt a).le_toInt; omega, by have := (Int32.ofInt a).toInt_lt; omega⟩, fun h => xw_ti h, (Int32.ofInt_toInt _).symm⟩
theorem xb_wL (a : Int64) : ∃ r : Int, (-9223372036854775808 ≤ r ∧ r ≤ 9223372036854775807) ∧ a = Int64.ofInt r ∧ a.toInt = r := ⟨a.toInt, ⟨by have := a.le_toInt; omega, by have := a.toInt_lt; omega⟩, (Int64.ofInt_toInt a).symm, rfl⟩
theorem xb_wi (a : Int32) : ∃ r : Int, (-2147483648 ≤ r ∧ r ≤ 2147483647) ∧ a = Int32.ofInt r := ⟨a.toInt, ⟨by have := a.le_toInt; omega, by have := a.toInt_lt; omega⟩, (Int32.ofInt_toInt a).symm⟩
/-- one byte more behind a WORD -/
theorem xb_l8 (a : Int) : ∃ r : Int, (-9223372036854775808 ≤ r ∧ r ≤ 9223372036854775807) ∧ (0 ≤ a ∧ a < 281474976710656 → r = 256 * a) ∧ Int64.ofInt a <<< ((Int32.ofInt 8).toInt64 &&& 63) = Int64.ofInt r := by
  obtain ⟨r, h1, h2, h3⟩ := xb_wL (Int64.ofInt a <<< ((Int32.ofInt 8).toInt64 &&& 63))
  refine ⟨r, h1, fun ha => ?_, h2⟩
  have e0 : ((Int32.ofInt 8).toInt64 &&& 63) = 8 := by decide
  have e1 : Int64.ofInt a <<< (8 : Int64) = Int64.ofInt (256 * a) := by
    apply Int64.toBitVec_inj.mp
    rw [Int64.toBitVec_shiftLeft]
    apply BitVec.eq_of_toNat_eq
    have e2 : (Int64.ofInt a).toBitVec = BitVec.ofInt 64 a := rfl
    have e3 : (Int64.ofInt (256 * a)).toBitVec = BitVec.ofInt 64 (256 * a) := rfl
    have e4 : ((8 : Int64).toBitVec.smod 64) = 8#64 := by decide
    rw [e2, e3, e4]
    show (BitVec.ofInt 64 a <<< (8 : Nat)).toNat = (BitVec.ofInt 64 (256 * a)).toNat
    rw [BitVec.toNat_shiftLeft, BitVec.toNat_ofInt, BitVec.toNat_ofInt]
    show ((a % ((2 ^ 64 : Nat) : Int)).toNat <<< 8) % 2 ^ 64 = (256 * a % ((2 ^ 64 : Nat) : Int)).toNat
    rw [Nat.shiftLeft_eq]
    omega
  rw [e0, e1] at h3
  rw [← h3]
  exact xw_tl (by omega)
theorem xb_lor (a b : Int) : ∃ r : Int, (-9223372036854775808 ≤ r ∧ r ≤ 9223372036854775807) ∧ (∀ q : Int, a = 256 * q → 0 ≤ q ∧ q < 281474976710656 → 0 ≤ b ∧ b < 256 → r = a + b) ∧ Int64.ofInt a ||| Int64.ofInt b = Int64.ofInt r := by
  obtain ⟨r, h1, h2, h3⟩ := xb_wL (Int64.ofInt a ||| Int64.ofInt b)
  refine ⟨r, h1, fun q e hq hb => ?_, h2⟩
  have e1 : Int64.ofInt a ||| Int64.ofInt b = Int64.ofInt (a + b) := by
    apply Int64.toBitVec_inj.mp
    rw [Int64.toBitVec_or]
    apply BitVec.eq_of_toNat_eq
    have e2 : (Int64.ofInt a).toBitVec = BitVec.ofInt 64 a := rfl
    have e3 : (Int64.ofInt b).toBitVec = BitVec.ofInt 64 b := rfl
    have e4 : (Int64.ofInt (a + b)).toBitVec = BitVec.ofInt 64 (a + b) := rfl
    rw [e2, e3, e4, BitVec.toNat_or, BitVec.toNat_ofInt, BitVec.toNat_ofInt, BitVec.toNat_ofInt]
    have f1 : (a % ((2 ^ 64 : Nat) : Int)).toNat = 2 ^ 8 * q.toNat := by omega
    have f2 : (b % ((2 ^ 64 : Nat) : Int)).toNat = b.toNat := by omega
    have f3 : ((a + b) % ((2 ^ 64 : Nat) : Int)).toNat = 2 ^ 8 * q.toNat + b.toNat := by omega
    rw [f1, f2, f3]
    exact (Nat.two_pow_add_eq_or_of_lt (show b.toNat < 2 ^ 8 by omega) q.toNat).symm
  rw [e1] at h3
  rw [← h3]
  exact xw_tl (by omega)
/-- two alike compared -/
theorem xw_icmp_eqS (C0 : sa_C p s m args c D dA A nL cl Ts cc own) {x : Int32} {off : Int} {tgt : Nat} (hd : decode cc pc = .ok (.if_icmp .eq off, 3)) (ht : (pc : Int) + off = (tgt : Int)) (kt : xw_W p l e R s m args below meth c Q D dA A nL cl KT al kc ks μ tgt L st) : xw_W p l e R s m args below meth c Q D dA A nL cl KT al kc ks μ pc L (.int x :: .int x :: st) :=
  fun H locs ls w h1 h2 h3 h4 h5 => lv_icmp_eq C0.1 C0.2.1 hd ht (fun _ => kt H locs ls w h1 h2 h3 h4 h5) (fun q => absurd rfl q)
/-- KEYWORDS -/
theorem xw_kwl (C0 : sa_C p s m args c D dA A nL cl Ts cc "OffThenOn$Reader") (hO : tb_Ou A s s.heap) (hd : decode cc pc = .ok (.getstatic 79, 3)) (hd2 : decode cc (pc + 3) = .ok (.arraylength, 1)) (kk : xw_W p l e R s m args below meth c Q D dA A nL cl KT al kc ks μ (pc + 3 + 1) L (.int (Int32.ofInt 20) :: st)) : xw_W p l e R s m args below meth c Q D dA A nL cl KT al kc ks μ pc L st := by
  obtain ⟨hx, hb, hts, hown, hml, hK, hA⟩ := C0
  obtain ⟨-, tk, adK, adV, o1, ⟨f, o2, o9⟩, -, -, -, o6, -⟩ := hO
  intro H locs ls w h1 h2 h3 h4 h5
  refine va_getsN (C := "OffThenOn") (host := "OffThenOn") (ref := "OffThenOn") (own := "OffThenOn$Reader") hx hb o1 h5 hown (va_Nw.use rfl o6) (fun _ h => h) hd ?_
  exact va_tlen (v := Int32.ofInt 20) hx hb o2 h5 rfl hd2 (kk H locs ls w h1 h2 h3 h4 h5)
theorem xw_kwa (C0 : sa_C p s m args c D dA A nL cl Ts cc "OffThenOn$Reader") (hO : tb_Ou A s s.heap) {i : Fin 4} {i9 k : Nat} {z : Int} (q : Nat) (hd : decode cc pc = .ok (.getstatic 79, 3)) (hd2 : decode cc (pc + 3) = .ok (.iload_n i, 1)) (hd3 : decode cc (pc + 3 + 1) = .ok (.laload, 1)) (hi : (i : Nat) = i9) (hl : L[q]? = some (i9, .int (Int32.ofInt (k : Int)))) (hk : k < 20) (hz : hp_KC[k]? = some z) (kk : xw_W p l e R s m args below meth c Q D dA A nL cl KT al kc ks μ (pc + 3 + 1 + 1) L (.long (Int64.ofInt z) :: st)) : xw_W p l e R s m args below meth c Q D dA A nL cl KT al kc ks μ pc L st := by
  obtain ⟨hx, hb, hts, hown, hml, hK, hA⟩ := C0
  obtain ⟨-, tk, adK, adV, o1, ⟨f, o2, o9⟩, -, -, -, o6, -⟩ := hO
  intro H locs ls w h1 h2 h3 h4 h5
  obtain ⟨g1, g2⟩ := xw_ix (i := (k : Int)) (n := 20) (by omega) (by omega) (by omega)
  have g3 : ((k : Int)).toNat = k := rfl
  refine va_getsN (C := "OffThenOn") (host := "OffThenOn") (ref := "OffThenOn") (own := "OffThenOn$Reader") hx hb o1 h5 hown (va_Nw.use rfl o6) (fun _ h => h) hd ?_
  refine lv_iload_n hx hb hd2 hi (lv_at h1 q hl) ?_
  refine va_tl (v := .long (Int64.ofInt z)) hx hb o2 h5 g1 ?_ hd3 (kk H locs ls w h1 h2 h3 h4 h5)
  rw [g2, g3]
  show Value.long (f k) = _
  rw [o9 k hk]
  have h9 : ∀ k : Fin 20, hp_KC[(k : Nat)]? = some ((tb_kwl.getD (k : Nat) 0).toInt) := by decide +kernel
  have h8 := h9 ⟨k, hk⟩
  have h7 := Option.some.inj (h8.symm.trans hz)
  have h7 : (tb_kwl.getD k 0).toInt = z := h7
  rw [← h7, Int64.ofInt_toInt]
/-- a row copied into another -/
theorem xw_cp {w : va_W} {j0 j1 a0 a1 κ0 κ1 n : Nat} {k0 k1 : tb_kd} {e0 e1 e' : va_E} (h : xw_R dA al KT w μ) (hj0 : al[j0]? = some (a0, κ0)) (hj1 : al[j1]? = some (a1, κ1)) (hk0 : KT[κ0]? = some k0) (hk1 : KT[κ1]? = some k1) (hw0 : w[j0]? = some (a0, e0)) (hw1 : w[j1]? = some (a1, e1)) (hs : tb_sh dA k1 e') (hr : ∀ i, tb_rd e' i = if i < n then tb_rd e0 i else tb_rd e1 i) (ht : ∀ (i : Nat) (t : tb_t), i < n → tb_ty k1 i = some t → tb_ty k0 i = some t) : xw_R dA al KT (w.set j1 (a1, e')) (fun j i => if j = j1 ∧ i < n then μ j0 i else μ j i) := by
  have q1 := (List.getElem?_eq_some_iff.mp hw1).1
  refine ⟨⟨by rw [List.length_set]; exact h.1.1, fun j a κ hj => ?_⟩, fun j a κ k e9 g1 g2 g3 i t v g4 g5 => ?_⟩
  · by_cases hjj : j = j1
    · subst hjj
      have e2 := Option.some.inj (hj.symm.trans hj1)
      have e3 : a = a1 := congrArg Prod.fst e2
      have e4 : κ = κ1 := congrArg Prod.snd e2
      subst e3 e4
      refine ⟨k1, e', hk1, List.getElem?_set_self q1, hs, fun i t ht' => ?_⟩
      rw [hr]
      by_cases hi : i < n
      · rw [if_pos hi]
        obtain ⟨k, e9, c1, c2, c3, c4⟩ := h.1.2 j0 a0 κ0 hj0
        rw [hk0] at c1
        cases c1
        rw [hw0] at c2
        cases c2
        exact c4 i t (ht i t hi ht')
      · rw [if_neg hi]
        obtain ⟨k, e9, c1, c2, c3, c4⟩ := h.1.2 j a κ hj
        rw [hk1] at c1
        cases c1
        rw [hw1] at c2
        cases c2
        exact c4 i t ht'
    · obtain ⟨k, e9, c1, c2, c3⟩ := h.1.2 j a κ hj
      exact ⟨k, e9, c1, by rw [List.getElem?_set_ne (Ne.symm hjj)]; exact c2, c3⟩
  · by_cases hjj : j = j1
    · subst hjj
      have e2 := Option.some.inj (g1.symm.trans hj1)
      have e3 : a = a1 := congrArg Prod.fst e2
      have e4 : κ = κ1 := congrArg Prod.snd e2
      subst e3 e4
      rw [List.getElem?_set_self q1] at g3
      have e5 : e' = e9 := congrArg Prod.snd (Option.some.inj g3)
      subst e5
      rw [hk1] at g2
      cases g2
      rw [hr] at g5
      by_cases hi : i < n
      · rw [if_pos hi] at g5
        show xw_v al t v (if j = j ∧ i < n then μ j0 i else μ j i)
        rw [if_pos ⟨rfl, hi⟩]
        exact h.2 j0 a0 κ0 k0 e0 hj0 hk0 hw0 i t v (ht i t hi g4) g5
      · rw [if_neg hi] at g5
        show xw_v al t v (if j = j ∧ i < n then μ j0 i else μ j i)
        rw [if_neg (fun q => hi q.2)]
        exact h.2 j a κ k1 e1 hj1 hk1 hw1 i t v g4 g5
    · rw [List.getElem?_set_ne (Ne.symm hjj)] at g3
      show xw_v al t v (if j = j1 ∧ i < n then μ j0 i else μ j i)
      rw [if_neg (fun q => hjj q.1)]
      exact h.2 j a κ k e9 g1 g2 g3 i t v g4 g5
theorem xw_acI (C0 : sa_C p s m args c D dA A nL cl Ts cc own) {j0 j1 κ0 κ1 n0 n1 n idx : Nat} {ts0 ts1 : List (Nat × tb_t)} (hd : decode cc pc = .ok (.invokestatic idx, 3)) (hl : Cond.methodLink own idx arraycopyName ∈ Ts) (hn1 : Cond.native arraycopyName ∈ Ts) (hn2 : Cond.static arraycopyName ∈ Ts) (hn3 : Cond.initialized "java/lang/System" ∈ Ts) (hR1 : 1 ≤ R.frames) (hR2 : 8 + (nativeFrameWords "java/lang/System" "arraycopy" 5 + 11) ≤ R.locals) (hcat : (st.map (fun v => v.category)).sum ≤ 8) (hj0 : al[j0]? = some (xw_ad al j0, κ0)) (hj1 : al[j1]? = some (xw_ad al j1, κ1)) (hk0 : KT[κ0]? = some (.inr (0, n0, ts0))) (hk1 : KT[κ1]? = some (.inr (0, n1, ts1))) (hnn : n ≤ n0 ∧ n ≤ n1 ∧ n ≤ 1000) (ht : ∀ (i : Nat) (t : tb_t), i < n → tb_ty (.inr (0, n1, ts1)) i = some t → tb_ty (.inr (0, n0, ts0)) i = some t) (kk : xw_W p l e R s m args below meth c Q D dA A nL cl KT al kc ks (fun j i => if j = j1 ∧ i < n then μ j0 i else μ j i) (pc + 3) L st) : xw_W p l e R s m args below meth c Q D dA A nL cl KT al kc ks μ pc L (.int (Int32.ofInt (n : Int)) :: .int (Int32.ofInt 0) :: .ref (xw_ad al j1) :: .int (Int32.ofInt 0) :: .ref (xw_ad al j0) :: st) := by
  obtain ⟨hx, hb, hts, hown, hml, hK, hA⟩ := C0
  intro H locs ls w h1 h2 h3 h4 h5
  obtain ⟨e0, c1, c2⟩ := xw_cell h4 hj0 hk0
  obtain ⟨e1, c3, c4⟩ := xw_cell h4 hj1 hk1
  obtain ⟨f, rfl⟩ := xw_shI c2 (show ¬ (0 : Nat) = 2 by decide) (show (0 : Nat) < 4 by decide)
  obtain ⟨g, rfl⟩ := xw_shI c4 (show ¬ (0 : Nat) = 2 by decide) (show (0 : Nat) < 4 by decide)
  have nn : (Int32.ofInt (n : Int)).toNatClampNeg = n := by
    show (Int32.ofInt (n : Int)).toInt.toNat = n
    rw [xw_ti (by omega)]
    rfl
  have z0 : (Int32.ofInt 0).toNatClampNeg = 0 := rfl
  refine va_copyi (D := D) (ty := .int) (sp := Int32.ofInt 0) (dp := Int32.ofInt 0) (n := Int32.ofInt (n : Int)) hx hb (by rw [hml]; exact h1.1.symm) hown (hts _ hl) (hts _ hn1) (hts _ hn2) (hts _ hn3) hK h2 h3 h5 j0 j1 0 0 c1 c3 rfl rfl rfl (by decide) (by decide) (by rw [Int32.lt_iff_toInt_lt, xw_ti (by omega)]; show ¬ (n : Int) < 0; omega) (by rw [nn, z0]; show 0 + n ≤ n0; omega) (by rw [nn, z0]; show 0 + n ≤ n1; omega) (fun _ _ => rfl) hR1 (by omega) hd (fun H1 locs1 hP hD hS => ?_)
  rw [nn, z0] at hP hD
  refine kk H1 locs1 ls _ h1 hP hD (xw_cp (k0 := .inr (0, n0, ts0)) (k1 := .inr (0, n1, ts1)) h4 hj0 hj1 hk0 hk1 c1 c3 ?_ (fun i' => ?_) ht) hS
  · unfold tb_sh
    dsimp only
    rw [if_neg (by decide), if_pos (by decide)]
    exact ⟨_, rfl⟩
  · show (if i' < n1 then some (Value.int (va_cpy f g 0 0 n i')) else none) = if i' < n then (if i' < n0 then some (Value.int (f i')) else none) else (if i' < n1 then some (Value.int (g i')) else none)
    unfold va_cpy
    by_cases hi : i' < n
    · rw [if_pos hi, if_pos (by omega), if_pos (by omega), if_pos (by omega), Nat.zero_add, Nat.sub_zero]
    · rw [if_neg hi, if_neg (show ¬ (0 ≤ i' ∧ i' < 0 + n) by omega)]
theorem xw_acL (C0 : sa_C p s m args c D dA A nL cl Ts cc own) {j0 j1 κ0 κ1 n0 n1 n idx : Nat} {ts0 ts1 : List (Nat × tb_t)} (hd : decode cc pc = .ok (.invokestatic idx, 3)) (hl : Cond.methodLink own idx arraycopyName ∈ Ts) (hn1 : Cond.native arraycopyName ∈ Ts) (hn2 : Cond.static arraycopyName ∈ Ts) (hn3 : Cond.initialized "java/lang/System" ∈ Ts) (hR1 : 1 ≤ R.frames) (hR2 : 8 + (nativeFrameWords "java/lang/System" "arraycopy" 5 + 11) ≤ R.locals) (hcat : (st.map (fun v => v.category)).sum ≤ 8) (hj0 : al[j0]? = some (xw_ad al j0, κ0)) (hj1 : al[j1]? = some (xw_ad al j1, κ1)) (hk0 : KT[κ0]? = some (.inr (2, n0, ts0))) (hk1 : KT[κ1]? = some (.inr (2, n1, ts1))) (hnn : n ≤ n0 ∧ n ≤ n1 ∧ n ≤ 1000) (ht : ∀ (i : Nat) (t : tb_t), i < n → tb_ty (.inr (2, n1, ts1)) i = some t → tb_ty (.inr (2, n0, ts0)) i = some t) (kk : xw_W p l e R s m args below meth c Q D dA A nL cl KT al kc ks (fun j i => if j = j1 ∧ i < n then μ j0 i else μ j i) (pc + 3) L st) : xw_W p l e R s m args below meth c Q D dA A nL cl KT al kc ks μ pc L (.int (Int32.ofInt (n : Int)) :: .int (Int32.ofInt 0) :: .ref (xw_ad al j1) :: .int (Int32.ofInt 0) :: .ref (xw_ad al j0) :: st) := by
  obtain ⟨hx, hb, hts, hown, hml, hK, hA⟩ := C0
  intro H locs ls w h1 h2 h3 h4 h5
  obtain ⟨e0, c1, c2⟩ := xw_cell h4 hj0 hk0
  obtain ⟨e1, c3, c4⟩ := xw_cell h4 hj1 hk1
  obtain ⟨f, rfl⟩ := xw_shL c2 rfl
  obtain ⟨g, rfl⟩ := xw_shL c4 rfl
  have nn : (Int32.ofInt (n : Int)).toNatClampNeg = n := by
    show (Int32.ofInt (n : Int)).toInt.toNat = n
    rw [xw_ti (by omega)]
    rfl
  have z0 : (Int32.ofInt 0).toNatClampNeg = 0 := rfl
  refine va_copyl (D := D) (ty := .long) (sp := Int32.ofInt 0) (dp := Int32.ofInt 0) (n := Int32.ofInt (n : Int)) hx hb (by rw [hml]; exact h1.1.symm) hown (hts _ hl) (hts _ hn1) (hts _ hn2) (hts _ hn3) hK h2 h3 h5 j0 j1 2 2 c1 c3 rfl rfl rfl (by decide) (by decide) (by rw [Int32.lt_iff_toInt_lt, xw_ti (by omega)]; show ¬ (n : Int) < 0; omega) (by rw [nn, z0]; show 0 + n ≤ n0; omega) (by rw [nn, z0]; show 0 + n ≤ n1; omega) (fun _ _ => rfl) hR1 (by omega) hd (fun H1 locs1 hP hD hS => ?_)
  rw [nn, z0] at hP hD
  refine kk H1 locs1 ls _ h1 hP hD (xw_cp (k0 := .inr (2, n0, ts0)) (k1 := .inr (2, n1, ts1)) h4 hj0 hj1 hk0 hk1 c1 c3 ?_ (fun i' => ?_) ht) hS
  · unfold tb_sh
    dsimp only
    rw [if_pos rfl]
    exact ⟨_, rfl⟩
  · show (if i' < n1 then some (Value.long (va_cpy f g 0 0 n i')) else none) = if i' < n then (if i' < n0 then some (Value.long (f i')) else none) else (if i' < n1 then some (Value.long (g i')) else none)
    unfold va_cpy
    by_cases hi : i' < n
    · rw [if_pos hi, if_pos (by omega), if_pos (by omega), if_pos (by omega), Nat.zero_add, Nat.sub_zero]
    · rw [if_neg hi, if_neg (show ¬ (0 ≤ i' ∧ i' < 0 + n) by omega)]
end XWX
