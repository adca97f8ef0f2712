section XWC
variable {p : Program} {l : Launch} {e : Env} {R : Room} {s : State} {m : MethodId} {args : Array Value} {below : List Frame} {meth : Method} {c : Code} {Q : State → Prop} {D : va_G} {dA : Nat → ClassId} {A : Nat → Prop} {nL : Nat} {cl : List vw_C} {KT : List tb_kd} {al : List (Nat × Nat)} {kc ks : Nat} {μ : xw_M} {Ts : List Cond} {cc : ByteArray} {own : String} {pc : Nat} {L : List (Nat × Value)} {st : List Value}
/-! fields -/
theorem xw_obj {k : Nat × List tb_t} {w : va_W} {j κ : Nat} {i : Nat} {t : tb_t} (h : xw_R dA al KT w μ) (hj : al[j]? = some (xw_ad al j, κ)) (hk : KT[κ]? = some (.inl k)) (ht : k.2[i]? = some t) : ∃ (fs : List Value) (v : Value), w[j]? = some (xw_ad al j, .inr (k.1, fs)) ∧ fs.length = k.2.length ∧ fs[i]? = some v ∧ tb_vt al t v ∧ xw_v al t v (μ j i) := by
  obtain ⟨e, v, c1, ⟨fs, rfl, c3⟩, c4, c5, c6⟩ := xw_ld (k := .inl k) h hj hk ht
  exact ⟨fs, v, c1, c3, c4, c5, c6⟩
theorem xw_getI (C0 : sa_C p s m args c D dA A nL cl Ts cc own) {ci f N idx j κ : Nat} {C : String} {T : u_T} {ty : Nat → FieldType} {ts : List tb_t} {lo hi z : Int} (hc : sa_cls cl Ts ci C T N ty) (hd : decode cc pc = .ok (.getfield idx, 3)) (hf : f < N) (hl : Cond.fieldLink own idx (T f).1 (T f).2.1 (T f).2.2.1 ∈ Ts) (hj : al[j]? = some (xw_ad al j, κ)) (hk : KT[κ]? = some (.inl (ci, ts))) (ht : ts[f]? = some (0, lo, hi)) (hz : μ j f = z) (kk : lo ≤ z → z ≤ hi → xw_W p l e R s m args below meth c Q D dA A nL cl KT al kc ks μ (pc + 3) L (.int (Int32.ofInt z) :: st)) : xw_W p l e R s m args below meth c Q D dA A nL cl KT al kc ks μ pc L (.ref (xw_ad al j) :: st) := by
  intro H locs ls w h1 h2 h3 h4 h5
  obtain ⟨fs, v, c1, c2, c3, c4, c5⟩ := xw_obj h4 hj hk ht
  obtain ⟨rfl, g1, g2⟩ := xw_int c4 c5
  subst hz
  exact va_get (D := D) C0.1 C0.2.1 C0.2.2.1 hc.2.1 C0.2.2.2.1 C0.2.2.2.2.2.1 h2 j c1 hc.1 f hf (C0.2.2.1 _ hl) (fun _ h9 => h9) c3 hd (kk g1 g2 H locs ls w h1 h2 h3 h4 h5)
theorem xw_getL (C0 : sa_C p s m args c D dA A nL cl Ts cc own) {ci f N idx j κ : Nat} {C : String} {T : u_T} {ty : Nat → FieldType} {ts : List tb_t} {lo hi z : Int} (hc : sa_cls cl Ts ci C T N ty) (hd : decode cc pc = .ok (.getfield idx, 3)) (hf : f < N) (hl : Cond.fieldLink own idx (T f).1 (T f).2.1 (T f).2.2.1 ∈ Ts) (hj : al[j]? = some (xw_ad al j, κ)) (hk : KT[κ]? = some (.inl (ci, ts))) (ht : ts[f]? = some (1, lo, hi)) (hz : μ j f = z) (kk : lo ≤ z → z ≤ hi → xw_W p l e R s m args below meth c Q D dA A nL cl KT al kc ks μ (pc + 3) L (.long (Int64.ofInt z) :: st)) : xw_W p l e R s m args below meth c Q D dA A nL cl KT al kc ks μ pc L (.ref (xw_ad al j) :: st) := by
  intro H locs ls w h1 h2 h3 h4 h5
  obtain ⟨fs, v, c1, c2, c3, c4, c5⟩ := xw_obj h4 hj hk ht
  obtain ⟨rfl, g1, g2⟩ := xw_lng c4 c5
  subst hz
  exact va_get (D := D) C0.1 C0.2.1 C0.2.2.1 hc.2.1 C0.2.2.2.1 C0.2.2.2.2.2.1 h2 j c1 hc.1 f hf (C0.2.2.1 _ hl) (fun _ h9 => h9) c3 hd (kk g1 g2 H locs ls w h1 h2 h3 h4 h5)
theorem xw_getR (C0 : sa_C p s m args c D dA A nL cl Ts cc own) {ci f N idx j κ : Nat} {C : String} {T : u_T} {ty : Nat → FieldType} {ts : List tb_t} {lo hi : Int} (j' : Nat) (hc : sa_cls cl Ts ci C T N ty) (hd : decode cc pc = .ok (.getfield idx, 3)) (hf : f < N) (hl : Cond.fieldLink own idx (T f).1 (T f).2.1 (T f).2.2.1 ∈ Ts) (hj : al[j]? = some (xw_ad al j, κ)) (hk : KT[κ]? = some (.inl (ci, ts))) (ht : ts[f]? = some (2, lo, hi)) (hz : μ j f = (j' : Int)) (kk : xw_W p l e R s m args below meth c Q D dA A nL cl KT al kc ks μ (pc + 3) L (.ref (xw_ad al j') :: st)) : xw_W p l e R s m args below meth c Q D dA A nL cl KT al kc ks μ pc L (.ref (xw_ad al j) :: st) := by
  intro H locs ls w h1 h2 h3 h4 h5
  obtain ⟨fs, v, c1, c2, c3, c4, c5⟩ := xw_obj h4 hj hk ht
  rw [hz] at c5
  have hv := xw_ref c4 c5
  subst hv
  exact va_get (D := D) C0.1 C0.2.1 C0.2.2.1 hc.2.1 C0.2.2.2.1 C0.2.2.2.2.2.1 h2 j c1 hc.1 f hf (C0.2.2.1 _ hl) (fun _ h9 => h9) c3 hd (kk H locs ls w h1 h2 h3 h4 h5)
theorem xw_put (C0 : sa_C p s m args c D dA A nL cl Ts cc own) {ci f N idx j κ : Nat} {C : String} {T : u_T} {ty : Nat → FieldType} {t9 : FieldType} {ts : List tb_t} {t : tb_t} {v : Value} {z : Int} (hc : sa_cls cl Ts ci C T N ty) (hd : decode cc pc = .ok (.putfield idx, 3)) (hf : f < N) (hl : Cond.fieldLink own idx (T f).1 (T f).2.1 (T f).2.2.1 ∈ Ts) (hfin : (T f).2.2.2 = false) (hty : ty f = t9) (hj : al[j]? = some (xw_ad al j, κ)) (hk : KT[κ]? = some (.inl (ci, ts))) (ht : ts[f]? = some t) (hn : narrow t9 v = v) (hfit : fits t9 v = true) (hv : tb_vt al t v) (hz : xw_v al t v z) (kk : xw_W p l e R s m args below meth c Q D dA A nL cl KT al kc ks (xw_u μ j f z) (pc + 3) L st) : xw_W p l e R s m args below meth c Q D dA A nL cl KT al kc ks μ pc L (v :: .ref (xw_ad al j) :: st) := by
  intro H locs ls w h1 h2 h3 h4 h5
  obtain ⟨fs, v1, c1, c2, c3, c4, c5⟩ := xw_obj h4 hj hk ht
  have hfl : f < fs.length := (List.getElem?_eq_some_iff.mp c3).1
  refine va_put (D := D) (v := v) (ty := t9) C0.1 C0.2.1 C0.2.2.1 hc.2.1 ty hc.2.2.1 hc.2.2.2 C0.2.2.2.1 C0.2.2.2.2.2.1 h2 h3 h5 j c1 hc.1 f hf (C0.2.2.1 _ hl) (fun _ h9 => h9) hfin (by rw [← hty]; exact hc.2.2.1 f hf) hn hfit hfl hd (fun H1 locs1 g1 g2 g3 => ?_)
  refine kk H1 locs1 ls _ h1 g1 g2 (xw_st (k := .inl (ci, ts)) (v0 := v) h4 hj hk c1 ⟨_, rfl, by rw [List.length_set]; exact c2⟩ (fun i' => ?_) (fun t' ht' => ?_)) g3
  · show (fs.set f v)[i']? = if i' = f then _ else fs[i']?
    by_cases hi : i' = f
    · subst hi
      rw [if_pos rfl, List.getElem?_set_self hfl]
    · rw [if_neg hi, List.getElem?_set_ne (Ne.symm hi)]
  · have ht' : ts[f]? = some t' := ht'
    have := Option.some.inj (ht'.symm.trans ht)
    subst this
    exact ⟨hv, hz⟩
theorem xw_putI (C0 : sa_C p s m args c D dA A nL cl Ts cc own) {ci f N idx j κ : Nat} {C : String} {T : u_T} {ty : Nat → FieldType} {ts : List tb_t} {lo hi z : Int} (hc : sa_cls cl Ts ci C T N ty) (hd : decode cc pc = .ok (.putfield idx, 3)) (hf : f < N) (hl : Cond.fieldLink own idx (T f).1 (T f).2.1 (T f).2.2.1 ∈ Ts) (hfin : (T f).2.2.2 = false) (hty : ty f = .int) (hj : al[j]? = some (xw_ad al j, κ)) (hk : KT[κ]? = some (.inl (ci, ts))) (ht : ts[f]? = some (0, lo, hi)) (hr : -2147483648 ≤ z ∧ z ≤ 2147483647) (hlo : lo ≤ z ∧ z ≤ hi) (kk : xw_W p l e R s m args below meth c Q D dA A nL cl KT al kc ks (xw_u μ j f z) (pc + 3) L st) : xw_W p l e R s m args below meth c Q D dA A nL cl KT al kc ks μ pc L (.int (Int32.ofInt z) :: .ref (xw_ad al j) :: st) :=
  xw_put C0 hc hd hf hl hfin hty hj hk ht rfl rfl (show lo ≤ (Int32.ofInt z).toInt ∧ (Int32.ofInt z).toInt ≤ hi by rw [xw_ti hr]; exact hlo) (show (Int32.ofInt z).toInt = z from xw_ti hr) kk
theorem xw_putZ (C0 : sa_C p s m args c D dA A nL cl Ts cc own) {ci f N idx j κ : Nat} {C : String} {T : u_T} {ty : Nat → FieldType} {ts : List tb_t} {lo hi z : Int} (hc : sa_cls cl Ts ci C T N ty) (hd : decode cc pc = .ok (.putfield idx, 3)) (hf : f < N) (hl : Cond.fieldLink own idx (T f).1 (T f).2.1 (T f).2.2.1 ∈ Ts) (hfin : (T f).2.2.2 = false) (hty : ty f = .boolean) (hj : al[j]? = some (xw_ad al j, κ)) (hk : KT[κ]? = some (.inl (ci, ts))) (ht : ts[f]? = some (0, lo, hi)) (hr : z = 0 ∨ z = 1) (hlo : lo ≤ z ∧ z ≤ hi) (kk : xw_W p l e R s m args below meth c Q D dA A nL cl KT al kc ks (xw_u μ j f z) (pc + 3) L st) : xw_W p l e R s m args below meth c Q D dA A nL cl KT al kc ks μ pc L (.int (Int32.ofInt z) :: .ref (xw_ad al j) :: st) :=
  xw_put C0 hc hd hf hl hfin hty hj hk ht (by rcases hr with rfl | rfl <;> rfl) (by rcases hr with rfl | rfl <;> rfl) (show lo ≤ (Int32.ofInt z).toInt ∧ (Int32.ofInt z).toInt ≤ hi by rw [xw_ti (by omega)]; exact hlo) (show (Int32.ofInt z).toInt = z from xw_ti (by omega)) kk
theorem xw_putL (C0 : sa_C p s m args c D dA A nL cl Ts cc own) {ci f N idx j κ : Nat} {C : String} {T : u_T} {ty : Nat → FieldType} {ts : List tb_t} {lo hi z : Int} (hc : sa_cls cl Ts ci C T N ty) (hd : decode cc pc = .ok (.putfield idx, 3)) (hf : f < N) (hl : Cond.fieldLink own idx (T f).1 (T f).2.1 (T f).2.2.1 ∈ Ts) (hfin : (T f).2.2.2 = false) (hty : ty f = .long) (hj : al[j]? = some (xw_ad al j, κ)) (hk : KT[κ]? = some (.inl (ci, ts))) (ht : ts[f]? = some (1, lo, hi)) (hr : -9223372036854775808 ≤ z ∧ z ≤ 9223372036854775807) (hlo : lo ≤ z ∧ z ≤ hi) (kk : xw_W p l e R s m args below meth c Q D dA A nL cl KT al kc ks (xw_u μ j f z) (pc + 3) L st) : xw_W p l e R s m args below meth c Q D dA A nL cl KT al kc ks μ pc L (.long (Int64.ofInt z) :: .ref (xw_ad al j) :: st) :=
  xw_put C0 hc hd hf hl hfin hty hj hk ht rfl rfl (show lo ≤ (Int64.ofInt z).toInt ∧ (Int64.ofInt z).toInt ≤ hi by rw [xw_tl hr]; exact hlo) (show (Int64.ofInt z).toInt = z from xw_tl hr) kk
theorem xw_putR (C0 : sa_C p s m args c D dA A nL cl Ts cc own) {ci f N idx j κ j' κ' : Nat} {C cn : String} {T : u_T} {ty : Nat → FieldType} {ts : List tb_t} {lo hi : Int} (hc : sa_cls cl Ts ci C T N ty) (hd : decode cc pc = .ok (.putfield idx, 3)) (hf : f < N) (hl : Cond.fieldLink own idx (T f).1 (T f).2.1 (T f).2.2.1 ∈ Ts) (hfin : (T f).2.2.2 = false) (hty : ty f = .object cn) (hj : al[j]? = some (xw_ad al j, κ)) (hk : KT[κ]? = some (.inl (ci, ts))) (ht : ts[f]? = some (2, lo, hi)) (hj' : al[j']? = some (xw_ad al j', κ')) (hlo : lo ≤ (κ' : Int) ∧ (κ' : Int) ≤ hi) (kk : xw_W p l e R s m args below meth c Q D dA A nL cl KT al kc ks (xw_u μ j f (j' : Int)) (pc + 3) L st) : xw_W p l e R s m args below meth c Q D dA A nL cl KT al kc ks μ pc L (.ref (xw_ad al j') :: .ref (xw_ad al j) :: st) :=
  xw_put C0 hc hd hf hl hfin hty hj hk ht rfl rfl (show ∃ (j9 κ9 : Nat), al[j9]? = some (xw_ad al j', κ9) ∧ lo ≤ (κ9 : Int) ∧ (κ9 : Int) ≤ hi from ⟨j', κ', hj', hlo⟩) (show ∃ (j9 κ9 : Nat), (j' : Int) = (j9 : Int) ∧ al[j9]? = some (xw_ad al j', κ9) from ⟨j', κ', rfl, hj'⟩) kk
/-! arrays -/
theorem xw_arr {a9 : Nat × Nat × List (Nat × tb_t)} {w : va_W} {j κ : Nat} {i : Nat} {t : tb_t} (h : xw_R dA al KT w μ) (hj : al[j]? = some (xw_ad al j, κ)) (hk : KT[κ]? = some (.inr a9)) (hi : i < a9.2.1) (ht : tb_rl a9.2.2 i = some t) : ∃ (e : va_E) (v : Value), w[j]? = some (xw_ad al j, e) ∧ tb_sh dA (.inr a9) e ∧ tb_rd e i = some v ∧ tb_vt al t v ∧ xw_v al t v (μ j i) :=
  xw_ld (k := .inr a9) h hj hk (by show (if i < a9.2.1 then tb_rl a9.2.2 i else none) = _; rw [if_pos hi]; exact ht)
theorem xw_shI {a9 : Nat × Nat × List (Nat × tb_t)} {e : va_E} (h : tb_sh dA (.inr a9) e) (h2 : ¬ a9.1 = 2) (h4 : a9.1 < 4) : ∃ f : Nat → Int32, e = .inl (dA a9.1, a9.2.1, .inl f) := by
  unfold tb_sh at h
  dsimp only at h
  rw [if_neg h2, if_pos h4] at h
  exact h
theorem xw_shL {a9 : Nat × Nat × List (Nat × tb_t)} {e : va_E} (h : tb_sh dA (.inr a9) e) (h2 : a9.1 = 2) : ∃ f : Nat → Int64, e = .inl (dA a9.1, a9.2.1, .inr (.inl f)) := by
  unfold tb_sh at h
  dsimp only at h
  rw [if_pos h2] at h
  exact h
theorem xw_ix {i : Int} {n : Nat} (h0 : 0 ≤ i) (h1 : i < (n : Int)) (h2 : i ≤ 2147483647) : vp_in (Int32.ofInt i) n ∧ (Int32.ofInt i).toNatClampNeg = i.toNat := by
  have e1 : (Int32.ofInt i).toInt = i := xw_ti (by omega)
  have e2 : (Int32.ofInt i).toNatClampNeg = i.toNat := by
    have : (Int32.ofInt i).toNatClampNeg = (Int32.ofInt i).toInt.toNat := rfl
    rw [this, e1]
  refine ⟨fun z => ?_, e2⟩
  rcases z with z | z
  · rw [Int32.lt_iff_toInt_lt, e1] at z
    have : i < 0 := z
    omega
  · rw [e2] at z
    omega
theorem xw_iald (C0 : sa_C p s m args c D dA A nL cl Ts cc own) {j κ n : Nat} {ts : List (Nat × tb_t)} {lo hi i z : Int} (hd : decode cc pc = .ok (.iaload, 1)) (hj : al[j]? = some (xw_ad al j, κ)) (hk : KT[κ]? = some (.inr (0, n, ts))) (h0 : 0 ≤ i ∧ i < (n : Int)) (hn : n ≤ 2147483647) (ht : tb_rl ts i.toNat = some (0, lo, hi)) (hz : μ j i.toNat = z) (kk : lo ≤ z → z ≤ hi → xw_W p l e R s m args below meth c Q D dA A nL cl KT al kc ks μ (pc + 1) L (.int (Int32.ofInt z) :: st)) : xw_W p l e R s m args below meth c Q D dA A nL cl KT al kc ks μ pc L (.int (Int32.ofInt i) :: .ref (xw_ad al j) :: st) := by
  intro H locs ls w h1 h2 h3 h4 h5
  obtain ⟨e9, v, c1, c2, c3, c4, c5⟩ := xw_arr (a9 := (0, n, ts)) (i := i.toNat) h4 hj hk (by show i.toNat < n; omega) ht
  obtain ⟨rfl, g1, g2⟩ := xw_int c4 c5
  obtain ⟨f, rfl⟩ := xw_shI c2 (show ¬ (0 : Nat) = 2 by decide) (show (0 : Nat) < 4 by decide)
  obtain ⟨i1, i2⟩ := xw_ix (n := n) h0.1 h0.2 (by omega)
  subst hz
  refine va_iald (D := D) C0.1 C0.2.1 C0.2.2.2.2.2.1 h2 j 0 c1 rfl i1 hd ?_
  rw [i2]
  have c3 : (if i.toNat < n then some (Value.int (f i.toNat)) else none) = some (.int (Int32.ofInt (μ j i.toNat))) := c3
  rw [if_pos (by omega)] at c3
  rw [Option.some.inj c3]
  exact kk g1 g2 H locs ls w h1 h2 h3 h4 h5
theorem xw_bald (C0 : sa_C p s m args c D dA A nL cl Ts cc own) {j κ n : Nat} {ts : List (Nat × tb_t)} {lo hi i z : Int} (hd : decode cc pc = .ok (.baload, 1)) (hj : al[j]? = some (xw_ad al j, κ)) (hk : KT[κ]? = some (.inr (1, n, ts))) (h0 : 0 ≤ i ∧ i < (n : Int)) (hn : n ≤ 2147483647) (ht : tb_rl ts i.toNat = some (0, lo, hi)) (hz : μ j i.toNat = z) (kk : lo ≤ z → z ≤ hi → xw_W p l e R s m args below meth c Q D dA A nL cl KT al kc ks μ (pc + 1) L (.int (Int32.ofInt z) :: st)) : xw_W p l e R s m args below meth c Q D dA A nL cl KT al kc ks μ pc L (.int (Int32.ofInt i) :: .ref (xw_ad al j) :: st) := by
  intro H locs ls w h1 h2 h3 h4 h5
  obtain ⟨e9, v, c1, c2, c3, c4, c5⟩ := xw_arr (a9 := (1, n, ts)) (i := i.toNat) h4 hj hk (by show i.toNat < n; omega) ht
  obtain ⟨rfl, g1, g2⟩ := xw_int c4 c5
  obtain ⟨f, rfl⟩ := xw_shI c2 (show ¬ (1 : Nat) = 2 by decide) (show (1 : Nat) < 4 by decide)
  obtain ⟨i1, i2⟩ := xw_ix (n := n) h0.1 h0.2 (by omega)
  subst hz
  refine va_bald (D := D) C0.1 C0.2.1 C0.2.2.2.2.2.1 h2 j 1 c1 rfl i1 hd ?_
  rw [i2]
  have c3 : (if i.toNat < n then some (Value.int (f i.toNat)) else none) = some (.int (Int32.ofInt (μ j i.toNat))) := c3
  rw [if_pos (by omega)] at c3
  rw [Option.some.inj c3]
  exact kk g1 g2 H locs ls w h1 h2 h3 h4 h5
theorem xw_lald (C0 : sa_C p s m args c D dA A nL cl Ts cc own) {j κ n : Nat} {ts : List (Nat × tb_t)} {lo hi i z : Int} (hd : decode cc pc = .ok (.laload, 1)) (hj : al[j]? = some (xw_ad al j, κ)) (hk : KT[κ]? = some (.inr (2, n, ts))) (h0 : 0 ≤ i ∧ i < (n : Int)) (hn : n ≤ 2147483647) (ht : tb_rl ts i.toNat = some (1, lo, hi)) (hz : μ j i.toNat = z) (kk : lo ≤ z → z ≤ hi → xw_W p l e R s m args below meth c Q D dA A nL cl KT al kc ks μ (pc + 1) L (.long (Int64.ofInt z) :: st)) : xw_W p l e R s m args below meth c Q D dA A nL cl KT al kc ks μ pc L (.int (Int32.ofInt i) :: .ref (xw_ad al j) :: st) := by
  intro H locs ls w h1 h2 h3 h4 h5
  obtain ⟨e9, v, c1, c2, c3, c4, c5⟩ := xw_arr (a9 := (2, n, ts)) (i := i.toNat) h4 hj hk (by show i.toNat < n; omega) ht
  obtain ⟨rfl, g1, g2⟩ := xw_lng c4 c5
  obtain ⟨f, rfl⟩ := xw_shL c2 rfl
  obtain ⟨i1, i2⟩ := xw_ix (n := n) h0.1 h0.2 (by omega)
  subst hz
  refine va_lald (D := D) C0.1 C0.2.1 C0.2.2.2.2.2.1 h2 j 2 c1 rfl i1 hd ?_
  rw [i2]
  have c3 : (if i.toNat < n then some (Value.long (f i.toNat)) else none) = some (.long (Int64.ofInt (μ j i.toNat))) := c3
  rw [if_pos (by omega)] at c3
  rw [Option.some.inj c3]
  exact kk g1 g2 H locs ls w h1 h2 h3 h4 h5
theorem xw_iast (C0 : sa_C p s m args c D dA A nL cl Ts cc own) {j κ n : Nat} {ts : List (Nat × tb_t)} {lo hi i z : Int} (hd : decode cc pc = .ok (.iastore, 1)) (hj : al[j]? = some (xw_ad al j, κ)) (hk : KT[κ]? = some (.inr (0, n, ts))) (h0 : 0 ≤ i ∧ i < (n : Int)) (hn : n ≤ 2147483647) (ht : tb_rl ts i.toNat = some (0, lo, hi)) (hr : -2147483648 ≤ z ∧ z ≤ 2147483647) (hlo : lo ≤ z ∧ z ≤ hi) (kk : xw_W p l e R s m args below meth c Q D dA A nL cl KT al kc ks (xw_u μ j i.toNat z) (pc + 1) L st) : xw_W p l e R s m args below meth c Q D dA A nL cl KT al kc ks μ pc L (.int (Int32.ofInt z) :: .int (Int32.ofInt i) :: .ref (xw_ad al j) :: st) := by
  intro H locs ls w h1 h2 h3 h4 h5
  obtain ⟨e9, c1, c2⟩ := xw_cell h4 hj hk
  obtain ⟨f, rfl⟩ := xw_shI c2 (show ¬ (0 : Nat) = 2 by decide) (show (0 : Nat) < 4 by decide)
  obtain ⟨i1, i2⟩ := xw_ix (n := n) h0.1 h0.2 (by omega)
  refine va_iast (D := D) C0.1 C0.2.1 C0.2.2.2.2.2.1 h2 h3 h5 j 0 c1 rfl i1 hd (fun H1 locs1 g1 g2 g3 => ?_)
  rw [i2] at g1 g2
  refine kk H1 locs1 ls _ h1 g1 g2 (xw_st (k := .inr (0, n, ts)) (v0 := .int (Int32.ofInt z)) h4 hj hk c1 ?_ (fun i' => ?_) (fun t' ht' => ?_)) g3
  · unfold tb_sh
    dsimp only
    rw [if_neg (by decide), if_pos (by decide)]
    exact ⟨_, rfl⟩
  · show (if i' < n then some (Value.int (upd f i.toNat (Int32.ofInt z) i')) else none) = if i' = i.toNat then _ else (if i' < n then some (Value.int (f i')) else none)
    by_cases hi : i' = i.toNat
    · subst hi
      rw [if_pos (by omega), if_pos rfl]
      show some (Value.int (if i.toNat = i.toNat then Int32.ofInt z else f i.toNat)) = _
      rw [if_pos rfl]
    · rw [if_neg hi]
      show (if i' < n then some (Value.int (if i' = i.toNat then Int32.ofInt z else f i')) else none) = _
      rw [if_neg hi]
  · have ht' : (if i.toNat < n then tb_rl ts i.toNat else none) = some t' := ht'
    rw [if_pos (by omega), ht] at ht'
    cases ht'
    exact ⟨show lo ≤ (Int32.ofInt z).toInt ∧ (Int32.ofInt z).toInt ≤ hi by rw [xw_ti hr]; exact hlo, show (Int32.ofInt z).toInt = z from xw_ti hr⟩
/-- a byte laid: its lowest eight bits, with their sign -/
theorem xw_bast (C0 : sa_C p s m args c D dA A nL cl Ts cc own) {j κ n : Nat} {ts : List (Nat × tb_t)} {lo hi i z : Int} (hd : decode cc pc = .ok (.bastore, 1)) (hj : al[j]? = some (xw_ad al j, κ)) (hk : KT[κ]? = some (.inr (1, n, ts))) (h0 : 0 ≤ i ∧ i < (n : Int)) (hn : n ≤ 2147483647) (ht : tb_rl ts i.toNat = some (0, lo, hi)) (hr : -128 ≤ z ∧ z ≤ 127) (hlo : lo ≤ z ∧ z ≤ hi) (kk : xw_W p l e R s m args below meth c Q D dA A nL cl KT al kc ks (xw_u μ j i.toNat z) (pc + 1) L st) : xw_W p l e R s m args below meth c Q D dA A nL cl KT al kc ks μ pc L (.int (Int32.ofInt z) :: .int (Int32.ofInt i) :: .ref (xw_ad al j) :: st) := by
  intro H locs ls w h1 h2 h3 h4 h5
  obtain ⟨e9, c1, c2⟩ := xw_cell h4 hj hk
  obtain ⟨f, rfl⟩ := xw_shI c2 (show ¬ (1 : Nat) = 2 by decide) (show (1 : Nat) < 4 by decide)
  obtain ⟨i1, i2⟩ := xw_ix (n := n) h0.1 h0.2 (by omega)
  have hnar : vp_nar .byte (Int32.ofInt z) = Int32.ofInt z := by
    show (Int32.ofInt z).toInt8.toInt32 = Int32.ofInt z
    apply Int32.toInt_inj.mp
    rw [Int8.toInt_toInt32, Int32.toInt_toInt8, xw_ti (by omega)]
    show Int.bmod z 256 = z
    rw [Int.bmod_def]
    split <;> omega
  refine va_bast (D := D) C0.1 C0.2.1 C0.2.2.2.2.2.1 h2 h3 h5 j 1 c1 rfl i1 hd (fun H1 locs1 g1 g2 g3 => ?_)
  rw [i2, hnar] at g1 g2
  refine kk H1 locs1 ls _ h1 g1 g2 (xw_st (k := .inr (1, n, ts)) (v0 := .int (Int32.ofInt z)) h4 hj hk c1 ?_ (fun i' => ?_) (fun t' ht' => ?_)) g3
  · unfold tb_sh
    dsimp only
    rw [if_neg (by decide), if_pos (by decide)]
    exact ⟨_, rfl⟩
  · show (if i' < n then some (Value.int (upd f i.toNat (Int32.ofInt z) i')) else none) = if i' = i.toNat then _ else (if i' < n then some (Value.int (f i')) else none)
    by_cases hi : i' = i.toNat
    · subst hi
      rw [if_pos (by omega), if_pos rfl]
      show some (Value.int (if i.toNat = i.toNat then Int32.ofInt z else f i.toNat)) = _
      rw [if_pos rfl]
    · rw [if_neg hi]
      show (if i' < n then some (Value.int (if i' = i.toNat then Int32.ofInt z else f i')) else none) = _
      rw [if_neg hi]
  · have ht' : (if i.toNat < n then tb_rl ts i.toNat else none) = some t' := ht'
    rw [if_pos (by omega), ht] at ht'
    cases ht'
    exact ⟨show lo ≤ (Int32.ofInt z).toInt ∧ (Int32.ofInt z).toInt ≤ hi by rw [xw_ti (by omega)]; exact hlo, show (Int32.ofInt z).toInt = z from xw_ti (by omega)⟩
theorem xw_last (C0 : sa_C p s m args c D dA A nL cl Ts cc own) {j κ n : Nat} {ts : List (Nat × tb_t)} {lo hi i z : Int} (hd : decode cc pc = .ok (.lastore, 1)) (hj : al[j]? = some (xw_ad al j, κ)) (hk : KT[κ]? = some (.inr (2, n, ts))) (h0 : 0 ≤ i ∧ i < (n : Int)) (hn : n ≤ 2147483647) (ht : tb_rl ts i.toNat = some (1, lo, hi)) (hr : -9223372036854775808 ≤ z ∧ z ≤ 9223372036854775807) (hlo : lo ≤ z ∧ z ≤ hi) (kk : xw_W p l e R s m args below meth c Q D dA A nL cl KT al kc ks (xw_u μ j i.toNat z) (pc + 1) L st) : xw_W p l e R s m args below meth c Q D dA A nL cl KT al kc ks μ pc L (.long (Int64.ofInt z) :: .int (Int32.ofInt i) :: .ref (xw_ad al j) :: st) := by
  intro H locs ls w h1 h2 h3 h4 h5
  obtain ⟨e9, c1, c2⟩ := xw_cell h4 hj hk
  obtain ⟨f, rfl⟩ := xw_shL c2 rfl
  obtain ⟨i1, i2⟩ := xw_ix (n := n) h0.1 h0.2 (by omega)
  refine va_last (D := D) C0.1 C0.2.1 C0.2.2.2.2.2.1 h2 h3 h5 j 2 c1 rfl i1 hd (fun H1 locs1 g1 g2 g3 => ?_)
  rw [i2] at g1 g2
  refine kk H1 locs1 ls _ h1 g1 g2 (xw_st (k := .inr (2, n, ts)) (v0 := .long (Int64.ofInt z)) h4 hj hk c1 ?_ (fun i' => ?_) (fun t' ht' => ?_)) g3
  · unfold tb_sh
    dsimp only
    rw [if_pos rfl]
    exact ⟨_, rfl⟩
  · show (if i' < n then some (Value.long (vp_updL f i.toNat (Int64.ofInt z) i')) else none) = if i' = i.toNat then _ else (if i' < n then some (Value.long (f i')) else none)
    by_cases hi : i' = i.toNat
    · subst hi
      rw [if_pos (by omega), if_pos rfl]
      show some (Value.long (if i.toNat = i.toNat then Int64.ofInt z else f i.toNat)) = _
      rw [if_pos rfl]
    · rw [if_neg hi]
      show (if i' < n then some (Value.long (if i' = i.toNat then Int64.ofInt z else f i')) else none) = _
      rw [if_neg hi]
  · have ht' : (if i.toNat < n then tb_rl ts i.toNat else none) = some t' := ht'
    rw [if_pos (by omega), ht] at ht'
    cases ht'
    exact ⟨show lo ≤ (Int64.ofInt z).toInt ∧ (Int64.ofInt z).toInt ≤ hi by rw [xw_tl hr]; exact hlo, show (Int64.ofInt z).toInt = z from xw_tl hr⟩
theorem xw_alen (C0 : sa_C p s m args c D dA A nL cl Ts cc own) {j κ t n : Nat} {ts : List (Nat × tb_t)} (hd : decode cc pc = .ok (.arraylength, 1)) (hj : al[j]? = some (xw_ad al j, κ)) (hk : KT[κ]? = some (.inr (t, n, ts))) (ht : t < 6) (kk : xw_W p l e R s m args below meth c Q D dA A nL cl KT al kc ks μ (pc + 1) L (.int (Int32.ofInt (n : Int)) :: st)) : xw_W p l e R s m args below meth c Q D dA A nL cl KT al kc ks μ pc L (.ref (xw_ad al j) :: st) := by
  intro H locs ls w h1 h2 h3 h4 h5
  obtain ⟨e9, c1, c2⟩ := xw_cell h4 hj hk
  obtain ⟨x, rfl, hx1⟩ := tb_arr c2
  obtain ⟨ty, hty⟩ := sa_tys_at (dA := dA) (t := t) ht
  refine va_alen (D := D) (v := Int32.ofInt (n : Int)) C0.1 C0.2.1 C0.2.2.2.2.2.1 h2 j t c1 hty ?_ hd (kk H locs ls w h1 h2 h3 h4 h5)
  rw [hx1]
  exact (Int32.ofInt_eq_ofNat).symm
end XWC
section XWD
/-! contracts: a method at a memory ends with a value and another memory -/
noncomputable def xw_Q (D : va_G) (dA : Nat → ClassId) (cl : List vw_C) (KT : List tb_kd) (al : List (Nat × Nat)) (w0 : va_W) (sz : Nat) (Post : Option Value → xw_M → Prop) : Array Value → State → Outcome → State → Prop := fun _ st oc t => (∃ (v : Option Value) (w' : va_W) (μ' : xw_M), oc = .returned v ∧ va_P D cl w' t.heap ∧ va_D (va_A w0 sz) w' ∧ xw_R dA al KT w' μ' ∧ Post v μ') ∧ va_F (va_A w0 sz) st t
noncomputable def xw_P (D : va_G) (dA : Nat → ClassId) (cl : List vw_C) (w0 : va_W) (sz : Nat) (vs : List Value) : Array Value → State → Prop := va_Pc vs (fun U => U.heap.size = sz ∧ (va_P D cl w0 U.heap ∧ va_D (fun _ => True) w0) ∧ sa_U D cl dA U ∧ tb_Ou (va_A w0 sz) U U.heap)
noncomputable def xw_Met (l : Launch) (cl : List vw_C) (Ts : List Cond) (KT : List tb_kd) (KL : List Nat) (y : MethodName) (cc : ByteArray) (maxL : Nat) (ret : Option FieldType) (fr lc : Nat) (vs : (Nat → Nat) → List Value) (μ : xw_M) (Post : Option Value → xw_M → Prop) : Prop :=
  ∀ (D : va_G) (dA : Nat → ClassId) (sz : Nat) (al : List (Nat × Nat)) (w0 : va_W), al.map Prod.snd = KL → xw_R dA al KT w0 μ → Met l y (Cond.code y cc maxL ret :: Ts) { frames := fr, cells := 0, slots := 0, locals := lc } (xw_P D dA cl w0 sz (vs (xw_ad al))) (xw_Q D dA cl KT al w0 sz Post) 0 0 (va_A w0 sz)
theorem xw_bl {D : va_G} {dA : Nat → ClassId} {cl : List vw_C} {w0 : va_W} {sz : Nat} {vs : List Value} : FrameBlind (xw_P D dA cl w0 sz vs) := by
  intro a U g mk q
  obtain ⟨q0, q1, qP, qU, qX⟩ := q
  exact ⟨q0, q1, qP, sa_U.same (u := U) (U := U.calling g mk a) rfl qU, by
    have := tb_X0_bl (fun _ => (0, 0, fun _ => 0, 0)) (va_A w0 sz) U (U.calling g mk a) rfl rfl qX
    exact this⟩
/-- A METHOD, out of its run -/
theorem xw_of {l : Launch} {cl : List vw_C} {Ts : List Cond} {KT : List tb_kd} {KL : List Nat} {y : MethodName} {cc : ByteArray} {mL : Nat} {ret : Option FieldType} {fr lc : Nat} {vs : (Nat → Nat) → List Value} {μ : xw_M} {Post : Option Value → xw_M → Prop} (hy : plainName y.cls = true) (hlen : ∀ ad, (lg_sl (vs ad)).length ≤ mL)
    (body : ∀ (p : Program) (e : Env) (s : State) (m : MethodId) (args : Array Value) (below : List Frame) (meth : Method) (c : Code) (D : va_G) (dA : Nat → ClassId) (A : Nat → Prop) (al : List (Nat × Nat)) (w0 : va_W) (sz : Nat), sa_C p s m args c D dA A mL cl Ts cc y.cls → sa_U D cl dA s → tb_Ou A s s.heap → al.map Prod.snd = KL → meth.sig.returnType = ret → meth.locks = false → A = va_A w0 sz →
      xw_W p l e { frames := fr, cells := 0, slots := 0, locals := lc } s m args below meth c (MQ below (xw_Q D dA cl KT al w0 sz Post) args s 0 0 A) D dA A mL cl KT al 0 0 μ 0 (lv_args 0 (vs (xw_ad al))) []) : xw_Met l cl Ts KT KL y cc mL ret fr lc vs μ Post := by
  intro D dA sz al w0 hKL hR
  refine Met.ofW (cc := cc) (maxL := mL) (ret := ret) hy rfl ?_
  intro p e s m args below meth c s₁ B hml hv
  obtain ⟨hargs, hsz, ⟨hP, hD0⟩, hU, hX⟩ := hv
  subst hargs
  have hts0 := atoms_spec (ws := Cond.code y cc mL ret :: Ts) B.pre
  have hown : s.vm.findClass y.cls = some m.cls := findClass_of_methodNamed B.named
  subst hsz
  have hD := hD0.self (sz := s.heap.size)
  have hS : va_S (va_A w0 s.heap.size) s.heap s.heap [] := va_S.rf
  have hl := lv_entry (vs (xw_ad al)) (n := mL) (hlen _)
  rw [lg_entry_eq]
  have hC : sa_C p s m (vs (xw_ad al)).toArray c D dA (va_A w0 s.heap.size) mL cl Ts cc y.cls := ⟨B.exec, B.bytes, fun w hw => hts0 w (List.mem_cons_of_mem _ hw), hown, hml, hU.1, fun q h => Or.inr h⟩
  exact body p e s m (vs (xw_ad al)).toArray below meth c D dA (va_A w0 s.heap.size) al w0 s.heap.size hC hU hX hKL B.returns B.notSynchronized rfl s.heap [] _ w0 hl hP hD hR hS
variable {p : Program} {l : Launch} {e : Env} {R : Room} {s : State} {m : MethodId} {args : Array Value} {below : List Frame} {meth : Method} {c : Code} {Q : State → Prop} {D : va_G} {dA : Nat → ClassId} {A : Nat → Prop} {nL : Nat} {cl : List vw_C} {KT : List tb_kd} {al : List (Nat × Nat)} {kc ks : Nat} {μ : xw_M} {Ts : List Cond} {cc : ByteArray} {own : String} {pc : Nat} {L : List (Nat × Value)} {st : List Value}
/-! ends -/
theorem xw_iret (C0 : sa_C p s m args c D dA A nL cl Ts cc own) {w0 : va_W} {sz : Nat} {Post : Option Value → xw_M → Prop} {ty : FieldType} {z : Int} (hA : A = va_A w0 sz) (hr : meth.sig.returnType = some ty) (hlocks : meth.locks = false) (hn : narrow ty (.int (Int32.ofInt z)) = .int (Int32.ofInt z)) (hd : decode cc pc = .ok (.ireturn, 1)) (hq : Post (some (.int (Int32.ofInt z))) μ) : xw_W p l e R s m args below meth c (MQ below (xw_Q D dA cl KT al w0 sz Post) args s 0 0 A) D dA A nL cl KT al 0 0 μ pc L [.int (Int32.ofInt z)] := by
  intro H locs ls w h1 h2 h3 h4 h5
  subst hA
  exact W.zret C0.1 C0.2.1 hr hn (fun t ht _ => ⟨⟨_, w, μ, rfl, by rw [ht]; exact h2, h3, h4, hq⟩, h5.F ht⟩) (fun q hq9 => h5.2.2 q hq9) hd
theorem xw_lret (C0 : sa_C p s m args c D dA A nL cl Ts cc own) {w0 : va_W} {sz : Nat} {Post : Option Value → xw_M → Prop} {z : Int} (hA : A = va_A w0 sz) (hr : meth.sig.returnType = some .long) (hlocks : meth.locks = false) (hd : decode cc pc = .ok (.lreturn, 1)) (hq : Post (some (.long (Int64.ofInt z))) μ) : xw_W p l e R s m args below meth c (MQ below (xw_Q D dA cl KT al w0 sz Post) args s 0 0 A) D dA A nL cl KT al 0 0 μ pc L [.long (Int64.ofInt z)] := by
  intro H locs ls w h1 h2 h3 h4 h5
  subst hA
  exact W.lret C0.1 C0.2.1 hr (fun t ht _ => ⟨⟨_, w, μ, rfl, by rw [ht]; exact h2, h3, h4, hq⟩, h5.F ht⟩) (fun q hq9 => h5.2.2 q hq9) hd
theorem xw_vret (C0 : sa_C p s m args c D dA A nL cl Ts cc own) {w0 : va_W} {sz : Nat} {Post : Option Value → xw_M → Prop} (hA : A = va_A w0 sz) (hr : meth.sig.returnType = none) (hlocks : meth.locks = false) (hd : decode cc pc = .ok (.return_, 1)) (hq : Post none μ) : xw_W p l e R s m args below meth c (MQ below (xw_Q D dA cl KT al w0 sz Post) args s 0 0 A) D dA A nL cl KT al 0 0 μ pc L [] := by
  intro H locs ls w h1 h2 h3 h4 h5
  subst hA
  exact W.vret C0.1 C0.2.1 hr (fun t ht _ => ⟨⟨_, w, μ, rfl, by rw [ht]; exact h2, h3, h4, hq⟩, h5.F ht⟩) (fun q hq9 => h5.2.2 q hq9) hd
/-! calls -/
/-- behind a call's run -/
theorem xw_back {st' : List Value} {Post : Option Value → xw_M → Prop} {w : va_W} {H : Heap} {locs : List Loc} {ls : Array Slot} {a : Array Value} (hA : ∀ q, s.heap.size ≤ q → A q) (h1 : lv_has ls nL L) (h3 : va_D A w) (h5 : va_S A s.heap H locs) (hrun : va_Run p l e R s m args below meth c H locs kc ks 0 0 (F0 m pc ls st) st' (xw_Q D dA cl KT al w H.size Post a) (va_A w H.size)) (kk : ∀ (v : Option Value) (μ' : xw_M), Post v μ' → xw_W p l e R s m args below meth c Q D dA A nL cl KT al kc ks μ' (pc + 3) L (v.toList ++ st')) : W p l e R s m args below meth c H locs kc ks Q (F0 m pc ls st) := by
  intro T hT X
  obtain ⟨v, st₀, t, T', L9, t0, X', hL, x1, x2, ⟨⟨v9, w', μ', hoc, m1, m2, m3, m4⟩, hzz, hkk⟩, stp⟩ := hrun T hT X
  have hv := Outcome.returned.inj hoc
  subst hv
  rw [t0] at hzz hkk
  have hF : ∀ q, va_A w H.size q → A q := by
    intro q hq
    rcases hq with ⟨k9, e9, hq⟩ | hq
    · exact h3.2 k9 _ hq
    · exact hA q (Nat.le_trans h5.1 hq)
  have hSn : va_S A s.heap T'.heap (locs ++ L9) := ⟨Nat.le_trans h5.1 (by rw [x1]; exact hzz), fun q g1 g2 => by rw [x1, hkk q (Nat.lt_of_lt_of_le g1 h5.1) (fun z => g2 (hF q z))]; exact h5.2.1 q g1 g2, fun q hq => by
    rcases List.mem_append.mp hq with h | h
    · exact h5.2.2 q h
    · exact hF _ (hL q h)⟩
  obtain ⟨t2, a1, b1⟩ := kk v μ' m4 T'.heap (locs ++ L9) ls w' h1 (by rw [x1]; exact m1) (m2.weaken (fun j q hj hq => hF _ hq)) m3 hSn T' rfl X'
  exact ⟨t2, stp t2 a1, b1⟩
end XWD
section XWE
variable {p : Program} {l : Launch} {e : Env} {R : Room} {s : State} {m : MethodId} {args : Array Value} {below : List Frame} {meth : Method} {c : Code} {Q : State → Prop} {D : va_G} {dA : Nat → ClassId} {A : Nat → Prop} {nL : Nat} {cl : List vw_C} {KT : List tb_kd} {KL : List Nat} {al : List (Nat × Nat)} {kc ks : Nat} {μ : xw_M} {Ts : List Cond} {cc : ByteArray} {own : String} {pc : Nat} {L : List (Nat × Value)} {st rest As : List Value}
theorem xw_pre {w : va_W} {H : Heap} {locs : List Loc} {vs : List Value} (hU : sa_U D cl dA s) (hO : tb_Ou A s s.heap) (hA : ∀ q, s.heap.size ≤ q → A q) (h2 : va_P D cl w H) (h3 : va_D A w) (h5 : va_S A s.heap H locs) : ∀ U : State, U.heap = H → s.WarmedH U.vm → xw_P D dA cl w H.size vs vs.toArray U := by
  intro U hUH hW
  have hF : ∀ q, va_A w H.size q → A q := by
    intro q hq
    rcases hq with ⟨k9, e9, hq⟩ | hq
    · exact h3.2 k9 _ hq
    · exact hA q (Nat.le_trans h5.1 hq)
  exact ⟨rfl, by rw [hUH], ⟨by rw [hUH]; exact h2, h3.weaken (fun _ _ _ _ => trivial)⟩, sa_U.warm hW hU, tb_Ou.call hO h5 hF hUH hW⟩
theorem xw_callV (C0 : sa_C p s m args c D dA A nL cl Ts cc own) (hU : sa_U D cl dA s) (hO : tb_Ou A s s.heap) (hg : ∀ w ∈ Ts, goodWord w = true) (hKL : al.map Prod.snd = KL) {y : MethodName} {cy : ByteArray} {mL fr lc idx n ci N j κ : Nat} {T : u_T} {ret : Option FieldType} {ts : List tb_t} {vs : (Nat → Nat) → List Value} {Post : Option Value → xw_M → Prop} (hM : xw_Met l cl Ts KT KL y cy mL ret fr lc vs μ Post) (hcode : Cond.code y cy mL ret ∈ Ts) (hd : decode cc pc = .ok (.invokevirtual idx, 3)) (w1 : Cond.methodLink own idx y ∈ Ts) (w2 : Cond.instanceMethod y ∈ Ts) (w3 : Cond.selects y.cls y y ∈ Ts) (w4 : Cond.initialized y.cls ∈ Ts) (hcl : cl[ci]? = some (y.cls, T, N)) (hy : sa_arg y n) (hR : fr + 1 ≤ R.frames ∧ 8 + (mL + 11) + lc ≤ R.locals) (hvs : vs (xw_ad al) = .ref (xw_ad al j) :: As) (hn : As.length = n) (hst : st = As.reverse ++ .ref (xw_ad al j) :: rest) (hkc : kc + 0 ≤ R.cells ∧ ks + 0 ≤ R.slots) (hcat : (rest.map (fun v => v.category)).sum ≤ 8) (hj : al[j]? = some (xw_ad al j, κ)) (hk : KT[κ]? = some (.inl (ci, ts))) (kk : ∀ (v : Option Value) (μ' : xw_M), Post v μ' → xw_W p l e R s m args below meth c Q D dA A nL cl KT al kc ks μ' (pc + 3) L (v.toList ++ rest)) : xw_W p l e R s m args below meth c Q D dA A nL cl KT al kc ks μ pc L st := by
  intro H locs ls w h1 h2 h3 h4 h5
  obtain ⟨hx, hb, hts, hown, hml, hK, hA⟩ := C0
  obtain ⟨e9, j2, ⟨fs, rfl, j4⟩⟩ := xw_cell h4 hj hk
  have rv := va_recv (D := D) hK h2 hcl j2
  have hp := xw_pre (vs := vs (xw_ad al)) hU hO hA h2 h3 h5
  rw [hvs] at hp
  have hrun := va_runV (p := p) (e := e) (below := below) (meth := meth) (H := H) (locs := locs) (cells := kc) (slots := ks) (C := y.cls) (bytes := cy) (maxL := mL) (ret := ret) (b := xw_ad al j) (As := As) (rest := rest) (n := n) (g := F0 m pc ls st) ⟨hx, hb, hml, hown, hts⟩ (hM D dA H.size al w hKL h4) (cwV n hts (sa_goodV hg hcode (by intro u hu; simp only [List.mem_cons, List.not_mem_nil, or_false] at hu; rcases hu with rfl | rfl | rfl | rfl <;> assumption)) rfl rfl rfl ⟨rfl, hy⟩ hR) ⟨xw_bl, rv, by rw [hvs]; exact hp⟩ rfl hn h1.1 hst (lv_room hcat) hd hkc
  exact xw_back hA h1 h3 h5 hrun kk
theorem xw_callS (C0 : sa_C p s m args c D dA A nL cl Ts cc own) (hU : sa_U D cl dA s) (hO : tb_Ou A s s.heap) (hg : ∀ w ∈ Ts, goodWord w = true) (hKL : al.map Prod.snd = KL) {y : MethodName} {cy : ByteArray} {mL fr lc idx n : Nat} {ret : Option FieldType} {vs : (Nat → Nat) → List Value} {Post : Option Value → xw_M → Prop} (hM : xw_Met l cl Ts KT KL y cy mL ret fr lc vs μ Post) (hcode : Cond.code y cy mL ret ∈ Ts) (hd : decode cc pc = .ok (.invokestatic idx, 3)) (w1 : Cond.methodLink own idx y ∈ Ts) (w2 : Cond.static y ∈ Ts) (w4 : Cond.initialized y.cls ∈ Ts) (hy : sa_arg y n) (hR : fr + 1 ≤ R.frames ∧ 8 + (mL + 11) + lc ≤ R.locals) (hvs : vs (xw_ad al) = As) (hn : As.length = n) (hst : st = As.reverse ++ rest) (hkc : kc + 0 ≤ R.cells ∧ ks + 0 ≤ R.slots) (hcat : (rest.map (fun v => v.category)).sum ≤ 8) (kk : ∀ (v : Option Value) (μ' : xw_M), Post v μ' → xw_W p l e R s m args below meth c Q D dA A nL cl KT al kc ks μ' (pc + 3) L (v.toList ++ rest)) : xw_W p l e R s m args below meth c Q D dA A nL cl KT al kc ks μ pc L st := by
  intro H locs ls w h1 h2 h3 h4 h5
  obtain ⟨hx, hb, hts, hown, hml, hK, hA⟩ := C0
  have hp := xw_pre (vs := vs (xw_ad al)) hU hO hA h2 h3 h5
  rw [hvs] at hp
  have hrun := va_runS (p := p) (e := e) (below := below) (meth := meth) (H := H) (locs := locs) (cells := kc) (slots := ks) (bytes := cy) (maxL := mL) (ret := ret) (As := As) (rest := rest) (n := n) (g := F0 m pc ls st) ⟨hx, hb, hml, hown, hts⟩ (hM D dA H.size al w hKL h4) (va_cwS n hts (sa_goodV hg hcode (by intro u hu; simp only [List.mem_cons, List.not_mem_nil, or_false] at hu; rcases hu with rfl | rfl | rfl <;> assumption)) rfl rfl rfl hy hR) ⟨xw_bl, by rw [hvs]; exact hp⟩ rfl hn h1.1 hst (lv_room hcat) hd hkc
  exact xw_back hA h1 h3 h5 hrun kk
/-- behind a call that changes nothing -/
theorem xw_pure {ls : Array Slot} {w : va_W} {H : Heap} {locs : List Loc} {x : Int32} {r : Int} (hv : x = Int32.ofInt r) (h1 : lv_has ls nL L) (h2 : va_P D cl w H) (h3 : va_D A w) (h4 : xw_R dA al KT w μ) (h5 : va_S A s.heap H locs) (hrun : va_Run p l e R s m args below meth c H locs kc ks 0 0 (F0 m pc ls st) rest (fun st oc t => oc = .returned (some (.int x)) ∧ t.heap = st.heap) (fun _ => False)) (kk : xw_W p l e R s m args below meth c Q D dA A nL cl KT al kc ks μ (pc + 3) L (.int (Int32.ofInt r) :: rest)) : W p l e R s m args below meth c H locs kc ks Q (F0 m pc ls st) := by
  intro T hT X
  obtain ⟨v, st₀, t, T', L9, t0, X', hL, x1, x2, ⟨hq1, hq2⟩, stp⟩ := hrun T hT X
  have hL0 : L9 = [] := by
    cases L9 with
    | nil => rfl
    | cons a l9 => exact (hL a List.mem_cons_self).elim
  subst hL0
  have hv9 : v = some (.int x) := Outcome.returned.inj hq1
  subst hv9
  subst hv
  obtain ⟨t2, a1, b1⟩ := kk H locs ls w h1 h2 h3 h4 h5 T' (by rw [x1, hq2, t0]) (by simpa using X')
  exact ⟨t2, stp t2 a1, b1⟩
/-- a bit of a number -/
theorem xw_bitS (C0 : sa_C p s m args c D dA A nL cl Ts cc own) (hg : ∀ w ∈ Ts, goodWord w = true) {y : MethodName} {cy : ByteArray} {mL fr lc idx : Nat} {ret : Option FieldType} {a b r : Int} (hM : tb_Pu l Ts y cy mL ret fr lc) (hcode : Cond.code y cy mL ret ∈ Ts) (hd : decode cc pc = .ok (.invokestatic idx, 3)) (w1 : Cond.methodLink own idx y ∈ Ts) (w2 : Cond.static y ∈ Ts) (w4 : Cond.initialized y.cls ∈ Ts) (hy : sa_arg y 2) (hR : fr + 1 ≤ R.frames ∧ 8 + (mL + 11) + lc ≤ R.locals) (hkc : kc + 0 ≤ R.cells ∧ ks + 0 ≤ R.slots) (hcat : (rest.map (fun v => v.category)).sum ≤ 8) (hv : tb_hb (Int32.ofInt a) (Int32.ofInt b) = Int32.ofInt r) (kk : xw_W p l e R s m args below meth c Q D dA A nL cl KT al kc ks μ (pc + 3) L (.int (Int32.ofInt r) :: rest)) : xw_W p l e R s m args below meth c Q D dA A nL cl KT al kc ks μ pc L (.int (Int32.ofInt b) :: .int (Int32.ofInt a) :: rest) := by
  intro H locs ls w h1 h2 h3 h4 h5
  obtain ⟨hx, hb, hts, hown, hml, hK, hA⟩ := C0
  have hrun := va_runS (p := p) (e := e) (below := below) (meth := meth) (H := H) (locs := locs) (cells := kc) (slots := ks) (bytes := cy) (maxL := mL) (ret := ret) (As := [.int (Int32.ofInt a), .int (Int32.ofInt b)]) (rest := rest) (n := 2) (g := F0 m pc ls (.int (Int32.ofInt b) :: .int (Int32.ofInt a) :: rest)) ⟨hx, hb, hml, hown, hts⟩ (hM (Int32.ofInt a) (Int32.ofInt b)) (va_cwS 2 hts (sa_goodV hg hcode (by intro u hu; simp only [List.mem_cons, List.not_mem_nil, or_false] at hu; rcases hu with rfl | rfl | rfl <;> assumption)) rfl rfl rfl hy hR) ⟨fun _ _ _ _ q => q, fun _ _ _ => rfl⟩ rfl rfl h1.1 rfl (lv_room hcat) hd hkc
  exact xw_pure hv h1 h2 h3 h4 h5 hrun kk
theorem xw_bitN (C0 : sa_C p s m args c D dA A nL cl Ts cc own) (hU : sa_U D cl dA s) (hg : ∀ w ∈ Ts, goodWord w = true) {y : MethodName} {cy : ByteArray} {mL fr lc idx : Nat} {ret : Option FieldType} {host : String} {a b r : Int} (hM : tb_Pu l Ts y cy mL ret fr lc) (hcode : Cond.code y cy mL ret ∈ Ts) (hd : decode cc pc = .ok (.invokestatic idx, 3)) (w1 : (own, idx, y, host) ∈ sa_NL) (w2 : Cond.static y ∈ Ts) (w4 : Cond.initialized y.cls ∈ Ts) (hy : sa_arg y 2) (hR : fr + 1 ≤ R.frames ∧ 8 + (mL + 11) + lc ≤ R.locals) (hkc : kc + 0 ≤ R.cells ∧ ks + 0 ≤ R.slots) (hcat : (rest.map (fun v => v.category)).sum ≤ 8) (hv : tb_hb (Int32.ofInt a) (Int32.ofInt b) = Int32.ofInt r) (kk : xw_W p l e R s m args below meth c Q D dA A nL cl KT al kc ks μ (pc + 3) L (.int (Int32.ofInt r) :: rest)) : xw_W p l e R s m args below meth c Q D dA A nL cl KT al kc ks μ pc L (.int (Int32.ofInt b) :: .int (Int32.ofInt a) :: rest) := by
  intro H locs ls w h1 h2 h3 h4 h5
  obtain ⟨hx, hb, hts, hown, hml, hK, hA⟩ := C0
  have hrun := va_runSN (p := p) (e := e) (below := below) (meth := meth) (H := H) (locs := locs) (cells := kc) (slots := ks) (host := host) (bytes := cy) (maxL := mL) (ret := ret) (As := [.int (Int32.ofInt a), .int (Int32.ofInt b)]) (rest := rest) (n := 2) (g := F0 m pc ls (.int (Int32.ofInt b) :: .int (Int32.ofInt a) :: rest)) ⟨hx, hb, hml, hown, hts⟩ (hM (Int32.ofInt a) (Int32.ofInt b)) ⟨va_cnB 2 hts (sa_good hg hcode) rfl rfl rfl (hU.2.2.2 _ w1) (hts _ w4) hy hR, hts _ w2, trivial⟩ ⟨fun _ _ _ _ q => q, fun _ _ _ => rfl⟩ rfl rfl h1.1 rfl (lv_room hcat) hd hkc
  exact xw_pure hv h1 h2 h3 h4 h5 hrun kk
end XWE
