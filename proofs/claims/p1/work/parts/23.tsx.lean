def so_tsx (a : Int) (tg : List Nat) (df : Nat) : sa_op := fun S => match S.2.2.1 with
  | .inl x :: rest => match sa_iv S.2.2.2.2.1 x with
    | some b => some (sa_tsw S x rest a tg ++ ((if b.1 < a then [(df, S.2.1, rest, S.2.2.2.1, sa_hi S.2.2.2.2.1 x.1 (a - 1 - x.2), S.2.2.2.2.2)] else []) ++ (if a + tg.length ≤ b.2 then [(df, S.2.1, rest, S.2.2.2.1, sa_lw S.2.2.2.2.1 x.1 (a + tg.length - x.2), S.2.2.2.2.2)] else [])))
    | none => none
  | _ => none
theorem sn_tsx {p : Program} {l : Launch} {e : Env} {R : Room} {s : State} {m : MethodId} {args : Array Value} {below : List Frame} {meth : Method} {c : Code} {Q : State → Prop} {D : va_G} {dA : Nat → ClassId} {A : Nat → Prop} {nL : Nat} {cl : List vw_C} {n0 : Nat} {V0 : sa_V} {Ts : List Cond} {cc : ByteArray} {own : String} (C0 : sa_C p s m args c D dA A nL cl Ts cc own) {pc : Nat} {dflt a b : Int} {offs : Array Int} {len df : Nat} {tg : List Nat} (hd : decode cc pc = .ok (.tableswitch dflt a b offs, len)) (hb0 : b = a + tg.length - 1) (ha1 : -2147483648 ≤ a) (ha2 : a + tg.length ≤ 2147483647) (ho : offs.toList.map (fun o => (pc : Int) + o) = tg.map Int.ofNat) (ht : (pc : Int) + dflt = (df : Int)) : sa_snd p l e R s m args below meth c Q D dA A nL cl n0 V0 pc (so_tsx a tg df) := by
  obtain ⟨hx, hb, hts, hown, hml, hK, hA⟩ := C0
  rintro ⟨pc, lo, st, cs, G, kc, ks⟩ sts rfl h k V H locs ls hG
  unfold so_tsx at h
  dsimp only at h
  split at h
  · rename_i x rest
    split at h
    · rename_i bb hbb
      cases h
      obtain ⟨e1, l1, u1⟩ := sa_iv_ok hG.1.1 hbb
      by_cases hin : (sa_i V x).toInt < a ∨ b < (sa_i V x).toInt
      · refine lv_tableOut hx hb hd hin ht ?_
        rcases hin with hin | hin
        · exact k (df, lo, rest, cs, sa_hi G x.1 (a - 1 - x.2), kc, ks) (List.mem_append_right _ (List.mem_append_left _ (by rw [if_pos (by omega)]; exact List.mem_cons_self))) V H locs ls ⟨⟨sa_I_hi hG.1.1 (by omega), by rw [sa_hi_len]; exact hG.1.2.1, hG.1.2.2⟩, hG.2⟩
        · exact k (df, lo, rest, cs, sa_lw G x.1 (a + tg.length - x.2), kc, ks) (List.mem_append_right _ (List.mem_append_right _ (by rw [if_pos (by omega)]; exact List.mem_cons_self))) V H locs ls ⟨⟨sa_I_lw hG.1.1 (by omega), by rw [sa_lw_len]; exact hG.1.2.1, hG.1.2.2⟩, hG.2⟩
      · have hj : ((sa_i V x).toInt - a).toNat < offs.toList.length := by
          have hlen : offs.toList.length = tg.length := by rw [← List.length_map (f := fun o => (pc : Int) + o), ho, List.length_map]
          rw [hlen]
          omega
        obtain ⟨off, hoff⟩ : ∃ off, offs.toList[((sa_i V x).toInt - a).toNat]? = some off := ⟨_, List.getElem?_eq_getElem hj⟩
        have h5 : (offs.toList.map (fun o => (pc : Int) + o))[((sa_i V x).toInt - a).toNat]? = some ((pc : Int) + off) := by rw [List.getElem?_map, hoff]; rfl
        rw [ho, List.getElem?_map] at h5
        cases h6 : tg[((sa_i V x).toInt - a).toNat]? with
        | none => rw [h6] at h5; cases h5
        | some t =>
          rw [h6] at h5
          have h7 : (pc : Int) + off = (t : Int) := (Option.some.inj h5).symm
          refine lv_tableIn hx hb hd (fun q => hin (Or.inl q)) (fun q => hin (Or.inr q)) (by rw [← Array.getElem?_toList]; exact hoff) h7 ?_
          refine sa_br_ok (st := .inl x :: rest) (pc0 := pc) (y := (0, a + (((sa_i V x).toInt - a).toNat : Int))) sr_eq_ok hG ?_ (fun S' hS => k S' (List.mem_append_left _ (sa_tsw_in tg a _ t h6 S' hS)))
          show sa_i V x = sa_i V _
          rw [sa_i_0 hG.1.1, show a + (((sa_i V x).toInt - a).toNat : Int) = (sa_i V x).toInt by omega, Int32.ofInt_toInt]
    · cases h
  · cases h
