section SACA
variable {p : Program} {l : Launch} {e : Env} {R : Room} {s : State} {m : MethodId} {args : Array Value} {below : List Frame} {meth : Method} {c : Code} {H : Heap} {locs : List Loc} {cells slots : Nat} {Q : State → Prop}
/-- a table of one entry that names the thrown class: the walk goes on at its handler -/
theorem sa_caught {own E : String} {ce : Cell} {q : Addr} {pc : Nat} {ls : Array Slot} {rest : List Value} {xe : ExceptionTableEntry} (hown : s.vm.findClass own = some m.cls) (hone : c.exceptionTable.toList = [xe]) (hcov : covers xe pc = true) (hct : xe.catchType ≠ 0)
    (hlink : (Cond.classLink own xe.catchType E).before args s = true) (hcast : (Cond.castable E E).before args s = true) (hcell : H[q]? = some ce) (hv : ce.vm = .none) (hcl : s.vm.findClass E = some ce.cls)
    (kk : W p l e R s m args below meth c H locs cells slots Q (F0 m xe.handlerPc ls [.ref q])) : vx_W p l e R s m args below meth c H locs cells slots Q (F0 m pc ls rest) q := by
  intro T hT X
  have hplat : e.platform.magicAccessors = ({} : Platform).magicAccessors := by rw [X.admits.platform]
  obtain ⟨ca, cb, ha, hb, hasg⟩ := Cond.castable_spec hcast
  have e1 : ca = ce.cls := Option.some.inj (ha.symm.trans hcl)
  have e2 : cb = ce.cls := Option.some.inj (hb.symm.trans hcl)
  subst e1
  rw [e2] at hasg
  obtain ⟨cl, hfind, hlnk⟩ := Cond.classLink_spec hown hlink e.platform hplat
  have e3 : cl = ce.cls := Option.some.inj (hfind.symm.trans hcl)
  rw [e3] at hlnk
  obtain ⟨dk, _, _, kt, hdk, _, _, _, _, hkt, _, hopen⟩ := hlnk.here
  have hwarm : s.WarmedH (T.vm.noted m.cls xe.catchType (.cls ce.cls)) := X.warmed.noted hdk hopen (State.rightAt_cls hlnk)
  have hlnkT := X.warmed.classLinks hlnk
  obtain ⟨kT, hkT, -⟩ := X.warmed.alike.2.2 _ _ hkt
  have hasgT : T.vm.assignable ce.cls ce.cls = true := by rw [X.warmed.alike.assignable]; exact hasg
  have hobj : ∀ k, ce.vm ≠ .statics k := fun k h => by rw [hv] at h; cases h
  have hcellT : T.heap[q]? = some ce := by rw [hT]; exact hcell
  obtain ⟨t, a1, b1⟩ := kk (T.setVm (T.vm.noted m.cls xe.catchType (.cls ce.cls))) hT (X.noted hwarm)
  refine ⟨t, ?_, b1⟩
  generalize hU : (T.setTop (F0 m pc ls rest)).pushFrame (.throwing q) = U
  have hUvm : U.vm = T.vm := by rw [← hU]; exact throwing_vm T _ q
  have hUheap : U.heap = T.heap := by rw [← hU]; exact throwing_heap T _ q
  -- the search
  have search : ∀ (Qh : Handler → Pre) (Ec : CtlPost) (d : Bool) (acts : List Action), wp (findHandler (F0 m pc ls rest) q) Qh Ec e d acts U ↔ Qh (.found xe.handlerPc) d acts (U.setVm (T.vm.noted m.cls xe.catchType (.cls ce.cls))) := by
    intro Qh Ec d acts
    have hmU : U.vm.method? m = some meth := by rw [hUvm]; exact X.method'
    have hkc : meth.code = some c := by
      have h1 := X.code
      have h2 := X.method'
      first | exact h1 | (simpa [State.code?, h2] using h1)
    rw [W.findHandler_eq (f := F0 m pc ls rest) hmU hkc, hone]
    rw [← hUvm] at hlnkT hkT hasgT ⊢
    have hal : U.vm.Alike (U.vm.noted m.cls xe.catchType (.cls ce.cls)) := (Vm.Alike.refl U.vm).noted _ _ _
    obtain ⟨r1, r2⟩ := (resolveClass_links (vm := U.vm) e.toSetting hlnkT).op (op := VmOp.resolveClass m.cls xe.catchType) rfl
    obtain ⟨k1, hk1, -⟩ := hal.2.2 _ _ hkT
    have hfit : (U.vm.noted m.cls xe.catchType (.cls ce.cls)).assignable ce.cls ce.cls = true := by rw [hal.assignable]; exact hasgT
    have hcU : U.heap[q]? = some ce := by rw [hUheap]; exact hcellT
    simp only [covers] at hcov
    simp [findHandler.go, hcov, hct, r1, r2, hcU, hobj, hk1, hfit, VmOp.dirties, VmOp.acts]
  obtain ⟨hgo, hw⟩ := X.here.throwing q (g := F0 m pc ls rest)
  rw [hU] at hgo hw
  refine Steps.head hgo hw ?_
  have hstep : (stepThrowing e U q (.java (F0 m pc ls rest) :: T.frames.tail)).1 = (U.setVm (T.vm.noted m.cls xe.catchType (.cls ce.cls))).setFrames (.java (F0 m xe.handlerPc ls [.ref q]) :: T.frames.tail) := by
    simp only [stepThrowing, searchFrame, vmDo]
    generalize hr : Sem.go _ e false [] U = res
    obtain ⟨as, rfl, ha⟩ := Sem.eq_ok_of hr (a := Handler.found xe.handlerPc) (s' := U.setVm (T.vm.noted m.cls xe.catchType (.cls ce.cls))) (acts' := []) (by simp [search])
    rfl
  rw [stepThread_throwing (by rw [← hU]; exact frames_entered X.here.top _), hstep]
  obtain ⟨g₀, hg⟩ := Option.isSome_iff_exists.mp X.here.top
  obtain ⟨r, hr⟩ := State.topJava?_eq_some.mp hg
  have hr' : (T.setVm (T.vm.noted m.cls xe.catchType (.cls ce.cls))).frames = .java g₀ :: r := hr
  rw [State.setTop_of_frames _ hr'] at a1
  have hfin : (U.setVm (T.vm.noted m.cls xe.catchType (.cls ce.cls))).setFrames (.java (F0 m xe.handlerPc ls [.ref q]) :: T.frames.tail) = (T.setVm (T.vm.noted m.cls xe.catchType (.cls ce.cls))).setFrames (.java (F0 m xe.handlerPc ls [.ref q]) :: r) := by
    have hc : ∀ (u : State) (F G : List Frame) (v : Vm), ((u.setFrames F).setVm v).setFrames G = (u.setVm v).setFrames G := fun u F G v => State.setFrames_setFrames (u.setVm v) F G
    rw [hr, List.tail_cons, ← hU, State.pushFrame, State.setTop_of_frames _ hr, hc, hc]
  rw [hfin]
  exact a1
end SACA
