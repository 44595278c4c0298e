/-! ===== caught by a row whose class is linked, whether or not it was looked up before ===== -/
section MCatch
variable {p : Program} {l : Launch} {e : Env} {R : Room} {s : State} {m : MethodId} {args : Array Value} {below : List Frame} {meth : Method} {c : Code} {H : Heap} {locs : List Loc} {cells slots : Nat} {Q : State → Prop} {pc : Nat} {ls : Array Slot} {rest : List Value}
/-- a row that covers the place, its class linked: it catches if the thing is of that class, else the rows behind it are asked; the class is noted either way -/
theorem mc_row {P : Handler → Pre} {E : CtlPost} {d : Bool} {acts : List Action} {S : State} {f : JFrame} {a : Addr} {x : ExceptionTableEntry} {t : List ExceptionTableEntry} {k : ClassId} {cell : Cell} (hc : covers x f.pc = true) (h0 : x.catchType ≠ 0) (hl : S.vm.ClassLinks e.platform f.method.cls x.catchType k) (hq : S.heap[a]? = some cell) (hv : ∀ z, cell.vm ≠ .statics z) (h1 : ∃ z, S.vm.classes[cell.cls]? = some z) (h2 : ∃ z, S.vm.classes[k]? = some z) :
    wp (findHandler.go f a (x :: t)) P E e d acts S ↔ if S.vm.assignable cell.cls k = true then P (.found x.handlerPc) d acts (S.setVm (S.vm.noted f.method.cls x.catchType (.cls k))) else wp (findHandler.go f a t) P E e d acts (S.setVm (S.vm.noted f.method.cls x.catchType (.cls k))) := by
  have hA : S.vm.Alike (S.vm.noted f.method.cls x.catchType (.cls k)) := Vm.Alike.noted (Vm.Alike.refl S.vm) _ _ _
  have g1 : ∃ z, (S.vm.noted f.method.cls x.catchType (.cls k)).classes[cell.cls]? = some z := by
    obtain ⟨z, hz⟩ := h1
    obtain ⟨z', hz', -⟩ := hA.2.2 _ _ hz
    exact ⟨z', hz'⟩
  have g2 : ∃ z, (S.vm.noted f.method.cls x.catchType (.cls k)).classes[k]? = some z := by
    obtain ⟨z, hz⟩ := h2
    obtain ⟨z', hz', -⟩ := hA.2.2 _ _ hz
    exact ⟨z', hz'⟩
  have g3 : (S.vm.noted f.method.cls x.catchType (.cls k)).assignable cell.cls k = S.vm.assignable cell.cls k := hA.assignable _ _
  obtain ⟨z1, g1⟩ := g1
  obtain ⟨z2, g2⟩ := g2
  obtain ⟨o1, o2⟩ := (resolveClass_links e.toSetting hl).op (op := VmOp.resolveClass f.method.cls x.catchType) rfl
  have hc' := hc
  simp only [covers] at hc'
  by_cases hf : S.vm.assignable cell.cls k = true
  · rw [if_pos hf]
    rw [hf] at g3
    simp [findHandler.go, hc', h0, o1, o2, hq, hv, g1, g2, g3, VmOp.dirties, VmOp.acts]
  · rw [if_neg hf]
    have hf : S.vm.assignable cell.cls k = false := by simpa using hf
    rw [hf] at g3
    simp [findHandler.go, hc', h0, o1, o2, hq, hv, g1, g2, g3, VmOp.dirties, VmOp.acts]
/-- the machine's step out of a throw, where the search ends at a handler and leaves other tables -/
theorem mc_step {T target : State} (X : Stand p l e R s m args below meth c T locs cells slots) {g : JFrame} (hg : g.method = m) {a : Addr} {to : Nat} {v9 : Vm}
    (hfind : ∀ (P : Handler → Pre) (E : CtlPost) (d : Bool) (acts : List Action), wp (findHandler g a) P E e d acts ((T.setTop g).pushFrame (.throwing a)) ↔ P (.found to) d acts (((T.setTop g).pushFrame (.throwing a)).setVm v9))
    (hrest : Steps p.tables e below ((T.setVm v9).setTop { g with pc := to, stack := [.ref a] }) target) : Steps p.tables e below ((T.setTop g).pushFrame (.throwing a)) target := by
  have hat : At T g.method c below := by rw [hg]; exact X.here
  obtain ⟨h1, h2⟩ := hat.throwing a
  obtain ⟨g0, e0⟩ := Option.isSome_iff_exists.mp hat.top
  obtain ⟨r, er⟩ := State.topJava?_eq_some.mp e0
  refine Steps.head h1 h2 ?_
  rw [stepThread_throwing (frames_entered hat.top _)]
  have key : (stepThrowing e ((T.setTop g).pushFrame (.throwing a)) a (.java g :: T.frames.tail)).Is ((((T.setTop g).pushFrame (.throwing a)).setVm v9).setFrames (.java { g with pc := to, stack := [.ref a] } :: T.frames.tail)) [] := by
    simp only [stepThrowing, searchFrame, vmDo]
    generalize hres : Sem.go _ e false [] ((T.setTop g).pushFrame (.throwing a)) = res
    obtain ⟨w, rfl, hw⟩ := Sem.eq_ok_of hres (a := Handler.found to) (s' := ((T.setTop g).pushFrame (.throwing a)).setVm v9) (acts' := []) (by simp [hfind _ _ _ _])
    exact ⟨rfl, hw⟩
  rw [key.1]
  have e2 : ((((T.setTop g).pushFrame (.throwing a)).setVm v9).setFrames (.java { g with pc := to, stack := [.ref a] } :: T.frames.tail)) = (T.setVm v9).setTop { g with pc := to, stack := [.ref a] } := by
    rw [State.setTop_of_frames (s := T.setVm v9) _ (show (T.setVm v9).frames = _ from er), State.pushFrame, State.setTop_of_frames _ er, er]
    show (((T.setVm v9).setFrames _).setFrames _).setFrames _ = _
    rw [State.setFrames_setFrames, State.setFrames_setFrames]
    rfl
  rw [e2]
  exact hrest
/-- caught by the table's first row -/
theorem mw_catch1 {own name E : String} {ce : Cell} {q : Addr} (hown : s.vm.findClass own = some m.cls) (x : ExceptionTableEntry) (suf : List ExceptionTableEntry) (hsplit : c.exceptionTable.toList = x :: suf) (hx : covers x pc = true) (h0 : x.catchType ≠ 0)
    (hlink : (Cond.classLink own x.catchType name).before args s = true) (hcast : (Cond.castable E name).before args s = true) (hcell : H[q]? = some ce) (hv : ce.vm = .none) (hcl : s.vm.findClass E = some ce.cls)
    (kk : W p l e R s m args below meth c H locs cells slots Q (F0 m x.handlerPc ls [.ref q])) : vx_W p l e R s m args below meth c H locs cells slots Q (F0 m pc ls rest) q := by
  intro T hT X
  have hpl : e.platform.magicAccessors = ({} : Platform).magicAccessors := by rw [X.admits.platform]
  obtain ⟨k3, k4, f3, f4, hasg⟩ := Cond.castable_spec hcast
  cases Option.some.inj (f3.symm.trans hcl)
  obtain ⟨k5, f5, hli⟩ := Cond.classLink_spec hown hlink e.platform hpl
  cases Option.some.inj (f4.symm.trans f5)
  obtain ⟨dk, _, _, kt, hd, _, _, _, _, hkt, _, hopen⟩ := hli.here
  obtain ⟨z0, hz0, -⟩ := Vm.findClass_spec hcl
  have hW : s.WarmedH (T.vm.noted m.cls x.catchType (.cls k4)) := X.warmed.noted hd hopen (State.rightAt_cls hli)
  obtain ⟨u1, hu1, -⟩ := X.warmed.alike.2.2 _ _ hz0
  obtain ⟨u2, hu2, -⟩ := X.warmed.alike.2.2 _ _ hkt
  obtain ⟨t, a1, b1⟩ := kk (T.setVm (T.vm.noted m.cls x.catchType (.cls k4))) hT (X.noted hW)
  refine ⟨t, ?_, b1⟩
  refine mc_step X (g := F0 m pc ls rest) rfl (to := x.handlerPc) (v9 := T.vm.noted m.cls x.catchType (.cls k4)) (fun P E d acts => ?_) a1
  rw [W.findHandler_eq (meth := meth) (code := c) X.method' X.code, hsplit, mc_row (S := (T.setTop (F0 m pc ls rest)).pushFrame (.throwing q)) (f := F0 m pc ls rest) hx h0 (X.warmed.classLinks hli) (show T.heap[q]? = some ce by rw [hT]; exact hcell) (fun z => by rw [hv]; intro h9; cases h9) ⟨u1, hu1⟩ ⟨u2, hu2⟩]
  rw [if_pos (show ((T.setTop (F0 m pc ls rest)).pushFrame (.throwing q)).vm.assignable ce.cls k4 = true from (show T.vm.assignable ce.cls k4 = true by rw [X.warmed.alike.assignable]; exact hasg))]
  exact Iff.rfl
/-- caught by the table's second row; the first names a class that the thing isn't of -/
theorem mw_catch2 {own name no E : String} {ce : Cell} {q : Addr} (hown : s.vm.findClass own = some m.cls) (y x : ExceptionTableEntry) (suf : List ExceptionTableEntry) (hsplit : c.exceptionTable.toList = y :: x :: suf) (hy : covers y pc = true) (hy0 : y.catchType ≠ 0) (hx : covers x pc = true) (h0 : x.catchType ≠ 0)
    (hnl : (Cond.classLink own y.catchType no).before args s = true) (hno : va_Nc E no s) (hlink : (Cond.classLink own x.catchType name).before args s = true) (hcast : (Cond.castable E name).before args s = true) (hcell : H[q]? = some ce) (hv : ce.vm = .none) (hcl : s.vm.findClass E = some ce.cls)
    (kk : W p l e R s m args below meth c H locs cells slots Q (F0 m x.handlerPc ls [.ref q])) : vx_W p l e R s m args below meth c H locs cells slots Q (F0 m pc ls rest) q := by
  intro T hT X
  have hpl : e.platform.magicAccessors = ({} : Platform).magicAccessors := by rw [X.admits.platform]
  obtain ⟨k3, k4, f3, f4, hasg⟩ := Cond.castable_spec hcast
  cases Option.some.inj (f3.symm.trans hcl)
  obtain ⟨k5, f5, hli⟩ := Cond.classLink_spec hown hlink e.platform hpl
  cases Option.some.inj (f4.symm.trans f5)
  obtain ⟨k6, f6, hly⟩ := Cond.classLink_spec hown hnl e.platform hpl
  obtain ⟨n1, n2, m1, m2, m3⟩ := hno
  cases Option.some.inj (m1.symm.trans hcl)
  cases Option.some.inj (m2.symm.trans f6)
  obtain ⟨dk, _, _, kt, hd, _, _, _, _, hkt, _, hopen⟩ := hli.here
  obtain ⟨dy, _, _, ky, hdy, _, _, _, _, hky, _, hopy⟩ := hly.here
  obtain ⟨z0, hz0, -⟩ := Vm.findClass_spec hcl
  have hW1 : s.WarmedH (T.vm.noted m.cls y.catchType (.cls k6)) := X.warmed.noted hdy hopy (State.rightAt_cls hly)
  have hW : s.WarmedH ((T.vm.noted m.cls y.catchType (.cls k6)).noted m.cls x.catchType (.cls k4)) := hW1.noted hd hopen (State.rightAt_cls hli)
  obtain ⟨u1, hu1, -⟩ := X.warmed.alike.2.2 _ _ hz0
  obtain ⟨u2, hu2, -⟩ := X.warmed.alike.2.2 _ _ hky
  obtain ⟨w1, hw1, -⟩ := hW1.alike.2.2 _ _ hz0
  obtain ⟨w2, hw2, -⟩ := hW1.alike.2.2 _ _ hkt
  obtain ⟨t, a1, b1⟩ := kk (T.setVm ((T.vm.noted m.cls y.catchType (.cls k6)).noted m.cls x.catchType (.cls k4))) hT (X.noted hW)
  refine ⟨t, ?_, b1⟩
  refine mc_step X (g := F0 m pc ls rest) rfl (to := x.handlerPc) (v9 := (T.vm.noted m.cls y.catchType (.cls k6)).noted m.cls x.catchType (.cls k4)) (fun P E d acts => ?_) a1
  rw [W.findHandler_eq (meth := meth) (code := c) X.method' X.code, hsplit, mc_row (S := (T.setTop (F0 m pc ls rest)).pushFrame (.throwing q)) (f := F0 m pc ls rest) hy hy0 (X.warmed.classLinks hly) (show T.heap[q]? = some ce by rw [hT]; exact hcell) (fun z => by rw [hv]; intro h9; cases h9) ⟨u1, hu1⟩ ⟨u2, hu2⟩]
  rw [if_neg (show ¬ ((T.setTop (F0 m pc ls rest)).pushFrame (.throwing q)).vm.assignable ce.cls k6 = true from (show ¬ T.vm.assignable ce.cls k6 = true by rw [X.warmed.alike.assignable, m3]; decide))]
  refine (mc_row (S := ((T.setTop (F0 m pc ls rest)).pushFrame (.throwing q)).setVm (T.vm.noted m.cls y.catchType (.cls k6))) (f := F0 m pc ls rest) hx h0 (hW1.classLinks hli) (show T.heap[q]? = some ce by rw [hT]; exact hcell) (fun z => by rw [hv]; intro h9; cases h9) ⟨w1, hw1⟩ ⟨w2, hw2⟩).trans ?_
  rw [if_pos (show (((T.setTop (F0 m pc ls rest)).pushFrame (.throwing q)).setVm (T.vm.noted m.cls y.catchType (.cls k6))).vm.assignable ce.cls k4 = true from (show (T.vm.noted m.cls y.catchType (.cls k6)).assignable ce.cls k4 = true by rw [hW1.alike.assignable]; exact hasg))]
  exact Iff.rfl
end MCatch
