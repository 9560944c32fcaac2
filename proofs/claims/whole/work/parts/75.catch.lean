/-! Refusals: caught by the law's helpers (each has one handler, for one class) -/
section CT
variable {p : Program} {l : Launch} {e : Env} {R : Room} {s : State} {m : MethodId} {args : Array Value} {below : List Frame} {meth : Method} {c : Code} {T : State} {locs : List Loc} {cells slots : Nat}
/-- the search in a table of one entry that takes what is thrown; its class may be noted only now -/
theorem ct_find {V : State} {g : JFrame} {a : Addr} (hm : V.vm.method? g.method = some meth) (hc : meth.code = some c) {x : ExceptionTableEntry} (htab : c.exceptionTable.toList = [x]) (hx : covers x g.pc = true) (h0 : x.catchType ≠ 0) {cell : Cell} (hl : V.vm.ClassLinks e.platform g.method.cls x.catchType cell.cls) (hcell : V.heap[a]? = some cell) (hobj : cell.vm = .none) (hk : ∃ k, V.vm.classes[cell.cls]? = some k) (hfit : V.vm.assignable cell.cls cell.cls = true)
    (Q : Handler → (Bool → List Action → State → Prop)) (E : Control → List Action → State → Prop) (d : Bool) (acts : List Action) : Sem.wp (findHandler g a) Q E e d acts V ↔ Q (.found x.handlerPc) d acts (V.setVm (V.vm.noted g.method.cls x.catchType (.cls cell.cls))) := by
  rw [W.findHandler_eq hm hc, htab]
  simp only [covers] at hx
  obtain ⟨ha, ht⟩ := (resolveClass_links e.toSetting hl).op (op := VmOp.resolveClass g.method.cls x.catchType) rfl
  have hal : V.vm.Alike (V.vm.noted g.method.cls x.catchType (.cls cell.cls)) := (Vm.Alike.refl V.vm).noted _ _ _
  obtain ⟨k1, hk1⟩ := hk
  obtain ⟨k2, hk2, -⟩ := hal.2.2 _ _ hk1
  have hfit2 : (V.vm.noted g.method.cls x.catchType (.cls cell.cls)).assignable cell.cls cell.cls = true := by rw [hal.assignable]; exact hfit
  have hobj2 : ∀ k, cell.vm ≠ .statics k := fun k z => by rw [hobj] at z; cases z
  simp [findHandler.go, hx, h0, ha, ht, hcell, hobj2, hk2, hfit2, VmOp.dirties, VmOp.acts]
theorem zCatch (X : Stand p l e R s m args below meth c T locs cells slots) {a : Addr} {g : JFrame} (hg : g.method = m) {own name : String} (hown : s.vm.findClass own = some m.cls) {x : ExceptionTableEntry} (htab : c.exceptionTable.toList = [x]) (hx : covers x g.pc = true) (h0 : x.catchType ≠ 0) (hlink : (Cond.classLink own x.catchType name).before args s = true) {cell : Cell} (hcell : T.heap[a]? = some cell) (hobj : cell.vm = .none) (hcls : s.vm.findClass name = some cell.cls) (hself : s.vm.assignable cell.cls cell.cls = true) :
    ∃ vm', Stand p l e R s m args below meth c (T.setVm vm') locs cells slots ∧ ∀ target, Steps p.tables e below ((T.setVm vm').setTop { g with pc := x.handlerPc, stack := [.ref a] }) target → Steps p.tables e below ((T.setTop g).pushFrame (.throwing a)) target := by
  have hpl : e.platform.magicAccessors = ({} : Platform).magicAccessors := by rw [X.admits.platform]
  obtain ⟨c', hc', hcl⟩ := Cond.classLink_spec hown hlink e.platform hpl
  cases hcls.symm.trans hc'
  obtain ⟨dk, _, _, kt, hd, _, _, _, _, hkt, _, hopen⟩ := hcl.here
  have hcl2 := X.warmed.classLinks hcl
  have hW' : s.WarmedH (T.vm.noted m.cls x.catchType (.cls cell.cls)) := X.warmed.noted hd hopen (State.rightAt_cls hcl)
  have hal := X.warmed.alike
  obtain ⟨kt', hkt', -⟩ := hal.2.2 _ _ hkt
  have hfit : T.vm.assignable cell.cls cell.cls = true := by rw [hal.assignable]; exact hself
  refine ⟨_, X.noted hW', fun target hrest => ?_⟩
  subst hg
  have hfind := ct_find (e := e) (V := (T.setTop g).pushFrame (.throwing a)) (g := g) (a := a) (meth := meth) (c := c) X.method' X.code htab hx h0 (cell := cell) hcl2 hcell hobj ⟨kt', hkt'⟩ hfit
  obtain ⟨hgo, hw⟩ := X.here.throwing a (g := g)
  refine Steps.head hgo hw ?_
  obtain ⟨g₀, hg0⟩ := Option.isSome_iff_exists.mp X.here.top
  obtain ⟨r, hr⟩ := State.topJava?_eq_some.mp hg0
  have hst : (stepThrowing e ((T.setTop g).pushFrame (.throwing a)) a (.java g :: r)).Is ((((T.setTop g).pushFrame (.throwing a)).setVm (((T.setTop g).pushFrame (.throwing a)).vm.noted g.method.cls x.catchType (.cls cell.cls))).setFrames (.java { g with pc := x.handlerPc, stack := [.ref a] } :: r)) [] := by
    simp only [stepThrowing, searchFrame, vmDo]
    generalize hq : Sem.go _ e false [] _ = res
    obtain ⟨as, rfl, ha⟩ := Sem.eq_ok_of hq (a := Handler.found x.handlerPc) (s' := ((T.setTop g).pushFrame (.throwing a)).setVm (((T.setTop g).pushFrame (.throwing a)).vm.noted g.method.cls x.catchType (.cls cell.cls))) (acts' := []) (by simp [hfind _ _ _ _])
    exact ⟨rfl, ha⟩
  rw [stepThread_throwing (frames_entered X.here.top _)]
  rw [hr, List.tail_cons, hst.1]
  have hr' : (T.setVm (T.vm.noted g.method.cls x.catchType (.cls cell.cls))).frames = .java g₀ :: r := hr
  rw [State.setTop_of_frames _ hr'] at hrest
  have e1 : ∀ (u : State) (vm' : Vm) (F G : List Frame), ((u.setFrames F).setVm vm').setFrames G = (u.setVm vm').setFrames G := fun u vm' F G => by
    have h1 : (u.setFrames F).setVm vm' = (u.setVm vm').setFrames F := rfl
    rw [h1, State.setFrames_setFrames]
  rw [State.pushFrame, e1, State.setTop_of_frames _ hr, e1]
  exact hrest
end CT
