/-! a call that throws, and the handler that takes it -/
/-- the one handler of the method takes it: its class is linked, or will be by this -/
theorem x_take {tb : Tables} {e : Env} {u target : State} {g : JFrame} {c : Code} {below : List Frame} {a : Addr} {meth : Method} {x : ExceptionTableEntry} {ci : ClassId} {vm' : Vm} {cell : Cell} (h : At u g.method c below) (hm : u.vm.method? g.method = some meth) (hcd : meth.code = some c) (ht : c.exceptionTable.toList = [x]) (hx : covers x g.pc = true) (h0 : x.catchType ≠ 0)
    (hg : (Jvm.resolveClass g.method.cls x.catchType).Gives e.toSetting u.vm (.ok ci) vm') (hal : u.vm.Alike vm') (hcell : u.heap[a]? = some cell) (hobj : cell.vm = .none) (hk : ∃ k, u.vm.classes[ci]? = some k) (hci : cell.cls = ci) (hfit : u.vm.assignable ci ci = true)
    (hrest : Steps tb e below ((u.setVm vm').setTop { g with pc := x.handlerPc, stack := [.ref a] }) target) : Steps tb e below ((u.setTop g).pushFrame (.throwing a)) target := by
  obtain ⟨g₀, hg0⟩ := Option.isSome_iff_exists.mp h.top
  obtain ⟨r, hr⟩ := State.topJava?_eq_some.mp hg0
  obtain ⟨hgo, hw⟩ := h.throwing a
  have hvm : ((u.setTop g).pushFrame (.throwing a)).vm = u.vm := Stand.throwing_vm u g a
  have hhp : ((u.setTop g).pushFrame (.throwing a)).heap = u.heap := Stand.throwing_heap u g a
  obtain ⟨k1, hk1⟩ := hk
  obtain ⟨k2, hk2, -⟩ := hal.2.2 _ _ hk1
  have hfit' : vm'.assignable ci ci = true := by rw [hal.assignable]; exact hfit
  have hob : ∀ k, cell.vm ≠ .statics k := fun k hz => by rw [hobj] at hz; cases hz
  obtain ⟨o1, o2⟩ := hg.op (op := VmOp.resolveClass g.method.cls x.catchType) rfl
  have key : ∀ (Q : Handler → Pre) (E : CtlPost) (d : Bool) (acts : List Action), wp (findHandler g a) Q E e d acts ((u.setTop g).pushFrame (.throwing a)) ↔ Q (.found x.handlerPc) d acts (((u.setTop g).pushFrame (.throwing a)).setVm vm') := by
    intro Q E d acts
    have hx' := hx
    simp only [covers] at hx'
    rw [W.findHandler_eq (meth := meth) (code := c) (by rw [hvm]; exact hm) hcd, ht]
    generalize hz : (u.setTop g).pushFrame (.throwing a) = z at *
    rw [← hvm] at o1 o2
    rw [← hhp] at hcell
    have hsz : vm'.classes.size ≤ z.vm.classes.size := by rw [hvm]; exact Nat.le_of_eq hal.2.1
    have o3 := VmOp.lands_eq (op := VmOp.resolveClass g.method.cls x.catchType) (e := e) (s := z) o2 hsz
    simp [findHandler.go, hx', h0, o1, o3, hcell, hob, hci, hk2, hfit', VmOp.dirties, VmOp.acts]
  refine Steps.head hgo hw ?_
  rw [stepThread_throwing (frames_entered h.top _)]
  have st : (stepThrowing e ((u.setTop g).pushFrame (.throwing a)) a (.java g :: u.frames.tail)).Is ((((u.setTop g).pushFrame (.throwing a)).setVm vm').setFrames (.java { g with pc := x.handlerPc, stack := [.ref a] } :: u.frames.tail)) [] := by
    simp only [stepThrowing, searchFrame, vmDo]
    generalize hres : Sem.go _ e false [] ((u.setTop g).pushFrame (.throwing a)) = res
    obtain ⟨as, rfl, ha⟩ := Sem.eq_ok_of hres (a := Handler.found x.handlerPc) (s' := ((u.setTop g).pushFrame (.throwing a)).setVm vm') (acts' := []) (by simp [key])
    exact ⟨rfl, ha⟩
  rw [st.1]
  have hr' : (u.setVm vm').frames = .java g₀ :: r := hr
  have hfin : (((u.setTop g).pushFrame (.throwing a)).setVm vm').setFrames (.java { g with pc := x.handlerPc, stack := [.ref a] } :: u.frames.tail) = (u.setVm vm').setTop { g with pc := x.handlerPc, stack := [.ref a] } := by
    rw [State.setTop_of_frames _ hr', State.setTop_of_frames _ hr, State.pushFrame, State.setFrames_setFrames, hr]
    show ((u.setVm vm').setFrames _).setFrames _ = _
    rw [State.setFrames_setFrames]
    rfl
  rw [hfin]
  exact hrest

