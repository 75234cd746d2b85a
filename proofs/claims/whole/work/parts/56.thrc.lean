/-! the end of a method that throws -/
section XE
variable {p : Program} {l : Launch} {e : Env} {R : Room} {s : State} {m : MethodId} {args : Array Value} {below : List Frame} {meth : Method} {c : Code} {cc : ByteArray} {pc : Nat} {ls : Array Slot}
theorem e_x (hx : p.tables.exec = Jvm.exec) (hb : c.code = cc) (hlk : meth.locks = false) (hemp : c.exceptionTable.isEmpty = true) (htr : e.platform.stackTraces = false) (hts : ∀ w ∈ gU, w.before args s = true) (hown : s.vm.findClass "StageHost" = some m.cls) (hsz : ls.size = c.maxLocals)
    {X : String} {ix ic : Nat} (ho : ∀ a ∈ Bundle.ownAtoms0 "StageHost" ic X xUp, a ∈ gU ∨ a ∈ xW X) (hxw : ∀ w ∈ xW X, w.before #[] s = true) (hcl : Cond.classLink "StageHost" ix X ∈ gU) (hini : Cond.initialized X ∈ gU) (hins : Cond.instantiable X 6 ∈ gU) (hfit : Bundle.fit X = true)
    (d0 : decode cc pc = .ok (.new ix, 3)) (d3 : decode cc (pc + 3) = .ok (.dup, 1)) (d4 : decode cc (pc + 4) = .ok (.invokespecial ic, 3)) (d7 : decode cc (pc + 7) = .ok (.athrow, 1)) (hR : 5 < R.frames ∧ 1 ≤ R.cells ∧ 6 ≤ R.slots ∧ 100 ≤ R.locals) :
    W p l e R s m args below meth c s.heap [] 0 0 (XQ below s X) (F0 m pc ls []) := by
  intro T hT S
  obtain ⟨vm₁, cX, kX, hfX, hkX, -, -, X₁, st1⟩ := S.newCold hx (own := "StageHost") (C := X) (index := ix) (n := 6) hown (hts _ hcl) (hts _ hins) (hts _ hini)
    (g := F0 m pc ls []) rfl (by rw [hb]; exact d0) (by omega) (by omega)
  generalize hT' : (T.setVm vm₁).pushCell { cls := cX, slots := kX.instanceTypes.map defaultValue, vm := .none } = T' at X₁ st1
  have hcellA : T'.heap[T.heap.size]? = some (freshCell cX kX) := by rw [← hT']; exact State.heap_pushCell_size _ _
  obtain ⟨U, hsteps, hrun, hend, hW, hsame, ce, hce, K⟩ := X₁.ctorThrow0 hx htr (own := "StageHost") (cls := X) (names := xUp) (ic := ic) hown hfit (by decide +kernel)
    (fun y hy => (ho y hy).elim (fun h => hts y h) (fun h => x_args h (hxw y h))) (fun y hy => by cases hy) hfX hkX hcellA (by rw [hT]; exact Nat.le_refl _)
    (g := F0 m (pc + 4) ls [.ref T.heap.size, .ref T.heap.size]) rfl hsz rfl rfl (rest := []) rfl
    (by rw [hb]; exact d4) (by rw [hb]; exact d7) (covers_of_empty hemp _) (by show 2 + 3 < R.frames; omega) (by show _ ≤ R.locals; simp [xUp, Value.category, JFrame.monitorRoom]; omega)
  refine ⟨U, st1 _ ?_, T.heap.size, hrun, hend, by rw [hT]; exact Nat.le_refl _, ⟨ce, hce, K.cls, K.vm, K.self⟩, hW, hsame⟩
  show Steps p.tables e below (T'.setTop (F0 m (pc + 3) ls [.ref T.heap.size])) _
  jvm_step X₁.here [X₁.here.top, hx, hb, d3, Value.category]
  exact hsteps
end XE

