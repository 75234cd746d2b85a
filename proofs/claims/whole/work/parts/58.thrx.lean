section XC
variable {p : Program} {l : Launch} {e : Env} {R : Room} {s : State} {m : MethodId} {args : Array Value} {below : List Frame} {meth : Method} {c : Code} {H : Heap} {locs : List Loc} {cells slots : Nat} {Q : State → Prop}
variable {cc : ByteArray} {pc : Nat} {ls : Array Slot} {rest st0 : List Value} {D : va_G} {cl : List vw_C} {tys : List (ClassId × FieldType)} {A : Nat → Prop} {ws wc : va_W}
variable {own X : String} {index maxL n nL a0 b0 hpc ct : Nat} {y : MethodName} {bytes : ByteArray} {rt : Option FieldType} {rm : Room} {b ci : Nat} {As : List Value}
/-- a virtual call that throws, and is caught -/
theorem c_x (hx : p.tables.exec = Jvm.exec) (hb : c.code = cc) (hml : c.maxLocals = nL) (hown : s.vm.findClass own = some m.cls) (hts : ∀ w ∈ gU, w.before args s = true)
    (htab : c.exceptionTable.toList.map (fun h => (h.startPc, h.endPc, h.handlerPc, h.catchType)) = [(a0, b0, hpc, ct)]) (hcov : a0 ≤ pc ∧ pc < b0 ∧ ct ≠ 0) (kcl : Cond.classLink own ct X ∈ gU)
    (hM : MetX l y (.code y bytes maxL rt :: gU) rm (va_Pc (.ref b :: As) (fun U => mP D cl tys wc H.size U ∧ xP U)) X) (n : Nat) (k1 : Cond.code y bytes maxL rt ∈ gU) (k2 : Cond.methodLink own index y ∈ gU) (k3 : Cond.instanceMethod y ∈ gU) (k4 : Cond.selects y.cls y y ∈ gU) (k5 : Cond.initialized y.cls ∈ gU)
    (hd : y.cls ≠ "java/lang/invoke/MethodHandle" ∧ y.cls ≠ "java/lang/invoke/VarHandle" ∧ (parseMethodDescriptor y.desc).map (fun d => d.parameters.length) = some n) (hR : rm.frames + 1 ≤ R.frames ∧ 8 + (maxL + 11) + rm.locals ≤ R.locals) (hrc : rm.cells = 1 ∧ rm.slots = 6)
    (hK : va_K D cl tys s) (hP : va_P D cl ws H) (hD : va_D A ws) (isC : List Nat) (hC : isC.map (fun i => ws[i]?) = wc.map some) (hnC : va_nd isC = true) (q0 : Nat) {fs : List Value} {T : u_T} {N : Nat} (he : ws[q0]? = some (b, .inr (ci, fs))) (hc : cl[ci]? = some (y.cls, T, N))
    (hl : ls.size = nL) (hn : As.length = n) (hst : st0 = As.reverse ++ .ref b :: rest) (hW : (rest.map fun v => v.category).sum ≤ 8) (hdg : decode cc pc = .ok (.invokevirtual index, 3)) (hf : cells + 1 ≤ R.cells ∧ slots + 6 ≤ R.slots) (hxp : ∀ U : State, U.heap = H → s.WarmedH U.vm → xP U)
    (kk : ∀ (H1 : Heap) (a : Nat), (∀ q : Nat, q < H.size → H1[q]? = H[q]?) → W p l e R s m args below meth c H1 locs (cells + 1) (slots + 6) Q (F0 m hpc ls [.ref a])) : W p l e R s m args below meth c H locs cells slots Q (F0 m pc ls st0) := by
  intro Z hZ S
  obtain ⟨cellB, hcB, hoB, hclB⟩ := va_recv hK hP hc he
  have hpl : e.platform.magicAccessors = ({} : Platform).magicAccessors := by rw [S.admits.platform]
  have hy : y.cls ≠ "java/lang/invoke/MethodHandle" ∧ y.cls ≠ "java/lang/invoke/VarHandle" := ⟨hd.1, hd.2.1⟩
  obtain ⟨mk, methM, hnamed, hmethM, hstM, habM⟩ := Cond.instanceMethod_spec (hts _ k3)
  obtain ⟨methM', cM, hmethM', -, -, -, -, -, -, hsigM⟩ := Cond.code_spec hnamed (hts _ k1)
  cases hmethM.symm.trans hmethM'
  obtain ⟨c2, r2, m2, q1, q2, q3, q4, kP, hkP, hkPi⟩ := Cond.selects_spec (hts _ k4)
  cases hclB.symm.trans q1
  cases (State.methodFound?_of_named hnamed hy).symm.trans q2
  cases hnamed.symm.trans q3
  have hselP : selectMethod e.platform s.vm cellB.cls mk = .method mk := by rw [Launch.admits_selectMethod S.admits]; exact q4
  have hlen : As.length = methM.sig.parameters.length := by
    have h2 := hd.2.2
    rw [hsigM] at h2
    exact hn.trans (Option.some.inj h2).symm
  obtain ⟨vm₁, S₁, hstep₁⟩ := S.invokevirtual hx hown (hts _ k2) hnamed hmethM hstM hkP hkPi hy (a := b) (cell := cellB) (by rw [hZ]; exact hcB)
    (fun z h => by rw [h] at hoB; cases hoB) hselP hmethM habM hkP hkPi (g := F0 m pc ls st0) rfl (argsL := As) (rest := rest) hlen hst (by rw [hb]; exact hdg)
  have hW₁ := S₁.warmed
  have hin : ∀ w ∈ Cond.code y bytes maxL rt :: gU, ∀ (a' : Array Value) (U : State), s.WarmedH U.vm → w.before a' U = true := pay_in hts (gU_good k1)
  have hnT : (Z.setVm vm₁).methodNamed? y = some mk := S₁.named hnamed
  obtain ⟨methY, cY, hmY, hcY, -, hlY, -, -, -, -⟩ := Cond.code_spec hnT (hin _ List.mem_cons_self (Value.ref b :: As).toArray (Z.setVm vm₁) hW₁)
  obtain ⟨kY, hkY, -⟩ := className_of_methodNamed hnT
  have hini : (Cond.initialized y.cls).before (Value.ref b :: As).toArray (Z.setVm vm₁) = true := hin _ (List.mem_cons_of_mem _ k5) _ _ hW₁
  have hinitY : kY.init = .initialized := Cond.initialized_spec (findClass_of_methodNamed hnT) hkY hini
  have hat : At (Z.setVm vm₁) m c below := S₁.here
  have hdg' : decode c.code (F0 m pc ls rest).pc = .ok (.invokevirtual index, 3) := by rw [hb]; exact hdg
  have happ : (headSpec (Cond.code y bytes maxL rt :: gU) rm).appliesLoose y e.platform ((Z.setVm vm₁).calling (F0 m pc ls rest) mk (Value.ref b :: As).toArray) = true :=
    Spec.appliesLoose_calling (g := F0 m pc ls rest) hat hdg' hnT hkY hinitY
      (S₁.room_calling (g := F0 m pc ls rest) (R' := rm) (hl.trans hml.symm) hmY hcY hR.1 (by rw [hlY]; have h8 := @lv_room m pc ls rest rest hW; show 2 * (F0 m pc ls rest).monitorRoom + (rest.map fun v => v.category).sum + (maxL + 11) + rm.locals ≤ R.locals; omega) (by rw [hrc.1]; exact hf.1) (by rw [hrc.2]; exact hf.2)) (atoms_intro fun w hw => hin w hw _ _ hW₁)
  obtain ⟨mid, hmid⟩ := hat.above
  have hfr : ((Z.setVm vm₁).setTop (F0 m pc ls rest)).frames = (.java (F0 m pc ls rest) :: mid) ++ below := by rw [State.frames_setTop' _ hat.top, hmid]; rfl
  have hu := p_u hK hP hD isC hC hnC (.ref b :: As) (Z.setVm vm₁) hZ hW₁
  obtain ⟨o, t, hsteps, -, hend, hq⟩ := Steps.callFree hM p S₁.admits S₁.cas S₁.clock (acts := []) hfr happ ⟨rfl, ⟨hu.2.1, hu.2.2.1, va_K.moved (u := Z.setVm vm₁) (Vm.Alike.refl _) hu.2.2.2.1, hu.2.2.2.2⟩, xP.move (u := Z.setVm vm₁) (State.WarmedH.refl _) (fun _ _ => rfl) (hxp _ hZ hW₁)⟩ trivial
  rw [State.frames_setTop' _ hat.top] at hend
  obtain ⟨⟨x, rfl, hxs, ce, hce, hfc, hvmn, hself⟩, hWt, hsame⟩ := hq
  have hWt' : (Z.setVm vm₁).WarmedH t.vm := hWt
  have hf2 : t.frames = .throwing x :: .java (F0 m pc ls rest) :: (Z.setVm vm₁).frames.tail := hend
  obtain ⟨g₀, hg0⟩ := Option.isSome_iff_exists.mp hat.top
  obtain ⟨r, hr⟩ := State.topJava?_eq_some.mp hg0
  obtain ⟨w1, w2, w3, w4, w5, w6⟩ := id hsame
  have e3 : t = ({ ((Z.setVm vm₁).calling (F0 m pc ls rest) mk (Value.ref b :: As).toArray).setFrames t.frames with heap := t.heap, slotsUsed := t.slotsUsed } : State).setVm t.vm := by
    have h9 : t = ({ t with vm := ((Z.setVm vm₁).calling (F0 m pc ls rest) mk (Value.ref b :: As).toArray).vm } : State).setVm t.vm := rfl
    refine h9.trans ?_
    exact congrArg (fun z : State => z.setVm t.vm) w1
  have hsV : (Z.setVm vm₁).sameButNew ({ (Z.setVm vm₁) with heap := t.heap, slotsUsed := t.slotsUsed } : State) [] 1 6 := by
    refine ⟨?_, w2, w3, w4, w5, w6⟩
    obtain ⟨t9, ht9, -⟩ := State.frames_cons hr
    show ({ (Z.setVm vm₁) with heap := t.heap, slotsUsed := t.slotsUsed } : State) = { (Z.setVm vm₁).setFrames (Z.setVm vm₁).frames with heap := t.heap, slotsUsed := t.slotsUsed }
    rw [State.setFrames_self ht9]
  have SV : Stand p l e R s m args below meth c (({ (Z.setVm vm₁) with heap := t.heap, slotsUsed := t.slotsUsed } : State).setVm t.vm) (locs ++ []) (cells + 1) (slots + 6) :=
    ⟨S₁.admits, S₁.cas, S₁.clock, S₁.frames, S₁.room, S₁.hears, S₁.method, S₁.code, (S₁.here.setHeapUsed t.heap t.slotsUsed).setVm hWt'.alike, S₁.tail, State.WarmedH.trans S₁.warmed hWt', S₁.limits, S₁.bytes, S₁.same.trans (hsV.setVm s.vm)⟩
  rw [List.append_nil] at SV
  have ht : t = ((({ (Z.setVm vm₁) with heap := t.heap, slotsUsed := t.slotsUsed } : State).setVm t.vm).setTop (F0 m pc ls rest)).pushFrame (.throwing x) := by
    have hr' : (({ (Z.setVm vm₁) with heap := t.heap, slotsUsed := t.slotsUsed } : State).setVm t.vm).frames = .java g₀ :: r := hr
    refine e3.trans ?_
    rw [hf2, State.calling_eq hat.top, State.setFrames_setFrames, State.pushFrame, State.frames_setTop _ hr', State.setTop_of_frames _ hr', State.setFrames_setFrames, hr]
    rfl
  obtain ⟨cX, hfX, hlk⟩ := Cond.classLink_spec hown (hts _ kcl) e.platform hpl
  obtain ⟨hg₁, hwarm₁, -⟩ := State.classEntry (e := e) SV.warmed hlk
  have hal := alike_of SV.warmed hwarm₁
  obtain ⟨kX, hkX⟩ := Vm.classAt_of_findClass hfX
  obtain ⟨kX', hkX', -⟩ := SV.warmed.alike.2.2 _ _ hkX
  have hfc' : s.vm.findClass X = some ce.cls := by
    rw [← S₁.warmed.alike.findClass]; exact hfc
  have hci : ce.cls = cX := Option.some.inj (hfc'.symm.trans hfX)
  have hfit : (({ (Z.setVm vm₁) with heap := t.heap, slotsUsed := t.slotsUsed } : State).setVm t.vm).vm.assignable cX cX = true := by
    show t.vm.assignable cX cX = true
    rw [hWt'.alike.assignable, ← hci]; exact hself
  obtain ⟨xe, hxe, hx1⟩ : ∃ xe, c.exceptionTable.toList = [xe] ∧ (xe.startPc, xe.endPc, xe.handlerPc, xe.catchType) = (a0, b0, hpc, ct) := by
    cases h1 : c.exceptionTable.toList with
    | nil => rw [h1] at htab; cases htab
    | cons z tl =>
      cases tl with
      | nil => rw [h1] at htab; exact ⟨z, rfl, (List.cons.inj htab).1⟩
      | cons z2 tl => rw [h1] at htab; cases htab
  obtain ⟨x1, x2, x3, x4⟩ : xe.startPc = a0 ∧ xe.endPc = b0 ∧ xe.handlerPc = hpc ∧ xe.catchType = ct := by
    simp only [Prod.mk.injEq] at hx1; exact hx1
  obtain ⟨t', st', hQ⟩ := kk t.heap x (fun q hq => by
    have := x_same hsame q (by show q < Z.heap.size; rw [hZ]; exact hq)
    have h2 : t.heap[q]? = Z.heap[q]? := this
    rw [h2, hZ]) _ (by rfl) (SV.noted hwarm₁)
  refine ⟨t', hstep₁ _ (fun acts => ?_), hQ⟩
  rw [doInvoke_state]
  refine hsteps.trans ?_
  rw [ht]
  refine x_take (u := (({ (Z.setVm vm₁) with heap := t.heap, slotsUsed := t.slotsUsed } : State).setVm t.vm)) (g := F0 m pc ls rest) (c := c) (meth := meth) (x := xe) (ci := cX) (cell := ce) SV.here SV.method' S.code hxe (by simp [covers, x1, x2]; exact ⟨hcov.1, hcov.2.1⟩) (by rw [x4]; exact hcov.2.2) (by rw [x4]; exact hg₁) (by rw [x4] at *; exact hal) hce hvmn ⟨kX', hkX'⟩ hci hfit ?_
  rw [x3]
  exact st'
end XC

