/-! methods with a handler: their start, and a static call of one -/
theorem m_goW {l : Launch} {y : MethodName} {cc : ByteArray} {ml : Nat} {rt : Option FieldType} {hh : List (Nat × Nat × Nat × Nat)} {rm : Room} {D : va_G} {cl : List vw_C} {tys : List (ClassId × FieldType)} {av : List Value} {cs : va_W} {sz mc ms : Nat} (Qc : (Nat → Prop) → Array Value → State → Outcome → State → Prop)
    (hy : plainName y.cls = true) (hlen : (lg_sl av).length ≤ ml)
    (body : ∀ (p : Program) (e : Env) (s : State) (m : MethodId) (below : List Frame) (meth : Method) (c : Code) (A : Nat → Prop) (ls : Array Slot), c.exceptionTable.toList.map (fun h => (h.startPc, h.endPc, h.handlerPc, h.catchType)) = hh → xP s → p.tables.exec = Jvm.exec → c.code = cc → meth.sig.returnType = rt → meth.locks = false → c.maxLocals = ml → (∀ w ∈ gU, w.before av.toArray s = true) → s.vm.findClass y.cls = some m.cls → meth.name = y.name →
      (∀ q : Nat, s.heap.size ≤ q → A q) → va_P D cl cs s.heap → va_K D cl tys s → va_D A cs → va_S A s.heap s.heap [] → lv_has ls ml (lv_args 0 av) → s.heap.size = sz →
      W p l e rm s m av.toArray below meth c s.heap [] 0 0 (MQ below (Qc A) av.toArray s mc ms A) (F0 m 0 ls [])) :
    Met l y (.codeWith y cc ml rt hh :: gU) rm (va_Pc av (fun U => mP D cl tys cs sz U ∧ xP U)) (Qc (va_A cs sz)) mc ms (va_A cs sz) := by
  refine va_MetW (cc := cc) (maxL := ml) (ret := rt) (hh := hh) hy rfl ?_
  intro p e s m args below meth c s₁ B hml hv
  obtain ⟨rfl, ⟨hsz, hP, hK, hD0⟩, hX⟩ := hv
  have hts := atoms_spec (ws := .codeWith y cc ml rt hh :: gU) B.pre
  have S0 := Stand.of_body B
  obtain ⟨m9, meth9, c9, n1, n2, n3, -, -, n4, -⟩ := Cond.codeWith_spec (hts _ List.mem_cons_self)
  cases B.named.symm.trans n1
  cases S0.method.symm.trans n2
  cases S0.code.symm.trans n3
  subst hsz
  have hD := hD0.self (sz := s.heap.size)
  have hl := lv_entry av (n := ml) hlen
  rw [lg_entry_eq]
  exact body p e s m below meth c _ _ n4 hX B.exec B.bytes B.returns B.notSynchronized hml (fun w h => hts w (List.mem_cons_of_mem _ h)) (findClass_of_methodNamed B.named) (name_of_methodNamed B.named B.method).1 (fun q h => Or.inr h) hP hK hD va_S.rf hl rfl
section MW
variable {p : Program} {l : Launch} {e : Env} {R : Room} {s : State} {m : MethodId} {args : Array Value} {below : List Frame} {meth : Method} {c : Code} {H : Heap} {locs : List Loc} {cells slots : Nat} {Q : State → Prop}
variable {cc : ByteArray} {pc : Nat} {ls : Array Slot} {rest st0 : List Value} {D : va_G} {cl : List vw_C} {tys : List (ClassId × FieldType)} {A : Nat → Prop} {ws wc : va_W}
variable {own : String} {index maxL n nL : Nat} {y : MethodName} {bytes : ByteArray} {rt : Option FieldType} {hh : List (Nat × Nat × Nat × Nat)} {rm : Room} {Qc : Array Value → State → Outcome → State → Prop} {free : Addr → Prop} {As : List Value}
theorem gU_goodW (h : Cond.codeWith y bytes maxL rt hh ∈ gU) : GoodIn gU (.codeWith y bytes maxL rt hh :: gU) := by
  intro w hw
  rcases List.mem_cons.mp hw with rfl | hw
  · exact ⟨h, Or.inl rfl⟩
  · exact ⟨hw, good_of_word (List.mem_filter.mp hw).2⟩
theorem p_bX (av : List Value) (n : Nat) : FrameBlind (va_Pc av (fun U => mP D cl tys wc n U ∧ xP U)) := fun a U g mk q => by
  obtain ⟨q0, ⟨q1, qP, qK, qD⟩, qX⟩ := q
  exact ⟨q0, ⟨q1, qP, va_K.moved (u := U) (U := U.calling g mk a) (Vm.Alike.refl U.vm) qK, qD⟩, xP.move (u := U) (U := U.calling g mk a) (State.WarmedH.refl _) (fun _ _ => rfl) qX⟩
/-- a static call of a method that has a handler -/
theorem r_SW (hx : p.tables.exec = Jvm.exec) (hb : c.code = cc) (hml : c.maxLocals = nL) (hown : s.vm.findClass own = some m.cls) (hts : ∀ w ∈ gU, w.before args s = true)
    (hM : Met l y (.codeWith y bytes maxL rt hh :: gU) rm (va_Pc As (fun U => mP D cl tys wc H.size U ∧ xP U)) Qc rm.cells rm.slots free) (n : Nat) (k1 : Cond.codeWith y bytes maxL rt hh ∈ gU) (k2 : Cond.methodLink own index y ∈ gU) (k3 : Cond.static y ∈ gU) (k5 : Cond.initialized y.cls ∈ gU)
    (hd : y.cls ≠ "java/lang/invoke/MethodHandle" ∧ y.cls ≠ "java/lang/invoke/VarHandle" ∧ (parseMethodDescriptor y.desc).map (fun d => d.parameters.length) = some n) (hR : rm.frames + 1 ≤ R.frames ∧ 8 + (maxL + 11) + rm.locals ≤ R.locals)
    (hK : va_K D cl tys s) (hP : va_P D cl ws H) (hD : va_D A ws) (isC : List Nat) (hC : isC.map (fun i => ws[i]?) = wc.map some) (hnC : va_nd isC = true) (hxp : ∀ U : State, U.heap = H → s.WarmedH U.vm → xP U)
    (hl : ls.size = nL) (hn : As.length = n) (hst : st0 = As.reverse ++ rest) (hW : (rest.map fun v => v.category).sum ≤ 8) (hdg : decode cc pc = .ok (.invokestatic index, 3)) (hf : cells + rm.cells ≤ R.cells ∧ slots + rm.slots ≤ R.slots) :
    va_Run p l e R s m args below meth c H locs cells slots rm.cells rm.slots (F0 m pc ls st0) rest (Qc As.toArray) free := by
  have hin : ∀ w ∈ Cond.codeWith y bytes maxL rt hh :: gU, ∀ (a' : Array Value) (U : State), s.WarmedH U.vm → w.before a' U = true := pay_in hts (gU_goodW k1)
  have hKb : Back l R p e below s args y 3 8 (PreOf R rm.cells rm.slots (va_Pc As (fun U => mP D cl tys wc H.size U ∧ xP U))) (PostOf Qc rm.cells rm.slots free) :=
    va_backW (hh := hh) (bytes := bytes) (maxL := maxL) (ret := rt) hM (p_bX _ _) rfl rfl hR.1 hR.2 hin List.mem_cons_self (fun a' U h => hin _ (List.mem_cons_of_mem _ k5) a' U h)
  intro T hT X
  obtain ⟨mk, methM, cM, hnamed, hmethM, -, -, -, -, -, -, hsigM⟩ := Cond.codeWith_spec (hts _ k1)
  have hstatic : methM.isStatic = true := Cond.static_spec hnamed hmethM (hts _ k3)
  obtain ⟨kP, hkP, -⟩ := className_of_methodNamed hnamed
  have hinitP : kP.init = .initialized := Cond.initialized_spec (findClass_of_methodNamed hnamed) hkP (hts _ k5)
  have hlen : As.length = methM.sig.parameters.length := by
    have h2 := hd.2.2
    rw [hsigM] at h2
    exact hn.trans (Option.some.inj h2).symm
  obtain ⟨vm₁, X₁, hstep₁⟩ := X.invokestatic hx hown (hts _ k2) hnamed hmethM hstatic hkP hinitP ⟨hd.1, hd.2.1⟩ (g := F0 m pc ls st0) rfl (argsL := As) (rest := rest) hlen hst (by rw [hb]; exact hdg)
  have hu := p_u hK hP hD isC hC hnC As (T.setVm vm₁) hT X₁.warmed
  obtain ⟨v, B, X', hpost, hsteps⟩ := hKb m meth c ⟨T.setVm vm₁, locs, cells, slots⟩ (F0 m pc ls rest) (.invokestatic index) mk As.toArray X₁ rfl (hl.trans hml.symm) (by rw [hb]; exact hdg) (@lv_room m pc ls rest rest hW) (X₁.named hnamed) ⟨hf.1, hf.2, rfl, hu.2, hxp _ hT X₁.warmed⟩
  obtain ⟨U', l2, c2, s2⟩ := B
  obtain ⟨g', mk', t, L, e1, e2, hq, h1, hL, h2, h3⟩ := hpost
  dsimp only [Pt.U, Pt.locs, Pt.cells, Pt.slots] at X' e1 e2 h1 h2 h3 hsteps
  subst h1; subst h2; subst h3
  exact ⟨v, (T.setVm vm₁).calling g' mk' As.toArray, t, U', L, hT, X', hL, e1, e2, hq, fun target h => hstep₁ _ fun acts => by rw [doInvoke_state]; exact hsteps.trans h⟩
end MW

