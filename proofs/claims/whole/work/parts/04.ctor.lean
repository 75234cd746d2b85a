/-! links by the nest: told apart, for a call does not keep them as the other words -/
def gN : List Cond := [(Jvm.Cond.methodLinkNest "StageHost" (11 : Nat) ({ cls := "StageHost$Machine", name := "<init>", desc := "()V" } : Jvm.MethodName) "StageHost"),
  (Jvm.Cond.methodLinkNest "StageHost$Machine" (26 : Nat) ({ cls := "StageHost$Outlet", name := "<init>", desc := "()V" } : Jvm.MethodName) "StageHost"),
  (Jvm.Cond.methodLinkNest "StageHost$Machine" (33 : Nat) ({ cls := "StageHost$Tally", name := "<init>", desc := "()V" } : Jvm.MethodName) "StageHost"),
  (Jvm.Cond.methodLinkNest "StageHost$Machine" (43 : Nat) ({ cls := "StageHost$Word", name := "<init>", desc := "()V" } : Jvm.MethodName) "StageHost"),
  (Jvm.Cond.methodLinkNest "StageHost$Machine" (50 : Nat) ({ cls := "StageHost$Deed", name := "<init>", desc := "()V" } : Jvm.MethodName) "StageHost"),
  (Jvm.Cond.methodLinkNest "StageHost$Machine" (57 : Nat) ({ cls := "StageHost$Stages", name := "<init>", desc := "()V" } : Jvm.MethodName) "StageHost"),
  (Jvm.Cond.methodLinkNest "StageHost$Machine" (64 : Nat) ({ cls := "StageHost$Guesser", name := "<init>", desc := "()V" } : Jvm.MethodName) "StageHost"),
  (Jvm.Cond.methodLinkNest "StageHost$Guesser" (17 : Nat) ({ cls := "StageHost$Calls", name := "<init>", desc := "()V" } : Jvm.MethodName) "StageHost"),
  (Jvm.Cond.methodLinkNest "StageHost$Machine" (71 : Nat) ({ cls := "StageHost$Lines", name := "<init>", desc := "()V" } : Jvm.MethodName) "StageHost")]
def mN (U : State) : Prop := ∀ w ∈ gN, va_Nw w U
theorem mN_warm {s U : State} (hW : s.WarmedH U.vm) (h : mN s) : mN U := by
  intro w hw
  have h1 := h w hw
  simp only [gN, List.mem_cons, List.not_mem_nil, or_false] at hw
  rcases hw with rfl | rfl | rfl | rfl | rfl | rfl | rfl | rfl | rfl <;> exact va_Nw.warmM hW h1
theorem mN_calling {U : State} {g : JFrame} {mk : MethodId} {a : Array Value} (h : mN U) : mN (U.calling g mk a) := by
  intro w hw
  have h1 := h w hw
  simp only [gN, List.mem_cons, List.not_mem_nil, or_false] at hw
  rcases hw with rfl | rfl | rfl | rfl | rfl | rfl | rfl | rfl | rfl <;> exact va_Nw.same rfl rfl h1
abbrev mPn (D : va_G) (cl : List vw_C) (tys : List (ClassId × FieldType)) (cs : va_W) (sz : Nat) : State → Prop := fun U => mP D cl tys cs sz U ∧ mN U
theorem m_goN {l : Launch} {y : MethodName} {cc : ByteArray} {ml : Nat} {rt : Option FieldType} {rm : Room} {D : va_G} {cl : List vw_C} {tys : List (ClassId × FieldType)} {av : List Value} {cs : va_W} {sz mc ms : Nat} (Qc : (Nat → Prop) → Array Value → State → Outcome → State → Prop)
    (hy : plainName y.cls = true) (hlen : (lg_sl av).length ≤ ml)
    (body : ∀ (p : Program) (e : Env) (s : State) (m : MethodId) (below : List Frame) (meth : Method) (c : Code) (A : Nat → Prop) (ls : Array Slot), p.tables.exec = Jvm.exec → c.code = cc → meth.sig.returnType = rt → meth.locks = false → c.maxLocals = ml → (∀ w ∈ gU, w.before av.toArray s = true) → s.vm.findClass y.cls = some m.cls → meth.name = y.name →
      (∀ q : Nat, s.heap.size ≤ q → A q) → va_P D cl cs s.heap → va_K D cl tys s → va_D A cs → va_S A s.heap s.heap [] → lv_has ls ml (lv_args 0 av) → s.heap.size = sz → mN s →
      W p l e rm s m av.toArray below meth c s.heap [] 0 0 (MQ below (Qc A) av.toArray s mc ms A) (F0 m 0 ls [])) :
    Met l y (.code y cc ml rt :: gU) rm (va_Pc av (mPn D cl tys cs sz)) (Qc (va_A cs sz)) mc ms (va_A cs sz) := by
  refine Met.ofW (cc := cc) (maxL := ml) (ret := rt) hy rfl ?_
  intro p e s m args below meth c s₁ B hml hv
  obtain ⟨rfl, ⟨hsz, hP, hK, hD0⟩, hN⟩ := hv
  have hts := atoms_spec (ws := .code y cc ml rt :: gU) B.pre
  subst hsz
  have hD := hD0.self (sz := s.heap.size)
  have hl := lv_entry av (n := ml) hlen
  rw [lg_entry_eq]
  exact body p e s m below meth c _ _ B.exec B.bytes B.returns B.notSynchronized hml (fun w h => hts w (List.mem_cons_of_mem _ h)) (findClass_of_methodNamed B.named) (name_of_methodNamed B.named B.method).1 (fun q h => Or.inr h) hP hK hD va_S.rf hl rfl hN
/-! rows for makers -/
section MC
variable {p : Program} {l : Launch} {e : Env} {R : Room} {s : State} {m : MethodId} {args : Array Value} {below : List Frame} {meth : Method} {c : Code} {H H0 : Heap} {locs : List Loc} {cells slots : Nat} {Q : State → Prop}
variable {cc : ByteArray} {pc : Nat} {ls : Array Slot} {rest st0 : List Value} {D : va_G} {cl : List vw_C} {tys : List (ClassId × FieldType)} {A : Nat → Prop} {ws wc wr : va_W} {a : Array Value} {cI cJ : ClassId}
theorem m_newI {N : Nat} {atype : ArrayType} (hx : p.tables.exec = Jvm.exec) (hb : c.code = cc) (harr : (Cond.arrayClass (newarray.typeOf atype)).before args s = true) (hK : va_K D cl (tyS cI cJ) s) (hP : va_P D cl ws H) (hD : va_D A ws) (hS : va_S A H0 H locs) (hA : ∀ q, H0.size ≤ q → A q) (hty : newarray.typeOf atype = .int)
    {n : Int32} (hn : ¬ n < 0) (hN : n.toNatClampNeg = N) (hbytes : N * componentBytes .int ≤ 536870912) (hcells : cells + 1 ≤ R.cells) (hslots : slots + N ≤ R.slots) (hdg : decode cc pc = .ok (.newarray atype, 2))
    (kk : ∀ (q : Nat) (H1 : Heap), va_P D cl (ws ++ [(q, .inl (cI, N, .inl (fun _ => 0)))]) H1 → va_D A (ws ++ [(q, .inl (cI, N, .inl (fun _ => 0)))]) → va_S A H0 H1 locs → W p l e R s m args below meth c H1 locs (cells + 1) (slots + N) Q (F0 m (pc + 2) ls (.ref q :: rest))) :
    W p l e R s m args below meth c H locs cells slots Q (F0 m pc ls (.int n :: rest)) := by
  refine va_newa (a0 := (N, .inl (fun _ => 0))) hx hb harr hty hK hP hD hS hA (fun _ => rfl) hn hN hbytes hcells hslots hdg (fun q cA H1 hK1 hP1 hD1 hS1 => ?_)
  have h1 : s.vm.findClass ("[" ++ (FieldType.int).toString) = some cA := (hK1.2 2 _ rfl).2
  have h2 : s.vm.findClass ("[" ++ (FieldType.int).toString) = some cI := (hK.2 0 _ rfl).2
  have h3 : cA = cI := Option.some.inj (h1.symm.trans h2)
  subst h3
  exact kk q H1 hP1 hD1 hS1
theorem m_newJ {N : Nat} {atype : ArrayType} (hx : p.tables.exec = Jvm.exec) (hb : c.code = cc) (harr : (Cond.arrayClass (newarray.typeOf atype)).before args s = true) (hK : va_K D cl (tyS cI cJ) s) (hP : va_P D cl ws H) (hD : va_D A ws) (hS : va_S A H0 H locs) (hA : ∀ q, H0.size ≤ q → A q) (hty : newarray.typeOf atype = .long)
    {n : Int32} (hn : ¬ n < 0) (hN : n.toNatClampNeg = N) (hbytes : N * componentBytes .long ≤ 536870912) (hcells : cells + 1 ≤ R.cells) (hslots : slots + N ≤ R.slots) (hdg : decode cc pc = .ok (.newarray atype, 2))
    (kk : ∀ (q : Nat) (H1 : Heap), va_P D cl (ws ++ [(q, .inl (cJ, N, .inr (.inl (fun _ => 0))))]) H1 → va_D A (ws ++ [(q, .inl (cJ, N, .inr (.inl (fun _ => 0))))]) → va_S A H0 H1 locs → W p l e R s m args below meth c H1 locs (cells + 1) (slots + N) Q (F0 m (pc + 2) ls (.ref q :: rest))) :
    W p l e R s m args below meth c H locs cells slots Q (F0 m pc ls (.int n :: rest)) := by
  refine va_newa (a0 := (N, .inr (.inl (fun _ => 0)))) hx hb harr hty hK hP hD hS hA (fun _ => rfl) hn hN hbytes hcells hslots hdg (fun q cA H1 hK1 hP1 hD1 hS1 => ?_)
  have h1 : s.vm.findClass ("[" ++ (FieldType.long).toString) = some cA := (hK1.2 2 _ rfl).2
  have h2 : s.vm.findClass ("[" ++ (FieldType.long).toString) = some cJ := (hK.2 1 _ rfl).2
  have h3 : cA = cJ := Option.some.inj (h1.symm.trans h2)
  subst h3
  exact kk q H1 hP1 hD1 hS1
theorem e_n {u : Nat → Nat} {ws : (Nat → Nat) → va_W} (hx : p.tables.exec = Jvm.exec) (hb : c.code = cc) (hr : meth.sig.returnType = none) (hlk : meth.locks = false) (hK : va_K D cl tys s) (hP : va_P D cl (ws u) H) (hD : va_D A (ws u)) (hS : va_S A s.heap H locs) (hdg : decode cc pc = .ok (.return_, 1)) :
    W p l e R s m args below meth c H locs cells slots (MQ below (va_Qv (fun _ : Nat → Nat => True) (fun u => mT D cl tys A (ws u) ()) A) args s cells slots A) (F0 m pc ls []) :=
  W.vret hx hb hr (fun t ht hW => ⟨⟨u, rfl, trivial, by rw [ht]; exact hP, va_K.moved hW.alike hK, hD⟩, hS.F ht⟩) hS.2.2 hdg hlk
theorem c_n {mc ms : Nat} {wc2 ws2 : (Nat → Nat) → va_W} (hr : va_Run p l e R s m args below meth c H locs cells slots mc ms (F0 m pc ls st0) rest (va_Qv (fun _ : Nat → Nat => True) (fun u => mT D cl tys (va_A wc H.size) (wc2 u) ()) (va_A wc H.size) a) (va_A wc H.size)) (hP : va_P D cl ws H) (hD : va_D A ws) (hS : va_S A s.heap H locs) (hA : ∀ q, s.heap.size ≤ q → A q)
    (isC isR isP : List Nat) (hC : isC.map (fun i => ws[i]?) = wc.map some) (hR : isR.map (fun i => ws[i]?) = wr.map some) (hn : va_nd isR = true) (hdis : ∀ i ∈ isR, i ∉ isC) (hQ : ∀ u, isP.map (fun i => (wr ++ wc2 u)[i]?) = (ws2 u).map some) (hnP : va_nd isP = true)
    (kk : ∀ (u : Nat → Nat) (H1 : Heap) (locs1 : List Loc), va_P D cl (ws2 u) H1 → va_D A (ws2 u) → va_S A s.heap H1 locs1 → W p l e R s m args below meth c H1 locs1 (cells + mc) (slots + ms) Q (F0 m (pc + 3) ls rest)) : W p l e R s m args below meth c H locs cells slots Q (F0 m pc ls st0) := by
  have hF := va_free hD hS hA isC hC
  refine va_callv hr hS (fun q _ h => hF q h) hF (fun u t H1 locs1 ht hvm hpo hB hz hk hS1 => ?_)
  obtain ⟨hP1, hK1, hD1⟩ := hB
  rw [ht] at hP1
  obtain ⟨hPj, hDj⟩ := va_join hP hD isC isR hC hR hn hdis hk hF hP1 hD1
  exact kk u H1 locs1 (m_sub hPj isP (hQ u)) (hDj.sub isP hnP (hQ u)) hS1
variable {own host : String} {index maxL n nL : Nat} {y : MethodName} {bytes : ByteArray} {rm : Room} {Qc : Array Value → State → Outcome → State → Prop} {free : Addr → Prop} {b : Nat} {As : List Value}
theorem p_bN (av : List Value) (n : Nat) : FrameBlind (va_Pc av (mPn D cl tys wc n)) := fun a U g mk q => by
  obtain ⟨q0, ⟨q1, qP, qK, qD⟩, qN⟩ := q
  exact ⟨q0, ⟨q1, qP, va_K.moved (u := U) (U := U.calling g mk a) (Vm.Alike.refl U.vm) qK, qD⟩, mN_calling qN⟩
theorem p_uN (hN : mN s) (hK : va_K D cl tys s) (hP : va_P D cl ws H) (hD : va_D A ws) (isC : List Nat) (hC : isC.map (fun i => ws[i]?) = wc.map some) (hnC : va_nd isC = true) (av : List Value) : ∀ U : State, U.heap = H → s.WarmedH U.vm → va_Pc av (mPn D cl tys wc H.size) av.toArray U := fun U hU hW =>
  ⟨rfl, ⟨by rw [hU], by rw [hU]; exact m_sub hP isC hC, va_K.moved hW.alike hK, (hD.sub isC hnC hC).weaken (fun _ _ _ _ => trivial)⟩, mN_warm hW hN⟩
theorem r_I (hN : mN s) (hx : p.tables.exec = Jvm.exec) (hb : c.code = cc) (hml : c.maxLocals = nL) (hown : s.vm.findClass own = some m.cls) (hts : ∀ w ∈ gU, w.before args s = true)
    (hM : Met l y (.code y bytes maxL none :: gU) rm (va_Pc (.ref b :: As) (mPn D cl tys wc H.size)) Qc rm.cells rm.slots free) (n : Nat) (k1 : Cond.code y bytes maxL none ∈ gU) (k2 : Cond.methodLink own index y ∈ gU) (k3 : Cond.instanceMethod y ∈ gU) (k5 : Cond.initialized y.cls ∈ gU) (hy : y.name = "<init>")
    (hd : y.cls ≠ "java/lang/invoke/MethodHandle" ∧ y.cls ≠ "java/lang/invoke/VarHandle" ∧ (parseMethodDescriptor y.desc).map (fun d => d.parameters.length) = some n) (hR : rm.frames + 1 ≤ R.frames ∧ 8 + (maxL + 11) + rm.locals ≤ R.locals)
    (hK : va_K D cl tys s) (hP : va_P D cl ws H) (hD : va_D A ws) (isC : List Nat) (hC : isC.map (fun i => ws[i]?) = wc.map some) (hnC : va_nd isC = true)
    (hl : ls.size = nL) (hn : As.length = n) (hst : st0 = As.reverse ++ .ref b :: rest) (hW : (rest.map fun v => v.category).sum ≤ 8) (hdg : decode cc pc = .ok (.invokespecial index, 3)) (hf : cells + rm.cells ≤ R.cells ∧ slots + rm.slots ≤ R.slots) :
    va_Run p l e R s m args below meth c H locs cells slots rm.cells rm.slots (F0 m pc ls st0) rest (Qc (Value.ref b :: As).toArray) free :=
  va_runI ⟨hx, hb, hml, hown, hts⟩ hM ⟨callB_of n hts (gU_good k1) rfl rfl rfl (hts _ k5) (hts _ k2) hd hR, hy, hts _ k3⟩ ⟨p_bN _ _, p_uN hN hK hP hD isC hC hnC _⟩ rfl hn hl hst (lv_room hW) hdg hf
theorem r_IN (hN : mN s) (hx : p.tables.exec = Jvm.exec) (hb : c.code = cc) (hml : c.maxLocals = nL) (hown : s.vm.findClass own = some m.cls) (hts : ∀ w ∈ gU, w.before args s = true)
    (hM : Met l y (.code y bytes maxL none :: gU) rm (va_Pc (.ref b :: As) (mPn D cl tys wc H.size)) Qc rm.cells rm.slots free) (n : Nat) (k1 : Cond.code y bytes maxL none ∈ gU) (k2 : va_Nw (.methodLinkNest own index y host) s) (k3 : Cond.instanceMethod y ∈ gU) (k5 : Cond.initialized y.cls ∈ gU) (hy : y.name = "<init>")
    (hd : y.cls ≠ "java/lang/invoke/MethodHandle" ∧ y.cls ≠ "java/lang/invoke/VarHandle" ∧ (parseMethodDescriptor y.desc).map (fun d => d.parameters.length) = some n) (hR : rm.frames + 1 ≤ R.frames ∧ 8 + (maxL + 11) + rm.locals ≤ R.locals)
    (hK : va_K D cl tys s) (hP : va_P D cl ws H) (hD : va_D A ws) (isC : List Nat) (hC : isC.map (fun i => ws[i]?) = wc.map some) (hnC : va_nd isC = true)
    (hl : ls.size = nL) (hn : As.length = n) (hst : st0 = As.reverse ++ .ref b :: rest) (hW : (rest.map fun v => v.category).sum ≤ 8) (hdg : decode cc pc = .ok (.invokespecial index, 3)) (hf : cells + rm.cells ≤ R.cells ∧ slots + rm.slots ≤ R.slots) :
    va_Run p l e R s m args below meth c H locs cells slots rm.cells rm.slots (F0 m pc ls st0) rest (Qc (Value.ref b :: As).toArray) free :=
  va_runIN ⟨hx, hb, hml, hown, hts⟩ hM ⟨va_cnB n hts (gU_good k1) rfl rfl rfl k2 (hts _ k5) hd hR, hy, hts _ k3⟩ ⟨p_bN _ _, p_uN hN hK hP hD isC hC hnC _⟩ rfl hn hl hst (lv_room hW) hdg hf
end MC

