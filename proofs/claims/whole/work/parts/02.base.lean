/-! the words that every method has: the tables' own, as far as a call keeps them -/
def gU : List Cond := lw_tbl.filter goodWord
theorem gU_in {w : Cond} (h : w ∈ lw_tbl) (g : goodWord w = true) : w ∈ gU := List.mem_filter.mpr ⟨h, g⟩
theorem gU_good {y : MethodName} {cc : ByteArray} {ml : Nat} {rt : Option FieldType} (h : Cond.code y cc ml rt ∈ gU) : GoodIn gU (.code y cc ml rt :: gU) := by
  intro w hw
  rcases List.mem_cons.mp hw with rfl | hw
  · exact ⟨h, Or.inl rfl⟩
  · exact ⟨hw, good_of_word (List.mem_filter.mp hw).2⟩
theorem in_of {ws : List Cond} (ps : List Nat) (hp : ws = ps.filterMap (fun i => tables_1[i]?)) (h : ws.all goodWord = true) : ∀ w ∈ ws, w ∈ gU := by
  intro w hw
  have h1 := List.all_eq_true.mp h w hw
  rw [hp] at hw
  obtain ⟨i, -, hi⟩ := List.mem_filterMap.mp hw
  exact gU_in (List.mem_append_right _ (List.mem_of_getElem? hi)) h1
/-! a method's start and end, in cells -/
abbrev mP (D : va_G) (cl : List vw_C) (tys : List (ClassId × FieldType)) (cs : va_W) (sz : Nat) : State → Prop := fun U => U.heap.size = sz ∧ va_P D cl cs U.heap ∧ va_K D cl tys U ∧ va_D (fun _ => True) cs
abbrev mT (D : va_G) (cl : List vw_C) (tys : List (ClassId × FieldType)) (A : Nat → Prop) (cs : va_W) : Unit → State → Prop := fun _ t => va_P D cl cs t.heap ∧ va_K D cl tys t ∧ va_D A cs
abbrev qI (D : va_G) (cl : List vw_C) (tys : List (ClassId × FieldType)) (cs2 : va_W) (r : Int32) (A : Nat → Prop) : Array Value → State → Outcome → State → Prop := va_Qi (fun r' (_ : Unit) => r' = r) (mT D cl tys A cs2) A
abbrev qL (D : va_G) (cl : List vw_C) (tys : List (ClassId × FieldType)) (cs2 : va_W) (r : Int64) (A : Nat → Prop) : Array Value → State → Outcome → State → Prop := va_Ql (fun r' (_ : Unit) => r' = r) (mT D cl tys A cs2) A
abbrev qV (D : va_G) (cl : List vw_C) (tys : List (ClassId × FieldType)) (cs2 : va_W) (A : Nat → Prop) : Array Value → State → Outcome → State → Prop := va_Qv (fun _ : Unit => True) (mT D cl tys A cs2) A
theorem m_go {l : Launch} {y : MethodName} {cc : ByteArray} {ml : Nat} {rt : Option FieldType} {rm : Room} {D : va_G} {cl : List vw_C} {tys : List (ClassId × FieldType)} {av : List Value} {cs : va_W} {sz mc ms : Nat} (Qc : (Nat → Prop) → Array Value → State → Outcome → State → Prop)
    (hy : plainName y.cls = true) (hlen : (lg_sl av).length ≤ ml)
    (body : ∀ (p : Program) (e : Env) (s : State) (m : MethodId) (below : List Frame) (meth : Method) (c : Code) (A : Nat → Prop) (ls : Array Slot), p.tables.exec = Jvm.exec → c.code = cc → meth.sig.returnType = rt → meth.locks = false → c.maxLocals = ml → (∀ w ∈ gU, w.before av.toArray s = true) → s.vm.findClass y.cls = some m.cls → meth.name = y.name →
      (∀ q : Nat, s.heap.size ≤ q → A q) → va_P D cl cs s.heap → va_K D cl tys s → va_D A cs → va_S A s.heap s.heap [] → lv_has ls ml (lv_args 0 av) → s.heap.size = sz →
      W p l e rm s m av.toArray below meth c s.heap [] 0 0 (MQ below (Qc A) av.toArray s mc ms A) (F0 m 0 ls [])) :
    Met l y (.code y cc ml rt :: gU) rm (va_Pc av (mP D cl tys cs sz)) (Qc (va_A cs sz)) mc ms (va_A cs sz) := by
  refine Met.ofW (cc := cc) (maxL := ml) (ret := rt) hy rfl ?_
  intro p e s m args below meth c s₁ B hml hv
  obtain ⟨rfl, hsz, hP, hK, hD0⟩ := hv
  have hts := atoms_spec (ws := .code y cc ml rt :: gU) B.pre
  subst hsz
  have hD := hD0.self (sz := s.heap.size)
  have hl := lv_entry av (n := ml) hlen
  rw [lg_entry_eq]
  exact body p e s m below meth c _ _ B.exec B.bytes B.returns B.notSynchronized hml (fun w h => hts w (List.mem_cons_of_mem _ h)) (findClass_of_methodNamed B.named) (name_of_methodNamed B.named B.method).1 (fun q h => Or.inr h) hP hK hD va_S.rf hl rfl
/-! sub-lists by places -/
theorem m_at {ws w : va_W} {is : List Nat} (hs : is.map (fun i => ws[i]?) = w.map some) {k : Nat} {q : Nat × va_E} (hq : w[k]? = some q) : ∃ i, is[k]? = some i ∧ ws[i]? = some q := by
  have h1 : (is.map (fun i => ws[i]?))[k]? = some (some q) := by rw [hs, List.getElem?_map, hq]; rfl
  rw [List.getElem?_map] at h1
  cases hi : is[k]? with
  | none => rw [hi] at h1; cases h1
  | some i => rw [hi] at h1; exact ⟨i, rfl, Option.some.inj h1⟩
theorem m_sub {D : va_G} {cl : List vw_C} {ws w : va_W} {H : Heap} (h : va_P D cl ws H) (is : List Nat) (hs : is.map (fun i => ws[i]?) = w.map some) : va_P D cl w H := fun k q hq => by
  obtain ⟨i, -, hi⟩ := m_at hs hq
  exact h i q hi
section MB
variable {p : Program} {l : Launch} {e : Env} {R : Room} {s : State} {m : MethodId} {args : Array Value} {below : List Frame} {meth : Method} {c : Code} {H : Heap} {locs : List Loc} {cells slots : Nat} {Q : State → Prop}
variable {cc : ByteArray} {pc : Nat} {ls : Array Slot} {rest st0 : List Value} {D : va_G} {cl : List vw_C} {tys : List (ClassId × FieldType)} {A : Nat → Prop} {ws wc wr wc2 ws2 : va_W} {a : Array Value}
/-! ends -/
theorem e_i (hx : p.tables.exec = Jvm.exec) (hb : c.code = cc) (hr : meth.sig.returnType = some .int) (hlk : meth.locks = false) (hK : va_K D cl tys s) (hP : va_P D cl ws H) (hD : va_D A ws) (hS : va_S A s.heap H locs) {v r : Int32} (hv : v = r) (hdg : decode cc pc = .ok (.ireturn, 1)) :
    W p l e R s m args below meth c H locs cells slots (MQ below (qI D cl tys ws r A) args s cells slots A) (F0 m pc ls [.int v]) :=
  W.iret hx hb hr (fun t ht hW => ⟨⟨v, (), rfl, hv, by rw [ht]; exact hP, va_K.moved hW.alike hK, hD⟩, hS.F ht⟩) hS.2.2 hdg hlk
theorem e_z (hx : p.tables.exec = Jvm.exec) (hb : c.code = cc) (hr : meth.sig.returnType = some .boolean) (hlk : meth.locks = false) (hK : va_K D cl tys s) (hP : va_P D cl ws H) (hD : va_D A ws) (hS : va_S A s.heap H locs) {v r : Int32} (hv : v = r) (hn : narrow .boolean (.int v) = .int v) (hdg : decode cc pc = .ok (.ireturn, 1)) :
    W p l e R s m args below meth c H locs cells slots (MQ below (qI D cl tys ws r A) args s cells slots A) (F0 m pc ls [.int v]) :=
  W.zret hx hb hr hn (fun t ht hW => ⟨⟨v, (), rfl, hv, by rw [ht]; exact hP, va_K.moved hW.alike hK, hD⟩, hS.F ht⟩) hS.2.2 hdg hlk
theorem e_l (hx : p.tables.exec = Jvm.exec) (hb : c.code = cc) (hr : meth.sig.returnType = some .long) (hlk : meth.locks = false) (hK : va_K D cl tys s) (hP : va_P D cl ws H) (hD : va_D A ws) (hS : va_S A s.heap H locs) {v r : Int64} (hv : v = r) (hdg : decode cc pc = .ok (.lreturn, 1)) :
    W p l e R s m args below meth c H locs cells slots (MQ below (qL D cl tys ws r A) args s cells slots A) (F0 m pc ls [.long v]) :=
  W.lret hx hb hr (fun t ht hW => ⟨⟨v, (), rfl, hv, by rw [ht]; exact hP, va_K.moved hW.alike hK, hD⟩, hS.F ht⟩) hS.2.2 hdg hlk
theorem e_v (hx : p.tables.exec = Jvm.exec) (hb : c.code = cc) (hr : meth.sig.returnType = none) (hlk : meth.locks = false) (hK : va_K D cl tys s) (hP : va_P D cl ws H) (hD : va_D A ws) (hS : va_S A s.heap H locs) (hdg : decode cc pc = .ok (.return_, 1)) :
    W p l e R s m args below meth c H locs cells slots (MQ below (qV D cl tys ws A) args s cells slots A) (F0 m pc ls []) :=
  W.vret hx hb hr (fun t ht hW => ⟨⟨(), rfl, trivial, by rw [ht]; exact hP, va_K.moved hW.alike hK, hD⟩, hS.F ht⟩) hS.2.2 hdg hlk
/-! a join: what goes on from there is shown first -/
theorem w_j {J : Nat} {st : List Value} {g : JFrame} (P : Heap → List Loc → Array Slot → Prop) (k : ∀ (H : Heap) (locs : List Loc) (ls : Array Slot), P H locs ls → W p l e R s m args below meth c H locs cells slots Q (F0 m J ls st))
    (h : (∀ (H : Heap) (locs : List Loc) (ls : Array Slot), P H locs ls → W p l e R s m args below meth c H locs cells slots Q (F0 m J ls st)) → W p l e R s m args below meth c H locs cells slots Q g) : W p l e R s m args below meth c H locs cells slots Q g := h k
/-! calls -/
theorem c_i {r : Int32} (hr : va_Run p l e R s m args below meth c H locs cells slots 0 0 (F0 m pc ls st0) rest (qI D cl tys wc2 r (va_A wc H.size) a) (va_A wc H.size)) (hP : va_P D cl ws H) (hD : va_D A ws) (hS : va_S A s.heap H locs) (hA : ∀ q, s.heap.size ≤ q → A q)
    (isC isR isP : List Nat) (hC : isC.map (fun i => ws[i]?) = wc.map some) (hR : isR.map (fun i => ws[i]?) = wr.map some) (hn : va_nd isR = true) (hdis : ∀ i ∈ isR, i ∉ isC) (hQ : isP.map (fun i => (wr ++ wc2)[i]?) = ws2.map some) (hnP : va_nd isP = true)
    (kk : ∀ (H1 : Heap) (locs1 : List Loc), va_P D cl ws2 H1 → va_D A ws2 → va_S A s.heap H1 locs1 → W p l e R s m args below meth c H1 locs1 cells slots Q (F0 m (pc + 3) ls (.int r :: rest))) : W p l e R s m args below meth c H locs cells slots Q (F0 m pc ls st0) := by
  have hF := va_free hD hS hA isC hC
  refine va_calli hr hS (fun q _ h => hF q h) hF (fun r' u t H1 locs1 ht hvm hpo hB hz hk hS1 => ?_)
  obtain ⟨hP1, hK1, hD1⟩ := hB
  rw [ht] at hP1
  obtain ⟨hPj, hDj⟩ := va_join hP hD isC isR hC hR hn hdis hk hF hP1 hD1
  subst hpo
  exact kk H1 locs1 (m_sub hPj isP hQ) (hDj.sub isP hnP hQ) hS1
theorem c_l {r : Int64} (hr : va_Run p l e R s m args below meth c H locs cells slots 0 0 (F0 m pc ls st0) rest (qL D cl tys wc2 r (va_A wc H.size) a) (va_A wc H.size)) (hP : va_P D cl ws H) (hD : va_D A ws) (hS : va_S A s.heap H locs) (hA : ∀ q, s.heap.size ≤ q → A q)
    (isC isR isP : List Nat) (hC : isC.map (fun i => ws[i]?) = wc.map some) (hR : isR.map (fun i => ws[i]?) = wr.map some) (hn : va_nd isR = true) (hdis : ∀ i ∈ isR, i ∉ isC) (hQ : isP.map (fun i => (wr ++ wc2)[i]?) = ws2.map some) (hnP : va_nd isP = true)
    (kk : ∀ (H1 : Heap) (locs1 : List Loc), va_P D cl ws2 H1 → va_D A ws2 → va_S A s.heap H1 locs1 → W p l e R s m args below meth c H1 locs1 cells slots Q (F0 m (pc + 3) ls (.long r :: rest))) : W p l e R s m args below meth c H locs cells slots Q (F0 m pc ls st0) := by
  have hF := va_free hD hS hA isC hC
  refine va_calll hr hS (fun q _ h => hF q h) hF (fun r' u t H1 locs1 ht hvm hpo hB hz hk hS1 => ?_)
  obtain ⟨hP1, hK1, hD1⟩ := hB
  rw [ht] at hP1
  obtain ⟨hPj, hDj⟩ := va_join hP hD isC isR hC hR hn hdis hk hF hP1 hD1
  subst hpo
  exact kk H1 locs1 (m_sub hPj isP hQ) (hDj.sub isP hnP hQ) hS1
theorem c_v (hr : va_Run p l e R s m args below meth c H locs cells slots 0 0 (F0 m pc ls st0) rest (qV D cl tys wc2 (va_A wc H.size) a) (va_A wc H.size)) (hP : va_P D cl ws H) (hD : va_D A ws) (hS : va_S A s.heap H locs) (hA : ∀ q, s.heap.size ≤ q → A q)
    (isC isR isP : List Nat) (hC : isC.map (fun i => ws[i]?) = wc.map some) (hR : isR.map (fun i => ws[i]?) = wr.map some) (hn : va_nd isR = true) (hdis : ∀ i ∈ isR, i ∉ isC) (hQ : isP.map (fun i => (wr ++ wc2)[i]?) = ws2.map some) (hnP : va_nd isP = true)
    (kk : ∀ (H1 : Heap) (locs1 : List Loc), va_P D cl ws2 H1 → va_D A ws2 → va_S A s.heap H1 locs1 → W p l e R s m args below meth c H1 locs1 cells slots Q (F0 m (pc + 3) ls rest)) : W p l e R s m args below meth c H locs cells slots Q (F0 m pc ls st0) := by
  have hF := va_free hD hS hA isC hC
  refine va_callv hr hS (fun q _ h => hF q h) hF (fun u t H1 locs1 ht hvm hpo hB hz hk hS1 => ?_)
  obtain ⟨hP1, hK1, hD1⟩ := hB
  rw [ht] at hP1
  obtain ⟨hPj, hDj⟩ := va_join hP hD isC isR hC hR hn hdis hk hF hP1 hD1
  exact kk H1 locs1 (m_sub hPj isP hQ) (hDj.sub isP hnP hQ) hS1
/-! what a call asks, out of the words -/
variable {own host : String} {index maxL n nL : Nat} {y : MethodName} {bytes : ByteArray} {rt : Option FieldType} {rm : Room} {Qc : Array Value → State → Outcome → State → Prop} {free : Addr → Prop} {b ci q0 : Nat} {As : List Value}
theorem p_b (av : List Value) (n : Nat) : FrameBlind (va_Pc av (mP D cl tys wc n)) := fun a U g mk q => by
  obtain ⟨q0, q1, qP, qK, qD⟩ := q
  exact ⟨q0, q1, qP, va_K.moved (u := U) (U := U.calling g mk a) (Vm.Alike.refl U.vm) qK, qD⟩
theorem p_u (hK : va_K D cl tys s) (hP : va_P D cl ws H) (hD : va_D A ws) (isC : List Nat) (hC : isC.map (fun i => ws[i]?) = wc.map some) (hnC : va_nd isC = true) (av : List Value) : ∀ U : State, U.heap = H → s.WarmedH U.vm → va_Pc av (mP D cl tys wc H.size) av.toArray U := fun U hU hW =>
  ⟨rfl, by rw [hU], by rw [hU]; exact m_sub hP isC hC, va_K.moved hW.alike hK, (hD.sub isC hnC hC).weaken (fun _ _ _ _ => trivial)⟩
/-- a virtual call of a method of the receiver's own class -/
theorem r_V (hx : p.tables.exec = Jvm.exec) (hb : c.code = cc) (hml : c.maxLocals = nL) (hown : s.vm.findClass own = some m.cls) (hts : ∀ w ∈ gU, w.before args s = true)
    (hM : Met l y (.code y bytes maxL rt :: gU) rm (va_Pc (.ref b :: As) (mP D cl tys wc H.size)) Qc rm.cells rm.slots free) (n : Nat) (k1 : Cond.code y bytes maxL rt ∈ gU) (k2 : Cond.methodLink own index y ∈ gU) (k3 : Cond.instanceMethod y ∈ gU) (k4 : Cond.selects y.cls y y ∈ gU) (k5 : Cond.initialized y.cls ∈ gU)
    (hd : y.cls ≠ "java/lang/invoke/MethodHandle" ∧ y.cls ≠ "java/lang/invoke/VarHandle" ∧ (parseMethodDescriptor y.desc).map (fun d => d.parameters.length) = some n) (hR : rm.frames + 1 ≤ R.frames ∧ 8 + (maxL + 11) + rm.locals ≤ R.locals)
    (hK : va_K D cl tys s) (hP : va_P D cl ws H) (hD : va_D A ws) (isC : List Nat) (hC : isC.map (fun i => ws[i]?) = wc.map some) (hnC : va_nd isC = true) (q0 : Nat) {fs : List Value} {T : u_T} {N : Nat} (he : ws[q0]? = some (b, .inr (ci, fs))) (hc : cl[ci]? = some (y.cls, T, N))
    (hl : ls.size = nL) (hn : As.length = n) (hst : st0 = As.reverse ++ .ref b :: rest) (hW : (rest.map fun v => v.category).sum ≤ 8) (hdg : decode cc pc = .ok (.invokevirtual index, 3)) (hf : cells + rm.cells ≤ R.cells ∧ slots + rm.slots ≤ R.slots) :
    va_Run p l e R s m args below meth c H locs cells slots rm.cells rm.slots (F0 m pc ls st0) rest (Qc (Value.ref b :: As).toArray) free :=
  va_runV (C := y.cls) ⟨hx, hb, hml, hown, hts⟩ hM ⟨callB_of n hts (gU_good k1) rfl rfl rfl (hts _ k5) (hts _ k2) hd hR, hts _ k3, hts _ k4⟩ ⟨p_b _ _, va_recv hK hP hc he, p_u hK hP hD isC hC hnC _⟩ rfl hn hl hst (lv_room hW) hdg hf
/-- the same, linked by the nest -/
theorem r_VN (hx : p.tables.exec = Jvm.exec) (hb : c.code = cc) (hml : c.maxLocals = nL) (hown : s.vm.findClass own = some m.cls) (hts : ∀ w ∈ gU, w.before args s = true)
    (hM : Met l y (.code y bytes maxL rt :: gU) rm (va_Pc (.ref b :: As) (mP D cl tys wc H.size)) Qc rm.cells rm.slots free) (n : Nat) (k1 : Cond.code y bytes maxL rt ∈ gU) (k2 : va_Nw (.methodLinkNest own index y host) s) (k3 : Cond.instanceMethod y ∈ gU) (k4 : Cond.selects y.cls y y ∈ gU) (k5 : Cond.initialized y.cls ∈ gU)
    (hd : y.cls ≠ "java/lang/invoke/MethodHandle" ∧ y.cls ≠ "java/lang/invoke/VarHandle" ∧ (parseMethodDescriptor y.desc).map (fun d => d.parameters.length) = some n) (hR : rm.frames + 1 ≤ R.frames ∧ 8 + (maxL + 11) + rm.locals ≤ R.locals)
    (hK : va_K D cl tys s) (hP : va_P D cl ws H) (hD : va_D A ws) (isC : List Nat) (hC : isC.map (fun i => ws[i]?) = wc.map some) (hnC : va_nd isC = true) (q0 : Nat) {fs : List Value} {T : u_T} {N : Nat} (he : ws[q0]? = some (b, .inr (ci, fs))) (hc : cl[ci]? = some (y.cls, T, N))
    (hl : ls.size = nL) (hn : As.length = n) (hst : st0 = As.reverse ++ .ref b :: rest) (hW : (rest.map fun v => v.category).sum ≤ 8) (hdg : decode cc pc = .ok (.invokevirtual index, 3)) (hf : cells + rm.cells ≤ R.cells ∧ slots + rm.slots ≤ R.slots) :
    va_Run p l e R s m args below meth c H locs cells slots rm.cells rm.slots (F0 m pc ls st0) rest (Qc (Value.ref b :: As).toArray) free :=
  va_runVN (C := y.cls) ⟨hx, hb, hml, hown, hts⟩ hM ⟨va_cnB n hts (gU_good k1) rfl rfl rfl k2 (hts _ k5) hd hR, hts _ k3, hts _ k4⟩ ⟨p_b _ _, va_recv hK hP hc he, p_u hK hP hD isC hC hnC _⟩ rfl hn hl hst (lv_room hW) hdg hf
/-- a static call -/
theorem r_S (hx : p.tables.exec = Jvm.exec) (hb : c.code = cc) (hml : c.maxLocals = nL) (hown : s.vm.findClass own = some m.cls) (hts : ∀ w ∈ gU, w.before args s = true)
    (hM : Met l y (.code y bytes maxL rt :: gU) rm (va_Pc As (mP D cl tys wc H.size)) Qc rm.cells rm.slots free) (n : Nat) (k1 : Cond.code y bytes maxL rt ∈ gU) (k2 : Cond.methodLink own index y ∈ gU) (k3 : Cond.static y ∈ gU) (k5 : Cond.initialized y.cls ∈ gU)
    (hd : y.cls ≠ "java/lang/invoke/MethodHandle" ∧ y.cls ≠ "java/lang/invoke/VarHandle" ∧ (parseMethodDescriptor y.desc).map (fun d => d.parameters.length) = some n) (hR : rm.frames + 1 ≤ R.frames ∧ 8 + (maxL + 11) + rm.locals ≤ R.locals)
    (hK : va_K D cl tys s) (hP : va_P D cl ws H) (hD : va_D A ws) (isC : List Nat) (hC : isC.map (fun i => ws[i]?) = wc.map some) (hnC : va_nd isC = true)
    (hl : ls.size = nL) (hn : As.length = n) (hst : st0 = As.reverse ++ rest) (hW : (rest.map fun v => v.category).sum ≤ 8) (hdg : decode cc pc = .ok (.invokestatic index, 3)) (hf : cells + rm.cells ≤ R.cells ∧ slots + rm.slots ≤ R.slots) :
    va_Run p l e R s m args below meth c H locs cells slots rm.cells rm.slots (F0 m pc ls st0) rest (Qc As.toArray) free :=
  va_runS ⟨hx, hb, hml, hown, hts⟩ hM ⟨callB_of n hts (gU_good k1) rfl rfl rfl (hts _ k5) (hts _ k2) hd hR, hts _ k3⟩ ⟨p_b _ _, p_u hK hP hD isC hC hnC _⟩ rfl hn hl hst (lv_room hW) hdg hf
end MB

