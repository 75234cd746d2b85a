/-! what is thrown and caught -/
def xI : String := "java/lang/IndexOutOfBoundsException"
def xA : String := "java/lang/IllegalArgumentException"
def xUp : List String := ["java/lang/RuntimeException", "java/lang/Exception"]
/-- the words of what is thrown that a call doesn't keep by itself -/
def xW (X : String) : List Cond := [.laysStatic Bundle.tN "UNASSIGNED_STACK" Bundle.steD, .laysStatic Bundle.tN "SUPPRESSED_SENTINEL" Bundle.listD, .declares (Bundle.init0 "java/lang/RuntimeException"), .declares (Bundle.init0 "java/lang/Exception"), .declares (Bundle.init0 Bundle.tN), .castable X X, .isRef (.static Bundle.tN "UNASSIGNED_STACK" Bundle.steD), .isRef (.static Bundle.tN "SUPPRESSED_SENTINEL" Bundle.listD)]
theorem x_part {L G B : List Cond} (hg : L.filter goodWord = G) (hb : L.filter (fun w => !goodWord w) = B) : ∀ a ∈ L, a ∈ G ∨ a ∈ B := by
  intro a ha
  cases h : goodWord a with
  | true => exact Or.inl (by rw [← hg]; exact List.mem_filter.mpr ⟨ha, h⟩)
  | false => exact Or.inr (by rw [← hb]; exact List.mem_filter.mpr ⟨ha, by simp [h]⟩)
set_option maxRecDepth 100000 in
theorem xg_I : ∀ w ∈ (Bundle.ownAtoms0 "StageHost" 21 xI xUp).filter goodWord, w ∈ gU := in_of [15, 505, 514, 517, 520, 522, 506, 507, 26, 27, 508, 513, 518, 534, 495, 535, 497, 536, 499, 509, 511, 501, 524, 525, 526, 527, 527, 528, 529, 530, 530, 531, 532, 506, 523, 484, 492, 493, 494, 496, 498, 500, 504, 503, 502] (by rfl) (by rfl)
set_option maxRecDepth 100000 in
theorem xb_I : (Bundle.ownAtoms0 "StageHost" 21 xI xUp).filter (fun w => !goodWord w) = xW xI := by rfl
theorem xo_I : ∀ a ∈ Bundle.ownAtoms0 "StageHost" 21 xI xUp, a ∈ gU ∨ a ∈ xW xI := fun a ha => (x_part rfl xb_I a ha).imp (xg_I a) id
set_option maxRecDepth 100000 in
theorem xg_A : ∀ w ∈ (Bundle.ownAtoms0 "StageHost" 32 xA xUp).filter goodWord, w ∈ gU := in_of [15, 505, 514, 517, 520, 522, 506, 507, 26, 27, 508, 513, 518, 534, 495, 535, 497, 536, 499, 509, 511, 501, 571, 572, 573, 527, 527, 528, 529, 530, 530, 531, 532, 506, 570, 562, 564, 516, 565, 566, 567, 568, 504, 503, 569] (by rfl) (by rfl)
set_option maxRecDepth 100000 in
theorem xb_A : (Bundle.ownAtoms0 "StageHost" 32 xA xUp).filter (fun w => !goodWord w) = xW xA := by rfl
theorem xo_A : ∀ a ∈ Bundle.ownAtoms0 "StageHost" 32 xA xUp, a ∈ gU ∨ a ∈ xW xA := fun a ha => (x_part rfl xb_A a ha).imp (xg_A a) id
/-- the state has them -/
def xP (U : State) : Prop := (∀ w ∈ xW xI, w.before #[] U = true) ∧ ∀ w ∈ xW xA, w.before #[] U = true
theorem x_args {X : String} {w : Cond} (hw : w ∈ xW X) {A B : Array Value} {U : State} (h : w.before A U = true) : w.before B U = true := by
  simp only [xW, List.mem_cons, List.not_mem_nil, or_false] at hw
  rcases hw with rfl | rfl | rfl | rfl | rfl | rfl | rfl | rfl
  · exact h
  · exact h
  · exact va_tabs rfl rfl h
  · exact va_tabs rfl rfl h
  · exact va_tabs rfl rfl h
  · exact va_tabs rfl rfl h
  · exact h
  · exact h
/-- other tables (warmer), and more cells -/
theorem x_stat {C n d : String} {u U : State} (hv : U.vm = u.vm) (hh : ∀ q : Nat, q < u.heap.size → U.heap[q]? = u.heap[q]?) (h : (Cond.isRef (.static C n d)).before #[] u = true) : (Cond.isRef (.static C n d)).before #[] U = true := by
  have hf : U.fieldNamed? C n d true = u.fieldNamed? C n d true := by
    unfold State.fieldNamed? State.fieldFound?
    rw [hv]
  simp only [Cond.before, Cond.holds, Cond.value, Term.eval] at h ⊢
  rw [hf]
  cases hx : u.fieldNamed? C n d true with
  | none => rw [hx] at h; simp at h
  | some z =>
    obtain ⟨c0, k, sl⟩ := z
    rw [hx] at h
    cases hs : k.statics with
    | none => simp [hs] at h
    | some q =>
      cases hc : u.heap[q]? with
      | none => simp [hs, hc] at h
      | some cell =>
        have hq : q < u.heap.size := (Array.getElem?_eq_some_iff.mp hc).1
        have hc' : U.heap[q]? = some cell := (hh q hq).trans hc
        simpa [hs, hc, hc'] using h
theorem x_lays {C n d : String} {u U : State} (hv : U.vm = u.vm) (hh : ∀ q : Nat, q < u.heap.size → U.heap[q]? = u.heap[q]?) (h : (Cond.laysStatic C n d).before #[] u = true) : (Cond.laysStatic C n d).before #[] U = true := by
  have hf : U.fieldFound? C n d = u.fieldFound? C n d := by
    unfold State.fieldFound?
    rw [hv]
  simp only [Cond.before, Cond.holds, Cond.value] at h ⊢
  rw [hf, hv]
  cases hx : u.vm.findClass C with
  | none => rw [hx] at h; simp at h
  | some c0 =>
    cases hy : u.fieldFound? C n d with
    | none => rw [hx, hy] at h; simp at h
    | some z =>
      obtain ⟨c1, k, i, f⟩ := z
      rw [hx, hy] at h
      cases hs : k.statics with
      | none => simp [hs] at h
      | some q =>
        cases hc : u.heap[q]? with
        | none => simp [hs, hc] at h
        | some cell =>
          have hq : q < u.heap.size := (Array.getElem?_eq_some_iff.mp hc).1
          have hc' : U.heap[q]? = some cell := (hh q hq).trans hc
          simpa [hs, hc, hc'] using h
theorem x_move {X : String} {u U : State} (hW : u.WarmedH U.vm) (hh : ∀ q : Nat, q < u.heap.size → U.heap[q]? = u.heap[q]?) (h : ∀ w ∈ xW X, w.before #[] u = true) : ∀ w ∈ xW X, w.before #[] U = true := by
  intro w hw
  have h0 := h w hw
  simp only [xW, List.mem_cons, List.not_mem_nil, or_false] at hw
  rcases hw with rfl | rfl | rfl | rfl | rfl | rfl | rfl | rfl
  · exact x_lays (u := u.setVm U.vm) rfl hh (Cond.before_shiftedFace (State.Shifted.of_warmed hW) _ rfl h0)
  · exact x_lays (u := u.setVm U.vm) rfl hh (Cond.before_shiftedFace (State.Shifted.of_warmed hW) _ rfl h0)
  · exact va_Nw.warmD hW h0
  · exact va_Nw.warmD hW h0
  · exact va_Nw.warmD hW h0
  · exact va_Nw.warmC hW h0
  · exact x_stat (u := u.setVm U.vm) rfl hh (Cond.before_shiftedFace (State.Shifted.of_warmed hW) _ rfl h0)
  · exact x_stat (u := u.setVm U.vm) rfl hh (Cond.before_shiftedFace (State.Shifted.of_warmed hW) _ rfl h0)
theorem xP.move {u U : State} (hW : u.WarmedH U.vm) (hh : ∀ q : Nat, q < u.heap.size → U.heap[q]? = u.heap[q]?) (h : xP u) : xP U := ⟨x_move hW hh h.1, x_move hW hh h.2⟩
/-- nothing written, at the most new cells: the old cells are the same -/
theorem x_same {s t : State} {k n : Nat} (h : s.sameButNew t [] k n) : ∀ q : Nat, q < s.heap.size → t.heap[q]? = s.heap[q]? := by
  intro q hq
  obtain ⟨c', h1, h2, h3, h4⟩ := h.2.2.2.2.2 q s.heap[q] (Array.getElem?_eq_getElem hq)
  have h5 : c'.slots = s.heap[q].slots := Array.ext_getElem? (fun i => h4 i (by simp))
  rw [h1, h2, h5, Array.getElem?_eq_getElem hq]
/-- the contract of a method that throws -/
def MetX (l : Launch) (y : MethodName) (ws : List Cond) (rm : Room) (Pc : Array Value → State → Prop) (X : String) : Prop :=
  MetFree l y (headSpec ws rm) Pc (fun _ _ _ _ _ => True) (fun _ st o t => (∃ x, o = .threw x ∧ st.heap.size ≤ x ∧ ∃ ce, t.heap[x]? = some ce ∧ st.vm.findClass X = some ce.cls ∧ ce.vm = .none ∧ st.vm.assignable ce.cls ce.cls = true) ∧ st.WarmedH t.vm ∧ st.sameButNew ({ t with vm := st.vm } : State) [] 1 6)
/-- how its walk ends -/
def XQ (below : List Frame) (s : State) (X : String) : State → Prop := fun t =>
  ∃ x, t.status = .running ∧ Ended t below (.threw x) ∧ s.heap.size ≤ x ∧ (∃ ce, t.heap[x]? = some ce ∧ s.vm.findClass X = some ce.cls ∧ ce.vm = .none ∧ s.vm.assignable ce.cls ce.cls = true) ∧ s.WarmedH t.vm ∧ s.sameButNew ({ t with vm := s.vm } : State) [] 1 6
theorem m_goX {l : Launch} {y : MethodName} {cc : ByteArray} {ml : Nat} {rt : Option FieldType} {rm : Room} {D : va_G} {cl : List vw_C} {tys : List (ClassId × FieldType)} {av : List Value} {cs : va_W} {sz : Nat} {X : String} (hl : l.flags = flags0)
    (hy : plainName y.cls = true) (hlen : (lg_sl av).length ≤ ml)
    (body : ∀ (p : Program) (e : Env) (s : State) (m : MethodId) (below : List Frame) (meth : Method) (c : Code) (A : Nat → Prop) (ls : Array Slot), p.tables.exec = Jvm.exec → c.code = cc → meth.locks = false → c.maxLocals = ml → c.exceptionTable.isEmpty = true → e.platform.stackTraces = false → (∀ w ∈ gU, w.before av.toArray s = true) → xP s → s.vm.findClass y.cls = some m.cls →
      (∀ q : Nat, s.heap.size ≤ q → A q) → va_P D cl cs s.heap → va_K D cl tys s → va_D A cs → va_S A s.heap s.heap [] → lv_has ls ml (lv_args 0 av) → s.heap.size = sz →
      W p l e rm s m av.toArray below meth c s.heap [] 0 0 (XQ below s X) (F0 m 0 ls [])) :
    MetX l y (.code y cc ml rt :: gU) rm (va_Pc av (fun U => mP D cl tys cs sz U ∧ xP U)) X := by
  refine MetFree.of_bodyS (code := cc) (maxLocals := ml) (ret := rt) hy ?_ ?_
  · intro args s m h hn
    obtain ⟨meth, c, h1, h2, h3, h4, h5, h6, -, -⟩ := Cond.code_spec hn (atoms_spec (ws := .code y cc ml rt :: gU) h _ List.mem_cons_self)
    exact ⟨meth, c, h1, h2, h3, h4, h5, h6⟩
  · intro p e s m args below meth c s₁ B hml hv _
    obtain ⟨rfl, ⟨hsz, hP, hK, hD0⟩, hX⟩ := hv
    have hts := atoms_spec (ws := .code y cc ml rt :: gU) B.pre
    subst hsz
    have hD := hD0.self (sz := s.heap.size)
    have hlv := lv_entry av (n := ml) hlen
    have hcode := hts _ List.mem_cons_self
    have S0 := Stand.of_body B
    have hW := body p e s m below meth c _ _ B.exec B.bytes B.notSynchronized hml (B.noHandlers hcode) (Launch.traces_off hl S0.admits) (fun w h => hts w (List.mem_cons_of_mem _ h)) hX (findClass_of_methodNamed B.named) (fun q h => Or.inr h) hP hK hD va_S.rf hlv rfl
    have hh0 : s₁.heap = s.heap := by rw [B.state]; rfl
    rw [lg_entry_eq]
    obtain ⟨t, st, x, h1, h2, h3, h4, h5, h6⟩ := hW s₁ hh0 S0
    exact ⟨t, .threw x, st, h1, h2, ⟨x, rfl, h3, h4⟩, h5, h6⟩

