def R_law : String := "StageHostLaw"
def lw_P (b : Addr) (xs : List Int32) (args : Array Value) (s : State) : Prop := args = #[.ref b] ∧ s.IntsAt b xs ∧ xs.length ≤ 1536 ∧ (Jvm.Cond.and given_1 narrow_1).before args s = true
def lw_Q (_ : Array Value) (s : State) (o : Outcome) (t : State) : Prop := o = .returned (some (.int 1)) ∧ Framed s o t [] 1071 20017
def lw_Z (below : List Frame) (a : Array Value) (s : State) : State → Prop := fun t => ∃ o, t.status = .running ∧ Ended t below o ∧ lw_Q a s o t
/-- the law's own end, with 1 on the stack, nothing written that was there before, its room as the claim has it -/
theorem lw_ret {p : Program} {l : Launch} {e : Env} {s : State} {m : MethodId} {below : List Frame} {meth : Method} {c : Code} {b : Nat} (hx : p.tables.exec = Jvm.exec) (hb : c.code = code) (hr : meth.sig.returnType = ret) (hlocks : meth.locks = false) {pc : Nat} {H : Heap} {ls : Array Slot} (hdg : decode code pc = .ok (.ireturn, 1)) : W p l e room_1 s m #[Value.ref b] below meth c H [] 1071 20017 (lw_Z below #[Value.ref b] s) (F0 m pc ls [.int 1]) := by
  intro T hT X
  obtain ⟨fs, hret, hrun, hended, hW, hframe⟩ := X.leave (v := some (.int 1)) (hlocks := hlocks) (fun h => by rw [hr] at h; cases h)
  have hmeth' : T.vm.method? m = some meth := X.method'
  refine ⟨T.setFrames fs, ?_, .returned (some (.int 1)), hrun, hended, rfl, ⟨_, rfl⟩, hW, hframe⟩
  jvm_step X.here [X.here.top, hx, hb, hdg, hmeth', hr, ret, narrow_b1]
  (try refine ⟨rfl, ?_⟩); (try refine ⟨rfl, ?_⟩)
  first | (intro acts; rw [hret _ acts rfl rfl rfl]) | rw [hret _ _ rfl rfl rfl]
  exact Steps.refl _
/-- what holds at the law's entry: the machine, the code, the tables' words (any of lw_tbl by 'hts w (by decide +kernel)'), the script of L ints xs at the cell b, what the Statement gives of the start (any of its parts by flat_of_before) -/
def lw_At (p : Program) (s : State) (m : MethodId) (meth : Method) (c : Code) (b L : Nat) (xs : Nat → Int32) : Prop :=
  p.tables.exec = Jvm.exec ∧ c.code = code ∧ meth.sig.returnType = ret ∧ c.maxLocals = 7 ∧ s.vm.findClass R_law = some m.cls ∧ (∀ w ∈ lw_tbl, w.before #[Value.ref b] s = true) ∧ va_X b L xs s s.heap ∧ b < s.heap.size ∧ meth.locks = false ∧ (Jvm.Cond.and given_1 narrow_1).before #[Value.ref b] s = true
/-! the loop of the law -/
theorem lp_gt {L I : Nat} (hL : L ≤ 1536) (hI : I ≤ 2000) : (nI L - 3 < nI I) ↔ L < I + 3 := by
  rw [Int32.lt_iff_toInt_lt, Int32.toInt_sub, nI_toInt (by omega), nI_toInt (by omega), show (3 : Int32).toInt = 3 from rfl, Int.bmod_eq_of_le (by omega) (by omega)]
  omega
def cqR (v : VB) (u : UB) (cy cm en : Int32) : Prop := cm = cy ∧ en = v.1 26 ∧ u.1 1 = v.1 27 ∧ u.1 2 = v.1 29 ∧ u.1 3 = v.1 30 ∧ u.1 4 = v.1 31 ∧ u.1 5 = v.1 32 ∧ u.1 6 = v.1 28 ∧ u.1 7 = v.1 25
theorem TR_q {v : VB} {u : UB} {c : Nat} {e cy cm : Int32} (h : TR v u c e) (h1 : cm = cy) : cqR v u cy cm e ∧ eqOn 16 (v.2 0) (u.2.2.1 1) ∧ eqOn 1024 (v.2 1) (u.2.2.1 3) ∧ eqOn 1000 (v.2 9) (u.2.2.1 4) ∧ v.1 25 = u.1 7 := by
  obtain ⟨ME, -, ⟨a1, a2, a3, ⟨T, t1, t2, -⟩, a4, a5, a6, a7, a8, a9⟩, h26, -⟩ := h
  exact ⟨⟨h1, h26.symm, a4.symm, a6.symm, a7.symm, a8.symm, a9.symm, a5.symm, t2.trans t1.symm⟩, a1, a2, a3, t1.trans t2.symm⟩
set_option maxHeartbeats 8000000 in
set_option maxRecDepth 100000 in
theorem law_loop {p : Program} {l : Launch} {e : Env} {s : State} {m : MethodId} {below : List Frame} {meth : Method} {c : Code} {b L : Nat} {xs : Nat → Int32} {D : va_G} {cI cJ : ClassId} (hfl : l.flags = flags0) (hx : p.tables.exec = Jvm.exec) (hb : c.code = code) (hml : c.maxLocals = 7) (hown : s.vm.findClass "StageHostLaw" = some m.cls) (hts : ∀ w ∈ gU, w.before #[Value.ref b] s = true) (hX : va_X b L xs s s.heap) (hbl : b < s.heap.size) (hK : va_K D vwCl (tyS cI cJ) s) (hxp : xP s)
     (hr : meth.sig.returnType = ret) (hlk : meth.locks = false) {qX qm qo : Nat} {z y : Nat → Nat} (hL : L ≤ 1536) : ∀ (d j I cN cells slots : Nat) (H : Heap) (locs : List Loc) (ls : Array Slot) (v : VB) (u : UB) (cy er cm en : Int32) (pg gc gd nco ncg ndg : Nat → Int32) (out : Nat → Int64), I = 3 * j → I ≤ L → L < I + 3 * d + 3 → cN ≤ 100000 * j → cells = 40 + j → slots = 11783 + 6 * j → va_P D vwCl (WD cI cJ qX qm qo z y v u cy er cm en pg gc gd nco ncg ndg out) H → va_D (AA s) (WD cI cJ qX qm qo z y v u cy er cm en pg gc gd nco ncg ndg out) → va_S (AA s) s.heap H locs → lv_has ls 7 [(4, .int (nI I)), (3, .ref qo), (2, .ref qm), (1, .ref qX), (0, .ref b)] → cy = nI cN → cm = nI cN → TR v u cN en → eqOn 1024 pg nco → eqOn 1024 gc ncg → eqOn 1024 gd ndg → W p l e room_1 s m #[Value.ref b] below meth c H locs cells slots (lw_Z below #[Value.ref b] s) (F0 m 23 ls []) := by
  intro d
  induction d with
  | zero =>
    intro j I cN cells slots H locs ls v u cy er cm en pg gc gd nco ncg ndg out hj hIL hd hcN hc hs hP hD hS hl hcy hcm hTR h1 h2 h3
    refine lv_iload hx hb dL_law_23 (lv_at hl 0 rfl) ?_
    refine lv_aload_n hx hb dL_law_25 rfl (lv_at hl 4 rfl) ?_
    refine va_slen hx hb hX hbl (fun h => Nat.not_le.mpr hbl h) hS dL_law_26 ?_
    refine lv_iconst (v := 3) hx hb dL_law_27 (by decide) ?_
    refine lv_isub hx hb dL_law_28 ?_
    refine lv_icmp_gt (tgt := 477) hx hb dL_law_29 rfl (fun _ => ?_) (fun n => absurd ((lp_gt hL (by omega)).mpr (by omega)) n)
    refine lv_iconst (v := 1) hx hb dL_law_477 (by decide) ?_
    refine va_forget (fun q hq => hS.2.2 q hq) (W.widen (k := 1071) (n := 20017) (by omega) (by omega) ?_)
    exact lw_ret hx hb hr hlk dL_law_478
  | succ d ih =>
    intro j I cN cells slots H locs ls v u cy er cm en pg gc gd nco ncg ndg out hj hIL hd hcN hc hs hP hD hS hl hcy hcm hTR h1 h2 h3
    refine lv_iload hx hb dL_law_23 (lv_at hl 0 rfl) ?_
    refine lv_aload_n hx hb dL_law_25 rfl (lv_at hl 4 rfl) ?_
    refine va_slen hx hb hX hbl (fun h => Nat.not_le.mpr hbl h) hS dL_law_26 ?_
    refine lv_iconst (v := 3) hx hb dL_law_27 (by decide) ?_
    refine lv_isub hx hb dL_law_28 ?_
    refine lv_icmp_gt (tgt := 477) hx hb dL_law_29 rfl (fun _ => ?_) (fun n => ?_)
    · refine lv_iconst (v := 1) hx hb dL_law_477 (by decide) ?_
      refine va_forget (fun q hq => hS.2.2 q hq) (W.widen (k := 1071) (n := 20017) (by omega) (by omega) ?_)
      exact lw_ret hx hb hr hlk dL_law_478
    have hI3 : I + 3 ≤ L := by
      by_cases q : L < I + 3
      · exact absurd ((lp_gt hL (by omega)).mpr q) n
      · omega
    have go : ∀ (H : Heap) (locs : List Loc) (ls : Array Slot) (cN : Nat) (v : VB) (u : UB) (cy er cm en : Int32) (pg gc gd nco ncg ndg : Nat → Int32) (out : Nat → Int64), cN ≤ 100000 * (j + 1) → va_P D vwCl (WD cI cJ qX qm qo z y v u cy er cm en pg gc gd nco ncg ndg out) H → va_D (AA s) (WD cI cJ qX qm qo z y v u cy er cm en pg gc gd nco ncg ndg out) → va_S (AA s) s.heap H locs → lv_has ls 7 [(4, .int (nI I)), (3, .ref qo), (2, .ref qm), (1, .ref qX), (0, .ref b)] → cy = nI cN → cm = nI cN → TR v u cN en → eqOn 1024 pg nco → eqOn 1024 gc ncg → eqOn 1024 gd ndg → W p l e room_1 s m #[Value.ref b] below meth c H locs (cells + 1) (slots + 6) (lw_Z below #[Value.ref b] s) (F0 m 471 ls []) := by
      intro H locs ls cN v u cy er cm en pg gc gd nco ncg ndg out hcN hP hD hS hl hcy hcm hTR h1 h2 h3
      refine lv_iinc (k := 0) (v := nI (I + 3)) hx hb dL_law_471 hl rfl (nI_add I 3) (by decide) rfl (fun ls hl => ?_)
      refine lv_goto (tgt := 23) hx hb dL_law_474 rfl ?_
      exact ih (j + 1) (I + 3) cN (cells + 1) (slots + 6) H locs ls v u cy er cm en pg gc gd nco ncg ndg out (by omega) (by omega) (by omega) hcN (by omega) (by omega) hP hD hS hl hcy hcm hTR h1 h2 h3
    obtain ⟨hq, q1, q2, q3, q4⟩ := TR_q hTR (hcm.trans hcy.symm)
    have hcs : cells + 1 ≤ 1071 ∧ slots + 6 ≤ 20017 := by omega
    refine lv_aload_n hx hb dL_law_32 rfl (lv_at hl 4 rfl) ?_
    refine lv_iload hx hb dL_law_33 (lv_at hl 0 rfl) ?_
    refine va_sld hx hb hX hbl (fun h => Nat.not_le.mpr hbl h) hS (vp_in_nI (by omega) (by omega)) dL_law_35 ?_
    refine lv_bipush (v := 7) hx hb dL_law_36 (by decide) ?_
    refine lv_iand hx hb dL_law_38 ?_
    obtain ⟨t, ht, et⟩ := vp_in_of (in7 (xs (Int32.toNatClampNeg (nI I)))) (by decide)
    rw [et]
    have ht8 : t = 0 ∨ t = 1 ∨ t = 2 ∨ t = 3 ∨ t = 4 ∨ t = 5 ∨ t = 6 ∨ t = 7 := by omega
    rcases ht8 with rfl | rfl | rfl | rfl | rfl | rfl | rfl | rfl
    · refine lv_tableIn (tgt := 84) (off := 45) hx hb dL_law_39 (by decide) (by decide) (by rfl) rfl ?_
      exact law_code hfl hx hb hml hown hts hX hbl hK hxp hI3 hL hcs hP hD hS hl h2 (fun H locs ls g n er hP hD hS hl hg => go H locs ls cN v u cy er cm en pg g gd nco n ndg out (by omega) hP hD hS hl hcy hcm hTR h1 hg h3)
    · refine lv_tableIn (tgt := 132) (off := 93) hx hb dL_law_39 (by decide) (by decide) (by rfl) rfl ?_
      exact law_data hfl hx hb hml hown hts hX hbl hK hxp hI3 hL hcs hP hD hS hl h3 (fun H locs ls g n er hP hD hS hl hg => go H locs ls cN v u cy er cm en pg gc g nco ncg n out (by omega) hP hD hS hl hcy hcm hTR h1 h2 hg)
    · refine lv_tableIn (tgt := 180) (off := 141) hx hb dL_law_39 (by decide) (by decide) (by rfl) rfl ?_
      obtain ⟨nw, hnw, e24, hou⟩ := TR_ou hTR
      exact law_begin hfl hx hb hml hown hts hX hbl hK hxp hI3 hL hcs hP hD hS hl nw hnw e24 (fun H locs hP hD hS => W.widen (Nat.le_succ _) (Nat.le_add_right _ _) (go H locs ls 0 _ _ _ _ _ _ _ _ _ _ _ _ _ (Nat.zero_le _) hP hD hS hl rfl rfl (BEGREL v u nw hnw e24 hou h2 h3) (pg_on h2) h2 h3))
    · refine lv_tableIn (tgt := 191) (off := 152) hx hb dL_law_39 (by decide) (by decide) (by rfl) rfl ?_
      exact law_run hfl hx hb hml hown hts hX hbl hK hxp hI3 hL hcs hP hD hS hl cN hcy hcm hTR h1 (by omega) (fun H locs ls v u cy er cm en out c2 hP hD hS hl hcy hcm hTR hc2 => go H locs ls c2 v u cy er cm en pg gc gd nco ncg ndg out (by omega) hP hD hS hl hcy hcm hTR h1 h2 h3)
    · refine lv_tableIn (tgt := 247) (off := 208) hx hb dL_law_39 (by decide) (by decide) (by rfl) rfl ?_
      exact law_register hfl hx hb hml hown hts hX hbl hK hxp hI3 hL hcs hP hD hS hl q1 (fun H locs ls er out hP hD hS hl => go H locs ls cN v u cy er cm en pg gc gd nco ncg ndg out (by omega) hP hD hS hl hcy hcm hTR h1 h2 h3)
    · refine lv_tableIn (tgt := 303) (off := 264) hx hb dL_law_39 (by decide) (by decide) (by rfl) rfl ?_
      exact law_memory hfl hx hb hml hown hts hX hbl hK hxp hI3 hL hcs hP hD hS hl q2 (fun H locs ls er out hP hD hS hl => go H locs ls cN v u cy er cm en pg gc gd nco ncg ndg out (by omega) hP hD hS hl hcy hcm hTR h1 h2 h3)
    · refine lv_tableIn (tgt := 359) (off := 320) hx hb dL_law_39 (by decide) (by decide) (by rfl) rfl ?_
      exact law_output hfl hx hb hml hown hts hX hbl hK hxp hI3 hL hcs hP hD hS hl q3 q4 (fun H locs ls er out hP hD hS hl => go H locs ls cN v u cy er cm en pg gc gd nco ncg ndg out (by omega) hP hD hS hl hcy hcm hTR h1 h2 h3)
    · refine lv_tableIn (tgt := 415) (off := 376) hx hb dL_law_39 (by decide) (by decide) (by rfl) rfl ?_
      exact law_count hfl hx hb hml hown hts hX hbl hK hxp hI3 hL hcs hP hD hS hl hq (fun H locs ls er out hP hD hS hl => go H locs ls cN v u cy er cm en pg gc gd nco ncg ndg out (by omega) hP hD hS hl hcy hcm hTR h1 h2 h3)
