/-! the law's start -/
theorem t_in {ws : List Cond} (ps : List Nat) (hp : ws = ps.filterMap (fun i => tables_1[i]?)) : ∀ w ∈ ws, w ∈ lw_tbl := by
  intro w hw
  rw [hp] at hw
  obtain ⟨i, -, hi⟩ := List.mem_filterMap.mp hw
  exact List.mem_append_right _ (List.mem_of_getElem? hi)
set_option maxRecDepth 100000 in
theorem gN_in : ∀ w ∈ gN, w ∈ lw_tbl := t_in [30, 36, 53, 91, 131, 162, 197, 203, 242] (by rfl)
set_option maxRecDepth 100000 in
theorem xI_in : ∀ w ∈ (xW xI).take 6, w ∈ lw_tbl := t_in [510, 512, 486, 488, 490, 485] (by rfl)
set_option maxRecDepth 100000 in
theorem xA_in : ∀ w ∈ (xW xA).take 6, w ∈ lw_tbl := t_in [510, 512, 486, 488, 490, 563] (by rfl)
theorem law_mN {s : State} {args : Array Value} (hts0 : ∀ w ∈ lw_tbl, w.before args s = true) : mN s := by
  intro w hw
  have h1 := hts0 w (gN_in w hw)
  simp only [gN, List.mem_cons, List.not_mem_nil, or_false] at hw
  rcases hw with rfl | rfl | rfl | rfl | rfl | rfl | rfl | rfl | rfl <;> exact va_Nw.of rfl h1
theorem law_xW {s : State} {args : Array Value} {X : String} (hts0 : ∀ w ∈ lw_tbl, w.before args s = true) (hX : ∀ w ∈ (xW X).take 6, w ∈ lw_tbl) (h1 : (Cond.isRef (.static Bundle.tN "UNASSIGNED_STACK" Bundle.steD)).before args s = true) (h2 : (Cond.isRef (.static Bundle.tN "SUPPRESSED_SENTINEL" Bundle.listD)).before args s = true) : ∀ w ∈ xW X, w.before #[] s = true := by
  intro w hw
  have h0 := hw
  simp only [xW, List.mem_cons, List.not_mem_nil, or_false] at hw
  rcases hw with rfl | rfl | rfl | rfl | rfl | rfl | rfl | rfl
  · exact x_args h0 (hts0 _ (hX _ (List.mem_of_getElem? (i := 0) rfl)))
  · exact x_args h0 (hts0 _ (hX _ (List.mem_of_getElem? (i := 1) rfl)))
  · exact x_args h0 (hts0 _ (hX _ (List.mem_of_getElem? (i := 2) rfl)))
  · exact x_args h0 (hts0 _ (hX _ (List.mem_of_getElem? (i := 3) rfl)))
  · exact x_args h0 (hts0 _ (hX _ (List.mem_of_getElem? (i := 4) rfl)))
  · exact x_args h0 (hts0 _ (hX _ (List.mem_of_getElem? (i := 5) rfl)))
  · exact x_args h0 h1
  · exact x_args h0 h2
theorem law_xP {s : State} {args : Array Value} (hts0 : ∀ w ∈ lw_tbl, w.before args s = true) (hgv : (Jvm.Cond.and given_1 narrow_1).before args s = true) : xP s := by
  have hs := flat_of_before _ hgv
  have h1 : (Cond.isRef (.static Bundle.tN "UNASSIGNED_STACK" Bundle.steD)).before args s = true := hs _ (by decide +kernel)
  have h2 : (Cond.isRef (.static Bundle.tN "SUPPRESSED_SENTINEL" Bundle.listD)).before args s = true := hs _ (by decide +kernel)
  exact ⟨law_xW hts0 xI_in h1 h2, law_xW hts0 xA_in h1 h2⟩
abbrev z0 : Nat → Int32 := fun _ => 0
abbrev vb0 : VB := vBeg z0 z0 z0 (z0, fun _ => z0)
abbrev ub0 : UB := uBeg z0 z0 z0 (z0, fun _ => 0, fun _ => z0, fun _ _ => 0)
abbrev WX0 (cI : ClassId) (qX : Nat) (z : Nat → Nat) : va_W := [(qX, .inr (9, [.ref (z 0)])), ((z 0), .inr (4, [.ref (z 1), .ref (z 2), .ref (z 3), .ref (z 4), .ref (z 5), .ref (z 7), .int 0, .ref (z 8), .ref (z 9), .ref (z 10), .ref (z 11), .ref (z 13), .ref (z 20), .int (vb0.1 0), .int (vb0.1 1)])), ((z 1), .inl (cI, 1024, .inl z0)), ((z 2), .inl (cI, 1024, .inl z0)), ((z 3), .inl (cI, 1024, .inl (vb0.2 1))), ((z 4), .inl (cI, 16, .inl (vb0.2 0))), ((z 5), .inr (5, [.ref (z 6), .int (vb0.1 25)])), ((z 6), .inl (cI, 1000, .inl (vb0.2 9))), ((z 7), .inr (7, [.int (vb0.1 26), .int (vb0.1 27), .int (vb0.1 28), .int (vb0.1 29), .int (vb0.1 30), .int (vb0.1 31), .int (vb0.1 32)])), ((z 8), .inl (cI, 1024, .inl (M_restart_13_pg z0 z0))), ((z 9), .inr (8, [.int (vb0.1 2), .int (vb0.1 3), .int (vb0.1 4), .int (vb0.1 5), .int (vb0.1 6), .int (vb0.1 7)])), ((z 10), .inr (1, [.int (vb0.1 8), .int (vb0.1 9), .int (vb0.1 10), .int (vb0.1 11), .int (vb0.1 12), .int (vb0.1 13)])), ((z 11), .inr (6, [.int (vb0.1 14), .int (vb0.1 15), .int (vb0.1 16), .int (vb0.1 17), .int (vb0.1 18), .int (vb0.1 19), .int (vb0.1 20), .ref (z 12)])), ((z 12), .inl (cI, 16, .inl (vb0.2 2))), ((z 13), .inr (2, [.ref (z 14), .ref (z 15), .ref (z 17), .ref (z 18), .ref (z 19), .int (vb0.1 21), .int (vb0.1 22)])), ((z 14), .inl (cI, 64, .inl (vb0.2 3))), ((z 15), .inr (0, [.int (vb0.1 23), .int (vb0.1 24), .ref (z 16)])), ((z 16), .inl (cI, 8, .inl (vb0.2 7))), ((z 17), .inl (cI, 4, .inl (vb0.2 4))), ((z 18), .inl (cI, 4, .inl (vb0.2 5))), ((z 19), .inl (cI, 4, .inl (vb0.2 6))), ((z 20), .inr (3, [.ref (z 21)])), ((z 21), .inl (cI, 16, .inl (vb0.2 8)))]
abbrev WM0 (cI cJ : ClassId) (qm : Nat) (y : Nat → Nat) : va_W := [(qm, .inr (10, [.int 0, .ref (y 0), .ref (y 1), .ref (y 2), .ref (y 3), .ref (y 4), .ref (y 5), .ref (y 6), .ref (y 7), .int (ub0.1 0), .int 0, .int 0, .int (ub0.1 1), .int (ub0.1 2), .int (ub0.1 3), .int (ub0.1 4), .int (ub0.1 5), .int (ub0.1 6), .int (ub0.1 7), .long (ub0.2.1 0), .long (ub0.2.1 1), .long (ub0.2.1 2), .long (ub0.2.1 3), .long (ub0.2.1 4), .long (ub0.2.1 5), .long (ub0.2.1 6), .int (ub0.1 8), .int (ub0.1 9), .ref (y 8), .int (ub0.1 10), .int (ub0.1 11), .int (ub0.1 12), .int (ub0.1 13), .int (ub0.1 14), .int (ub0.1 15), .int (ub0.1 16), .int (ub0.1 17), .int (ub0.1 18), .int (ub0.1 19), .int (ub0.1 20), .int (ub0.1 21), .ref (y 9), .ref (y 10), .ref (y 11), .ref (y 12), .ref (y 13), .int (ub0.1 22), .int (ub0.1 23), .int (ub0.1 24), .ref (y 14)])), ((y 0), .inl (cI, 1024, .inl z0)), ((y 1), .inl (cI, 1024, .inl z0)), ((y 2), .inl (cI, 1024, .inl (cp_ 1024 z0 z0))), ((y 3), .inl (cI, 16, .inl (ub0.2.2.1 0))), ((y 4), .inl (cI, 1024, .inl (ub0.2.2.1 2))), ((y 5), .inl (cI, 16, .inl (ub0.2.2.1 1))), ((y 6), .inl (cI, 1024, .inl (ub0.2.2.1 3))), ((y 7), .inl (cI, 1000, .inl (ub0.2.2.1 4))), ((y 8), .inl (cJ, 16, .inr (.inl (ub0.2.2.2 0)))), ((y 9), .inl (cI, 64, .inl (ub0.2.2.1 5))), ((y 10), .inl (cI, 8, .inl (ub0.2.2.1 6))), ((y 11), .inl (cI, 64, .inl (ub0.2.2.1 7))), ((y 12), .inl (cI, 64, .inl (ub0.2.2.1 8))), ((y 13), .inl (cJ, 64, .inr (.inl (ub0.2.2.2 1)))), ((y 14), .inl (cI, 16, .inl (ub0.2.2.1 9)))]
set_option maxHeartbeats 8000000 in
set_option maxRecDepth 100000 in
theorem law_start {p : Program} {l : Launch} {e : Env} {s : State} {m : MethodId} {below : List Frame} {meth : Method} {c : Code} {b L : Nat} {xs : Nat → Int32} {D : va_G} {cI cJ : ClassId} (hfl : l.flags = flags0) (hx : p.tables.exec = Jvm.exec) (hb : c.code = code) (hml : c.maxLocals = 7) (hown : s.vm.findClass "StageHostLaw" = some m.cls) (hts : ∀ w ∈ gU, w.before #[Value.ref b] s = true) (hX : va_X b L xs s s.heap) (hbl : b < s.heap.size) (hK : va_K D vwCl (tyS cI cJ) s) (hxp : xP s)
     (hr : meth.sig.returnType = ret) (hlk : meth.locks = false) (hN : mN s) (hL : L ≤ 1536) {ls : Array Slot} (hl : lv_has ls 7 [(0, .ref b)]) : W p l e room_1 s m #[Value.ref b] below meth c s.heap [] 0 0 (lw_Z below #[Value.ref b] s) (F0 m 0 ls []) := by
  have hP : va_P D vwCl [] s.heap := fun k q h => by simp at h
  have hD : va_D (AA s) [] := ⟨fun i j p q h => by simp at h, fun k q h => by simp at h⟩
  have hS : va_S (AA s) s.heap s.heap [] := va_S.rf
  have hA : ∀ q, s.heap.size ≤ q → AA s q := fun q h => h
  refine va_new (D := D) (ci := 9) (fs := [.null]) (C := RX9) (T := TX9) (N := 1) hx hb hts inX9 tyX9 tyX9_ok hown (hts _ kt_20) (hts _ kt_21) (hts _ kt_1) hK hP hD hS hA rfl (fun j hj => by rcases (show j = 0 by omega) with rfl <;> rfl) (by decide) (by decide) dL_law_0 (fun qX H hP hD hS => ?_)
  refine W.widen (k := 1) (n := 1) (by decide) (by decide) ?_
  have hP : va_P D vwCl [(qX, .inr (9, [.null]))] H := hP
  have hD : va_D (AA s) [(qX, .inr (9, [.null]))] := hD
  refine lv_dup hx hb dL_law_3 rfl ?_
  have hB := BEGC (tw := fun _ => 0) (tp := fun _ => 0) (tx := fun _ => 0) (cn := fun _ => 0) (ri := fun _ => 0) (x := 0) (nw := 0) (by decide) rfl
  refine c_n (wc := [(qX, .inr (9, [.null]))]) (wr := []) (ws2 := fun z => WX0 cI qX z) (r_I (rm := { frames := 5, cells := 22, slots := 5283, locals := 114 }) hN hx hb hml hown hts (c_I_X l D cI cJ qX 4 hB.1 hB.2 _) 0 kt_24 kt_22 kt_23 kt_1 rfl ⟨by decide +kernel, by decide +kernel, by decide +kernel⟩ ⟨by decide, by decide⟩ hK hP hD [0] rfl (by decide) hl.1 rfl rfl (Nat.le_of_ble_eq_true rfl) dL_law_4 ⟨by decide, by decide⟩) hP hD hS hA [0] [] [0, 1, 2, 3, 4, 5, 6, 7, 8, 9, 10, 11, 12, 13, 14, 15, 16, 17, 18, 19, 20, 21, 22] rfl rfl (by decide) (by decide) (fun _ => rfl) (by decide) (fun z H locs hP hD hS => ?_)
  refine W.widen (k := 23) (n := 5284) (by decide) (by decide) ?_
  have hP : va_P D vwCl (WX0 cI qX z) H := hP
  have hD : va_D (AA s) (WX0 cI qX z) := hD
  refine lv_astore_n hx hb dL_law_7 rfl hl (by decide) rfl (fun ls hl => ?_)
  refine va_new (D := D) (ci := 10) (fs := [.int 0, .null, .null, .null, .null, .null, .null, .null, .null, .int 0, .int 0, .int 0, .int 0, .int 0, .int 0, .int 0, .int 0, .int 0, .int 0, .long 0, .long 0, .long 0, .long 0, .long 0, .long 0, .long 0, .int 0, .int 0, .null, .int 0, .int 0, .int 0, .int 0, .int 0, .int 0, .int 0, .int 0, .int 0, .int 0, .int 0, .int 0, .null, .null, .null, .null, .null, .int 0, .int 0, .int 0, .null]) (C := RX10) (T := TX10) (N := 50) hx hb hts inX10 tyX10 tyX10_ok hown (hts _ kt_640) (hts _ kt_641) (hts _ kt_14) hK hP hD hS hA rfl (fun j hj => by rcases (show j = 0 ∨ j = 1 ∨ j = 2 ∨ j = 3 ∨ j = 4 ∨ j = 5 ∨ j = 6 ∨ j = 7 ∨ j = 8 ∨ j = 9 ∨ j = 10 ∨ j = 11 ∨ j = 12 ∨ j = 13 ∨ j = 14 ∨ j = 15 ∨ j = 16 ∨ j = 17 ∨ j = 18 ∨ j = 19 ∨ j = 20 ∨ j = 21 ∨ j = 22 ∨ j = 23 ∨ j = 24 ∨ j = 25 ∨ j = 26 ∨ j = 27 ∨ j = 28 ∨ j = 29 ∨ j = 30 ∨ j = 31 ∨ j = 32 ∨ j = 33 ∨ j = 34 ∨ j = 35 ∨ j = 36 ∨ j = 37 ∨ j = 38 ∨ j = 39 ∨ j = 40 ∨ j = 41 ∨ j = 42 ∨ j = 43 ∨ j = 44 ∨ j = 45 ∨ j = 46 ∨ j = 47 ∨ j = 48 ∨ j = 49 by omega) with rfl | rfl | rfl | rfl | rfl | rfl | rfl | rfl | rfl | rfl | rfl | rfl | rfl | rfl | rfl | rfl | rfl | rfl | rfl | rfl | rfl | rfl | rfl | rfl | rfl | rfl | rfl | rfl | rfl | rfl | rfl | rfl | rfl | rfl | rfl | rfl | rfl | rfl | rfl | rfl | rfl | rfl | rfl | rfl | rfl | rfl | rfl | rfl | rfl | rfl <;> rfl) (by decide) (by decide) dL_law_8 (fun qm H hP hD hS => ?_)
  refine W.widen (k := 24) (n := 5334) (by decide) (by decide) ?_
  refine lv_dup hx hb dL_law_11 rfl ?_
  have hM := BEGM (pc := 0) (gu := 0) (d := 0) (xe := 0) (g := cp_ 1024 (fun _ => 0) (fun _ => 0)) (ncn := fun _ => 0) (nca := fun _ => 0) (qp := fun _ => 0) (qk := fun _ => 0) (qt := fun _ => 0)
  refine c_n (wc := [(qm, .inr (10, [.int 0, .null, .null, .null, .null, .null, .null, .null, .null, .int 0, .int 0, .int 0, .int 0, .int 0, .int 0, .int 0, .int 0, .int 0, .int 0, .long 0, .long 0, .long 0, .long 0, .long 0, .long 0, .long 0, .int 0, .int 0, .null, .int 0, .int 0, .int 0, .int 0, .int 0, .int 0, .int 0, .int 0, .int 0, .int 0, .int 0, .int 0, .null, .null, .null, .null, .null, .int 0, .int 0, .int 0, .null]))]) (wr := WX0 cI qX z) (ws2 := fun y => WX0 cI qX z ++ WM0 cI cJ qm y) (r_I (rm := { frames := 4, cells := 15, slots := 6448, locals := 110 }) hN hx hb hml hown hts (c_I_mm l D cI cJ qm 4 hM.1 hM.2.1 hM.2.2.1 hM.2.2.2.1 hM.2.2.2.2 _) 0 kt_644 kt_642 kt_643 kt_14 rfl ⟨by decide +kernel, by decide +kernel, by decide +kernel⟩ ⟨by decide, by decide⟩ hK hP hD [23] rfl (by decide) hl.1 rfl rfl (Nat.le_of_ble_eq_true rfl) dL_law_12 ⟨by decide, by decide⟩) hP hD hS hA [23] [0, 1, 2, 3, 4, 5, 6, 7, 8, 9, 10, 11, 12, 13, 14, 15, 16, 17, 18, 19, 20, 21, 22] [0, 1, 2, 3, 4, 5, 6, 7, 8, 9, 10, 11, 12, 13, 14, 15, 16, 17, 18, 19, 20, 21, 22, 23, 24, 25, 26, 27, 28, 29, 30, 31, 32, 33, 34, 35, 36, 37, 38] rfl rfl (by decide) (by decide) (fun _ => rfl) (by decide) (fun y H locs hP hD hS => ?_)
  refine W.widen (k := 39) (n := 11782) (by decide) (by decide) ?_
  have hP : va_P D vwCl (WX0 cI qX z ++ WM0 cI cJ qm y) H := hP
  have hD : va_D (AA s) (WX0 cI qX z ++ WM0 cI cJ qm y) := hD
  refine lv_astore_n hx hb dL_law_15 rfl hl (by decide) rfl (fun ls hl => ?_)
  refine lv_iconst (v := 1) hx hb dL_law_16 (by decide) ?_
  refine m_newJ (N := 1) (atype := .long) hx hb (hts _ kt_843) hK hP hD hS hA rfl (by decide) (by decide) (by decide) (by decide) (by decide) dL_law_17 (fun qo H hP hD hS => ?_)
  refine W.widen (k := 40) (n := 11783) (by decide) (by decide) ?_
  refine lv_astore_n hx hb dL_law_19 rfl hl (by decide) rfl (fun ls hl => ?_)
  refine lv_iconst (v := 0) hx hb dL_law_20 (by decide) ?_
  refine lv_istore hx hb dL_law_21 hl (by decide) rfl (fun ls hl => ?_)
  have hl : lv_has ls 7 [(4, .int (nI 0)), (3, .ref qo), (2, .ref qm), (1, .ref qX), (0, .ref b)] := hl
  have hP : va_P D vwCl (WD cI cJ qX qm qo z y vb0 ub0 0 0 0 0 (M_restart_13_pg z0 z0) z0 z0 (cp_ 1024 z0 z0) z0 z0 (fun _ => 0)) H := hP
  have hD : va_D (AA s) (WD cI cJ qX qm qo z y vb0 ub0 0 0 0 0 (M_restart_13_pg z0 z0) z0 z0 (cp_ 1024 z0 z0) z0 z0 (fun _ => 0)) := hD
  exact law_loop hfl hx hb hml hown hts hX hbl hK hxp hr hlk hL 1536 0 0 0 40 11783 H locs ls vb0 ub0 0 0 0 0 (M_restart_13_pg z0 z0) z0 z0 (cp_ 1024 z0 z0) z0 z0 (fun _ => 0) rfl (Nat.zero_le _) (by omega) (Nat.zero_le _) rfl rfl hP hD hS hl rfl rfl (BEGREL _ _ 0 (by decide) rfl (fun _ _ => rfl) (fun _ _ => rfl) (fun _ _ => rfl)) (pg_on (fun _ _ => rfl)) (fun _ _ => rfl) (fun _ _ => rfl)
