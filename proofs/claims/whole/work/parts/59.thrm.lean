/-! the methods that throw -/
set_option maxRecDepth 100000 in
theorem xc_I : Cond.classLink "StageHost" 19 xI ∈ gU := in_of (ws := [Cond.classLink "StageHost" 19 xI]) [483] (by rfl) (by rfl) _ (List.mem_singleton.mpr rfl)
set_option maxRecDepth 100000 in
theorem xi_I : Cond.initialized xI ∈ gU := in_of (ws := [Cond.initialized xI]) [18] (by rfl) (by rfl) _ (List.mem_singleton.mpr rfl)
set_option maxRecDepth 100000 in
theorem xn_I : Cond.instantiable xI 6 ∈ gU := in_of (ws := [Cond.instantiable xI 6]) [484] (by rfl) (by rfl) _ (List.mem_singleton.mpr rfl)
set_option maxRecDepth 100000 in
theorem xc_A : Cond.classLink "StageHost" 30 xA ∈ gU := in_of (ws := [Cond.classLink "StageHost" 30 xA]) [561] (by rfl) (by rfl) _ (List.mem_singleton.mpr rfl)
set_option maxRecDepth 100000 in
theorem xi_A : Cond.initialized xA ∈ gU := in_of (ws := [Cond.initialized xA]) [19] (by rfl) (by rfl) _ (List.mem_singleton.mpr rfl)
set_option maxRecDepth 100000 in
theorem xn_A : Cond.instantiable xA 6 ∈ gU := in_of (ws := [Cond.instantiable xA 6]) [562] (by rfl) (by rfl) _ (List.mem_singleton.mpr rfl)
set_option maxHeartbeats 4000000 in
theorem x_X_code (l : Launch) (hfl : l.flags = flags0) (D : va_G) (cI cJ : ClassId) (q_X q_mc : Nat) (k_ v_ : Int32) (hbad : k_ < 0 ∨ ¬ k_ < 1024) (sz : Nat) : MetX l yX9_code (.code yX9_code cX9_code 3 none :: gU) { frames := 6, cells := 1, slots := 6, locals := 100 } (va_Pc [.ref q_X, .int k_, .int v_] (fun U => mP D vwCl (tyS cI cJ) [(q_X, .inr (9, [.ref q_mc]))] sz U ∧ xP U)) xI := by
  refine m_goX (y := yX9_code) (cc := cX9_code) (ml := 3) (rt := none) (av := [.ref q_X, .int k_, .int v_]) (cs := [(q_X, .inr (9, [.ref q_mc]))]) hfl (by decide) (Nat.le_of_ble_eq_true rfl) ?_
  intro p e s m below meth c A ls hx hb hlk hml hemp htr hts hXP hown hA hP hK hD hS hl _
  have hl : lv_has ls 3 [(0, .ref q_X), (1, .int k_), (2, .int v_)] := hl
  have hend : W p l e { frames := 6, cells := 1, slots := 6, locals := 100 } s m [.ref q_X, .int k_, .int v_].toArray below meth c s.heap [] 0 0 (XQ below s xI) (F0 m 11 ls []) := e_x hx hb hlk hemp htr hts hown (hl.1.trans hml.symm) xo_I hXP.1 xc_I xi_I xn_I (by decide +kernel) dX9_code_11 dX9_code_14 dX9_code_15 dX9_code_18 ⟨by decide, by decide, by decide, by decide⟩
  refine lv_iload_n hx hb dX9_code_0 rfl (lv_at hl 1 rfl) ?_
  refine lv_if_lt (tgt := 11) hx hb dX9_code_1 rfl (fun _ => hend) (fun c1 => ?_)
  refine lv_iload_n hx hb dX9_code_4 rfl (lv_at hl 1 rfl) ?_
  refine lv_sipush (v := 1024) hx hb dX9_code_5 (by decide) ?_
  exact lv_icmp_lt (tgt := 19) hx hb dX9_code_8 rfl (fun c8 => absurd c8 (hbad.resolve_left c1)) (fun _ => hend)
set_option maxHeartbeats 4000000 in
theorem x_X_data (l : Launch) (hfl : l.flags = flags0) (D : va_G) (cI cJ : ClassId) (q_X q_mc : Nat) (k_ v_ : Int32) (hbad : k_ < 0 ∨ ¬ k_ < 1024) (sz : Nat) : MetX l yX9_data (.code yX9_data cX9_data 3 none :: gU) { frames := 6, cells := 1, slots := 6, locals := 100 } (va_Pc [.ref q_X, .int k_, .int v_] (fun U => mP D vwCl (tyS cI cJ) [(q_X, .inr (9, [.ref q_mc]))] sz U ∧ xP U)) xI := by
  refine m_goX (y := yX9_data) (cc := cX9_data) (ml := 3) (rt := none) (av := [.ref q_X, .int k_, .int v_]) (cs := [(q_X, .inr (9, [.ref q_mc]))]) hfl (by decide) (Nat.le_of_ble_eq_true rfl) ?_
  intro p e s m below meth c A ls hx hb hlk hml hemp htr hts hXP hown hA hP hK hD hS hl _
  have hl : lv_has ls 3 [(0, .ref q_X), (1, .int k_), (2, .int v_)] := hl
  have hend : W p l e { frames := 6, cells := 1, slots := 6, locals := 100 } s m [.ref q_X, .int k_, .int v_].toArray below meth c s.heap [] 0 0 (XQ below s xI) (F0 m 11 ls []) := e_x hx hb hlk hemp htr hts hown (hl.1.trans hml.symm) xo_I hXP.1 xc_I xi_I xn_I (by decide +kernel) dX9_data_11 dX9_data_14 dX9_data_15 dX9_data_18 ⟨by decide, by decide, by decide, by decide⟩
  refine lv_iload_n hx hb dX9_data_0 rfl (lv_at hl 1 rfl) ?_
  refine lv_if_lt (tgt := 11) hx hb dX9_data_1 rfl (fun _ => hend) (fun c1 => ?_)
  refine lv_iload_n hx hb dX9_data_4 rfl (lv_at hl 1 rfl) ?_
  refine lv_sipush (v := 1024) hx hb dX9_data_5 (by decide) ?_
  exact lv_icmp_lt (tgt := 19) hx hb dX9_data_8 rfl (fun c8 => absurd c8 (hbad.resolve_left c1)) (fun _ => hend)
set_option maxHeartbeats 4000000 in
theorem x_X_register (l : Launch) (hfl : l.flags = flags0) (D : va_G) (cI cJ : ClassId) (q_X q_mc : Nat) (k_ : Int32) (hbad : k_ < 0 ∨ ¬ k_ < 16) (sz : Nat) : MetX l yX9_register (.code yX9_register cX9_register 2 (some .int) :: gU) { frames := 6, cells := 1, slots := 6, locals := 100 } (va_Pc [.ref q_X, .int k_] (fun U => mP D vwCl (tyS cI cJ) [(q_X, .inr (9, [.ref q_mc]))] sz U ∧ xP U)) xI := by
  refine m_goX (y := yX9_register) (cc := cX9_register) (ml := 2) (rt := (some .int)) (av := [.ref q_X, .int k_]) (cs := [(q_X, .inr (9, [.ref q_mc]))]) hfl (by decide) (Nat.le_of_ble_eq_true rfl) ?_
  intro p e s m below meth c A ls hx hb hlk hml hemp htr hts hXP hown hA hP hK hD hS hl _
  have hl : lv_has ls 2 [(0, .ref q_X), (1, .int k_)] := hl
  have hend : W p l e { frames := 6, cells := 1, slots := 6, locals := 100 } s m [.ref q_X, .int k_].toArray below meth c s.heap [] 0 0 (XQ below s xI) (F0 m 10 ls []) := e_x hx hb hlk hemp htr hts hown (hl.1.trans hml.symm) xo_I hXP.1 xc_I xi_I xn_I (by decide +kernel) dX9_register_10 dX9_register_13 dX9_register_14 dX9_register_17 ⟨by decide, by decide, by decide, by decide⟩
  refine lv_iload_n hx hb dX9_register_0 rfl (lv_at hl 1 rfl) ?_
  refine lv_if_lt (tgt := 10) hx hb dX9_register_1 rfl (fun _ => hend) (fun c1 => ?_)
  refine lv_iload_n hx hb dX9_register_4 rfl (lv_at hl 1 rfl) ?_
  refine lv_bipush (v := 16) hx hb dX9_register_5 (by decide) ?_
  exact lv_icmp_lt (tgt := 18) hx hb dX9_register_7 rfl (fun c8 => absurd c8 (hbad.resolve_left c1)) (fun _ => hend)
set_option maxHeartbeats 4000000 in
theorem x_X_memory (l : Launch) (hfl : l.flags = flags0) (D : va_G) (cI cJ : ClassId) (q_X q_mc : Nat) (k_ : Int32) (hbad : k_ < 0 ∨ ¬ k_ < 1024) (sz : Nat) : MetX l yX9_memory (.code yX9_memory cX9_memory 2 (some .int) :: gU) { frames := 6, cells := 1, slots := 6, locals := 100 } (va_Pc [.ref q_X, .int k_] (fun U => mP D vwCl (tyS cI cJ) [(q_X, .inr (9, [.ref q_mc]))] sz U ∧ xP U)) xI := by
  refine m_goX (y := yX9_memory) (cc := cX9_memory) (ml := 2) (rt := (some .int)) (av := [.ref q_X, .int k_]) (cs := [(q_X, .inr (9, [.ref q_mc]))]) hfl (by decide) (Nat.le_of_ble_eq_true rfl) ?_
  intro p e s m below meth c A ls hx hb hlk hml hemp htr hts hXP hown hA hP hK hD hS hl _
  have hl : lv_has ls 2 [(0, .ref q_X), (1, .int k_)] := hl
  have hend : W p l e { frames := 6, cells := 1, slots := 6, locals := 100 } s m [.ref q_X, .int k_].toArray below meth c s.heap [] 0 0 (XQ below s xI) (F0 m 11 ls []) := e_x hx hb hlk hemp htr hts hown (hl.1.trans hml.symm) xo_I hXP.1 xc_I xi_I xn_I (by decide +kernel) dX9_memory_11 dX9_memory_14 dX9_memory_15 dX9_memory_18 ⟨by decide, by decide, by decide, by decide⟩
  refine lv_iload_n hx hb dX9_memory_0 rfl (lv_at hl 1 rfl) ?_
  refine lv_if_lt (tgt := 11) hx hb dX9_memory_1 rfl (fun _ => hend) (fun c1 => ?_)
  refine lv_iload_n hx hb dX9_memory_4 rfl (lv_at hl 1 rfl) ?_
  refine lv_sipush (v := 1024) hx hb dX9_memory_5 (by decide) ?_
  exact lv_icmp_lt (tgt := 19) hx hb dX9_memory_8 rfl (fun c8 => absurd c8 (hbad.resolve_left c1)) (fun _ => hend)
set_option maxHeartbeats 4000000 in
theorem x_X_run (l : Launch) (hfl : l.flags = flags0) (D : va_G) (cI cJ : ClassId) (q_X q_mc : Nat) (k_ : Int32) (hbad : k_ < 0 ∨ ¬ k_ ≤ 100000) (sz : Nat) : MetX l yX9_run (.code yX9_run cX9_run 2 (some .int) :: gU) { frames := 6, cells := 1, slots := 6, locals := 100 } (va_Pc [.ref q_X, .int k_] (fun U => mP D vwCl (tyS cI cJ) [(q_X, .inr (9, [.ref q_mc]))] sz U ∧ xP U)) xA := by
  refine m_goX (y := yX9_run) (cc := cX9_run) (ml := 2) (rt := (some .int)) (av := [.ref q_X, .int k_]) (cs := [(q_X, .inr (9, [.ref q_mc]))]) hfl (by decide) (Nat.le_of_ble_eq_true rfl) ?_
  intro p e s m below meth c A ls hx hb hlk hml hemp htr hts hXP hown hA hP hK hD hS hl _
  have hl : lv_has ls 2 [(0, .ref q_X), (1, .int k_)] := hl
  have hend : W p l e { frames := 6, cells := 1, slots := 6, locals := 100 } s m [.ref q_X, .int k_].toArray below meth c s.heap [] 0 0 (XQ below s xA) (F0 m 10 ls []) := e_x hx hb hlk hemp htr hts hown (hl.1.trans hml.symm) xo_A hXP.2 xc_A xi_A xn_A (by decide +kernel) dX9_run_10 dX9_run_13 dX9_run_14 dX9_run_17 ⟨by decide, by decide, by decide, by decide⟩
  refine lv_iload_n hx hb dX9_run_0 rfl (lv_at hl 1 rfl) ?_
  refine lv_if_lt (tgt := 10) hx hb dX9_run_1 rfl (fun _ => hend) (fun c1 => ?_)
  refine lv_iload_n hx hb dX9_run_4 rfl (lv_at hl 1 rfl) ?_
  refine lv_ldc (v := 100000) hx hb hown (hts _ kt_560) dX9_run_5 ?_
  exact lv_icmp_le (tgt := 18) hx hb dX9_run_7 rfl (fun c7 => absurd c7 (hbad.resolve_left c1)) (fun _ => hend)
set_option maxHeartbeats 4000000 in
theorem x_X_count (l : Launch) (hfl : l.flags = flags0) (D : va_G) (cI cJ : ClassId) (q_X q_mc q_gc q_gd q_sto q_rg q_o q_t q_pg q_w q_de q_sg q_g q_ln : Nat) (k_ mc_cycles mc_guessedRight mc_missed : Int32) (hbad : ¬ vp_in k_ 9) (sz : Nat) : MetX l yX9_count (.code yX9_count cX9_count 3 (some .int) :: gU) { frames := 6, cells := 1, slots := 6, locals := 100 } (va_Pc [.ref q_X, .int k_] (fun U => mP D vwCl (tyS cI cJ) [(q_X, .inr (9, [.ref q_mc])), (q_mc, .inr (4, [.ref q_gc, .ref q_gd, .ref q_sto, .ref q_rg, .ref q_o, .ref q_t, .int mc_cycles, .ref q_pg, .ref q_w, .ref q_de, .ref q_sg, .ref q_g, .ref q_ln, .int mc_guessedRight, .int mc_missed]))] sz U ∧ xP U)) xA := by
  refine m_goX (y := yX9_count) (cc := cX9_count) (ml := 3) (rt := (some .int)) (av := [.ref q_X, .int k_]) (cs := [(q_X, .inr (9, [.ref q_mc])), (q_mc, .inr (4, [.ref q_gc, .ref q_gd, .ref q_sto, .ref q_rg, .ref q_o, .ref q_t, .int mc_cycles, .ref q_pg, .ref q_w, .ref q_de, .ref q_sg, .ref q_g, .ref q_ln, .int mc_guessedRight, .int mc_missed]))]) hfl (by decide) (Nat.le_of_ble_eq_true rfl) ?_
  intro p e s m below meth c A ls hx hb hlk hml hemp htr hts hXP hown hA hP hK hD hS hl _
  have hl : lv_has ls 3 [(0, .ref q_X), (1, .int k_)] := hl
  refine lv_aload_n hx hb dX9_count_0 rfl (lv_at hl 0 rfl) ?_
  refine va_get (D := D) (ci := 9) (v := .ref q_mc) (C := RX9) (T := TX9) (N := 1) hx hb hts inX9 hown hK hP 0 rfl rfl 0 (by decide) (hts _ kt_467) (fun _ h => h) rfl dX9_count_1 ?_
  refine va_get (D := D) (ci := 4) (v := .ref q_t) (C := RX4) (T := TX4) (N := 15) hx hb hts inX4 hown hK hP 1 rfl rfl 5 (by decide) (hts _ kt_261) (fun _ h => h) rfl dX9_count_4 ?_
  refine lv_astore_n hx hb dX9_count_7 rfl hl (by decide) rfl (fun ls hl => ?_)
  have hl : lv_has ls 3 [(2, .ref q_t), (0, .ref q_X), (1, .int k_)] := hl
  refine lv_iload_n hx hb dX9_count_8 rfl (lv_at hl 2 rfl) ?_
  refine lv_tableOut (tgt := 114) hx hb dX9_count_9 ?_ rfl ?_
  · have h9 : ¬ (0 ≤ k_.toInt ∧ k_.toInt < (9 : Nat)) := fun z => hbad (vp_in_iff.mpr z)
    omega
  · exact e_x hx hb hlk hemp htr hts hown (hl.1.trans hml.symm) xo_A hXP.2 xc_A xi_A xn_A (by decide +kernel) dX9_count_114 dX9_count_117 dX9_count_118 dX9_count_121 ⟨by decide, by decide, by decide, by decide⟩
/-- what is kept: nothing is written -/
theorem k_kept (l : Launch) (D : va_G) (cI cJ : ClassId) (q_o q_fi : Nat) (o_total : Int32) (sz : Nat) : Met l yX5_kept (.code yX5_kept cX5_kept 1 (some .int) :: gU) { frames := 1, cells := 0, slots := 0, locals := 23 } (va_Pc [.ref q_o] (mP D vwCl (tyS cI cJ) [(q_o, .inr (5, [.ref q_fi, .int o_total]))] sz)) (fun _ st oc t => oc = .returned (some (.int (O_kept_7_min o_total))) ∧ t.heap = st.heap) 0 0 (fun _ => False) := by
  refine Met.ofW (cc := cX5_kept) (maxL := 1) (ret := some .int) (by decide) rfl ?_
  intro p e s m args below meth c s₁ B hml hv
  obtain ⟨rfl, hsz, hP, hK, hD0⟩ := hv
  have hts0 := atoms_spec (ws := .code yX5_kept cX5_kept 1 (some .int) :: gU) B.pre
  have hts : ∀ w ∈ gU, w.before [Value.ref q_o].toArray s = true := fun w h => hts0 w (List.mem_cons_of_mem _ h)
  have hl := lv_entry [Value.ref q_o] (n := 1) (Nat.le_of_ble_eq_true rfl)
  have hx := B.exec
  have hb := B.bytes
  have hr := B.returns
  have hlk := B.notSynchronized
  have hown : s.vm.findClass "StageHost$Outlet" = some m.cls := findClass_of_methodNamed B.named
  rw [lg_entry_eq]
  generalize (lg_sl [Value.ref q_o] ++ List.replicate (1 - (lg_sl [Value.ref q_o]).length) Slot.unset).toArray = ls at hl ⊢
  have hl : lv_has ls 1 [(0, .ref q_o)] := hl
  refine lv_aload_n hx hb dX5_kept_0 rfl (lv_at hl 0 rfl) ?_
  refine va_get (D := D) (ci := 5) (v := .int o_total) (C := RX5) (T := TX5) (N := 2) hx hb hts inX5 hown hK hP 0 rfl rfl 1 (by decide) (hts _ kt_42) (fun _ h => h) rfl dX5_kept_1 ?_
  refine lv_sipush (v := 1000) hx hb dX5_kept_4 (by decide) ?_
  refine va_mmin hx hb (hml.trans hl.1.symm) hown (hts _ kt_632) (hts _ kt_349) (hts _ kt_13) (hts _ kt_350) (by decide) (Nat.le_of_ble_eq_true rfl) (Nat.le_refl _) (Nat.le_refl _) dX5_kept_7 ?_
  refine W.eq (g2 := F0 m 10 ls [.int (O_kept_7_min o_total)]) rfl ?_
  exact W.iret hx hb hr (fun t ht _ => ⟨rfl, ht⟩) (fun q hq => by cases hq) dX5_kept_10 hlk
theorem c_k {p : Program} {l : Launch} {e : Env} {R : Room} {s : State} {m : MethodId} {args : Array Value} {below : List Frame} {meth : Method} {c : Code} {H : Heap} {locs : List Loc} {cells slots : Nat} {Q : State → Prop} {pc : Nat} {ls : Array Slot} {rest st0 : List Value} {r : Int32} (hr : va_Run p l e R s m args below meth c H locs cells slots 0 0 (F0 m pc ls st0) rest (fun st oc t => oc = .returned (some (.int r)) ∧ t.heap = st.heap) (fun _ => False))
    (kk : W p l e R s m args below meth c H locs cells slots Q (F0 m (pc + 3) ls (.int r :: rest))) : W p l e R s m args below meth c H locs cells slots Q (F0 m pc ls st0) := by
  intro T hT S
  obtain ⟨v, st₀, t, T', L, e0, S', hL, e1, e2, ⟨e3, e4⟩, go⟩ := hr T hT S
  cases e3
  have hnil : L = [] := List.eq_nil_iff_forall_not_mem.mpr (fun q hq => hL q hq)
  subst hnil
  rw [List.append_nil] at S'
  obtain ⟨t', s', hq⟩ := kk T' (by rw [e1, e4, e0]) S'
  exact ⟨t', go _ s', hq⟩
set_option maxHeartbeats 4000000 in
theorem x_X_output (l : Launch) (hfl : l.flags = flags0) (D : va_G) (cI cJ : ClassId) (q_X q_mc q_gc q_gd q_sto q_rg q_o q_t q_pg q_w q_de q_sg q_g q_ln q_fi : Nat) (k_ mc_cycles mc_guessedRight mc_missed o_total : Int32) (hbad : k_ < 0 ∨ ¬ k_ < (O_kept_7_min o_total)) (sz : Nat) : MetX l yX9_output (.code yX9_output cX9_output 2 (some .int) :: gU) { frames := 6, cells := 1, slots := 6, locals := 100 } (va_Pc [.ref q_X, .int k_] (fun U => mP D vwCl (tyS cI cJ) [(q_X, .inr (9, [.ref q_mc])), (q_mc, .inr (4, [.ref q_gc, .ref q_gd, .ref q_sto, .ref q_rg, .ref q_o, .ref q_t, .int mc_cycles, .ref q_pg, .ref q_w, .ref q_de, .ref q_sg, .ref q_g, .ref q_ln, .int mc_guessedRight, .int mc_missed])), (q_o, .inr (5, [.ref q_fi, .int o_total]))] sz U ∧ xP U)) xI := by
  refine m_goX (y := yX9_output) (cc := cX9_output) (ml := 2) (rt := (some .int)) (av := [.ref q_X, .int k_]) (cs := [(q_X, .inr (9, [.ref q_mc])), (q_mc, .inr (4, [.ref q_gc, .ref q_gd, .ref q_sto, .ref q_rg, .ref q_o, .ref q_t, .int mc_cycles, .ref q_pg, .ref q_w, .ref q_de, .ref q_sg, .ref q_g, .ref q_ln, .int mc_guessedRight, .int mc_missed])), (q_o, .inr (5, [.ref q_fi, .int o_total]))]) hfl (by decide) (Nat.le_of_ble_eq_true rfl) ?_
  intro p e s m below meth c A ls hx hb hlk hml hemp htr hts hXP hown hA hP hK hD hS hl _
  have hl : lv_has ls 2 [(0, .ref q_X), (1, .int k_)] := hl
  have hend : W p l e { frames := 6, cells := 1, slots := 6, locals := 100 } s m [.ref q_X, .int k_].toArray below meth c s.heap [] 0 0 (XQ below s xI) (F0 m 18 ls []) := e_x hx hb hlk hemp htr hts hown (hl.1.trans hml.symm) xo_I hXP.1 xc_I xi_I xn_I (by decide +kernel) dX9_output_18 dX9_output_21 dX9_output_22 dX9_output_25 ⟨by decide, by decide, by decide, by decide⟩
  refine lv_iload_n hx hb dX9_output_0 rfl (lv_at hl 1 rfl) ?_
  refine lv_if_lt (tgt := 18) hx hb dX9_output_1 rfl (fun _ => hend) (fun c1 => ?_)
  refine lv_iload_n hx hb dX9_output_4 rfl (lv_at hl 1 rfl) ?_
  refine lv_aload_n hx hb dX9_output_5 rfl (lv_at hl 0 rfl) ?_
  refine va_get (D := D) (ci := 9) (v := .ref q_mc) (C := RX9) (T := TX9) (N := 1) hx hb hts inX9 hown hK hP 0 rfl rfl 0 (by decide) (hts _ kt_467) (fun _ h => h) rfl dX9_output_6 ?_
  refine va_get (D := D) (ci := 4) (v := .ref q_o) (C := RX4) (T := TX4) (N := 15) hx hb hts inX4 hown hK hP 1 rfl rfl 4 (by decide) (hts _ kt_259) (fun _ h => h) rfl dX9_output_9 ?_
  refine c_k (r := O_kept_7_min o_total) (r_V (rm := { frames := 1, cells := 0, slots := 0, locals := 23 }) hx hb hml hown hts (k_kept l D cI cJ q_o q_fi o_total _) 0 kt_631 kt_628 kt_629 kt_630 kt_3 ⟨by decide +kernel, by decide +kernel, by decide +kernel⟩ ⟨by decide, by decide⟩ hK hP hD [2] rfl (by decide) 2 rfl rfl hl.1 rfl rfl (Nat.le_of_ble_eq_true rfl) dX9_output_12 ⟨by decide, by decide⟩) ?_
  exact lv_icmp_lt (tgt := 26) hx hb dX9_output_15 rfl (fun c15 => absurd c15 (hbad.resolve_left c1)) (fun _ => hend)

