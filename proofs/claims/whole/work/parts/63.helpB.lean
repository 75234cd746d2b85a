/-! the law's helpers where the class throws -/
theorem x_le {H H1 : Heap} (hk : ∀ q : Nat, q < H.size → H1[q]? = H[q]?) : H.size ≤ H1.size := by
  by_cases h : H.size ≤ H1.size
  · exact h
  · exfalso
    have h1 := hk H1.size (by omega)
    rw [Array.getElem?_eq_none (Nat.le_refl _), Array.getElem?_eq_getElem (by omega)] at h1
    cases h1
theorem x_kept {D : va_G} {cl : List vw_C} {ws : va_W} {H H1 : Heap} (hP : va_P D cl ws H) (hk : ∀ q : Nat, q < H.size → H1[q]? = H[q]?) : va_P D cl ws H1 := fun k q hq => (hP k q hq).kept (hk q.1 (hP k q hq).lt)
set_option maxHeartbeats 4000000 in
theorem b_H_code (l : Launch) (hfl : l.flags = flags0) (D : va_G) (cI cJ : ClassId) (q_X q_mc : Nat) (k_ v_ : Int32) (hbad : k_ < 0 ∨ ¬ k_ < 1024) (sz : Nat) : Met l yL_code (.codeWith yL_code cL_code 4 (some .int) [(0, 6, 9, 13)] :: gU) { frames := 7, cells := 1, slots := 6, locals := 130 } (va_Pc [.ref q_X, .int k_, .int v_] (fun U => mP D vwCl (tyS cI cJ) [(q_X, .inr (9, [.ref q_mc]))] sz U ∧ xP U)) (qI D vwCl (tyS cI cJ) [(q_X, .inr (9, [.ref q_mc]))] 1 (va_A [(q_X, .inr (9, [.ref q_mc]))] sz)) 1 6 (va_A [(q_X, .inr (9, [.ref q_mc]))] sz) := by
  refine m_goW (hh := [(0, 6, 9, 13)]) (y := yL_code) (cc := cL_code) (ml := 4) (rt := (some .int)) (av := [.ref q_X, .int k_, .int v_]) (cs := [(q_X, .inr (9, [.ref q_mc]))]) (fun A => qI D vwCl (tyS cI cJ) [(q_X, .inr (9, [.ref q_mc]))] 1 A) (by decide) (Nat.le_of_ble_eq_true rfl) ?_
  intro p e s m below meth c A ls htab hXP hx hb hr hlk hml hts hown _ hA hP hK hD hS hl _
  have hl : lv_has ls 4 [(0, .ref q_X), (1, .int k_), (2, .int v_)] := hl
  refine lv_aload_n hx hb dL_code_0 rfl (lv_at hl 0 rfl) ?_
  refine lv_iload_n hx hb dL_code_1 rfl (lv_at hl 1 rfl) ?_
  refine lv_iload_n hx hb dL_code_2 rfl (lv_at hl 2 rfl) ?_
  refine c_x (As := [.int k_, .int v_]) (wc := [(q_X, .inr (9, [.ref q_mc]))]) (rm := { frames := 6, cells := 1, slots := 6, locals := 100 }) hx hb hml hown hts htab ⟨by decide, by decide, by decide⟩ kt_478 (x_X_code l hfl D cI cJ q_X q_mc k_ v_ hbad _) 2 kt_482 kt_479 kt_480 kt_481 kt_1 ⟨by decide +kernel, by decide +kernel, by decide +kernel⟩ ⟨by decide, by decide⟩ ⟨rfl, rfl⟩ hK hP hD [0] rfl (by decide) 0 rfl rfl hl.1 rfl rfl (Nat.le_of_ble_eq_true rfl) dL_code_3 ⟨by decide, by decide⟩ (fun U hU hW => xP.move hW (fun q _ => by rw [hU]) hXP) (fun H1 a hk => ?_)
  have hP := x_kept hP hk
  have hS : va_S A s.heap H1 [] := ⟨x_le hk, fun q hq _ => hk q hq, fun z hz => by cases hz⟩
  refine lv_astore_n hx hb dL_code_9 rfl hl (by decide) rfl (fun ls hl => ?_)
  refine lv_iconst (v := 1) hx hb dL_code_10 (by decide) ?_
  exact e_i hx hb hr hlk hK hP hD hS rfl dL_code_11
set_option maxHeartbeats 4000000 in
theorem b_H_data (l : Launch) (hfl : l.flags = flags0) (D : va_G) (cI cJ : ClassId) (q_X q_mc : Nat) (k_ v_ : Int32) (hbad : k_ < 0 ∨ ¬ k_ < 1024) (sz : Nat) : Met l yL_data (.codeWith yL_data cL_data 4 (some .int) [(0, 6, 9, 13)] :: gU) { frames := 7, cells := 1, slots := 6, locals := 130 } (va_Pc [.ref q_X, .int k_, .int v_] (fun U => mP D vwCl (tyS cI cJ) [(q_X, .inr (9, [.ref q_mc]))] sz U ∧ xP U)) (qI D vwCl (tyS cI cJ) [(q_X, .inr (9, [.ref q_mc]))] 1 (va_A [(q_X, .inr (9, [.ref q_mc]))] sz)) 1 6 (va_A [(q_X, .inr (9, [.ref q_mc]))] sz) := by
  refine m_goW (hh := [(0, 6, 9, 13)]) (y := yL_data) (cc := cL_data) (ml := 4) (rt := (some .int)) (av := [.ref q_X, .int k_, .int v_]) (cs := [(q_X, .inr (9, [.ref q_mc]))]) (fun A => qI D vwCl (tyS cI cJ) [(q_X, .inr (9, [.ref q_mc]))] 1 A) (by decide) (Nat.le_of_ble_eq_true rfl) ?_
  intro p e s m below meth c A ls htab hXP hx hb hr hlk hml hts hown _ hA hP hK hD hS hl _
  have hl : lv_has ls 4 [(0, .ref q_X), (1, .int k_), (2, .int v_)] := hl
  refine lv_aload_n hx hb dL_data_0 rfl (lv_at hl 0 rfl) ?_
  refine lv_iload_n hx hb dL_data_1 rfl (lv_at hl 1 rfl) ?_
  refine lv_iload_n hx hb dL_data_2 rfl (lv_at hl 2 rfl) ?_
  refine c_x (As := [.int k_, .int v_]) (wc := [(q_X, .inr (9, [.ref q_mc]))]) (rm := { frames := 6, cells := 1, slots := 6, locals := 100 }) hx hb hml hown hts htab ⟨by decide, by decide, by decide⟩ kt_478 (x_X_data l hfl D cI cJ q_X q_mc k_ v_ hbad _) 2 kt_551 kt_548 kt_549 kt_550 kt_1 ⟨by decide +kernel, by decide +kernel, by decide +kernel⟩ ⟨by decide, by decide⟩ ⟨rfl, rfl⟩ hK hP hD [0] rfl (by decide) 0 rfl rfl hl.1 rfl rfl (Nat.le_of_ble_eq_true rfl) dL_data_3 ⟨by decide, by decide⟩ (fun U hU hW => xP.move hW (fun q _ => by rw [hU]) hXP) (fun H1 a hk => ?_)
  have hP := x_kept hP hk
  have hS : va_S A s.heap H1 [] := ⟨x_le hk, fun q hq _ => hk q hq, fun z hz => by cases hz⟩
  refine lv_astore_n hx hb dL_data_9 rfl hl (by decide) rfl (fun ls hl => ?_)
  refine lv_iconst (v := 1) hx hb dL_data_10 (by decide) ?_
  exact e_i hx hb hr hlk hK hP hD hS rfl dL_data_11
set_option maxHeartbeats 4000000 in
theorem b_H_register (l : Launch) (hfl : l.flags = flags0) (D : va_G) (cI cJ : ClassId) (q_X q_mc : Nat) (k_ : Int32) (q_out : Nat) (f_out : Nat → Int64) (hbad : k_ < 0 ∨ ¬ k_ < 16) (sz : Nat) : Met l yL_register (.codeWith yL_register cL_register 4 (some .int) [(0, 9, 12, 13)] :: gU) { frames := 7, cells := 1, slots := 6, locals := 130 } (va_Pc [.ref q_X, .int k_, .ref q_out] (fun U => mP D vwCl (tyS cI cJ) [(q_X, .inr (9, [.ref q_mc])), (q_out, .inl (cJ, 1, .inr (.inl f_out)))] sz U ∧ xP U)) (qI D vwCl (tyS cI cJ) [(q_X, .inr (9, [.ref q_mc])), (q_out, .inl (cJ, 1, .inr (.inl f_out)))] 1 (va_A [(q_X, .inr (9, [.ref q_mc])), (q_out, .inl (cJ, 1, .inr (.inl f_out)))] sz)) 1 6 (va_A [(q_X, .inr (9, [.ref q_mc])), (q_out, .inl (cJ, 1, .inr (.inl f_out)))] sz) := by
  refine m_goW (hh := [(0, 9, 12, 13)]) (y := yL_register) (cc := cL_register) (ml := 4) (rt := (some .int)) (av := [.ref q_X, .int k_, .ref q_out]) (cs := [(q_X, .inr (9, [.ref q_mc])), (q_out, .inl (cJ, 1, .inr (.inl f_out)))]) (fun A => qI D vwCl (tyS cI cJ) [(q_X, .inr (9, [.ref q_mc])), (q_out, .inl (cJ, 1, .inr (.inl f_out)))] 1 A) (by decide) (Nat.le_of_ble_eq_true rfl) ?_
  intro p e s m below meth c A ls htab hXP hx hb hr hlk hml hts hown _ hA hP hK hD hS hl _
  have hl : lv_has ls 4 [(0, .ref q_X), (1, .int k_), (2, .ref q_out)] := hl
  refine lv_aload_n hx hb dL_register_0 rfl (lv_at hl 2 rfl) ?_
  refine lv_iconst (v := 0) hx hb dL_register_1 (by decide) ?_
  refine lv_aload_n hx hb dL_register_2 rfl (lv_at hl 0 rfl) ?_
  refine lv_iload_n hx hb dL_register_3 rfl (lv_at hl 1 rfl) ?_
  refine c_x (As := [.int k_]) (wc := [(q_X, .inr (9, [.ref q_mc]))]) (rm := { frames := 6, cells := 1, slots := 6, locals := 100 }) hx hb hml hown hts htab ⟨by decide, by decide, by decide⟩ kt_478 (x_X_register l hfl D cI cJ q_X q_mc k_ hbad _) 1 kt_613 kt_610 kt_611 kt_612 kt_1 ⟨by decide +kernel, by decide +kernel, by decide +kernel⟩ ⟨by decide, by decide⟩ ⟨rfl, rfl⟩ hK hP hD [0] rfl (by decide) 0 rfl rfl hl.1 rfl rfl (Nat.le_of_ble_eq_true rfl) dL_register_4 ⟨by decide, by decide⟩ (fun U hU hW => xP.move hW (fun q _ => by rw [hU]) hXP) (fun H1 a hk => ?_)
  have hP := x_kept hP hk
  have hS : va_S A s.heap H1 [] := ⟨x_le hk, fun q hq _ => hk q hq, fun z hz => by cases hz⟩
  refine lv_astore_n hx hb dL_register_12 rfl hl (by decide) rfl (fun ls hl => ?_)
  refine lv_iconst (v := 1) hx hb dL_register_13 (by decide) ?_
  exact e_i hx hb hr hlk hK hP hD hS rfl dL_register_14
set_option maxHeartbeats 4000000 in
theorem b_H_memory (l : Launch) (hfl : l.flags = flags0) (D : va_G) (cI cJ : ClassId) (q_X q_mc : Nat) (k_ : Int32) (q_out : Nat) (f_out : Nat → Int64) (hbad : k_ < 0 ∨ ¬ k_ < 1024) (sz : Nat) : Met l yL_memory (.codeWith yL_memory cL_memory 4 (some .int) [(0, 9, 12, 13)] :: gU) { frames := 7, cells := 1, slots := 6, locals := 130 } (va_Pc [.ref q_X, .int k_, .ref q_out] (fun U => mP D vwCl (tyS cI cJ) [(q_X, .inr (9, [.ref q_mc])), (q_out, .inl (cJ, 1, .inr (.inl f_out)))] sz U ∧ xP U)) (qI D vwCl (tyS cI cJ) [(q_X, .inr (9, [.ref q_mc])), (q_out, .inl (cJ, 1, .inr (.inl f_out)))] 1 (va_A [(q_X, .inr (9, [.ref q_mc])), (q_out, .inl (cJ, 1, .inr (.inl f_out)))] sz)) 1 6 (va_A [(q_X, .inr (9, [.ref q_mc])), (q_out, .inl (cJ, 1, .inr (.inl f_out)))] sz) := by
  refine m_goW (hh := [(0, 9, 12, 13)]) (y := yL_memory) (cc := cL_memory) (ml := 4) (rt := (some .int)) (av := [.ref q_X, .int k_, .ref q_out]) (cs := [(q_X, .inr (9, [.ref q_mc])), (q_out, .inl (cJ, 1, .inr (.inl f_out)))]) (fun A => qI D vwCl (tyS cI cJ) [(q_X, .inr (9, [.ref q_mc])), (q_out, .inl (cJ, 1, .inr (.inl f_out)))] 1 A) (by decide) (Nat.le_of_ble_eq_true rfl) ?_
  intro p e s m below meth c A ls htab hXP hx hb hr hlk hml hts hown _ hA hP hK hD hS hl _
  have hl : lv_has ls 4 [(0, .ref q_X), (1, .int k_), (2, .ref q_out)] := hl
  refine lv_aload_n hx hb dL_memory_0 rfl (lv_at hl 2 rfl) ?_
  refine lv_iconst (v := 0) hx hb dL_memory_1 (by decide) ?_
  refine lv_aload_n hx hb dL_memory_2 rfl (lv_at hl 0 rfl) ?_
  refine lv_iload_n hx hb dL_memory_3 rfl (lv_at hl 1 rfl) ?_
  refine c_x (As := [.int k_]) (wc := [(q_X, .inr (9, [.ref q_mc]))]) (rm := { frames := 6, cells := 1, slots := 6, locals := 100 }) hx hb hml hown hts htab ⟨by decide, by decide, by decide⟩ kt_478 (x_X_memory l hfl D cI cJ q_X q_mc k_ hbad _) 1 kt_620 kt_617 kt_618 kt_619 kt_1 ⟨by decide +kernel, by decide +kernel, by decide +kernel⟩ ⟨by decide, by decide⟩ ⟨rfl, rfl⟩ hK hP hD [0] rfl (by decide) 0 rfl rfl hl.1 rfl rfl (Nat.le_of_ble_eq_true rfl) dL_memory_4 ⟨by decide, by decide⟩ (fun U hU hW => xP.move hW (fun q _ => by rw [hU]) hXP) (fun H1 a hk => ?_)
  have hP := x_kept hP hk
  have hS : va_S A s.heap H1 [] := ⟨x_le hk, fun q hq _ => hk q hq, fun z hz => by cases hz⟩
  refine lv_astore_n hx hb dL_memory_12 rfl hl (by decide) rfl (fun ls hl => ?_)
  refine lv_iconst (v := 1) hx hb dL_memory_13 (by decide) ?_
  exact e_i hx hb hr hlk hK hP hD hS rfl dL_memory_14
set_option maxHeartbeats 4000000 in
theorem b_H_run (l : Launch) (hfl : l.flags = flags0) (D : va_G) (cI cJ : ClassId) (q_X q_mc : Nat) (k_ : Int32) (q_out : Nat) (f_out : Nat → Int64) (hbad : k_ < 0 ∨ ¬ k_ ≤ 100000) (sz : Nat) : Met l yL_run (.codeWith yL_run cL_run 4 (some .int) [(0, 9, 12, 22)] :: gU) { frames := 7, cells := 1, slots := 6, locals := 130 } (va_Pc [.ref q_X, .int k_, .ref q_out] (fun U => mP D vwCl (tyS cI cJ) [(q_X, .inr (9, [.ref q_mc])), (q_out, .inl (cJ, 1, .inr (.inl f_out)))] sz U ∧ xP U)) (qI D vwCl (tyS cI cJ) [(q_X, .inr (9, [.ref q_mc])), (q_out, .inl (cJ, 1, .inr (.inl f_out)))] 1 (va_A [(q_X, .inr (9, [.ref q_mc])), (q_out, .inl (cJ, 1, .inr (.inl f_out)))] sz)) 1 6 (va_A [(q_X, .inr (9, [.ref q_mc])), (q_out, .inl (cJ, 1, .inr (.inl f_out)))] sz) := by
  refine m_goW (hh := [(0, 9, 12, 22)]) (y := yL_run) (cc := cL_run) (ml := 4) (rt := (some .int)) (av := [.ref q_X, .int k_, .ref q_out]) (cs := [(q_X, .inr (9, [.ref q_mc])), (q_out, .inl (cJ, 1, .inr (.inl f_out)))]) (fun A => qI D vwCl (tyS cI cJ) [(q_X, .inr (9, [.ref q_mc])), (q_out, .inl (cJ, 1, .inr (.inl f_out)))] 1 A) (by decide) (Nat.le_of_ble_eq_true rfl) ?_
  intro p e s m below meth c A ls htab hXP hx hb hr hlk hml hts hown _ hA hP hK hD hS hl _
  have hl : lv_has ls 4 [(0, .ref q_X), (1, .int k_), (2, .ref q_out)] := hl
  refine lv_aload_n hx hb dL_run_0 rfl (lv_at hl 2 rfl) ?_
  refine lv_iconst (v := 0) hx hb dL_run_1 (by decide) ?_
  refine lv_aload_n hx hb dL_run_2 rfl (lv_at hl 0 rfl) ?_
  refine lv_iload_n hx hb dL_run_3 rfl (lv_at hl 1 rfl) ?_
  refine c_x (As := [.int k_]) (wc := [(q_X, .inr (9, [.ref q_mc]))]) (rm := { frames := 6, cells := 1, slots := 6, locals := 100 }) hx hb hml hown hts htab ⟨by decide, by decide, by decide⟩ kt_555 (x_X_run l hfl D cI cJ q_X q_mc k_ hbad _) 1 kt_559 kt_556 kt_557 kt_558 kt_1 ⟨by decide +kernel, by decide +kernel, by decide +kernel⟩ ⟨by decide, by decide⟩ ⟨rfl, rfl⟩ hK hP hD [0] rfl (by decide) 0 rfl rfl hl.1 rfl rfl (Nat.le_of_ble_eq_true rfl) dL_run_4 ⟨by decide, by decide⟩ (fun U hU hW => xP.move hW (fun q _ => by rw [hU]) hXP) (fun H1 a hk => ?_)
  have hP := x_kept hP hk
  have hS : va_S A s.heap H1 [] := ⟨x_le hk, fun q hq _ => hk q hq, fun z hz => by cases hz⟩
  refine lv_astore_n hx hb dL_run_12 rfl hl (by decide) rfl (fun ls hl => ?_)
  refine lv_iconst (v := 1) hx hb dL_run_13 (by decide) ?_
  exact e_i hx hb hr hlk hK hP hD hS rfl dL_run_14
set_option maxHeartbeats 4000000 in
theorem b_H_count (l : Launch) (hfl : l.flags = flags0) (D : va_G) (cI cJ : ClassId) (q_X q_mc q_gc q_gd q_sto q_rg q_o q_t q_pg q_w q_de q_sg q_g q_ln : Nat) (k_ mc_cycles mc_guessedRight mc_missed : Int32) (q_out : Nat) (f_out : Nat → Int64) (hbad : ¬ vp_in k_ 9) (sz : Nat) : Met l yL_count (.codeWith yL_count cL_count 4 (some .int) [(0, 9, 12, 22)] :: gU) { frames := 7, cells := 1, slots := 6, locals := 130 } (va_Pc [.ref q_X, .int k_, .ref q_out] (fun U => mP D vwCl (tyS cI cJ) [(q_X, .inr (9, [.ref q_mc])), (q_mc, .inr (4, [.ref q_gc, .ref q_gd, .ref q_sto, .ref q_rg, .ref q_o, .ref q_t, .int mc_cycles, .ref q_pg, .ref q_w, .ref q_de, .ref q_sg, .ref q_g, .ref q_ln, .int mc_guessedRight, .int mc_missed])), (q_out, .inl (cJ, 1, .inr (.inl f_out)))] sz U ∧ xP U)) (qI D vwCl (tyS cI cJ) [(q_X, .inr (9, [.ref q_mc])), (q_mc, .inr (4, [.ref q_gc, .ref q_gd, .ref q_sto, .ref q_rg, .ref q_o, .ref q_t, .int mc_cycles, .ref q_pg, .ref q_w, .ref q_de, .ref q_sg, .ref q_g, .ref q_ln, .int mc_guessedRight, .int mc_missed])), (q_out, .inl (cJ, 1, .inr (.inl f_out)))] 1 (va_A [(q_X, .inr (9, [.ref q_mc])), (q_mc, .inr (4, [.ref q_gc, .ref q_gd, .ref q_sto, .ref q_rg, .ref q_o, .ref q_t, .int mc_cycles, .ref q_pg, .ref q_w, .ref q_de, .ref q_sg, .ref q_g, .ref q_ln, .int mc_guessedRight, .int mc_missed])), (q_out, .inl (cJ, 1, .inr (.inl f_out)))] sz)) 1 6 (va_A [(q_X, .inr (9, [.ref q_mc])), (q_mc, .inr (4, [.ref q_gc, .ref q_gd, .ref q_sto, .ref q_rg, .ref q_o, .ref q_t, .int mc_cycles, .ref q_pg, .ref q_w, .ref q_de, .ref q_sg, .ref q_g, .ref q_ln, .int mc_guessedRight, .int mc_missed])), (q_out, .inl (cJ, 1, .inr (.inl f_out)))] sz) := by
  refine m_goW (hh := [(0, 9, 12, 22)]) (y := yL_count) (cc := cL_count) (ml := 4) (rt := (some .int)) (av := [.ref q_X, .int k_, .ref q_out]) (cs := [(q_X, .inr (9, [.ref q_mc])), (q_mc, .inr (4, [.ref q_gc, .ref q_gd, .ref q_sto, .ref q_rg, .ref q_o, .ref q_t, .int mc_cycles, .ref q_pg, .ref q_w, .ref q_de, .ref q_sg, .ref q_g, .ref q_ln, .int mc_guessedRight, .int mc_missed])), (q_out, .inl (cJ, 1, .inr (.inl f_out)))]) (fun A => qI D vwCl (tyS cI cJ) [(q_X, .inr (9, [.ref q_mc])), (q_mc, .inr (4, [.ref q_gc, .ref q_gd, .ref q_sto, .ref q_rg, .ref q_o, .ref q_t, .int mc_cycles, .ref q_pg, .ref q_w, .ref q_de, .ref q_sg, .ref q_g, .ref q_ln, .int mc_guessedRight, .int mc_missed])), (q_out, .inl (cJ, 1, .inr (.inl f_out)))] 1 A) (by decide) (Nat.le_of_ble_eq_true rfl) ?_
  intro p e s m below meth c A ls htab hXP hx hb hr hlk hml hts hown _ hA hP hK hD hS hl _
  have hl : lv_has ls 4 [(0, .ref q_X), (1, .int k_), (2, .ref q_out)] := hl
  refine lv_aload_n hx hb dL_count_0 rfl (lv_at hl 2 rfl) ?_
  refine lv_iconst (v := 0) hx hb dL_count_1 (by decide) ?_
  refine lv_aload_n hx hb dL_count_2 rfl (lv_at hl 0 rfl) ?_
  refine lv_iload_n hx hb dL_count_3 rfl (lv_at hl 1 rfl) ?_
  refine c_x (As := [.int k_]) (wc := [(q_X, .inr (9, [.ref q_mc])), (q_mc, .inr (4, [.ref q_gc, .ref q_gd, .ref q_sto, .ref q_rg, .ref q_o, .ref q_t, .int mc_cycles, .ref q_pg, .ref q_w, .ref q_de, .ref q_sg, .ref q_g, .ref q_ln, .int mc_guessedRight, .int mc_missed]))]) (rm := { frames := 6, cells := 1, slots := 6, locals := 100 }) hx hb hml hown hts htab ⟨by decide, by decide, by decide⟩ kt_555 (x_X_count l hfl D cI cJ q_X q_mc q_gc q_gd q_sto q_rg q_o q_t q_pg q_w q_de q_sg q_g q_ln k_ mc_cycles mc_guessedRight mc_missed hbad _) 1 kt_639 kt_636 kt_637 kt_638 kt_1 ⟨by decide +kernel, by decide +kernel, by decide +kernel⟩ ⟨by decide, by decide⟩ ⟨rfl, rfl⟩ hK hP hD [0, 1] rfl (by decide) 0 rfl rfl hl.1 rfl rfl (Nat.le_of_ble_eq_true rfl) dL_count_4 ⟨by decide, by decide⟩ (fun U hU hW => xP.move hW (fun q _ => by rw [hU]) hXP) (fun H1 a hk => ?_)
  have hP := x_kept hP hk
  have hS : va_S A s.heap H1 [] := ⟨x_le hk, fun q hq _ => hk q hq, fun z hz => by cases hz⟩
  refine lv_astore_n hx hb dL_count_12 rfl hl (by decide) rfl (fun ls hl => ?_)
  refine lv_iconst (v := 1) hx hb dL_count_13 (by decide) ?_
  exact e_i hx hb hr hlk hK hP hD hS rfl dL_count_14
set_option maxHeartbeats 4000000 in
theorem b_H_output (l : Launch) (hfl : l.flags = flags0) (D : va_G) (cI cJ : ClassId) (q_X q_mc q_gc q_gd q_sto q_rg q_o q_t q_pg q_w q_de q_sg q_g q_ln q_fi : Nat) (k_ mc_cycles mc_guessedRight mc_missed o_total : Int32) (q_out : Nat) (f_out : Nat → Int64) (hbad : k_ < 0 ∨ ¬ k_ < (O_kept_7_min o_total)) (sz : Nat) : Met l yL_output (.codeWith yL_output cL_output 4 (some .int) [(0, 9, 12, 13)] :: gU) { frames := 7, cells := 1, slots := 6, locals := 130 } (va_Pc [.ref q_X, .int k_, .ref q_out] (fun U => mP D vwCl (tyS cI cJ) [(q_X, .inr (9, [.ref q_mc])), (q_mc, .inr (4, [.ref q_gc, .ref q_gd, .ref q_sto, .ref q_rg, .ref q_o, .ref q_t, .int mc_cycles, .ref q_pg, .ref q_w, .ref q_de, .ref q_sg, .ref q_g, .ref q_ln, .int mc_guessedRight, .int mc_missed])), (q_o, .inr (5, [.ref q_fi, .int o_total])), (q_out, .inl (cJ, 1, .inr (.inl f_out)))] sz U ∧ xP U)) (qI D vwCl (tyS cI cJ) [(q_X, .inr (9, [.ref q_mc])), (q_mc, .inr (4, [.ref q_gc, .ref q_gd, .ref q_sto, .ref q_rg, .ref q_o, .ref q_t, .int mc_cycles, .ref q_pg, .ref q_w, .ref q_de, .ref q_sg, .ref q_g, .ref q_ln, .int mc_guessedRight, .int mc_missed])), (q_o, .inr (5, [.ref q_fi, .int o_total])), (q_out, .inl (cJ, 1, .inr (.inl f_out)))] 1 (va_A [(q_X, .inr (9, [.ref q_mc])), (q_mc, .inr (4, [.ref q_gc, .ref q_gd, .ref q_sto, .ref q_rg, .ref q_o, .ref q_t, .int mc_cycles, .ref q_pg, .ref q_w, .ref q_de, .ref q_sg, .ref q_g, .ref q_ln, .int mc_guessedRight, .int mc_missed])), (q_o, .inr (5, [.ref q_fi, .int o_total])), (q_out, .inl (cJ, 1, .inr (.inl f_out)))] sz)) 1 6 (va_A [(q_X, .inr (9, [.ref q_mc])), (q_mc, .inr (4, [.ref q_gc, .ref q_gd, .ref q_sto, .ref q_rg, .ref q_o, .ref q_t, .int mc_cycles, .ref q_pg, .ref q_w, .ref q_de, .ref q_sg, .ref q_g, .ref q_ln, .int mc_guessedRight, .int mc_missed])), (q_o, .inr (5, [.ref q_fi, .int o_total])), (q_out, .inl (cJ, 1, .inr (.inl f_out)))] sz) := by
  refine m_goW (hh := [(0, 9, 12, 13)]) (y := yL_output) (cc := cL_output) (ml := 4) (rt := (some .int)) (av := [.ref q_X, .int k_, .ref q_out]) (cs := [(q_X, .inr (9, [.ref q_mc])), (q_mc, .inr (4, [.ref q_gc, .ref q_gd, .ref q_sto, .ref q_rg, .ref q_o, .ref q_t, .int mc_cycles, .ref q_pg, .ref q_w, .ref q_de, .ref q_sg, .ref q_g, .ref q_ln, .int mc_guessedRight, .int mc_missed])), (q_o, .inr (5, [.ref q_fi, .int o_total])), (q_out, .inl (cJ, 1, .inr (.inl f_out)))]) (fun A => qI D vwCl (tyS cI cJ) [(q_X, .inr (9, [.ref q_mc])), (q_mc, .inr (4, [.ref q_gc, .ref q_gd, .ref q_sto, .ref q_rg, .ref q_o, .ref q_t, .int mc_cycles, .ref q_pg, .ref q_w, .ref q_de, .ref q_sg, .ref q_g, .ref q_ln, .int mc_guessedRight, .int mc_missed])), (q_o, .inr (5, [.ref q_fi, .int o_total])), (q_out, .inl (cJ, 1, .inr (.inl f_out)))] 1 A) (by decide) (Nat.le_of_ble_eq_true rfl) ?_
  intro p e s m below meth c A ls htab hXP hx hb hr hlk hml hts hown _ hA hP hK hD hS hl _
  have hl : lv_has ls 4 [(0, .ref q_X), (1, .int k_), (2, .ref q_out)] := hl
  refine lv_aload_n hx hb dL_output_0 rfl (lv_at hl 2 rfl) ?_
  refine lv_iconst (v := 0) hx hb dL_output_1 (by decide) ?_
  refine lv_aload_n hx hb dL_output_2 rfl (lv_at hl 0 rfl) ?_
  refine lv_iload_n hx hb dL_output_3 rfl (lv_at hl 1 rfl) ?_
  refine c_x (As := [.int k_]) (wc := [(q_X, .inr (9, [.ref q_mc])), (q_mc, .inr (4, [.ref q_gc, .ref q_gd, .ref q_sto, .ref q_rg, .ref q_o, .ref q_t, .int mc_cycles, .ref q_pg, .ref q_w, .ref q_de, .ref q_sg, .ref q_g, .ref q_ln, .int mc_guessedRight, .int mc_missed])), (q_o, .inr (5, [.ref q_fi, .int o_total]))]) (rm := { frames := 6, cells := 1, slots := 6, locals := 100 }) hx hb hml hown hts htab ⟨by decide, by decide, by decide⟩ kt_478 (x_X_output l hfl D cI cJ q_X q_mc q_gc q_gd q_sto q_rg q_o q_t q_pg q_w q_de q_sg q_g q_ln q_fi k_ mc_cycles mc_guessedRight mc_missed o_total hbad _) 1 kt_627 kt_624 kt_625 kt_626 kt_1 ⟨by decide +kernel, by decide +kernel, by decide +kernel⟩ ⟨by decide, by decide⟩ ⟨rfl, rfl⟩ hK hP hD [0, 1, 2] rfl (by decide) 0 rfl rfl hl.1 rfl rfl (Nat.le_of_ble_eq_true rfl) dL_output_4 ⟨by decide, by decide⟩ (fun U hU hW => xP.move hW (fun q _ => by rw [hU]) hXP) (fun H1 a hk => ?_)
  have hP := x_kept hP hk
  have hS : va_S A s.heap H1 [] := ⟨x_le hk, fun q hq _ => hk q hq, fun z hz => by cases hz⟩
  refine lv_astore_n hx hb dL_output_12 rfl hl (by decide) rfl (fun ls hl => ?_)
  refine lv_iconst (v := 1) hx hb dL_output_13 (by decide) ?_
  exact e_i hx hb hr hlk hK hP hD hS rfl dL_output_14
