def S_goOn_18_s0 (gr_ : Int32) (sg_xe : Int32) (sg_d : Int32) : Int32 := (if gr_ = 0 then (sg_xe + 1) else sg_d)
set_option maxHeartbeats 4000000 in
set_option maxRecDepth 100000 in
theorem c_S_goOn (l : Launch) (D : va_G) (cI cJ : ClassId) (q_sg : Nat) (q_rd : Nat) (gr_ : Int32) (sg_f : Int32) (sg_xe : Int32) (sg_me : Int32) (sg_w : Int32) (sg_d : Int32) (sg_x : Int32) (sg_m : Int32) (sz : Nat) : Met l yX6_goOn (.code yX6_goOn cX6_goOn 2 none :: gU) { frames := 0, cells := 0, slots := 0, locals := 0 } (va_Pc [.ref q_sg, .int gr_] (mP D vwCl (tyS cI cJ) [(q_sg, .inr (6, [.int sg_f, .int sg_xe, .int sg_me, .int sg_w, .int sg_d, .int sg_x, .int sg_m, .ref q_rd]))] sz)) (qV D vwCl (tyS cI cJ) [(q_sg, .inr (6, [.int (S_goOn_18_s0 gr_ sg_xe sg_d), .int sg_xe, .int sg_me, .int sg_w, .int sg_d, .int sg_x, .int sg_m, .ref q_rd]))] (va_A [(q_sg, .inr (6, [.int sg_f, .int sg_xe, .int sg_me, .int sg_w, .int sg_d, .int sg_x, .int sg_m, .ref q_rd]))] sz)) 0 0 (va_A [(q_sg, .inr (6, [.int sg_f, .int sg_xe, .int sg_me, .int sg_w, .int sg_d, .int sg_x, .int sg_m, .ref q_rd]))] sz) := by
  refine m_go (y := yX6_goOn) (cc := cX6_goOn) (ml := 2) (rt := none) (av := [.ref q_sg, .int gr_]) (cs := [(q_sg, .inr (6, [.int sg_f, .int sg_xe, .int sg_me, .int sg_w, .int sg_d, .int sg_x, .int sg_m, .ref q_rd]))]) (fun A => qV D vwCl (tyS cI cJ) [(q_sg, .inr (6, [.int (S_goOn_18_s0 gr_ sg_xe sg_d), .int sg_xe, .int sg_me, .int sg_w, .int sg_d, .int sg_x, .int sg_m, .ref q_rd]))] A) (by decide) (Nat.le_of_ble_eq_true rfl) ?_
  intro p e s m below meth c A ls hx hb hr hlk hml hts hown _ hA hP hK hD hS hl _
  have hl : lv_has ls 2 [(0, .ref q_sg), (1, .int gr_)] := hl
  refine lv_aload_n hx hb dX6_goOn_0 rfl (lv_at hl 0 rfl) ?_
  refine lv_iload_n hx hb dX6_goOn_1 rfl (lv_at hl 1 rfl) ?_
  refine w_j (J := 18) (st := [.int (S_goOn_18_s0 gr_ sg_xe sg_d), .ref q_sg]) (fun H locs ls => va_P D vwCl [(q_sg, .inr (6, [.int sg_f, .int sg_xe, .int sg_me, .int sg_w, .int sg_d, .int sg_x, .int sg_m, .ref q_rd]))] H ∧ va_D A [(q_sg, .inr (6, [.int sg_f, .int sg_xe, .int sg_me, .int sg_w, .int sg_d, .int sg_x, .int sg_m, .ref q_rd]))] ∧ va_S A s.heap H locs ∧ lv_has ls 2 [(0, .ref q_sg), (1, .int gr_)]) (fun H locs ls hJ => ?_) (fun k18 => ?_)
  · obtain ⟨hP, hD, hS, hl⟩ := hJ
    refine va_put (D := D) (ci := 6) (v := .int (S_goOn_18_s0 gr_ sg_xe sg_d)) (ty := .int) (C := RX6) (T := TX6) (N := 8) hx hb hts inX6 tyX6 tyX6_ok nmX6 hown hK hP hD hS 0 rfl rfl 0 (by decide) (hts _ kt_166) (fun _ h => h) rfl (by decide +kernel) rfl rfl (Nat.le_of_ble_eq_true rfl) dX6_goOn_18 (fun H locs hP hD hS => ?_)
    have hP : va_P D vwCl [(q_sg, .inr (6, [.int (S_goOn_18_s0 gr_ sg_xe sg_d), .int sg_xe, .int sg_me, .int sg_w, .int sg_d, .int sg_x, .int sg_m, .ref q_rd]))] H := hP
    have hD : va_D A [(q_sg, .inr (6, [.int (S_goOn_18_s0 gr_ sg_xe sg_d), .int sg_xe, .int sg_me, .int sg_w, .int sg_d, .int sg_x, .int sg_m, .ref q_rd]))] := hD
    exact e_v hx hb hr hlk hK hP hD hS dX6_goOn_21
  · refine lv_if_eq (tgt := 12) hx hb dX6_goOn_2 rfl (fun c2 => ?_) (fun c2 => ?_)
    · refine lv_aload_n hx hb dX6_goOn_12 rfl (lv_at hl 0 rfl) ?_
      refine va_get (D := D) (ci := 6) (v := .int sg_xe) (C := RX6) (T := TX6) (N := 8) hx hb hts inX6 hown hK hP 0 rfl rfl 1 (by decide) (hts _ kt_168) (fun _ h => h) rfl dX6_goOn_13 ?_
      refine lv_iconst (v := 1) hx hb dX6_goOn_16 (by decide) ?_
      refine lv_iadd hx hb dX6_goOn_17 ?_
      have e0 : (S_goOn_18_s0 gr_ sg_xe sg_d) = (sg_xe + 1) := (if_pos c2)
      have k18 := k18 _ _ _ ⟨hP, hD, hS, hl⟩
      refine W.eq (g2 := F0 m 18 ls [.int (sg_xe + 1), .ref q_sg]) rfl ?_
      exact W.eq (by rw [e0]) k18
    · refine lv_aload_n hx hb dX6_goOn_5 rfl (lv_at hl 0 rfl) ?_
      refine va_get (D := D) (ci := 6) (v := .int sg_d) (C := RX6) (T := TX6) (N := 8) hx hb hts inX6 hown hK hP 0 rfl rfl 4 (by decide) (hts _ kt_174) (fun _ h => h) rfl dX6_goOn_6 ?_
      refine lv_goto (tgt := 18) hx hb dX6_goOn_9 rfl ?_
      have e0 : (S_goOn_18_s0 gr_ sg_xe sg_d) = sg_d := (if_neg c2)
      have k18 := k18 _ _ _ ⟨hP, hD, hS, hl⟩
      refine W.eq (g2 := F0 m 18 ls [.int sg_d, .ref q_sg]) rfl ?_
      exact W.eq (by rw [e0]) k18
def S_pass_11_max (sg_f : Int32) (sg_x : Int32) : Int32 := (if (sg_f + 1) < sg_x then sg_x else (sg_f + 1))
def S_pass_28_max (sg_f : Int32) (sg_x : Int32) (sg_m : Int32) : Int32 := (if ((S_pass_11_max sg_f sg_x) + 1) < sg_m then sg_m else ((S_pass_11_max sg_f sg_x) + 1))
def S_pass_57_max (sg_f : Int32) (sg_x : Int32) (sg_m : Int32) (w_a : Int32) (f_rd : Nat → Int32) : Int32 := (if (S_pass_28_max sg_f sg_x sg_m) < ((f_rd (Int32.toNatClampNeg w_a)) + 1) then ((f_rd (Int32.toNatClampNeg w_a)) + 1) else (S_pass_28_max sg_f sg_x sg_m))
def S_pass_63_sg_x (sg_f : Int32) (sg_x : Int32) (sg_m : Int32) (w_op : Int32) (w_a : Int32) (f_rd : Nat → Int32) : Int32 := (if (W_readsA_51_s0 w_op) = 0 then (S_pass_28_max sg_f sg_x sg_m) else (S_pass_57_max sg_f sg_x sg_m w_a f_rd))
def S_pass_86_max (sg_f : Int32) (sg_x : Int32) (sg_m : Int32) (w_op : Int32) (w_a : Int32) (w_b : Int32) (f_rd : Nat → Int32) : Int32 := (if (S_pass_63_sg_x sg_f sg_x sg_m w_op w_a f_rd) < ((f_rd (Int32.toNatClampNeg w_b)) + 1) then ((f_rd (Int32.toNatClampNeg w_b)) + 1) else (S_pass_63_sg_x sg_f sg_x sg_m w_op w_a f_rd))
def S_pass_92_sg_x (sg_f : Int32) (sg_x : Int32) (sg_m : Int32) (w_op : Int32) (w_a : Int32) (w_b : Int32) (f_rd : Nat → Int32) : Int32 := (if (W_readsB_19_s0 w_op) = 0 then (S_pass_63_sg_x sg_f sg_x sg_m w_op w_a f_rd) else (S_pass_86_max sg_f sg_x sg_m w_op w_a w_b f_rd))
def S_pass_104_xe (sg_f : Int32) (sg_x : Int32) (sg_m : Int32) (w_op : Int32) (w_a : Int32) (w_b : Int32) (f_rd : Nat → Int32) : Int32 := (((S_pass_92_sg_x sg_f sg_x sg_m w_op w_a w_b f_rd) + (W_cyclesInX_ret w_op)) - 1)
def S_pass_118_max (sg_f : Int32) (sg_w : Int32) (sg_x : Int32) (sg_m : Int32) (w_op : Int32) (w_a : Int32) (w_b : Int32) (f_rd : Nat → Int32) : Int32 := (if ((S_pass_104_xe sg_f sg_x sg_m w_op w_a w_b f_rd) + 1) < sg_w then sg_w else ((S_pass_104_xe sg_f sg_x sg_m w_op w_a w_b f_rd) + 1))
def S_pass_149_max (sg_f : Int32) (sg_w : Int32) (sg_x : Int32) (sg_m : Int32) (w_op : Int32) (w_a : Int32) (w_b : Int32) (f_rd : Nat → Int32) : Int32 := (if (S_pass_118_max sg_f sg_w sg_x sg_m w_op w_a w_b f_rd) < ((f_rd (Int32.toNatClampNeg w_b)) + 1) then ((f_rd (Int32.toNatClampNeg w_b)) + 1) else (S_pass_118_max sg_f sg_w sg_x sg_m w_op w_a w_b f_rd))
def S_pass_155_sg_m (sg_f : Int32) (sg_w : Int32) (sg_x : Int32) (sg_m : Int32) (w_op : Int32) (w_a : Int32) (w_b : Int32) (f_rd : Nat → Int32) : Int32 := (if w_op = 33 then (S_pass_149_max sg_f sg_w sg_x sg_m w_op w_a w_b f_rd) else (S_pass_118_max sg_f sg_w sg_x sg_m w_op w_a w_b f_rd))
def S_pass_174_s0 (mi_ : Int32) (sg_f : Int32) (sg_w : Int32) (sg_x : Int32) (sg_m : Int32) (w_op : Int32) (w_a : Int32) (w_b : Int32) (f_rd : Nat → Int32) : Int32 := (if mi_ = 0 then (S_pass_155_sg_m sg_f sg_w sg_x sg_m w_op w_a w_b f_rd) else ((S_pass_155_sg_m sg_f sg_w sg_x sg_m w_op w_a w_b f_rd) + 8))
def S_pass_184_w (mi_ : Int32) (sg_f : Int32) (sg_w : Int32) (sg_x : Int32) (sg_m : Int32) (w_op : Int32) (w_a : Int32) (w_b : Int32) (f_rd : Nat → Int32) : Int32 := ((S_pass_174_s0 mi_ sg_f sg_w sg_x sg_m w_op w_a w_b f_rd) + 1)
def S_pass_229_s0 (mi_ : Int32) (sg_f : Int32) (sg_w : Int32) (sg_x : Int32) (sg_m : Int32) (w_op : Int32) (w_a : Int32) (w_b : Int32) (f_rd : Nat → Int32) : Int32 := (if w_op = 32 then (S_pass_174_s0 mi_ sg_f sg_w sg_x sg_m w_op w_a w_b f_rd) else (S_pass_104_xe sg_f sg_x sg_m w_op w_a w_b f_rd))
def S_pass_229_rd (mi_ : Int32) (sg_f : Int32) (sg_w : Int32) (sg_x : Int32) (sg_m : Int32) (w_op : Int32) (w_d : Int32) (w_a : Int32) (w_b : Int32) (f_rd : Nat → Int32) : Nat → Int32 := (upd f_rd (Int32.toNatClampNeg w_d) (S_pass_229_s0 mi_ sg_f sg_w sg_x sg_m w_op w_a w_b f_rd))
def S_pass_x_rd (mi_ : Int32) (sg_f : Int32) (sg_w : Int32) (sg_x : Int32) (sg_m : Int32) (w_op : Int32) (w_d : Int32) (w_a : Int32) (w_b : Int32) (f_rd : Nat → Int32) : Nat → Int32 := (if (W_getsD_44_s0 w_op) = 0 then f_rd else (if w_d = 0 then f_rd else (S_pass_229_rd mi_ sg_f sg_w sg_x sg_m w_op w_d w_a w_b f_rd)))
set_option maxHeartbeats 4000000 in
set_option maxRecDepth 100000 in
theorem c_S_pass (l : Launch) (D : va_G) (cI cJ : ClassId) (q_sg : Nat) (q_w : Nat) (q_rd : Nat) (mi_ : Int32) (sg_f : Int32) (sg_xe : Int32) (sg_me : Int32) (sg_w : Int32) (sg_d : Int32) (sg_x : Int32) (sg_m : Int32) (w_pc : Int32) (w_op : Int32) (w_d : Int32) (w_a : Int32) (w_b : Int32) (w_i : Int32) (f_rd : Nat → Int32) (ha : vp_in w_a 16) (hb_ : vp_in w_b 16) (hd : vp_in w_d 16) (sz : Nat) : Met l yX6_pass (.code yX6_pass cX6_pass 3 none :: gU) { frames := 2, cells := 0, slots := 0, locals := 40 } (va_Pc [.ref q_sg, .ref q_w, .int mi_] (mP D vwCl (tyS cI cJ) [(q_sg, .inr (6, [.int sg_f, .int sg_xe, .int sg_me, .int sg_w, .int sg_d, .int sg_x, .int sg_m, .ref q_rd])), (q_w, .inr (8, [.int w_pc, .int w_op, .int w_d, .int w_a, .int w_b, .int w_i])), (q_rd, .inl (cI, 16, .inl f_rd))] sz)) (qV D vwCl (tyS cI cJ) [(q_sg, .inr (6, [.int sg_f, .int (S_pass_104_xe sg_f sg_x sg_m w_op w_a w_b f_rd), .int (S_pass_174_s0 mi_ sg_f sg_w sg_x sg_m w_op w_a w_b f_rd), .int (S_pass_184_w mi_ sg_f sg_w sg_x sg_m w_op w_a w_b f_rd), .int (S_pass_11_max sg_f sg_x), .int (S_pass_92_sg_x sg_f sg_x sg_m w_op w_a w_b f_rd), .int (S_pass_155_sg_m sg_f sg_w sg_x sg_m w_op w_a w_b f_rd), .ref q_rd])), (q_w, .inr (8, [.int w_pc, .int w_op, .int w_d, .int w_a, .int w_b, .int w_i])), (q_rd, .inl (cI, 16, .inl (S_pass_x_rd mi_ sg_f sg_w sg_x sg_m w_op w_d w_a w_b f_rd)))] (va_A [(q_sg, .inr (6, [.int sg_f, .int sg_xe, .int sg_me, .int sg_w, .int sg_d, .int sg_x, .int sg_m, .ref q_rd])), (q_w, .inr (8, [.int w_pc, .int w_op, .int w_d, .int w_a, .int w_b, .int w_i])), (q_rd, .inl (cI, 16, .inl f_rd))] sz)) 0 0 (va_A [(q_sg, .inr (6, [.int sg_f, .int sg_xe, .int sg_me, .int sg_w, .int sg_d, .int sg_x, .int sg_m, .ref q_rd])), (q_w, .inr (8, [.int w_pc, .int w_op, .int w_d, .int w_a, .int w_b, .int w_i])), (q_rd, .inl (cI, 16, .inl f_rd))] sz) := by
  refine m_go (y := yX6_pass) (cc := cX6_pass) (ml := 3) (rt := none) (av := [.ref q_sg, .ref q_w, .int mi_]) (cs := [(q_sg, .inr (6, [.int sg_f, .int sg_xe, .int sg_me, .int sg_w, .int sg_d, .int sg_x, .int sg_m, .ref q_rd])), (q_w, .inr (8, [.int w_pc, .int w_op, .int w_d, .int w_a, .int w_b, .int w_i])), (q_rd, .inl (cI, 16, .inl f_rd))]) (fun A => qV D vwCl (tyS cI cJ) [(q_sg, .inr (6, [.int sg_f, .int (S_pass_104_xe sg_f sg_x sg_m w_op w_a w_b f_rd), .int (S_pass_174_s0 mi_ sg_f sg_w sg_x sg_m w_op w_a w_b f_rd), .int (S_pass_184_w mi_ sg_f sg_w sg_x sg_m w_op w_a w_b f_rd), .int (S_pass_11_max sg_f sg_x), .int (S_pass_92_sg_x sg_f sg_x sg_m w_op w_a w_b f_rd), .int (S_pass_155_sg_m sg_f sg_w sg_x sg_m w_op w_a w_b f_rd), .ref q_rd])), (q_w, .inr (8, [.int w_pc, .int w_op, .int w_d, .int w_a, .int w_b, .int w_i])), (q_rd, .inl (cI, 16, .inl (S_pass_x_rd mi_ sg_f sg_w sg_x sg_m w_op w_d w_a w_b f_rd)))] A) (by decide) (Nat.le_of_ble_eq_true rfl) ?_
  intro p e s m below meth c A ls hx hb hr hlk hml hts hown _ hA hP hK hD hS hl _
  have hl : lv_has ls 3 [(0, .ref q_sg), (1, .ref q_w), (2, .int mi_)] := hl
  refine lv_aload_n hx hb dX6_pass_0 rfl (lv_at hl 0 rfl) ?_
  refine lv_aload_n hx hb dX6_pass_1 rfl (lv_at hl 0 rfl) ?_
  refine va_get (D := D) (ci := 6) (v := .int sg_f) (C := RX6) (T := TX6) (N := 8) hx hb hts inX6 hown hK hP 0 rfl rfl 0 (by decide) (hts _ kt_166) (fun _ h => h) rfl dX6_pass_2 ?_
  refine lv_iconst (v := 1) hx hb dX6_pass_5 (by decide) ?_
  refine lv_iadd hx hb dX6_pass_6 ?_
  refine lv_aload_n hx hb dX6_pass_7 rfl (lv_at hl 0 rfl) ?_
  refine va_get (D := D) (ci := 6) (v := .int sg_x) (C := RX6) (T := TX6) (N := 8) hx hb hts inX6 hown hK hP 0 rfl rfl 5 (by decide) (hts _ kt_175) (fun _ h => h) rfl dX6_pass_8 ?_
  refine va_mmax hx hb (hml.trans hl.1.symm) hown (hts _ kt_430) (hts _ kt_352) (hts _ kt_13) (hts _ kt_353) (by decide) (Nat.le_of_ble_eq_true rfl) (Nat.le_refl _) (Nat.le_refl _) dX6_pass_11 ?_
  refine W.eq (g2 := F0 m 14 ls [.int (S_pass_11_max sg_f sg_x), .ref q_sg]) rfl ?_
  refine va_put (D := D) (ci := 6) (v := .int (S_pass_11_max sg_f sg_x)) (ty := .int) (C := RX6) (T := TX6) (N := 8) hx hb hts inX6 tyX6 tyX6_ok nmX6 hown hK hP hD hS 0 rfl rfl 4 (by decide) (hts _ kt_174) (fun _ h => h) rfl (by decide +kernel) rfl rfl (Nat.le_of_ble_eq_true rfl) dX6_pass_14 (fun H locs hP hD hS => ?_)
  have hP : va_P D vwCl [(q_sg, .inr (6, [.int sg_f, .int sg_xe, .int sg_me, .int sg_w, .int (S_pass_11_max sg_f sg_x), .int sg_x, .int sg_m, .ref q_rd])), (q_w, .inr (8, [.int w_pc, .int w_op, .int w_d, .int w_a, .int w_b, .int w_i])), (q_rd, .inl (cI, 16, .inl f_rd))] H := hP
  have hD : va_D A [(q_sg, .inr (6, [.int sg_f, .int sg_xe, .int sg_me, .int sg_w, .int (S_pass_11_max sg_f sg_x), .int sg_x, .int sg_m, .ref q_rd])), (q_w, .inr (8, [.int w_pc, .int w_op, .int w_d, .int w_a, .int w_b, .int w_i])), (q_rd, .inl (cI, 16, .inl f_rd))] := hD
  refine lv_aload_n hx hb dX6_pass_17 rfl (lv_at hl 0 rfl) ?_
  refine lv_aload_n hx hb dX6_pass_18 rfl (lv_at hl 0 rfl) ?_
  refine va_get (D := D) (ci := 6) (v := .int (S_pass_11_max sg_f sg_x)) (C := RX6) (T := TX6) (N := 8) hx hb hts inX6 hown hK hP 0 rfl rfl 4 (by decide) (hts _ kt_174) (fun _ h => h) rfl dX6_pass_19 ?_
  refine W.eq (g2 := F0 m 22 ls [.int (S_pass_11_max sg_f sg_x), .ref q_sg]) rfl ?_
  refine lv_iconst (v := 1) hx hb dX6_pass_22 (by decide) ?_
  refine lv_iadd hx hb dX6_pass_23 ?_
  refine lv_aload_n hx hb dX6_pass_24 rfl (lv_at hl 0 rfl) ?_
  refine va_get (D := D) (ci := 6) (v := .int sg_m) (C := RX6) (T := TX6) (N := 8) hx hb hts inX6 hown hK hP 0 rfl rfl 6 (by decide) (hts _ kt_176) (fun _ h => h) rfl dX6_pass_25 ?_
  refine va_mmax hx hb (hml.trans hl.1.symm) hown (hts _ kt_430) (hts _ kt_352) (hts _ kt_13) (hts _ kt_353) (by decide) (Nat.le_of_ble_eq_true rfl) (Nat.le_refl _) (Nat.le_refl _) dX6_pass_28 ?_
  refine W.eq (g2 := F0 m 31 ls [.int (S_pass_28_max sg_f sg_x sg_m), .ref q_sg]) rfl ?_
  refine va_put (D := D) (ci := 6) (v := .int (S_pass_28_max sg_f sg_x sg_m)) (ty := .int) (C := RX6) (T := TX6) (N := 8) hx hb hts inX6 tyX6 tyX6_ok nmX6 hown hK hP hD hS 0 rfl rfl 5 (by decide) (hts _ kt_175) (fun _ h => h) rfl (by decide +kernel) rfl rfl (Nat.le_of_ble_eq_true rfl) dX6_pass_31 (fun H locs hP hD hS => ?_)
  have hP : va_P D vwCl [(q_sg, .inr (6, [.int sg_f, .int sg_xe, .int sg_me, .int sg_w, .int (S_pass_11_max sg_f sg_x), .int (S_pass_28_max sg_f sg_x sg_m), .int sg_m, .ref q_rd])), (q_w, .inr (8, [.int w_pc, .int w_op, .int w_d, .int w_a, .int w_b, .int w_i])), (q_rd, .inl (cI, 16, .inl f_rd))] H := hP
  have hD : va_D A [(q_sg, .inr (6, [.int sg_f, .int sg_xe, .int sg_me, .int sg_w, .int (S_pass_11_max sg_f sg_x), .int (S_pass_28_max sg_f sg_x sg_m), .int sg_m, .ref q_rd])), (q_w, .inr (8, [.int w_pc, .int w_op, .int w_d, .int w_a, .int w_b, .int w_i])), (q_rd, .inl (cI, 16, .inl f_rd))] := hD
  refine lv_aload_n hx hb dX6_pass_34 rfl (lv_at hl 1 rfl) ?_
  refine c_i (r := (W_readsA_51_s0 w_op)) (wc := [(q_w, .inr (8, [.int w_pc, .int w_op, .int w_d, .int w_a, .int w_b, .int w_i]))]) (wr := [(q_sg, .inr (6, [.int sg_f, .int sg_xe, .int sg_me, .int sg_w, .int (S_pass_11_max sg_f sg_x), .int (S_pass_28_max sg_f sg_x sg_m), .int sg_m, .ref q_rd])), (q_rd, .inl (cI, 16, .inl f_rd))]) (wc2 := [(q_w, .inr (8, [.int w_pc, .int w_op, .int w_d, .int w_a, .int w_b, .int w_i]))]) (ws2 := [(q_sg, .inr (6, [.int sg_f, .int sg_xe, .int sg_me, .int sg_w, .int (S_pass_11_max sg_f sg_x), .int (S_pass_28_max sg_f sg_x sg_m), .int sg_m, .ref q_rd])), (q_w, .inr (8, [.int w_pc, .int w_op, .int w_d, .int w_a, .int w_b, .int w_i])), (q_rd, .inl (cI, 16, .inl f_rd))]) (r_V (rm := { frames := 1, cells := 0, slots := 0, locals := 20 }) hx hb hml hown hts (c_W_readsA l D cI cJ q_w w_pc w_op w_d w_a w_b w_i _) 0 kt_434 kt_431 kt_432 kt_433 kt_5 ⟨by decide +kernel, by decide +kernel, by decide +kernel⟩ ⟨by decide, by decide⟩ hK hP hD [1] rfl (by decide) 1 rfl rfl hl.1 rfl rfl (Nat.le_of_ble_eq_true rfl) dX6_pass_35 ⟨by decide, by decide⟩) hP hD hS hA [1] [0, 2] [0, 2, 1] rfl rfl (by decide) (by decide) rfl (by decide) (fun H locs hP hD hS => ?_)
  refine w_j (J := 63) (st := []) (fun H locs ls => va_P D vwCl [(q_sg, .inr (6, [.int sg_f, .int sg_xe, .int sg_me, .int sg_w, .int (S_pass_11_max sg_f sg_x), .int (S_pass_63_sg_x sg_f sg_x sg_m w_op w_a f_rd), .int sg_m, .ref q_rd])), (q_w, .inr (8, [.int w_pc, .int w_op, .int w_d, .int w_a, .int w_b, .int w_i])), (q_rd, .inl (cI, 16, .inl f_rd))] H ∧ va_D A [(q_sg, .inr (6, [.int sg_f, .int sg_xe, .int sg_me, .int sg_w, .int (S_pass_11_max sg_f sg_x), .int (S_pass_63_sg_x sg_f sg_x sg_m w_op w_a f_rd), .int sg_m, .ref q_rd])), (q_w, .inr (8, [.int w_pc, .int w_op, .int w_d, .int w_a, .int w_b, .int w_i])), (q_rd, .inl (cI, 16, .inl f_rd))] ∧ va_S A s.heap H locs ∧ lv_has ls 3 [(0, .ref q_sg), (1, .ref q_w), (2, .int mi_)]) (fun H locs ls hJ => ?_) (fun k63 => ?_)
  · obtain ⟨hP, hD, hS, hl⟩ := hJ
    refine lv_aload_n hx hb dX6_pass_63 rfl (lv_at hl 1 rfl) ?_
    refine c_i (r := (W_readsB_19_s0 w_op)) (wc := [(q_w, .inr (8, [.int w_pc, .int w_op, .int w_d, .int w_a, .int w_b, .int w_i]))]) (wr := [(q_sg, .inr (6, [.int sg_f, .int sg_xe, .int sg_me, .int sg_w, .int (S_pass_11_max sg_f sg_x), .int (S_pass_63_sg_x sg_f sg_x sg_m w_op w_a f_rd), .int sg_m, .ref q_rd])), (q_rd, .inl (cI, 16, .inl f_rd))]) (wc2 := [(q_w, .inr (8, [.int w_pc, .int w_op, .int w_d, .int w_a, .int w_b, .int w_i]))]) (ws2 := [(q_sg, .inr (6, [.int sg_f, .int sg_xe, .int sg_me, .int sg_w, .int (S_pass_11_max sg_f sg_x), .int (S_pass_63_sg_x sg_f sg_x sg_m w_op w_a f_rd), .int sg_m, .ref q_rd])), (q_w, .inr (8, [.int w_pc, .int w_op, .int w_d, .int w_a, .int w_b, .int w_i])), (q_rd, .inl (cI, 16, .inl f_rd))]) (r_V (rm := { frames := 1, cells := 0, slots := 0, locals := 20 }) hx hb hml hown hts (c_W_readsB l D cI cJ q_w w_pc w_op w_d w_a w_b w_i _) 0 kt_442 kt_439 kt_440 kt_441 kt_5 ⟨by decide +kernel, by decide +kernel, by decide +kernel⟩ ⟨by decide, by decide⟩ hK hP hD [1] rfl (by decide) 1 rfl rfl hl.1 rfl rfl (Nat.le_of_ble_eq_true rfl) dX6_pass_64 ⟨by decide, by decide⟩) hP hD hS hA [1] [0, 2] [0, 2, 1] rfl rfl (by decide) (by decide) rfl (by decide) (fun H locs hP hD hS => ?_)
    refine w_j (J := 92) (st := []) (fun H locs ls => va_P D vwCl [(q_sg, .inr (6, [.int sg_f, .int sg_xe, .int sg_me, .int sg_w, .int (S_pass_11_max sg_f sg_x), .int (S_pass_92_sg_x sg_f sg_x sg_m w_op w_a w_b f_rd), .int sg_m, .ref q_rd])), (q_w, .inr (8, [.int w_pc, .int w_op, .int w_d, .int w_a, .int w_b, .int w_i])), (q_rd, .inl (cI, 16, .inl f_rd))] H ∧ va_D A [(q_sg, .inr (6, [.int sg_f, .int sg_xe, .int sg_me, .int sg_w, .int (S_pass_11_max sg_f sg_x), .int (S_pass_92_sg_x sg_f sg_x sg_m w_op w_a w_b f_rd), .int sg_m, .ref q_rd])), (q_w, .inr (8, [.int w_pc, .int w_op, .int w_d, .int w_a, .int w_b, .int w_i])), (q_rd, .inl (cI, 16, .inl f_rd))] ∧ va_S A s.heap H locs ∧ lv_has ls 3 [(0, .ref q_sg), (1, .ref q_w), (2, .int mi_)]) (fun H locs ls hJ => ?_) (fun k92 => ?_)
    · obtain ⟨hP, hD, hS, hl⟩ := hJ
      refine lv_aload_n hx hb dX6_pass_92 rfl (lv_at hl 0 rfl) ?_
      refine lv_aload_n hx hb dX6_pass_93 rfl (lv_at hl 0 rfl) ?_
      refine W.eq (g2 := F0 m 94 ls [.ref q_sg, .ref q_sg]) rfl ?_
      refine va_get (D := D) (ci := 6) (v := .int (S_pass_92_sg_x sg_f sg_x sg_m w_op w_a w_b f_rd)) (C := RX6) (T := TX6) (N := 8) hx hb hts inX6 hown hK hP 0 rfl rfl 5 (by decide) (hts _ kt_175) (fun _ h => h) rfl dX6_pass_94 ?_
      refine lv_aload_n hx hb dX6_pass_97 rfl (lv_at hl 1 rfl) ?_
      refine c_i (r := (W_cyclesInX_ret w_op)) (wc := [(q_w, .inr (8, [.int w_pc, .int w_op, .int w_d, .int w_a, .int w_b, .int w_i]))]) (wr := [(q_sg, .inr (6, [.int sg_f, .int sg_xe, .int sg_me, .int sg_w, .int (S_pass_11_max sg_f sg_x), .int (S_pass_92_sg_x sg_f sg_x sg_m w_op w_a w_b f_rd), .int sg_m, .ref q_rd])), (q_rd, .inl (cI, 16, .inl f_rd))]) (wc2 := [(q_w, .inr (8, [.int w_pc, .int w_op, .int w_d, .int w_a, .int w_b, .int w_i]))]) (ws2 := [(q_sg, .inr (6, [.int sg_f, .int sg_xe, .int sg_me, .int sg_w, .int (S_pass_11_max sg_f sg_x), .int (S_pass_92_sg_x sg_f sg_x sg_m w_op w_a w_b f_rd), .int sg_m, .ref q_rd])), (q_w, .inr (8, [.int w_pc, .int w_op, .int w_d, .int w_a, .int w_b, .int w_i])), (q_rd, .inl (cI, 16, .inl f_rd))]) (r_V (rm := { frames := 0, cells := 0, slots := 0, locals := 0 }) hx hb hml hown hts (c_W_cyclesInX l D cI cJ q_w w_pc w_op w_d w_a w_b w_i _) 0 kt_446 kt_443 kt_444 kt_445 kt_5 ⟨by decide +kernel, by decide +kernel, by decide +kernel⟩ ⟨by decide, by decide⟩ hK hP hD [1] rfl (by decide) 1 rfl rfl hl.1 rfl rfl (Nat.le_of_ble_eq_true rfl) dX6_pass_98 ⟨by decide, by decide⟩) hP hD hS hA [1] [0, 2] [0, 2, 1] rfl rfl (by decide) (by decide) rfl (by decide) (fun H locs hP hD hS => ?_)
      refine lv_iadd hx hb dX6_pass_101 ?_
      refine lv_iconst (v := 1) hx hb dX6_pass_102 (by decide) ?_
      refine lv_isub hx hb dX6_pass_103 ?_
      refine W.eq (g2 := F0 m 104 ls [.int (S_pass_104_xe sg_f sg_x sg_m w_op w_a w_b f_rd), .ref q_sg]) rfl ?_
      refine va_put (D := D) (ci := 6) (v := .int (S_pass_104_xe sg_f sg_x sg_m w_op w_a w_b f_rd)) (ty := .int) (C := RX6) (T := TX6) (N := 8) hx hb hts inX6 tyX6 tyX6_ok nmX6 hown hK hP hD hS 0 rfl rfl 1 (by decide) (hts _ kt_168) (fun _ h => h) rfl (by decide +kernel) rfl rfl (Nat.le_of_ble_eq_true rfl) dX6_pass_104 (fun H locs hP hD hS => ?_)
      have hP : va_P D vwCl [(q_sg, .inr (6, [.int sg_f, .int (S_pass_104_xe sg_f sg_x sg_m w_op w_a w_b f_rd), .int sg_me, .int sg_w, .int (S_pass_11_max sg_f sg_x), .int (S_pass_92_sg_x sg_f sg_x sg_m w_op w_a w_b f_rd), .int sg_m, .ref q_rd])), (q_w, .inr (8, [.int w_pc, .int w_op, .int w_d, .int w_a, .int w_b, .int w_i])), (q_rd, .inl (cI, 16, .inl f_rd))] H := hP
      have hD : va_D A [(q_sg, .inr (6, [.int sg_f, .int (S_pass_104_xe sg_f sg_x sg_m w_op w_a w_b f_rd), .int sg_me, .int sg_w, .int (S_pass_11_max sg_f sg_x), .int (S_pass_92_sg_x sg_f sg_x sg_m w_op w_a w_b f_rd), .int sg_m, .ref q_rd])), (q_w, .inr (8, [.int w_pc, .int w_op, .int w_d, .int w_a, .int w_b, .int w_i])), (q_rd, .inl (cI, 16, .inl f_rd))] := hD
      refine lv_aload_n hx hb dX6_pass_107 rfl (lv_at hl 0 rfl) ?_
      refine lv_aload_n hx hb dX6_pass_108 rfl (lv_at hl 0 rfl) ?_
      refine va_get (D := D) (ci := 6) (v := .int (S_pass_104_xe sg_f sg_x sg_m w_op w_a w_b f_rd)) (C := RX6) (T := TX6) (N := 8) hx hb hts inX6 hown hK hP 0 rfl rfl 1 (by decide) (hts _ kt_168) (fun _ h => h) rfl dX6_pass_109 ?_
      refine lv_iconst (v := 1) hx hb dX6_pass_112 (by decide) ?_
      refine lv_iadd hx hb dX6_pass_113 ?_
      refine W.eq (g2 := F0 m 114 ls [.int ((S_pass_104_xe sg_f sg_x sg_m w_op w_a w_b f_rd) + 1), .ref q_sg]) rfl ?_
      refine lv_aload_n hx hb dX6_pass_114 rfl (lv_at hl 0 rfl) ?_
      refine va_get (D := D) (ci := 6) (v := .int sg_w) (C := RX6) (T := TX6) (N := 8) hx hb hts inX6 hown hK hP 0 rfl rfl 3 (by decide) (hts _ kt_172) (fun _ h => h) rfl dX6_pass_115 ?_
      refine va_mmax hx hb (hml.trans hl.1.symm) hown (hts _ kt_430) (hts _ kt_352) (hts _ kt_13) (hts _ kt_353) (by decide) (Nat.le_of_ble_eq_true rfl) (Nat.le_refl _) (Nat.le_refl _) dX6_pass_118 ?_
      refine W.eq (g2 := F0 m 121 ls [.int (S_pass_118_max sg_f sg_w sg_x sg_m w_op w_a w_b f_rd), .ref q_sg]) rfl ?_
      refine va_put (D := D) (ci := 6) (v := .int (S_pass_118_max sg_f sg_w sg_x sg_m w_op w_a w_b f_rd)) (ty := .int) (C := RX6) (T := TX6) (N := 8) hx hb hts inX6 tyX6 tyX6_ok nmX6 hown hK hP hD hS 0 rfl rfl 6 (by decide) (hts _ kt_176) (fun _ h => h) rfl (by decide +kernel) rfl rfl (Nat.le_of_ble_eq_true rfl) dX6_pass_121 (fun H locs hP hD hS => ?_)
      have hP : va_P D vwCl [(q_sg, .inr (6, [.int sg_f, .int (S_pass_104_xe sg_f sg_x sg_m w_op w_a w_b f_rd), .int sg_me, .int sg_w, .int (S_pass_11_max sg_f sg_x), .int (S_pass_92_sg_x sg_f sg_x sg_m w_op w_a w_b f_rd), .int (S_pass_118_max sg_f sg_w sg_x sg_m w_op w_a w_b f_rd), .ref q_rd])), (q_w, .inr (8, [.int w_pc, .int w_op, .int w_d, .int w_a, .int w_b, .int w_i])), (q_rd, .inl (cI, 16, .inl f_rd))] H := hP
      have hD : va_D A [(q_sg, .inr (6, [.int sg_f, .int (S_pass_104_xe sg_f sg_x sg_m w_op w_a w_b f_rd), .int sg_me, .int sg_w, .int (S_pass_11_max sg_f sg_x), .int (S_pass_92_sg_x sg_f sg_x sg_m w_op w_a w_b f_rd), .int (S_pass_118_max sg_f sg_w sg_x sg_m w_op w_a w_b f_rd), .ref q_rd])), (q_w, .inr (8, [.int w_pc, .int w_op, .int w_d, .int w_a, .int w_b, .int w_i])), (q_rd, .inl (cI, 16, .inl f_rd))] := hD
      refine lv_aload_n hx hb dX6_pass_124 rfl (lv_at hl 1 rfl) ?_
      refine va_get (D := D) (ci := 8) (v := .int w_op) (C := RX8) (T := TX8) (N := 6) hx hb hts inX8 hown hK hP 1 rfl rfl 1 (by decide) (hts _ kt_101) (fun _ h => h) rfl dX6_pass_125 ?_
      refine lv_bipush (v := 33) hx hb dX6_pass_128 (by decide) ?_
      refine w_j (J := 155) (st := []) (fun H locs ls => va_P D vwCl [(q_sg, .inr (6, [.int sg_f, .int (S_pass_104_xe sg_f sg_x sg_m w_op w_a w_b f_rd), .int sg_me, .int sg_w, .int (S_pass_11_max sg_f sg_x), .int (S_pass_92_sg_x sg_f sg_x sg_m w_op w_a w_b f_rd), .int (S_pass_155_sg_m sg_f sg_w sg_x sg_m w_op w_a w_b f_rd), .ref q_rd])), (q_w, .inr (8, [.int w_pc, .int w_op, .int w_d, .int w_a, .int w_b, .int w_i])), (q_rd, .inl (cI, 16, .inl f_rd))] H ∧ va_D A [(q_sg, .inr (6, [.int sg_f, .int (S_pass_104_xe sg_f sg_x sg_m w_op w_a w_b f_rd), .int sg_me, .int sg_w, .int (S_pass_11_max sg_f sg_x), .int (S_pass_92_sg_x sg_f sg_x sg_m w_op w_a w_b f_rd), .int (S_pass_155_sg_m sg_f sg_w sg_x sg_m w_op w_a w_b f_rd), .ref q_rd])), (q_w, .inr (8, [.int w_pc, .int w_op, .int w_d, .int w_a, .int w_b, .int w_i])), (q_rd, .inl (cI, 16, .inl f_rd))] ∧ va_S A s.heap H locs ∧ lv_has ls 3 [(0, .ref q_sg), (1, .ref q_w), (2, .int mi_)]) (fun H locs ls hJ => ?_) (fun k155 => ?_)
      · obtain ⟨hP, hD, hS, hl⟩ := hJ
        refine lv_aload_n hx hb dX6_pass_155 rfl (lv_at hl 0 rfl) ?_
        refine lv_iload_n hx hb dX6_pass_156 rfl (lv_at hl 2 rfl) ?_
        refine w_j (J := 174) (st := [.int (S_pass_174_s0 mi_ sg_f sg_w sg_x sg_m w_op w_a w_b f_rd), .ref q_sg]) (fun H locs ls => va_P D vwCl [(q_sg, .inr (6, [.int sg_f, .int (S_pass_104_xe sg_f sg_x sg_m w_op w_a w_b f_rd), .int sg_me, .int sg_w, .int (S_pass_11_max sg_f sg_x), .int (S_pass_92_sg_x sg_f sg_x sg_m w_op w_a w_b f_rd), .int (S_pass_155_sg_m sg_f sg_w sg_x sg_m w_op w_a w_b f_rd), .ref q_rd])), (q_w, .inr (8, [.int w_pc, .int w_op, .int w_d, .int w_a, .int w_b, .int w_i])), (q_rd, .inl (cI, 16, .inl f_rd))] H ∧ va_D A [(q_sg, .inr (6, [.int sg_f, .int (S_pass_104_xe sg_f sg_x sg_m w_op w_a w_b f_rd), .int sg_me, .int sg_w, .int (S_pass_11_max sg_f sg_x), .int (S_pass_92_sg_x sg_f sg_x sg_m w_op w_a w_b f_rd), .int (S_pass_155_sg_m sg_f sg_w sg_x sg_m w_op w_a w_b f_rd), .ref q_rd])), (q_w, .inr (8, [.int w_pc, .int w_op, .int w_d, .int w_a, .int w_b, .int w_i])), (q_rd, .inl (cI, 16, .inl f_rd))] ∧ va_S A s.heap H locs ∧ lv_has ls 3 [(0, .ref q_sg), (1, .ref q_w), (2, .int mi_)]) (fun H locs ls hJ => ?_) (fun k174 => ?_)
        · obtain ⟨hP, hD, hS, hl⟩ := hJ
          refine va_put (D := D) (ci := 6) (v := .int (S_pass_174_s0 mi_ sg_f sg_w sg_x sg_m w_op w_a w_b f_rd)) (ty := .int) (C := RX6) (T := TX6) (N := 8) hx hb hts inX6 tyX6 tyX6_ok nmX6 hown hK hP hD hS 0 rfl rfl 2 (by decide) (hts _ kt_170) (fun _ h => h) rfl (by decide +kernel) rfl rfl (Nat.le_of_ble_eq_true rfl) dX6_pass_174 (fun H locs hP hD hS => ?_)
          have hP : va_P D vwCl [(q_sg, .inr (6, [.int sg_f, .int (S_pass_104_xe sg_f sg_x sg_m w_op w_a w_b f_rd), .int (S_pass_174_s0 mi_ sg_f sg_w sg_x sg_m w_op w_a w_b f_rd), .int sg_w, .int (S_pass_11_max sg_f sg_x), .int (S_pass_92_sg_x sg_f sg_x sg_m w_op w_a w_b f_rd), .int (S_pass_155_sg_m sg_f sg_w sg_x sg_m w_op w_a w_b f_rd), .ref q_rd])), (q_w, .inr (8, [.int w_pc, .int w_op, .int w_d, .int w_a, .int w_b, .int w_i])), (q_rd, .inl (cI, 16, .inl f_rd))] H := hP
          have hD : va_D A [(q_sg, .inr (6, [.int sg_f, .int (S_pass_104_xe sg_f sg_x sg_m w_op w_a w_b f_rd), .int (S_pass_174_s0 mi_ sg_f sg_w sg_x sg_m w_op w_a w_b f_rd), .int sg_w, .int (S_pass_11_max sg_f sg_x), .int (S_pass_92_sg_x sg_f sg_x sg_m w_op w_a w_b f_rd), .int (S_pass_155_sg_m sg_f sg_w sg_x sg_m w_op w_a w_b f_rd), .ref q_rd])), (q_w, .inr (8, [.int w_pc, .int w_op, .int w_d, .int w_a, .int w_b, .int w_i])), (q_rd, .inl (cI, 16, .inl f_rd))] := hD
          refine lv_aload_n hx hb dX6_pass_177 rfl (lv_at hl 0 rfl) ?_
          refine lv_aload_n hx hb dX6_pass_178 rfl (lv_at hl 0 rfl) ?_
          refine va_get (D := D) (ci := 6) (v := .int (S_pass_174_s0 mi_ sg_f sg_w sg_x sg_m w_op w_a w_b f_rd)) (C := RX6) (T := TX6) (N := 8) hx hb hts inX6 hown hK hP 0 rfl rfl 2 (by decide) (hts _ kt_170) (fun _ h => h) rfl dX6_pass_179 ?_
          refine lv_iconst (v := 1) hx hb dX6_pass_182 (by decide) ?_
          refine lv_iadd hx hb dX6_pass_183 ?_
          refine W.eq (g2 := F0 m 184 ls [.int (S_pass_184_w mi_ sg_f sg_w sg_x sg_m w_op w_a w_b f_rd), .ref q_sg]) rfl ?_
          refine va_put (D := D) (ci := 6) (v := .int (S_pass_184_w mi_ sg_f sg_w sg_x sg_m w_op w_a w_b f_rd)) (ty := .int) (C := RX6) (T := TX6) (N := 8) hx hb hts inX6 tyX6 tyX6_ok nmX6 hown hK hP hD hS 0 rfl rfl 3 (by decide) (hts _ kt_172) (fun _ h => h) rfl (by decide +kernel) rfl rfl (Nat.le_of_ble_eq_true rfl) dX6_pass_184 (fun H locs hP hD hS => ?_)
          have hP : va_P D vwCl [(q_sg, .inr (6, [.int sg_f, .int (S_pass_104_xe sg_f sg_x sg_m w_op w_a w_b f_rd), .int (S_pass_174_s0 mi_ sg_f sg_w sg_x sg_m w_op w_a w_b f_rd), .int (S_pass_184_w mi_ sg_f sg_w sg_x sg_m w_op w_a w_b f_rd), .int (S_pass_11_max sg_f sg_x), .int (S_pass_92_sg_x sg_f sg_x sg_m w_op w_a w_b f_rd), .int (S_pass_155_sg_m sg_f sg_w sg_x sg_m w_op w_a w_b f_rd), .ref q_rd])), (q_w, .inr (8, [.int w_pc, .int w_op, .int w_d, .int w_a, .int w_b, .int w_i])), (q_rd, .inl (cI, 16, .inl f_rd))] H := hP
          have hD : va_D A [(q_sg, .inr (6, [.int sg_f, .int (S_pass_104_xe sg_f sg_x sg_m w_op w_a w_b f_rd), .int (S_pass_174_s0 mi_ sg_f sg_w sg_x sg_m w_op w_a w_b f_rd), .int (S_pass_184_w mi_ sg_f sg_w sg_x sg_m w_op w_a w_b f_rd), .int (S_pass_11_max sg_f sg_x), .int (S_pass_92_sg_x sg_f sg_x sg_m w_op w_a w_b f_rd), .int (S_pass_155_sg_m sg_f sg_w sg_x sg_m w_op w_a w_b f_rd), .ref q_rd])), (q_w, .inr (8, [.int w_pc, .int w_op, .int w_d, .int w_a, .int w_b, .int w_i])), (q_rd, .inl (cI, 16, .inl f_rd))] := hD
          refine lv_aload_n hx hb dX6_pass_187 rfl (lv_at hl 1 rfl) ?_
          refine c_i (r := (W_getsD_44_s0 w_op)) (wc := [(q_w, .inr (8, [.int w_pc, .int w_op, .int w_d, .int w_a, .int w_b, .int w_i]))]) (wr := [(q_sg, .inr (6, [.int sg_f, .int (S_pass_104_xe sg_f sg_x sg_m w_op w_a w_b f_rd), .int (S_pass_174_s0 mi_ sg_f sg_w sg_x sg_m w_op w_a w_b f_rd), .int (S_pass_184_w mi_ sg_f sg_w sg_x sg_m w_op w_a w_b f_rd), .int (S_pass_11_max sg_f sg_x), .int (S_pass_92_sg_x sg_f sg_x sg_m w_op w_a w_b f_rd), .int (S_pass_155_sg_m sg_f sg_w sg_x sg_m w_op w_a w_b f_rd), .ref q_rd])), (q_rd, .inl (cI, 16, .inl f_rd))]) (wc2 := [(q_w, .inr (8, [.int w_pc, .int w_op, .int w_d, .int w_a, .int w_b, .int w_i]))]) (ws2 := [(q_sg, .inr (6, [.int sg_f, .int (S_pass_104_xe sg_f sg_x sg_m w_op w_a w_b f_rd), .int (S_pass_174_s0 mi_ sg_f sg_w sg_x sg_m w_op w_a w_b f_rd), .int (S_pass_184_w mi_ sg_f sg_w sg_x sg_m w_op w_a w_b f_rd), .int (S_pass_11_max sg_f sg_x), .int (S_pass_92_sg_x sg_f sg_x sg_m w_op w_a w_b f_rd), .int (S_pass_155_sg_m sg_f sg_w sg_x sg_m w_op w_a w_b f_rd), .ref q_rd])), (q_w, .inr (8, [.int w_pc, .int w_op, .int w_d, .int w_a, .int w_b, .int w_i])), (q_rd, .inl (cI, 16, .inl f_rd))]) (r_V (rm := { frames := 1, cells := 0, slots := 0, locals := 20 }) hx hb hml hown hts (c_W_getsD l D cI cJ q_w w_pc w_op w_d w_a w_b w_i _) 0 kt_450 kt_447 kt_448 kt_449 kt_5 ⟨by decide +kernel, by decide +kernel, by decide +kernel⟩ ⟨by decide, by decide⟩ hK hP hD [1] rfl (by decide) 1 rfl rfl hl.1 rfl rfl (Nat.le_of_ble_eq_true rfl) dX6_pass_188 ⟨by decide, by decide⟩) hP hD hS hA [1] [0, 2] [0, 2, 1] rfl rfl (by decide) (by decide) rfl (by decide) (fun H locs hP hD hS => ?_)
          refine W.eq (g2 := F0 m 191 ls [.int (W_getsD_44_s0 w_op)]) rfl ?_
          refine lv_if_eq (tgt := 230) hx hb dX6_pass_191 rfl (fun c191 => ?_) (fun c191 => ?_)
          · have e0 : (S_pass_x_rd mi_ sg_f sg_w sg_x sg_m w_op w_d w_a w_b f_rd) = f_rd := (if_pos c191)
            exact e_v hx hb hr hlk hK (by rw [e0]; exact hP) (by rw [e0]; exact hD) hS dX6_pass_230
          · refine lv_aload_n hx hb dX6_pass_194 rfl (lv_at hl 1 rfl) ?_
            refine va_get (D := D) (ci := 8) (v := .int w_d) (C := RX8) (T := TX8) (N := 6) hx hb hts inX8 hown hK hP 1 rfl rfl 2 (by decide) (hts _ kt_105) (fun _ h => h) rfl dX6_pass_195 ?_
            refine lv_if_eq (tgt := 230) hx hb dX6_pass_198 rfl (fun c198 => ?_) (fun c198 => ?_)
            · have e0 : (S_pass_x_rd mi_ sg_f sg_w sg_x sg_m w_op w_d w_a w_b f_rd) = f_rd := ((if_neg c191).trans (if_pos c198))
              exact e_v hx hb hr hlk hK (by rw [e0]; exact hP) (by rw [e0]; exact hD) hS dX6_pass_230
            · refine lv_aload_n hx hb dX6_pass_201 rfl (lv_at hl 0 rfl) ?_
              refine va_get (D := D) (ci := 6) (v := .ref q_rd) (C := RX6) (T := TX6) (N := 8) hx hb hts inX6 hown hK hP 0 rfl rfl 7 (by decide) (hts _ kt_177) (fun _ h => h) rfl dX6_pass_202 ?_
              refine lv_aload_n hx hb dX6_pass_205 rfl (lv_at hl 1 rfl) ?_
              refine va_get (D := D) (ci := 8) (v := .int w_d) (C := RX8) (T := TX8) (N := 6) hx hb hts inX8 hown hK hP 1 rfl rfl 2 (by decide) (hts _ kt_105) (fun _ h => h) rfl dX6_pass_206 ?_
              refine lv_aload_n hx hb dX6_pass_209 rfl (lv_at hl 1 rfl) ?_
              refine va_get (D := D) (ci := 8) (v := .int w_op) (C := RX8) (T := TX8) (N := 6) hx hb hts inX8 hown hK hP 1 rfl rfl 1 (by decide) (hts _ kt_101) (fun _ h => h) rfl dX6_pass_210 ?_
              refine lv_bipush (v := 32) hx hb dX6_pass_213 (by decide) ?_
              refine w_j (J := 229) (st := [.int (S_pass_229_s0 mi_ sg_f sg_w sg_x sg_m w_op w_a w_b f_rd), .int w_d, .ref q_rd]) (fun H locs ls => va_P D vwCl [(q_sg, .inr (6, [.int sg_f, .int (S_pass_104_xe sg_f sg_x sg_m w_op w_a w_b f_rd), .int (S_pass_174_s0 mi_ sg_f sg_w sg_x sg_m w_op w_a w_b f_rd), .int (S_pass_184_w mi_ sg_f sg_w sg_x sg_m w_op w_a w_b f_rd), .int (S_pass_11_max sg_f sg_x), .int (S_pass_92_sg_x sg_f sg_x sg_m w_op w_a w_b f_rd), .int (S_pass_155_sg_m sg_f sg_w sg_x sg_m w_op w_a w_b f_rd), .ref q_rd])), (q_w, .inr (8, [.int w_pc, .int w_op, .int w_d, .int w_a, .int w_b, .int w_i])), (q_rd, .inl (cI, 16, .inl f_rd))] H ∧ va_D A [(q_sg, .inr (6, [.int sg_f, .int (S_pass_104_xe sg_f sg_x sg_m w_op w_a w_b f_rd), .int (S_pass_174_s0 mi_ sg_f sg_w sg_x sg_m w_op w_a w_b f_rd), .int (S_pass_184_w mi_ sg_f sg_w sg_x sg_m w_op w_a w_b f_rd), .int (S_pass_11_max sg_f sg_x), .int (S_pass_92_sg_x sg_f sg_x sg_m w_op w_a w_b f_rd), .int (S_pass_155_sg_m sg_f sg_w sg_x sg_m w_op w_a w_b f_rd), .ref q_rd])), (q_w, .inr (8, [.int w_pc, .int w_op, .int w_d, .int w_a, .int w_b, .int w_i])), (q_rd, .inl (cI, 16, .inl f_rd))] ∧ va_S A s.heap H locs ∧ lv_has ls 3 [(0, .ref q_sg), (1, .ref q_w), (2, .int mi_)]) (fun H locs ls hJ => ?_) (fun k229 => ?_)
              · obtain ⟨hP, hD, hS, hl⟩ := hJ
                refine va_iast hx hb hK hP hD hS 2 0 rfl rfl hd dX6_pass_229 (fun H locs hP hD hS => ?_)
                have hP : va_P D vwCl [(q_sg, .inr (6, [.int sg_f, .int (S_pass_104_xe sg_f sg_x sg_m w_op w_a w_b f_rd), .int (S_pass_174_s0 mi_ sg_f sg_w sg_x sg_m w_op w_a w_b f_rd), .int (S_pass_184_w mi_ sg_f sg_w sg_x sg_m w_op w_a w_b f_rd), .int (S_pass_11_max sg_f sg_x), .int (S_pass_92_sg_x sg_f sg_x sg_m w_op w_a w_b f_rd), .int (S_pass_155_sg_m sg_f sg_w sg_x sg_m w_op w_a w_b f_rd), .ref q_rd])), (q_w, .inr (8, [.int w_pc, .int w_op, .int w_d, .int w_a, .int w_b, .int w_i])), (q_rd, .inl (cI, 16, .inl (S_pass_229_rd mi_ sg_f sg_w sg_x sg_m w_op w_d w_a w_b f_rd)))] H := hP
                have hD : va_D A [(q_sg, .inr (6, [.int sg_f, .int (S_pass_104_xe sg_f sg_x sg_m w_op w_a w_b f_rd), .int (S_pass_174_s0 mi_ sg_f sg_w sg_x sg_m w_op w_a w_b f_rd), .int (S_pass_184_w mi_ sg_f sg_w sg_x sg_m w_op w_a w_b f_rd), .int (S_pass_11_max sg_f sg_x), .int (S_pass_92_sg_x sg_f sg_x sg_m w_op w_a w_b f_rd), .int (S_pass_155_sg_m sg_f sg_w sg_x sg_m w_op w_a w_b f_rd), .ref q_rd])), (q_w, .inr (8, [.int w_pc, .int w_op, .int w_d, .int w_a, .int w_b, .int w_i])), (q_rd, .inl (cI, 16, .inl (S_pass_229_rd mi_ sg_f sg_w sg_x sg_m w_op w_d w_a w_b f_rd)))] := hD
                have e0 : (S_pass_x_rd mi_ sg_f sg_w sg_x sg_m w_op w_d w_a w_b f_rd) = (S_pass_229_rd mi_ sg_f sg_w sg_x sg_m w_op w_d w_a w_b f_rd) := ((if_neg c191).trans (if_neg c198))
                exact e_v hx hb hr hlk hK (by rw [e0]; exact hP) (by rw [e0]; exact hD) hS dX6_pass_230
              · refine lv_icmp_ne (tgt := 225) hx hb dX6_pass_215 rfl (fun c215 => ?_) (fun c215 => ?_)
                · refine lv_aload_n hx hb dX6_pass_225 rfl (lv_at hl 0 rfl) ?_
                  refine va_get (D := D) (ci := 6) (v := .int (S_pass_104_xe sg_f sg_x sg_m w_op w_a w_b f_rd)) (C := RX6) (T := TX6) (N := 8) hx hb hts inX6 hown hK hP 0 rfl rfl 1 (by decide) (hts _ kt_168) (fun _ h => h) rfl dX6_pass_226 ?_
                  have e0 : (S_pass_229_s0 mi_ sg_f sg_w sg_x sg_m w_op w_a w_b f_rd) = (S_pass_104_xe sg_f sg_x sg_m w_op w_a w_b f_rd) := (if_neg c215)
                  have k229 := k229 _ _ _ ⟨hP, hD, hS, hl⟩
                  refine W.eq (g2 := F0 m 229 ls [.int (S_pass_104_xe sg_f sg_x sg_m w_op w_a w_b f_rd), .int w_d, .ref q_rd]) rfl ?_
                  exact W.eq (by rw [e0]) k229
                · refine lv_aload_n hx hb dX6_pass_218 rfl (lv_at hl 0 rfl) ?_
                  refine W.eq (g2 := F0 m 219 ls [.ref q_sg, .int w_d, .ref q_rd]) rfl ?_
                  refine va_get (D := D) (ci := 6) (v := .int (S_pass_174_s0 mi_ sg_f sg_w sg_x sg_m w_op w_a w_b f_rd)) (C := RX6) (T := TX6) (N := 8) hx hb hts inX6 hown hK hP 0 rfl rfl 2 (by decide) (hts _ kt_170) (fun _ h => h) rfl dX6_pass_219 ?_
                  refine lv_goto (tgt := 229) hx hb dX6_pass_222 rfl ?_
                  have e0 : (S_pass_229_s0 mi_ sg_f sg_w sg_x sg_m w_op w_a w_b f_rd) = (S_pass_174_s0 mi_ sg_f sg_w sg_x sg_m w_op w_a w_b f_rd) := (if_pos c215)
                  have k229 := k229 _ _ _ ⟨hP, hD, hS, hl⟩
                  refine W.eq (g2 := F0 m 229 ls [.int (S_pass_174_s0 mi_ sg_f sg_w sg_x sg_m w_op w_a w_b f_rd), .int w_d, .ref q_rd]) rfl ?_
                  exact W.eq (by rw [e0]) k229
        · refine lv_if_eq (tgt := 170) hx hb dX6_pass_157 rfl (fun c157 => ?_) (fun c157 => ?_)
          · refine lv_aload_n hx hb dX6_pass_170 rfl (lv_at hl 0 rfl) ?_
            refine va_get (D := D) (ci := 6) (v := .int (S_pass_155_sg_m sg_f sg_w sg_x sg_m w_op w_a w_b f_rd)) (C := RX6) (T := TX6) (N := 8) hx hb hts inX6 hown hK hP 0 rfl rfl 6 (by decide) (hts _ kt_176) (fun _ h => h) rfl dX6_pass_171 ?_
            have e0 : (S_pass_174_s0 mi_ sg_f sg_w sg_x sg_m w_op w_a w_b f_rd) = (S_pass_155_sg_m sg_f sg_w sg_x sg_m w_op w_a w_b f_rd) := (if_pos c157)
            have k174 := k174 _ _ _ ⟨hP, hD, hS, hl⟩
            refine W.eq (g2 := F0 m 174 ls [.int (S_pass_155_sg_m sg_f sg_w sg_x sg_m w_op w_a w_b f_rd), .ref q_sg]) rfl ?_
            exact W.eq (by rw [e0]) k174
          · refine lv_aload_n hx hb dX6_pass_160 rfl (lv_at hl 0 rfl) ?_
            refine W.eq (g2 := F0 m 161 ls [.ref q_sg, .ref q_sg]) rfl ?_
            refine va_get (D := D) (ci := 6) (v := .int (S_pass_155_sg_m sg_f sg_w sg_x sg_m w_op w_a w_b f_rd)) (C := RX6) (T := TX6) (N := 8) hx hb hts inX6 hown hK hP 0 rfl rfl 6 (by decide) (hts _ kt_176) (fun _ h => h) rfl dX6_pass_161 ?_
            refine lv_bipush (v := 8) hx hb dX6_pass_164 (by decide) ?_
            refine lv_iadd hx hb dX6_pass_166 ?_
            refine lv_goto (tgt := 174) hx hb dX6_pass_167 rfl ?_
            have e0 : (S_pass_174_s0 mi_ sg_f sg_w sg_x sg_m w_op w_a w_b f_rd) = ((S_pass_155_sg_m sg_f sg_w sg_x sg_m w_op w_a w_b f_rd) + 8) := (if_neg c157)
            have k174 := k174 _ _ _ ⟨hP, hD, hS, hl⟩
            refine W.eq (g2 := F0 m 174 ls [.int ((S_pass_155_sg_m sg_f sg_w sg_x sg_m w_op w_a w_b f_rd) + 8), .ref q_sg]) rfl ?_
            exact W.eq (by rw [e0]) k174
      · refine lv_icmp_ne (tgt := 155) hx hb dX6_pass_130 rfl (fun c130 => ?_) (fun c130 => ?_)
        · have e0 : (S_pass_155_sg_m sg_f sg_w sg_x sg_m w_op w_a w_b f_rd) = (S_pass_118_max sg_f sg_w sg_x sg_m w_op w_a w_b f_rd) := (if_neg c130)
          have k155 := k155 _ _ _ ⟨(by rw [e0]; exact hP), (by rw [e0]; exact hD), hS, hl⟩
          exact k155
        · refine lv_aload_n hx hb dX6_pass_133 rfl (lv_at hl 0 rfl) ?_
          refine lv_aload_n hx hb dX6_pass_134 rfl (lv_at hl 0 rfl) ?_
          refine va_get (D := D) (ci := 6) (v := .int (S_pass_118_max sg_f sg_w sg_x sg_m w_op w_a w_b f_rd)) (C := RX6) (T := TX6) (N := 8) hx hb hts inX6 hown hK hP 0 rfl rfl 6 (by decide) (hts _ kt_176) (fun _ h => h) rfl dX6_pass_135 ?_
          refine lv_aload_n hx hb dX6_pass_138 rfl (lv_at hl 0 rfl) ?_
          refine va_get (D := D) (ci := 6) (v := .ref q_rd) (C := RX6) (T := TX6) (N := 8) hx hb hts inX6 hown hK hP 0 rfl rfl 7 (by decide) (hts _ kt_177) (fun _ h => h) rfl dX6_pass_139 ?_
          refine W.eq (g2 := F0 m 142 ls [.ref q_rd, .int (S_pass_118_max sg_f sg_w sg_x sg_m w_op w_a w_b f_rd), .ref q_sg]) rfl ?_
          refine lv_aload_n hx hb dX6_pass_142 rfl (lv_at hl 1 rfl) ?_
          refine va_get (D := D) (ci := 8) (v := .int w_b) (C := RX8) (T := TX8) (N := 6) hx hb hts inX8 hown hK hP 1 rfl rfl 4 (by decide) (hts _ kt_112) (fun _ h => h) rfl dX6_pass_143 ?_
          refine va_iald hx hb hK hP 2 0 rfl rfl hb_ dX6_pass_146 ?_
          refine lv_iconst (v := 1) hx hb dX6_pass_147 (by decide) ?_
          refine lv_iadd hx hb dX6_pass_148 ?_
          refine va_mmax hx hb (hml.trans hl.1.symm) hown (hts _ kt_430) (hts _ kt_352) (hts _ kt_13) (hts _ kt_353) (by decide) (Nat.le_of_ble_eq_true rfl) (Nat.le_refl _) (Nat.le_refl _) dX6_pass_149 ?_
          refine W.eq (g2 := F0 m 152 ls [.int (S_pass_149_max sg_f sg_w sg_x sg_m w_op w_a w_b f_rd), .ref q_sg]) rfl ?_
          refine va_put (D := D) (ci := 6) (v := .int (S_pass_149_max sg_f sg_w sg_x sg_m w_op w_a w_b f_rd)) (ty := .int) (C := RX6) (T := TX6) (N := 8) hx hb hts inX6 tyX6 tyX6_ok nmX6 hown hK hP hD hS 0 rfl rfl 6 (by decide) (hts _ kt_176) (fun _ h => h) rfl (by decide +kernel) rfl rfl (Nat.le_of_ble_eq_true rfl) dX6_pass_152 (fun H locs hP hD hS => ?_)
          have hP : va_P D vwCl [(q_sg, .inr (6, [.int sg_f, .int (S_pass_104_xe sg_f sg_x sg_m w_op w_a w_b f_rd), .int sg_me, .int sg_w, .int (S_pass_11_max sg_f sg_x), .int (S_pass_92_sg_x sg_f sg_x sg_m w_op w_a w_b f_rd), .int (S_pass_149_max sg_f sg_w sg_x sg_m w_op w_a w_b f_rd), .ref q_rd])), (q_w, .inr (8, [.int w_pc, .int w_op, .int w_d, .int w_a, .int w_b, .int w_i])), (q_rd, .inl (cI, 16, .inl f_rd))] H := hP
          have hD : va_D A [(q_sg, .inr (6, [.int sg_f, .int (S_pass_104_xe sg_f sg_x sg_m w_op w_a w_b f_rd), .int sg_me, .int sg_w, .int (S_pass_11_max sg_f sg_x), .int (S_pass_92_sg_x sg_f sg_x sg_m w_op w_a w_b f_rd), .int (S_pass_149_max sg_f sg_w sg_x sg_m w_op w_a w_b f_rd), .ref q_rd])), (q_w, .inr (8, [.int w_pc, .int w_op, .int w_d, .int w_a, .int w_b, .int w_i])), (q_rd, .inl (cI, 16, .inl f_rd))] := hD
          have e0 : (S_pass_155_sg_m sg_f sg_w sg_x sg_m w_op w_a w_b f_rd) = (S_pass_149_max sg_f sg_w sg_x sg_m w_op w_a w_b f_rd) := (if_pos c130)
          have k155 := k155 _ _ _ ⟨(by rw [e0]; exact hP), (by rw [e0]; exact hD), hS, hl⟩
          exact k155
    · refine lv_if_eq (tgt := 92) hx hb dX6_pass_67 rfl (fun c67 => ?_) (fun c67 => ?_)
      · have e0 : (S_pass_92_sg_x sg_f sg_x sg_m w_op w_a w_b f_rd) = (S_pass_63_sg_x sg_f sg_x sg_m w_op w_a f_rd) := (if_pos c67)
        have k92 := k92 _ _ _ ⟨(by rw [e0]; exact hP), (by rw [e0]; exact hD), hS, hl⟩
        exact k92
      · refine lv_aload_n hx hb dX6_pass_70 rfl (lv_at hl 0 rfl) ?_
        refine lv_aload_n hx hb dX6_pass_71 rfl (lv_at hl 0 rfl) ?_
        refine W.eq (g2 := F0 m 72 ls [.ref q_sg, .ref q_sg]) rfl ?_
        refine va_get (D := D) (ci := 6) (v := .int (S_pass_63_sg_x sg_f sg_x sg_m w_op w_a f_rd)) (C := RX6) (T := TX6) (N := 8) hx hb hts inX6 hown hK hP 0 rfl rfl 5 (by decide) (hts _ kt_175) (fun _ h => h) rfl dX6_pass_72 ?_
        refine lv_aload_n hx hb dX6_pass_75 rfl (lv_at hl 0 rfl) ?_
        refine va_get (D := D) (ci := 6) (v := .ref q_rd) (C := RX6) (T := TX6) (N := 8) hx hb hts inX6 hown hK hP 0 rfl rfl 7 (by decide) (hts _ kt_177) (fun _ h => h) rfl dX6_pass_76 ?_
        refine lv_aload_n hx hb dX6_pass_79 rfl (lv_at hl 1 rfl) ?_
        refine va_get (D := D) (ci := 8) (v := .int w_b) (C := RX8) (T := TX8) (N := 6) hx hb hts inX8 hown hK hP 1 rfl rfl 4 (by decide) (hts _ kt_112) (fun _ h => h) rfl dX6_pass_80 ?_
        refine va_iald hx hb hK hP 2 0 rfl rfl hb_ dX6_pass_83 ?_
        refine lv_iconst (v := 1) hx hb dX6_pass_84 (by decide) ?_
        refine lv_iadd hx hb dX6_pass_85 ?_
        refine va_mmax hx hb (hml.trans hl.1.symm) hown (hts _ kt_430) (hts _ kt_352) (hts _ kt_13) (hts _ kt_353) (by decide) (Nat.le_of_ble_eq_true rfl) (Nat.le_refl _) (Nat.le_refl _) dX6_pass_86 ?_
        refine W.eq (g2 := F0 m 89 ls [.int (S_pass_86_max sg_f sg_x sg_m w_op w_a w_b f_rd), .ref q_sg]) rfl ?_
        refine va_put (D := D) (ci := 6) (v := .int (S_pass_86_max sg_f sg_x sg_m w_op w_a w_b f_rd)) (ty := .int) (C := RX6) (T := TX6) (N := 8) hx hb hts inX6 tyX6 tyX6_ok nmX6 hown hK hP hD hS 0 rfl rfl 5 (by decide) (hts _ kt_175) (fun _ h => h) rfl (by decide +kernel) rfl rfl (Nat.le_of_ble_eq_true rfl) dX6_pass_89 (fun H locs hP hD hS => ?_)
        have hP : va_P D vwCl [(q_sg, .inr (6, [.int sg_f, .int sg_xe, .int sg_me, .int sg_w, .int (S_pass_11_max sg_f sg_x), .int (S_pass_86_max sg_f sg_x sg_m w_op w_a w_b f_rd), .int sg_m, .ref q_rd])), (q_w, .inr (8, [.int w_pc, .int w_op, .int w_d, .int w_a, .int w_b, .int w_i])), (q_rd, .inl (cI, 16, .inl f_rd))] H := hP
        have hD : va_D A [(q_sg, .inr (6, [.int sg_f, .int sg_xe, .int sg_me, .int sg_w, .int (S_pass_11_max sg_f sg_x), .int (S_pass_86_max sg_f sg_x sg_m w_op w_a w_b f_rd), .int sg_m, .ref q_rd])), (q_w, .inr (8, [.int w_pc, .int w_op, .int w_d, .int w_a, .int w_b, .int w_i])), (q_rd, .inl (cI, 16, .inl f_rd))] := hD
        have e0 : (S_pass_92_sg_x sg_f sg_x sg_m w_op w_a w_b f_rd) = (S_pass_86_max sg_f sg_x sg_m w_op w_a w_b f_rd) := (if_neg c67)
        have k92 := k92 _ _ _ ⟨(by rw [e0]; exact hP), (by rw [e0]; exact hD), hS, hl⟩
        exact k92
  · refine lv_if_eq (tgt := 63) hx hb dX6_pass_38 rfl (fun c38 => ?_) (fun c38 => ?_)
    · have e0 : (S_pass_63_sg_x sg_f sg_x sg_m w_op w_a f_rd) = (S_pass_28_max sg_f sg_x sg_m) := (if_pos c38)
      have k63 := k63 _ _ _ ⟨(by rw [e0]; exact hP), (by rw [e0]; exact hD), hS, hl⟩
      exact k63
    · refine lv_aload_n hx hb dX6_pass_41 rfl (lv_at hl 0 rfl) ?_
      refine lv_aload_n hx hb dX6_pass_42 rfl (lv_at hl 0 rfl) ?_
      refine va_get (D := D) (ci := 6) (v := .int (S_pass_28_max sg_f sg_x sg_m)) (C := RX6) (T := TX6) (N := 8) hx hb hts inX6 hown hK hP 0 rfl rfl 5 (by decide) (hts _ kt_175) (fun _ h => h) rfl dX6_pass_43 ?_
      refine lv_aload_n hx hb dX6_pass_46 rfl (lv_at hl 0 rfl) ?_
      refine W.eq (g2 := F0 m 47 ls [.ref q_sg, .int (S_pass_28_max sg_f sg_x sg_m), .ref q_sg]) rfl ?_
      refine va_get (D := D) (ci := 6) (v := .ref q_rd) (C := RX6) (T := TX6) (N := 8) hx hb hts inX6 hown hK hP 0 rfl rfl 7 (by decide) (hts _ kt_177) (fun _ h => h) rfl dX6_pass_47 ?_
      refine lv_aload_n hx hb dX6_pass_50 rfl (lv_at hl 1 rfl) ?_
      refine va_get (D := D) (ci := 8) (v := .int w_a) (C := RX8) (T := TX8) (N := 6) hx hb hts inX8 hown hK hP 1 rfl rfl 3 (by decide) (hts _ kt_109) (fun _ h => h) rfl dX6_pass_51 ?_
      refine va_iald hx hb hK hP 2 0 rfl rfl ha dX6_pass_54 ?_
      refine lv_iconst (v := 1) hx hb dX6_pass_55 (by decide) ?_
      refine lv_iadd hx hb dX6_pass_56 ?_
      refine va_mmax hx hb (hml.trans hl.1.symm) hown (hts _ kt_430) (hts _ kt_352) (hts _ kt_13) (hts _ kt_353) (by decide) (Nat.le_of_ble_eq_true rfl) (Nat.le_refl _) (Nat.le_refl _) dX6_pass_57 ?_
      refine W.eq (g2 := F0 m 60 ls [.int (S_pass_57_max sg_f sg_x sg_m w_a f_rd), .ref q_sg]) rfl ?_
      refine va_put (D := D) (ci := 6) (v := .int (S_pass_57_max sg_f sg_x sg_m w_a f_rd)) (ty := .int) (C := RX6) (T := TX6) (N := 8) hx hb hts inX6 tyX6 tyX6_ok nmX6 hown hK hP hD hS 0 rfl rfl 5 (by decide) (hts _ kt_175) (fun _ h => h) rfl (by decide +kernel) rfl rfl (Nat.le_of_ble_eq_true rfl) dX6_pass_60 (fun H locs hP hD hS => ?_)
      have hP : va_P D vwCl [(q_sg, .inr (6, [.int sg_f, .int sg_xe, .int sg_me, .int sg_w, .int (S_pass_11_max sg_f sg_x), .int (S_pass_57_max sg_f sg_x sg_m w_a f_rd), .int sg_m, .ref q_rd])), (q_w, .inr (8, [.int w_pc, .int w_op, .int w_d, .int w_a, .int w_b, .int w_i])), (q_rd, .inl (cI, 16, .inl f_rd))] H := hP
      have hD : va_D A [(q_sg, .inr (6, [.int sg_f, .int sg_xe, .int sg_me, .int sg_w, .int (S_pass_11_max sg_f sg_x), .int (S_pass_57_max sg_f sg_x sg_m w_a f_rd), .int sg_m, .ref q_rd])), (q_w, .inr (8, [.int w_pc, .int w_op, .int w_d, .int w_a, .int w_b, .int w_i])), (q_rd, .inl (cI, 16, .inl f_rd))] := hD
      have e0 : (S_pass_63_sg_x sg_f sg_x sg_m w_op w_a f_rd) = (S_pass_57_max sg_f sg_x sg_m w_a f_rd) := (if_neg c38)
      have k63 := k63 _ _ _ ⟨(by rw [e0]; exact hP), (by rw [e0]; exact hD), hS, hl⟩
      exact k63
