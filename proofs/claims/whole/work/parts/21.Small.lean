set_option maxHeartbeats 4000000 in
set_option maxRecDepth 100000 in
theorem c_C_top (l : Launch) (D : va_G) (cI cJ : ClassId) (q_ca : Nat) (q_ri : Nat) (ca_size : Int32) (ca_newest : Int32) (f_ri : Nat → Int32) (hn : vp_in ca_newest 8) (sz : Nat) : Met l yX0_top (.code yX0_top cX0_top 1 (some .int) :: gU) { frames := 0, cells := 0, slots := 0, locals := 0 } (va_Pc [.ref q_ca] (mP D vwCl (tyS cI cJ) [(q_ca, .inr (0, [.int ca_size, .int ca_newest, .ref q_ri])), (q_ri, .inl (cI, 8, .inl f_ri))] sz)) (qI D vwCl (tyS cI cJ) [(q_ca, .inr (0, [.int ca_size, .int ca_newest, .ref q_ri])), (q_ri, .inl (cI, 8, .inl f_ri))] (f_ri (Int32.toNatClampNeg ca_newest)) (va_A [(q_ca, .inr (0, [.int ca_size, .int ca_newest, .ref q_ri])), (q_ri, .inl (cI, 8, .inl f_ri))] sz)) 0 0 (va_A [(q_ca, .inr (0, [.int ca_size, .int ca_newest, .ref q_ri])), (q_ri, .inl (cI, 8, .inl f_ri))] sz) := by
  refine m_go (y := yX0_top) (cc := cX0_top) (ml := 1) (rt := (some .int)) (av := [.ref q_ca]) (cs := [(q_ca, .inr (0, [.int ca_size, .int ca_newest, .ref q_ri])), (q_ri, .inl (cI, 8, .inl f_ri))]) (fun A => qI D vwCl (tyS cI cJ) [(q_ca, .inr (0, [.int ca_size, .int ca_newest, .ref q_ri])), (q_ri, .inl (cI, 8, .inl f_ri))] (f_ri (Int32.toNatClampNeg ca_newest)) A) (by decide) (Nat.le_of_ble_eq_true rfl) ?_
  intro p e s m below meth c A ls hx hb hr hlk hml hts hown _ hA hP hK hD hS hl _
  have hl : lv_has ls 1 [(0, .ref q_ca)] := hl
  refine lv_aload_n hx hb dX0_top_0 rfl (lv_at hl 0 rfl) ?_
  refine va_get (D := D) (ci := 0) (v := .ref q_ri) (C := RX0) (T := TX0) (N := 3) hx hb hts inX0 hown hK hP 0 rfl rfl 2 (by decide) (hts _ kt_210) (fun _ h => h) rfl dX0_top_1 ?_
  refine lv_aload_n hx hb dX0_top_4 rfl (lv_at hl 0 rfl) ?_
  refine va_get (D := D) (ci := 0) (v := .int ca_newest) (C := RX0) (T := TX0) (N := 3) hx hb hts inX0 hown hK hP 0 rfl rfl 1 (by decide) (hts _ kt_209) (fun _ h => h) rfl dX0_top_5 ?_
  refine va_iald hx hb hK hP 1 0 rfl rfl hn dX0_top_8 ?_
  exact e_i hx hb hr hlk hK hP hD hS rfl dX0_top_9
def C_push_x_ca_size (ca_size : Int32) : Int32 := (if 8 ≤ ca_size then ca_size else (ca_size + 1))
set_option maxHeartbeats 4000000 in
set_option maxRecDepth 100000 in
theorem c_C_push (l : Launch) (D : va_G) (cI cJ : ClassId) (q_ca : Nat) (q_ri : Nat) (pc_ : Int32) (ca_size : Int32) (ca_newest : Int32) (f_ri : Nat → Int32) (sz : Nat) : Met l yX0_push (.code yX0_push cX0_push 2 none :: gU) { frames := 0, cells := 0, slots := 0, locals := 0 } (va_Pc [.ref q_ca, .int pc_] (mP D vwCl (tyS cI cJ) [(q_ca, .inr (0, [.int ca_size, .int ca_newest, .ref q_ri])), (q_ri, .inl (cI, 8, .inl f_ri))] sz)) (qV D vwCl (tyS cI cJ) [(q_ca, .inr (0, [.int (C_push_x_ca_size ca_size), .int ((ca_newest + 1) &&& 7), .ref q_ri])), (q_ri, .inl (cI, 8, .inl (upd f_ri (Int32.toNatClampNeg ((ca_newest + 1) &&& 7)) pc_)))] (va_A [(q_ca, .inr (0, [.int ca_size, .int ca_newest, .ref q_ri])), (q_ri, .inl (cI, 8, .inl f_ri))] sz)) 0 0 (va_A [(q_ca, .inr (0, [.int ca_size, .int ca_newest, .ref q_ri])), (q_ri, .inl (cI, 8, .inl f_ri))] sz) := by
  refine m_go (y := yX0_push) (cc := cX0_push) (ml := 2) (rt := none) (av := [.ref q_ca, .int pc_]) (cs := [(q_ca, .inr (0, [.int ca_size, .int ca_newest, .ref q_ri])), (q_ri, .inl (cI, 8, .inl f_ri))]) (fun A => qV D vwCl (tyS cI cJ) [(q_ca, .inr (0, [.int (C_push_x_ca_size ca_size), .int ((ca_newest + 1) &&& 7), .ref q_ri])), (q_ri, .inl (cI, 8, .inl (upd f_ri (Int32.toNatClampNeg ((ca_newest + 1) &&& 7)) pc_)))] A) (by decide) (Nat.le_of_ble_eq_true rfl) ?_
  intro p e s m below meth c A ls hx hb hr hlk hml hts hown _ hA hP hK hD hS hl _
  have hl : lv_has ls 2 [(0, .ref q_ca), (1, .int pc_)] := hl
  refine lv_aload_n hx hb dX0_push_0 rfl (lv_at hl 0 rfl) ?_
  refine lv_aload_n hx hb dX0_push_1 rfl (lv_at hl 0 rfl) ?_
  refine va_get (D := D) (ci := 0) (v := .int ca_newest) (C := RX0) (T := TX0) (N := 3) hx hb hts inX0 hown hK hP 0 rfl rfl 1 (by decide) (hts _ kt_209) (fun _ h => h) rfl dX0_push_2 ?_
  refine lv_iconst (v := 1) hx hb dX0_push_5 (by decide) ?_
  refine lv_iadd hx hb dX0_push_6 ?_
  refine lv_bipush (v := 7) hx hb dX0_push_7 (by decide) ?_
  refine lv_iand hx hb dX0_push_9 ?_
  refine va_put (D := D) (ci := 0) (v := .int ((ca_newest + 1) &&& 7)) (ty := .int) (C := RX0) (T := TX0) (N := 3) hx hb hts inX0 tyX0 tyX0_ok nmX0 hown hK hP hD hS 0 rfl rfl 1 (by decide) (hts _ kt_209) (fun _ h => h) rfl (by decide +kernel) rfl rfl (Nat.le_of_ble_eq_true rfl) dX0_push_10 (fun H locs hP hD hS => ?_)
  have hP : va_P D vwCl [(q_ca, .inr (0, [.int ca_size, .int ((ca_newest + 1) &&& 7), .ref q_ri])), (q_ri, .inl (cI, 8, .inl f_ri))] H := hP
  have hD : va_D A [(q_ca, .inr (0, [.int ca_size, .int ((ca_newest + 1) &&& 7), .ref q_ri])), (q_ri, .inl (cI, 8, .inl f_ri))] := hD
  refine lv_aload_n hx hb dX0_push_13 rfl (lv_at hl 0 rfl) ?_
  refine va_get (D := D) (ci := 0) (v := .ref q_ri) (C := RX0) (T := TX0) (N := 3) hx hb hts inX0 hown hK hP 0 rfl rfl 2 (by decide) (hts _ kt_210) (fun _ h => h) rfl dX0_push_14 ?_
  refine lv_aload_n hx hb dX0_push_17 rfl (lv_at hl 0 rfl) ?_
  refine va_get (D := D) (ci := 0) (v := .int ((ca_newest + 1) &&& 7)) (C := RX0) (T := TX0) (N := 3) hx hb hts inX0 hown hK hP 0 rfl rfl 1 (by decide) (hts _ kt_209) (fun _ h => h) rfl dX0_push_18 ?_
  refine W.eq (g2 := F0 m 21 ls [.int ((ca_newest + 1) &&& 7), .ref q_ri]) rfl ?_
  refine lv_iload_n hx hb dX0_push_21 rfl (lv_at hl 1 rfl) ?_
  refine va_iast hx hb hK hP hD hS 1 0 rfl rfl (in7 (ca_newest + 1)) dX0_push_22 (fun H locs hP hD hS => ?_)
  have hP : va_P D vwCl [(q_ca, .inr (0, [.int ca_size, .int ((ca_newest + 1) &&& 7), .ref q_ri])), (q_ri, .inl (cI, 8, .inl (upd f_ri (Int32.toNatClampNeg ((ca_newest + 1) &&& 7)) pc_)))] H := hP
  have hD : va_D A [(q_ca, .inr (0, [.int ca_size, .int ((ca_newest + 1) &&& 7), .ref q_ri])), (q_ri, .inl (cI, 8, .inl (upd f_ri (Int32.toNatClampNeg ((ca_newest + 1) &&& 7)) pc_)))] := hD
  refine lv_aload_n hx hb dX0_push_23 rfl (lv_at hl 0 rfl) ?_
  refine va_get (D := D) (ci := 0) (v := .int ca_size) (C := RX0) (T := TX0) (N := 3) hx hb hts inX0 hown hK hP 0 rfl rfl 0 (by decide) (hts _ kt_208) (fun _ h => h) rfl dX0_push_24 ?_
  refine lv_bipush (v := 8) hx hb dX0_push_27 (by decide) ?_
  refine lv_icmp_ge (tgt := 42) hx hb dX0_push_29 rfl (fun c29 => ?_) (fun c29 => ?_)
  · have e0 : (C_push_x_ca_size ca_size) = ca_size := (if_pos c29)
    exact e_v hx hb hr hlk hK (by rw [e0]; exact hP) (by rw [e0]; exact hD) hS dX0_push_42
  · refine lv_aload_n hx hb dX0_push_32 rfl (lv_at hl 0 rfl) ?_
    refine lv_dup hx hb dX0_push_33 rfl ?_
    refine va_get (D := D) (ci := 0) (v := .int ca_size) (C := RX0) (T := TX0) (N := 3) hx hb hts inX0 hown hK hP 0 rfl rfl 0 (by decide) (hts _ kt_208) (fun _ h => h) rfl dX0_push_34 ?_
    refine lv_iconst (v := 1) hx hb dX0_push_37 (by decide) ?_
    refine lv_iadd hx hb dX0_push_38 ?_
    refine va_put (D := D) (ci := 0) (v := .int (ca_size + 1)) (ty := .int) (C := RX0) (T := TX0) (N := 3) hx hb hts inX0 tyX0 tyX0_ok nmX0 hown hK hP hD hS 0 rfl rfl 0 (by decide) (hts _ kt_208) (fun _ h => h) rfl (by decide +kernel) rfl rfl (Nat.le_of_ble_eq_true rfl) dX0_push_39 (fun H locs hP hD hS => ?_)
    have hP : va_P D vwCl [(q_ca, .inr (0, [.int (ca_size + 1), .int ((ca_newest + 1) &&& 7), .ref q_ri])), (q_ri, .inl (cI, 8, .inl (upd f_ri (Int32.toNatClampNeg ((ca_newest + 1) &&& 7)) pc_)))] H := hP
    have hD : va_D A [(q_ca, .inr (0, [.int (ca_size + 1), .int ((ca_newest + 1) &&& 7), .ref q_ri])), (q_ri, .inl (cI, 8, .inl (upd f_ri (Int32.toNatClampNeg ((ca_newest + 1) &&& 7)) pc_)))] := hD
    have e0 : (C_push_x_ca_size ca_size) = (ca_size + 1) := (if_neg c29)
    exact e_v hx hb hr hlk hK (by rw [e0]; exact hP) (by rw [e0]; exact hD) hS dX0_push_42
def C_pop_x_ca_size (ca_size : Int32) : Int32 := (if ca_size ≤ 0 then ca_size else (ca_size - 1))
def C_pop_x_ca_newest (ca_size : Int32) (ca_newest : Int32) : Int32 := (if ca_size ≤ 0 then ca_newest else ((ca_newest - 1) &&& 7))
set_option maxHeartbeats 4000000 in
set_option maxRecDepth 100000 in
theorem c_C_pop (l : Launch) (D : va_G) (cI cJ : ClassId) (q_ca : Nat) (q_ri : Nat) (ca_size : Int32) (ca_newest : Int32) (sz : Nat) : Met l yX0_pop (.code yX0_pop cX0_pop 1 none :: gU) { frames := 0, cells := 0, slots := 0, locals := 0 } (va_Pc [.ref q_ca] (mP D vwCl (tyS cI cJ) [(q_ca, .inr (0, [.int ca_size, .int ca_newest, .ref q_ri]))] sz)) (qV D vwCl (tyS cI cJ) [(q_ca, .inr (0, [.int (C_pop_x_ca_size ca_size), .int (C_pop_x_ca_newest ca_size ca_newest), .ref q_ri]))] (va_A [(q_ca, .inr (0, [.int ca_size, .int ca_newest, .ref q_ri]))] sz)) 0 0 (va_A [(q_ca, .inr (0, [.int ca_size, .int ca_newest, .ref q_ri]))] sz) := by
  refine m_go (y := yX0_pop) (cc := cX0_pop) (ml := 1) (rt := none) (av := [.ref q_ca]) (cs := [(q_ca, .inr (0, [.int ca_size, .int ca_newest, .ref q_ri]))]) (fun A => qV D vwCl (tyS cI cJ) [(q_ca, .inr (0, [.int (C_pop_x_ca_size ca_size), .int (C_pop_x_ca_newest ca_size ca_newest), .ref q_ri]))] A) (by decide) (Nat.le_of_ble_eq_true rfl) ?_
  intro p e s m below meth c A ls hx hb hr hlk hml hts hown _ hA hP hK hD hS hl _
  have hl : lv_has ls 1 [(0, .ref q_ca)] := hl
  refine lv_aload_n hx hb dX0_pop_0 rfl (lv_at hl 0 rfl) ?_
  refine va_get (D := D) (ci := 0) (v := .int ca_size) (C := RX0) (T := TX0) (N := 3) hx hb hts inX0 hown hK hP 0 rfl rfl 0 (by decide) (hts _ kt_208) (fun _ h => h) rfl dX0_pop_1 ?_
  refine lv_if_le (tgt := 30) hx hb dX0_pop_4 rfl (fun c4 => ?_) (fun c4 => ?_)
  · have e0 : (C_pop_x_ca_size ca_size) = ca_size := (if_pos c4)
    have e1 : (C_pop_x_ca_newest ca_size ca_newest) = ca_newest := (if_pos c4)
    exact e_v hx hb hr hlk hK (by rw [e0, e1]; exact hP) (by rw [e0, e1]; exact hD) hS dX0_pop_30
  · refine lv_aload_n hx hb dX0_pop_7 rfl (lv_at hl 0 rfl) ?_
    refine lv_aload_n hx hb dX0_pop_8 rfl (lv_at hl 0 rfl) ?_
    refine va_get (D := D) (ci := 0) (v := .int ca_newest) (C := RX0) (T := TX0) (N := 3) hx hb hts inX0 hown hK hP 0 rfl rfl 1 (by decide) (hts _ kt_209) (fun _ h => h) rfl dX0_pop_9 ?_
    refine lv_iconst (v := 1) hx hb dX0_pop_12 (by decide) ?_
    refine lv_isub hx hb dX0_pop_13 ?_
    refine lv_bipush (v := 7) hx hb dX0_pop_14 (by decide) ?_
    refine lv_iand hx hb dX0_pop_16 ?_
    refine va_put (D := D) (ci := 0) (v := .int ((ca_newest - 1) &&& 7)) (ty := .int) (C := RX0) (T := TX0) (N := 3) hx hb hts inX0 tyX0 tyX0_ok nmX0 hown hK hP hD hS 0 rfl rfl 1 (by decide) (hts _ kt_209) (fun _ h => h) rfl (by decide +kernel) rfl rfl (Nat.le_of_ble_eq_true rfl) dX0_pop_17 (fun H locs hP hD hS => ?_)
    have hP : va_P D vwCl [(q_ca, .inr (0, [.int ca_size, .int ((ca_newest - 1) &&& 7), .ref q_ri]))] H := hP
    have hD : va_D A [(q_ca, .inr (0, [.int ca_size, .int ((ca_newest - 1) &&& 7), .ref q_ri]))] := hD
    refine lv_aload_n hx hb dX0_pop_20 rfl (lv_at hl 0 rfl) ?_
    refine lv_dup hx hb dX0_pop_21 rfl ?_
    refine W.eq (g2 := F0 m 22 ls [.ref q_ca, .ref q_ca]) rfl ?_
    refine va_get (D := D) (ci := 0) (v := .int ca_size) (C := RX0) (T := TX0) (N := 3) hx hb hts inX0 hown hK hP 0 rfl rfl 0 (by decide) (hts _ kt_208) (fun _ h => h) rfl dX0_pop_22 ?_
    refine lv_iconst (v := 1) hx hb dX0_pop_25 (by decide) ?_
    refine lv_isub hx hb dX0_pop_26 ?_
    refine va_put (D := D) (ci := 0) (v := .int (ca_size - 1)) (ty := .int) (C := RX0) (T := TX0) (N := 3) hx hb hts inX0 tyX0 tyX0_ok nmX0 hown hK hP hD hS 0 rfl rfl 0 (by decide) (hts _ kt_208) (fun _ h => h) rfl (by decide +kernel) rfl rfl (Nat.le_of_ble_eq_true rfl) dX0_pop_27 (fun H locs hP hD hS => ?_)
    have hP : va_P D vwCl [(q_ca, .inr (0, [.int (ca_size - 1), .int ((ca_newest - 1) &&& 7), .ref q_ri]))] H := hP
    have hD : va_D A [(q_ca, .inr (0, [.int (ca_size - 1), .int ((ca_newest - 1) &&& 7), .ref q_ri]))] := hD
    have e0 : (C_pop_x_ca_size ca_size) = (ca_size - 1) := (if_neg c4)
    have e1 : (C_pop_x_ca_newest ca_size ca_newest) = ((ca_newest - 1) &&& 7) := (if_neg c4)
    exact e_v hx hb hr hlk hK (by rw [e0, e1]; exact hP) (by rw [e0, e1]; exact hD) hS dX0_pop_30
def L_miss_3_l2 (ad_ : Int32) : Int32 := ((Int32.toUInt32 ad_ >>> (Int32.toUInt32 (2 : Int32) &&& Int32.toUInt32 31)).toInt32)
def L_miss_24_s0 (ad_ : Int32) (f_he : Nat → Int32) : Int32 := (if (f_he (Int32.toNatClampNeg ((L_miss_3_l2 ad_) &&& 15))) = (L_miss_3_l2 ad_) then 0 else 1)
theorem L_miss_24_s0_b (ad_ : Int32) (f_he : Nat → Int32) : L_miss_24_s0 ad_ f_he = 0 ∨ L_miss_24_s0 ad_ f_he = 1 := by
  unfold L_miss_24_s0
  repeat' split
  all_goals first | exact Or.inl rfl | exact Or.inr rfl
def L_miss_32_he (ad_ : Int32) (f_he : Nat → Int32) : Nat → Int32 := (upd f_he (Int32.toNatClampNeg ((L_miss_3_l2 ad_) &&& 15)) (L_miss_3_l2 ad_))
set_option maxHeartbeats 4000000 in
set_option maxRecDepth 100000 in
theorem c_L_miss (l : Launch) (D : va_G) (cI cJ : ClassId) (q_ln : Nat) (q_he : Nat) (ad_ : Int32) (f_he : Nat → Int32) (sz : Nat) : Met l yX3_miss (.code yX3_miss cX3_miss 5 (some .boolean) :: gU) { frames := 0, cells := 0, slots := 0, locals := 0 } (va_Pc [.ref q_ln, .int ad_] (mP D vwCl (tyS cI cJ) [(q_ln, .inr (3, [.ref q_he])), (q_he, .inl (cI, 16, .inl f_he))] sz)) (qI D vwCl (tyS cI cJ) [(q_ln, .inr (3, [.ref q_he])), (q_he, .inl (cI, 16, .inl (L_miss_32_he ad_ f_he)))] (L_miss_24_s0 ad_ f_he) (va_A [(q_ln, .inr (3, [.ref q_he])), (q_he, .inl (cI, 16, .inl f_he))] sz)) 0 0 (va_A [(q_ln, .inr (3, [.ref q_he])), (q_he, .inl (cI, 16, .inl f_he))] sz) := by
  refine m_go (y := yX3_miss) (cc := cX3_miss) (ml := 5) (rt := (some .boolean)) (av := [.ref q_ln, .int ad_]) (cs := [(q_ln, .inr (3, [.ref q_he])), (q_he, .inl (cI, 16, .inl f_he))]) (fun A => qI D vwCl (tyS cI cJ) [(q_ln, .inr (3, [.ref q_he])), (q_he, .inl (cI, 16, .inl (L_miss_32_he ad_ f_he)))] (L_miss_24_s0 ad_ f_he) A) (by decide) (Nat.le_of_ble_eq_true rfl) ?_
  intro p e s m below meth c A ls hx hb hr hlk hml hts hown _ hA hP hK hD hS hl _
  have hl : lv_has ls 5 [(0, .ref q_ln), (1, .int ad_)] := hl
  refine lv_iload_n hx hb dX3_miss_0 rfl (lv_at hl 1 rfl) ?_
  refine lv_iconst (v := 2) hx hb dX3_miss_1 (by decide) ?_
  refine lv_iushr hx hb dX3_miss_2 rfl ?_
  refine W.eq (g2 := F0 m 3 ls [.int (L_miss_3_l2 ad_)]) rfl ?_
  refine lv_istore_n hx hb dX3_miss_3 rfl hl (by decide) rfl (fun ls hl => ?_)
  have hl : lv_has ls 5 [(2, .int (L_miss_3_l2 ad_)), (0, .ref q_ln), (1, .int ad_)] := hl
  refine lv_iload_n hx hb dX3_miss_4 rfl (lv_at hl 0 rfl) ?_
  refine lv_bipush (v := 15) hx hb dX3_miss_5 (by decide) ?_
  refine lv_iand hx hb dX3_miss_7 ?_
  refine lv_istore_n hx hb dX3_miss_8 rfl hl (by decide) rfl (fun ls hl => ?_)
  have hl : lv_has ls 5 [(3, .int ((L_miss_3_l2 ad_) &&& 15)), (2, .int (L_miss_3_l2 ad_)), (0, .ref q_ln), (1, .int ad_)] := hl
  refine lv_aload_n hx hb dX3_miss_9 rfl (lv_at hl 2 rfl) ?_
  refine va_get (D := D) (ci := 3) (v := .ref q_he) (C := RX3) (T := TX3) (N := 1) hx hb hts inX3 hown hK hP 0 rfl rfl 0 (by decide) (hts _ kt_246) (fun _ h => h) rfl dX3_miss_10 ?_
  refine lv_iload_n hx hb dX3_miss_13 rfl (lv_at hl 0 rfl) ?_
  refine va_iald hx hb hK hP 1 0 rfl rfl (in15 (L_miss_3_l2 ad_)) dX3_miss_14 ?_
  refine W.eq (g2 := F0 m 15 ls [.int (f_he (Int32.toNatClampNeg ((L_miss_3_l2 ad_) &&& 15)))]) rfl ?_
  refine lv_iload_n hx hb dX3_miss_15 rfl (lv_at hl 1 rfl) ?_
  refine w_j (J := 24) (st := [.int (L_miss_24_s0 ad_ f_he)]) (fun H locs ls => va_P D vwCl [(q_ln, .inr (3, [.ref q_he])), (q_he, .inl (cI, 16, .inl f_he))] H ∧ va_D A [(q_ln, .inr (3, [.ref q_he])), (q_he, .inl (cI, 16, .inl f_he))] ∧ va_S A s.heap H locs ∧ lv_has ls 5 [(3, .int ((L_miss_3_l2 ad_) &&& 15)), (2, .int (L_miss_3_l2 ad_)), (0, .ref q_ln), (1, .int ad_)]) (fun H locs ls hJ => ?_) (fun k24 => ?_)
  · obtain ⟨hP, hD, hS, hl⟩ := hJ
    refine lv_istore hx hb dX3_miss_24 hl (by decide) rfl (fun ls hl => ?_)
    have hl : lv_has ls 5 [(4, .int (L_miss_24_s0 ad_ f_he)), (3, .int ((L_miss_3_l2 ad_) &&& 15)), (2, .int (L_miss_3_l2 ad_)), (0, .ref q_ln), (1, .int ad_)] := hl
    refine lv_aload_n hx hb dX3_miss_26 rfl (lv_at hl 3 rfl) ?_
    refine va_get (D := D) (ci := 3) (v := .ref q_he) (C := RX3) (T := TX3) (N := 1) hx hb hts inX3 hown hK hP 0 rfl rfl 0 (by decide) (hts _ kt_246) (fun _ h => h) rfl dX3_miss_27 ?_
    refine lv_iload_n hx hb dX3_miss_30 rfl (lv_at hl 1 rfl) ?_
    refine lv_iload_n hx hb dX3_miss_31 rfl (lv_at hl 2 rfl) ?_
    refine va_iast hx hb hK hP hD hS 1 0 rfl rfl (in15 (L_miss_3_l2 ad_)) dX3_miss_32 (fun H locs hP hD hS => ?_)
    have hP : va_P D vwCl [(q_ln, .inr (3, [.ref q_he])), (q_he, .inl (cI, 16, .inl (L_miss_32_he ad_ f_he)))] H := hP
    have hD : va_D A [(q_ln, .inr (3, [.ref q_he])), (q_he, .inl (cI, 16, .inl (L_miss_32_he ad_ f_he)))] := hD
    refine lv_iload hx hb dX3_miss_33 (lv_at hl 0 rfl) ?_
    exact e_z hx hb hr hlk hK hP hD hS rfl (nz (L_miss_24_s0_b ad_ f_he)).1 dX3_miss_35
  · refine lv_icmp_eq (tgt := 23) hx hb dX3_miss_16 rfl (fun c16 => ?_) (fun c16 => ?_)
    · refine lv_iconst (v := 0) hx hb dX3_miss_23 (by decide) ?_
      have e0 : (L_miss_24_s0 ad_ f_he) = 0 := (if_pos c16)
      have k24 := k24 _ _ _ ⟨hP, hD, hS, hl⟩
      refine W.eq (g2 := F0 m 24 ls [.int 0]) rfl ?_
      exact W.eq (by rw [e0]) k24
    · refine lv_iconst (v := 1) hx hb dX3_miss_19 (by decide) ?_
      refine lv_goto (tgt := 24) hx hb dX3_miss_20 rfl ?_
      have e0 : (L_miss_24_s0 ad_ f_he) = 1 := (if_neg c16)
      have k24 := k24 _ _ _ ⟨hP, hD, hS, hl⟩
      refine W.eq (g2 := F0 m 24 ls [.int 1]) rfl ?_
      exact W.eq (by rw [e0]) k24
def O_kept_7_min (o_total : Int32) : Int32 := (if 1000 < o_total then 1000 else o_total)
set_option maxHeartbeats 4000000 in
set_option maxRecDepth 100000 in
theorem c_O_kept (l : Launch) (D : va_G) (cI cJ : ClassId) (q_o : Nat) (q_fi : Nat) (o_total : Int32) (sz : Nat) : Met l yX5_kept (.code yX5_kept cX5_kept 1 (some .int) :: gU) { frames := 1, cells := 0, slots := 0, locals := 23 } (va_Pc [.ref q_o] (mP D vwCl (tyS cI cJ) [(q_o, .inr (5, [.ref q_fi, .int o_total]))] sz)) (qI D vwCl (tyS cI cJ) [(q_o, .inr (5, [.ref q_fi, .int o_total]))] (O_kept_7_min o_total) (va_A [(q_o, .inr (5, [.ref q_fi, .int o_total]))] sz)) 0 0 (va_A [(q_o, .inr (5, [.ref q_fi, .int o_total]))] sz) := by
  refine m_go (y := yX5_kept) (cc := cX5_kept) (ml := 1) (rt := (some .int)) (av := [.ref q_o]) (cs := [(q_o, .inr (5, [.ref q_fi, .int o_total]))]) (fun A => qI D vwCl (tyS cI cJ) [(q_o, .inr (5, [.ref q_fi, .int o_total]))] (O_kept_7_min o_total) A) (by decide) (Nat.le_of_ble_eq_true rfl) ?_
  intro p e s m below meth c A ls hx hb hr hlk hml hts hown _ hA hP hK hD hS hl _
  have hl : lv_has ls 1 [(0, .ref q_o)] := hl
  refine lv_aload_n hx hb dX5_kept_0 rfl (lv_at hl 0 rfl) ?_
  refine va_get (D := D) (ci := 5) (v := .int o_total) (C := RX5) (T := TX5) (N := 2) hx hb hts inX5 hown hK hP 0 rfl rfl 1 (by decide) (hts _ kt_42) (fun _ h => h) rfl dX5_kept_1 ?_
  refine lv_sipush (v := 1000) hx hb dX5_kept_4 (by decide) ?_
  refine va_mmin hx hb (hml.trans hl.1.symm) hown (hts _ kt_632) (hts _ kt_349) (hts _ kt_13) (hts _ kt_350) (by decide) (Nat.le_of_ble_eq_true rfl) (Nat.le_refl _) (Nat.le_refl _) dX5_kept_7 ?_
  refine W.eq (g2 := F0 m 10 ls [.int (O_kept_7_min o_total)]) rfl ?_
  exact e_i hx hb hr hlk hK hP hD hS rfl dX5_kept_10
def O_put_20_fi (va_ : Int32) (o_total : Int32) (f_fi : Nat → Int32) : Nat → Int32 := (if 1000 ≤ o_total then f_fi else (upd f_fi (Int32.toNatClampNeg o_total) va_))
set_option maxHeartbeats 4000000 in
set_option maxRecDepth 100000 in
theorem c_O_put (l : Launch) (D : va_G) (cI cJ : ClassId) (q_o : Nat) (q_fi : Nat) (va_ : Int32) (o_total : Int32) (f_fi : Nat → Int32) (ht : ¬ o_total < 0) (sz : Nat) : Met l yX5_put (.code yX5_put cX5_put 2 none :: gU) { frames := 0, cells := 0, slots := 0, locals := 0 } (va_Pc [.ref q_o, .int va_] (mP D vwCl (tyS cI cJ) [(q_o, .inr (5, [.ref q_fi, .int o_total])), (q_fi, .inl (cI, 1000, .inl f_fi))] sz)) (qV D vwCl (tyS cI cJ) [(q_o, .inr (5, [.ref q_fi, .int (o_total + 1)])), (q_fi, .inl (cI, 1000, .inl (O_put_20_fi va_ o_total f_fi)))] (va_A [(q_o, .inr (5, [.ref q_fi, .int o_total])), (q_fi, .inl (cI, 1000, .inl f_fi))] sz)) 0 0 (va_A [(q_o, .inr (5, [.ref q_fi, .int o_total])), (q_fi, .inl (cI, 1000, .inl f_fi))] sz) := by
  refine m_go (y := yX5_put) (cc := cX5_put) (ml := 2) (rt := none) (av := [.ref q_o, .int va_]) (cs := [(q_o, .inr (5, [.ref q_fi, .int o_total])), (q_fi, .inl (cI, 1000, .inl f_fi))]) (fun A => qV D vwCl (tyS cI cJ) [(q_o, .inr (5, [.ref q_fi, .int (o_total + 1)])), (q_fi, .inl (cI, 1000, .inl (O_put_20_fi va_ o_total f_fi)))] A) (by decide) (Nat.le_of_ble_eq_true rfl) ?_
  intro p e s m below meth c A ls hx hb hr hlk hml hts hown _ hA hP hK hD hS hl _
  have hl : lv_has ls 2 [(0, .ref q_o), (1, .int va_)] := hl
  refine lv_aload_n hx hb dX5_put_0 rfl (lv_at hl 0 rfl) ?_
  refine va_get (D := D) (ci := 5) (v := .int o_total) (C := RX5) (T := TX5) (N := 2) hx hb hts inX5 hown hK hP 0 rfl rfl 1 (by decide) (hts _ kt_42) (fun _ h => h) rfl dX5_put_1 ?_
  refine lv_sipush (v := 1000) hx hb dX5_put_4 (by decide) ?_
  refine w_j (J := 20) (st := []) (fun H locs ls => va_P D vwCl [(q_o, .inr (5, [.ref q_fi, .int o_total])), (q_fi, .inl (cI, 1000, .inl (O_put_20_fi va_ o_total f_fi)))] H ∧ va_D A [(q_o, .inr (5, [.ref q_fi, .int o_total])), (q_fi, .inl (cI, 1000, .inl (O_put_20_fi va_ o_total f_fi)))] ∧ va_S A s.heap H locs ∧ lv_has ls 2 [(0, .ref q_o), (1, .int va_)]) (fun H locs ls hJ => ?_) (fun k20 => ?_)
  · obtain ⟨hP, hD, hS, hl⟩ := hJ
    refine lv_aload_n hx hb dX5_put_20 rfl (lv_at hl 0 rfl) ?_
    refine lv_dup hx hb dX5_put_21 rfl ?_
    refine va_get (D := D) (ci := 5) (v := .int o_total) (C := RX5) (T := TX5) (N := 2) hx hb hts inX5 hown hK hP 0 rfl rfl 1 (by decide) (hts _ kt_42) (fun _ h => h) rfl dX5_put_22 ?_
    refine W.eq (g2 := F0 m 25 ls [.int o_total, .ref q_o]) rfl ?_
    refine lv_iconst (v := 1) hx hb dX5_put_25 (by decide) ?_
    refine lv_iadd hx hb dX5_put_26 ?_
    refine va_put (D := D) (ci := 5) (v := .int (o_total + 1)) (ty := .int) (C := RX5) (T := TX5) (N := 2) hx hb hts inX5 tyX5 tyX5_ok nmX5 hown hK hP hD hS 0 rfl rfl 1 (by decide) (hts _ kt_42) (fun _ h => h) rfl (by decide +kernel) rfl rfl (Nat.le_of_ble_eq_true rfl) dX5_put_27 (fun H locs hP hD hS => ?_)
    have hP : va_P D vwCl [(q_o, .inr (5, [.ref q_fi, .int (o_total + 1)])), (q_fi, .inl (cI, 1000, .inl (O_put_20_fi va_ o_total f_fi)))] H := hP
    have hD : va_D A [(q_o, .inr (5, [.ref q_fi, .int (o_total + 1)])), (q_fi, .inl (cI, 1000, .inl (O_put_20_fi va_ o_total f_fi)))] := hD
    exact e_v hx hb hr hlk hK hP hD hS dX5_put_30
  · refine lv_icmp_ge (tgt := 20) hx hb dX5_put_7 rfl (fun c7 => ?_) (fun c7 => ?_)
    · have e0 : (O_put_20_fi va_ o_total f_fi) = f_fi := (if_pos c7)
      have k20 := k20 _ _ _ ⟨(by rw [e0]; exact hP), (by rw [e0]; exact hD), hS, hl⟩
      exact k20
    · refine lv_aload_n hx hb dX5_put_10 rfl (lv_at hl 0 rfl) ?_
      refine va_get (D := D) (ci := 5) (v := .ref q_fi) (C := RX5) (T := TX5) (N := 2) hx hb hts inX5 hown hK hP 0 rfl rfl 0 (by decide) (hts _ kt_40) (fun _ h => h) rfl dX5_put_11 ?_
      refine lv_aload_n hx hb dX5_put_14 rfl (lv_at hl 0 rfl) ?_
      refine va_get (D := D) (ci := 5) (v := .int o_total) (C := RX5) (T := TX5) (N := 2) hx hb hts inX5 hown hK hP 0 rfl rfl 1 (by decide) (hts _ kt_42) (fun _ h => h) rfl dX5_put_15 ?_
      refine lv_iload_n hx hb dX5_put_18 rfl (lv_at hl 1 rfl) ?_
      refine va_iast hx hb hK hP hD hS 1 0 rfl rfl (in_ge ht c7 (by decide)) dX5_put_19 (fun H locs hP hD hS => ?_)
      have hP : va_P D vwCl [(q_o, .inr (5, [.ref q_fi, .int o_total])), (q_fi, .inl (cI, 1000, .inl (upd f_fi (Int32.toNatClampNeg o_total) va_)))] H := hP
      have hD : va_D A [(q_o, .inr (5, [.ref q_fi, .int o_total])), (q_fi, .inl (cI, 1000, .inl (upd f_fi (Int32.toNatClampNeg o_total) va_)))] := hD
      have e0 : (O_put_20_fi va_ o_total f_fi) = (upd f_fi (Int32.toNatClampNeg o_total) va_) := (if_neg c7)
      have k20 := k20 _ _ _ ⟨(by rw [e0]; exact hP), (by rw [e0]; exact hD), hS, hl⟩
      exact k20
set_option maxHeartbeats 4000000 in
set_option maxRecDepth 100000 in
theorem c_T_clear (l : Launch) (D : va_G) (cI cJ : ClassId) (q_t : Nat) (t_ending : Int32) (t_trap : Int32) (t_latestPc : Int32) (t_done : Int32) (t_wrongGuesses : Int32) (t_misses : Int32) (t_branchesTaken : Int32) (sz : Nat) : Met l yX7_clear (.code yX7_clear cX7_clear 1 none :: gU) { frames := 0, cells := 0, slots := 0, locals := 0 } (va_Pc [.ref q_t] (mP D vwCl (tyS cI cJ) [(q_t, .inr (7, [.int t_ending, .int t_trap, .int t_latestPc, .int t_done, .int t_wrongGuesses, .int t_misses, .int t_branchesTaken]))] sz)) (qV D vwCl (tyS cI cJ) [(q_t, .inr (7, [.int 0, .int 0, .int (-1), .int 0, .int 0, .int 0, .int 0]))] (va_A [(q_t, .inr (7, [.int t_ending, .int t_trap, .int t_latestPc, .int t_done, .int t_wrongGuesses, .int t_misses, .int t_branchesTaken]))] sz)) 0 0 (va_A [(q_t, .inr (7, [.int t_ending, .int t_trap, .int t_latestPc, .int t_done, .int t_wrongGuesses, .int t_misses, .int t_branchesTaken]))] sz) := by
  refine m_go (y := yX7_clear) (cc := cX7_clear) (ml := 1) (rt := none) (av := [.ref q_t]) (cs := [(q_t, .inr (7, [.int t_ending, .int t_trap, .int t_latestPc, .int t_done, .int t_wrongGuesses, .int t_misses, .int t_branchesTaken]))]) (fun A => qV D vwCl (tyS cI cJ) [(q_t, .inr (7, [.int 0, .int 0, .int (-1), .int 0, .int 0, .int 0, .int 0]))] A) (by decide) (Nat.le_of_ble_eq_true rfl) ?_
  intro p e s m below meth c A ls hx hb hr hlk hml hts hown _ hA hP hK hD hS hl _
  have hl : lv_has ls 1 [(0, .ref q_t)] := hl
  refine lv_aload_n hx hb dX7_clear_0 rfl (lv_at hl 0 rfl) ?_
  refine lv_iconst (v := 0) hx hb dX7_clear_1 (by decide) ?_
  refine va_put (D := D) (ci := 7) (v := .int 0) (ty := .int) (C := RX7) (T := TX7) (N := 7) hx hb hts inX7 tyX7 tyX7_ok nmX7 hown hK hP hD hS 0 rfl rfl 0 (by decide) (hts _ kt_57) (fun _ h => h) rfl (by decide +kernel) rfl rfl (Nat.le_of_ble_eq_true rfl) dX7_clear_2 (fun H locs hP hD hS => ?_)
  have hP : va_P D vwCl [(q_t, .inr (7, [.int 0, .int t_trap, .int t_latestPc, .int t_done, .int t_wrongGuesses, .int t_misses, .int t_branchesTaken]))] H := hP
  have hD : va_D A [(q_t, .inr (7, [.int 0, .int t_trap, .int t_latestPc, .int t_done, .int t_wrongGuesses, .int t_misses, .int t_branchesTaken]))] := hD
  refine lv_aload_n hx hb dX7_clear_5 rfl (lv_at hl 0 rfl) ?_
  refine lv_iconst (v := 0) hx hb dX7_clear_6 (by decide) ?_
  refine va_put (D := D) (ci := 7) (v := .int 0) (ty := .int) (C := RX7) (T := TX7) (N := 7) hx hb hts inX7 tyX7 tyX7_ok nmX7 hown hK hP hD hS 0 rfl rfl 1 (by decide) (hts _ kt_60) (fun _ h => h) rfl (by decide +kernel) rfl rfl (Nat.le_of_ble_eq_true rfl) dX7_clear_7 (fun H locs hP hD hS => ?_)
  have hP : va_P D vwCl [(q_t, .inr (7, [.int 0, .int 0, .int t_latestPc, .int t_done, .int t_wrongGuesses, .int t_misses, .int t_branchesTaken]))] H := hP
  have hD : va_D A [(q_t, .inr (7, [.int 0, .int 0, .int t_latestPc, .int t_done, .int t_wrongGuesses, .int t_misses, .int t_branchesTaken]))] := hD
  refine lv_aload_n hx hb dX7_clear_10 rfl (lv_at hl 0 rfl) ?_
  refine lv_iconst (v := (-1)) hx hb dX7_clear_11 (by decide) ?_
  refine va_put (D := D) (ci := 7) (v := .int (-1)) (ty := .int) (C := RX7) (T := TX7) (N := 7) hx hb hts inX7 tyX7 tyX7_ok nmX7 hown hK hP hD hS 0 rfl rfl 2 (by decide) (hts _ kt_63) (fun _ h => h) rfl (by decide +kernel) rfl rfl (Nat.le_of_ble_eq_true rfl) dX7_clear_12 (fun H locs hP hD hS => ?_)
  have hP : va_P D vwCl [(q_t, .inr (7, [.int 0, .int 0, .int (-1), .int t_done, .int t_wrongGuesses, .int t_misses, .int t_branchesTaken]))] H := hP
  have hD : va_D A [(q_t, .inr (7, [.int 0, .int 0, .int (-1), .int t_done, .int t_wrongGuesses, .int t_misses, .int t_branchesTaken]))] := hD
  refine lv_aload_n hx hb dX7_clear_15 rfl (lv_at hl 0 rfl) ?_
  refine lv_iconst (v := 0) hx hb dX7_clear_16 (by decide) ?_
  refine va_put (D := D) (ci := 7) (v := .int 0) (ty := .int) (C := RX7) (T := TX7) (N := 7) hx hb hts inX7 tyX7 tyX7_ok nmX7 hown hK hP hD hS 0 rfl rfl 3 (by decide) (hts _ kt_66) (fun _ h => h) rfl (by decide +kernel) rfl rfl (Nat.le_of_ble_eq_true rfl) dX7_clear_17 (fun H locs hP hD hS => ?_)
  have hP : va_P D vwCl [(q_t, .inr (7, [.int 0, .int 0, .int (-1), .int 0, .int t_wrongGuesses, .int t_misses, .int t_branchesTaken]))] H := hP
  have hD : va_D A [(q_t, .inr (7, [.int 0, .int 0, .int (-1), .int 0, .int t_wrongGuesses, .int t_misses, .int t_branchesTaken]))] := hD
  refine W.eq (g2 := F0 m 20 ls []) rfl ?_
  refine lv_aload_n hx hb dX7_clear_20 rfl (lv_at hl 0 rfl) ?_
  refine lv_iconst (v := 0) hx hb dX7_clear_21 (by decide) ?_
  refine va_put (D := D) (ci := 7) (v := .int 0) (ty := .int) (C := RX7) (T := TX7) (N := 7) hx hb hts inX7 tyX7 tyX7_ok nmX7 hown hK hP hD hS 0 rfl rfl 4 (by decide) (hts _ kt_68) (fun _ h => h) rfl (by decide +kernel) rfl rfl (Nat.le_of_ble_eq_true rfl) dX7_clear_22 (fun H locs hP hD hS => ?_)
  have hP : va_P D vwCl [(q_t, .inr (7, [.int 0, .int 0, .int (-1), .int 0, .int 0, .int t_misses, .int t_branchesTaken]))] H := hP
  have hD : va_D A [(q_t, .inr (7, [.int 0, .int 0, .int (-1), .int 0, .int 0, .int t_misses, .int t_branchesTaken]))] := hD
  refine lv_aload_n hx hb dX7_clear_25 rfl (lv_at hl 0 rfl) ?_
  refine lv_iconst (v := 0) hx hb dX7_clear_26 (by decide) ?_
  refine va_put (D := D) (ci := 7) (v := .int 0) (ty := .int) (C := RX7) (T := TX7) (N := 7) hx hb hts inX7 tyX7 tyX7_ok nmX7 hown hK hP hD hS 0 rfl rfl 5 (by decide) (hts _ kt_70) (fun _ h => h) rfl (by decide +kernel) rfl rfl (Nat.le_of_ble_eq_true rfl) dX7_clear_27 (fun H locs hP hD hS => ?_)
  have hP : va_P D vwCl [(q_t, .inr (7, [.int 0, .int 0, .int (-1), .int 0, .int 0, .int 0, .int t_branchesTaken]))] H := hP
  have hD : va_D A [(q_t, .inr (7, [.int 0, .int 0, .int (-1), .int 0, .int 0, .int 0, .int t_branchesTaken]))] := hD
  refine lv_aload_n hx hb dX7_clear_30 rfl (lv_at hl 0 rfl) ?_
  refine lv_iconst (v := 0) hx hb dX7_clear_31 (by decide) ?_
  refine va_put (D := D) (ci := 7) (v := .int 0) (ty := .int) (C := RX7) (T := TX7) (N := 7) hx hb hts inX7 tyX7 tyX7_ok nmX7 hown hK hP hD hS 0 rfl rfl 6 (by decide) (hts _ kt_72) (fun _ h => h) rfl (by decide +kernel) rfl rfl (Nat.le_of_ble_eq_true rfl) dX7_clear_32 (fun H locs hP hD hS => ?_)
  have hP : va_P D vwCl [(q_t, .inr (7, [.int 0, .int 0, .int (-1), .int 0, .int 0, .int 0, .int 0]))] H := hP
  have hD : va_D A [(q_t, .inr (7, [.int 0, .int 0, .int (-1), .int 0, .int 0, .int 0, .int 0]))] := hD
  exact e_v hx hb hr hlk hK hP hD hS dX7_clear_35
def T_add_24_t_wrongGuesses (gr_ : Int32) (t_wrongGuesses : Int32) : Int32 := (if gr_ = 0 then (t_wrongGuesses + 1) else t_wrongGuesses)
def T_add_38_t_misses (mi_ : Int32) (t_misses : Int32) : Int32 := (if mi_ = 0 then t_misses else (t_misses + 1))
def T_add_x_t_branchesTaken (ta_ : Int32) (t_branchesTaken : Int32) : Int32 := (if ta_ = 0 then t_branchesTaken else (t_branchesTaken + 1))
set_option maxHeartbeats 4000000 in
set_option maxRecDepth 100000 in
theorem c_T_add (l : Launch) (D : va_G) (cI cJ : ClassId) (q_t : Nat) (gr_ : Int32) (mi_ : Int32) (ta_ : Int32) (t_ending : Int32) (t_trap : Int32) (t_latestPc : Int32) (t_done : Int32) (t_wrongGuesses : Int32) (t_misses : Int32) (t_branchesTaken : Int32) (sz : Nat) : Met l yX7_add (.code yX7_add cX7_add 4 none :: gU) { frames := 0, cells := 0, slots := 0, locals := 0 } (va_Pc [.ref q_t, .int gr_, .int mi_, .int ta_] (mP D vwCl (tyS cI cJ) [(q_t, .inr (7, [.int t_ending, .int t_trap, .int t_latestPc, .int t_done, .int t_wrongGuesses, .int t_misses, .int t_branchesTaken]))] sz)) (qV D vwCl (tyS cI cJ) [(q_t, .inr (7, [.int t_ending, .int t_trap, .int t_latestPc, .int (t_done + 1), .int (T_add_24_t_wrongGuesses gr_ t_wrongGuesses), .int (T_add_38_t_misses mi_ t_misses), .int (T_add_x_t_branchesTaken ta_ t_branchesTaken)]))] (va_A [(q_t, .inr (7, [.int t_ending, .int t_trap, .int t_latestPc, .int t_done, .int t_wrongGuesses, .int t_misses, .int t_branchesTaken]))] sz)) 0 0 (va_A [(q_t, .inr (7, [.int t_ending, .int t_trap, .int t_latestPc, .int t_done, .int t_wrongGuesses, .int t_misses, .int t_branchesTaken]))] sz) := by
  refine m_go (y := yX7_add) (cc := cX7_add) (ml := 4) (rt := none) (av := [.ref q_t, .int gr_, .int mi_, .int ta_]) (cs := [(q_t, .inr (7, [.int t_ending, .int t_trap, .int t_latestPc, .int t_done, .int t_wrongGuesses, .int t_misses, .int t_branchesTaken]))]) (fun A => qV D vwCl (tyS cI cJ) [(q_t, .inr (7, [.int t_ending, .int t_trap, .int t_latestPc, .int (t_done + 1), .int (T_add_24_t_wrongGuesses gr_ t_wrongGuesses), .int (T_add_38_t_misses mi_ t_misses), .int (T_add_x_t_branchesTaken ta_ t_branchesTaken)]))] A) (by decide) (Nat.le_of_ble_eq_true rfl) ?_
  intro p e s m below meth c A ls hx hb hr hlk hml hts hown _ hA hP hK hD hS hl _
  have hl : lv_has ls 4 [(0, .ref q_t), (1, .int gr_), (2, .int mi_), (3, .int ta_)] := hl
  refine lv_aload_n hx hb dX7_add_0 rfl (lv_at hl 0 rfl) ?_
  refine lv_dup hx hb dX7_add_1 rfl ?_
  refine va_get (D := D) (ci := 7) (v := .int t_done) (C := RX7) (T := TX7) (N := 7) hx hb hts inX7 hown hK hP 0 rfl rfl 3 (by decide) (hts _ kt_66) (fun _ h => h) rfl dX7_add_2 ?_
  refine lv_iconst (v := 1) hx hb dX7_add_5 (by decide) ?_
  refine lv_iadd hx hb dX7_add_6 ?_
  refine va_put (D := D) (ci := 7) (v := .int (t_done + 1)) (ty := .int) (C := RX7) (T := TX7) (N := 7) hx hb hts inX7 tyX7 tyX7_ok nmX7 hown hK hP hD hS 0 rfl rfl 3 (by decide) (hts _ kt_66) (fun _ h => h) rfl (by decide +kernel) rfl rfl (Nat.le_of_ble_eq_true rfl) dX7_add_7 (fun H locs hP hD hS => ?_)
  have hP : va_P D vwCl [(q_t, .inr (7, [.int t_ending, .int t_trap, .int t_latestPc, .int (t_done + 1), .int t_wrongGuesses, .int t_misses, .int t_branchesTaken]))] H := hP
  have hD : va_D A [(q_t, .inr (7, [.int t_ending, .int t_trap, .int t_latestPc, .int (t_done + 1), .int t_wrongGuesses, .int t_misses, .int t_branchesTaken]))] := hD
  refine lv_iload_n hx hb dX7_add_10 rfl (lv_at hl 1 rfl) ?_
  refine w_j (J := 24) (st := []) (fun H locs ls => va_P D vwCl [(q_t, .inr (7, [.int t_ending, .int t_trap, .int t_latestPc, .int (t_done + 1), .int (T_add_24_t_wrongGuesses gr_ t_wrongGuesses), .int t_misses, .int t_branchesTaken]))] H ∧ va_D A [(q_t, .inr (7, [.int t_ending, .int t_trap, .int t_latestPc, .int (t_done + 1), .int (T_add_24_t_wrongGuesses gr_ t_wrongGuesses), .int t_misses, .int t_branchesTaken]))] ∧ va_S A s.heap H locs ∧ lv_has ls 4 [(0, .ref q_t), (1, .int gr_), (2, .int mi_), (3, .int ta_)]) (fun H locs ls hJ => ?_) (fun k24 => ?_)
  · obtain ⟨hP, hD, hS, hl⟩ := hJ
    refine lv_iload_n hx hb dX7_add_24 rfl (lv_at hl 2 rfl) ?_
    refine w_j (J := 38) (st := []) (fun H locs ls => va_P D vwCl [(q_t, .inr (7, [.int t_ending, .int t_trap, .int t_latestPc, .int (t_done + 1), .int (T_add_24_t_wrongGuesses gr_ t_wrongGuesses), .int (T_add_38_t_misses mi_ t_misses), .int t_branchesTaken]))] H ∧ va_D A [(q_t, .inr (7, [.int t_ending, .int t_trap, .int t_latestPc, .int (t_done + 1), .int (T_add_24_t_wrongGuesses gr_ t_wrongGuesses), .int (T_add_38_t_misses mi_ t_misses), .int t_branchesTaken]))] ∧ va_S A s.heap H locs ∧ lv_has ls 4 [(0, .ref q_t), (1, .int gr_), (2, .int mi_), (3, .int ta_)]) (fun H locs ls hJ => ?_) (fun k38 => ?_)
    · obtain ⟨hP, hD, hS, hl⟩ := hJ
      refine lv_iload_n hx hb dX7_add_38 rfl (lv_at hl 3 rfl) ?_
      refine lv_if_eq (tgt := 52) hx hb dX7_add_39 rfl (fun c39 => ?_) (fun c39 => ?_)
      · have e0 : (T_add_x_t_branchesTaken ta_ t_branchesTaken) = t_branchesTaken := (if_pos c39)
        exact e_v hx hb hr hlk hK (by rw [e0]; exact hP) (by rw [e0]; exact hD) hS dX7_add_52
      · refine lv_aload_n hx hb dX7_add_42 rfl (lv_at hl 0 rfl) ?_
        refine lv_dup hx hb dX7_add_43 rfl ?_
        refine va_get (D := D) (ci := 7) (v := .int t_branchesTaken) (C := RX7) (T := TX7) (N := 7) hx hb hts inX7 hown hK hP 0 rfl rfl 6 (by decide) (hts _ kt_72) (fun _ h => h) rfl dX7_add_44 ?_
        refine W.eq (g2 := F0 m 47 ls [.int t_branchesTaken, .ref q_t]) rfl ?_
        refine lv_iconst (v := 1) hx hb dX7_add_47 (by decide) ?_
        refine lv_iadd hx hb dX7_add_48 ?_
        refine va_put (D := D) (ci := 7) (v := .int (t_branchesTaken + 1)) (ty := .int) (C := RX7) (T := TX7) (N := 7) hx hb hts inX7 tyX7 tyX7_ok nmX7 hown hK hP hD hS 0 rfl rfl 6 (by decide) (hts _ kt_72) (fun _ h => h) rfl (by decide +kernel) rfl rfl (Nat.le_of_ble_eq_true rfl) dX7_add_49 (fun H locs hP hD hS => ?_)
        have hP : va_P D vwCl [(q_t, .inr (7, [.int t_ending, .int t_trap, .int t_latestPc, .int (t_done + 1), .int (T_add_24_t_wrongGuesses gr_ t_wrongGuesses), .int (T_add_38_t_misses mi_ t_misses), .int (t_branchesTaken + 1)]))] H := hP
        have hD : va_D A [(q_t, .inr (7, [.int t_ending, .int t_trap, .int t_latestPc, .int (t_done + 1), .int (T_add_24_t_wrongGuesses gr_ t_wrongGuesses), .int (T_add_38_t_misses mi_ t_misses), .int (t_branchesTaken + 1)]))] := hD
        have e0 : (T_add_x_t_branchesTaken ta_ t_branchesTaken) = (t_branchesTaken + 1) := (if_neg c39)
        exact e_v hx hb hr hlk hK (by rw [e0]; exact hP) (by rw [e0]; exact hD) hS dX7_add_52
    · refine lv_if_eq (tgt := 38) hx hb dX7_add_25 rfl (fun c25 => ?_) (fun c25 => ?_)
      · have e0 : (T_add_38_t_misses mi_ t_misses) = t_misses := (if_pos c25)
        have k38 := k38 _ _ _ ⟨(by rw [e0]; exact hP), (by rw [e0]; exact hD), hS, hl⟩
        exact k38
      · refine lv_aload_n hx hb dX7_add_28 rfl (lv_at hl 0 rfl) ?_
        refine lv_dup hx hb dX7_add_29 rfl ?_
        refine va_get (D := D) (ci := 7) (v := .int t_misses) (C := RX7) (T := TX7) (N := 7) hx hb hts inX7 hown hK hP 0 rfl rfl 5 (by decide) (hts _ kt_70) (fun _ h => h) rfl dX7_add_30 ?_
        refine lv_iconst (v := 1) hx hb dX7_add_33 (by decide) ?_
        refine lv_iadd hx hb dX7_add_34 ?_
        refine va_put (D := D) (ci := 7) (v := .int (t_misses + 1)) (ty := .int) (C := RX7) (T := TX7) (N := 7) hx hb hts inX7 tyX7 tyX7_ok nmX7 hown hK hP hD hS 0 rfl rfl 5 (by decide) (hts _ kt_70) (fun _ h => h) rfl (by decide +kernel) rfl rfl (Nat.le_of_ble_eq_true rfl) dX7_add_35 (fun H locs hP hD hS => ?_)
        have hP : va_P D vwCl [(q_t, .inr (7, [.int t_ending, .int t_trap, .int t_latestPc, .int (t_done + 1), .int (T_add_24_t_wrongGuesses gr_ t_wrongGuesses), .int (t_misses + 1), .int t_branchesTaken]))] H := hP
        have hD : va_D A [(q_t, .inr (7, [.int t_ending, .int t_trap, .int t_latestPc, .int (t_done + 1), .int (T_add_24_t_wrongGuesses gr_ t_wrongGuesses), .int (t_misses + 1), .int t_branchesTaken]))] := hD
        have e0 : (T_add_38_t_misses mi_ t_misses) = (t_misses + 1) := (if_neg c25)
        have k38 := k38 _ _ _ ⟨(by rw [e0]; exact hP), (by rw [e0]; exact hD), hS, hl⟩
        exact k38
  · refine lv_if_ne (tgt := 24) hx hb dX7_add_11 rfl (fun c11 => ?_) (fun c11 => ?_)
    · have e0 : (T_add_24_t_wrongGuesses gr_ t_wrongGuesses) = t_wrongGuesses := (if_neg c11)
      have k24 := k24 _ _ _ ⟨(by rw [e0]; exact hP), (by rw [e0]; exact hD), hS, hl⟩
      exact k24
    · refine lv_aload_n hx hb dX7_add_14 rfl (lv_at hl 0 rfl) ?_
      refine lv_dup hx hb dX7_add_15 rfl ?_
      refine va_get (D := D) (ci := 7) (v := .int t_wrongGuesses) (C := RX7) (T := TX7) (N := 7) hx hb hts inX7 hown hK hP 0 rfl rfl 4 (by decide) (hts _ kt_68) (fun _ h => h) rfl dX7_add_16 ?_
      refine lv_iconst (v := 1) hx hb dX7_add_19 (by decide) ?_
      refine lv_iadd hx hb dX7_add_20 ?_
      refine W.eq (g2 := F0 m 21 ls [.int (t_wrongGuesses + 1), .ref q_t]) rfl ?_
      refine va_put (D := D) (ci := 7) (v := .int (t_wrongGuesses + 1)) (ty := .int) (C := RX7) (T := TX7) (N := 7) hx hb hts inX7 tyX7 tyX7_ok nmX7 hown hK hP hD hS 0 rfl rfl 4 (by decide) (hts _ kt_68) (fun _ h => h) rfl (by decide +kernel) rfl rfl (Nat.le_of_ble_eq_true rfl) dX7_add_21 (fun H locs hP hD hS => ?_)
      have hP : va_P D vwCl [(q_t, .inr (7, [.int t_ending, .int t_trap, .int t_latestPc, .int (t_done + 1), .int (t_wrongGuesses + 1), .int t_misses, .int t_branchesTaken]))] H := hP
      have hD : va_D A [(q_t, .inr (7, [.int t_ending, .int t_trap, .int t_latestPc, .int (t_done + 1), .int (t_wrongGuesses + 1), .int t_misses, .int t_branchesTaken]))] := hD
      have e0 : (T_add_24_t_wrongGuesses gr_ t_wrongGuesses) = (t_wrongGuesses + 1) := (if_pos c11)
      have k24 := k24 _ _ _ ⟨(by rw [e0]; exact hP), (by rw [e0]; exact hD), hS, hl⟩
      exact k24
