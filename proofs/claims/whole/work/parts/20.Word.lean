def W_isOfTwo_14_s0 (w_op : Int32) : Int32 := (if 12 < w_op then 0 else 1)
theorem W_isOfTwo_14_s0_b (w_op : Int32) : W_isOfTwo_14_s0 w_op = 0 ∨ W_isOfTwo_14_s0 w_op = 1 := by
  unfold W_isOfTwo_14_s0
  repeat' split
  all_goals first | exact Or.inl rfl | exact Or.inr rfl
set_option maxHeartbeats 4000000 in
set_option maxRecDepth 100000 in
theorem c_W_isOfTwo (l : Launch) (D : va_G) (cI cJ : ClassId) (q_w : Nat) (w_pc : Int32) (w_op : Int32) (w_d : Int32) (w_a : Int32) (w_b : Int32) (w_i : Int32) (sz : Nat) : Met l yX8_isOfTwo (.code yX8_isOfTwo cX8_isOfTwo 1 (some .boolean) :: gU) { frames := 0, cells := 0, slots := 0, locals := 0 } (va_Pc [.ref q_w] (mP D vwCl (tyS cI cJ) [(q_w, .inr (8, [.int w_pc, .int w_op, .int w_d, .int w_a, .int w_b, .int w_i]))] sz)) (qI D vwCl (tyS cI cJ) [(q_w, .inr (8, [.int w_pc, .int w_op, .int w_d, .int w_a, .int w_b, .int w_i]))] (W_isOfTwo_14_s0 w_op) (va_A [(q_w, .inr (8, [.int w_pc, .int w_op, .int w_d, .int w_a, .int w_b, .int w_i]))] sz)) 0 0 (va_A [(q_w, .inr (8, [.int w_pc, .int w_op, .int w_d, .int w_a, .int w_b, .int w_i]))] sz) := by
  refine m_go (y := yX8_isOfTwo) (cc := cX8_isOfTwo) (ml := 1) (rt := (some .boolean)) (av := [.ref q_w]) (cs := [(q_w, .inr (8, [.int w_pc, .int w_op, .int w_d, .int w_a, .int w_b, .int w_i]))]) (fun A => qI D vwCl (tyS cI cJ) [(q_w, .inr (8, [.int w_pc, .int w_op, .int w_d, .int w_a, .int w_b, .int w_i]))] (W_isOfTwo_14_s0 w_op) A) (by decide) (Nat.le_of_ble_eq_true rfl) ?_
  intro p e s m below meth c A ls hx hb hr hlk hml hts hown _ hA hP hK hD hS hl _
  have hl : lv_has ls 1 [(0, .ref q_w)] := hl
  refine lv_aload_n hx hb dX8_isOfTwo_0 rfl (lv_at hl 0 rfl) ?_
  refine va_get (D := D) (ci := 8) (v := .int w_op) (C := RX8) (T := TX8) (N := 6) hx hb hts inX8 hown hK hP 0 rfl rfl 1 (by decide) (hts _ kt_99) (fun _ h => h) rfl dX8_isOfTwo_1 ?_
  refine lv_bipush (v := 12) hx hb dX8_isOfTwo_4 (by decide) ?_
  refine w_j (J := 14) (st := [.int (W_isOfTwo_14_s0 w_op)]) (fun H locs ls => va_P D vwCl [(q_w, .inr (8, [.int w_pc, .int w_op, .int w_d, .int w_a, .int w_b, .int w_i]))] H ∧ va_D A [(q_w, .inr (8, [.int w_pc, .int w_op, .int w_d, .int w_a, .int w_b, .int w_i]))] ∧ va_S A s.heap H locs ∧ lv_has ls 1 [(0, .ref q_w)]) (fun H locs ls hJ => ?_) (fun k14 => ?_)
  · obtain ⟨hP, hD, hS, hl⟩ := hJ
    exact e_z hx hb hr hlk hK hP hD hS rfl (nz (W_isOfTwo_14_s0_b w_op)).1 dX8_isOfTwo_14
  · refine lv_icmp_gt (tgt := 13) hx hb dX8_isOfTwo_6 rfl (fun c6 => ?_) (fun c6 => ?_)
    · refine lv_iconst (v := 0) hx hb dX8_isOfTwo_13 (by decide) ?_
      have e0 : (W_isOfTwo_14_s0 w_op) = 0 := (if_pos c6)
      have k14 := k14 _ _ _ ⟨hP, hD, hS, hl⟩
      refine W.eq (g2 := F0 m 14 ls [.int 0]) rfl ?_
      exact W.eq (by rw [e0]) k14
    · refine lv_iconst (v := 1) hx hb dX8_isOfTwo_9 (by decide) ?_
      refine lv_goto (tgt := 14) hx hb dX8_isOfTwo_10 rfl ?_
      have e0 : (W_isOfTwo_14_s0 w_op) = 1 := (if_neg c6)
      have k14 := k14 _ _ _ ⟨hP, hD, hS, hl⟩
      refine W.eq (g2 := F0 m 14 ls [.int 1]) rfl ?_
      exact W.eq (by rw [e0]) k14
def W_isWithNumber_23_s0 (w_op : Int32) : Int32 := (if (w_op < 16 ∨ 25 < w_op) then 0 else 1)
theorem W_isWithNumber_23_s0_b (w_op : Int32) : W_isWithNumber_23_s0 w_op = 0 ∨ W_isWithNumber_23_s0 w_op = 1 := by
  unfold W_isWithNumber_23_s0
  repeat' split
  all_goals first | exact Or.inl rfl | exact Or.inr rfl
set_option maxHeartbeats 4000000 in
set_option maxRecDepth 100000 in
theorem c_W_isWithNumber (l : Launch) (D : va_G) (cI cJ : ClassId) (q_w : Nat) (w_pc : Int32) (w_op : Int32) (w_d : Int32) (w_a : Int32) (w_b : Int32) (w_i : Int32) (sz : Nat) : Met l yX8_isWithNumber (.code yX8_isWithNumber cX8_isWithNumber 1 (some .boolean) :: gU) { frames := 0, cells := 0, slots := 0, locals := 0 } (va_Pc [.ref q_w] (mP D vwCl (tyS cI cJ) [(q_w, .inr (8, [.int w_pc, .int w_op, .int w_d, .int w_a, .int w_b, .int w_i]))] sz)) (qI D vwCl (tyS cI cJ) [(q_w, .inr (8, [.int w_pc, .int w_op, .int w_d, .int w_a, .int w_b, .int w_i]))] (W_isWithNumber_23_s0 w_op) (va_A [(q_w, .inr (8, [.int w_pc, .int w_op, .int w_d, .int w_a, .int w_b, .int w_i]))] sz)) 0 0 (va_A [(q_w, .inr (8, [.int w_pc, .int w_op, .int w_d, .int w_a, .int w_b, .int w_i]))] sz) := by
  refine m_go (y := yX8_isWithNumber) (cc := cX8_isWithNumber) (ml := 1) (rt := (some .boolean)) (av := [.ref q_w]) (cs := [(q_w, .inr (8, [.int w_pc, .int w_op, .int w_d, .int w_a, .int w_b, .int w_i]))]) (fun A => qI D vwCl (tyS cI cJ) [(q_w, .inr (8, [.int w_pc, .int w_op, .int w_d, .int w_a, .int w_b, .int w_i]))] (W_isWithNumber_23_s0 w_op) A) (by decide) (Nat.le_of_ble_eq_true rfl) ?_
  intro p e s m below meth c A ls hx hb hr hlk hml hts hown _ hA hP hK hD hS hl _
  have hl : lv_has ls 1 [(0, .ref q_w)] := hl
  refine lv_aload_n hx hb dX8_isWithNumber_0 rfl (lv_at hl 0 rfl) ?_
  refine va_get (D := D) (ci := 8) (v := .int w_op) (C := RX8) (T := TX8) (N := 6) hx hb hts inX8 hown hK hP 0 rfl rfl 1 (by decide) (hts _ kt_99) (fun _ h => h) rfl dX8_isWithNumber_1 ?_
  refine lv_bipush (v := 16) hx hb dX8_isWithNumber_4 (by decide) ?_
  refine w_j (J := 23) (st := [.int (W_isWithNumber_23_s0 w_op)]) (fun H locs ls => va_P D vwCl [(q_w, .inr (8, [.int w_pc, .int w_op, .int w_d, .int w_a, .int w_b, .int w_i]))] H ∧ va_D A [(q_w, .inr (8, [.int w_pc, .int w_op, .int w_d, .int w_a, .int w_b, .int w_i]))] ∧ va_S A s.heap H locs ∧ lv_has ls 1 [(0, .ref q_w)]) (fun H locs ls hJ => ?_) (fun k23 => ?_)
  · obtain ⟨hP, hD, hS, hl⟩ := hJ
    exact e_z hx hb hr hlk hK hP hD hS rfl (nz (W_isWithNumber_23_s0_b w_op)).1 dX8_isWithNumber_23
  · refine w_j (J := 22) (st := []) (fun H locs ls => va_P D vwCl [(q_w, .inr (8, [.int w_pc, .int w_op, .int w_d, .int w_a, .int w_b, .int w_i]))] H ∧ va_D A [(q_w, .inr (8, [.int w_pc, .int w_op, .int w_d, .int w_a, .int w_b, .int w_i]))] ∧ va_S A s.heap H locs ∧ lv_has ls 1 [(0, .ref q_w)] ∧ ((w_op < 16 ∨ 25 < w_op))) (fun H locs ls hJ => ?_) (fun k22 => ?_)
    · obtain ⟨hP, hD, hS, hl, h22⟩ := hJ
      refine lv_iconst (v := 0) hx hb dX8_isWithNumber_22 (by decide) ?_
      have e0 : (W_isWithNumber_23_s0 w_op) = 0 := (if_pos h22)
      have k23 := k23 _ _ _ ⟨hP, hD, hS, hl⟩
      refine W.eq (g2 := F0 m 23 ls [.int 0]) rfl ?_
      exact W.eq (by rw [e0]) k23
    refine lv_icmp_lt (tgt := 22) hx hb dX8_isWithNumber_6 rfl (fun c6 => ?_) (fun c6 => ?_)
    · exact k22 _ _ _ ⟨hP, hD, hS, hl, (Or.inl c6)⟩
    · refine lv_aload_n hx hb dX8_isWithNumber_9 rfl (lv_at hl 0 rfl) ?_
      refine va_get (D := D) (ci := 8) (v := .int w_op) (C := RX8) (T := TX8) (N := 6) hx hb hts inX8 hown hK hP 0 rfl rfl 1 (by decide) (hts _ kt_99) (fun _ h => h) rfl dX8_isWithNumber_10 ?_
      refine lv_bipush (v := 25) hx hb dX8_isWithNumber_13 (by decide) ?_
      refine lv_icmp_gt (tgt := 22) hx hb dX8_isWithNumber_15 rfl (fun c15 => ?_) (fun c15 => ?_)
      · exact k22 _ _ _ ⟨hP, hD, hS, hl, (Or.inr c15)⟩
      · refine lv_iconst (v := 1) hx hb dX8_isWithNumber_18 (by decide) ?_
        refine lv_goto (tgt := 23) hx hb dX8_isWithNumber_19 rfl ?_
        have e0 : (W_isWithNumber_23_s0 w_op) = 1 := (if_neg (not_or.mpr ⟨c6, c15⟩))
        have k23 := k23 _ _ _ ⟨hP, hD, hS, hl⟩
        refine W.eq (g2 := F0 m 23 ls [.int 1]) rfl ?_
        exact W.eq (by rw [e0]) k23
def W_isAccess_23_s0 (w_op : Int32) : Int32 := (if (w_op = 32 ∨ w_op = 33) then 1 else 0)
theorem W_isAccess_23_s0_b (w_op : Int32) : W_isAccess_23_s0 w_op = 0 ∨ W_isAccess_23_s0 w_op = 1 := by
  unfold W_isAccess_23_s0
  repeat' split
  all_goals first | exact Or.inl rfl | exact Or.inr rfl
set_option maxHeartbeats 4000000 in
set_option maxRecDepth 100000 in
theorem c_W_isAccess (l : Launch) (D : va_G) (cI cJ : ClassId) (q_w : Nat) (w_pc : Int32) (w_op : Int32) (w_d : Int32) (w_a : Int32) (w_b : Int32) (w_i : Int32) (sz : Nat) : Met l yX8_isAccess (.code yX8_isAccess cX8_isAccess 1 (some .boolean) :: gU) { frames := 0, cells := 0, slots := 0, locals := 0 } (va_Pc [.ref q_w] (mP D vwCl (tyS cI cJ) [(q_w, .inr (8, [.int w_pc, .int w_op, .int w_d, .int w_a, .int w_b, .int w_i]))] sz)) (qI D vwCl (tyS cI cJ) [(q_w, .inr (8, [.int w_pc, .int w_op, .int w_d, .int w_a, .int w_b, .int w_i]))] (W_isAccess_23_s0 w_op) (va_A [(q_w, .inr (8, [.int w_pc, .int w_op, .int w_d, .int w_a, .int w_b, .int w_i]))] sz)) 0 0 (va_A [(q_w, .inr (8, [.int w_pc, .int w_op, .int w_d, .int w_a, .int w_b, .int w_i]))] sz) := by
  refine m_go (y := yX8_isAccess) (cc := cX8_isAccess) (ml := 1) (rt := (some .boolean)) (av := [.ref q_w]) (cs := [(q_w, .inr (8, [.int w_pc, .int w_op, .int w_d, .int w_a, .int w_b, .int w_i]))]) (fun A => qI D vwCl (tyS cI cJ) [(q_w, .inr (8, [.int w_pc, .int w_op, .int w_d, .int w_a, .int w_b, .int w_i]))] (W_isAccess_23_s0 w_op) A) (by decide) (Nat.le_of_ble_eq_true rfl) ?_
  intro p e s m below meth c A ls hx hb hr hlk hml hts hown _ hA hP hK hD hS hl _
  have hl : lv_has ls 1 [(0, .ref q_w)] := hl
  refine lv_aload_n hx hb dX8_isAccess_0 rfl (lv_at hl 0 rfl) ?_
  refine va_get (D := D) (ci := 8) (v := .int w_op) (C := RX8) (T := TX8) (N := 6) hx hb hts inX8 hown hK hP 0 rfl rfl 1 (by decide) (hts _ kt_99) (fun _ h => h) rfl dX8_isAccess_1 ?_
  refine lv_bipush (v := 32) hx hb dX8_isAccess_4 (by decide) ?_
  refine w_j (J := 23) (st := [.int (W_isAccess_23_s0 w_op)]) (fun H locs ls => va_P D vwCl [(q_w, .inr (8, [.int w_pc, .int w_op, .int w_d, .int w_a, .int w_b, .int w_i]))] H ∧ va_D A [(q_w, .inr (8, [.int w_pc, .int w_op, .int w_d, .int w_a, .int w_b, .int w_i]))] ∧ va_S A s.heap H locs ∧ lv_has ls 1 [(0, .ref q_w)]) (fun H locs ls hJ => ?_) (fun k23 => ?_)
  · obtain ⟨hP, hD, hS, hl⟩ := hJ
    exact e_z hx hb hr hlk hK hP hD hS rfl (nz (W_isAccess_23_s0_b w_op)).1 dX8_isAccess_23
  · refine w_j (J := 18) (st := []) (fun H locs ls => va_P D vwCl [(q_w, .inr (8, [.int w_pc, .int w_op, .int w_d, .int w_a, .int w_b, .int w_i]))] H ∧ va_D A [(q_w, .inr (8, [.int w_pc, .int w_op, .int w_d, .int w_a, .int w_b, .int w_i]))] ∧ va_S A s.heap H locs ∧ lv_has ls 1 [(0, .ref q_w)] ∧ ((w_op = 32 ∨ w_op = 33))) (fun H locs ls hJ => ?_) (fun k18 => ?_)
    · obtain ⟨hP, hD, hS, hl, h18⟩ := hJ
      refine lv_iconst (v := 1) hx hb dX8_isAccess_18 (by decide) ?_
      refine lv_goto (tgt := 23) hx hb dX8_isAccess_19 rfl ?_
      have e0 : (W_isAccess_23_s0 w_op) = 1 := (if_pos h18)
      have k23 := k23 _ _ _ ⟨hP, hD, hS, hl⟩
      refine W.eq (g2 := F0 m 23 ls [.int 1]) rfl ?_
      exact W.eq (by rw [e0]) k23
    refine lv_icmp_eq (tgt := 18) hx hb dX8_isAccess_6 rfl (fun c6 => ?_) (fun c6 => ?_)
    · exact k18 _ _ _ ⟨hP, hD, hS, hl, (Or.inl c6)⟩
    · refine lv_aload_n hx hb dX8_isAccess_9 rfl (lv_at hl 0 rfl) ?_
      refine va_get (D := D) (ci := 8) (v := .int w_op) (C := RX8) (T := TX8) (N := 6) hx hb hts inX8 hown hK hP 0 rfl rfl 1 (by decide) (hts _ kt_99) (fun _ h => h) rfl dX8_isAccess_10 ?_
      refine lv_bipush (v := 33) hx hb dX8_isAccess_13 (by decide) ?_
      refine lv_icmp_ne (tgt := 22) hx hb dX8_isAccess_15 rfl (fun c15 => ?_) (fun c15 => ?_)
      · refine lv_iconst (v := 0) hx hb dX8_isAccess_22 (by decide) ?_
        have e0 : (W_isAccess_23_s0 w_op) = 0 := (if_neg (not_or.mpr ⟨c6, c15⟩))
        have k23 := k23 _ _ _ ⟨hP, hD, hS, hl⟩
        refine W.eq (g2 := F0 m 23 ls [.int 0]) rfl ?_
        exact W.eq (by rw [e0]) k23
      · exact k18 _ _ _ ⟨hP, hD, hS, hl, (Or.inr c15)⟩
def W_isBranch_23_s0 (w_op : Int32) : Int32 := (if (w_op < 40 ∨ 43 < w_op) then 0 else 1)
theorem W_isBranch_23_s0_b (w_op : Int32) : W_isBranch_23_s0 w_op = 0 ∨ W_isBranch_23_s0 w_op = 1 := by
  unfold W_isBranch_23_s0
  repeat' split
  all_goals first | exact Or.inl rfl | exact Or.inr rfl
set_option maxHeartbeats 4000000 in
set_option maxRecDepth 100000 in
theorem c_W_isBranch (l : Launch) (D : va_G) (cI cJ : ClassId) (q_w : Nat) (w_pc : Int32) (w_op : Int32) (w_d : Int32) (w_a : Int32) (w_b : Int32) (w_i : Int32) (sz : Nat) : Met l yX8_isBranch (.code yX8_isBranch cX8_isBranch 1 (some .boolean) :: gU) { frames := 0, cells := 0, slots := 0, locals := 0 } (va_Pc [.ref q_w] (mP D vwCl (tyS cI cJ) [(q_w, .inr (8, [.int w_pc, .int w_op, .int w_d, .int w_a, .int w_b, .int w_i]))] sz)) (qI D vwCl (tyS cI cJ) [(q_w, .inr (8, [.int w_pc, .int w_op, .int w_d, .int w_a, .int w_b, .int w_i]))] (W_isBranch_23_s0 w_op) (va_A [(q_w, .inr (8, [.int w_pc, .int w_op, .int w_d, .int w_a, .int w_b, .int w_i]))] sz)) 0 0 (va_A [(q_w, .inr (8, [.int w_pc, .int w_op, .int w_d, .int w_a, .int w_b, .int w_i]))] sz) := by
  refine m_go (y := yX8_isBranch) (cc := cX8_isBranch) (ml := 1) (rt := (some .boolean)) (av := [.ref q_w]) (cs := [(q_w, .inr (8, [.int w_pc, .int w_op, .int w_d, .int w_a, .int w_b, .int w_i]))]) (fun A => qI D vwCl (tyS cI cJ) [(q_w, .inr (8, [.int w_pc, .int w_op, .int w_d, .int w_a, .int w_b, .int w_i]))] (W_isBranch_23_s0 w_op) A) (by decide) (Nat.le_of_ble_eq_true rfl) ?_
  intro p e s m below meth c A ls hx hb hr hlk hml hts hown _ hA hP hK hD hS hl _
  have hl : lv_has ls 1 [(0, .ref q_w)] := hl
  refine lv_aload_n hx hb dX8_isBranch_0 rfl (lv_at hl 0 rfl) ?_
  refine va_get (D := D) (ci := 8) (v := .int w_op) (C := RX8) (T := TX8) (N := 6) hx hb hts inX8 hown hK hP 0 rfl rfl 1 (by decide) (hts _ kt_99) (fun _ h => h) rfl dX8_isBranch_1 ?_
  refine lv_bipush (v := 40) hx hb dX8_isBranch_4 (by decide) ?_
  refine w_j (J := 23) (st := [.int (W_isBranch_23_s0 w_op)]) (fun H locs ls => va_P D vwCl [(q_w, .inr (8, [.int w_pc, .int w_op, .int w_d, .int w_a, .int w_b, .int w_i]))] H ∧ va_D A [(q_w, .inr (8, [.int w_pc, .int w_op, .int w_d, .int w_a, .int w_b, .int w_i]))] ∧ va_S A s.heap H locs ∧ lv_has ls 1 [(0, .ref q_w)]) (fun H locs ls hJ => ?_) (fun k23 => ?_)
  · obtain ⟨hP, hD, hS, hl⟩ := hJ
    exact e_z hx hb hr hlk hK hP hD hS rfl (nz (W_isBranch_23_s0_b w_op)).1 dX8_isBranch_23
  · refine w_j (J := 22) (st := []) (fun H locs ls => va_P D vwCl [(q_w, .inr (8, [.int w_pc, .int w_op, .int w_d, .int w_a, .int w_b, .int w_i]))] H ∧ va_D A [(q_w, .inr (8, [.int w_pc, .int w_op, .int w_d, .int w_a, .int w_b, .int w_i]))] ∧ va_S A s.heap H locs ∧ lv_has ls 1 [(0, .ref q_w)] ∧ ((w_op < 40 ∨ 43 < w_op))) (fun H locs ls hJ => ?_) (fun k22 => ?_)
    · obtain ⟨hP, hD, hS, hl, h22⟩ := hJ
      refine lv_iconst (v := 0) hx hb dX8_isBranch_22 (by decide) ?_
      have e0 : (W_isBranch_23_s0 w_op) = 0 := (if_pos h22)
      have k23 := k23 _ _ _ ⟨hP, hD, hS, hl⟩
      refine W.eq (g2 := F0 m 23 ls [.int 0]) rfl ?_
      exact W.eq (by rw [e0]) k23
    refine lv_icmp_lt (tgt := 22) hx hb dX8_isBranch_6 rfl (fun c6 => ?_) (fun c6 => ?_)
    · exact k22 _ _ _ ⟨hP, hD, hS, hl, (Or.inl c6)⟩
    · refine lv_aload_n hx hb dX8_isBranch_9 rfl (lv_at hl 0 rfl) ?_
      refine va_get (D := D) (ci := 8) (v := .int w_op) (C := RX8) (T := TX8) (N := 6) hx hb hts inX8 hown hK hP 0 rfl rfl 1 (by decide) (hts _ kt_99) (fun _ h => h) rfl dX8_isBranch_10 ?_
      refine lv_bipush (v := 43) hx hb dX8_isBranch_13 (by decide) ?_
      refine lv_icmp_gt (tgt := 22) hx hb dX8_isBranch_15 rfl (fun c15 => ?_) (fun c15 => ?_)
      · exact k22 _ _ _ ⟨hP, hD, hS, hl, (Or.inr c15)⟩
      · refine lv_iconst (v := 1) hx hb dX8_isBranch_18 (by decide) ?_
        refine lv_goto (tgt := 23) hx hb dX8_isBranch_19 rfl ?_
        have e0 : (W_isBranch_23_s0 w_op) = 1 := (if_neg (not_or.mpr ⟨c6, c15⟩))
        have k23 := k23 _ _ _ ⟨hP, hD, hS, hl⟩
        refine W.eq (g2 := F0 m 23 ls [.int 1]) rfl ?_
        exact W.eq (by rw [e0]) k23
def W_isJump_23_s0 (w_op : Int32) : Int32 := (if (w_op = 44 ∨ w_op = 45) then 1 else 0)
theorem W_isJump_23_s0_b (w_op : Int32) : W_isJump_23_s0 w_op = 0 ∨ W_isJump_23_s0 w_op = 1 := by
  unfold W_isJump_23_s0
  repeat' split
  all_goals first | exact Or.inl rfl | exact Or.inr rfl
set_option maxHeartbeats 4000000 in
set_option maxRecDepth 100000 in
theorem c_W_isJump (l : Launch) (D : va_G) (cI cJ : ClassId) (q_w : Nat) (w_pc : Int32) (w_op : Int32) (w_d : Int32) (w_a : Int32) (w_b : Int32) (w_i : Int32) (sz : Nat) : Met l yX8_isJump (.code yX8_isJump cX8_isJump 1 (some .boolean) :: gU) { frames := 0, cells := 0, slots := 0, locals := 0 } (va_Pc [.ref q_w] (mP D vwCl (tyS cI cJ) [(q_w, .inr (8, [.int w_pc, .int w_op, .int w_d, .int w_a, .int w_b, .int w_i]))] sz)) (qI D vwCl (tyS cI cJ) [(q_w, .inr (8, [.int w_pc, .int w_op, .int w_d, .int w_a, .int w_b, .int w_i]))] (W_isJump_23_s0 w_op) (va_A [(q_w, .inr (8, [.int w_pc, .int w_op, .int w_d, .int w_a, .int w_b, .int w_i]))] sz)) 0 0 (va_A [(q_w, .inr (8, [.int w_pc, .int w_op, .int w_d, .int w_a, .int w_b, .int w_i]))] sz) := by
  refine m_go (y := yX8_isJump) (cc := cX8_isJump) (ml := 1) (rt := (some .boolean)) (av := [.ref q_w]) (cs := [(q_w, .inr (8, [.int w_pc, .int w_op, .int w_d, .int w_a, .int w_b, .int w_i]))]) (fun A => qI D vwCl (tyS cI cJ) [(q_w, .inr (8, [.int w_pc, .int w_op, .int w_d, .int w_a, .int w_b, .int w_i]))] (W_isJump_23_s0 w_op) A) (by decide) (Nat.le_of_ble_eq_true rfl) ?_
  intro p e s m below meth c A ls hx hb hr hlk hml hts hown _ hA hP hK hD hS hl _
  have hl : lv_has ls 1 [(0, .ref q_w)] := hl
  refine lv_aload_n hx hb dX8_isJump_0 rfl (lv_at hl 0 rfl) ?_
  refine va_get (D := D) (ci := 8) (v := .int w_op) (C := RX8) (T := TX8) (N := 6) hx hb hts inX8 hown hK hP 0 rfl rfl 1 (by decide) (hts _ kt_99) (fun _ h => h) rfl dX8_isJump_1 ?_
  refine lv_bipush (v := 44) hx hb dX8_isJump_4 (by decide) ?_
  refine w_j (J := 23) (st := [.int (W_isJump_23_s0 w_op)]) (fun H locs ls => va_P D vwCl [(q_w, .inr (8, [.int w_pc, .int w_op, .int w_d, .int w_a, .int w_b, .int w_i]))] H ∧ va_D A [(q_w, .inr (8, [.int w_pc, .int w_op, .int w_d, .int w_a, .int w_b, .int w_i]))] ∧ va_S A s.heap H locs ∧ lv_has ls 1 [(0, .ref q_w)]) (fun H locs ls hJ => ?_) (fun k23 => ?_)
  · obtain ⟨hP, hD, hS, hl⟩ := hJ
    exact e_z hx hb hr hlk hK hP hD hS rfl (nz (W_isJump_23_s0_b w_op)).1 dX8_isJump_23
  · refine w_j (J := 18) (st := []) (fun H locs ls => va_P D vwCl [(q_w, .inr (8, [.int w_pc, .int w_op, .int w_d, .int w_a, .int w_b, .int w_i]))] H ∧ va_D A [(q_w, .inr (8, [.int w_pc, .int w_op, .int w_d, .int w_a, .int w_b, .int w_i]))] ∧ va_S A s.heap H locs ∧ lv_has ls 1 [(0, .ref q_w)] ∧ ((w_op = 44 ∨ w_op = 45))) (fun H locs ls hJ => ?_) (fun k18 => ?_)
    · obtain ⟨hP, hD, hS, hl, h18⟩ := hJ
      refine lv_iconst (v := 1) hx hb dX8_isJump_18 (by decide) ?_
      refine lv_goto (tgt := 23) hx hb dX8_isJump_19 rfl ?_
      have e0 : (W_isJump_23_s0 w_op) = 1 := (if_pos h18)
      have k23 := k23 _ _ _ ⟨hP, hD, hS, hl⟩
      refine W.eq (g2 := F0 m 23 ls [.int 1]) rfl ?_
      exact W.eq (by rw [e0]) k23
    refine lv_icmp_eq (tgt := 18) hx hb dX8_isJump_6 rfl (fun c6 => ?_) (fun c6 => ?_)
    · exact k18 _ _ _ ⟨hP, hD, hS, hl, (Or.inl c6)⟩
    · refine lv_aload_n hx hb dX8_isJump_9 rfl (lv_at hl 0 rfl) ?_
      refine va_get (D := D) (ci := 8) (v := .int w_op) (C := RX8) (T := TX8) (N := 6) hx hb hts inX8 hown hK hP 0 rfl rfl 1 (by decide) (hts _ kt_99) (fun _ h => h) rfl dX8_isJump_10 ?_
      refine lv_bipush (v := 45) hx hb dX8_isJump_13 (by decide) ?_
      refine lv_icmp_ne (tgt := 22) hx hb dX8_isJump_15 rfl (fun c15 => ?_) (fun c15 => ?_)
      · refine lv_iconst (v := 0) hx hb dX8_isJump_22 (by decide) ?_
        have e0 : (W_isJump_23_s0 w_op) = 0 := (if_neg (not_or.mpr ⟨c6, c15⟩))
        have k23 := k23 _ _ _ ⟨hP, hD, hS, hl⟩
        refine W.eq (g2 := F0 m 23 ls [.int 0]) rfl ?_
        exact W.eq (by rw [e0]) k23
      · exact k18 _ _ _ ⟨hP, hD, hS, hl, (Or.inr c15)⟩
def W_isCall_21_s0 (w_op : Int32) (w_d : Int32) : Int32 := (if ((W_isJump_23_s0 w_op) = 0 ∨ ¬ w_d = 15) then 0 else 1)
theorem W_isCall_21_s0_b (w_op : Int32) (w_d : Int32) : W_isCall_21_s0 w_op w_d = 0 ∨ W_isCall_21_s0 w_op w_d = 1 := by
  unfold W_isCall_21_s0
  repeat' split
  all_goals first | exact Or.inl rfl | exact Or.inr rfl | apply W_isJump_23_s0_b
set_option maxHeartbeats 4000000 in
set_option maxRecDepth 100000 in
theorem c_W_isCall (l : Launch) (D : va_G) (cI cJ : ClassId) (q_w : Nat) (w_pc : Int32) (w_op : Int32) (w_d : Int32) (w_a : Int32) (w_b : Int32) (w_i : Int32) (sz : Nat) : Met l yX8_isCall (.code yX8_isCall cX8_isCall 1 (some .boolean) :: gU) { frames := 1, cells := 0, slots := 0, locals := 20 } (va_Pc [.ref q_w] (mP D vwCl (tyS cI cJ) [(q_w, .inr (8, [.int w_pc, .int w_op, .int w_d, .int w_a, .int w_b, .int w_i]))] sz)) (qI D vwCl (tyS cI cJ) [(q_w, .inr (8, [.int w_pc, .int w_op, .int w_d, .int w_a, .int w_b, .int w_i]))] (W_isCall_21_s0 w_op w_d) (va_A [(q_w, .inr (8, [.int w_pc, .int w_op, .int w_d, .int w_a, .int w_b, .int w_i]))] sz)) 0 0 (va_A [(q_w, .inr (8, [.int w_pc, .int w_op, .int w_d, .int w_a, .int w_b, .int w_i]))] sz) := by
  refine m_go (y := yX8_isCall) (cc := cX8_isCall) (ml := 1) (rt := (some .boolean)) (av := [.ref q_w]) (cs := [(q_w, .inr (8, [.int w_pc, .int w_op, .int w_d, .int w_a, .int w_b, .int w_i]))]) (fun A => qI D vwCl (tyS cI cJ) [(q_w, .inr (8, [.int w_pc, .int w_op, .int w_d, .int w_a, .int w_b, .int w_i]))] (W_isCall_21_s0 w_op w_d) A) (by decide) (Nat.le_of_ble_eq_true rfl) ?_
  intro p e s m below meth c A ls hx hb hr hlk hml hts hown _ hA hP hK hD hS hl _
  have hl : lv_has ls 1 [(0, .ref q_w)] := hl
  refine lv_aload_n hx hb dX8_isCall_0 rfl (lv_at hl 0 rfl) ?_
  refine c_i (r := (W_isJump_23_s0 w_op)) (wc := [(q_w, .inr (8, [.int w_pc, .int w_op, .int w_d, .int w_a, .int w_b, .int w_i]))]) (wr := []) (wc2 := [(q_w, .inr (8, [.int w_pc, .int w_op, .int w_d, .int w_a, .int w_b, .int w_i]))]) (ws2 := [(q_w, .inr (8, [.int w_pc, .int w_op, .int w_d, .int w_a, .int w_b, .int w_i]))]) (r_V (rm := { frames := 0, cells := 0, slots := 0, locals := 0 }) hx hb hml hown hts (c_W_isJump l D cI cJ q_w w_pc w_op w_d w_a w_b w_i _) 0 kt_454 kt_451 kt_452 kt_453 kt_5 ⟨by decide +kernel, by decide +kernel, by decide +kernel⟩ ⟨by decide, by decide⟩ hK hP hD [0] rfl (by decide) 0 rfl rfl hl.1 rfl rfl (Nat.le_of_ble_eq_true rfl) dX8_isCall_1 ⟨by decide, by decide⟩) hP hD hS hA [0] [] [0] rfl rfl (by decide) (by decide) rfl (by decide) (fun H locs hP hD hS => ?_)
  refine w_j (J := 21) (st := [.int (W_isCall_21_s0 w_op w_d)]) (fun H locs ls => va_P D vwCl [(q_w, .inr (8, [.int w_pc, .int w_op, .int w_d, .int w_a, .int w_b, .int w_i]))] H ∧ va_D A [(q_w, .inr (8, [.int w_pc, .int w_op, .int w_d, .int w_a, .int w_b, .int w_i]))] ∧ va_S A s.heap H locs ∧ lv_has ls 1 [(0, .ref q_w)]) (fun H locs ls hJ => ?_) (fun k21 => ?_)
  · obtain ⟨hP, hD, hS, hl⟩ := hJ
    exact e_z hx hb hr hlk hK hP hD hS rfl (nz (W_isCall_21_s0_b w_op w_d)).1 dX8_isCall_21
  · refine w_j (J := 20) (st := []) (fun H locs ls => va_P D vwCl [(q_w, .inr (8, [.int w_pc, .int w_op, .int w_d, .int w_a, .int w_b, .int w_i]))] H ∧ va_D A [(q_w, .inr (8, [.int w_pc, .int w_op, .int w_d, .int w_a, .int w_b, .int w_i]))] ∧ va_S A s.heap H locs ∧ lv_has ls 1 [(0, .ref q_w)] ∧ (((W_isJump_23_s0 w_op) = 0 ∨ ¬ w_d = 15))) (fun H locs ls hJ => ?_) (fun k20 => ?_)
    · obtain ⟨hP, hD, hS, hl, h20⟩ := hJ
      refine lv_iconst (v := 0) hx hb dX8_isCall_20 (by decide) ?_
      have e0 : (W_isCall_21_s0 w_op w_d) = 0 := (if_pos h20)
      have k21 := k21 _ _ _ ⟨hP, hD, hS, hl⟩
      refine W.eq (g2 := F0 m 21 ls [.int 0]) rfl ?_
      exact W.eq (by rw [e0]) k21
    refine lv_if_eq (tgt := 20) hx hb dX8_isCall_4 rfl (fun c4 => ?_) (fun c4 => ?_)
    · exact k20 _ _ _ ⟨hP, hD, hS, hl, (Or.inl c4)⟩
    · refine lv_aload_n hx hb dX8_isCall_7 rfl (lv_at hl 0 rfl) ?_
      refine va_get (D := D) (ci := 8) (v := .int w_d) (C := RX8) (T := TX8) (N := 6) hx hb hts inX8 hown hK hP 0 rfl rfl 2 (by decide) (hts _ kt_104) (fun _ h => h) rfl dX8_isCall_8 ?_
      refine lv_bipush (v := 15) hx hb dX8_isCall_11 (by decide) ?_
      refine lv_icmp_ne (tgt := 20) hx hb dX8_isCall_13 rfl (fun c13 => ?_) (fun c13 => ?_)
      · exact k20 _ _ _ ⟨hP, hD, hS, hl, (Or.inr c13)⟩
      · refine lv_iconst (v := 1) hx hb dX8_isCall_16 (by decide) ?_
        refine lv_goto (tgt := 21) hx hb dX8_isCall_17 rfl ?_
        have e0 : (W_isCall_21_s0 w_op w_d) = 1 := (if_neg (not_or.mpr ⟨c4, (fun n => n c13)⟩))
        have k21 := k21 _ _ _ ⟨hP, hD, hS, hl⟩
        refine W.eq (g2 := F0 m 21 ls [.int 1]) rfl ?_
        exact W.eq (by rw [e0]) k21
def W_isReturn_30_s0 (w_op : Int32) (w_d : Int32) (w_a : Int32) : Int32 := (if (¬ w_op = 45 ∨ (¬ w_a = 15 ∨ ¬ w_d = 0)) then 0 else 1)
theorem W_isReturn_30_s0_b (w_op : Int32) (w_d : Int32) (w_a : Int32) : W_isReturn_30_s0 w_op w_d w_a = 0 ∨ W_isReturn_30_s0 w_op w_d w_a = 1 := by
  unfold W_isReturn_30_s0
  repeat' split
  all_goals first | exact Or.inl rfl | exact Or.inr rfl
set_option maxHeartbeats 4000000 in
set_option maxRecDepth 100000 in
theorem c_W_isReturn (l : Launch) (D : va_G) (cI cJ : ClassId) (q_w : Nat) (w_pc : Int32) (w_op : Int32) (w_d : Int32) (w_a : Int32) (w_b : Int32) (w_i : Int32) (sz : Nat) : Met l yX8_isReturn (.code yX8_isReturn cX8_isReturn 1 (some .boolean) :: gU) { frames := 0, cells := 0, slots := 0, locals := 0 } (va_Pc [.ref q_w] (mP D vwCl (tyS cI cJ) [(q_w, .inr (8, [.int w_pc, .int w_op, .int w_d, .int w_a, .int w_b, .int w_i]))] sz)) (qI D vwCl (tyS cI cJ) [(q_w, .inr (8, [.int w_pc, .int w_op, .int w_d, .int w_a, .int w_b, .int w_i]))] (W_isReturn_30_s0 w_op w_d w_a) (va_A [(q_w, .inr (8, [.int w_pc, .int w_op, .int w_d, .int w_a, .int w_b, .int w_i]))] sz)) 0 0 (va_A [(q_w, .inr (8, [.int w_pc, .int w_op, .int w_d, .int w_a, .int w_b, .int w_i]))] sz) := by
  refine m_go (y := yX8_isReturn) (cc := cX8_isReturn) (ml := 1) (rt := (some .boolean)) (av := [.ref q_w]) (cs := [(q_w, .inr (8, [.int w_pc, .int w_op, .int w_d, .int w_a, .int w_b, .int w_i]))]) (fun A => qI D vwCl (tyS cI cJ) [(q_w, .inr (8, [.int w_pc, .int w_op, .int w_d, .int w_a, .int w_b, .int w_i]))] (W_isReturn_30_s0 w_op w_d w_a) A) (by decide) (Nat.le_of_ble_eq_true rfl) ?_
  intro p e s m below meth c A ls hx hb hr hlk hml hts hown _ hA hP hK hD hS hl _
  have hl : lv_has ls 1 [(0, .ref q_w)] := hl
  refine lv_aload_n hx hb dX8_isReturn_0 rfl (lv_at hl 0 rfl) ?_
  refine va_get (D := D) (ci := 8) (v := .int w_op) (C := RX8) (T := TX8) (N := 6) hx hb hts inX8 hown hK hP 0 rfl rfl 1 (by decide) (hts _ kt_99) (fun _ h => h) rfl dX8_isReturn_1 ?_
  refine lv_bipush (v := 45) hx hb dX8_isReturn_4 (by decide) ?_
  refine w_j (J := 30) (st := [.int (W_isReturn_30_s0 w_op w_d w_a)]) (fun H locs ls => va_P D vwCl [(q_w, .inr (8, [.int w_pc, .int w_op, .int w_d, .int w_a, .int w_b, .int w_i]))] H ∧ va_D A [(q_w, .inr (8, [.int w_pc, .int w_op, .int w_d, .int w_a, .int w_b, .int w_i]))] ∧ va_S A s.heap H locs ∧ lv_has ls 1 [(0, .ref q_w)]) (fun H locs ls hJ => ?_) (fun k30 => ?_)
  · obtain ⟨hP, hD, hS, hl⟩ := hJ
    exact e_z hx hb hr hlk hK hP hD hS rfl (nz (W_isReturn_30_s0_b w_op w_d w_a)).1 dX8_isReturn_30
  · refine w_j (J := 29) (st := []) (fun H locs ls => va_P D vwCl [(q_w, .inr (8, [.int w_pc, .int w_op, .int w_d, .int w_a, .int w_b, .int w_i]))] H ∧ va_D A [(q_w, .inr (8, [.int w_pc, .int w_op, .int w_d, .int w_a, .int w_b, .int w_i]))] ∧ va_S A s.heap H locs ∧ lv_has ls 1 [(0, .ref q_w)] ∧ ((¬ w_op = 45 ∨ (¬ w_a = 15 ∨ ¬ w_d = 0)))) (fun H locs ls hJ => ?_) (fun k29 => ?_)
    · obtain ⟨hP, hD, hS, hl, h29⟩ := hJ
      refine lv_iconst (v := 0) hx hb dX8_isReturn_29 (by decide) ?_
      have e0 : (W_isReturn_30_s0 w_op w_d w_a) = 0 := (if_pos h29)
      have k30 := k30 _ _ _ ⟨hP, hD, hS, hl⟩
      refine W.eq (g2 := F0 m 30 ls [.int 0]) rfl ?_
      exact W.eq (by rw [e0]) k30
    refine lv_icmp_ne (tgt := 29) hx hb dX8_isReturn_6 rfl (fun c6 => ?_) (fun c6 => ?_)
    · exact k29 _ _ _ ⟨hP, hD, hS, hl, (Or.inl c6)⟩
    · refine lv_aload_n hx hb dX8_isReturn_9 rfl (lv_at hl 0 rfl) ?_
      refine va_get (D := D) (ci := 8) (v := .int w_a) (C := RX8) (T := TX8) (N := 6) hx hb hts inX8 hown hK hP 0 rfl rfl 3 (by decide) (hts _ kt_108) (fun _ h => h) rfl dX8_isReturn_10 ?_
      refine lv_bipush (v := 15) hx hb dX8_isReturn_13 (by decide) ?_
      refine lv_icmp_ne (tgt := 29) hx hb dX8_isReturn_15 rfl (fun c15 => ?_) (fun c15 => ?_)
      · exact k29 _ _ _ ⟨hP, hD, hS, hl, (Or.inr (Or.inl c15))⟩
      · refine lv_aload_n hx hb dX8_isReturn_18 rfl (lv_at hl 0 rfl) ?_
        refine va_get (D := D) (ci := 8) (v := .int w_d) (C := RX8) (T := TX8) (N := 6) hx hb hts inX8 hown hK hP 0 rfl rfl 2 (by decide) (hts _ kt_104) (fun _ h => h) rfl dX8_isReturn_19 ?_
        refine lv_if_ne (tgt := 29) hx hb dX8_isReturn_22 rfl (fun c22 => ?_) (fun c22 => ?_)
        · exact k29 _ _ _ ⟨hP, hD, hS, hl, (Or.inr (Or.inr c22))⟩
        · refine lv_iconst (v := 1) hx hb dX8_isReturn_25 (by decide) ?_
          refine lv_goto (tgt := 30) hx hb dX8_isReturn_26 rfl ?_
          have e0 : (W_isReturn_30_s0 w_op w_d w_a) = 1 := (if_neg (not_or.mpr ⟨(fun n => n c6), (not_or.mpr ⟨(fun n => n c15), (fun n => n c22)⟩)⟩))
          have k30 := k30 _ _ _ ⟨hP, hD, hS, hl⟩
          refine W.eq (g2 := F0 m 30 ls [.int 1]) rfl ?_
          exact W.eq (by rw [e0]) k30
def W_readsA_51_s0 (w_op : Int32) : Int32 := (if (¬ (W_isOfTwo_14_s0 w_op) = 0 ∨ (¬ (W_isWithNumber_23_s0 w_op) = 0 ∨ (¬ (W_isAccess_23_s0 w_op) = 0 ∨ (¬ (W_isBranch_23_s0 w_op) = 0 ∨ (w_op = 45 ∨ w_op = 49))))) then 1 else 0)
theorem W_readsA_51_s0_b (w_op : Int32) : W_readsA_51_s0 w_op = 0 ∨ W_readsA_51_s0 w_op = 1 := by
  unfold W_readsA_51_s0
  repeat' split
  all_goals first | exact Or.inl rfl | exact Or.inr rfl | apply W_isAccess_23_s0_b | apply W_isBranch_23_s0_b | apply W_isOfTwo_14_s0_b | apply W_isWithNumber_23_s0_b
set_option maxHeartbeats 4000000 in
set_option maxRecDepth 100000 in
theorem c_W_readsA (l : Launch) (D : va_G) (cI cJ : ClassId) (q_w : Nat) (w_pc : Int32) (w_op : Int32) (w_d : Int32) (w_a : Int32) (w_b : Int32) (w_i : Int32) (sz : Nat) : Met l yX8_readsA (.code yX8_readsA cX8_readsA 1 (some .boolean) :: gU) { frames := 1, cells := 0, slots := 0, locals := 20 } (va_Pc [.ref q_w] (mP D vwCl (tyS cI cJ) [(q_w, .inr (8, [.int w_pc, .int w_op, .int w_d, .int w_a, .int w_b, .int w_i]))] sz)) (qI D vwCl (tyS cI cJ) [(q_w, .inr (8, [.int w_pc, .int w_op, .int w_d, .int w_a, .int w_b, .int w_i]))] (W_readsA_51_s0 w_op) (va_A [(q_w, .inr (8, [.int w_pc, .int w_op, .int w_d, .int w_a, .int w_b, .int w_i]))] sz)) 0 0 (va_A [(q_w, .inr (8, [.int w_pc, .int w_op, .int w_d, .int w_a, .int w_b, .int w_i]))] sz) := by
  refine m_go (y := yX8_readsA) (cc := cX8_readsA) (ml := 1) (rt := (some .boolean)) (av := [.ref q_w]) (cs := [(q_w, .inr (8, [.int w_pc, .int w_op, .int w_d, .int w_a, .int w_b, .int w_i]))]) (fun A => qI D vwCl (tyS cI cJ) [(q_w, .inr (8, [.int w_pc, .int w_op, .int w_d, .int w_a, .int w_b, .int w_i]))] (W_readsA_51_s0 w_op) A) (by decide) (Nat.le_of_ble_eq_true rfl) ?_
  intro p e s m below meth c A ls hx hb hr hlk hml hts hown _ hA hP hK hD hS hl _
  have hl : lv_has ls 1 [(0, .ref q_w)] := hl
  refine lv_aload_n hx hb dX8_readsA_0 rfl (lv_at hl 0 rfl) ?_
  refine c_i (r := (W_isOfTwo_14_s0 w_op)) (wc := [(q_w, .inr (8, [.int w_pc, .int w_op, .int w_d, .int w_a, .int w_b, .int w_i]))]) (wr := []) (wc2 := [(q_w, .inr (8, [.int w_pc, .int w_op, .int w_d, .int w_a, .int w_b, .int w_i]))]) (ws2 := [(q_w, .inr (8, [.int w_pc, .int w_op, .int w_d, .int w_a, .int w_b, .int w_i]))]) (r_V (rm := { frames := 0, cells := 0, slots := 0, locals := 0 }) hx hb hml hown hts (c_W_isOfTwo l D cI cJ q_w w_pc w_op w_d w_a w_b w_i _) 0 kt_385 kt_435 kt_383 kt_384 kt_5 ⟨by decide +kernel, by decide +kernel, by decide +kernel⟩ ⟨by decide, by decide⟩ hK hP hD [0] rfl (by decide) 0 rfl rfl hl.1 rfl rfl (Nat.le_of_ble_eq_true rfl) dX8_readsA_1 ⟨by decide, by decide⟩) hP hD hS hA [0] [] [0] rfl rfl (by decide) (by decide) rfl (by decide) (fun H locs hP hD hS => ?_)
  refine w_j (J := 51) (st := [.int (W_readsA_51_s0 w_op)]) (fun H locs ls => va_P D vwCl [(q_w, .inr (8, [.int w_pc, .int w_op, .int w_d, .int w_a, .int w_b, .int w_i]))] H ∧ va_D A [(q_w, .inr (8, [.int w_pc, .int w_op, .int w_d, .int w_a, .int w_b, .int w_i]))] ∧ va_S A s.heap H locs ∧ lv_has ls 1 [(0, .ref q_w)]) (fun H locs ls hJ => ?_) (fun k51 => ?_)
  · obtain ⟨hP, hD, hS, hl⟩ := hJ
    exact e_z hx hb hr hlk hK hP hD hS rfl (nz (W_readsA_51_s0_b w_op)).1 dX8_readsA_51
  · refine w_j (J := 46) (st := []) (fun H locs ls => va_P D vwCl [(q_w, .inr (8, [.int w_pc, .int w_op, .int w_d, .int w_a, .int w_b, .int w_i]))] H ∧ va_D A [(q_w, .inr (8, [.int w_pc, .int w_op, .int w_d, .int w_a, .int w_b, .int w_i]))] ∧ va_S A s.heap H locs ∧ lv_has ls 1 [(0, .ref q_w)] ∧ ((¬ (W_isOfTwo_14_s0 w_op) = 0 ∨ (¬ (W_isWithNumber_23_s0 w_op) = 0 ∨ (¬ (W_isAccess_23_s0 w_op) = 0 ∨ (¬ (W_isBranch_23_s0 w_op) = 0 ∨ (w_op = 45 ∨ w_op = 49))))))) (fun H locs ls hJ => ?_) (fun k46 => ?_)
    · obtain ⟨hP, hD, hS, hl, h46⟩ := hJ
      refine lv_iconst (v := 1) hx hb dX8_readsA_46 (by decide) ?_
      refine lv_goto (tgt := 51) hx hb dX8_readsA_47 rfl ?_
      have e0 : (W_readsA_51_s0 w_op) = 1 := (if_pos h46)
      have k51 := k51 _ _ _ ⟨hP, hD, hS, hl⟩
      refine W.eq (g2 := F0 m 51 ls [.int 1]) rfl ?_
      exact W.eq (by rw [e0]) k51
    refine lv_if_ne (tgt := 46) hx hb dX8_readsA_4 rfl (fun c4 => ?_) (fun c4 => ?_)
    · exact k46 _ _ _ ⟨hP, hD, hS, hl, (Or.inl c4)⟩
    · refine lv_aload_n hx hb dX8_readsA_7 rfl (lv_at hl 0 rfl) ?_
      refine c_i (r := (W_isWithNumber_23_s0 w_op)) (wc := [(q_w, .inr (8, [.int w_pc, .int w_op, .int w_d, .int w_a, .int w_b, .int w_i]))]) (wr := []) (wc2 := [(q_w, .inr (8, [.int w_pc, .int w_op, .int w_d, .int w_a, .int w_b, .int w_i]))]) (ws2 := [(q_w, .inr (8, [.int w_pc, .int w_op, .int w_d, .int w_a, .int w_b, .int w_i]))]) (r_V (rm := { frames := 0, cells := 0, slots := 0, locals := 0 }) hx hb hml hown hts (c_W_isWithNumber l D cI cJ q_w w_pc w_op w_d w_a w_b w_i _) 0 kt_393 kt_436 kt_391 kt_392 kt_5 ⟨by decide +kernel, by decide +kernel, by decide +kernel⟩ ⟨by decide, by decide⟩ hK hP hD [0] rfl (by decide) 0 rfl rfl hl.1 rfl rfl (Nat.le_of_ble_eq_true rfl) dX8_readsA_8 ⟨by decide, by decide⟩) hP hD hS hA [0] [] [0] rfl rfl (by decide) (by decide) rfl (by decide) (fun H locs hP hD hS => ?_)
      refine lv_if_ne (tgt := 46) hx hb dX8_readsA_11 rfl (fun c11 => ?_) (fun c11 => ?_)
      · exact k46 _ _ _ ⟨hP, hD, hS, hl, (Or.inr (Or.inl c11))⟩
      · refine lv_aload_n hx hb dX8_readsA_14 rfl (lv_at hl 0 rfl) ?_
        refine c_i (r := (W_isAccess_23_s0 w_op)) (wc := [(q_w, .inr (8, [.int w_pc, .int w_op, .int w_d, .int w_a, .int w_b, .int w_i]))]) (wr := []) (wc2 := [(q_w, .inr (8, [.int w_pc, .int w_op, .int w_d, .int w_a, .int w_b, .int w_i]))]) (ws2 := [(q_w, .inr (8, [.int w_pc, .int w_op, .int w_d, .int w_a, .int w_b, .int w_i]))]) (r_V (rm := { frames := 0, cells := 0, slots := 0, locals := 0 }) hx hb hml hown hts (c_W_isAccess l D cI cJ q_w w_pc w_op w_d w_a w_b w_i _) 0 kt_397 kt_437 kt_395 kt_396 kt_5 ⟨by decide +kernel, by decide +kernel, by decide +kernel⟩ ⟨by decide, by decide⟩ hK hP hD [0] rfl (by decide) 0 rfl rfl hl.1 rfl rfl (Nat.le_of_ble_eq_true rfl) dX8_readsA_15 ⟨by decide, by decide⟩) hP hD hS hA [0] [] [0] rfl rfl (by decide) (by decide) rfl (by decide) (fun H locs hP hD hS => ?_)
        refine lv_if_ne (tgt := 46) hx hb dX8_readsA_18 rfl (fun c18 => ?_) (fun c18 => ?_)
        · exact k46 _ _ _ ⟨hP, hD, hS, hl, (Or.inr (Or.inr (Or.inl c18)))⟩
        · refine lv_aload_n hx hb dX8_readsA_21 rfl (lv_at hl 0 rfl) ?_
          refine c_i (r := (W_isBranch_23_s0 w_op)) (wc := [(q_w, .inr (8, [.int w_pc, .int w_op, .int w_d, .int w_a, .int w_b, .int w_i]))]) (wr := []) (wc2 := [(q_w, .inr (8, [.int w_pc, .int w_op, .int w_d, .int w_a, .int w_b, .int w_i]))]) (ws2 := [(q_w, .inr (8, [.int w_pc, .int w_op, .int w_d, .int w_a, .int w_b, .int w_i]))]) (r_V (rm := { frames := 0, cells := 0, slots := 0, locals := 0 }) hx hb hml hown hts (c_W_isBranch l D cI cJ q_w w_pc w_op w_d w_a w_b w_i _) 0 kt_369 kt_438 kt_367 kt_368 kt_5 ⟨by decide +kernel, by decide +kernel, by decide +kernel⟩ ⟨by decide, by decide⟩ hK hP hD [0] rfl (by decide) 0 rfl rfl hl.1 rfl rfl (Nat.le_of_ble_eq_true rfl) dX8_readsA_22 ⟨by decide, by decide⟩) hP hD hS hA [0] [] [0] rfl rfl (by decide) (by decide) rfl (by decide) (fun H locs hP hD hS => ?_)
          refine lv_if_ne (tgt := 46) hx hb dX8_readsA_25 rfl (fun c25 => ?_) (fun c25 => ?_)
          · exact k46 _ _ _ ⟨hP, hD, hS, hl, (Or.inr (Or.inr (Or.inr (Or.inl c25))))⟩
          · refine lv_aload_n hx hb dX8_readsA_28 rfl (lv_at hl 0 rfl) ?_
            refine va_get (D := D) (ci := 8) (v := .int w_op) (C := RX8) (T := TX8) (N := 6) hx hb hts inX8 hown hK hP 0 rfl rfl 1 (by decide) (hts _ kt_99) (fun _ h => h) rfl dX8_readsA_29 ?_
            refine lv_bipush (v := 45) hx hb dX8_readsA_32 (by decide) ?_
            refine lv_icmp_eq (tgt := 46) hx hb dX8_readsA_34 rfl (fun c34 => ?_) (fun c34 => ?_)
            · exact k46 _ _ _ ⟨hP, hD, hS, hl, (Or.inr (Or.inr (Or.inr (Or.inr (Or.inl c34)))))⟩
            · refine lv_aload_n hx hb dX8_readsA_37 rfl (lv_at hl 0 rfl) ?_
              refine W.eq (g2 := F0 m 38 ls [.ref q_w]) rfl ?_
              refine va_get (D := D) (ci := 8) (v := .int w_op) (C := RX8) (T := TX8) (N := 6) hx hb hts inX8 hown hK hP 0 rfl rfl 1 (by decide) (hts _ kt_99) (fun _ h => h) rfl dX8_readsA_38 ?_
              refine lv_bipush (v := 49) hx hb dX8_readsA_41 (by decide) ?_
              refine lv_icmp_ne (tgt := 50) hx hb dX8_readsA_43 rfl (fun c43 => ?_) (fun c43 => ?_)
              · refine lv_iconst (v := 0) hx hb dX8_readsA_50 (by decide) ?_
                have e0 : (W_readsA_51_s0 w_op) = 0 := (if_neg (not_or.mpr ⟨(fun n => n c4), (not_or.mpr ⟨(fun n => n c11), (not_or.mpr ⟨(fun n => n c18), (not_or.mpr ⟨(fun n => n c25), (not_or.mpr ⟨c34, c43⟩)⟩)⟩)⟩)⟩))
                have k51 := k51 _ _ _ ⟨hP, hD, hS, hl⟩
                refine W.eq (g2 := F0 m 51 ls [.int 0]) rfl ?_
                exact W.eq (by rw [e0]) k51
              · exact k46 _ _ _ ⟨hP, hD, hS, hl, (Or.inr (Or.inr (Or.inr (Or.inr (Or.inr c43)))))⟩
def W_readsB_19_s0 (w_op : Int32) : Int32 := (if (¬ (W_isOfTwo_14_s0 w_op) = 0 ∨ ¬ (W_isBranch_23_s0 w_op) = 0) then 1 else 0)
theorem W_readsB_19_s0_b (w_op : Int32) : W_readsB_19_s0 w_op = 0 ∨ W_readsB_19_s0 w_op = 1 := by
  unfold W_readsB_19_s0
  repeat' split
  all_goals first | exact Or.inl rfl | exact Or.inr rfl | apply W_isBranch_23_s0_b | apply W_isOfTwo_14_s0_b
set_option maxHeartbeats 4000000 in
set_option maxRecDepth 100000 in
theorem c_W_readsB (l : Launch) (D : va_G) (cI cJ : ClassId) (q_w : Nat) (w_pc : Int32) (w_op : Int32) (w_d : Int32) (w_a : Int32) (w_b : Int32) (w_i : Int32) (sz : Nat) : Met l yX8_readsB (.code yX8_readsB cX8_readsB 1 (some .boolean) :: gU) { frames := 1, cells := 0, slots := 0, locals := 20 } (va_Pc [.ref q_w] (mP D vwCl (tyS cI cJ) [(q_w, .inr (8, [.int w_pc, .int w_op, .int w_d, .int w_a, .int w_b, .int w_i]))] sz)) (qI D vwCl (tyS cI cJ) [(q_w, .inr (8, [.int w_pc, .int w_op, .int w_d, .int w_a, .int w_b, .int w_i]))] (W_readsB_19_s0 w_op) (va_A [(q_w, .inr (8, [.int w_pc, .int w_op, .int w_d, .int w_a, .int w_b, .int w_i]))] sz)) 0 0 (va_A [(q_w, .inr (8, [.int w_pc, .int w_op, .int w_d, .int w_a, .int w_b, .int w_i]))] sz) := by
  refine m_go (y := yX8_readsB) (cc := cX8_readsB) (ml := 1) (rt := (some .boolean)) (av := [.ref q_w]) (cs := [(q_w, .inr (8, [.int w_pc, .int w_op, .int w_d, .int w_a, .int w_b, .int w_i]))]) (fun A => qI D vwCl (tyS cI cJ) [(q_w, .inr (8, [.int w_pc, .int w_op, .int w_d, .int w_a, .int w_b, .int w_i]))] (W_readsB_19_s0 w_op) A) (by decide) (Nat.le_of_ble_eq_true rfl) ?_
  intro p e s m below meth c A ls hx hb hr hlk hml hts hown _ hA hP hK hD hS hl _
  have hl : lv_has ls 1 [(0, .ref q_w)] := hl
  refine lv_aload_n hx hb dX8_readsB_0 rfl (lv_at hl 0 rfl) ?_
  refine c_i (r := (W_isOfTwo_14_s0 w_op)) (wc := [(q_w, .inr (8, [.int w_pc, .int w_op, .int w_d, .int w_a, .int w_b, .int w_i]))]) (wr := []) (wc2 := [(q_w, .inr (8, [.int w_pc, .int w_op, .int w_d, .int w_a, .int w_b, .int w_i]))]) (ws2 := [(q_w, .inr (8, [.int w_pc, .int w_op, .int w_d, .int w_a, .int w_b, .int w_i]))]) (r_V (rm := { frames := 0, cells := 0, slots := 0, locals := 0 }) hx hb hml hown hts (c_W_isOfTwo l D cI cJ q_w w_pc w_op w_d w_a w_b w_i _) 0 kt_385 kt_435 kt_383 kt_384 kt_5 ⟨by decide +kernel, by decide +kernel, by decide +kernel⟩ ⟨by decide, by decide⟩ hK hP hD [0] rfl (by decide) 0 rfl rfl hl.1 rfl rfl (Nat.le_of_ble_eq_true rfl) dX8_readsB_1 ⟨by decide, by decide⟩) hP hD hS hA [0] [] [0] rfl rfl (by decide) (by decide) rfl (by decide) (fun H locs hP hD hS => ?_)
  refine w_j (J := 19) (st := [.int (W_readsB_19_s0 w_op)]) (fun H locs ls => va_P D vwCl [(q_w, .inr (8, [.int w_pc, .int w_op, .int w_d, .int w_a, .int w_b, .int w_i]))] H ∧ va_D A [(q_w, .inr (8, [.int w_pc, .int w_op, .int w_d, .int w_a, .int w_b, .int w_i]))] ∧ va_S A s.heap H locs ∧ lv_has ls 1 [(0, .ref q_w)]) (fun H locs ls hJ => ?_) (fun k19 => ?_)
  · obtain ⟨hP, hD, hS, hl⟩ := hJ
    exact e_z hx hb hr hlk hK hP hD hS rfl (nz (W_readsB_19_s0_b w_op)).1 dX8_readsB_19
  · refine w_j (J := 14) (st := []) (fun H locs ls => va_P D vwCl [(q_w, .inr (8, [.int w_pc, .int w_op, .int w_d, .int w_a, .int w_b, .int w_i]))] H ∧ va_D A [(q_w, .inr (8, [.int w_pc, .int w_op, .int w_d, .int w_a, .int w_b, .int w_i]))] ∧ va_S A s.heap H locs ∧ lv_has ls 1 [(0, .ref q_w)] ∧ ((¬ (W_isOfTwo_14_s0 w_op) = 0 ∨ ¬ (W_isBranch_23_s0 w_op) = 0))) (fun H locs ls hJ => ?_) (fun k14 => ?_)
    · obtain ⟨hP, hD, hS, hl, h14⟩ := hJ
      refine lv_iconst (v := 1) hx hb dX8_readsB_14 (by decide) ?_
      refine lv_goto (tgt := 19) hx hb dX8_readsB_15 rfl ?_
      have e0 : (W_readsB_19_s0 w_op) = 1 := (if_pos h14)
      have k19 := k19 _ _ _ ⟨hP, hD, hS, hl⟩
      refine W.eq (g2 := F0 m 19 ls [.int 1]) rfl ?_
      exact W.eq (by rw [e0]) k19
    refine lv_if_ne (tgt := 14) hx hb dX8_readsB_4 rfl (fun c4 => ?_) (fun c4 => ?_)
    · exact k14 _ _ _ ⟨hP, hD, hS, hl, (Or.inl c4)⟩
    · refine lv_aload_n hx hb dX8_readsB_7 rfl (lv_at hl 0 rfl) ?_
      refine c_i (r := (W_isBranch_23_s0 w_op)) (wc := [(q_w, .inr (8, [.int w_pc, .int w_op, .int w_d, .int w_a, .int w_b, .int w_i]))]) (wr := []) (wc2 := [(q_w, .inr (8, [.int w_pc, .int w_op, .int w_d, .int w_a, .int w_b, .int w_i]))]) (ws2 := [(q_w, .inr (8, [.int w_pc, .int w_op, .int w_d, .int w_a, .int w_b, .int w_i]))]) (r_V (rm := { frames := 0, cells := 0, slots := 0, locals := 0 }) hx hb hml hown hts (c_W_isBranch l D cI cJ q_w w_pc w_op w_d w_a w_b w_i _) 0 kt_369 kt_438 kt_367 kt_368 kt_5 ⟨by decide +kernel, by decide +kernel, by decide +kernel⟩ ⟨by decide, by decide⟩ hK hP hD [0] rfl (by decide) 0 rfl rfl hl.1 rfl rfl (Nat.le_of_ble_eq_true rfl) dX8_readsB_8 ⟨by decide, by decide⟩) hP hD hS hA [0] [] [0] rfl rfl (by decide) (by decide) rfl (by decide) (fun H locs hP hD hS => ?_)
      refine lv_if_eq (tgt := 18) hx hb dX8_readsB_11 rfl (fun c11 => ?_) (fun c11 => ?_)
      · refine lv_iconst (v := 0) hx hb dX8_readsB_18 (by decide) ?_
        have e0 : (W_readsB_19_s0 w_op) = 0 := (if_neg (not_or.mpr ⟨(fun n => n c4), (fun n => n c11)⟩))
        have k19 := k19 _ _ _ ⟨hP, hD, hS, hl⟩
        refine W.eq (g2 := F0 m 19 ls [.int 0]) rfl ?_
        exact W.eq (by rw [e0]) k19
      · exact k14 _ _ _ ⟨hP, hD, hS, hl, (Or.inr c11)⟩
def W_getsD_44_s0 (w_op : Int32) : Int32 := (if (¬ (W_isOfTwo_14_s0 w_op) = 0 ∨ (¬ (W_isWithNumber_23_s0 w_op) = 0 ∨ (w_op = 26 ∨ (w_op = 32 ∨ ¬ (W_isJump_23_s0 w_op) = 0)))) then 1 else 0)
theorem W_getsD_44_s0_b (w_op : Int32) : W_getsD_44_s0 w_op = 0 ∨ W_getsD_44_s0 w_op = 1 := by
  unfold W_getsD_44_s0
  repeat' split
  all_goals first | exact Or.inl rfl | exact Or.inr rfl | apply W_isJump_23_s0_b | apply W_isOfTwo_14_s0_b | apply W_isWithNumber_23_s0_b
set_option maxHeartbeats 4000000 in
set_option maxRecDepth 100000 in
theorem c_W_getsD (l : Launch) (D : va_G) (cI cJ : ClassId) (q_w : Nat) (w_pc : Int32) (w_op : Int32) (w_d : Int32) (w_a : Int32) (w_b : Int32) (w_i : Int32) (sz : Nat) : Met l yX8_getsD (.code yX8_getsD cX8_getsD 1 (some .boolean) :: gU) { frames := 1, cells := 0, slots := 0, locals := 20 } (va_Pc [.ref q_w] (mP D vwCl (tyS cI cJ) [(q_w, .inr (8, [.int w_pc, .int w_op, .int w_d, .int w_a, .int w_b, .int w_i]))] sz)) (qI D vwCl (tyS cI cJ) [(q_w, .inr (8, [.int w_pc, .int w_op, .int w_d, .int w_a, .int w_b, .int w_i]))] (W_getsD_44_s0 w_op) (va_A [(q_w, .inr (8, [.int w_pc, .int w_op, .int w_d, .int w_a, .int w_b, .int w_i]))] sz)) 0 0 (va_A [(q_w, .inr (8, [.int w_pc, .int w_op, .int w_d, .int w_a, .int w_b, .int w_i]))] sz) := by
  refine m_go (y := yX8_getsD) (cc := cX8_getsD) (ml := 1) (rt := (some .boolean)) (av := [.ref q_w]) (cs := [(q_w, .inr (8, [.int w_pc, .int w_op, .int w_d, .int w_a, .int w_b, .int w_i]))]) (fun A => qI D vwCl (tyS cI cJ) [(q_w, .inr (8, [.int w_pc, .int w_op, .int w_d, .int w_a, .int w_b, .int w_i]))] (W_getsD_44_s0 w_op) A) (by decide) (Nat.le_of_ble_eq_true rfl) ?_
  intro p e s m below meth c A ls hx hb hr hlk hml hts hown _ hA hP hK hD hS hl _
  have hl : lv_has ls 1 [(0, .ref q_w)] := hl
  refine lv_aload_n hx hb dX8_getsD_0 rfl (lv_at hl 0 rfl) ?_
  refine c_i (r := (W_isOfTwo_14_s0 w_op)) (wc := [(q_w, .inr (8, [.int w_pc, .int w_op, .int w_d, .int w_a, .int w_b, .int w_i]))]) (wr := []) (wc2 := [(q_w, .inr (8, [.int w_pc, .int w_op, .int w_d, .int w_a, .int w_b, .int w_i]))]) (ws2 := [(q_w, .inr (8, [.int w_pc, .int w_op, .int w_d, .int w_a, .int w_b, .int w_i]))]) (r_V (rm := { frames := 0, cells := 0, slots := 0, locals := 0 }) hx hb hml hown hts (c_W_isOfTwo l D cI cJ q_w w_pc w_op w_d w_a w_b w_i _) 0 kt_385 kt_435 kt_383 kt_384 kt_5 ⟨by decide +kernel, by decide +kernel, by decide +kernel⟩ ⟨by decide, by decide⟩ hK hP hD [0] rfl (by decide) 0 rfl rfl hl.1 rfl rfl (Nat.le_of_ble_eq_true rfl) dX8_getsD_1 ⟨by decide, by decide⟩) hP hD hS hA [0] [] [0] rfl rfl (by decide) (by decide) rfl (by decide) (fun H locs hP hD hS => ?_)
  refine w_j (J := 44) (st := [.int (W_getsD_44_s0 w_op)]) (fun H locs ls => va_P D vwCl [(q_w, .inr (8, [.int w_pc, .int w_op, .int w_d, .int w_a, .int w_b, .int w_i]))] H ∧ va_D A [(q_w, .inr (8, [.int w_pc, .int w_op, .int w_d, .int w_a, .int w_b, .int w_i]))] ∧ va_S A s.heap H locs ∧ lv_has ls 1 [(0, .ref q_w)]) (fun H locs ls hJ => ?_) (fun k44 => ?_)
  · obtain ⟨hP, hD, hS, hl⟩ := hJ
    exact e_z hx hb hr hlk hK hP hD hS rfl (nz (W_getsD_44_s0_b w_op)).1 dX8_getsD_44
  · refine w_j (J := 39) (st := []) (fun H locs ls => va_P D vwCl [(q_w, .inr (8, [.int w_pc, .int w_op, .int w_d, .int w_a, .int w_b, .int w_i]))] H ∧ va_D A [(q_w, .inr (8, [.int w_pc, .int w_op, .int w_d, .int w_a, .int w_b, .int w_i]))] ∧ va_S A s.heap H locs ∧ lv_has ls 1 [(0, .ref q_w)] ∧ ((¬ (W_isOfTwo_14_s0 w_op) = 0 ∨ (¬ (W_isWithNumber_23_s0 w_op) = 0 ∨ (w_op = 26 ∨ (w_op = 32 ∨ ¬ (W_isJump_23_s0 w_op) = 0)))))) (fun H locs ls hJ => ?_) (fun k39 => ?_)
    · obtain ⟨hP, hD, hS, hl, h39⟩ := hJ
      refine lv_iconst (v := 1) hx hb dX8_getsD_39 (by decide) ?_
      refine lv_goto (tgt := 44) hx hb dX8_getsD_40 rfl ?_
      have e0 : (W_getsD_44_s0 w_op) = 1 := (if_pos h39)
      have k44 := k44 _ _ _ ⟨hP, hD, hS, hl⟩
      refine W.eq (g2 := F0 m 44 ls [.int 1]) rfl ?_
      exact W.eq (by rw [e0]) k44
    refine lv_if_ne (tgt := 39) hx hb dX8_getsD_4 rfl (fun c4 => ?_) (fun c4 => ?_)
    · exact k39 _ _ _ ⟨hP, hD, hS, hl, (Or.inl c4)⟩
    · refine lv_aload_n hx hb dX8_getsD_7 rfl (lv_at hl 0 rfl) ?_
      refine c_i (r := (W_isWithNumber_23_s0 w_op)) (wc := [(q_w, .inr (8, [.int w_pc, .int w_op, .int w_d, .int w_a, .int w_b, .int w_i]))]) (wr := []) (wc2 := [(q_w, .inr (8, [.int w_pc, .int w_op, .int w_d, .int w_a, .int w_b, .int w_i]))]) (ws2 := [(q_w, .inr (8, [.int w_pc, .int w_op, .int w_d, .int w_a, .int w_b, .int w_i]))]) (r_V (rm := { frames := 0, cells := 0, slots := 0, locals := 0 }) hx hb hml hown hts (c_W_isWithNumber l D cI cJ q_w w_pc w_op w_d w_a w_b w_i _) 0 kt_393 kt_436 kt_391 kt_392 kt_5 ⟨by decide +kernel, by decide +kernel, by decide +kernel⟩ ⟨by decide, by decide⟩ hK hP hD [0] rfl (by decide) 0 rfl rfl hl.1 rfl rfl (Nat.le_of_ble_eq_true rfl) dX8_getsD_8 ⟨by decide, by decide⟩) hP hD hS hA [0] [] [0] rfl rfl (by decide) (by decide) rfl (by decide) (fun H locs hP hD hS => ?_)
      refine lv_if_ne (tgt := 39) hx hb dX8_getsD_11 rfl (fun c11 => ?_) (fun c11 => ?_)
      · exact k39 _ _ _ ⟨hP, hD, hS, hl, (Or.inr (Or.inl c11))⟩
      · refine lv_aload_n hx hb dX8_getsD_14 rfl (lv_at hl 0 rfl) ?_
        refine va_get (D := D) (ci := 8) (v := .int w_op) (C := RX8) (T := TX8) (N := 6) hx hb hts inX8 hown hK hP 0 rfl rfl 1 (by decide) (hts _ kt_99) (fun _ h => h) rfl dX8_getsD_15 ?_
        refine lv_bipush (v := 26) hx hb dX8_getsD_18 (by decide) ?_
        refine lv_icmp_eq (tgt := 39) hx hb dX8_getsD_20 rfl (fun c20 => ?_) (fun c20 => ?_)
        · exact k39 _ _ _ ⟨hP, hD, hS, hl, (Or.inr (Or.inr (Or.inl c20)))⟩
        · refine lv_aload_n hx hb dX8_getsD_23 rfl (lv_at hl 0 rfl) ?_
          refine va_get (D := D) (ci := 8) (v := .int w_op) (C := RX8) (T := TX8) (N := 6) hx hb hts inX8 hown hK hP 0 rfl rfl 1 (by decide) (hts _ kt_99) (fun _ h => h) rfl dX8_getsD_24 ?_
          refine lv_bipush (v := 32) hx hb dX8_getsD_27 (by decide) ?_
          refine lv_icmp_eq (tgt := 39) hx hb dX8_getsD_29 rfl (fun c29 => ?_) (fun c29 => ?_)
          · exact k39 _ _ _ ⟨hP, hD, hS, hl, (Or.inr (Or.inr (Or.inr (Or.inl c29))))⟩
          · refine lv_aload_n hx hb dX8_getsD_32 rfl (lv_at hl 0 rfl) ?_
            refine c_i (r := (W_isJump_23_s0 w_op)) (wc := [(q_w, .inr (8, [.int w_pc, .int w_op, .int w_d, .int w_a, .int w_b, .int w_i]))]) (wr := []) (wc2 := [(q_w, .inr (8, [.int w_pc, .int w_op, .int w_d, .int w_a, .int w_b, .int w_i]))]) (ws2 := [(q_w, .inr (8, [.int w_pc, .int w_op, .int w_d, .int w_a, .int w_b, .int w_i]))]) (r_V (rm := { frames := 0, cells := 0, slots := 0, locals := 0 }) hx hb hml hown hts (c_W_isJump l D cI cJ q_w w_pc w_op w_d w_a w_b w_i _) 0 kt_454 kt_451 kt_452 kt_453 kt_5 ⟨by decide +kernel, by decide +kernel, by decide +kernel⟩ ⟨by decide, by decide⟩ hK hP hD [0] rfl (by decide) 0 rfl rfl hl.1 rfl rfl (Nat.le_of_ble_eq_true rfl) dX8_getsD_33 ⟨by decide, by decide⟩) hP hD hS hA [0] [] [0] rfl rfl (by decide) (by decide) rfl (by decide) (fun H locs hP hD hS => ?_)
            refine W.eq (g2 := F0 m 36 ls [.int (W_isJump_23_s0 w_op)]) rfl ?_
            refine lv_if_eq (tgt := 43) hx hb dX8_getsD_36 rfl (fun c36 => ?_) (fun c36 => ?_)
            · refine lv_iconst (v := 0) hx hb dX8_getsD_43 (by decide) ?_
              have e0 : (W_getsD_44_s0 w_op) = 0 := (if_neg (not_or.mpr ⟨(fun n => n c4), (not_or.mpr ⟨(fun n => n c11), (not_or.mpr ⟨c20, (not_or.mpr ⟨c29, (fun n => n c36)⟩)⟩)⟩)⟩))
              have k44 := k44 _ _ _ ⟨hP, hD, hS, hl⟩
              refine W.eq (g2 := F0 m 44 ls [.int 0]) rfl ?_
              exact W.eq (by rw [e0]) k44
            · exact k39 _ _ _ ⟨hP, hD, hS, hl, (Or.inr (Or.inr (Or.inr (Or.inr c36))))⟩
def W_cyclesInX_ret (w_op : Int32) : Int32 := (if w_op = 10 then 3 else (if w_op = 11 then 12 else (if w_op = 12 then 12 else 1)))
set_option maxHeartbeats 4000000 in
set_option maxRecDepth 100000 in
theorem c_W_cyclesInX (l : Launch) (D : va_G) (cI cJ : ClassId) (q_w : Nat) (w_pc : Int32) (w_op : Int32) (w_d : Int32) (w_a : Int32) (w_b : Int32) (w_i : Int32) (sz : Nat) : Met l yX8_cyclesInX (.code yX8_cyclesInX cX8_cyclesInX 1 (some .int) :: gU) { frames := 0, cells := 0, slots := 0, locals := 0 } (va_Pc [.ref q_w] (mP D vwCl (tyS cI cJ) [(q_w, .inr (8, [.int w_pc, .int w_op, .int w_d, .int w_a, .int w_b, .int w_i]))] sz)) (qI D vwCl (tyS cI cJ) [(q_w, .inr (8, [.int w_pc, .int w_op, .int w_d, .int w_a, .int w_b, .int w_i]))] (W_cyclesInX_ret w_op) (va_A [(q_w, .inr (8, [.int w_pc, .int w_op, .int w_d, .int w_a, .int w_b, .int w_i]))] sz)) 0 0 (va_A [(q_w, .inr (8, [.int w_pc, .int w_op, .int w_d, .int w_a, .int w_b, .int w_i]))] sz) := by
  refine m_go (y := yX8_cyclesInX) (cc := cX8_cyclesInX) (ml := 1) (rt := (some .int)) (av := [.ref q_w]) (cs := [(q_w, .inr (8, [.int w_pc, .int w_op, .int w_d, .int w_a, .int w_b, .int w_i]))]) (fun A => qI D vwCl (tyS cI cJ) [(q_w, .inr (8, [.int w_pc, .int w_op, .int w_d, .int w_a, .int w_b, .int w_i]))] (W_cyclesInX_ret w_op) A) (by decide) (Nat.le_of_ble_eq_true rfl) ?_
  intro p e s m below meth c A ls hx hb hr hlk hml hts hown _ hA hP hK hD hS hl _
  have hl : lv_has ls 1 [(0, .ref q_w)] := hl
  refine lv_aload_n hx hb dX8_cyclesInX_0 rfl (lv_at hl 0 rfl) ?_
  refine va_get (D := D) (ci := 8) (v := .int w_op) (C := RX8) (T := TX8) (N := 6) hx hb hts inX8 hown hK hP 0 rfl rfl 1 (by decide) (hts _ kt_99) (fun _ h => h) rfl dX8_cyclesInX_1 ?_
  by_cases c4_0 : w_op = 10
  · refine lv_tableIn (tgt := 32) (off := 28) hx hb dX8_cyclesInX_4 (by rw [c4_0]; decide) (by rw [c4_0]; decide) (by rw [c4_0]; rfl) rfl ?_
    refine lv_iconst (v := 3) hx hb dX8_cyclesInX_32 (by decide) ?_
    have e0 : (W_cyclesInX_ret w_op) = 3 := (if_pos c4_0)
    exact e_i hx hb hr hlk hK hP hD hS e0.symm dX8_cyclesInX_33
  by_cases c4_1 : w_op = 11
  · refine lv_tableIn (tgt := 34) (off := 30) hx hb dX8_cyclesInX_4 (by rw [c4_1]; decide) (by rw [c4_1]; decide) (by rw [c4_1]; rfl) rfl ?_
    refine lv_bipush (v := 12) hx hb dX8_cyclesInX_34 (by decide) ?_
    have e0 : (W_cyclesInX_ret w_op) = 12 := ((if_neg c4_0).trans (if_pos c4_1))
    exact e_i hx hb hr hlk hK hP hD hS e0.symm dX8_cyclesInX_36
  by_cases c4_2 : w_op = 12
  · refine lv_tableIn (tgt := 34) (off := 30) hx hb dX8_cyclesInX_4 (by rw [c4_2]; decide) (by rw [c4_2]; decide) (by rw [c4_2]; rfl) rfl ?_
    refine lv_bipush (v := 12) hx hb dX8_cyclesInX_34 (by decide) ?_
    have e0 : (W_cyclesInX_ret w_op) = 12 := ((if_neg c4_0).trans ((if_neg c4_1).trans (if_pos c4_2)))
    exact e_i hx hb hr hlk hK hP hD hS e0.symm dX8_cyclesInX_36
  refine lv_tableOut (tgt := 37) hx hb dX8_cyclesInX_4 (by have z0 := lv_neT (a := 10) c4_0 (by decide); have z1 := lv_neT (a := 11) c4_1 (by decide); have z2 := lv_neT (a := 12) c4_2 (by decide); omega) rfl ?_
  refine lv_iconst (v := 1) hx hb dX8_cyclesInX_37 (by decide) ?_
  have e0 : (W_cyclesInX_ret w_op) = 1 := ((if_neg c4_0).trans ((if_neg c4_1).trans (if_neg c4_2)))
  exact e_i hx hb hr hlk hK hP hD hS e0.symm dX8_cyclesInX_38
def W_take_16_s0 (at_ : Int32) : Int32 := (if (at_ < 0 ∨ 1024 ≤ at_) then 0 else 1)
theorem W_take_16_s0_b (at_ : Int32) : W_take_16_s0 at_ = 0 ∨ W_take_16_s0 at_ = 1 := by
  unfold W_take_16_s0
  repeat' split
  all_goals first | exact Or.inl rfl | exact Or.inr rfl
theorem W_take_16_s0_inn (at_ : Int32) (h : ¬ W_take_16_s0 at_ = 0) : vp_in at_ 1024 := by
  unfold W_take_16_s0 at h
  split at h
  · exact absurd rfl h
  · rename_i q
    have q := not_or.mp q
    first | exact in_le q.1 (Decidable.not_not.mp q.2) (by decide) | exact in_lt q.1 (Decidable.not_not.mp q.2) (by decide) | exact in_ge q.1 q.2 (by decide) | exact in_lt q.1 (Decidable.not_not.mp (not_or.mp q.2).2) (by decide) | exact in_ge q.1 (not_or.mp q.2).2 (by decide)
def W_take_28_s0 (at_ : Int32) (f_pg : Nat → Int32) : Int32 := (if (W_take_16_s0 at_) = 0 then 0 else (f_pg (Int32.toNatClampNeg at_)))
def W_take_50_s0 (at_ : Int32) (f_pg : Nat → Int32) : Int32 := (if (W_take_16_s0 at_) = 0 then 64 else ((Int32.toUInt32 (W_take_28_s0 at_ f_pg) >>> (Int32.toUInt32 (26 : Int32) &&& Int32.toUInt32 31)).toInt32))
def W_take_62_d (at_ : Int32) (f_pg : Nat → Int32) : Int32 := (((Int32.toUInt32 (W_take_28_s0 at_ f_pg) >>> (Int32.toUInt32 (22 : Int32) &&& Int32.toUInt32 31)).toInt32) &&& 15)
def W_take_74_a (at_ : Int32) (f_pg : Nat → Int32) : Int32 := (((Int32.toUInt32 (W_take_28_s0 at_ f_pg) >>> (Int32.toUInt32 (18 : Int32) &&& Int32.toUInt32 31)).toInt32) &&& 15)
def W_take_86_b (at_ : Int32) (f_pg : Nat → Int32) : Int32 := (((Int32.toUInt32 (W_take_28_s0 at_ f_pg) >>> (Int32.toUInt32 (14 : Int32) &&& Int32.toUInt32 31)).toInt32) &&& 15)
def W_take_98_i (at_ : Int32) (f_pg : Nat → Int32) : Int32 := (((W_take_28_s0 at_ f_pg) <<< ((18 : Int32) &&& 31)) >>> ((18 : Int32) &&& 31))
set_option maxHeartbeats 4000000 in
set_option maxRecDepth 100000 in
theorem c_W_take (l : Launch) (D : va_G) (cI cJ : ClassId) (q_w : Nat) (q_pg : Nat) (at_ : Int32) (w_pc : Int32) (w_op : Int32) (w_d : Int32) (w_a : Int32) (w_b : Int32) (w_i : Int32) (f_pg : Nat → Int32) (sz : Nat) : Met l yX8_take (.code yX8_take cX8_take 5 none :: gU) { frames := 0, cells := 0, slots := 0, locals := 0 } (va_Pc [.ref q_w, .int at_, .ref q_pg] (mP D vwCl (tyS cI cJ) [(q_w, .inr (8, [.int w_pc, .int w_op, .int w_d, .int w_a, .int w_b, .int w_i])), (q_pg, .inl (cI, 1024, .inl f_pg))] sz)) (qV D vwCl (tyS cI cJ) [(q_w, .inr (8, [.int at_, .int (W_take_50_s0 at_ f_pg), .int (W_take_62_d at_ f_pg), .int (W_take_74_a at_ f_pg), .int (W_take_86_b at_ f_pg), .int (W_take_98_i at_ f_pg)])), (q_pg, .inl (cI, 1024, .inl f_pg))] (va_A [(q_w, .inr (8, [.int w_pc, .int w_op, .int w_d, .int w_a, .int w_b, .int w_i])), (q_pg, .inl (cI, 1024, .inl f_pg))] sz)) 0 0 (va_A [(q_w, .inr (8, [.int w_pc, .int w_op, .int w_d, .int w_a, .int w_b, .int w_i])), (q_pg, .inl (cI, 1024, .inl f_pg))] sz) := by
  refine m_go (y := yX8_take) (cc := cX8_take) (ml := 5) (rt := none) (av := [.ref q_w, .int at_, .ref q_pg]) (cs := [(q_w, .inr (8, [.int w_pc, .int w_op, .int w_d, .int w_a, .int w_b, .int w_i])), (q_pg, .inl (cI, 1024, .inl f_pg))]) (fun A => qV D vwCl (tyS cI cJ) [(q_w, .inr (8, [.int at_, .int (W_take_50_s0 at_ f_pg), .int (W_take_62_d at_ f_pg), .int (W_take_74_a at_ f_pg), .int (W_take_86_b at_ f_pg), .int (W_take_98_i at_ f_pg)])), (q_pg, .inl (cI, 1024, .inl f_pg))] A) (by decide) (Nat.le_of_ble_eq_true rfl) ?_
  intro p e s m below meth c A ls hx hb hr hlk hml hts hown _ hA hP hK hD hS hl _
  have hl : lv_has ls 5 [(0, .ref q_w), (1, .int at_), (2, .ref q_pg)] := hl
  refine lv_iload_n hx hb dX8_take_0 rfl (lv_at hl 1 rfl) ?_
  refine w_j (J := 16) (st := [.int (W_take_16_s0 at_)]) (fun H locs ls => va_P D vwCl [(q_w, .inr (8, [.int w_pc, .int w_op, .int w_d, .int w_a, .int w_b, .int w_i])), (q_pg, .inl (cI, 1024, .inl f_pg))] H ∧ va_D A [(q_w, .inr (8, [.int w_pc, .int w_op, .int w_d, .int w_a, .int w_b, .int w_i])), (q_pg, .inl (cI, 1024, .inl f_pg))] ∧ va_S A s.heap H locs ∧ lv_has ls 5 [(0, .ref q_w), (1, .int at_), (2, .ref q_pg)]) (fun H locs ls hJ => ?_) (fun k16 => ?_)
  · obtain ⟨hP, hD, hS, hl⟩ := hJ
    refine lv_istore_n hx hb dX8_take_16 rfl hl (by decide) rfl (fun ls hl => ?_)
    have hl : lv_has ls 5 [(3, .int (W_take_16_s0 at_)), (0, .ref q_w), (1, .int at_), (2, .ref q_pg)] := hl
    refine lv_iload_n hx hb dX8_take_17 rfl (lv_at hl 0 rfl) ?_
    refine w_j (J := 28) (st := [.int (W_take_28_s0 at_ f_pg)]) (fun H locs ls => va_P D vwCl [(q_w, .inr (8, [.int w_pc, .int w_op, .int w_d, .int w_a, .int w_b, .int w_i])), (q_pg, .inl (cI, 1024, .inl f_pg))] H ∧ va_D A [(q_w, .inr (8, [.int w_pc, .int w_op, .int w_d, .int w_a, .int w_b, .int w_i])), (q_pg, .inl (cI, 1024, .inl f_pg))] ∧ va_S A s.heap H locs ∧ lv_has ls 5 [(3, .int (W_take_16_s0 at_)), (0, .ref q_w), (1, .int at_), (2, .ref q_pg)]) (fun H locs ls hJ => ?_) (fun k28 => ?_)
    · obtain ⟨hP, hD, hS, hl⟩ := hJ
      refine lv_istore hx hb dX8_take_28 hl (by decide) rfl (fun ls hl => ?_)
      have hl : lv_has ls 5 [(4, .int (W_take_28_s0 at_ f_pg)), (3, .int (W_take_16_s0 at_)), (0, .ref q_w), (1, .int at_), (2, .ref q_pg)] := hl
      refine W.eq (g2 := F0 m 30 ls []) rfl ?_
      refine lv_aload_n hx hb dX8_take_30 rfl (lv_at hl 2 rfl) ?_
      refine lv_iload_n hx hb dX8_take_31 rfl (lv_at hl 3 rfl) ?_
      refine va_put (D := D) (ci := 8) (v := .int at_) (ty := .int) (C := RX8) (T := TX8) (N := 6) hx hb hts inX8 tyX8 tyX8_ok nmX8 hown hK hP hD hS 0 rfl rfl 0 (by decide) (hts _ kt_96) (fun _ h => h) rfl (by decide +kernel) rfl rfl (Nat.le_of_ble_eq_true rfl) dX8_take_32 (fun H locs hP hD hS => ?_)
      have hP : va_P D vwCl [(q_w, .inr (8, [.int at_, .int w_op, .int w_d, .int w_a, .int w_b, .int w_i])), (q_pg, .inl (cI, 1024, .inl f_pg))] H := hP
      have hD : va_D A [(q_w, .inr (8, [.int at_, .int w_op, .int w_d, .int w_a, .int w_b, .int w_i])), (q_pg, .inl (cI, 1024, .inl f_pg))] := hD
      refine lv_aload_n hx hb dX8_take_35 rfl (lv_at hl 2 rfl) ?_
      refine lv_iload_n hx hb dX8_take_36 rfl (lv_at hl 1 rfl) ?_
      refine w_j (J := 50) (st := [.int (W_take_50_s0 at_ f_pg), .ref q_w]) (fun H locs ls => va_P D vwCl [(q_w, .inr (8, [.int at_, .int w_op, .int w_d, .int w_a, .int w_b, .int w_i])), (q_pg, .inl (cI, 1024, .inl f_pg))] H ∧ va_D A [(q_w, .inr (8, [.int at_, .int w_op, .int w_d, .int w_a, .int w_b, .int w_i])), (q_pg, .inl (cI, 1024, .inl f_pg))] ∧ va_S A s.heap H locs ∧ lv_has ls 5 [(4, .int (W_take_28_s0 at_ f_pg)), (3, .int (W_take_16_s0 at_)), (0, .ref q_w), (1, .int at_), (2, .ref q_pg)]) (fun H locs ls hJ => ?_) (fun k50 => ?_)
      · obtain ⟨hP, hD, hS, hl⟩ := hJ
        refine va_put (D := D) (ci := 8) (v := .int (W_take_50_s0 at_ f_pg)) (ty := .int) (C := RX8) (T := TX8) (N := 6) hx hb hts inX8 tyX8 tyX8_ok nmX8 hown hK hP hD hS 0 rfl rfl 1 (by decide) (hts _ kt_99) (fun _ h => h) rfl (by decide +kernel) rfl rfl (Nat.le_of_ble_eq_true rfl) dX8_take_50 (fun H locs hP hD hS => ?_)
        have hP : va_P D vwCl [(q_w, .inr (8, [.int at_, .int (W_take_50_s0 at_ f_pg), .int w_d, .int w_a, .int w_b, .int w_i])), (q_pg, .inl (cI, 1024, .inl f_pg))] H := hP
        have hD : va_D A [(q_w, .inr (8, [.int at_, .int (W_take_50_s0 at_ f_pg), .int w_d, .int w_a, .int w_b, .int w_i])), (q_pg, .inl (cI, 1024, .inl f_pg))] := hD
        refine lv_aload_n hx hb dX8_take_53 rfl (lv_at hl 2 rfl) ?_
        refine lv_iload hx hb dX8_take_54 (lv_at hl 0 rfl) ?_
        refine W.eq (g2 := F0 m 56 ls [.int (W_take_28_s0 at_ f_pg), .ref q_w]) rfl ?_
        refine lv_bipush (v := 22) hx hb dX8_take_56 (by decide) ?_
        refine lv_iushr hx hb dX8_take_58 rfl ?_
        refine lv_bipush (v := 15) hx hb dX8_take_59 (by decide) ?_
        refine lv_iand hx hb dX8_take_61 ?_
        refine W.eq (g2 := F0 m 62 ls [.int (W_take_62_d at_ f_pg), .ref q_w]) rfl ?_
        refine va_put (D := D) (ci := 8) (v := .int (W_take_62_d at_ f_pg)) (ty := .int) (C := RX8) (T := TX8) (N := 6) hx hb hts inX8 tyX8 tyX8_ok nmX8 hown hK hP hD hS 0 rfl rfl 2 (by decide) (hts _ kt_104) (fun _ h => h) rfl (by decide +kernel) rfl rfl (Nat.le_of_ble_eq_true rfl) dX8_take_62 (fun H locs hP hD hS => ?_)
        have hP : va_P D vwCl [(q_w, .inr (8, [.int at_, .int (W_take_50_s0 at_ f_pg), .int (W_take_62_d at_ f_pg), .int w_a, .int w_b, .int w_i])), (q_pg, .inl (cI, 1024, .inl f_pg))] H := hP
        have hD : va_D A [(q_w, .inr (8, [.int at_, .int (W_take_50_s0 at_ f_pg), .int (W_take_62_d at_ f_pg), .int w_a, .int w_b, .int w_i])), (q_pg, .inl (cI, 1024, .inl f_pg))] := hD
        refine lv_aload_n hx hb dX8_take_65 rfl (lv_at hl 2 rfl) ?_
        refine lv_iload hx hb dX8_take_66 (lv_at hl 0 rfl) ?_
        refine lv_bipush (v := 18) hx hb dX8_take_68 (by decide) ?_
        refine lv_iushr hx hb dX8_take_70 rfl ?_
        refine lv_bipush (v := 15) hx hb dX8_take_71 (by decide) ?_
        refine lv_iand hx hb dX8_take_73 ?_
        refine W.eq (g2 := F0 m 74 ls [.int (W_take_74_a at_ f_pg), .ref q_w]) rfl ?_
        refine va_put (D := D) (ci := 8) (v := .int (W_take_74_a at_ f_pg)) (ty := .int) (C := RX8) (T := TX8) (N := 6) hx hb hts inX8 tyX8 tyX8_ok nmX8 hown hK hP hD hS 0 rfl rfl 3 (by decide) (hts _ kt_108) (fun _ h => h) rfl (by decide +kernel) rfl rfl (Nat.le_of_ble_eq_true rfl) dX8_take_74 (fun H locs hP hD hS => ?_)
        have hP : va_P D vwCl [(q_w, .inr (8, [.int at_, .int (W_take_50_s0 at_ f_pg), .int (W_take_62_d at_ f_pg), .int (W_take_74_a at_ f_pg), .int w_b, .int w_i])), (q_pg, .inl (cI, 1024, .inl f_pg))] H := hP
        have hD : va_D A [(q_w, .inr (8, [.int at_, .int (W_take_50_s0 at_ f_pg), .int (W_take_62_d at_ f_pg), .int (W_take_74_a at_ f_pg), .int w_b, .int w_i])), (q_pg, .inl (cI, 1024, .inl f_pg))] := hD
        refine W.eq (g2 := F0 m 77 ls []) rfl ?_
        refine lv_aload_n hx hb dX8_take_77 rfl (lv_at hl 2 rfl) ?_
        refine lv_iload hx hb dX8_take_78 (lv_at hl 0 rfl) ?_
        refine lv_bipush (v := 14) hx hb dX8_take_80 (by decide) ?_
        refine lv_iushr hx hb dX8_take_82 rfl ?_
        refine lv_bipush (v := 15) hx hb dX8_take_83 (by decide) ?_
        refine lv_iand hx hb dX8_take_85 ?_
        refine W.eq (g2 := F0 m 86 ls [.int (W_take_86_b at_ f_pg), .ref q_w]) rfl ?_
        refine va_put (D := D) (ci := 8) (v := .int (W_take_86_b at_ f_pg)) (ty := .int) (C := RX8) (T := TX8) (N := 6) hx hb hts inX8 tyX8 tyX8_ok nmX8 hown hK hP hD hS 0 rfl rfl 4 (by decide) (hts _ kt_111) (fun _ h => h) rfl (by decide +kernel) rfl rfl (Nat.le_of_ble_eq_true rfl) dX8_take_86 (fun H locs hP hD hS => ?_)
        have hP : va_P D vwCl [(q_w, .inr (8, [.int at_, .int (W_take_50_s0 at_ f_pg), .int (W_take_62_d at_ f_pg), .int (W_take_74_a at_ f_pg), .int (W_take_86_b at_ f_pg), .int w_i])), (q_pg, .inl (cI, 1024, .inl f_pg))] H := hP
        have hD : va_D A [(q_w, .inr (8, [.int at_, .int (W_take_50_s0 at_ f_pg), .int (W_take_62_d at_ f_pg), .int (W_take_74_a at_ f_pg), .int (W_take_86_b at_ f_pg), .int w_i])), (q_pg, .inl (cI, 1024, .inl f_pg))] := hD
        refine lv_aload_n hx hb dX8_take_89 rfl (lv_at hl 2 rfl) ?_
        refine lv_iload hx hb dX8_take_90 (lv_at hl 0 rfl) ?_
        refine lv_bipush (v := 18) hx hb dX8_take_92 (by decide) ?_
        refine lv_ishl hx hb dX8_take_94 ?_
        refine lv_bipush (v := 18) hx hb dX8_take_95 (by decide) ?_
        refine W.eq (g2 := F0 m 97 ls [.int 18, .int ((W_take_28_s0 at_ f_pg) <<< ((18 : Int32) &&& 31)), .ref q_w]) rfl ?_
        refine lv_ishr hx hb dX8_take_97 ?_
        refine W.eq (g2 := F0 m 98 ls [.int (W_take_98_i at_ f_pg), .ref q_w]) rfl ?_
        refine va_put (D := D) (ci := 8) (v := .int (W_take_98_i at_ f_pg)) (ty := .int) (C := RX8) (T := TX8) (N := 6) hx hb hts inX8 tyX8 tyX8_ok nmX8 hown hK hP hD hS 0 rfl rfl 5 (by decide) (hts _ kt_114) (fun _ h => h) rfl (by decide +kernel) rfl rfl (Nat.le_of_ble_eq_true rfl) dX8_take_98 (fun H locs hP hD hS => ?_)
        have hP : va_P D vwCl [(q_w, .inr (8, [.int at_, .int (W_take_50_s0 at_ f_pg), .int (W_take_62_d at_ f_pg), .int (W_take_74_a at_ f_pg), .int (W_take_86_b at_ f_pg), .int (W_take_98_i at_ f_pg)])), (q_pg, .inl (cI, 1024, .inl f_pg))] H := hP
        have hD : va_D A [(q_w, .inr (8, [.int at_, .int (W_take_50_s0 at_ f_pg), .int (W_take_62_d at_ f_pg), .int (W_take_74_a at_ f_pg), .int (W_take_86_b at_ f_pg), .int (W_take_98_i at_ f_pg)])), (q_pg, .inl (cI, 1024, .inl f_pg))] := hD
        exact e_v hx hb hr hlk hK hP hD hS dX8_take_101
      · refine lv_if_eq (tgt := 48) hx hb dX8_take_37 rfl (fun c37 => ?_) (fun c37 => ?_)
        · refine lv_bipush (v := 64) hx hb dX8_take_48 (by decide) ?_
          have e0 : (W_take_50_s0 at_ f_pg) = 64 := (if_pos c37)
          have k50 := k50 _ _ _ ⟨hP, hD, hS, hl⟩
          refine W.eq (g2 := F0 m 50 ls [.int 64, .ref q_w]) rfl ?_
          exact W.eq (by rw [e0]) k50
        · refine lv_iload hx hb dX8_take_40 (lv_at hl 0 rfl) ?_
          refine lv_bipush (v := 26) hx hb dX8_take_42 (by decide) ?_
          refine lv_iushr hx hb dX8_take_44 rfl ?_
          refine lv_goto (tgt := 50) hx hb dX8_take_45 rfl ?_
          have e0 : (W_take_50_s0 at_ f_pg) = ((Int32.toUInt32 (W_take_28_s0 at_ f_pg) >>> (Int32.toUInt32 (26 : Int32) &&& Int32.toUInt32 31)).toInt32) := (if_neg c37)
          have k50 := k50 _ _ _ ⟨hP, hD, hS, hl⟩
          refine W.eq (g2 := F0 m 50 ls [.int ((Int32.toUInt32 (W_take_28_s0 at_ f_pg) >>> (Int32.toUInt32 (26 : Int32) &&& Int32.toUInt32 31)).toInt32), .ref q_w]) rfl ?_
          exact W.eq (by rw [e0]) k50
    · refine lv_if_eq (tgt := 27) hx hb dX8_take_18 rfl (fun c18 => ?_) (fun c18 => ?_)
      · refine lv_iconst (v := 0) hx hb dX8_take_27 (by decide) ?_
        have e0 : (W_take_28_s0 at_ f_pg) = 0 := (if_pos c18)
        have k28 := k28 _ _ _ ⟨hP, hD, hS, hl⟩
        refine W.eq (g2 := F0 m 28 ls [.int 0]) rfl ?_
        exact W.eq (by rw [e0]) k28
      · refine lv_aload_n hx hb dX8_take_21 rfl (lv_at hl 3 rfl) ?_
        refine lv_iload_n hx hb dX8_take_22 rfl (lv_at hl 2 rfl) ?_
        refine va_iald hx hb hK hP 1 0 rfl rfl (W_take_16_s0_inn at_ c18) dX8_take_23 ?_
        refine lv_goto (tgt := 28) hx hb dX8_take_24 rfl ?_
        have e0 : (W_take_28_s0 at_ f_pg) = (f_pg (Int32.toNatClampNeg at_)) := (if_neg c18)
        have k28 := k28 _ _ _ ⟨hP, hD, hS, hl⟩
        refine W.eq (g2 := F0 m 28 ls [.int (f_pg (Int32.toNatClampNeg at_))]) rfl ?_
        exact W.eq (by rw [e0]) k28
  · refine w_j (J := 15) (st := []) (fun H locs ls => va_P D vwCl [(q_w, .inr (8, [.int w_pc, .int w_op, .int w_d, .int w_a, .int w_b, .int w_i])), (q_pg, .inl (cI, 1024, .inl f_pg))] H ∧ va_D A [(q_w, .inr (8, [.int w_pc, .int w_op, .int w_d, .int w_a, .int w_b, .int w_i])), (q_pg, .inl (cI, 1024, .inl f_pg))] ∧ va_S A s.heap H locs ∧ lv_has ls 5 [(0, .ref q_w), (1, .int at_), (2, .ref q_pg)] ∧ ((at_ < 0 ∨ 1024 ≤ at_))) (fun H locs ls hJ => ?_) (fun k15 => ?_)
    · obtain ⟨hP, hD, hS, hl, h15⟩ := hJ
      refine lv_iconst (v := 0) hx hb dX8_take_15 (by decide) ?_
      have e0 : (W_take_16_s0 at_) = 0 := (if_pos h15)
      have k16 := k16 _ _ _ ⟨hP, hD, hS, hl⟩
      refine W.eq (g2 := F0 m 16 ls [.int 0]) rfl ?_
      exact W.eq (by rw [e0]) k16
    refine lv_if_lt (tgt := 15) hx hb dX8_take_1 rfl (fun c1 => ?_) (fun c1 => ?_)
    · exact k15 _ _ _ ⟨hP, hD, hS, hl, (Or.inl c1)⟩
    · refine lv_iload_n hx hb dX8_take_4 rfl (lv_at hl 1 rfl) ?_
      refine lv_sipush (v := 1024) hx hb dX8_take_5 (by decide) ?_
      refine lv_icmp_ge (tgt := 15) hx hb dX8_take_8 rfl (fun c8 => ?_) (fun c8 => ?_)
      · exact k15 _ _ _ ⟨hP, hD, hS, hl, (Or.inr c8)⟩
      · refine lv_iconst (v := 1) hx hb dX8_take_11 (by decide) ?_
        refine lv_goto (tgt := 16) hx hb dX8_take_12 rfl ?_
        have e0 : (W_take_16_s0 at_) = 1 := (if_neg (not_or.mpr ⟨c1, c8⟩))
        have k16 := k16 _ _ _ ⟨hP, hD, hS, hl⟩
        refine W.eq (g2 := F0 m 16 ls [.int 1]) rfl ?_
        exact W.eq (by rw [e0]) k16
