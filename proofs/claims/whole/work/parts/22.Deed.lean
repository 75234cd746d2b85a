set_option maxHeartbeats 4000000 in
set_option maxRecDepth 100000 in
theorem c_D_stop (l : Launch) (D : va_G) (cI cJ : ClassId) (q_de : Nat) (ho_ : Int32) (wh_ : Int32) (de_next : Int32) (de_value : Int32) (de_address : Int32) (de_taken : Int32) (de_ending : Int32) (de_trap : Int32) (sz : Nat) : Met l yX1_stop (.code yX1_stop cX1_stop 3 none :: gU) { frames := 0, cells := 0, slots := 0, locals := 0 } (va_Pc [.ref q_de, .int ho_, .int wh_] (mP D vwCl (tyS cI cJ) [(q_de, .inr (1, [.int de_next, .int de_value, .int de_address, .int de_taken, .int de_ending, .int de_trap]))] sz)) (qV D vwCl (tyS cI cJ) [(q_de, .inr (1, [.int de_next, .int de_value, .int de_address, .int de_taken, .int ho_, .int wh_]))] (va_A [(q_de, .inr (1, [.int de_next, .int de_value, .int de_address, .int de_taken, .int de_ending, .int de_trap]))] sz)) 0 0 (va_A [(q_de, .inr (1, [.int de_next, .int de_value, .int de_address, .int de_taken, .int de_ending, .int de_trap]))] sz) := by
  refine m_go (y := yX1_stop) (cc := cX1_stop) (ml := 3) (rt := none) (av := [.ref q_de, .int ho_, .int wh_]) (cs := [(q_de, .inr (1, [.int de_next, .int de_value, .int de_address, .int de_taken, .int de_ending, .int de_trap]))]) (fun A => qV D vwCl (tyS cI cJ) [(q_de, .inr (1, [.int de_next, .int de_value, .int de_address, .int de_taken, .int ho_, .int wh_]))] A) (by decide) (Nat.le_of_ble_eq_true rfl) ?_
  intro p e s m below meth c A ls hx hb hr hlk hml hts hown _ hA hP hK hD hS hl _
  have hl : lv_has ls 3 [(0, .ref q_de), (1, .int ho_), (2, .int wh_)] := hl
  refine lv_aload_n hx hb dX1_stop_0 rfl (lv_at hl 0 rfl) ?_
  refine lv_iload_n hx hb dX1_stop_1 rfl (lv_at hl 1 rfl) ?_
  refine va_put (D := D) (ci := 1) (v := .int ho_) (ty := .int) (C := RX1) (T := TX1) (N := 6) hx hb hts inX1 tyX1 tyX1_ok nmX1 hown hK hP hD hS 0 rfl rfl 4 (by decide) (hts _ kt_143) (fun _ h => h) rfl (by decide +kernel) rfl rfl (Nat.le_of_ble_eq_true rfl) dX1_stop_2 (fun H locs hP hD hS => ?_)
  have hP : va_P D vwCl [(q_de, .inr (1, [.int de_next, .int de_value, .int de_address, .int de_taken, .int ho_, .int de_trap]))] H := hP
  have hD : va_D A [(q_de, .inr (1, [.int de_next, .int de_value, .int de_address, .int de_taken, .int ho_, .int de_trap]))] := hD
  refine lv_aload_n hx hb dX1_stop_5 rfl (lv_at hl 0 rfl) ?_
  refine lv_iload_n hx hb dX1_stop_6 rfl (lv_at hl 2 rfl) ?_
  refine va_put (D := D) (ci := 1) (v := .int wh_) (ty := .int) (C := RX1) (T := TX1) (N := 6) hx hb hts inX1 tyX1 tyX1_ok nmX1 hown hK hP hD hS 0 rfl rfl 5 (by decide) (hts _ kt_145) (fun _ h => h) rfl (by decide +kernel) rfl rfl (Nat.le_of_ble_eq_true rfl) dX1_stop_7 (fun H locs hP hD hS => ?_)
  have hP : va_P D vwCl [(q_de, .inr (1, [.int de_next, .int de_value, .int de_address, .int de_taken, .int ho_, .int wh_]))] H := hP
  have hD : va_D A [(q_de, .inr (1, [.int de_next, .int de_value, .int de_address, .int de_taken, .int ho_, .int wh_]))] := hD
  exact e_v hx hb hr hlk hK hP hD hS dX1_stop_10
def D_holds_38_s0 (a_ : Int32) (b_ : Int32) : Int32 := (if a_ = b_ then 1 else 0)
theorem D_holds_38_s0_b (a_ : Int32) (b_ : Int32) : D_holds_38_s0 a_ b_ = 0 ∨ D_holds_38_s0 a_ b_ = 1 := by
  unfold D_holds_38_s0
  repeat' split
  all_goals first | exact Or.inl rfl | exact Or.inr rfl
def D_holds_49_s0 (a_ : Int32) (b_ : Int32) : Int32 := (if a_ = b_ then 0 else 1)
theorem D_holds_49_s0_b (a_ : Int32) (b_ : Int32) : D_holds_49_s0 a_ b_ = 0 ∨ D_holds_49_s0 a_ b_ = 1 := by
  unfold D_holds_49_s0
  repeat' split
  all_goals first | exact Or.inl rfl | exact Or.inr rfl
def D_holds_60_s0 (a_ : Int32) (b_ : Int32) : Int32 := (if b_ ≤ a_ then 0 else 1)
theorem D_holds_60_s0_b (a_ : Int32) (b_ : Int32) : D_holds_60_s0 a_ b_ = 0 ∨ D_holds_60_s0 a_ b_ = 1 := by
  unfold D_holds_60_s0
  repeat' split
  all_goals first | exact Or.inl rfl | exact Or.inr rfl
def D_holds_71_s0 (a_ : Int32) (b_ : Int32) : Int32 := (if a_ < b_ then 0 else 1)
theorem D_holds_71_s0_b (a_ : Int32) (b_ : Int32) : D_holds_71_s0 a_ b_ = 0 ∨ D_holds_71_s0 a_ b_ = 1 := by
  unfold D_holds_71_s0
  repeat' split
  all_goals first | exact Or.inl rfl | exact Or.inr rfl
def D_holds_ret (op_ : Int32) (a_ : Int32) (b_ : Int32) : Int32 := (if op_ = 40 then (D_holds_38_s0 a_ b_) else (if op_ = 41 then (D_holds_49_s0 a_ b_) else (if op_ = 42 then (D_holds_60_s0 a_ b_) else (D_holds_71_s0 a_ b_))))
theorem D_holds_ret_b (op_ : Int32) (a_ : Int32) (b_ : Int32) : (D_holds_ret op_ a_ b_) = 0 ∨ (D_holds_ret op_ a_ b_) = 1 := by
  unfold D_holds_ret
  repeat' split
  all_goals first | exact Or.inl rfl | exact Or.inr rfl | exact (D_holds_38_s0_b a_ b_) | exact (D_holds_49_s0_b a_ b_) | exact (D_holds_60_s0_b a_ b_) | exact (D_holds_71_s0_b a_ b_)
set_option maxHeartbeats 4000000 in
set_option maxRecDepth 100000 in
theorem c_D_holds (l : Launch) (D : va_G) (cI cJ : ClassId) (op_ : Int32) (a_ : Int32) (b_ : Int32) (sz : Nat) : Met l yX1_holds (.code yX1_holds cX1_holds 3 (some .boolean) :: gU) { frames := 0, cells := 0, slots := 0, locals := 0 } (va_Pc [.int op_, .int a_, .int b_] (mP D vwCl (tyS cI cJ) [] sz)) (qI D vwCl (tyS cI cJ) [] (D_holds_ret op_ a_ b_) (va_A [] sz)) 0 0 (va_A [] sz) := by
  refine m_go (y := yX1_holds) (cc := cX1_holds) (ml := 3) (rt := (some .boolean)) (av := [.int op_, .int a_, .int b_]) (cs := []) (fun A => qI D vwCl (tyS cI cJ) [] (D_holds_ret op_ a_ b_) A) (by decide) (Nat.le_of_ble_eq_true rfl) ?_
  intro p e s m below meth c A ls hx hb hr hlk hml hts hown _ hA hP hK hD hS hl _
  have hl : lv_has ls 3 [(0, .int op_), (1, .int a_), (2, .int b_)] := hl
  refine lv_iload_n hx hb dX1_holds_0 rfl (lv_at hl 0 rfl) ?_
  by_cases c1_0 : op_ = 40
  · refine lv_tableIn (tgt := 28) (off := 27) hx hb dX1_holds_1 (by rw [c1_0]; decide) (by rw [c1_0]; decide) (by rw [c1_0]; rfl) rfl ?_
    refine lv_iload_n hx hb dX1_holds_28 rfl (lv_at hl 1 rfl) ?_
    refine lv_iload_n hx hb dX1_holds_29 rfl (lv_at hl 2 rfl) ?_
    refine w_j (J := 38) (st := [.int (D_holds_38_s0 a_ b_)]) (fun H locs ls => va_P D vwCl [] H ∧ va_D A [] ∧ va_S A s.heap H locs ∧ lv_has ls 3 [(0, .int op_), (1, .int a_), (2, .int b_)]) (fun H locs ls hJ => ?_) (fun k38 => ?_)
    · obtain ⟨hP, hD, hS, hl⟩ := hJ
      have e0 : (D_holds_ret op_ a_ b_) = (D_holds_38_s0 a_ b_) := (if_pos c1_0)
      exact e_z hx hb hr hlk hK hP hD hS e0.symm (nz (D_holds_38_s0_b a_ b_)).1 dX1_holds_38
    · refine lv_icmp_ne (tgt := 37) hx hb dX1_holds_30 rfl (fun c30 => ?_) (fun c30 => ?_)
      · refine lv_iconst (v := 0) hx hb dX1_holds_37 (by decide) ?_
        have e0 : (D_holds_38_s0 a_ b_) = 0 := (if_neg c30)
        have k38 := k38 _ _ _ ⟨hP, hD, hS, hl⟩
        refine W.eq (g2 := F0 m 38 ls [.int 0]) rfl ?_
        exact W.eq (by rw [e0]) k38
      · refine lv_iconst (v := 1) hx hb dX1_holds_33 (by decide) ?_
        refine lv_goto (tgt := 38) hx hb dX1_holds_34 rfl ?_
        have e0 : (D_holds_38_s0 a_ b_) = 1 := (if_pos c30)
        have k38 := k38 _ _ _ ⟨hP, hD, hS, hl⟩
        refine W.eq (g2 := F0 m 38 ls [.int 1]) rfl ?_
        exact W.eq (by rw [e0]) k38
  by_cases c1_1 : op_ = 41
  · refine lv_tableIn (tgt := 39) (off := 38) hx hb dX1_holds_1 (by rw [c1_1]; decide) (by rw [c1_1]; decide) (by rw [c1_1]; rfl) rfl ?_
    refine lv_iload_n hx hb dX1_holds_39 rfl (lv_at hl 1 rfl) ?_
    refine lv_iload_n hx hb dX1_holds_40 rfl (lv_at hl 2 rfl) ?_
    refine w_j (J := 49) (st := [.int (D_holds_49_s0 a_ b_)]) (fun H locs ls => va_P D vwCl [] H ∧ va_D A [] ∧ va_S A s.heap H locs ∧ lv_has ls 3 [(0, .int op_), (1, .int a_), (2, .int b_)]) (fun H locs ls hJ => ?_) (fun k49 => ?_)
    · obtain ⟨hP, hD, hS, hl⟩ := hJ
      have e0 : (D_holds_ret op_ a_ b_) = (D_holds_49_s0 a_ b_) := ((if_neg c1_0).trans (if_pos c1_1))
      exact e_z hx hb hr hlk hK hP hD hS e0.symm (nz (D_holds_49_s0_b a_ b_)).1 dX1_holds_49
    · refine lv_icmp_eq (tgt := 48) hx hb dX1_holds_41 rfl (fun c41 => ?_) (fun c41 => ?_)
      · refine lv_iconst (v := 0) hx hb dX1_holds_48 (by decide) ?_
        have e0 : (D_holds_49_s0 a_ b_) = 0 := (if_pos c41)
        have k49 := k49 _ _ _ ⟨hP, hD, hS, hl⟩
        refine W.eq (g2 := F0 m 49 ls [.int 0]) rfl ?_
        exact W.eq (by rw [e0]) k49
      · refine lv_iconst (v := 1) hx hb dX1_holds_44 (by decide) ?_
        refine lv_goto (tgt := 49) hx hb dX1_holds_45 rfl ?_
        have e0 : (D_holds_49_s0 a_ b_) = 1 := (if_neg c41)
        have k49 := k49 _ _ _ ⟨hP, hD, hS, hl⟩
        refine W.eq (g2 := F0 m 49 ls [.int 1]) rfl ?_
        exact W.eq (by rw [e0]) k49
  by_cases c1_2 : op_ = 42
  · refine lv_tableIn (tgt := 50) (off := 49) hx hb dX1_holds_1 (by rw [c1_2]; decide) (by rw [c1_2]; decide) (by rw [c1_2]; rfl) rfl ?_
    refine lv_iload_n hx hb dX1_holds_50 rfl (lv_at hl 1 rfl) ?_
    refine lv_iload_n hx hb dX1_holds_51 rfl (lv_at hl 2 rfl) ?_
    refine w_j (J := 60) (st := [.int (D_holds_60_s0 a_ b_)]) (fun H locs ls => va_P D vwCl [] H ∧ va_D A [] ∧ va_S A s.heap H locs ∧ lv_has ls 3 [(0, .int op_), (1, .int a_), (2, .int b_)]) (fun H locs ls hJ => ?_) (fun k60 => ?_)
    · obtain ⟨hP, hD, hS, hl⟩ := hJ
      have e0 : (D_holds_ret op_ a_ b_) = (D_holds_60_s0 a_ b_) := ((if_neg c1_0).trans ((if_neg c1_1).trans (if_pos c1_2)))
      exact e_z hx hb hr hlk hK hP hD hS e0.symm (nz (D_holds_60_s0_b a_ b_)).1 dX1_holds_60
    · refine lv_icmp_ge (tgt := 59) hx hb dX1_holds_52 rfl (fun c52 => ?_) (fun c52 => ?_)
      · refine lv_iconst (v := 0) hx hb dX1_holds_59 (by decide) ?_
        refine W.eq (g2 := F0 m 60 ls [.int 0]) rfl ?_
        have e0 : (D_holds_60_s0 a_ b_) = 0 := (if_pos c52)
        have k60 := k60 _ _ _ ⟨hP, hD, hS, hl⟩
        refine W.eq (g2 := F0 m 60 ls [.int 0]) rfl ?_
        exact W.eq (by rw [e0]) k60
      · refine lv_iconst (v := 1) hx hb dX1_holds_55 (by decide) ?_
        refine lv_goto (tgt := 60) hx hb dX1_holds_56 rfl ?_
        have e0 : (D_holds_60_s0 a_ b_) = 1 := (if_neg c52)
        have k60 := k60 _ _ _ ⟨hP, hD, hS, hl⟩
        refine W.eq (g2 := F0 m 60 ls [.int 1]) rfl ?_
        exact W.eq (by rw [e0]) k60
  refine lv_tableOut (tgt := 61) hx hb dX1_holds_1 (by have z0 := lv_neT (a := 40) c1_0 (by decide); have z1 := lv_neT (a := 41) c1_1 (by decide); have z2 := lv_neT (a := 42) c1_2 (by decide); omega) rfl ?_
  refine lv_iload_n hx hb dX1_holds_61 rfl (lv_at hl 1 rfl) ?_
  refine lv_iload_n hx hb dX1_holds_62 rfl (lv_at hl 2 rfl) ?_
  refine w_j (J := 71) (st := [.int (D_holds_71_s0 a_ b_)]) (fun H locs ls => va_P D vwCl [] H ∧ va_D A [] ∧ va_S A s.heap H locs ∧ lv_has ls 3 [(0, .int op_), (1, .int a_), (2, .int b_)]) (fun H locs ls hJ => ?_) (fun k71 => ?_)
  · obtain ⟨hP, hD, hS, hl⟩ := hJ
    have e0 : (D_holds_ret op_ a_ b_) = (D_holds_71_s0 a_ b_) := ((if_neg c1_0).trans ((if_neg c1_1).trans (if_neg c1_2)))
    exact e_z hx hb hr hlk hK hP hD hS e0.symm (nz (D_holds_71_s0_b a_ b_)).1 dX1_holds_71
  · refine lv_icmp_lt (tgt := 70) hx hb dX1_holds_63 rfl (fun c63 => ?_) (fun c63 => ?_)
    · refine lv_iconst (v := 0) hx hb dX1_holds_70 (by decide) ?_
      have e0 : (D_holds_71_s0 a_ b_) = 0 := (if_pos c63)
      have k71 := k71 _ _ _ ⟨hP, hD, hS, hl⟩
      refine W.eq (g2 := F0 m 71 ls [.int 0]) rfl ?_
      exact W.eq (by rw [e0]) k71
    · refine lv_iconst (v := 1) hx hb dX1_holds_66 (by decide) ?_
      refine lv_goto (tgt := 71) hx hb dX1_holds_67 rfl ?_
      have e0 : (D_holds_71_s0 a_ b_) = 1 := (if_neg c63)
      have k71 := k71 _ _ _ ⟨hP, hD, hS, hl⟩
      refine W.eq (g2 := F0 m 71 ls [.int 1]) rfl ?_
      exact W.eq (by rw [e0]) k71
def D_compute_115_s0 (a_ : Int32) (b_ : Int32) : Int32 := (if b_ ≤ a_ then 0 else 1)
theorem D_compute_115_s0_b (a_ : Int32) (b_ : Int32) : D_compute_115_s0 a_ b_ = 0 ∨ D_compute_115_s0 a_ b_ = 1 := by
  unfold D_compute_115_s0
  repeat' split
  all_goals first | exact Or.inl rfl | exact Or.inr rfl
def D_compute_132_s0 (a_ : Int32) (b_ : Int32) : Int32 := (if (b_ ^^^ (-2147483648)) ≤ (a_ ^^^ (-2147483648)) then 0 else 1)
theorem D_compute_132_s0_b (a_ : Int32) (b_ : Int32) : D_compute_132_s0 a_ b_ = 0 ∨ D_compute_132_s0 a_ b_ = 1 := by
  unfold D_compute_132_s0
  repeat' split
  all_goals first | exact Or.inl rfl | exact Or.inr rfl
def D_compute_148_s0 (a_ : Int32) (b_ : Int32) : Int32 := (if b_ = 0 then (-1) else (a_ / b_))
def D_compute_160_s0 (a_ : Int32) (b_ : Int32) : Int32 := (if b_ = 0 then a_ else (a_ - a_ / b_ * b_))
def D_compute_ret (op_ : Int32) (a_ : Int32) (b_ : Int32) : Int32 := (if op_ = 0 then (a_ + b_) else (if op_ = 1 then (a_ - b_) else (if op_ = 2 then (a_ &&& b_) else (if op_ = 3 then (a_ ||| b_) else (if op_ = 4 then (a_ ^^^ b_) else (if op_ = 5 then (a_ <<< ((b_ &&& 31) &&& 31)) else (if op_ = 6 then ((Int32.toUInt32 a_ >>> (Int32.toUInt32 (b_ &&& 31) &&& Int32.toUInt32 31)).toInt32) else (if op_ = 7 then (a_ >>> ((b_ &&& 31) &&& 31)) else (if op_ = 8 then (D_compute_115_s0 a_ b_) else (if op_ = 9 then (D_compute_132_s0 a_ b_) else (if op_ = 10 then (a_ * b_) else (if op_ = 11 then (D_compute_148_s0 a_ b_) else (D_compute_160_s0 a_ b_)))))))))))))
set_option maxHeartbeats 4000000 in
set_option maxRecDepth 100000 in
theorem c_D_compute (l : Launch) (D : va_G) (cI cJ : ClassId) (op_ : Int32) (a_ : Int32) (b_ : Int32) (sz : Nat) : Met l yX1_compute (.code yX1_compute cX1_compute 3 (some .int) :: gU) { frames := 0, cells := 0, slots := 0, locals := 0 } (va_Pc [.int op_, .int a_, .int b_] (mP D vwCl (tyS cI cJ) [] sz)) (qI D vwCl (tyS cI cJ) [] (D_compute_ret op_ a_ b_) (va_A [] sz)) 0 0 (va_A [] sz) := by
  refine m_go (y := yX1_compute) (cc := cX1_compute) (ml := 3) (rt := (some .int)) (av := [.int op_, .int a_, .int b_]) (cs := []) (fun A => qI D vwCl (tyS cI cJ) [] (D_compute_ret op_ a_ b_) A) (by decide) (Nat.le_of_ble_eq_true rfl) ?_
  intro p e s m below meth c A ls hx hb hr hlk hml hts hown _ hA hP hK hD hS hl _
  have hl : lv_has ls 3 [(0, .int op_), (1, .int a_), (2, .int b_)] := hl
  refine lv_iload_n hx hb dX1_compute_0 rfl (lv_at hl 0 rfl) ?_
  by_cases c1_0 : op_ = 0
  · refine lv_tableIn (tgt := 64) (off := 63) hx hb dX1_compute_1 (by rw [c1_0]; decide) (by rw [c1_0]; decide) (by rw [c1_0]; rfl) rfl ?_
    refine lv_iload_n hx hb dX1_compute_64 rfl (lv_at hl 1 rfl) ?_
    refine lv_iload_n hx hb dX1_compute_65 rfl (lv_at hl 2 rfl) ?_
    refine lv_iadd hx hb dX1_compute_66 ?_
    have e0 : (D_compute_ret op_ a_ b_) = (a_ + b_) := (if_pos c1_0)
    exact e_i hx hb hr hlk hK hP hD hS e0.symm dX1_compute_67
  by_cases c1_1 : op_ = 1
  · refine lv_tableIn (tgt := 68) (off := 67) hx hb dX1_compute_1 (by rw [c1_1]; decide) (by rw [c1_1]; decide) (by rw [c1_1]; rfl) rfl ?_
    refine lv_iload_n hx hb dX1_compute_68 rfl (lv_at hl 1 rfl) ?_
    refine lv_iload_n hx hb dX1_compute_69 rfl (lv_at hl 2 rfl) ?_
    refine lv_isub hx hb dX1_compute_70 ?_
    have e0 : (D_compute_ret op_ a_ b_) = (a_ - b_) := ((if_neg c1_0).trans (if_pos c1_1))
    exact e_i hx hb hr hlk hK hP hD hS e0.symm dX1_compute_71
  by_cases c1_2 : op_ = 2
  · refine lv_tableIn (tgt := 72) (off := 71) hx hb dX1_compute_1 (by rw [c1_2]; decide) (by rw [c1_2]; decide) (by rw [c1_2]; rfl) rfl ?_
    refine lv_iload_n hx hb dX1_compute_72 rfl (lv_at hl 1 rfl) ?_
    refine lv_iload_n hx hb dX1_compute_73 rfl (lv_at hl 2 rfl) ?_
    refine lv_iand hx hb dX1_compute_74 ?_
    have e0 : (D_compute_ret op_ a_ b_) = (a_ &&& b_) := ((if_neg c1_0).trans ((if_neg c1_1).trans (if_pos c1_2)))
    exact e_i hx hb hr hlk hK hP hD hS e0.symm dX1_compute_75
  by_cases c1_3 : op_ = 3
  · refine lv_tableIn (tgt := 76) (off := 75) hx hb dX1_compute_1 (by rw [c1_3]; decide) (by rw [c1_3]; decide) (by rw [c1_3]; rfl) rfl ?_
    refine lv_iload_n hx hb dX1_compute_76 rfl (lv_at hl 1 rfl) ?_
    refine lv_iload_n hx hb dX1_compute_77 rfl (lv_at hl 2 rfl) ?_
    refine W.eq (g2 := F0 m 78 ls [.int b_, .int a_]) rfl ?_
    refine lv_ior hx hb dX1_compute_78 ?_
    have e0 : (D_compute_ret op_ a_ b_) = (a_ ||| b_) := ((if_neg c1_0).trans ((if_neg c1_1).trans ((if_neg c1_2).trans (if_pos c1_3))))
    exact e_i hx hb hr hlk hK hP hD hS e0.symm dX1_compute_79
  by_cases c1_4 : op_ = 4
  · refine lv_tableIn (tgt := 80) (off := 79) hx hb dX1_compute_1 (by rw [c1_4]; decide) (by rw [c1_4]; decide) (by rw [c1_4]; rfl) rfl ?_
    refine lv_iload_n hx hb dX1_compute_80 rfl (lv_at hl 1 rfl) ?_
    refine lv_iload_n hx hb dX1_compute_81 rfl (lv_at hl 2 rfl) ?_
    refine lv_ixor hx hb dX1_compute_82 ?_
    have e0 : (D_compute_ret op_ a_ b_) = (a_ ^^^ b_) := ((if_neg c1_0).trans ((if_neg c1_1).trans ((if_neg c1_2).trans ((if_neg c1_3).trans (if_pos c1_4)))))
    exact e_i hx hb hr hlk hK hP hD hS e0.symm dX1_compute_83
  by_cases c1_5 : op_ = 5
  · refine lv_tableIn (tgt := 84) (off := 83) hx hb dX1_compute_1 (by rw [c1_5]; decide) (by rw [c1_5]; decide) (by rw [c1_5]; rfl) rfl ?_
    refine lv_iload_n hx hb dX1_compute_84 rfl (lv_at hl 1 rfl) ?_
    refine lv_iload_n hx hb dX1_compute_85 rfl (lv_at hl 2 rfl) ?_
    refine lv_bipush (v := 31) hx hb dX1_compute_86 (by decide) ?_
    refine lv_iand hx hb dX1_compute_88 ?_
    refine lv_ishl hx hb dX1_compute_89 ?_
    have e0 : (D_compute_ret op_ a_ b_) = (a_ <<< ((b_ &&& 31) &&& 31)) := ((if_neg c1_0).trans ((if_neg c1_1).trans ((if_neg c1_2).trans ((if_neg c1_3).trans ((if_neg c1_4).trans (if_pos c1_5))))))
    exact e_i hx hb hr hlk hK hP hD hS e0.symm dX1_compute_90
  by_cases c1_6 : op_ = 6
  · refine lv_tableIn (tgt := 91) (off := 90) hx hb dX1_compute_1 (by rw [c1_6]; decide) (by rw [c1_6]; decide) (by rw [c1_6]; rfl) rfl ?_
    refine lv_iload_n hx hb dX1_compute_91 rfl (lv_at hl 1 rfl) ?_
    refine lv_iload_n hx hb dX1_compute_92 rfl (lv_at hl 2 rfl) ?_
    refine lv_bipush (v := 31) hx hb dX1_compute_93 (by decide) ?_
    refine W.eq (g2 := F0 m 95 ls [.int 31, .int b_, .int a_]) rfl ?_
    refine lv_iand hx hb dX1_compute_95 ?_
    refine lv_iushr hx hb dX1_compute_96 rfl ?_
    have e0 : (D_compute_ret op_ a_ b_) = ((Int32.toUInt32 a_ >>> (Int32.toUInt32 (b_ &&& 31) &&& Int32.toUInt32 31)).toInt32) := ((if_neg c1_0).trans ((if_neg c1_1).trans ((if_neg c1_2).trans ((if_neg c1_3).trans ((if_neg c1_4).trans ((if_neg c1_5).trans (if_pos c1_6)))))))
    exact e_i hx hb hr hlk hK hP hD hS e0.symm dX1_compute_97
  by_cases c1_7 : op_ = 7
  · refine lv_tableIn (tgt := 98) (off := 97) hx hb dX1_compute_1 (by rw [c1_7]; decide) (by rw [c1_7]; decide) (by rw [c1_7]; rfl) rfl ?_
    refine lv_iload_n hx hb dX1_compute_98 rfl (lv_at hl 1 rfl) ?_
    refine lv_iload_n hx hb dX1_compute_99 rfl (lv_at hl 2 rfl) ?_
    refine lv_bipush (v := 31) hx hb dX1_compute_100 (by decide) ?_
    refine lv_iand hx hb dX1_compute_102 ?_
    refine lv_ishr hx hb dX1_compute_103 ?_
    have e0 : (D_compute_ret op_ a_ b_) = (a_ >>> ((b_ &&& 31) &&& 31)) := ((if_neg c1_0).trans ((if_neg c1_1).trans ((if_neg c1_2).trans ((if_neg c1_3).trans ((if_neg c1_4).trans ((if_neg c1_5).trans ((if_neg c1_6).trans (if_pos c1_7))))))))
    exact e_i hx hb hr hlk hK hP hD hS e0.symm dX1_compute_104
  by_cases c1_8 : op_ = 8
  · refine lv_tableIn (tgt := 105) (off := 104) hx hb dX1_compute_1 (by rw [c1_8]; decide) (by rw [c1_8]; decide) (by rw [c1_8]; rfl) rfl ?_
    refine lv_iload_n hx hb dX1_compute_105 rfl (lv_at hl 1 rfl) ?_
    refine lv_iload_n hx hb dX1_compute_106 rfl (lv_at hl 2 rfl) ?_
    refine w_j (J := 115) (st := [.int (D_compute_115_s0 a_ b_)]) (fun H locs ls => va_P D vwCl [] H ∧ va_D A [] ∧ va_S A s.heap H locs ∧ lv_has ls 3 [(0, .int op_), (1, .int a_), (2, .int b_)]) (fun H locs ls hJ => ?_) (fun k115 => ?_)
    · obtain ⟨hP, hD, hS, hl⟩ := hJ
      have e0 : (D_compute_ret op_ a_ b_) = (D_compute_115_s0 a_ b_) := ((if_neg c1_0).trans ((if_neg c1_1).trans ((if_neg c1_2).trans ((if_neg c1_3).trans ((if_neg c1_4).trans ((if_neg c1_5).trans ((if_neg c1_6).trans ((if_neg c1_7).trans (if_pos c1_8)))))))))
      exact e_i hx hb hr hlk hK hP hD hS e0.symm dX1_compute_115
    · refine lv_icmp_ge (tgt := 114) hx hb dX1_compute_107 rfl (fun c107 => ?_) (fun c107 => ?_)
      · refine lv_iconst (v := 0) hx hb dX1_compute_114 (by decide) ?_
        have e0 : (D_compute_115_s0 a_ b_) = 0 := (if_pos c107)
        have k115 := k115 _ _ _ ⟨hP, hD, hS, hl⟩
        refine W.eq (g2 := F0 m 115 ls [.int 0]) rfl ?_
        exact W.eq (by rw [e0]) k115
      · refine lv_iconst (v := 1) hx hb dX1_compute_110 (by decide) ?_
        refine lv_goto (tgt := 115) hx hb dX1_compute_111 rfl ?_
        have e0 : (D_compute_115_s0 a_ b_) = 1 := (if_neg c107)
        have k115 := k115 _ _ _ ⟨hP, hD, hS, hl⟩
        refine W.eq (g2 := F0 m 115 ls [.int 1]) rfl ?_
        exact W.eq (by rw [e0]) k115
  by_cases c1_9 : op_ = 9
  · refine lv_tableIn (tgt := 116) (off := 115) hx hb dX1_compute_1 (by rw [c1_9]; decide) (by rw [c1_9]; decide) (by rw [c1_9]; rfl) rfl ?_
    refine lv_iload_n hx hb dX1_compute_116 rfl (lv_at hl 1 rfl) ?_
    refine W.eq (g2 := F0 m 117 ls [.int a_]) rfl ?_
    refine lv_ldc (v := (-2147483648)) hx hb hown (hts _ kt_389) dX1_compute_117 ?_
    refine lv_ixor hx hb dX1_compute_119 ?_
    refine lv_iload_n hx hb dX1_compute_120 rfl (lv_at hl 2 rfl) ?_
    refine lv_ldc (v := (-2147483648)) hx hb hown (hts _ kt_389) dX1_compute_121 ?_
    refine lv_ixor hx hb dX1_compute_123 ?_
    refine w_j (J := 132) (st := [.int (D_compute_132_s0 a_ b_)]) (fun H locs ls => va_P D vwCl [] H ∧ va_D A [] ∧ va_S A s.heap H locs ∧ lv_has ls 3 [(0, .int op_), (1, .int a_), (2, .int b_)]) (fun H locs ls hJ => ?_) (fun k132 => ?_)
    · obtain ⟨hP, hD, hS, hl⟩ := hJ
      have e0 : (D_compute_ret op_ a_ b_) = (D_compute_132_s0 a_ b_) := ((if_neg c1_0).trans ((if_neg c1_1).trans ((if_neg c1_2).trans ((if_neg c1_3).trans ((if_neg c1_4).trans ((if_neg c1_5).trans ((if_neg c1_6).trans ((if_neg c1_7).trans ((if_neg c1_8).trans (if_pos c1_9))))))))))
      exact e_i hx hb hr hlk hK hP hD hS e0.symm dX1_compute_132
    · refine lv_icmp_ge (tgt := 131) hx hb dX1_compute_124 rfl (fun c124 => ?_) (fun c124 => ?_)
      · refine lv_iconst (v := 0) hx hb dX1_compute_131 (by decide) ?_
        have e0 : (D_compute_132_s0 a_ b_) = 0 := (if_pos c124)
        have k132 := k132 _ _ _ ⟨hP, hD, hS, hl⟩
        refine W.eq (g2 := F0 m 132 ls [.int 0]) rfl ?_
        exact W.eq (by rw [e0]) k132
      · refine lv_iconst (v := 1) hx hb dX1_compute_127 (by decide) ?_
        refine lv_goto (tgt := 132) hx hb dX1_compute_128 rfl ?_
        have e0 : (D_compute_132_s0 a_ b_) = 1 := (if_neg c124)
        have k132 := k132 _ _ _ ⟨hP, hD, hS, hl⟩
        refine W.eq (g2 := F0 m 132 ls [.int 1]) rfl ?_
        exact W.eq (by rw [e0]) k132
  by_cases c1_10 : op_ = 10
  · refine lv_tableIn (tgt := 133) (off := 132) hx hb dX1_compute_1 (by rw [c1_10]; decide) (by rw [c1_10]; decide) (by rw [c1_10]; rfl) rfl ?_
    refine lv_iload_n hx hb dX1_compute_133 rfl (lv_at hl 1 rfl) ?_
    refine lv_iload_n hx hb dX1_compute_134 rfl (lv_at hl 2 rfl) ?_
    refine lv_imul hx hb dX1_compute_135 ?_
    have e0 : (D_compute_ret op_ a_ b_) = (a_ * b_) := ((if_neg c1_0).trans ((if_neg c1_1).trans ((if_neg c1_2).trans ((if_neg c1_3).trans ((if_neg c1_4).trans ((if_neg c1_5).trans ((if_neg c1_6).trans ((if_neg c1_7).trans ((if_neg c1_8).trans ((if_neg c1_9).trans (if_pos c1_10)))))))))))
    exact e_i hx hb hr hlk hK hP hD hS e0.symm dX1_compute_136
  by_cases c1_11 : op_ = 11
  · refine lv_tableIn (tgt := 137) (off := 136) hx hb dX1_compute_1 (by rw [c1_11]; decide) (by rw [c1_11]; decide) (by rw [c1_11]; rfl) rfl ?_
    refine lv_iload_n hx hb dX1_compute_137 rfl (lv_at hl 2 rfl) ?_
    refine w_j (J := 148) (st := [.int (D_compute_148_s0 a_ b_)]) (fun H locs ls => va_P D vwCl [] H ∧ va_D A [] ∧ va_S A s.heap H locs ∧ lv_has ls 3 [(0, .int op_), (1, .int a_), (2, .int b_)]) (fun H locs ls hJ => ?_) (fun k148 => ?_)
    · obtain ⟨hP, hD, hS, hl⟩ := hJ
      have e0 : (D_compute_ret op_ a_ b_) = (D_compute_148_s0 a_ b_) := ((if_neg c1_0).trans ((if_neg c1_1).trans ((if_neg c1_2).trans ((if_neg c1_3).trans ((if_neg c1_4).trans ((if_neg c1_5).trans ((if_neg c1_6).trans ((if_neg c1_7).trans ((if_neg c1_8).trans ((if_neg c1_9).trans ((if_neg c1_10).trans (if_pos c1_11))))))))))))
      exact e_i hx hb hr hlk hK hP hD hS e0.symm dX1_compute_148
    · refine lv_if_ne (tgt := 145) hx hb dX1_compute_138 rfl (fun c138 => ?_) (fun c138 => ?_)
      · refine lv_iload_n hx hb dX1_compute_145 rfl (lv_at hl 1 rfl) ?_
        refine W.eq (g2 := F0 m 146 ls [.int a_]) rfl ?_
        refine lv_iload_n hx hb dX1_compute_146 rfl (lv_at hl 2 rfl) ?_
        refine lv_idiv hx hb dX1_compute_147 c138 ?_
        have e0 : (D_compute_148_s0 a_ b_) = (a_ / b_) := (if_neg c138)
        have k148 := k148 _ _ _ ⟨hP, hD, hS, hl⟩
        refine W.eq (g2 := F0 m 148 ls [.int (a_ / b_)]) rfl ?_
        exact W.eq (by rw [e0]) k148
      · refine lv_iconst (v := (-1)) hx hb dX1_compute_141 (by decide) ?_
        refine lv_goto (tgt := 148) hx hb dX1_compute_142 rfl ?_
        have e0 : (D_compute_148_s0 a_ b_) = (-1) := (if_pos c138)
        have k148 := k148 _ _ _ ⟨hP, hD, hS, hl⟩
        refine W.eq (g2 := F0 m 148 ls [.int (-1)]) rfl ?_
        exact W.eq (by rw [e0]) k148
  refine lv_tableOut (tgt := 149) hx hb dX1_compute_1 (by have z0 := lv_neT (a := 0) c1_0 (by decide); have z1 := lv_neT (a := 1) c1_1 (by decide); have z2 := lv_neT (a := 2) c1_2 (by decide); have z3 := lv_neT (a := 3) c1_3 (by decide); have z4 := lv_neT (a := 4) c1_4 (by decide); have z5 := lv_neT (a := 5) c1_5 (by decide); have z6 := lv_neT (a := 6) c1_6 (by decide); have z7 := lv_neT (a := 7) c1_7 (by decide); have z8 := lv_neT (a := 8) c1_8 (by decide); have z9 := lv_neT (a := 9) c1_9 (by decide); have z10 := lv_neT (a := 10) c1_10 (by decide); have z11 := lv_neT (a := 11) c1_11 (by decide); omega) rfl ?_
  refine lv_iload_n hx hb dX1_compute_149 rfl (lv_at hl 2 rfl) ?_
  refine w_j (J := 160) (st := [.int (D_compute_160_s0 a_ b_)]) (fun H locs ls => va_P D vwCl [] H ∧ va_D A [] ∧ va_S A s.heap H locs ∧ lv_has ls 3 [(0, .int op_), (1, .int a_), (2, .int b_)]) (fun H locs ls hJ => ?_) (fun k160 => ?_)
  · obtain ⟨hP, hD, hS, hl⟩ := hJ
    have e0 : (D_compute_ret op_ a_ b_) = (D_compute_160_s0 a_ b_) := ((if_neg c1_0).trans ((if_neg c1_1).trans ((if_neg c1_2).trans ((if_neg c1_3).trans ((if_neg c1_4).trans ((if_neg c1_5).trans ((if_neg c1_6).trans ((if_neg c1_7).trans ((if_neg c1_8).trans ((if_neg c1_9).trans ((if_neg c1_10).trans (if_neg c1_11))))))))))))
    exact e_i hx hb hr hlk hK hP hD hS e0.symm dX1_compute_160
  · refine lv_if_ne (tgt := 157) hx hb dX1_compute_150 rfl (fun c150 => ?_) (fun c150 => ?_)
    · refine lv_iload_n hx hb dX1_compute_157 rfl (lv_at hl 1 rfl) ?_
      refine lv_iload_n hx hb dX1_compute_158 rfl (lv_at hl 2 rfl) ?_
      refine lv_irem hx hb dX1_compute_159 c150 ?_
      have e0 : (D_compute_160_s0 a_ b_) = (a_ - a_ / b_ * b_) := (if_neg c150)
      have k160 := k160 _ _ _ ⟨hP, hD, hS, hl⟩
      refine W.eq (g2 := F0 m 160 ls [.int (a_ - a_ / b_ * b_)]) rfl ?_
      exact W.eq (by rw [e0]) k160
    · refine lv_iload_n hx hb dX1_compute_153 rfl (lv_at hl 1 rfl) ?_
      refine lv_goto (tgt := 160) hx hb dX1_compute_154 rfl ?_
      have e0 : (D_compute_160_s0 a_ b_) = a_ := (if_pos c150)
      have k160 := k160 _ _ _ ⟨hP, hD, hS, hl⟩
      refine W.eq (g2 := F0 m 160 ls [.int a_]) rfl ?_
      exact W.eq (by rw [e0]) k160
def D_reach_53_s0 (a_ : Int32) (b_ : Int32) (w_op : Int32) (w_i : Int32) (f_sto : Nat → Int32) : Int32 := (if w_op = 32 then (f_sto (Int32.toNatClampNeg (a_ + w_i))) else b_)
def D_reach_x_de_value (a_ : Int32) (b_ : Int32) (de_value : Int32) (w_op : Int32) (w_i : Int32) (f_sto : Nat → Int32) : Int32 := (if ((a_ + w_i) < 0 ∨ ¬ (a_ + w_i) < 1024) then de_value else (D_reach_53_s0 a_ b_ w_op w_i f_sto))
def D_reach_x_de_address (a_ : Int32) (de_address : Int32) (w_i : Int32) : Int32 := (if ((a_ + w_i) < 0 ∨ ¬ (a_ + w_i) < 1024) then de_address else (a_ + w_i))
def D_reach_x_de_ending (a_ : Int32) (de_ending : Int32) (w_i : Int32) : Int32 := (if ((a_ + w_i) < 0 ∨ ¬ (a_ + w_i) < 1024) then 2 else de_ending)
def D_reach_x_de_trap (a_ : Int32) (de_trap : Int32) (w_i : Int32) : Int32 := (if ((a_ + w_i) < 0 ∨ ¬ (a_ + w_i) < 1024) then 2 else de_trap)
set_option maxHeartbeats 4000000 in
set_option maxRecDepth 100000 in
theorem c_D_reach (l : Launch) (D : va_G) (cI cJ : ClassId) (q_de : Nat) (q_w : Nat) (q_sto : Nat) (a_ : Int32) (b_ : Int32) (de_next : Int32) (de_value : Int32) (de_address : Int32) (de_taken : Int32) (de_ending : Int32) (de_trap : Int32) (w_pc : Int32) (w_op : Int32) (w_d : Int32) (w_a : Int32) (w_b : Int32) (w_i : Int32) (f_sto : Nat → Int32) (sz : Nat) : Met l yX1_reach (.code yX1_reach cX1_reach 6 none :: gU) { frames := 1, cells := 0, slots := 0, locals := 22 } (va_Pc [.ref q_de, .ref q_w, .int a_, .int b_, .ref q_sto] (mP D vwCl (tyS cI cJ) [(q_de, .inr (1, [.int de_next, .int de_value, .int de_address, .int de_taken, .int de_ending, .int de_trap])), (q_w, .inr (8, [.int w_pc, .int w_op, .int w_d, .int w_a, .int w_b, .int w_i])), (q_sto, .inl (cI, 1024, .inl f_sto))] sz)) (qV D vwCl (tyS cI cJ) [(q_de, .inr (1, [.int de_next, .int (D_reach_x_de_value a_ b_ de_value w_op w_i f_sto), .int (D_reach_x_de_address a_ de_address w_i), .int de_taken, .int (D_reach_x_de_ending a_ de_ending w_i), .int (D_reach_x_de_trap a_ de_trap w_i)])), (q_w, .inr (8, [.int w_pc, .int w_op, .int w_d, .int w_a, .int w_b, .int w_i])), (q_sto, .inl (cI, 1024, .inl f_sto))] (va_A [(q_de, .inr (1, [.int de_next, .int de_value, .int de_address, .int de_taken, .int de_ending, .int de_trap])), (q_w, .inr (8, [.int w_pc, .int w_op, .int w_d, .int w_a, .int w_b, .int w_i])), (q_sto, .inl (cI, 1024, .inl f_sto))] sz)) 0 0 (va_A [(q_de, .inr (1, [.int de_next, .int de_value, .int de_address, .int de_taken, .int de_ending, .int de_trap])), (q_w, .inr (8, [.int w_pc, .int w_op, .int w_d, .int w_a, .int w_b, .int w_i])), (q_sto, .inl (cI, 1024, .inl f_sto))] sz) := by
  refine m_go (y := yX1_reach) (cc := cX1_reach) (ml := 6) (rt := none) (av := [.ref q_de, .ref q_w, .int a_, .int b_, .ref q_sto]) (cs := [(q_de, .inr (1, [.int de_next, .int de_value, .int de_address, .int de_taken, .int de_ending, .int de_trap])), (q_w, .inr (8, [.int w_pc, .int w_op, .int w_d, .int w_a, .int w_b, .int w_i])), (q_sto, .inl (cI, 1024, .inl f_sto))]) (fun A => qV D vwCl (tyS cI cJ) [(q_de, .inr (1, [.int de_next, .int (D_reach_x_de_value a_ b_ de_value w_op w_i f_sto), .int (D_reach_x_de_address a_ de_address w_i), .int de_taken, .int (D_reach_x_de_ending a_ de_ending w_i), .int (D_reach_x_de_trap a_ de_trap w_i)])), (q_w, .inr (8, [.int w_pc, .int w_op, .int w_d, .int w_a, .int w_b, .int w_i])), (q_sto, .inl (cI, 1024, .inl f_sto))] A) (by decide) (Nat.le_of_ble_eq_true rfl) ?_
  intro p e s m below meth c A ls hx hb hr hlk hml hts hown _ hA hP hK hD hS hl _
  have hl : lv_has ls 6 [(0, .ref q_de), (1, .ref q_w), (2, .int a_), (3, .int b_), (4, .ref q_sto)] := hl
  refine lv_iload_n hx hb dX1_reach_0 rfl (lv_at hl 2 rfl) ?_
  refine lv_aload_n hx hb dX1_reach_1 rfl (lv_at hl 1 rfl) ?_
  refine va_get (D := D) (ci := 8) (v := .int w_i) (C := RX8) (T := TX8) (N := 6) hx hb hts inX8 hown hK hP 1 rfl rfl 5 (by decide) (hts _ kt_113) (fun _ h => h) rfl dX1_reach_2 ?_
  refine lv_iadd hx hb dX1_reach_5 ?_
  refine lv_istore hx hb dX1_reach_6 hl (by decide) rfl (fun ls hl => ?_)
  have hl : lv_has ls 6 [(5, .int (a_ + w_i)), (0, .ref q_de), (1, .ref q_w), (2, .int a_), (3, .int b_), (4, .ref q_sto)] := hl
  refine lv_iload hx hb dX1_reach_8 (lv_at hl 0 rfl) ?_
  refine w_j (J := 21) (st := []) (fun H locs ls => va_P D vwCl [(q_de, .inr (1, [.int de_next, .int de_value, .int de_address, .int de_taken, .int de_ending, .int de_trap])), (q_w, .inr (8, [.int w_pc, .int w_op, .int w_d, .int w_a, .int w_b, .int w_i])), (q_sto, .inl (cI, 1024, .inl f_sto))] H ∧ va_D A [(q_de, .inr (1, [.int de_next, .int de_value, .int de_address, .int de_taken, .int de_ending, .int de_trap])), (q_w, .inr (8, [.int w_pc, .int w_op, .int w_d, .int w_a, .int w_b, .int w_i])), (q_sto, .inl (cI, 1024, .inl f_sto))] ∧ va_S A s.heap H locs ∧ lv_has ls 6 [(5, .int (a_ + w_i)), (0, .ref q_de), (1, .ref q_w), (2, .int a_), (3, .int b_), (4, .ref q_sto)] ∧ (((a_ + w_i) < 0 ∨ ¬ (a_ + w_i) < 1024))) (fun H locs ls hJ => ?_) (fun k21 => ?_)
  · obtain ⟨hP, hD, hS, hl, h21⟩ := hJ
    refine lv_aload_n hx hb dX1_reach_21 rfl (lv_at hl 1 rfl) ?_
    refine lv_iconst (v := 2) hx hb dX1_reach_22 (by decide) ?_
    refine lv_iconst (v := 2) hx hb dX1_reach_23 (by decide) ?_
    refine c_v (wc := [(q_de, .inr (1, [.int de_next, .int de_value, .int de_address, .int de_taken, .int de_ending, .int de_trap]))]) (wr := [(q_w, .inr (8, [.int w_pc, .int w_op, .int w_d, .int w_a, .int w_b, .int w_i])), (q_sto, .inl (cI, 1024, .inl f_sto))]) (wc2 := [(q_de, .inr (1, [.int de_next, .int de_value, .int de_address, .int de_taken, .int 2, .int 2]))]) (ws2 := [(q_de, .inr (1, [.int de_next, .int de_value, .int de_address, .int de_taken, .int 2, .int 2])), (q_w, .inr (8, [.int w_pc, .int w_op, .int w_d, .int w_a, .int w_b, .int w_i])), (q_sto, .inl (cI, 1024, .inl f_sto))]) (r_V (rm := { frames := 0, cells := 0, slots := 0, locals := 0 }) hx hb hml hown hts (c_D_stop l D cI cJ q_de 2 2 de_next de_value de_address de_taken de_ending de_trap _) 2 kt_405 kt_402 kt_404 kp_3 kt_6 ⟨by decide +kernel, by decide +kernel, by decide +kernel⟩ ⟨by decide, by decide⟩ hK hP hD [0] rfl (by decide) 0 rfl rfl hl.1 rfl rfl (Nat.le_of_ble_eq_true rfl) dX1_reach_24 ⟨by decide, by decide⟩) hP hD hS hA [0] [1, 2] [2, 0, 1] rfl rfl (by decide) (by decide) rfl (by decide) (fun H locs hP hD hS => ?_)
    refine W.eq (g2 := F0 m 27 ls []) rfl ?_
    have e0 : (D_reach_x_de_value a_ b_ de_value w_op w_i f_sto) = de_value := (if_pos h21)
    have e1 : (D_reach_x_de_address a_ de_address w_i) = de_address := (if_pos h21)
    have e2 : (D_reach_x_de_ending a_ de_ending w_i) = 2 := (if_pos h21)
    have e3 : (D_reach_x_de_trap a_ de_trap w_i) = 2 := (if_pos h21)
    exact e_v hx hb hr hlk hK (by rw [e0, e1, e2, e3]; exact hP) (by rw [e0, e1, e2, e3]; exact hD) hS dX1_reach_27
  refine lv_if_lt (tgt := 21) hx hb dX1_reach_10 rfl (fun c10 => ?_) (fun c10 => ?_)
  · exact k21 _ _ _ ⟨hP, hD, hS, hl, (Or.inl c10)⟩
  · refine lv_iload hx hb dX1_reach_13 (lv_at hl 0 rfl) ?_
    refine lv_sipush (v := 1024) hx hb dX1_reach_15 (by decide) ?_
    refine lv_icmp_lt (tgt := 28) hx hb dX1_reach_18 rfl (fun c18 => ?_) (fun c18 => ?_)
    · refine lv_aload_n hx hb dX1_reach_28 rfl (lv_at hl 1 rfl) ?_
      refine lv_iload hx hb dX1_reach_29 (lv_at hl 0 rfl) ?_
      refine va_put (D := D) (ci := 1) (v := .int (a_ + w_i)) (ty := .int) (C := RX1) (T := TX1) (N := 6) hx hb hts inX1 tyX1 tyX1_ok nmX1 hown hK hP hD hS 0 rfl rfl 2 (by decide) (hts _ kt_139) (fun _ h => h) rfl (by decide +kernel) rfl rfl (Nat.le_of_ble_eq_true rfl) dX1_reach_31 (fun H locs hP hD hS => ?_)
      have hP : va_P D vwCl [(q_de, .inr (1, [.int de_next, .int de_value, .int (a_ + w_i), .int de_taken, .int de_ending, .int de_trap])), (q_w, .inr (8, [.int w_pc, .int w_op, .int w_d, .int w_a, .int w_b, .int w_i])), (q_sto, .inl (cI, 1024, .inl f_sto))] H := hP
      have hD : va_D A [(q_de, .inr (1, [.int de_next, .int de_value, .int (a_ + w_i), .int de_taken, .int de_ending, .int de_trap])), (q_w, .inr (8, [.int w_pc, .int w_op, .int w_d, .int w_a, .int w_b, .int w_i])), (q_sto, .inl (cI, 1024, .inl f_sto))] := hD
      refine lv_aload_n hx hb dX1_reach_34 rfl (lv_at hl 1 rfl) ?_
      refine W.eq (g2 := F0 m 35 ls [.ref q_de]) rfl ?_
      refine lv_aload_n hx hb dX1_reach_35 rfl (lv_at hl 2 rfl) ?_
      refine va_get (D := D) (ci := 8) (v := .int w_op) (C := RX8) (T := TX8) (N := 6) hx hb hts inX8 hown hK hP 1 rfl rfl 1 (by decide) (hts _ kt_100) (fun _ h => h) rfl dX1_reach_36 ?_
      refine lv_bipush (v := 32) hx hb dX1_reach_39 (by decide) ?_
      refine w_j (J := 53) (st := [.int (D_reach_53_s0 a_ b_ w_op w_i f_sto), .ref q_de]) (fun H locs ls => va_P D vwCl [(q_de, .inr (1, [.int de_next, .int de_value, .int (a_ + w_i), .int de_taken, .int de_ending, .int de_trap])), (q_w, .inr (8, [.int w_pc, .int w_op, .int w_d, .int w_a, .int w_b, .int w_i])), (q_sto, .inl (cI, 1024, .inl f_sto))] H ∧ va_D A [(q_de, .inr (1, [.int de_next, .int de_value, .int (a_ + w_i), .int de_taken, .int de_ending, .int de_trap])), (q_w, .inr (8, [.int w_pc, .int w_op, .int w_d, .int w_a, .int w_b, .int w_i])), (q_sto, .inl (cI, 1024, .inl f_sto))] ∧ va_S A s.heap H locs ∧ lv_has ls 6 [(5, .int (a_ + w_i)), (0, .ref q_de), (1, .ref q_w), (2, .int a_), (3, .int b_), (4, .ref q_sto)]) (fun H locs ls hJ => ?_) (fun k53 => ?_)
      · obtain ⟨hP, hD, hS, hl⟩ := hJ
        refine va_put (D := D) (ci := 1) (v := .int (D_reach_53_s0 a_ b_ w_op w_i f_sto)) (ty := .int) (C := RX1) (T := TX1) (N := 6) hx hb hts inX1 tyX1 tyX1_ok nmX1 hown hK hP hD hS 0 rfl rfl 1 (by decide) (hts _ kt_137) (fun _ h => h) rfl (by decide +kernel) rfl rfl (Nat.le_of_ble_eq_true rfl) dX1_reach_53 (fun H locs hP hD hS => ?_)
        have hP : va_P D vwCl [(q_de, .inr (1, [.int de_next, .int (D_reach_53_s0 a_ b_ w_op w_i f_sto), .int (a_ + w_i), .int de_taken, .int de_ending, .int de_trap])), (q_w, .inr (8, [.int w_pc, .int w_op, .int w_d, .int w_a, .int w_b, .int w_i])), (q_sto, .inl (cI, 1024, .inl f_sto))] H := hP
        have hD : va_D A [(q_de, .inr (1, [.int de_next, .int (D_reach_53_s0 a_ b_ w_op w_i f_sto), .int (a_ + w_i), .int de_taken, .int de_ending, .int de_trap])), (q_w, .inr (8, [.int w_pc, .int w_op, .int w_d, .int w_a, .int w_b, .int w_i])), (q_sto, .inl (cI, 1024, .inl f_sto))] := hD
        have e0 : (D_reach_x_de_value a_ b_ de_value w_op w_i f_sto) = (D_reach_53_s0 a_ b_ w_op w_i f_sto) := (if_neg (not_or.mpr ⟨c10, (fun n => n c18)⟩))
        have e1 : (D_reach_x_de_address a_ de_address w_i) = (a_ + w_i) := (if_neg (not_or.mpr ⟨c10, (fun n => n c18)⟩))
        have e2 : (D_reach_x_de_ending a_ de_ending w_i) = de_ending := (if_neg (not_or.mpr ⟨c10, (fun n => n c18)⟩))
        have e3 : (D_reach_x_de_trap a_ de_trap w_i) = de_trap := (if_neg (not_or.mpr ⟨c10, (fun n => n c18)⟩))
        exact e_v hx hb hr hlk hK (by rw [e0, e1, e2, e3]; exact hP) (by rw [e0, e1, e2, e3]; exact hD) hS dX1_reach_56
      · refine lv_icmp_ne (tgt := 52) hx hb dX1_reach_41 rfl (fun c41 => ?_) (fun c41 => ?_)
        · refine lv_iload_n hx hb dX1_reach_52 rfl (lv_at hl 4 rfl) ?_
          have e0 : (D_reach_53_s0 a_ b_ w_op w_i f_sto) = b_ := (if_neg c41)
          have k53 := k53 _ _ _ ⟨hP, hD, hS, hl⟩
          refine W.eq (g2 := F0 m 53 ls [.int b_, .ref q_de]) rfl ?_
          exact W.eq (by rw [e0]) k53
        · refine lv_aload hx hb dX1_reach_44 (lv_at hl 5 rfl) ?_
          refine lv_iload hx hb dX1_reach_46 (lv_at hl 0 rfl) ?_
          refine va_iald hx hb hK hP 2 0 rfl rfl (in_lt c10 c18 (by decide)) dX1_reach_48 ?_
          refine lv_goto (tgt := 53) hx hb dX1_reach_49 rfl ?_
          have e0 : (D_reach_53_s0 a_ b_ w_op w_i f_sto) = (f_sto (Int32.toNatClampNeg (a_ + w_i))) := (if_pos c41)
          have k53 := k53 _ _ _ ⟨hP, hD, hS, hl⟩
          refine W.eq (g2 := F0 m 53 ls [.int (f_sto (Int32.toNatClampNeg (a_ + w_i))), .ref q_de]) rfl ?_
          exact W.eq (by rw [e0]) k53
    · exact k21 _ _ _ ⟨hP, hD, hS, hl, (Or.inr c18)⟩
def D_branch_x_de_next (a_ : Int32) (b_ : Int32) (de_next : Int32) (w_pc : Int32) (w_op : Int32) (w_i : Int32) : Int32 := (if (D_holds_ret w_op a_ b_) = 0 then de_next else (w_pc + w_i))
set_option maxHeartbeats 4000000 in
set_option maxRecDepth 100000 in
theorem c_D_branch (l : Launch) (D : va_G) (cI cJ : ClassId) (q_de : Nat) (q_w : Nat) (a_ : Int32) (b_ : Int32) (de_next : Int32) (de_value : Int32) (de_address : Int32) (de_taken : Int32) (de_ending : Int32) (de_trap : Int32) (w_pc : Int32) (w_op : Int32) (w_d : Int32) (w_a : Int32) (w_b : Int32) (w_i : Int32) (sz : Nat) : Met l yX1_branch (.code yX1_branch cX1_branch 4 none :: gU) { frames := 1, cells := 0, slots := 0, locals := 22 } (va_Pc [.ref q_de, .ref q_w, .int a_, .int b_] (mP D vwCl (tyS cI cJ) [(q_de, .inr (1, [.int de_next, .int de_value, .int de_address, .int de_taken, .int de_ending, .int de_trap])), (q_w, .inr (8, [.int w_pc, .int w_op, .int w_d, .int w_a, .int w_b, .int w_i]))] sz)) (qV D vwCl (tyS cI cJ) [(q_de, .inr (1, [.int (D_branch_x_de_next a_ b_ de_next w_pc w_op w_i), .int de_value, .int de_address, .int (D_holds_ret w_op a_ b_), .int de_ending, .int de_trap])), (q_w, .inr (8, [.int w_pc, .int w_op, .int w_d, .int w_a, .int w_b, .int w_i]))] (va_A [(q_de, .inr (1, [.int de_next, .int de_value, .int de_address, .int de_taken, .int de_ending, .int de_trap])), (q_w, .inr (8, [.int w_pc, .int w_op, .int w_d, .int w_a, .int w_b, .int w_i]))] sz)) 0 0 (va_A [(q_de, .inr (1, [.int de_next, .int de_value, .int de_address, .int de_taken, .int de_ending, .int de_trap])), (q_w, .inr (8, [.int w_pc, .int w_op, .int w_d, .int w_a, .int w_b, .int w_i]))] sz) := by
  refine m_go (y := yX1_branch) (cc := cX1_branch) (ml := 4) (rt := none) (av := [.ref q_de, .ref q_w, .int a_, .int b_]) (cs := [(q_de, .inr (1, [.int de_next, .int de_value, .int de_address, .int de_taken, .int de_ending, .int de_trap])), (q_w, .inr (8, [.int w_pc, .int w_op, .int w_d, .int w_a, .int w_b, .int w_i]))]) (fun A => qV D vwCl (tyS cI cJ) [(q_de, .inr (1, [.int (D_branch_x_de_next a_ b_ de_next w_pc w_op w_i), .int de_value, .int de_address, .int (D_holds_ret w_op a_ b_), .int de_ending, .int de_trap])), (q_w, .inr (8, [.int w_pc, .int w_op, .int w_d, .int w_a, .int w_b, .int w_i]))] A) (by decide) (Nat.le_of_ble_eq_true rfl) ?_
  intro p e s m below meth c A ls hx hb hr hlk hml hts hown _ hA hP hK hD hS hl _
  have hl : lv_has ls 4 [(0, .ref q_de), (1, .ref q_w), (2, .int a_), (3, .int b_)] := hl
  refine lv_aload_n hx hb dX1_branch_0 rfl (lv_at hl 0 rfl) ?_
  refine lv_aload_n hx hb dX1_branch_1 rfl (lv_at hl 1 rfl) ?_
  refine va_get (D := D) (ci := 8) (v := .int w_op) (C := RX8) (T := TX8) (N := 6) hx hb hts inX8 hown hK hP 1 rfl rfl 1 (by decide) (hts _ kt_100) (fun _ h => h) rfl dX1_branch_2 ?_
  refine lv_iload_n hx hb dX1_branch_5 rfl (lv_at hl 2 rfl) ?_
  refine lv_iload_n hx hb dX1_branch_6 rfl (lv_at hl 3 rfl) ?_
  refine c_i (r := (D_holds_ret w_op a_ b_)) (wc := []) (wr := [(q_de, .inr (1, [.int de_next, .int de_value, .int de_address, .int de_taken, .int de_ending, .int de_trap])), (q_w, .inr (8, [.int w_pc, .int w_op, .int w_d, .int w_a, .int w_b, .int w_i]))]) (wc2 := []) (ws2 := [(q_de, .inr (1, [.int de_next, .int de_value, .int de_address, .int de_taken, .int de_ending, .int de_trap])), (q_w, .inr (8, [.int w_pc, .int w_op, .int w_d, .int w_a, .int w_b, .int w_i]))]) (r_S (rm := { frames := 0, cells := 0, slots := 0, locals := 0 }) hx hb hml hown hts (c_D_holds l D cI cJ w_op a_ b_ _) 3 kt_413 kt_411 kt_412 kt_6 ⟨by decide +kernel, by decide +kernel, by decide +kernel⟩ ⟨by decide, by decide⟩ hK hP hD [] rfl (by decide) hl.1 rfl rfl (Nat.le_of_ble_eq_true rfl) dX1_branch_7 ⟨by decide, by decide⟩) hP hD hS hA [] [0, 1] [0, 1] rfl rfl (by decide) (by decide) rfl (by decide) (fun H locs hP hD hS => ?_)
  refine va_put (D := D) (ci := 1) (v := .int (D_holds_ret w_op a_ b_)) (ty := .boolean) (C := RX1) (T := TX1) (N := 6) hx hb hts inX1 tyX1 tyX1_ok nmX1 hown hK hP hD hS 0 rfl rfl 3 (by decide) (hts _ kt_141) (fun _ h => h) rfl (by decide +kernel) (nz (D_holds_ret_b w_op a_ b_)).1 (nz (D_holds_ret_b w_op a_ b_)).2 (Nat.le_of_ble_eq_true rfl) dX1_branch_10 (fun H locs hP hD hS => ?_)
  have hP : va_P D vwCl [(q_de, .inr (1, [.int de_next, .int de_value, .int de_address, .int (D_holds_ret w_op a_ b_), .int de_ending, .int de_trap])), (q_w, .inr (8, [.int w_pc, .int w_op, .int w_d, .int w_a, .int w_b, .int w_i]))] H := hP
  have hD : va_D A [(q_de, .inr (1, [.int de_next, .int de_value, .int de_address, .int (D_holds_ret w_op a_ b_), .int de_ending, .int de_trap])), (q_w, .inr (8, [.int w_pc, .int w_op, .int w_d, .int w_a, .int w_b, .int w_i]))] := hD
  refine lv_aload_n hx hb dX1_branch_13 rfl (lv_at hl 0 rfl) ?_
  refine va_get (D := D) (ci := 1) (v := .int (D_holds_ret w_op a_ b_)) (C := RX1) (T := TX1) (N := 6) hx hb hts inX1 hown hK hP 0 rfl rfl 3 (by decide) (hts _ kt_141) (fun _ h => h) rfl dX1_branch_14 ?_
  refine lv_if_eq (tgt := 33) hx hb dX1_branch_17 rfl (fun c17 => ?_) (fun c17 => ?_)
  · have e0 : (D_branch_x_de_next a_ b_ de_next w_pc w_op w_i) = de_next := (if_pos c17)
    exact e_v hx hb hr hlk hK (by rw [e0]; exact hP) (by rw [e0]; exact hD) hS dX1_branch_33
  · refine lv_aload_n hx hb dX1_branch_20 rfl (lv_at hl 0 rfl) ?_
    refine lv_aload_n hx hb dX1_branch_21 rfl (lv_at hl 1 rfl) ?_
    refine va_get (D := D) (ci := 8) (v := .int w_pc) (C := RX8) (T := TX8) (N := 6) hx hb hts inX8 hown hK hP 1 rfl rfl 0 (by decide) (hts _ kt_95) (fun _ h => h) rfl dX1_branch_22 ?_
    refine W.eq (g2 := F0 m 25 ls [.int w_pc, .ref q_de]) rfl ?_
    refine lv_aload_n hx hb dX1_branch_25 rfl (lv_at hl 1 rfl) ?_
    refine va_get (D := D) (ci := 8) (v := .int w_i) (C := RX8) (T := TX8) (N := 6) hx hb hts inX8 hown hK hP 1 rfl rfl 5 (by decide) (hts _ kt_113) (fun _ h => h) rfl dX1_branch_26 ?_
    refine lv_iadd hx hb dX1_branch_29 ?_
    refine va_put (D := D) (ci := 1) (v := .int (w_pc + w_i)) (ty := .int) (C := RX1) (T := TX1) (N := 6) hx hb hts inX1 tyX1 tyX1_ok nmX1 hown hK hP hD hS 0 rfl rfl 0 (by decide) (hts _ kt_135) (fun _ h => h) rfl (by decide +kernel) rfl rfl (Nat.le_of_ble_eq_true rfl) dX1_branch_30 (fun H locs hP hD hS => ?_)
    have hP : va_P D vwCl [(q_de, .inr (1, [.int (w_pc + w_i), .int de_value, .int de_address, .int (D_holds_ret w_op a_ b_), .int de_ending, .int de_trap])), (q_w, .inr (8, [.int w_pc, .int w_op, .int w_d, .int w_a, .int w_b, .int w_i]))] H := hP
    have hD : va_D A [(q_de, .inr (1, [.int (w_pc + w_i), .int de_value, .int de_address, .int (D_holds_ret w_op a_ b_), .int de_ending, .int de_trap])), (q_w, .inr (8, [.int w_pc, .int w_op, .int w_d, .int w_a, .int w_b, .int w_i]))] := hD
    have e0 : (D_branch_x_de_next a_ b_ de_next w_pc w_op w_i) = (w_pc + w_i) := (if_neg c17)
    exact e_v hx hb hr hlk hK (by rw [e0]; exact hP) (by rw [e0]; exact hD) hS dX1_branch_33
def D_workOther_72_value (w_i : Int32) : Int32 := (w_i <<< ((18 : Int32) &&& 31))
def D_workOther_x_de_next (a_ : Int32) (de_next : Int32) (w_pc : Int32) (w_op : Int32) (w_i : Int32) : Int32 := (if w_op = 26 then de_next else (if w_op = 44 then (w_pc + w_i) else (if w_op = 45 then (a_ + w_i) else de_next)))
def D_workOther_x_de_value (a_ : Int32) (de_value : Int32) (w_pc : Int32) (w_op : Int32) (w_i : Int32) : Int32 := (if w_op = 26 then (D_workOther_72_value w_i) else (if w_op = 44 then (w_pc + 1) else (if w_op = 45 then (w_pc + 1) else (if w_op = 48 then de_value else (if w_op = 49 then a_ else de_value)))))
def D_workOther_x_de_ending (de_ending : Int32) (w_op : Int32) : Int32 := (if w_op = 26 then de_ending else (if w_op = 44 then de_ending else (if w_op = 45 then de_ending else (if w_op = 48 then 1 else (if w_op = 49 then de_ending else 2)))))
def D_workOther_x_de_trap (de_trap : Int32) (w_op : Int32) : Int32 := (if w_op = 26 then de_trap else (if w_op = 44 then de_trap else (if w_op = 45 then de_trap else (if w_op = 48 then 0 else (if w_op = 49 then de_trap else (if w_op = 64 then 3 else 1))))))
set_option maxHeartbeats 4000000 in
set_option maxRecDepth 100000 in
theorem c_D_workOther (l : Launch) (D : va_G) (cI cJ : ClassId) (q_de : Nat) (q_w : Nat) (a_ : Int32) (de_next : Int32) (de_value : Int32) (de_address : Int32) (de_taken : Int32) (de_ending : Int32) (de_trap : Int32) (w_pc : Int32) (w_op : Int32) (w_d : Int32) (w_a : Int32) (w_b : Int32) (w_i : Int32) (sz : Nat) : Met l yX1_workOther (.code yX1_workOther cX1_workOther 3 none :: gU) { frames := 1, cells := 0, slots := 0, locals := 22 } (va_Pc [.ref q_de, .ref q_w, .int a_] (mP D vwCl (tyS cI cJ) [(q_de, .inr (1, [.int de_next, .int de_value, .int de_address, .int de_taken, .int de_ending, .int de_trap])), (q_w, .inr (8, [.int w_pc, .int w_op, .int w_d, .int w_a, .int w_b, .int w_i]))] sz)) (qV D vwCl (tyS cI cJ) [(q_de, .inr (1, [.int (D_workOther_x_de_next a_ de_next w_pc w_op w_i), .int (D_workOther_x_de_value a_ de_value w_pc w_op w_i), .int de_address, .int de_taken, .int (D_workOther_x_de_ending de_ending w_op), .int (D_workOther_x_de_trap de_trap w_op)])), (q_w, .inr (8, [.int w_pc, .int w_op, .int w_d, .int w_a, .int w_b, .int w_i]))] (va_A [(q_de, .inr (1, [.int de_next, .int de_value, .int de_address, .int de_taken, .int de_ending, .int de_trap])), (q_w, .inr (8, [.int w_pc, .int w_op, .int w_d, .int w_a, .int w_b, .int w_i]))] sz)) 0 0 (va_A [(q_de, .inr (1, [.int de_next, .int de_value, .int de_address, .int de_taken, .int de_ending, .int de_trap])), (q_w, .inr (8, [.int w_pc, .int w_op, .int w_d, .int w_a, .int w_b, .int w_i]))] sz) := by
  refine m_go (y := yX1_workOther) (cc := cX1_workOther) (ml := 3) (rt := none) (av := [.ref q_de, .ref q_w, .int a_]) (cs := [(q_de, .inr (1, [.int de_next, .int de_value, .int de_address, .int de_taken, .int de_ending, .int de_trap])), (q_w, .inr (8, [.int w_pc, .int w_op, .int w_d, .int w_a, .int w_b, .int w_i]))]) (fun A => qV D vwCl (tyS cI cJ) [(q_de, .inr (1, [.int (D_workOther_x_de_next a_ de_next w_pc w_op w_i), .int (D_workOther_x_de_value a_ de_value w_pc w_op w_i), .int de_address, .int de_taken, .int (D_workOther_x_de_ending de_ending w_op), .int (D_workOther_x_de_trap de_trap w_op)])), (q_w, .inr (8, [.int w_pc, .int w_op, .int w_d, .int w_a, .int w_b, .int w_i]))] A) (by decide) (Nat.le_of_ble_eq_true rfl) ?_
  intro p e s m below meth c A ls hx hb hr hlk hml hts hown _ hA hP hK hD hS hl _
  have hl : lv_has ls 3 [(0, .ref q_de), (1, .ref q_w), (2, .int a_)] := hl
  refine lv_aload_n hx hb dX1_workOther_0 rfl (lv_at hl 1 rfl) ?_
  refine va_get (D := D) (ci := 8) (v := .int w_op) (C := RX8) (T := TX8) (N := 6) hx hb hts inX8 hown hK hP 1 rfl rfl 1 (by decide) (hts _ kt_100) (fun _ h => h) rfl dX1_workOther_1 ?_
  by_cases c4_0 : w_op = 26
  · refine lv_lookup (tgt := 64) (off := 60) hx hb dX1_workOther_4 (by decide) (by rw [c4_0]; decide) rfl ?_
    refine lv_aload_n hx hb dX1_workOther_64 rfl (lv_at hl 0 rfl) ?_
    refine lv_aload_n hx hb dX1_workOther_65 rfl (lv_at hl 1 rfl) ?_
    refine va_get (D := D) (ci := 8) (v := .int w_i) (C := RX8) (T := TX8) (N := 6) hx hb hts inX8 hown hK hP 1 rfl rfl 5 (by decide) (hts _ kt_113) (fun _ h => h) rfl dX1_workOther_66 ?_
    refine lv_bipush (v := 18) hx hb dX1_workOther_69 (by decide) ?_
    refine lv_ishl hx hb dX1_workOther_71 ?_
    refine W.eq (g2 := F0 m 72 ls [.int (D_workOther_72_value w_i), .ref q_de]) rfl ?_
    refine va_put (D := D) (ci := 1) (v := .int (D_workOther_72_value w_i)) (ty := .int) (C := RX1) (T := TX1) (N := 6) hx hb hts inX1 tyX1 tyX1_ok nmX1 hown hK hP hD hS 0 rfl rfl 1 (by decide) (hts _ kt_137) (fun _ h => h) rfl (by decide +kernel) rfl rfl (Nat.le_of_ble_eq_true rfl) dX1_workOther_72 (fun H locs hP hD hS => ?_)
    have hP : va_P D vwCl [(q_de, .inr (1, [.int de_next, .int (D_workOther_72_value w_i), .int de_address, .int de_taken, .int de_ending, .int de_trap])), (q_w, .inr (8, [.int w_pc, .int w_op, .int w_d, .int w_a, .int w_b, .int w_i]))] H := hP
    have hD : va_D A [(q_de, .inr (1, [.int de_next, .int (D_workOther_72_value w_i), .int de_address, .int de_taken, .int de_ending, .int de_trap])), (q_w, .inr (8, [.int w_pc, .int w_op, .int w_d, .int w_a, .int w_b, .int w_i]))] := hD
    refine lv_goto (tgt := 159) hx hb dX1_workOther_75 rfl ?_
    have e0 : (D_workOther_x_de_next a_ de_next w_pc w_op w_i) = de_next := (if_pos c4_0)
    have e1 : (D_workOther_x_de_value a_ de_value w_pc w_op w_i) = (D_workOther_72_value w_i) := (if_pos c4_0)
    have e2 : (D_workOther_x_de_ending de_ending w_op) = de_ending := (if_pos c4_0)
    have e3 : (D_workOther_x_de_trap de_trap w_op) = de_trap := (if_pos c4_0)
    exact e_v hx hb hr hlk hK (by rw [e0, e1, e2, e3]; exact hP) (by rw [e0, e1, e2, e3]; exact hD) hS dX1_workOther_159
  by_cases c4_1 : w_op = 44
  · refine lv_lookup (tgt := 78) (off := 74) hx hb dX1_workOther_4 (by decide) (by rw [c4_1]; decide) rfl ?_
    refine lv_aload_n hx hb dX1_workOther_78 rfl (lv_at hl 0 rfl) ?_
    refine lv_aload_n hx hb dX1_workOther_79 rfl (lv_at hl 1 rfl) ?_
    refine va_get (D := D) (ci := 8) (v := .int w_pc) (C := RX8) (T := TX8) (N := 6) hx hb hts inX8 hown hK hP 1 rfl rfl 0 (by decide) (hts _ kt_95) (fun _ h => h) rfl dX1_workOther_80 ?_
    refine lv_iconst (v := 1) hx hb dX1_workOther_83 (by decide) ?_
    refine W.eq (g2 := F0 m 84 ls [.int 1, .int w_pc, .ref q_de]) rfl ?_
    refine lv_iadd hx hb dX1_workOther_84 ?_
    refine va_put (D := D) (ci := 1) (v := .int (w_pc + 1)) (ty := .int) (C := RX1) (T := TX1) (N := 6) hx hb hts inX1 tyX1 tyX1_ok nmX1 hown hK hP hD hS 0 rfl rfl 1 (by decide) (hts _ kt_137) (fun _ h => h) rfl (by decide +kernel) rfl rfl (Nat.le_of_ble_eq_true rfl) dX1_workOther_85 (fun H locs hP hD hS => ?_)
    have hP : va_P D vwCl [(q_de, .inr (1, [.int de_next, .int (w_pc + 1), .int de_address, .int de_taken, .int de_ending, .int de_trap])), (q_w, .inr (8, [.int w_pc, .int w_op, .int w_d, .int w_a, .int w_b, .int w_i]))] H := hP
    have hD : va_D A [(q_de, .inr (1, [.int de_next, .int (w_pc + 1), .int de_address, .int de_taken, .int de_ending, .int de_trap])), (q_w, .inr (8, [.int w_pc, .int w_op, .int w_d, .int w_a, .int w_b, .int w_i]))] := hD
    refine lv_aload_n hx hb dX1_workOther_88 rfl (lv_at hl 0 rfl) ?_
    refine lv_aload_n hx hb dX1_workOther_89 rfl (lv_at hl 1 rfl) ?_
    refine va_get (D := D) (ci := 8) (v := .int w_pc) (C := RX8) (T := TX8) (N := 6) hx hb hts inX8 hown hK hP 1 rfl rfl 0 (by decide) (hts _ kt_95) (fun _ h => h) rfl dX1_workOther_90 ?_
    refine lv_aload_n hx hb dX1_workOther_93 rfl (lv_at hl 1 rfl) ?_
    refine va_get (D := D) (ci := 8) (v := .int w_i) (C := RX8) (T := TX8) (N := 6) hx hb hts inX8 hown hK hP 1 rfl rfl 5 (by decide) (hts _ kt_113) (fun _ h => h) rfl dX1_workOther_94 ?_
    refine lv_iadd hx hb dX1_workOther_97 ?_
    refine va_put (D := D) (ci := 1) (v := .int (w_pc + w_i)) (ty := .int) (C := RX1) (T := TX1) (N := 6) hx hb hts inX1 tyX1 tyX1_ok nmX1 hown hK hP hD hS 0 rfl rfl 0 (by decide) (hts _ kt_135) (fun _ h => h) rfl (by decide +kernel) rfl rfl (Nat.le_of_ble_eq_true rfl) dX1_workOther_98 (fun H locs hP hD hS => ?_)
    have hP : va_P D vwCl [(q_de, .inr (1, [.int (w_pc + w_i), .int (w_pc + 1), .int de_address, .int de_taken, .int de_ending, .int de_trap])), (q_w, .inr (8, [.int w_pc, .int w_op, .int w_d, .int w_a, .int w_b, .int w_i]))] H := hP
    have hD : va_D A [(q_de, .inr (1, [.int (w_pc + w_i), .int (w_pc + 1), .int de_address, .int de_taken, .int de_ending, .int de_trap])), (q_w, .inr (8, [.int w_pc, .int w_op, .int w_d, .int w_a, .int w_b, .int w_i]))] := hD
    refine lv_goto (tgt := 159) hx hb dX1_workOther_101 rfl ?_
    have e0 : (D_workOther_x_de_next a_ de_next w_pc w_op w_i) = (w_pc + w_i) := ((if_neg c4_0).trans (if_pos c4_1))
    have e1 : (D_workOther_x_de_value a_ de_value w_pc w_op w_i) = (w_pc + 1) := ((if_neg c4_0).trans (if_pos c4_1))
    have e2 : (D_workOther_x_de_ending de_ending w_op) = de_ending := ((if_neg c4_0).trans (if_pos c4_1))
    have e3 : (D_workOther_x_de_trap de_trap w_op) = de_trap := ((if_neg c4_0).trans (if_pos c4_1))
    exact e_v hx hb hr hlk hK (by rw [e0, e1, e2, e3]; exact hP) (by rw [e0, e1, e2, e3]; exact hD) hS dX1_workOther_159
  by_cases c4_2 : w_op = 45
  · refine lv_lookup (tgt := 104) (off := 100) hx hb dX1_workOther_4 (by decide) (by rw [c4_2]; decide) rfl ?_
    refine lv_aload_n hx hb dX1_workOther_104 rfl (lv_at hl 0 rfl) ?_
    refine lv_aload_n hx hb dX1_workOther_105 rfl (lv_at hl 1 rfl) ?_
    refine va_get (D := D) (ci := 8) (v := .int w_pc) (C := RX8) (T := TX8) (N := 6) hx hb hts inX8 hown hK hP 1 rfl rfl 0 (by decide) (hts _ kt_95) (fun _ h => h) rfl dX1_workOther_106 ?_
    refine W.eq (g2 := F0 m 109 ls [.int w_pc, .ref q_de]) rfl ?_
    refine lv_iconst (v := 1) hx hb dX1_workOther_109 (by decide) ?_
    refine lv_iadd hx hb dX1_workOther_110 ?_
    refine va_put (D := D) (ci := 1) (v := .int (w_pc + 1)) (ty := .int) (C := RX1) (T := TX1) (N := 6) hx hb hts inX1 tyX1 tyX1_ok nmX1 hown hK hP hD hS 0 rfl rfl 1 (by decide) (hts _ kt_137) (fun _ h => h) rfl (by decide +kernel) rfl rfl (Nat.le_of_ble_eq_true rfl) dX1_workOther_111 (fun H locs hP hD hS => ?_)
    have hP : va_P D vwCl [(q_de, .inr (1, [.int de_next, .int (w_pc + 1), .int de_address, .int de_taken, .int de_ending, .int de_trap])), (q_w, .inr (8, [.int w_pc, .int w_op, .int w_d, .int w_a, .int w_b, .int w_i]))] H := hP
    have hD : va_D A [(q_de, .inr (1, [.int de_next, .int (w_pc + 1), .int de_address, .int de_taken, .int de_ending, .int de_trap])), (q_w, .inr (8, [.int w_pc, .int w_op, .int w_d, .int w_a, .int w_b, .int w_i]))] := hD
    refine lv_aload_n hx hb dX1_workOther_114 rfl (lv_at hl 0 rfl) ?_
    refine lv_iload_n hx hb dX1_workOther_115 rfl (lv_at hl 2 rfl) ?_
    refine lv_aload_n hx hb dX1_workOther_116 rfl (lv_at hl 1 rfl) ?_
    refine va_get (D := D) (ci := 8) (v := .int w_i) (C := RX8) (T := TX8) (N := 6) hx hb hts inX8 hown hK hP 1 rfl rfl 5 (by decide) (hts _ kt_113) (fun _ h => h) rfl dX1_workOther_117 ?_
    refine lv_iadd hx hb dX1_workOther_120 ?_
    refine va_put (D := D) (ci := 1) (v := .int (a_ + w_i)) (ty := .int) (C := RX1) (T := TX1) (N := 6) hx hb hts inX1 tyX1 tyX1_ok nmX1 hown hK hP hD hS 0 rfl rfl 0 (by decide) (hts _ kt_135) (fun _ h => h) rfl (by decide +kernel) rfl rfl (Nat.le_of_ble_eq_true rfl) dX1_workOther_121 (fun H locs hP hD hS => ?_)
    have hP : va_P D vwCl [(q_de, .inr (1, [.int (a_ + w_i), .int (w_pc + 1), .int de_address, .int de_taken, .int de_ending, .int de_trap])), (q_w, .inr (8, [.int w_pc, .int w_op, .int w_d, .int w_a, .int w_b, .int w_i]))] H := hP
    have hD : va_D A [(q_de, .inr (1, [.int (a_ + w_i), .int (w_pc + 1), .int de_address, .int de_taken, .int de_ending, .int de_trap])), (q_w, .inr (8, [.int w_pc, .int w_op, .int w_d, .int w_a, .int w_b, .int w_i]))] := hD
    refine lv_goto (tgt := 159) hx hb dX1_workOther_124 rfl ?_
    have e0 : (D_workOther_x_de_next a_ de_next w_pc w_op w_i) = (a_ + w_i) := ((if_neg c4_0).trans ((if_neg c4_1).trans (if_pos c4_2)))
    have e1 : (D_workOther_x_de_value a_ de_value w_pc w_op w_i) = (w_pc + 1) := ((if_neg c4_0).trans ((if_neg c4_1).trans (if_pos c4_2)))
    have e2 : (D_workOther_x_de_ending de_ending w_op) = de_ending := ((if_neg c4_0).trans ((if_neg c4_1).trans (if_pos c4_2)))
    have e3 : (D_workOther_x_de_trap de_trap w_op) = de_trap := ((if_neg c4_0).trans ((if_neg c4_1).trans (if_pos c4_2)))
    exact e_v hx hb hr hlk hK (by rw [e0, e1, e2, e3]; exact hP) (by rw [e0, e1, e2, e3]; exact hD) hS dX1_workOther_159
  by_cases c4_3 : w_op = 48
  · refine lv_lookup (tgt := 127) (off := 123) hx hb dX1_workOther_4 (by decide) (by rw [c4_3]; decide) rfl ?_
    refine lv_aload_n hx hb dX1_workOther_127 rfl (lv_at hl 0 rfl) ?_
    refine lv_iconst (v := 1) hx hb dX1_workOther_128 (by decide) ?_
    refine lv_iconst (v := 0) hx hb dX1_workOther_129 (by decide) ?_
    refine W.eq (g2 := F0 m 130 ls [.int 0, .int 1, .ref q_de]) rfl ?_
    refine c_v (wc := [(q_de, .inr (1, [.int de_next, .int de_value, .int de_address, .int de_taken, .int de_ending, .int de_trap]))]) (wr := [(q_w, .inr (8, [.int w_pc, .int w_op, .int w_d, .int w_a, .int w_b, .int w_i]))]) (wc2 := [(q_de, .inr (1, [.int de_next, .int de_value, .int de_address, .int de_taken, .int 1, .int 0]))]) (ws2 := [(q_de, .inr (1, [.int de_next, .int de_value, .int de_address, .int de_taken, .int 1, .int 0])), (q_w, .inr (8, [.int w_pc, .int w_op, .int w_d, .int w_a, .int w_b, .int w_i]))]) (r_V (rm := { frames := 0, cells := 0, slots := 0, locals := 0 }) hx hb hml hown hts (c_D_stop l D cI cJ q_de 1 0 de_next de_value de_address de_taken de_ending de_trap _) 2 kt_405 kt_402 kt_404 kp_3 kt_6 ⟨by decide +kernel, by decide +kernel, by decide +kernel⟩ ⟨by decide, by decide⟩ hK hP hD [0] rfl (by decide) 0 rfl rfl hl.1 rfl rfl (Nat.le_of_ble_eq_true rfl) dX1_workOther_130 ⟨by decide, by decide⟩) hP hD hS hA [0] [1] [1, 0] rfl rfl (by decide) (by decide) rfl (by decide) (fun H locs hP hD hS => ?_)
    refine lv_goto (tgt := 159) hx hb dX1_workOther_133 rfl ?_
    have e0 : (D_workOther_x_de_next a_ de_next w_pc w_op w_i) = de_next := ((if_neg c4_0).trans ((if_neg c4_1).trans (if_neg c4_2)))
    have e1 : (D_workOther_x_de_value a_ de_value w_pc w_op w_i) = de_value := ((if_neg c4_0).trans ((if_neg c4_1).trans ((if_neg c4_2).trans (if_pos c4_3))))
    have e2 : (D_workOther_x_de_ending de_ending w_op) = 1 := ((if_neg c4_0).trans ((if_neg c4_1).trans ((if_neg c4_2).trans (if_pos c4_3))))
    have e3 : (D_workOther_x_de_trap de_trap w_op) = 0 := ((if_neg c4_0).trans ((if_neg c4_1).trans ((if_neg c4_2).trans (if_pos c4_3))))
    exact e_v hx hb hr hlk hK (by rw [e0, e1, e2, e3]; exact hP) (by rw [e0, e1, e2, e3]; exact hD) hS dX1_workOther_159
  by_cases c4_4 : w_op = 49
  · refine lv_lookup (tgt := 136) (off := 132) hx hb dX1_workOther_4 (by decide) (by rw [c4_4]; decide) rfl ?_
    refine lv_aload_n hx hb dX1_workOther_136 rfl (lv_at hl 0 rfl) ?_
    refine lv_iload_n hx hb dX1_workOther_137 rfl (lv_at hl 2 rfl) ?_
    refine va_put (D := D) (ci := 1) (v := .int a_) (ty := .int) (C := RX1) (T := TX1) (N := 6) hx hb hts inX1 tyX1 tyX1_ok nmX1 hown hK hP hD hS 0 rfl rfl 1 (by decide) (hts _ kt_137) (fun _ h => h) rfl (by decide +kernel) rfl rfl (Nat.le_of_ble_eq_true rfl) dX1_workOther_138 (fun H locs hP hD hS => ?_)
    have hP : va_P D vwCl [(q_de, .inr (1, [.int de_next, .int a_, .int de_address, .int de_taken, .int de_ending, .int de_trap])), (q_w, .inr (8, [.int w_pc, .int w_op, .int w_d, .int w_a, .int w_b, .int w_i]))] H := hP
    have hD : va_D A [(q_de, .inr (1, [.int de_next, .int a_, .int de_address, .int de_taken, .int de_ending, .int de_trap])), (q_w, .inr (8, [.int w_pc, .int w_op, .int w_d, .int w_a, .int w_b, .int w_i]))] := hD
    refine lv_goto (tgt := 159) hx hb dX1_workOther_141 rfl ?_
    have e0 : (D_workOther_x_de_next a_ de_next w_pc w_op w_i) = de_next := ((if_neg c4_0).trans ((if_neg c4_1).trans (if_neg c4_2)))
    have e1 : (D_workOther_x_de_value a_ de_value w_pc w_op w_i) = a_ := ((if_neg c4_0).trans ((if_neg c4_1).trans ((if_neg c4_2).trans ((if_neg c4_3).trans (if_pos c4_4)))))
    have e2 : (D_workOther_x_de_ending de_ending w_op) = de_ending := ((if_neg c4_0).trans ((if_neg c4_1).trans ((if_neg c4_2).trans ((if_neg c4_3).trans (if_pos c4_4)))))
    have e3 : (D_workOther_x_de_trap de_trap w_op) = de_trap := ((if_neg c4_0).trans ((if_neg c4_1).trans ((if_neg c4_2).trans ((if_neg c4_3).trans (if_pos c4_4)))))
    exact e_v hx hb hr hlk hK (by rw [e0, e1, e2, e3]; exact hP) (by rw [e0, e1, e2, e3]; exact hD) hS dX1_workOther_159
  by_cases c4_5 : w_op = 64
  · refine lv_lookup (tgt := 144) (off := 140) hx hb dX1_workOther_4 (by decide) (by rw [c4_5]; decide) rfl ?_
    refine lv_aload_n hx hb dX1_workOther_144 rfl (lv_at hl 0 rfl) ?_
    refine lv_iconst (v := 2) hx hb dX1_workOther_145 (by decide) ?_
    refine lv_iconst (v := 3) hx hb dX1_workOther_146 (by decide) ?_
    refine c_v (wc := [(q_de, .inr (1, [.int de_next, .int de_value, .int de_address, .int de_taken, .int de_ending, .int de_trap]))]) (wr := [(q_w, .inr (8, [.int w_pc, .int w_op, .int w_d, .int w_a, .int w_b, .int w_i]))]) (wc2 := [(q_de, .inr (1, [.int de_next, .int de_value, .int de_address, .int de_taken, .int 2, .int 3]))]) (ws2 := [(q_de, .inr (1, [.int de_next, .int de_value, .int de_address, .int de_taken, .int 2, .int 3])), (q_w, .inr (8, [.int w_pc, .int w_op, .int w_d, .int w_a, .int w_b, .int w_i]))]) (r_V (rm := { frames := 0, cells := 0, slots := 0, locals := 0 }) hx hb hml hown hts (c_D_stop l D cI cJ q_de 2 3 de_next de_value de_address de_taken de_ending de_trap _) 2 kt_405 kt_402 kt_404 kp_3 kt_6 ⟨by decide +kernel, by decide +kernel, by decide +kernel⟩ ⟨by decide, by decide⟩ hK hP hD [0] rfl (by decide) 0 rfl rfl hl.1 rfl rfl (Nat.le_of_ble_eq_true rfl) dX1_workOther_147 ⟨by decide, by decide⟩) hP hD hS hA [0] [1] [1, 0] rfl rfl (by decide) (by decide) rfl (by decide) (fun H locs hP hD hS => ?_)
    refine lv_goto (tgt := 159) hx hb dX1_workOther_150 rfl ?_
    have e0 : (D_workOther_x_de_next a_ de_next w_pc w_op w_i) = de_next := ((if_neg c4_0).trans ((if_neg c4_1).trans (if_neg c4_2)))
    have e1 : (D_workOther_x_de_value a_ de_value w_pc w_op w_i) = de_value := ((if_neg c4_0).trans ((if_neg c4_1).trans ((if_neg c4_2).trans ((if_neg c4_3).trans (if_neg c4_4)))))
    have e2 : (D_workOther_x_de_ending de_ending w_op) = 2 := ((if_neg c4_0).trans ((if_neg c4_1).trans ((if_neg c4_2).trans ((if_neg c4_3).trans (if_neg c4_4)))))
    have e3 : (D_workOther_x_de_trap de_trap w_op) = 3 := ((if_neg c4_0).trans ((if_neg c4_1).trans ((if_neg c4_2).trans ((if_neg c4_3).trans ((if_neg c4_4).trans (if_pos c4_5))))))
    exact e_v hx hb hr hlk hK (by rw [e0, e1, e2, e3]; exact hP) (by rw [e0, e1, e2, e3]; exact hD) hS dX1_workOther_159
  refine lv_lookup (tgt := 153) (off := 149) hx hb dX1_workOther_4 (by decide) (by simp only []; rw [lv_osw c4_0 (by decide), lv_osw c4_1 (by decide), lv_osw c4_2 (by decide), lv_osw c4_3 (by decide), lv_osw c4_4 (by decide), lv_osw c4_5 (by decide)]; rfl) rfl ?_
  refine lv_aload_n hx hb dX1_workOther_153 rfl (lv_at hl 0 rfl) ?_
  refine lv_iconst (v := 2) hx hb dX1_workOther_154 (by decide) ?_
  refine lv_iconst (v := 1) hx hb dX1_workOther_155 (by decide) ?_
  refine c_v (wc := [(q_de, .inr (1, [.int de_next, .int de_value, .int de_address, .int de_taken, .int de_ending, .int de_trap]))]) (wr := [(q_w, .inr (8, [.int w_pc, .int w_op, .int w_d, .int w_a, .int w_b, .int w_i]))]) (wc2 := [(q_de, .inr (1, [.int de_next, .int de_value, .int de_address, .int de_taken, .int 2, .int 1]))]) (ws2 := [(q_de, .inr (1, [.int de_next, .int de_value, .int de_address, .int de_taken, .int 2, .int 1])), (q_w, .inr (8, [.int w_pc, .int w_op, .int w_d, .int w_a, .int w_b, .int w_i]))]) (r_V (rm := { frames := 0, cells := 0, slots := 0, locals := 0 }) hx hb hml hown hts (c_D_stop l D cI cJ q_de 2 1 de_next de_value de_address de_taken de_ending de_trap _) 2 kt_405 kt_402 kt_404 kp_3 kt_6 ⟨by decide +kernel, by decide +kernel, by decide +kernel⟩ ⟨by decide, by decide⟩ hK hP hD [0] rfl (by decide) 0 rfl rfl hl.1 rfl rfl (Nat.le_of_ble_eq_true rfl) dX1_workOther_156 ⟨by decide, by decide⟩) hP hD hS hA [0] [1] [1, 0] rfl rfl (by decide) (by decide) rfl (by decide) (fun H locs hP hD hS => ?_)
  refine W.eq (g2 := F0 m 159 ls []) rfl ?_
  have e0 : (D_workOther_x_de_next a_ de_next w_pc w_op w_i) = de_next := ((if_neg c4_0).trans ((if_neg c4_1).trans (if_neg c4_2)))
  have e1 : (D_workOther_x_de_value a_ de_value w_pc w_op w_i) = de_value := ((if_neg c4_0).trans ((if_neg c4_1).trans ((if_neg c4_2).trans ((if_neg c4_3).trans (if_neg c4_4)))))
  have e2 : (D_workOther_x_de_ending de_ending w_op) = 2 := ((if_neg c4_0).trans ((if_neg c4_1).trans ((if_neg c4_2).trans ((if_neg c4_3).trans (if_neg c4_4)))))
  have e3 : (D_workOther_x_de_trap de_trap w_op) = 1 := ((if_neg c4_0).trans ((if_neg c4_1).trans ((if_neg c4_2).trans ((if_neg c4_3).trans ((if_neg c4_4).trans (if_neg c4_5))))))
  exact e_v hx hb hr hlk hK (by rw [e0, e1, e2, e3]; exact hP) (by rw [e0, e1, e2, e3]; exact hD) hS dX1_workOther_159
def D_work_6_l4 (w_a : Int32) (f_rg : Nat → Int32) : Int32 := (f_rg (Int32.toNatClampNeg w_a))
def D_work_14_l5 (w_b : Int32) (f_rg : Nat → Int32) : Int32 := (f_rg (Int32.toNatClampNeg w_b))
def D_work_100_value (w_op : Int32) (w_a : Int32) (w_i : Int32) (f_rg : Nat → Int32) : Int32 := (D_compute_ret (w_op - 16) (D_work_6_l4 w_a f_rg) w_i)
def D_work_70_value (w_op : Int32) (w_a : Int32) (w_b : Int32) (f_rg : Nat → Int32) : Int32 := (D_compute_ret w_op (D_work_6_l4 w_a f_rg) (D_work_14_l5 w_b f_rg))
def D_work_x_de_next (w_pc : Int32) (w_op : Int32) (w_a : Int32) (w_b : Int32) (w_i : Int32) (f_rg : Nat → Int32) : Int32 := (if (W_isOfTwo_14_s0 w_op) = 0 then (if (W_isWithNumber_23_s0 w_op) = 0 then (if (W_isAccess_23_s0 w_op) = 0 then (if (W_isBranch_23_s0 w_op) = 0 then (D_workOther_x_de_next (D_work_6_l4 w_a f_rg) (w_pc + 1) w_pc w_op w_i) else (D_branch_x_de_next (D_work_6_l4 w_a f_rg) (D_work_14_l5 w_b f_rg) (w_pc + 1) w_pc w_op w_i)) else (w_pc + 1)) else (w_pc + 1)) else (w_pc + 1))
def D_work_x_de_value (w_pc : Int32) (w_op : Int32) (w_a : Int32) (w_b : Int32) (w_i : Int32) (f_rg : Nat → Int32) (f_sto : Nat → Int32) : Int32 := (if (W_isOfTwo_14_s0 w_op) = 0 then (if (W_isWithNumber_23_s0 w_op) = 0 then (if (W_isAccess_23_s0 w_op) = 0 then (if (W_isBranch_23_s0 w_op) = 0 then (D_workOther_x_de_value (D_work_6_l4 w_a f_rg) 0 w_pc w_op w_i) else 0) else (D_reach_x_de_value (D_work_6_l4 w_a f_rg) (D_work_14_l5 w_b f_rg) 0 w_op w_i f_sto)) else (D_work_100_value w_op w_a w_i f_rg)) else (D_work_70_value w_op w_a w_b f_rg))
def D_work_x_de_address (w_op : Int32) (w_a : Int32) (w_i : Int32) (f_rg : Nat → Int32) : Int32 := (if (W_isOfTwo_14_s0 w_op) = 0 then (if (W_isWithNumber_23_s0 w_op) = 0 then (if (W_isAccess_23_s0 w_op) = 0 then 0 else (D_reach_x_de_address (D_work_6_l4 w_a f_rg) 0 w_i)) else 0) else 0)
def D_work_x_de_taken (w_op : Int32) (w_a : Int32) (w_b : Int32) (f_rg : Nat → Int32) : Int32 := (if (W_isOfTwo_14_s0 w_op) = 0 then (if (W_isWithNumber_23_s0 w_op) = 0 then (if (W_isAccess_23_s0 w_op) = 0 then (if (W_isBranch_23_s0 w_op) = 0 then 0 else (D_holds_ret w_op (D_work_6_l4 w_a f_rg) (D_work_14_l5 w_b f_rg))) else 0) else 0) else 0)
theorem D_work_x_de_taken_b (w_op : Int32) (w_a : Int32) (w_b : Int32) (f_rg : Nat → Int32) : D_work_x_de_taken w_op w_a w_b f_rg = 0 ∨ D_work_x_de_taken w_op w_a w_b f_rg = 1 := by
  unfold D_work_x_de_taken
  repeat' split
  all_goals first | exact Or.inl rfl | exact Or.inr rfl | apply D_holds_ret_b | apply W_isAccess_23_s0_b | apply W_isBranch_23_s0_b | apply W_isOfTwo_14_s0_b | apply W_isWithNumber_23_s0_b
def D_work_x_de_ending (w_op : Int32) (w_a : Int32) (w_i : Int32) (f_rg : Nat → Int32) : Int32 := (if (W_isOfTwo_14_s0 w_op) = 0 then (if (W_isWithNumber_23_s0 w_op) = 0 then (if (W_isAccess_23_s0 w_op) = 0 then (if (W_isBranch_23_s0 w_op) = 0 then (D_workOther_x_de_ending 0 w_op) else 0) else (D_reach_x_de_ending (D_work_6_l4 w_a f_rg) 0 w_i)) else 0) else 0)
def D_work_x_de_trap (w_op : Int32) (w_a : Int32) (w_i : Int32) (f_rg : Nat → Int32) : Int32 := (if (W_isOfTwo_14_s0 w_op) = 0 then (if (W_isWithNumber_23_s0 w_op) = 0 then (if (W_isAccess_23_s0 w_op) = 0 then (if (W_isBranch_23_s0 w_op) = 0 then (D_workOther_x_de_trap 0 w_op) else 0) else (D_reach_x_de_trap (D_work_6_l4 w_a f_rg) 0 w_i)) else 0) else 0)
set_option maxHeartbeats 4000000 in
set_option maxRecDepth 100000 in
theorem c_D_work (l : Launch) (D : va_G) (cI cJ : ClassId) (q_de : Nat) (q_w : Nat) (q_rg : Nat) (q_sto : Nat) (de_next : Int32) (de_value : Int32) (de_address : Int32) (de_taken : Int32) (de_ending : Int32) (de_trap : Int32) (w_pc : Int32) (w_op : Int32) (w_d : Int32) (w_a : Int32) (w_b : Int32) (w_i : Int32) (f_rg : Nat → Int32) (f_sto : Nat → Int32) (ha : vp_in w_a 16) (hb_ : vp_in w_b 16) (sz : Nat) : Met l yX1_work (.code yX1_work cX1_work 6 none :: gU) { frames := 2, cells := 0, slots := 0, locals := 47 } (va_Pc [.ref q_de, .ref q_w, .ref q_rg, .ref q_sto] (mP D vwCl (tyS cI cJ) [(q_de, .inr (1, [.int de_next, .int de_value, .int de_address, .int de_taken, .int de_ending, .int de_trap])), (q_w, .inr (8, [.int w_pc, .int w_op, .int w_d, .int w_a, .int w_b, .int w_i])), (q_rg, .inl (cI, 16, .inl f_rg)), (q_sto, .inl (cI, 1024, .inl f_sto))] sz)) (qV D vwCl (tyS cI cJ) [(q_de, .inr (1, [.int (D_work_x_de_next w_pc w_op w_a w_b w_i f_rg), .int (D_work_x_de_value w_pc w_op w_a w_b w_i f_rg f_sto), .int (D_work_x_de_address w_op w_a w_i f_rg), .int (D_work_x_de_taken w_op w_a w_b f_rg), .int (D_work_x_de_ending w_op w_a w_i f_rg), .int (D_work_x_de_trap w_op w_a w_i f_rg)])), (q_w, .inr (8, [.int w_pc, .int w_op, .int w_d, .int w_a, .int w_b, .int w_i])), (q_rg, .inl (cI, 16, .inl f_rg)), (q_sto, .inl (cI, 1024, .inl f_sto))] (va_A [(q_de, .inr (1, [.int de_next, .int de_value, .int de_address, .int de_taken, .int de_ending, .int de_trap])), (q_w, .inr (8, [.int w_pc, .int w_op, .int w_d, .int w_a, .int w_b, .int w_i])), (q_rg, .inl (cI, 16, .inl f_rg)), (q_sto, .inl (cI, 1024, .inl f_sto))] sz)) 0 0 (va_A [(q_de, .inr (1, [.int de_next, .int de_value, .int de_address, .int de_taken, .int de_ending, .int de_trap])), (q_w, .inr (8, [.int w_pc, .int w_op, .int w_d, .int w_a, .int w_b, .int w_i])), (q_rg, .inl (cI, 16, .inl f_rg)), (q_sto, .inl (cI, 1024, .inl f_sto))] sz) := by
  refine m_go (y := yX1_work) (cc := cX1_work) (ml := 6) (rt := none) (av := [.ref q_de, .ref q_w, .ref q_rg, .ref q_sto]) (cs := [(q_de, .inr (1, [.int de_next, .int de_value, .int de_address, .int de_taken, .int de_ending, .int de_trap])), (q_w, .inr (8, [.int w_pc, .int w_op, .int w_d, .int w_a, .int w_b, .int w_i])), (q_rg, .inl (cI, 16, .inl f_rg)), (q_sto, .inl (cI, 1024, .inl f_sto))]) (fun A => qV D vwCl (tyS cI cJ) [(q_de, .inr (1, [.int (D_work_x_de_next w_pc w_op w_a w_b w_i f_rg), .int (D_work_x_de_value w_pc w_op w_a w_b w_i f_rg f_sto), .int (D_work_x_de_address w_op w_a w_i f_rg), .int (D_work_x_de_taken w_op w_a w_b f_rg), .int (D_work_x_de_ending w_op w_a w_i f_rg), .int (D_work_x_de_trap w_op w_a w_i f_rg)])), (q_w, .inr (8, [.int w_pc, .int w_op, .int w_d, .int w_a, .int w_b, .int w_i])), (q_rg, .inl (cI, 16, .inl f_rg)), (q_sto, .inl (cI, 1024, .inl f_sto))] A) (by decide) (Nat.le_of_ble_eq_true rfl) ?_
  intro p e s m below meth c A ls hx hb hr hlk hml hts hown _ hA hP hK hD hS hl _
  have hl : lv_has ls 6 [(0, .ref q_de), (1, .ref q_w), (2, .ref q_rg), (3, .ref q_sto)] := hl
  refine lv_aload_n hx hb dX1_work_0 rfl (lv_at hl 2 rfl) ?_
  refine lv_aload_n hx hb dX1_work_1 rfl (lv_at hl 1 rfl) ?_
  refine va_get (D := D) (ci := 8) (v := .int w_a) (C := RX8) (T := TX8) (N := 6) hx hb hts inX8 hown hK hP 1 rfl rfl 3 (by decide) (hts _ kt_107) (fun _ h => h) rfl dX1_work_2 ?_
  refine va_iald hx hb hK hP 2 0 rfl rfl ha dX1_work_5 ?_
  refine W.eq (g2 := F0 m 6 ls [.int (D_work_6_l4 w_a f_rg)]) rfl ?_
  refine lv_istore hx hb dX1_work_6 hl (by decide) rfl (fun ls hl => ?_)
  have hl : lv_has ls 6 [(4, .int (D_work_6_l4 w_a f_rg)), (0, .ref q_de), (1, .ref q_w), (2, .ref q_rg), (3, .ref q_sto)] := hl
  refine lv_aload_n hx hb dX1_work_8 rfl (lv_at hl 3 rfl) ?_
  refine lv_aload_n hx hb dX1_work_9 rfl (lv_at hl 2 rfl) ?_
  refine va_get (D := D) (ci := 8) (v := .int w_b) (C := RX8) (T := TX8) (N := 6) hx hb hts inX8 hown hK hP 1 rfl rfl 4 (by decide) (hts _ kt_110) (fun _ h => h) rfl dX1_work_10 ?_
  refine va_iald hx hb hK hP 2 0 rfl rfl hb_ dX1_work_13 ?_
  refine W.eq (g2 := F0 m 14 ls [.int (D_work_14_l5 w_b f_rg)]) rfl ?_
  refine lv_istore hx hb dX1_work_14 hl (by decide) rfl (fun ls hl => ?_)
  have hl : lv_has ls 6 [(5, .int (D_work_14_l5 w_b f_rg)), (4, .int (D_work_6_l4 w_a f_rg)), (0, .ref q_de), (1, .ref q_w), (2, .ref q_rg), (3, .ref q_sto)] := hl
  refine lv_aload_n hx hb dX1_work_16 rfl (lv_at hl 2 rfl) ?_
  refine lv_aload_n hx hb dX1_work_17 rfl (lv_at hl 3 rfl) ?_
  refine W.eq (g2 := F0 m 18 ls [.ref q_w, .ref q_de]) rfl ?_
  refine va_get (D := D) (ci := 8) (v := .int w_pc) (C := RX8) (T := TX8) (N := 6) hx hb hts inX8 hown hK hP 1 rfl rfl 0 (by decide) (hts _ kt_95) (fun _ h => h) rfl dX1_work_18 ?_
  refine lv_iconst (v := 1) hx hb dX1_work_21 (by decide) ?_
  refine lv_iadd hx hb dX1_work_22 ?_
  refine va_put (D := D) (ci := 1) (v := .int (w_pc + 1)) (ty := .int) (C := RX1) (T := TX1) (N := 6) hx hb hts inX1 tyX1 tyX1_ok nmX1 hown hK hP hD hS 0 rfl rfl 0 (by decide) (hts _ kt_135) (fun _ h => h) rfl (by decide +kernel) rfl rfl (Nat.le_of_ble_eq_true rfl) dX1_work_23 (fun H locs hP hD hS => ?_)
  have hP : va_P D vwCl [(q_de, .inr (1, [.int (w_pc + 1), .int de_value, .int de_address, .int de_taken, .int de_ending, .int de_trap])), (q_w, .inr (8, [.int w_pc, .int w_op, .int w_d, .int w_a, .int w_b, .int w_i])), (q_rg, .inl (cI, 16, .inl f_rg)), (q_sto, .inl (cI, 1024, .inl f_sto))] H := hP
  have hD : va_D A [(q_de, .inr (1, [.int (w_pc + 1), .int de_value, .int de_address, .int de_taken, .int de_ending, .int de_trap])), (q_w, .inr (8, [.int w_pc, .int w_op, .int w_d, .int w_a, .int w_b, .int w_i])), (q_rg, .inl (cI, 16, .inl f_rg)), (q_sto, .inl (cI, 1024, .inl f_sto))] := hD
  refine lv_aload_n hx hb dX1_work_26 rfl (lv_at hl 2 rfl) ?_
  refine lv_iconst (v := 0) hx hb dX1_work_27 (by decide) ?_
  refine va_put (D := D) (ci := 1) (v := .int 0) (ty := .int) (C := RX1) (T := TX1) (N := 6) hx hb hts inX1 tyX1 tyX1_ok nmX1 hown hK hP hD hS 0 rfl rfl 1 (by decide) (hts _ kt_137) (fun _ h => h) rfl (by decide +kernel) rfl rfl (Nat.le_of_ble_eq_true rfl) dX1_work_28 (fun H locs hP hD hS => ?_)
  have hP : va_P D vwCl [(q_de, .inr (1, [.int (w_pc + 1), .int 0, .int de_address, .int de_taken, .int de_ending, .int de_trap])), (q_w, .inr (8, [.int w_pc, .int w_op, .int w_d, .int w_a, .int w_b, .int w_i])), (q_rg, .inl (cI, 16, .inl f_rg)), (q_sto, .inl (cI, 1024, .inl f_sto))] H := hP
  have hD : va_D A [(q_de, .inr (1, [.int (w_pc + 1), .int 0, .int de_address, .int de_taken, .int de_ending, .int de_trap])), (q_w, .inr (8, [.int w_pc, .int w_op, .int w_d, .int w_a, .int w_b, .int w_i])), (q_rg, .inl (cI, 16, .inl f_rg)), (q_sto, .inl (cI, 1024, .inl f_sto))] := hD
  refine lv_aload_n hx hb dX1_work_31 rfl (lv_at hl 2 rfl) ?_
  refine lv_iconst (v := 0) hx hb dX1_work_32 (by decide) ?_
  refine va_put (D := D) (ci := 1) (v := .int 0) (ty := .int) (C := RX1) (T := TX1) (N := 6) hx hb hts inX1 tyX1 tyX1_ok nmX1 hown hK hP hD hS 0 rfl rfl 2 (by decide) (hts _ kt_139) (fun _ h => h) rfl (by decide +kernel) rfl rfl (Nat.le_of_ble_eq_true rfl) dX1_work_33 (fun H locs hP hD hS => ?_)
  have hP : va_P D vwCl [(q_de, .inr (1, [.int (w_pc + 1), .int 0, .int 0, .int de_taken, .int de_ending, .int de_trap])), (q_w, .inr (8, [.int w_pc, .int w_op, .int w_d, .int w_a, .int w_b, .int w_i])), (q_rg, .inl (cI, 16, .inl f_rg)), (q_sto, .inl (cI, 1024, .inl f_sto))] H := hP
  have hD : va_D A [(q_de, .inr (1, [.int (w_pc + 1), .int 0, .int 0, .int de_taken, .int de_ending, .int de_trap])), (q_w, .inr (8, [.int w_pc, .int w_op, .int w_d, .int w_a, .int w_b, .int w_i])), (q_rg, .inl (cI, 16, .inl f_rg)), (q_sto, .inl (cI, 1024, .inl f_sto))] := hD
  refine lv_aload_n hx hb dX1_work_36 rfl (lv_at hl 2 rfl) ?_
  refine lv_iconst (v := 0) hx hb dX1_work_37 (by decide) ?_
  refine W.eq (g2 := F0 m 38 ls [.int 0, .ref q_de]) rfl ?_
  refine va_put (D := D) (ci := 1) (v := .int 0) (ty := .boolean) (C := RX1) (T := TX1) (N := 6) hx hb hts inX1 tyX1 tyX1_ok nmX1 hown hK hP hD hS 0 rfl rfl 3 (by decide) (hts _ kt_141) (fun _ h => h) rfl (by decide +kernel) (nz (Or.inl rfl)).1 (nz (Or.inl rfl)).2 (Nat.le_of_ble_eq_true rfl) dX1_work_38 (fun H locs hP hD hS => ?_)
  have hP : va_P D vwCl [(q_de, .inr (1, [.int (w_pc + 1), .int 0, .int 0, .int 0, .int de_ending, .int de_trap])), (q_w, .inr (8, [.int w_pc, .int w_op, .int w_d, .int w_a, .int w_b, .int w_i])), (q_rg, .inl (cI, 16, .inl f_rg)), (q_sto, .inl (cI, 1024, .inl f_sto))] H := hP
  have hD : va_D A [(q_de, .inr (1, [.int (w_pc + 1), .int 0, .int 0, .int 0, .int de_ending, .int de_trap])), (q_w, .inr (8, [.int w_pc, .int w_op, .int w_d, .int w_a, .int w_b, .int w_i])), (q_rg, .inl (cI, 16, .inl f_rg)), (q_sto, .inl (cI, 1024, .inl f_sto))] := hD
  refine lv_aload_n hx hb dX1_work_41 rfl (lv_at hl 2 rfl) ?_
  refine lv_iconst (v := 0) hx hb dX1_work_42 (by decide) ?_
  refine va_put (D := D) (ci := 1) (v := .int 0) (ty := .int) (C := RX1) (T := TX1) (N := 6) hx hb hts inX1 tyX1 tyX1_ok nmX1 hown hK hP hD hS 0 rfl rfl 4 (by decide) (hts _ kt_143) (fun _ h => h) rfl (by decide +kernel) rfl rfl (Nat.le_of_ble_eq_true rfl) dX1_work_43 (fun H locs hP hD hS => ?_)
  have hP : va_P D vwCl [(q_de, .inr (1, [.int (w_pc + 1), .int 0, .int 0, .int 0, .int 0, .int de_trap])), (q_w, .inr (8, [.int w_pc, .int w_op, .int w_d, .int w_a, .int w_b, .int w_i])), (q_rg, .inl (cI, 16, .inl f_rg)), (q_sto, .inl (cI, 1024, .inl f_sto))] H := hP
  have hD : va_D A [(q_de, .inr (1, [.int (w_pc + 1), .int 0, .int 0, .int 0, .int 0, .int de_trap])), (q_w, .inr (8, [.int w_pc, .int w_op, .int w_d, .int w_a, .int w_b, .int w_i])), (q_rg, .inl (cI, 16, .inl f_rg)), (q_sto, .inl (cI, 1024, .inl f_sto))] := hD
  refine lv_aload_n hx hb dX1_work_46 rfl (lv_at hl 2 rfl) ?_
  refine lv_iconst (v := 0) hx hb dX1_work_47 (by decide) ?_
  refine va_put (D := D) (ci := 1) (v := .int 0) (ty := .int) (C := RX1) (T := TX1) (N := 6) hx hb hts inX1 tyX1 tyX1_ok nmX1 hown hK hP hD hS 0 rfl rfl 5 (by decide) (hts _ kt_145) (fun _ h => h) rfl (by decide +kernel) rfl rfl (Nat.le_of_ble_eq_true rfl) dX1_work_48 (fun H locs hP hD hS => ?_)
  have hP : va_P D vwCl [(q_de, .inr (1, [.int (w_pc + 1), .int 0, .int 0, .int 0, .int 0, .int 0])), (q_w, .inr (8, [.int w_pc, .int w_op, .int w_d, .int w_a, .int w_b, .int w_i])), (q_rg, .inl (cI, 16, .inl f_rg)), (q_sto, .inl (cI, 1024, .inl f_sto))] H := hP
  have hD : va_D A [(q_de, .inr (1, [.int (w_pc + 1), .int 0, .int 0, .int 0, .int 0, .int 0])), (q_w, .inr (8, [.int w_pc, .int w_op, .int w_d, .int w_a, .int w_b, .int w_i])), (q_rg, .inl (cI, 16, .inl f_rg)), (q_sto, .inl (cI, 1024, .inl f_sto))] := hD
  refine lv_aload_n hx hb dX1_work_51 rfl (lv_at hl 3 rfl) ?_
  refine c_i (r := (W_isOfTwo_14_s0 w_op)) (wc := [(q_w, .inr (8, [.int w_pc, .int w_op, .int w_d, .int w_a, .int w_b, .int w_i]))]) (wr := [(q_de, .inr (1, [.int (w_pc + 1), .int 0, .int 0, .int 0, .int 0, .int 0])), (q_rg, .inl (cI, 16, .inl f_rg)), (q_sto, .inl (cI, 1024, .inl f_sto))]) (wc2 := [(q_w, .inr (8, [.int w_pc, .int w_op, .int w_d, .int w_a, .int w_b, .int w_i]))]) (ws2 := [(q_de, .inr (1, [.int (w_pc + 1), .int 0, .int 0, .int 0, .int 0, .int 0])), (q_w, .inr (8, [.int w_pc, .int w_op, .int w_d, .int w_a, .int w_b, .int w_i])), (q_rg, .inl (cI, 16, .inl f_rg)), (q_sto, .inl (cI, 1024, .inl f_sto))]) (r_V (rm := { frames := 0, cells := 0, slots := 0, locals := 0 }) hx hb hml hown hts (c_W_isOfTwo l D cI cJ q_w w_pc w_op w_d w_a w_b w_i _) 0 kt_385 kt_382 kt_383 kt_384 kt_5 ⟨by decide +kernel, by decide +kernel, by decide +kernel⟩ ⟨by decide, by decide⟩ hK hP hD [1] rfl (by decide) 1 rfl rfl hl.1 rfl rfl (Nat.le_of_ble_eq_true rfl) dX1_work_52 ⟨by decide, by decide⟩) hP hD hS hA [1] [0, 2, 3] [0, 3, 1, 2] rfl rfl (by decide) (by decide) rfl (by decide) (fun H locs hP hD hS => ?_)
  refine lv_if_eq (tgt := 76) hx hb dX1_work_55 rfl (fun c55 => ?_) (fun c55 => ?_)
  · refine lv_aload_n hx hb dX1_work_76 rfl (lv_at hl 3 rfl) ?_
    refine c_i (r := (W_isWithNumber_23_s0 w_op)) (wc := [(q_w, .inr (8, [.int w_pc, .int w_op, .int w_d, .int w_a, .int w_b, .int w_i]))]) (wr := [(q_de, .inr (1, [.int (w_pc + 1), .int 0, .int 0, .int 0, .int 0, .int 0])), (q_rg, .inl (cI, 16, .inl f_rg)), (q_sto, .inl (cI, 1024, .inl f_sto))]) (wc2 := [(q_w, .inr (8, [.int w_pc, .int w_op, .int w_d, .int w_a, .int w_b, .int w_i]))]) (ws2 := [(q_de, .inr (1, [.int (w_pc + 1), .int 0, .int 0, .int 0, .int 0, .int 0])), (q_w, .inr (8, [.int w_pc, .int w_op, .int w_d, .int w_a, .int w_b, .int w_i])), (q_rg, .inl (cI, 16, .inl f_rg)), (q_sto, .inl (cI, 1024, .inl f_sto))]) (r_V (rm := { frames := 0, cells := 0, slots := 0, locals := 0 }) hx hb hml hown hts (c_W_isWithNumber l D cI cJ q_w w_pc w_op w_d w_a w_b w_i _) 0 kt_393 kt_390 kt_391 kt_392 kt_5 ⟨by decide +kernel, by decide +kernel, by decide +kernel⟩ ⟨by decide, by decide⟩ hK hP hD [1] rfl (by decide) 1 rfl rfl hl.1 rfl rfl (Nat.le_of_ble_eq_true rfl) dX1_work_77 ⟨by decide, by decide⟩) hP hD hS hA [1] [0, 2, 3] [0, 3, 1, 2] rfl rfl (by decide) (by decide) rfl (by decide) (fun H locs hP hD hS => ?_)
    refine lv_if_eq (tgt := 106) hx hb dX1_work_80 rfl (fun c80 => ?_) (fun c80 => ?_)
    · refine lv_aload_n hx hb dX1_work_106 rfl (lv_at hl 3 rfl) ?_
      refine W.eq (g2 := F0 m 107 ls [.ref q_w]) rfl ?_
      refine c_i (r := (W_isAccess_23_s0 w_op)) (wc := [(q_w, .inr (8, [.int w_pc, .int w_op, .int w_d, .int w_a, .int w_b, .int w_i]))]) (wr := [(q_de, .inr (1, [.int (w_pc + 1), .int 0, .int 0, .int 0, .int 0, .int 0])), (q_rg, .inl (cI, 16, .inl f_rg)), (q_sto, .inl (cI, 1024, .inl f_sto))]) (wc2 := [(q_w, .inr (8, [.int w_pc, .int w_op, .int w_d, .int w_a, .int w_b, .int w_i]))]) (ws2 := [(q_de, .inr (1, [.int (w_pc + 1), .int 0, .int 0, .int 0, .int 0, .int 0])), (q_w, .inr (8, [.int w_pc, .int w_op, .int w_d, .int w_a, .int w_b, .int w_i])), (q_rg, .inl (cI, 16, .inl f_rg)), (q_sto, .inl (cI, 1024, .inl f_sto))]) (r_V (rm := { frames := 0, cells := 0, slots := 0, locals := 0 }) hx hb hml hown hts (c_W_isAccess l D cI cJ q_w w_pc w_op w_d w_a w_b w_i _) 0 kt_397 kt_394 kt_395 kt_396 kt_5 ⟨by decide +kernel, by decide +kernel, by decide +kernel⟩ ⟨by decide, by decide⟩ hK hP hD [1] rfl (by decide) 1 rfl rfl hl.1 rfl rfl (Nat.le_of_ble_eq_true rfl) dX1_work_107 ⟨by decide, by decide⟩) hP hD hS hA [1] [0, 2, 3] [0, 3, 1, 2] rfl rfl (by decide) (by decide) rfl (by decide) (fun H locs hP hD hS => ?_)
      refine lv_if_eq (tgt := 126) hx hb dX1_work_110 rfl (fun c110 => ?_) (fun c110 => ?_)
      · refine lv_aload_n hx hb dX1_work_126 rfl (lv_at hl 3 rfl) ?_
        refine c_i (r := (W_isBranch_23_s0 w_op)) (wc := [(q_w, .inr (8, [.int w_pc, .int w_op, .int w_d, .int w_a, .int w_b, .int w_i]))]) (wr := [(q_de, .inr (1, [.int (w_pc + 1), .int 0, .int 0, .int 0, .int 0, .int 0])), (q_rg, .inl (cI, 16, .inl f_rg)), (q_sto, .inl (cI, 1024, .inl f_sto))]) (wc2 := [(q_w, .inr (8, [.int w_pc, .int w_op, .int w_d, .int w_a, .int w_b, .int w_i]))]) (ws2 := [(q_de, .inr (1, [.int (w_pc + 1), .int 0, .int 0, .int 0, .int 0, .int 0])), (q_w, .inr (8, [.int w_pc, .int w_op, .int w_d, .int w_a, .int w_b, .int w_i])), (q_rg, .inl (cI, 16, .inl f_rg)), (q_sto, .inl (cI, 1024, .inl f_sto))]) (r_V (rm := { frames := 0, cells := 0, slots := 0, locals := 0 }) hx hb hml hown hts (c_W_isBranch l D cI cJ q_w w_pc w_op w_d w_a w_b w_i _) 0 kt_369 kt_406 kt_367 kt_368 kt_5 ⟨by decide +kernel, by decide +kernel, by decide +kernel⟩ ⟨by decide, by decide⟩ hK hP hD [1] rfl (by decide) 1 rfl rfl hl.1 rfl rfl (Nat.le_of_ble_eq_true rfl) dX1_work_127 ⟨by decide, by decide⟩) hP hD hS hA [1] [0, 2, 3] [0, 3, 1, 2] rfl rfl (by decide) (by decide) rfl (by decide) (fun H locs hP hD hS => ?_)
        refine lv_if_eq (tgt := 145) hx hb dX1_work_130 rfl (fun c130 => ?_) (fun c130 => ?_)
        · refine lv_aload_n hx hb dX1_work_145 rfl (lv_at hl 2 rfl) ?_
          refine lv_aload_n hx hb dX1_work_146 rfl (lv_at hl 3 rfl) ?_
          refine lv_iload hx hb dX1_work_147 (lv_at hl 1 rfl) ?_
          refine c_v (wc := [(q_de, .inr (1, [.int (w_pc + 1), .int 0, .int 0, .int 0, .int 0, .int 0])), (q_w, .inr (8, [.int w_pc, .int w_op, .int w_d, .int w_a, .int w_b, .int w_i]))]) (wr := [(q_rg, .inl (cI, 16, .inl f_rg)), (q_sto, .inl (cI, 1024, .inl f_sto))]) (wc2 := [(q_de, .inr (1, [.int (D_workOther_x_de_next (D_work_6_l4 w_a f_rg) (w_pc + 1) w_pc w_op w_i), .int (D_workOther_x_de_value (D_work_6_l4 w_a f_rg) 0 w_pc w_op w_i), .int 0, .int 0, .int (D_workOther_x_de_ending 0 w_op), .int (D_workOther_x_de_trap 0 w_op)])), (q_w, .inr (8, [.int w_pc, .int w_op, .int w_d, .int w_a, .int w_b, .int w_i]))]) (ws2 := [(q_de, .inr (1, [.int (D_workOther_x_de_next (D_work_6_l4 w_a f_rg) (w_pc + 1) w_pc w_op w_i), .int (D_workOther_x_de_value (D_work_6_l4 w_a f_rg) 0 w_pc w_op w_i), .int 0, .int 0, .int (D_workOther_x_de_ending 0 w_op), .int (D_workOther_x_de_trap 0 w_op)])), (q_w, .inr (8, [.int w_pc, .int w_op, .int w_d, .int w_a, .int w_b, .int w_i])), (q_rg, .inl (cI, 16, .inl f_rg)), (q_sto, .inl (cI, 1024, .inl f_sto))]) (r_V (rm := { frames := 1, cells := 0, slots := 0, locals := 22 }) hx hb hml hown hts (c_D_workOther l D cI cJ q_de q_w (D_work_6_l4 w_a f_rg) (w_pc + 1) 0 0 0 0 0 w_pc w_op w_d w_a w_b w_i _) 2 kt_417 kt_414 kt_416 kp_5 kt_6 ⟨by decide +kernel, by decide +kernel, by decide +kernel⟩ ⟨by decide, by decide⟩ hK hP hD [0, 1] rfl (by decide) 0 rfl rfl hl.1 rfl rfl (Nat.le_of_ble_eq_true rfl) dX1_work_149 ⟨by decide, by decide⟩) hP hD hS hA [0, 1] [2, 3] [2, 3, 0, 1] rfl rfl (by decide) (by decide) rfl (by decide) (fun H locs hP hD hS => ?_)
          have e0 : (D_work_x_de_next w_pc w_op w_a w_b w_i f_rg) = (D_workOther_x_de_next (D_work_6_l4 w_a f_rg) (w_pc + 1) w_pc w_op w_i) := ((if_pos c55).trans ((if_pos c80).trans ((if_pos c110).trans (if_pos c130))))
          have e1 : (D_work_x_de_value w_pc w_op w_a w_b w_i f_rg f_sto) = (D_workOther_x_de_value (D_work_6_l4 w_a f_rg) 0 w_pc w_op w_i) := ((if_pos c55).trans ((if_pos c80).trans ((if_pos c110).trans (if_pos c130))))
          have e2 : (D_work_x_de_address w_op w_a w_i f_rg) = 0 := ((if_pos c55).trans ((if_pos c80).trans (if_pos c110)))
          have e3 : (D_work_x_de_taken w_op w_a w_b f_rg) = 0 := ((if_pos c55).trans ((if_pos c80).trans ((if_pos c110).trans (if_pos c130))))
          have e4 : (D_work_x_de_ending w_op w_a w_i f_rg) = (D_workOther_x_de_ending 0 w_op) := ((if_pos c55).trans ((if_pos c80).trans ((if_pos c110).trans (if_pos c130))))
          have e5 : (D_work_x_de_trap w_op w_a w_i f_rg) = (D_workOther_x_de_trap 0 w_op) := ((if_pos c55).trans ((if_pos c80).trans ((if_pos c110).trans (if_pos c130))))
          exact e_v hx hb hr hlk hK (by rw [e0, e1, e2, e3, e4, e5]; exact hP) (by rw [e0, e1, e2, e3, e4, e5]; exact hD) hS dX1_work_152
        · refine lv_aload_n hx hb dX1_work_133 rfl (lv_at hl 2 rfl) ?_
          refine lv_aload_n hx hb dX1_work_134 rfl (lv_at hl 3 rfl) ?_
          refine lv_iload hx hb dX1_work_135 (lv_at hl 1 rfl) ?_
          refine lv_iload hx hb dX1_work_137 (lv_at hl 0 rfl) ?_
          refine c_v (wc := [(q_de, .inr (1, [.int (w_pc + 1), .int 0, .int 0, .int 0, .int 0, .int 0])), (q_w, .inr (8, [.int w_pc, .int w_op, .int w_d, .int w_a, .int w_b, .int w_i]))]) (wr := [(q_rg, .inl (cI, 16, .inl f_rg)), (q_sto, .inl (cI, 1024, .inl f_sto))]) (wc2 := [(q_de, .inr (1, [.int (D_branch_x_de_next (D_work_6_l4 w_a f_rg) (D_work_14_l5 w_b f_rg) (w_pc + 1) w_pc w_op w_i), .int 0, .int 0, .int (D_holds_ret w_op (D_work_6_l4 w_a f_rg) (D_work_14_l5 w_b f_rg)), .int 0, .int 0])), (q_w, .inr (8, [.int w_pc, .int w_op, .int w_d, .int w_a, .int w_b, .int w_i]))]) (ws2 := [(q_de, .inr (1, [.int (D_branch_x_de_next (D_work_6_l4 w_a f_rg) (D_work_14_l5 w_b f_rg) (w_pc + 1) w_pc w_op w_i), .int 0, .int 0, .int (D_holds_ret w_op (D_work_6_l4 w_a f_rg) (D_work_14_l5 w_b f_rg)), .int 0, .int 0])), (q_w, .inr (8, [.int w_pc, .int w_op, .int w_d, .int w_a, .int w_b, .int w_i])), (q_rg, .inl (cI, 16, .inl f_rg)), (q_sto, .inl (cI, 1024, .inl f_sto))]) (r_V (rm := { frames := 1, cells := 0, slots := 0, locals := 22 }) hx hb hml hown hts (c_D_branch l D cI cJ q_de q_w (D_work_6_l4 w_a f_rg) (D_work_14_l5 w_b f_rg) (w_pc + 1) 0 0 0 0 0 w_pc w_op w_d w_a w_b w_i _) 3 kt_410 kt_407 kt_409 kp_4 kt_6 ⟨by decide +kernel, by decide +kernel, by decide +kernel⟩ ⟨by decide, by decide⟩ hK hP hD [0, 1] rfl (by decide) 0 rfl rfl hl.1 rfl rfl (Nat.le_of_ble_eq_true rfl) dX1_work_139 ⟨by decide, by decide⟩) hP hD hS hA [0, 1] [2, 3] [2, 3, 0, 1] rfl rfl (by decide) (by decide) rfl (by decide) (fun H locs hP hD hS => ?_)
          refine W.eq (g2 := F0 m 142 ls []) rfl ?_
          refine lv_goto (tgt := 152) hx hb dX1_work_142 rfl ?_
          have e0 : (D_work_x_de_next w_pc w_op w_a w_b w_i f_rg) = (D_branch_x_de_next (D_work_6_l4 w_a f_rg) (D_work_14_l5 w_b f_rg) (w_pc + 1) w_pc w_op w_i) := ((if_pos c55).trans ((if_pos c80).trans ((if_pos c110).trans (if_neg c130))))
          have e1 : (D_work_x_de_value w_pc w_op w_a w_b w_i f_rg f_sto) = 0 := ((if_pos c55).trans ((if_pos c80).trans ((if_pos c110).trans (if_neg c130))))
          have e2 : (D_work_x_de_address w_op w_a w_i f_rg) = 0 := ((if_pos c55).trans ((if_pos c80).trans (if_pos c110)))
          have e3 : (D_work_x_de_taken w_op w_a w_b f_rg) = (D_holds_ret w_op (D_work_6_l4 w_a f_rg) (D_work_14_l5 w_b f_rg)) := ((if_pos c55).trans ((if_pos c80).trans ((if_pos c110).trans (if_neg c130))))
          have e4 : (D_work_x_de_ending w_op w_a w_i f_rg) = 0 := ((if_pos c55).trans ((if_pos c80).trans ((if_pos c110).trans (if_neg c130))))
          have e5 : (D_work_x_de_trap w_op w_a w_i f_rg) = 0 := ((if_pos c55).trans ((if_pos c80).trans ((if_pos c110).trans (if_neg c130))))
          exact e_v hx hb hr hlk hK (by rw [e0, e1, e2, e3, e4, e5]; exact hP) (by rw [e0, e1, e2, e3, e4, e5]; exact hD) hS dX1_work_152
      · refine lv_aload_n hx hb dX1_work_113 rfl (lv_at hl 2 rfl) ?_
        refine lv_aload_n hx hb dX1_work_114 rfl (lv_at hl 3 rfl) ?_
        refine lv_iload hx hb dX1_work_115 (lv_at hl 1 rfl) ?_
        refine lv_iload hx hb dX1_work_117 (lv_at hl 0 rfl) ?_
        refine lv_aload_n hx hb dX1_work_119 rfl (lv_at hl 5 rfl) ?_
        refine c_v (wc := [(q_de, .inr (1, [.int (w_pc + 1), .int 0, .int 0, .int 0, .int 0, .int 0])), (q_w, .inr (8, [.int w_pc, .int w_op, .int w_d, .int w_a, .int w_b, .int w_i])), (q_sto, .inl (cI, 1024, .inl f_sto))]) (wr := [(q_rg, .inl (cI, 16, .inl f_rg))]) (wc2 := [(q_de, .inr (1, [.int (w_pc + 1), .int (D_reach_x_de_value (D_work_6_l4 w_a f_rg) (D_work_14_l5 w_b f_rg) 0 w_op w_i f_sto), .int (D_reach_x_de_address (D_work_6_l4 w_a f_rg) 0 w_i), .int 0, .int (D_reach_x_de_ending (D_work_6_l4 w_a f_rg) 0 w_i), .int (D_reach_x_de_trap (D_work_6_l4 w_a f_rg) 0 w_i)])), (q_w, .inr (8, [.int w_pc, .int w_op, .int w_d, .int w_a, .int w_b, .int w_i])), (q_sto, .inl (cI, 1024, .inl f_sto))]) (ws2 := [(q_de, .inr (1, [.int (w_pc + 1), .int (D_reach_x_de_value (D_work_6_l4 w_a f_rg) (D_work_14_l5 w_b f_rg) 0 w_op w_i f_sto), .int (D_reach_x_de_address (D_work_6_l4 w_a f_rg) 0 w_i), .int 0, .int (D_reach_x_de_ending (D_work_6_l4 w_a f_rg) 0 w_i), .int (D_reach_x_de_trap (D_work_6_l4 w_a f_rg) 0 w_i)])), (q_w, .inr (8, [.int w_pc, .int w_op, .int w_d, .int w_a, .int w_b, .int w_i])), (q_rg, .inl (cI, 16, .inl f_rg)), (q_sto, .inl (cI, 1024, .inl f_sto))]) (r_V (rm := { frames := 1, cells := 0, slots := 0, locals := 22 }) hx hb hml hown hts (c_D_reach l D cI cJ q_de q_w q_sto (D_work_6_l4 w_a f_rg) (D_work_14_l5 w_b f_rg) (w_pc + 1) 0 0 0 0 0 w_pc w_op w_d w_a w_b w_i f_sto _) 4 kt_401 kt_398 kt_400 kp_2 kt_6 ⟨by decide +kernel, by decide +kernel, by decide +kernel⟩ ⟨by decide, by decide⟩ hK hP hD [0, 1, 3] rfl (by decide) 0 rfl rfl hl.1 rfl rfl (Nat.le_of_ble_eq_true rfl) dX1_work_120 ⟨by decide, by decide⟩) hP hD hS hA [0, 1, 3] [2] [1, 2, 0, 3] rfl rfl (by decide) (by decide) rfl (by decide) (fun H locs hP hD hS => ?_)
        refine lv_goto (tgt := 152) hx hb dX1_work_123 rfl ?_
        have e0 : (D_work_x_de_next w_pc w_op w_a w_b w_i f_rg) = (w_pc + 1) := ((if_pos c55).trans ((if_pos c80).trans (if_neg c110)))
        have e1 : (D_work_x_de_value w_pc w_op w_a w_b w_i f_rg f_sto) = (D_reach_x_de_value (D_work_6_l4 w_a f_rg) (D_work_14_l5 w_b f_rg) 0 w_op w_i f_sto) := ((if_pos c55).trans ((if_pos c80).trans (if_neg c110)))
        have e2 : (D_work_x_de_address w_op w_a w_i f_rg) = (D_reach_x_de_address (D_work_6_l4 w_a f_rg) 0 w_i) := ((if_pos c55).trans ((if_pos c80).trans (if_neg c110)))
        have e3 : (D_work_x_de_taken w_op w_a w_b f_rg) = 0 := ((if_pos c55).trans ((if_pos c80).trans (if_neg c110)))
        have e4 : (D_work_x_de_ending w_op w_a w_i f_rg) = (D_reach_x_de_ending (D_work_6_l4 w_a f_rg) 0 w_i) := ((if_pos c55).trans ((if_pos c80).trans (if_neg c110)))
        have e5 : (D_work_x_de_trap w_op w_a w_i f_rg) = (D_reach_x_de_trap (D_work_6_l4 w_a f_rg) 0 w_i) := ((if_pos c55).trans ((if_pos c80).trans (if_neg c110)))
        exact e_v hx hb hr hlk hK (by rw [e0, e1, e2, e3, e4, e5]; exact hP) (by rw [e0, e1, e2, e3, e4, e5]; exact hD) hS dX1_work_152
    · refine lv_aload_n hx hb dX1_work_83 rfl (lv_at hl 2 rfl) ?_
      refine lv_aload_n hx hb dX1_work_84 rfl (lv_at hl 3 rfl) ?_
      refine va_get (D := D) (ci := 8) (v := .int w_op) (C := RX8) (T := TX8) (N := 6) hx hb hts inX8 hown hK hP 1 rfl rfl 1 (by decide) (hts _ kt_100) (fun _ h => h) rfl dX1_work_85 ?_
      refine lv_bipush (v := 16) hx hb dX1_work_88 (by decide) ?_
      refine lv_isub hx hb dX1_work_90 ?_
      refine lv_iload hx hb dX1_work_91 (lv_at hl 1 rfl) ?_
      refine W.eq (g2 := F0 m 93 ls [.int (D_work_6_l4 w_a f_rg), .int (w_op - 16), .ref q_de]) rfl ?_
      refine lv_aload_n hx hb dX1_work_93 rfl (lv_at hl 3 rfl) ?_
      refine va_get (D := D) (ci := 8) (v := .int w_i) (C := RX8) (T := TX8) (N := 6) hx hb hts inX8 hown hK hP 1 rfl rfl 5 (by decide) (hts _ kt_113) (fun _ h => h) rfl dX1_work_94 ?_
      refine c_i (r := (D_compute_ret (w_op - 16) (D_work_6_l4 w_a f_rg) w_i)) (wc := []) (wr := [(q_de, .inr (1, [.int (w_pc + 1), .int 0, .int 0, .int 0, .int 0, .int 0])), (q_w, .inr (8, [.int w_pc, .int w_op, .int w_d, .int w_a, .int w_b, .int w_i])), (q_rg, .inl (cI, 16, .inl f_rg)), (q_sto, .inl (cI, 1024, .inl f_sto))]) (wc2 := []) (ws2 := [(q_de, .inr (1, [.int (w_pc + 1), .int 0, .int 0, .int 0, .int 0, .int 0])), (q_w, .inr (8, [.int w_pc, .int w_op, .int w_d, .int w_a, .int w_b, .int w_i])), (q_rg, .inl (cI, 16, .inl f_rg)), (q_sto, .inl (cI, 1024, .inl f_sto))]) (r_S (rm := { frames := 0, cells := 0, slots := 0, locals := 0 }) hx hb hml hown hts (c_D_compute l D cI cJ (w_op - 16) (D_work_6_l4 w_a f_rg) w_i _) 3 kt_388 kt_386 kt_387 kt_6 ⟨by decide +kernel, by decide +kernel, by decide +kernel⟩ ⟨by decide, by decide⟩ hK hP hD [] rfl (by decide) hl.1 rfl rfl (Nat.le_of_ble_eq_true rfl) dX1_work_97 ⟨by decide, by decide⟩) hP hD hS hA [] [0, 1, 2, 3] [0, 1, 2, 3] rfl rfl (by decide) (by decide) rfl (by decide) (fun H locs hP hD hS => ?_)
      refine W.eq (g2 := F0 m 100 ls [.int (D_work_100_value w_op w_a w_i f_rg), .ref q_de]) rfl ?_
      refine va_put (D := D) (ci := 1) (v := .int (D_work_100_value w_op w_a w_i f_rg)) (ty := .int) (C := RX1) (T := TX1) (N := 6) hx hb hts inX1 tyX1 tyX1_ok nmX1 hown hK hP hD hS 0 rfl rfl 1 (by decide) (hts _ kt_137) (fun _ h => h) rfl (by decide +kernel) rfl rfl (Nat.le_of_ble_eq_true rfl) dX1_work_100 (fun H locs hP hD hS => ?_)
      have hP : va_P D vwCl [(q_de, .inr (1, [.int (w_pc + 1), .int (D_work_100_value w_op w_a w_i f_rg), .int 0, .int 0, .int 0, .int 0])), (q_w, .inr (8, [.int w_pc, .int w_op, .int w_d, .int w_a, .int w_b, .int w_i])), (q_rg, .inl (cI, 16, .inl f_rg)), (q_sto, .inl (cI, 1024, .inl f_sto))] H := hP
      have hD : va_D A [(q_de, .inr (1, [.int (w_pc + 1), .int (D_work_100_value w_op w_a w_i f_rg), .int 0, .int 0, .int 0, .int 0])), (q_w, .inr (8, [.int w_pc, .int w_op, .int w_d, .int w_a, .int w_b, .int w_i])), (q_rg, .inl (cI, 16, .inl f_rg)), (q_sto, .inl (cI, 1024, .inl f_sto))] := hD
      refine lv_goto (tgt := 152) hx hb dX1_work_103 rfl ?_
      have e0 : (D_work_x_de_next w_pc w_op w_a w_b w_i f_rg) = (w_pc + 1) := ((if_pos c55).trans (if_neg c80))
      have e1 : (D_work_x_de_value w_pc w_op w_a w_b w_i f_rg f_sto) = (D_work_100_value w_op w_a w_i f_rg) := ((if_pos c55).trans (if_neg c80))
      have e2 : (D_work_x_de_address w_op w_a w_i f_rg) = 0 := ((if_pos c55).trans (if_neg c80))
      have e3 : (D_work_x_de_taken w_op w_a w_b f_rg) = 0 := ((if_pos c55).trans (if_neg c80))
      have e4 : (D_work_x_de_ending w_op w_a w_i f_rg) = 0 := ((if_pos c55).trans (if_neg c80))
      have e5 : (D_work_x_de_trap w_op w_a w_i f_rg) = 0 := ((if_pos c55).trans (if_neg c80))
      exact e_v hx hb hr hlk hK (by rw [e0, e1, e2, e3, e4, e5]; exact hP) (by rw [e0, e1, e2, e3, e4, e5]; exact hD) hS dX1_work_152
  · refine lv_aload_n hx hb dX1_work_58 rfl (lv_at hl 2 rfl) ?_
    refine lv_aload_n hx hb dX1_work_59 rfl (lv_at hl 3 rfl) ?_
    refine va_get (D := D) (ci := 8) (v := .int w_op) (C := RX8) (T := TX8) (N := 6) hx hb hts inX8 hown hK hP 1 rfl rfl 1 (by decide) (hts _ kt_100) (fun _ h => h) rfl dX1_work_60 ?_
    refine lv_iload hx hb dX1_work_63 (lv_at hl 1 rfl) ?_
    refine lv_iload hx hb dX1_work_65 (lv_at hl 0 rfl) ?_
    refine c_i (r := (D_compute_ret w_op (D_work_6_l4 w_a f_rg) (D_work_14_l5 w_b f_rg))) (wc := []) (wr := [(q_de, .inr (1, [.int (w_pc + 1), .int 0, .int 0, .int 0, .int 0, .int 0])), (q_w, .inr (8, [.int w_pc, .int w_op, .int w_d, .int w_a, .int w_b, .int w_i])), (q_rg, .inl (cI, 16, .inl f_rg)), (q_sto, .inl (cI, 1024, .inl f_sto))]) (wc2 := []) (ws2 := [(q_de, .inr (1, [.int (w_pc + 1), .int 0, .int 0, .int 0, .int 0, .int 0])), (q_w, .inr (8, [.int w_pc, .int w_op, .int w_d, .int w_a, .int w_b, .int w_i])), (q_rg, .inl (cI, 16, .inl f_rg)), (q_sto, .inl (cI, 1024, .inl f_sto))]) (r_S (rm := { frames := 0, cells := 0, slots := 0, locals := 0 }) hx hb hml hown hts (c_D_compute l D cI cJ w_op (D_work_6_l4 w_a f_rg) (D_work_14_l5 w_b f_rg) _) 3 kt_388 kt_386 kt_387 kt_6 ⟨by decide +kernel, by decide +kernel, by decide +kernel⟩ ⟨by decide, by decide⟩ hK hP hD [] rfl (by decide) hl.1 rfl rfl (Nat.le_of_ble_eq_true rfl) dX1_work_67 ⟨by decide, by decide⟩) hP hD hS hA [] [0, 1, 2, 3] [0, 1, 2, 3] rfl rfl (by decide) (by decide) rfl (by decide) (fun H locs hP hD hS => ?_)
    refine W.eq (g2 := F0 m 70 ls [.int (D_work_70_value w_op w_a w_b f_rg), .ref q_de]) rfl ?_
    refine va_put (D := D) (ci := 1) (v := .int (D_work_70_value w_op w_a w_b f_rg)) (ty := .int) (C := RX1) (T := TX1) (N := 6) hx hb hts inX1 tyX1 tyX1_ok nmX1 hown hK hP hD hS 0 rfl rfl 1 (by decide) (hts _ kt_137) (fun _ h => h) rfl (by decide +kernel) rfl rfl (Nat.le_of_ble_eq_true rfl) dX1_work_70 (fun H locs hP hD hS => ?_)
    have hP : va_P D vwCl [(q_de, .inr (1, [.int (w_pc + 1), .int (D_work_70_value w_op w_a w_b f_rg), .int 0, .int 0, .int 0, .int 0])), (q_w, .inr (8, [.int w_pc, .int w_op, .int w_d, .int w_a, .int w_b, .int w_i])), (q_rg, .inl (cI, 16, .inl f_rg)), (q_sto, .inl (cI, 1024, .inl f_sto))] H := hP
    have hD : va_D A [(q_de, .inr (1, [.int (w_pc + 1), .int (D_work_70_value w_op w_a w_b f_rg), .int 0, .int 0, .int 0, .int 0])), (q_w, .inr (8, [.int w_pc, .int w_op, .int w_d, .int w_a, .int w_b, .int w_i])), (q_rg, .inl (cI, 16, .inl f_rg)), (q_sto, .inl (cI, 1024, .inl f_sto))] := hD
    refine lv_goto (tgt := 152) hx hb dX1_work_73 rfl ?_
    have e0 : (D_work_x_de_next w_pc w_op w_a w_b w_i f_rg) = (w_pc + 1) := (if_neg c55)
    have e1 : (D_work_x_de_value w_pc w_op w_a w_b w_i f_rg f_sto) = (D_work_70_value w_op w_a w_b f_rg) := (if_neg c55)
    have e2 : (D_work_x_de_address w_op w_a w_i f_rg) = 0 := (if_neg c55)
    have e3 : (D_work_x_de_taken w_op w_a w_b f_rg) = 0 := (if_neg c55)
    have e4 : (D_work_x_de_ending w_op w_a w_i f_rg) = 0 := (if_neg c55)
    have e5 : (D_work_x_de_trap w_op w_a w_i f_rg) = 0 := (if_neg c55)
    exact e_v hx hb hr hlk hK (by rw [e0, e1, e2, e3, e4, e5]; exact hP) (by rw [e0, e1, e2, e3, e4, e5]; exact hD) hS dX1_work_152
def D_isLoad_21_s0 (de_ending : Int32) (w_op : Int32) : Int32 := (if (¬ w_op = 32 ∨ ¬ de_ending = 0) then 0 else 1)
theorem D_isLoad_21_s0_b (de_ending : Int32) (w_op : Int32) : D_isLoad_21_s0 de_ending w_op = 0 ∨ D_isLoad_21_s0 de_ending w_op = 1 := by
  unfold D_isLoad_21_s0
  repeat' split
  all_goals first | exact Or.inl rfl | exact Or.inr rfl
set_option maxHeartbeats 4000000 in
set_option maxRecDepth 100000 in
theorem c_D_isLoad (l : Launch) (D : va_G) (cI cJ : ClassId) (q_de : Nat) (q_w : Nat) (de_next : Int32) (de_value : Int32) (de_address : Int32) (de_taken : Int32) (de_ending : Int32) (de_trap : Int32) (w_pc : Int32) (w_op : Int32) (w_d : Int32) (w_a : Int32) (w_b : Int32) (w_i : Int32) (sz : Nat) : Met l yX1_isLoad (.code yX1_isLoad cX1_isLoad 2 (some .boolean) :: gU) { frames := 0, cells := 0, slots := 0, locals := 0 } (va_Pc [.ref q_de, .ref q_w] (mP D vwCl (tyS cI cJ) [(q_de, .inr (1, [.int de_next, .int de_value, .int de_address, .int de_taken, .int de_ending, .int de_trap])), (q_w, .inr (8, [.int w_pc, .int w_op, .int w_d, .int w_a, .int w_b, .int w_i]))] sz)) (qI D vwCl (tyS cI cJ) [(q_de, .inr (1, [.int de_next, .int de_value, .int de_address, .int de_taken, .int de_ending, .int de_trap])), (q_w, .inr (8, [.int w_pc, .int w_op, .int w_d, .int w_a, .int w_b, .int w_i]))] (D_isLoad_21_s0 de_ending w_op) (va_A [(q_de, .inr (1, [.int de_next, .int de_value, .int de_address, .int de_taken, .int de_ending, .int de_trap])), (q_w, .inr (8, [.int w_pc, .int w_op, .int w_d, .int w_a, .int w_b, .int w_i]))] sz)) 0 0 (va_A [(q_de, .inr (1, [.int de_next, .int de_value, .int de_address, .int de_taken, .int de_ending, .int de_trap])), (q_w, .inr (8, [.int w_pc, .int w_op, .int w_d, .int w_a, .int w_b, .int w_i]))] sz) := by
  refine m_go (y := yX1_isLoad) (cc := cX1_isLoad) (ml := 2) (rt := (some .boolean)) (av := [.ref q_de, .ref q_w]) (cs := [(q_de, .inr (1, [.int de_next, .int de_value, .int de_address, .int de_taken, .int de_ending, .int de_trap])), (q_w, .inr (8, [.int w_pc, .int w_op, .int w_d, .int w_a, .int w_b, .int w_i]))]) (fun A => qI D vwCl (tyS cI cJ) [(q_de, .inr (1, [.int de_next, .int de_value, .int de_address, .int de_taken, .int de_ending, .int de_trap])), (q_w, .inr (8, [.int w_pc, .int w_op, .int w_d, .int w_a, .int w_b, .int w_i]))] (D_isLoad_21_s0 de_ending w_op) A) (by decide) (Nat.le_of_ble_eq_true rfl) ?_
  intro p e s m below meth c A ls hx hb hr hlk hml hts hown _ hA hP hK hD hS hl _
  have hl : lv_has ls 2 [(0, .ref q_de), (1, .ref q_w)] := hl
  refine lv_aload_n hx hb dX1_isLoad_0 rfl (lv_at hl 1 rfl) ?_
  refine va_get (D := D) (ci := 8) (v := .int w_op) (C := RX8) (T := TX8) (N := 6) hx hb hts inX8 hown hK hP 1 rfl rfl 1 (by decide) (hts _ kt_100) (fun _ h => h) rfl dX1_isLoad_1 ?_
  refine lv_bipush (v := 32) hx hb dX1_isLoad_4 (by decide) ?_
  refine w_j (J := 21) (st := [.int (D_isLoad_21_s0 de_ending w_op)]) (fun H locs ls => va_P D vwCl [(q_de, .inr (1, [.int de_next, .int de_value, .int de_address, .int de_taken, .int de_ending, .int de_trap])), (q_w, .inr (8, [.int w_pc, .int w_op, .int w_d, .int w_a, .int w_b, .int w_i]))] H ∧ va_D A [(q_de, .inr (1, [.int de_next, .int de_value, .int de_address, .int de_taken, .int de_ending, .int de_trap])), (q_w, .inr (8, [.int w_pc, .int w_op, .int w_d, .int w_a, .int w_b, .int w_i]))] ∧ va_S A s.heap H locs ∧ lv_has ls 2 [(0, .ref q_de), (1, .ref q_w)]) (fun H locs ls hJ => ?_) (fun k21 => ?_)
  · obtain ⟨hP, hD, hS, hl⟩ := hJ
    exact e_z hx hb hr hlk hK hP hD hS rfl (nz (D_isLoad_21_s0_b de_ending w_op)).1 dX1_isLoad_21
  · refine w_j (J := 20) (st := []) (fun H locs ls => va_P D vwCl [(q_de, .inr (1, [.int de_next, .int de_value, .int de_address, .int de_taken, .int de_ending, .int de_trap])), (q_w, .inr (8, [.int w_pc, .int w_op, .int w_d, .int w_a, .int w_b, .int w_i]))] H ∧ va_D A [(q_de, .inr (1, [.int de_next, .int de_value, .int de_address, .int de_taken, .int de_ending, .int de_trap])), (q_w, .inr (8, [.int w_pc, .int w_op, .int w_d, .int w_a, .int w_b, .int w_i]))] ∧ va_S A s.heap H locs ∧ lv_has ls 2 [(0, .ref q_de), (1, .ref q_w)] ∧ ((¬ w_op = 32 ∨ ¬ de_ending = 0))) (fun H locs ls hJ => ?_) (fun k20 => ?_)
    · obtain ⟨hP, hD, hS, hl, h20⟩ := hJ
      refine lv_iconst (v := 0) hx hb dX1_isLoad_20 (by decide) ?_
      have e0 : (D_isLoad_21_s0 de_ending w_op) = 0 := (if_pos h20)
      have k21 := k21 _ _ _ ⟨hP, hD, hS, hl⟩
      refine W.eq (g2 := F0 m 21 ls [.int 0]) rfl ?_
      exact W.eq (by rw [e0]) k21
    refine lv_icmp_ne (tgt := 20) hx hb dX1_isLoad_6 rfl (fun c6 => ?_) (fun c6 => ?_)
    · exact k20 _ _ _ ⟨hP, hD, hS, hl, (Or.inl c6)⟩
    · refine lv_aload_n hx hb dX1_isLoad_9 rfl (lv_at hl 0 rfl) ?_
      refine va_get (D := D) (ci := 1) (v := .int de_ending) (C := RX1) (T := TX1) (N := 6) hx hb hts inX1 hown hK hP 0 rfl rfl 4 (by decide) (hts _ kt_143) (fun _ h => h) rfl dX1_isLoad_10 ?_
      refine lv_if_ne (tgt := 20) hx hb dX1_isLoad_13 rfl (fun c13 => ?_) (fun c13 => ?_)
      · exact k20 _ _ _ ⟨hP, hD, hS, hl, (Or.inr c13)⟩
      · refine lv_iconst (v := 1) hx hb dX1_isLoad_16 (by decide) ?_
        refine lv_goto (tgt := 21) hx hb dX1_isLoad_17 rfl ?_
        have e0 : (D_isLoad_21_s0 de_ending w_op) = 1 := (if_neg (not_or.mpr ⟨(fun n => n c6), (fun n => n c13)⟩))
        have k21 := k21 _ _ _ ⟨hP, hD, hS, hl⟩
        refine W.eq (g2 := F0 m 21 ls [.int 1]) rfl ?_
        exact W.eq (by rw [e0]) k21
def D_isStore_21_s0 (de_ending : Int32) (w_op : Int32) : Int32 := (if (¬ w_op = 33 ∨ ¬ de_ending = 0) then 0 else 1)
theorem D_isStore_21_s0_b (de_ending : Int32) (w_op : Int32) : D_isStore_21_s0 de_ending w_op = 0 ∨ D_isStore_21_s0 de_ending w_op = 1 := by
  unfold D_isStore_21_s0
  repeat' split
  all_goals first | exact Or.inl rfl | exact Or.inr rfl
set_option maxHeartbeats 4000000 in
set_option maxRecDepth 100000 in
theorem c_D_isStore (l : Launch) (D : va_G) (cI cJ : ClassId) (q_de : Nat) (q_w : Nat) (de_next : Int32) (de_value : Int32) (de_address : Int32) (de_taken : Int32) (de_ending : Int32) (de_trap : Int32) (w_pc : Int32) (w_op : Int32) (w_d : Int32) (w_a : Int32) (w_b : Int32) (w_i : Int32) (sz : Nat) : Met l yX1_isStore (.code yX1_isStore cX1_isStore 2 (some .boolean) :: gU) { frames := 0, cells := 0, slots := 0, locals := 0 } (va_Pc [.ref q_de, .ref q_w] (mP D vwCl (tyS cI cJ) [(q_de, .inr (1, [.int de_next, .int de_value, .int de_address, .int de_taken, .int de_ending, .int de_trap])), (q_w, .inr (8, [.int w_pc, .int w_op, .int w_d, .int w_a, .int w_b, .int w_i]))] sz)) (qI D vwCl (tyS cI cJ) [(q_de, .inr (1, [.int de_next, .int de_value, .int de_address, .int de_taken, .int de_ending, .int de_trap])), (q_w, .inr (8, [.int w_pc, .int w_op, .int w_d, .int w_a, .int w_b, .int w_i]))] (D_isStore_21_s0 de_ending w_op) (va_A [(q_de, .inr (1, [.int de_next, .int de_value, .int de_address, .int de_taken, .int de_ending, .int de_trap])), (q_w, .inr (8, [.int w_pc, .int w_op, .int w_d, .int w_a, .int w_b, .int w_i]))] sz)) 0 0 (va_A [(q_de, .inr (1, [.int de_next, .int de_value, .int de_address, .int de_taken, .int de_ending, .int de_trap])), (q_w, .inr (8, [.int w_pc, .int w_op, .int w_d, .int w_a, .int w_b, .int w_i]))] sz) := by
  refine m_go (y := yX1_isStore) (cc := cX1_isStore) (ml := 2) (rt := (some .boolean)) (av := [.ref q_de, .ref q_w]) (cs := [(q_de, .inr (1, [.int de_next, .int de_value, .int de_address, .int de_taken, .int de_ending, .int de_trap])), (q_w, .inr (8, [.int w_pc, .int w_op, .int w_d, .int w_a, .int w_b, .int w_i]))]) (fun A => qI D vwCl (tyS cI cJ) [(q_de, .inr (1, [.int de_next, .int de_value, .int de_address, .int de_taken, .int de_ending, .int de_trap])), (q_w, .inr (8, [.int w_pc, .int w_op, .int w_d, .int w_a, .int w_b, .int w_i]))] (D_isStore_21_s0 de_ending w_op) A) (by decide) (Nat.le_of_ble_eq_true rfl) ?_
  intro p e s m below meth c A ls hx hb hr hlk hml hts hown _ hA hP hK hD hS hl _
  have hl : lv_has ls 2 [(0, .ref q_de), (1, .ref q_w)] := hl
  refine lv_aload_n hx hb dX1_isStore_0 rfl (lv_at hl 1 rfl) ?_
  refine va_get (D := D) (ci := 8) (v := .int w_op) (C := RX8) (T := TX8) (N := 6) hx hb hts inX8 hown hK hP 1 rfl rfl 1 (by decide) (hts _ kt_100) (fun _ h => h) rfl dX1_isStore_1 ?_
  refine lv_bipush (v := 33) hx hb dX1_isStore_4 (by decide) ?_
  refine w_j (J := 21) (st := [.int (D_isStore_21_s0 de_ending w_op)]) (fun H locs ls => va_P D vwCl [(q_de, .inr (1, [.int de_next, .int de_value, .int de_address, .int de_taken, .int de_ending, .int de_trap])), (q_w, .inr (8, [.int w_pc, .int w_op, .int w_d, .int w_a, .int w_b, .int w_i]))] H ∧ va_D A [(q_de, .inr (1, [.int de_next, .int de_value, .int de_address, .int de_taken, .int de_ending, .int de_trap])), (q_w, .inr (8, [.int w_pc, .int w_op, .int w_d, .int w_a, .int w_b, .int w_i]))] ∧ va_S A s.heap H locs ∧ lv_has ls 2 [(0, .ref q_de), (1, .ref q_w)]) (fun H locs ls hJ => ?_) (fun k21 => ?_)
  · obtain ⟨hP, hD, hS, hl⟩ := hJ
    exact e_z hx hb hr hlk hK hP hD hS rfl (nz (D_isStore_21_s0_b de_ending w_op)).1 dX1_isStore_21
  · refine w_j (J := 20) (st := []) (fun H locs ls => va_P D vwCl [(q_de, .inr (1, [.int de_next, .int de_value, .int de_address, .int de_taken, .int de_ending, .int de_trap])), (q_w, .inr (8, [.int w_pc, .int w_op, .int w_d, .int w_a, .int w_b, .int w_i]))] H ∧ va_D A [(q_de, .inr (1, [.int de_next, .int de_value, .int de_address, .int de_taken, .int de_ending, .int de_trap])), (q_w, .inr (8, [.int w_pc, .int w_op, .int w_d, .int w_a, .int w_b, .int w_i]))] ∧ va_S A s.heap H locs ∧ lv_has ls 2 [(0, .ref q_de), (1, .ref q_w)] ∧ ((¬ w_op = 33 ∨ ¬ de_ending = 0))) (fun H locs ls hJ => ?_) (fun k20 => ?_)
    · obtain ⟨hP, hD, hS, hl, h20⟩ := hJ
      refine lv_iconst (v := 0) hx hb dX1_isStore_20 (by decide) ?_
      have e0 : (D_isStore_21_s0 de_ending w_op) = 0 := (if_pos h20)
      have k21 := k21 _ _ _ ⟨hP, hD, hS, hl⟩
      refine W.eq (g2 := F0 m 21 ls [.int 0]) rfl ?_
      exact W.eq (by rw [e0]) k21
    refine lv_icmp_ne (tgt := 20) hx hb dX1_isStore_6 rfl (fun c6 => ?_) (fun c6 => ?_)
    · exact k20 _ _ _ ⟨hP, hD, hS, hl, (Or.inl c6)⟩
    · refine lv_aload_n hx hb dX1_isStore_9 rfl (lv_at hl 0 rfl) ?_
      refine va_get (D := D) (ci := 1) (v := .int de_ending) (C := RX1) (T := TX1) (N := 6) hx hb hts inX1 hown hK hP 0 rfl rfl 4 (by decide) (hts _ kt_143) (fun _ h => h) rfl dX1_isStore_10 ?_
      refine lv_if_ne (tgt := 20) hx hb dX1_isStore_13 rfl (fun c13 => ?_) (fun c13 => ?_)
      · exact k20 _ _ _ ⟨hP, hD, hS, hl, (Or.inr c13)⟩
      · refine lv_iconst (v := 1) hx hb dX1_isStore_16 (by decide) ?_
        refine lv_goto (tgt := 21) hx hb dX1_isStore_17 rfl ?_
        have e0 : (D_isStore_21_s0 de_ending w_op) = 1 := (if_neg (not_or.mpr ⟨(fun n => n c6), (fun n => n c13)⟩))
        have k21 := k21 _ _ _ ⟨hP, hD, hS, hl⟩
        refine W.eq (g2 := F0 m 21 ls [.int 1]) rfl ?_
        exact W.eq (by rw [e0]) k21
