/-! the word: class and reference cut it alike -/
def eqOn (n : Nat) (f g : Nat → Int32) : Prop := ∀ j, j < n → f j = g j
theorem i_of (x : Int32) : x = nI x.toBitVec.toNat := by
  apply Int32.toBitVec_inj.mp
  apply BitVec.eq_of_toNat_eq
  rw [pk_tn (show x.toBitVec.toNat < 2 ^ 32 from x.toBitVec.isLt)]
theorem tk_w {pc : Int32} {f g : Nat → Int32} (h : eqOn 1024 f g) : m_next_134_s0 pc g = W_take_28_s0 pc f := by
  show (if W_take_16_s0 pc = 0 then 0 else g (Int32.toNatClampNeg pc)) = W_take_28_s0 pc f
  unfold W_take_28_s0
  by_cases q : W_take_16_s0 pc = 0
  · rw [if_pos q, if_pos q]
  · rw [if_neg q, if_neg q]
    obtain ⟨j, hj, e⟩ := vp_in_of (W_take_16_s0_inn pc q) (by decide)
    rw [e, nI_clamp (by omega)]
    exact (h j hj).symm
theorem tk_d {pc : Int32} {f g : Nat → Int32} (h : eqOn 1024 f g) : m_next_161_l10 pc g = W_take_62_d pc f := by
  unfold m_next_161_l10 W_take_62_d
  rw [tk_w h]
  exact sh22 _
theorem tk_a {pc : Int32} {f g : Nat → Int32} (h : eqOn 1024 f g) : m_next_171_l11 pc g = W_take_74_a pc f := by
  unfold m_next_171_l11 W_take_74_a
  rw [tk_w h]
  exact sh18 _
theorem tk_b {pc : Int32} {f g : Nat → Int32} (h : eqOn 1024 f g) : m_next_181_l12 pc g = W_take_86_b pc f := by
  unfold m_next_181_l12 W_take_86_b
  rw [tk_w h]
  exact sh14 _
theorem tk_i {pc : Int32} {f g : Nat → Int32} (h : eqOn 1024 f g) : m_next_191_l13 pc g = W_take_98_i pc f := by
  unfold m_next_191_l13 W_take_98_i
  rw [tk_w h]
def opR (i op o : Int32) : Prop := (i = 0 ∧ op = 64 ∧ o = 63) ∨ (i = 1 ∧ ∃ j, j < 64 ∧ op = nI j ∧ o = nI j)
theorem tk_o {pc : Int32} {f g : Nat → Int32} (h : eqOn 1024 f g) : opR (m_next_114_s0 pc) (W_take_50_s0 pc f) (m_next_151_s0 pc g) := by
  show opR (W_take_16_s0 pc) (W_take_50_s0 pc f) (if W_take_16_s0 pc = 0 then 63 else ((Int32.toUInt32 (m_next_134_s0 pc g) >>> (Int32.toUInt32 (26 : Int32) &&& Int32.toUInt32 31)).toInt32))
  rw [tk_w h]
  unfold W_take_50_s0
  by_cases q : W_take_16_s0 pc = 0
  · rw [if_pos q, if_pos q]
    exact Or.inl ⟨q, rfl, rfl⟩
  · rw [if_neg q, if_neg q]
    have q1 : W_take_16_s0 pc = 1 := (W_take_16_s0_b pc).resolve_left q
    refine Or.inr ⟨q1, _, ?_, i_of _, i_of _⟩
    rw [pk_ushr _ 26 26 (by decide)]
    have := i_lt (W_take_28_s0 pc f)
    omega
def t241 (o : Int32) : Int32 := (if (o ≤ 12 ∨ (¬ (o < 40 ∨ 43 < o) ∧ (¬ o < 40 ∧ ¬ 43 < o))) then 1 else 0)
def t295 (o : Int32) : Int32 := (if (¬ (t241 o) = 0 ∨ (((o < 16 ∨ ¬ o ≤ 25) ∧ (o = 32 ∨ (o = 33 ∨ (o = 45 ∨ o = 49)))) ∨ (¬ (o < 16 ∨ ¬ o ≤ 25) ∧ (¬ o < 16 ∧ o ≤ 25)))) then 1 else 0)
def t394 (o : Int32) : Int32 := (if o = 10 then 3 else (if (o = 11 ∨ o = 12) then 12 else 1))
theorem e241 (pc : Int32) (g : Nat → Int32) : m_next_241_s0 pc g = t241 (m_next_151_s0 pc g) := rfl
theorem e295 (pc : Int32) (g : Nat → Int32) : m_next_295_s0 pc g = t295 (m_next_151_s0 pc g) := rfl
theorem e394 (pc : Int32) (g : Nat → Int32) : m_next_394_s0 pc g = t394 (m_next_151_s0 pc g) := rfl
theorem op_j1 : ∀ j, j < 64 → (W_readsA_51_s0 (nI j) = t295 (nI j) ∧ W_readsB_19_s0 (nI j) = t241 (nI j) ∧ W_cyclesInX_ret (nI j) = t394 (nI j)) := by decide +kernel
theorem op_1 {i op o : Int32} (h : opR i op o) : W_readsA_51_s0 op = t295 o ∧ W_readsB_19_s0 op = t241 o ∧ W_cyclesInX_ret op = t394 o ∧ (op = 33 ↔ o = 33) ∧ (op = 32 ↔ o = 32) := by
  rcases h with ⟨-, rfl, rfl⟩ | ⟨-, j, hj, rfl, rfl⟩
  · decide +kernel
  · exact ⟨(op_j1 j hj).1, (op_j1 j hj).2.1, (op_j1 j hj).2.2, Iff.rfl, Iff.rfl⟩
theorem t394_nat (o : Int32) : ∃ c : Nat, 1 ≤ c ∧ c ≤ 12 ∧ t394 o = nI c := by
  unfold t394
  by_cases h : o = 10
  · rw [if_pos h]; exact ⟨3, by decide, by decide, rfl⟩
  · rw [if_neg h]
    by_cases h2 : (o = 11 ∨ o = 12)
    · rw [if_pos h2]; exact ⟨12, by decide, by decide, rfl⟩
    · rw [if_neg h2]; exact ⟨1, by decide, by decide, rfl⟩
/-! the sums of the cycles, as numbers -/
theorem mx32 {a b : Nat} (ha : a < 2 ^ 31) (hb : b < 2 ^ 31) : (if nI a < nI b then nI b else nI a) = nI (max a b) := by
  by_cases h : a < b
  · rw [if_pos (nI_lt h hb), Nat.max_eq_right (by omega)]
  · rw [if_neg (nI_nlt (by omega) ha), Nat.max_eq_left (by omega)]
theorem mx64 {a b : Nat} (ha : a < 2 ^ 31) (hb : b < 2 ^ 31) : (if lN b < lN a then lN a else lN b) = lN (max a b) := by
  by_cases h : b < a
  · rw [if_pos ((lN_lt hb ha).mpr h), Nat.max_eq_left (by omega)]
  · rw [if_neg (fun q => h ((lN_lt hb ha).mp q)), Nat.max_eq_right (by omega)]
def tD (f x : Nat) : Nat := max (f + 1) x
def tY (f x m : Nat) : Nat := max (tD f x + 1) m
def tA (T : Nat) (is : Int32) (p : Nat) : Nat := if is = 0 then T else max T (p + 1)
def tX (f x m : Nat) (ra rb : Int32) (pa pb : Nat) : Nat := tA (tA (tY f x m) ra pa) rb pb
theorem tA_le {T p B : Nat} {is : Int32} (h1 : T ≤ B) (h2 : p + 1 ≤ B) : tA T is p ≤ B := by
  unfold tA
  by_cases h : is = 0
  · rw [if_pos h]; exact h1
  · rw [if_neg h]; exact Nat.max_le.mpr ⟨h1, h2⟩
theorem tA_ge {T p : Nat} {is : Int32} : T ≤ tA T is p := by
  unfold tA
  by_cases h : is = 0
  · rw [if_pos h]; exact Nat.le_refl _
  · rw [if_neg h]; exact Nat.le_max_left _ _
theorem tD_le {f x B : Nat} (hf : f ≤ B) (hx : x ≤ B) : tD f x ≤ B + 1 := by unfold tD; omega
theorem tY_le {f x m B : Nat} (hf : f ≤ B) (hx : x ≤ B) (hm : m ≤ B) : tY f x m ≤ B + 2 := by
  have := tD_le hf hx
  unfold tY; omega
theorem tX_le {f x m pa pb B : Nat} {ra rb : Int32} (hf : f ≤ B) (hx : x ≤ B) (hm : m ≤ B) (ha : pa ≤ B) (hb : pb ≤ B) : tX f x m ra rb pa pb ≤ B + 2 :=
  tA_le (tA_le (tY_le hf hx hm) (by omega)) (by omega)
theorem tY_pos {f x m : Nat} : 1 ≤ tY f x m := by unfold tY; omega
theorem S11 {f x B : Nat} (hB : B < 2 ^ 30) (hf : f ≤ B) (hx : x ≤ B) : S_pass_11_max (nI f) (nI x) = nI (tD f x) := by
  unfold S_pass_11_max tD
  rw [nI_1]
  exact mx32 (by omega) (by omega)
theorem S28 {f x m B : Nat} (hB : B < 2 ^ 30) (hf : f ≤ B) (hx : x ≤ B) (hm : m ≤ B) : S_pass_28_max (nI f) (nI x) (nI m) = nI (tY f x m) := by
  have := tD_le hf hx
  unfold S_pass_28_max
  rw [S11 hB hf hx, nI_1]
  exact mx32 (by omega) (by omega)
theorem S92 {f x m pa pb B : Nat} {op a b : Int32} {rd : Nat → Int32} (hB : B < 2 ^ 30) (hf : f ≤ B) (hx : x ≤ B) (hm : m ≤ B) (ha : pa ≤ B) (hb : pb ≤ B) (ea : rd (Int32.toNatClampNeg a) = nI pa) (eb : rd (Int32.toNatClampNeg b) = nI pb) :
    S_pass_92_sg_x (nI f) (nI x) (nI m) op a b rd = nI (tX f x m (W_readsA_51_s0 op) (W_readsB_19_s0 op) pa pb) := by
  have h28 := S28 hB hf hx hm
  have l28 := tY_le hf hx hm
  have e63 : S_pass_63_sg_x (nI f) (nI x) (nI m) op a rd = nI (tA (tY f x m) (W_readsA_51_s0 op) pa) := by
    unfold S_pass_63_sg_x S_pass_57_max tA
    by_cases h : W_readsA_51_s0 op = 0
    · rw [if_pos h, if_pos h]; exact h28
    · rw [if_neg h, if_neg h, h28, ea, nI_1]
      exact mx32 (by omega) (by omega)
  have l63 : tA (tY f x m) (W_readsA_51_s0 op) pa ≤ B + 2 := tA_le l28 (by omega)
  unfold S_pass_92_sg_x S_pass_86_max tX
  by_cases h : W_readsB_19_s0 op = 0
  · rw [if_pos h, e63]; unfold tA; rw [if_pos h]
  · rw [if_neg h, e63, eb, nI_1]
    show _ = nI (if W_readsB_19_s0 op = 0 then _ else _)
    rw [if_neg h]
    exact mx32 (by omega) (by omega)
theorem AF {T p : Nat} {r is : Int32} {nrd : Nat → Int64} (hT : T < 2 ^ 31) (hp : p + 1 < 2 ^ 31) (hT1 : 1 ≤ T) (e : nrd (Int32.toNatClampNeg r) = lN p) (z : r = 0 → p = 0) : m_after_36_s0 (lN T) r is nrd = lN (tA T is p) := by
  unfold m_after_36_s0 m_after_29_max tA
  rw [e]
  by_cases h : (is = 0 ∨ (r = 0 ∨ lN p ≤ 0))
  · rw [if_pos h]
    by_cases h0 : is = 0
    · rw [if_pos h0]
    · rw [if_neg h0]
      have hp0 : p = 0 := by
        rcases h with h | h | h
        · exact absurd h h0
        · exact z h
        · have := (lN_le (a := p) (b := 0) (by omega) (by omega)).mp h; omega
      subst hp0
      rw [Nat.max_eq_left (by omega)]
  · have h2 := not_or.mp h
    rw [if_neg h, if_neg h2.1, lN_1, mx64 (by omega) (by omega)]
section TMOD
variable {pc any gu : Int32} {d xx xe mm w : Int64} {g : Nat → Int32} {nrd : Nat → Int64} {f x m wN pa pb B : Nat}
theorem M306 (hB : B < 2 ^ 30) (hf : f ≤ B) (hx : x ≤ B) (h81 : m_next_81_s0 d xe any gu = lN f) (h47 : m_next_47_s0 xx any = lN x) : m_next_306_max d xx xe any gu = lN (tD f x) := by
  unfold m_next_306_max tD
  rw [h81, h47, lN_1]
  exact mx64 (by omega) (by omega)
theorem M320 (hB : B < 2 ^ 30) (hf : f ≤ B) (hx : x ≤ B) (hm : m ≤ B) (h81 : m_next_81_s0 d xe any gu = lN f) (h47 : m_next_47_s0 xx any = lN x) (h15 : m_next_15_s0 mm any = lN m) : m_next_320_max d xx xe mm any gu = lN (tY f x m) := by
  have := tD_le hf hx
  unfold m_next_320_max
  rw [M306 hB hf hx h81 h47, h15, lN_1]
  exact mx64 (by omega) (by omega)
theorem M355 (hB : B < 2 ^ 30) (hf : f ≤ B) (hx : x ≤ B) (hm : m ≤ B) (ha : pa ≤ B) (hb : pb ≤ B) (h81 : m_next_81_s0 d xe any gu = lN f) (h47 : m_next_47_s0 xx any = lN x) (h15 : m_next_15_s0 mm any = lN m)
    (ea : nrd (Int32.toNatClampNeg (m_next_171_l11 pc g)) = lN pa) (za : m_next_171_l11 pc g = 0 → pa = 0) (eb : nrd (Int32.toNatClampNeg (m_next_181_l12 pc g)) = lN pb) (zb : m_next_181_l12 pc g = 0 → pb = 0) :
    m_next_355_xx pc d xx xe mm any gu g nrd = lN (tX f x m (m_next_295_s0 pc g) (m_next_241_s0 pc g) pa pb) := by
  have l1 := tY_le hf hx hm
  have l2 : tA (tY f x m) (m_next_295_s0 pc g) pa ≤ B + 2 := tA_le l1 (by omega)
  unfold m_next_355_xx m_next_339_xx
  rw [M320 hB hf hx hm h81 h47 h15, AF (by omega) (by omega) tY_pos ea za, AF (by omega) (by omega) (Nat.le_trans tY_pos tA_ge) eb zb]
  rfl
end TMOD
def tM (xe w : Nat) (is : Int32) (pb : Nat) : Nat := tA (max (xe + 1) w) is pb
def tQ (m : Nat) (mi : Int32) : Nat := if mi = 0 then m else m + 8
theorem tQ_le {m : Nat} {mi : Int32} : m ≤ tQ m mi ∧ tQ m mi ≤ m + 8 := by
  unfold tQ
  by_cases h : mi = 0
  · rw [if_pos h]; omega
  · rw [if_neg h]; omega
theorem nI_cy {X c : Nat} (hc : 1 ≤ c) : (nI X + nI c) - 1 = nI (X + c - 1) := by
  rw [nI_add, show X + c = (X + c - 1) + 1 by omega, nI_pred]
  rfl
theorem lN_cy {X c : Nat} (hc : 1 ≤ c) : (lN X + lN c) - 1 = lN (X + c - 1) := by
  rw [lN_add, show (1 : Int64) = lN 1 from rfl, lN_sub (by omega)]
theorem nI_8 (n : Nat) : nI n + 8 = nI (n + 8) := nI_add n 8
theorem lN_8 (n : Nat) : lN n + 8 = lN (n + 8) := lN_add n 8
section TALL
variable {i op o a b mi pc any gu : Int32} {d xx xe mm ww : Int64} {g rd fx fli : Nat → Int32} {nrd : Nat → Int64} {f x m w pa pb B c : Nat}
theorem S104 (hB : B < 2 ^ 30) (hf : f ≤ B) (hx : x ≤ B) (hm : m ≤ B) (ha : pa ≤ B) (hb : pb ≤ B) (ea : rd (Int32.toNatClampNeg a) = nI pa) (eb : rd (Int32.toNatClampNeg b) = nI pb) (hc : 1 ≤ c) (ec : W_cyclesInX_ret op = nI c) :
    S_pass_104_xe (nI f) (nI x) (nI m) op a b rd = nI (tX f x m (W_readsA_51_s0 op) (W_readsB_19_s0 op) pa pb + c - 1) := by
  unfold S_pass_104_xe
  rw [S92 hB hf hx hm ha hb ea eb, ec, nI_cy hc]
theorem S155 (hB : B < 2 ^ 30) (hf : f ≤ B) (hx : x ≤ B) (hm : m ≤ B) (hw : w ≤ B) (ha : pa ≤ B) (hb : pb ≤ B) (ea : rd (Int32.toNatClampNeg a) = nI pa) (eb : rd (Int32.toNatClampNeg b) = nI pb) (hc : 1 ≤ c) (hc2 : c ≤ 12) (ec : W_cyclesInX_ret op = nI c) :
    S_pass_155_sg_m (nI f) (nI w) (nI x) (nI m) op a b rd = nI (tM (tX f x m (W_readsA_51_s0 op) (W_readsB_19_s0 op) pa pb + c - 1) w (if op = 33 then 1 else 0) pb) := by
  have l := tX_le (ra := W_readsA_51_s0 op) (rb := W_readsB_19_s0 op) hf hx hm ha hb
  have e118 : S_pass_118_max (nI f) (nI w) (nI x) (nI m) op a b rd = nI (max (tX f x m (W_readsA_51_s0 op) (W_readsB_19_s0 op) pa pb + c - 1 + 1) w) := by
    unfold S_pass_118_max
    rw [S104 hB hf hx hm ha hb ea eb hc ec, nI_1]
    exact mx32 (by omega) (by omega)
  unfold S_pass_155_sg_m S_pass_149_max tM tA
  by_cases h : op = 33
  · rw [show (if op = 33 then (1 : Int32) else 0) = 1 from if_pos h, if_neg (show ¬ (1 : Int32) = 0 by decide), if_pos h, e118, eb, nI_1]
    exact mx32 (by omega) (by omega)
  · rw [show (if op = 33 then (1 : Int32) else 0) = 0 from if_neg h, if_pos rfl, if_neg h, e118]
theorem S174 {M : Nat} (h : S_pass_155_sg_m (nI f) (nI w) (nI x) (nI m) op a b rd = nI M) : S_pass_174_s0 mi (nI f) (nI w) (nI x) (nI m) op a b rd = nI (tQ M mi) := by
  unfold S_pass_174_s0 tQ
  rw [h, nI_8]
  by_cases q : mi = 0
  · rw [if_pos q, if_pos q]
  · rw [if_neg q, if_neg q]
theorem M398 (hc : 1 ≤ c) (hc2 : c ≤ 12) {X : Nat} (h : m_next_355_xx pc d xx xe mm any gu g nrd = lN X) (ec : m_next_394_s0 pc g = nI c) : m_next_398_xe pc d xx xe mm any gu g nrd = lN (X + c - 1) := by
  unfold m_next_398_xe
  rw [h, ec, nI_l (by omega), lN_cy hc]
theorem M438 {XE : Nat} (hX : XE < 2 ^ 30) (hw : w < 2 ^ 30) (hb : pb < 2 ^ 30) (h : m_next_398_xe pc d xx xe mm any gu g nrd = lN XE) (h31 : m_next_31_s0 ww any = lN w) (eb : nrd (Int32.toNatClampNeg (m_next_181_l12 pc g)) = lN pb) (zb : m_next_181_l12 pc g = 0 → pb = 0) :
    m_next_438_m pc d xx xe mm ww any gu g nrd = lN (tM XE w (m_next_435_s0 pc g) pb) := by
  have e409 : m_next_409_max pc d xx xe mm ww any gu g nrd = lN (max (XE + 1) w) := by
    unfold m_next_409_max
    rw [h, h31, lN_1]
    exact mx64 (by omega) (by omega)
  unfold m_next_438_m tM
  rw [e409]
  exact AF (by omega) (by omega) (by omega) eb zb
theorem M480 {M : Nat} (h : m_next_438_m pc d xx xe mm ww any gu g nrd = lN M) (hmi : m_does_x_mm_miss (m_next_114_s0 pc) (m_next_151_s0 pc g) (m_next_171_l11 pc g) (m_next_191_l13 pc g) fx fli = mi) : m_next_480_s0 pc d xx xe mm ww any gu g nrd fx fli = lN (tQ M mi) := by
  unfold m_next_480_s0 tQ
  rw [h, hmi, lN_8]
  by_cases q : mi = 0
  · rw [if_pos q, if_pos q]
  · rw [if_neg q, if_neg q]
end TALL

