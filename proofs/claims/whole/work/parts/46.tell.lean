/-! what is told, and the guess: class and reference -/
theorem op_j2 : ∀ j, j < 64 → True := fun _ _ => trivial
theorem op_2 {i op o : Int32} (h : opR i op o) : ((op < 40 ∨ 43 < op) ↔ (o < 40 ∨ 43 < o)) ∧ (op = 44 ↔ o = 44) ∧ (op = 45 ↔ o = 45) := by
  rcases h with ⟨-, rfl, rfl⟩ | ⟨-, j, hj, rfl, rfl⟩
  · decide +kernel
  · exact ⟨Iff.rfl, Iff.rfl, Iff.rfl⟩
theorem br_44 : ((44 : Int32) < 40 ∨ 43 < (44 : Int32)) ∧ ((45 : Int32) < 40 ∨ 43 < (45 : Int32)) ∧ ¬ (44 : Int32) < 40 ∧ ¬ (45 : Int32) < 40 ∧ 43 < (44 : Int32) ∧ 43 < (45 : Int32) := by decide
theorem ib_0 {op : Int32} (h : op < 40 ∨ 43 < op) : W_isBranch_23_s0 op = 0 := if_pos h
theorem ib_1 {op : Int32} (h : ¬ (op < 40 ∨ 43 < op)) : ¬ W_isBranch_23_s0 op = 0 := by
  unfold W_isBranch_23_s0; rw [if_neg h]; decide
theorem ic_1 {op d : Int32} (h : op = 44 ∨ op = 45) (hd : d = 15) : ¬ W_isCall_21_s0 op d = 0 := by
  have e : ¬ W_isJump_23_s0 op = 0 := by unfold W_isJump_23_s0; rw [if_pos h]; decide
  unfold W_isCall_21_s0
  rw [if_neg (fun z => z.elim e (fun n => n hd))]; decide
theorem ic_0 {op d : Int32} (h : ¬ ((op = 44 ∨ op = 45) ∧ d = 15)) : W_isCall_21_s0 op d = 0 := by
  unfold W_isCall_21_s0
  rw [if_pos]
  by_cases hj : op = 44 ∨ op = 45
  · exact Or.inr (fun hd => h ⟨hj, hd⟩)
  · exact Or.inl (by unfold W_isJump_23_s0; rw [if_neg hj])
theorem ir_1 {op d a : Int32} (h1 : op = 45) (h2 : a = 15) (h3 : d = 0) : ¬ W_isReturn_30_s0 op d a = 0 := by
  unfold W_isReturn_30_s0
  rw [if_neg (fun z => z.elim (fun n => n h1) (fun z => z.elim (fun n => n h2) (fun n => n h3)))]; decide
theorem ir_0 {op d a : Int32} (h : ¬ (op = 45 ∧ a = 15 ∧ d = 0)) : W_isReturn_30_s0 op d a = 0 := by
  unfold W_isReturn_30_s0
  rw [if_pos]
  by_cases h1 : op = 45
  · by_cases h2 : a = 15
    · exact Or.inr (Or.inr (fun h3 => h ⟨h1, h2, h3⟩))
    · exact Or.inr (Or.inl h2)
  · exact Or.inl h1
section
variable {pc ta told xe_ : Int32} {op o dd a any gu dp fi qu : Int32} {d xx xe mm : Int64} {g fx ncn nca nqp nqk tw tp tx : Nat → Int32} {nqt nrd : Nat → Int64} {nt : Nat}
/-- what is told: nothing, or one with its kind -/
theorem TELL {f_pg : Nat → Int32} (hp : eqOn 1024 f_pg g) (hta : m_does_x_mm_took (m_next_114_s0 pc) (m_next_151_s0 pc g) (m_next_171_l11 pc g) (m_next_181_l12 pc g) fx = ta) {T : HT} (hT : m_tl (m_next_81_s0 d xe any gu) nqp nqk nqt nt ((qu, fi, dp, ncn, nca) : HT) = T) :
    ((G_hear_x_g_told told (W_take_50_s0 pc f_pg) (W_take_62_d pc f_pg) (W_take_74_a pc f_pg) = told ∧ G_hear_x_tw ta told (W_take_50_s0 pc f_pg) (W_take_62_d pc f_pg) (W_take_74_a pc f_pg) tw = tw ∧ G_hear_x_tp told pc (W_take_50_s0 pc f_pg) (W_take_62_d pc f_pg) (W_take_74_a pc f_pg) tp = tp ∧ G_hear_x_tx xe_ told (W_take_50_s0 pc f_pg) (W_take_62_d pc f_pg) (W_take_74_a pc f_pg) tx = tx ∧
      m_next_x_mm_queued pc d xe any gu dp fi qu g ncn nca nqp nqk nqt nt = T.1 ∧ m_next_x_nqp pc d xe any gu dp fi qu g ncn nca nqp nqk nqt nt = nqp ∧ m_next_x_nqk pc d xe any gu dp fi qu g ncn nca nqp nqk nqt fx nt = nqk ∧ m_next_x_nqt pc d xx xe mm any gu dp fi qu g ncn nca nqp nqk nqt nrd nt = nqt) ∨
    (∃ wh k, kR wh k ∧ G_hear_x_g_told told (W_take_50_s0 pc f_pg) (W_take_62_d pc f_pg) (W_take_74_a pc f_pg) = told + 1 ∧ G_hear_x_tw ta told (W_take_50_s0 pc f_pg) (W_take_62_d pc f_pg) (W_take_74_a pc f_pg) tw = upd tw (Int32.toNatClampNeg (told &&& 3)) wh ∧ G_hear_x_tp told pc (W_take_50_s0 pc f_pg) (W_take_62_d pc f_pg) (W_take_74_a pc f_pg) tp = upd tp (Int32.toNatClampNeg (told &&& 3)) pc ∧ G_hear_x_tx xe_ told (W_take_50_s0 pc f_pg) (W_take_62_d pc f_pg) (W_take_74_a pc f_pg) tx = upd tx (Int32.toNatClampNeg (told &&& 3)) xe_ ∧
      m_next_x_mm_queued pc d xe any gu dp fi qu g ncn nca nqp nqk nqt nt = T.1 + 1 ∧ m_next_x_nqp pc d xe any gu dp fi qu g ncn nca nqp nqk nqt nt = upd nqp (Int32.toNatClampNeg (m_tell_19_l2 T.2.1 T.1)) pc ∧ m_next_x_nqk pc d xe any gu dp fi qu g ncn nca nqp nqk nqt fx nt = upd nqk (Int32.toNatClampNeg (m_tell_19_l2 T.2.1 T.1)) k ∧ m_next_x_nqt pc d xx xe mm any gu dp fi qu g ncn nca nqp nqk nqt nrd nt = vp_updL nqt (Int32.toNatClampNeg (m_tell_19_l2 T.2.1 T.1)) (m_next_398_xe pc d xx xe mm any gu g nrd))) ∧
    (m_next_580_mm_queued pc d xe any gu dp fi qu g ncn nca nqp nqk nqt nt = T.1 ∨ m_next_580_mm_queued pc d xe any gu dp fi qu g ncn nca nqp nqk nqt nt = T.1 + 1) := by
  obtain ⟨o1, o2, o3⟩ := op_2 (tk_o (pc := pc) hp)
  have ed := tk_d (pc := pc) hp
  have ea := tk_a (pc := pc) hp
  generalize hop : W_take_50_s0 pc f_pg = op at *
  generalize hd : W_take_62_d pc f_pg = dd at *
  generalize ha : W_take_74_a pc f_pg = a at *
  by_cases b : op < 40 ∨ 43 < op
  · have b' := o1.mp b
    have q1 : m_next_580_mm_queued pc d xe any gu dp fi qu g ncn nca nqp nqk nqt nt = T.1 := by
      unfold m_next_580_mm_queued
      rw [hT]
      by_cases l : m_next_151_s0 pc g < 40
      · rw [if_pos l]
      · rw [if_neg l, if_pos (b'.resolve_left l)]
    have q2 : m_next_580_nqp pc d xe any gu dp fi qu g ncn nca nqp nqk nqt nt = nqp := by
      unfold m_next_580_nqp
      by_cases l : m_next_151_s0 pc g < 40
      · rw [if_pos l]
      · rw [if_neg l, if_pos (b'.resolve_left l)]
    have q3 : m_next_580_nqk pc d xe any gu dp fi qu g ncn nca nqp nqk nqt fx nt = nqk := by
      unfold m_next_580_nqk
      by_cases l : m_next_151_s0 pc g < 40
      · rw [if_pos l]
      · rw [if_neg l, if_pos (b'.resolve_left l)]
    have q4 : m_next_580_nqt pc d xx xe mm any gu dp fi qu g ncn nca nqp nqk nqt nrd nt = nqt := by
      unfold m_next_580_nqt
      by_cases l : m_next_151_s0 pc g < 40
      · rw [if_pos l]
      · rw [if_neg l, if_pos (b'.resolve_left l)]
    refine ⟨?_, Or.inl q1⟩
    have h0 := ib_0 b
    by_cases c : (op = 44 ∨ op = 45) ∧ dd = 15
    · right
      have h1 := ic_1 c.1 c.2
      have J : ¬ (((m_next_151_s0 pc g) = 44 ∧ ¬ (m_next_161_l10 pc g) = 15) ∨ (¬ (m_next_151_s0 pc g) = 44 ∧ (¬ (m_next_151_s0 pc g) = 45 ∨ ¬ (m_next_161_l10 pc g) = 15))) := by
        rw [ed, ← o2, ← o3]
        rintro (⟨-, n⟩ | ⟨n, m⟩)
        · exact n c.2
        · exact m.elim (fun n2 => c.1.elim n n2) (fun n2 => n2 c.2)
      refine ⟨2, 2, Or.inr (Or.inr (Or.inl ⟨rfl, rfl⟩)), (if_pos h0).trans (if_neg h1), (if_pos h0).trans (if_neg h1), (if_pos h0).trans (if_neg h1), (if_pos h0).trans (if_neg h1), ?_, ?_, ?_, ?_⟩
      · refine (if_neg J).trans ?_; rw [q1]
      · refine (if_neg J).trans ?_; unfold m_tell_29_nqp; rw [q1, q2, hT]
      · refine (if_neg J).trans ?_; unfold m_tell_36_nqk; rw [q1, q3, hT]
      · refine (if_neg J).trans ?_; unfold m_tell_46_nqt; rw [q1, q4, hT]
    · have h1 := ic_0 c
      have J : (((m_next_151_s0 pc g) = 44 ∧ ¬ (m_next_161_l10 pc g) = 15) ∨ (¬ (m_next_151_s0 pc g) = 44 ∧ (¬ (m_next_151_s0 pc g) = 45 ∨ ¬ (m_next_161_l10 pc g) = 15))) := by
        rw [ed, ← o2, ← o3]
        by_cases z : op = 44
        · exact Or.inl ⟨z, fun n => c ⟨Or.inl z, n⟩⟩
        · refine Or.inr ⟨z, ?_⟩
          by_cases z2 : op = 45
          · exact Or.inr (fun n => c ⟨Or.inr z2, n⟩)
          · exact Or.inl z2
      by_cases r : op = 45 ∧ a = 15 ∧ dd = 0
      · right
        have h2 := ir_1 r.1 r.2.1 r.2.2
        have r1 : m_next_151_s0 pc g = 45 := o3.mp r.1
        have r2 : m_next_171_l11 pc g = 15 := ea.trans r.2.1
        have r3 : m_next_161_l10 pc g = 0 := ed.trans r.2.2
        refine ⟨3, 3, Or.inr (Or.inr (Or.inr ⟨rfl, rfl⟩)), (if_pos h0).trans ((if_pos h1).trans (if_neg h2)), (if_pos h0).trans ((if_pos h1).trans (if_neg h2)), (if_pos h0).trans ((if_pos h1).trans (if_neg h2)), (if_pos h0).trans ((if_pos h1).trans (if_neg h2)), ?_, ?_, ?_, ?_⟩
        · refine (if_pos J).trans ((if_pos r1).trans ((if_pos r2).trans ((if_pos r3).trans ?_))); rw [q1]
        · refine (if_pos J).trans ((if_pos r1).trans ((if_pos r2).trans ((if_pos r3).trans ?_))); unfold m_tell_29_nqp; rw [q1, q2, hT]
        · refine (if_pos J).trans ((if_pos r1).trans ((if_pos r2).trans ((if_pos r3).trans ?_))); unfold m_tell_36_nqk; rw [q1, q3, hT]
        · refine (if_pos J).trans ((if_pos r1).trans ((if_pos r2).trans ((if_pos r3).trans ?_))); unfold m_tell_46_nqt; rw [q1, q4, hT]
      · left
        have h2 := ir_0 r
        have N : ∀ {α : Type} (x y : α), (if m_next_151_s0 pc g = 45 then (if m_next_171_l11 pc g = 15 then (if m_next_161_l10 pc g = 0 then x else y) else y) else y) = y := by
          intro α x y
          by_cases r1 : m_next_151_s0 pc g = 45
          · by_cases r2 : m_next_171_l11 pc g = 15
            · rw [if_pos r1, if_pos r2, if_neg (fun r3 => r ⟨o3.mpr r1, ea.symm.trans r2, ed.symm.trans r3⟩)]
            · rw [if_pos r1, if_neg r2]
          · rw [if_neg r1]
        exact ⟨(if_pos h0).trans ((if_pos h1).trans (if_pos h2)), (if_pos h0).trans ((if_pos h1).trans (if_pos h2)), (if_pos h0).trans ((if_pos h1).trans (if_pos h2)), (if_pos h0).trans ((if_pos h1).trans (if_pos h2)), (if_pos J).trans ((N _ _).trans q1), (if_pos J).trans ((N _ _).trans q2), (if_pos J).trans ((N _ _).trans q3), (if_pos J).trans ((N _ _).trans q4)⟩
  · have h0 := ib_1 b
    have b' : ¬ (m_next_151_s0 pc g < 40 ∨ 43 < m_next_151_s0 pc g) := fun z => b (o1.mpr z)
    have l1 : ¬ m_next_151_s0 pc g < 40 := fun z => b' (Or.inl z)
    have l2 : ¬ 43 < m_next_151_s0 pc g := fun z => b' (Or.inr z)
    have n4 : ¬ m_next_151_s0 pc g = 44 := fun z => l2 (by rw [z]; decide)
    have n5 : ¬ m_next_151_s0 pc g = 45 := fun z => l2 (by rw [z]; decide)
    have J : (((m_next_151_s0 pc g) = 44 ∧ ¬ (m_next_161_l10 pc g) = 15) ∨ (¬ (m_next_151_s0 pc g) = 44 ∧ (¬ (m_next_151_s0 pc g) = 45 ∨ ¬ (m_next_161_l10 pc g) = 15))) := Or.inr ⟨n4, Or.inl n5⟩
    have q1 : m_next_580_mm_queued pc d xe any gu dp fi qu g ncn nca nqp nqk nqt nt = T.1 + 1 := by
      unfold m_next_580_mm_queued
      rw [hT, if_neg l1, if_neg l2]
    refine ⟨Or.inr ⟨G_hear_17_s0 ta, m_next_577_s0 pc g fx, ?_, if_neg h0, if_neg h0, if_neg h0, if_neg h0, (if_pos J).trans ((if_neg n5).trans q1), ?_, ?_, ?_⟩, Or.inr q1⟩
    · unfold m_next_577_s0 G_hear_17_s0
      rw [hta]
      by_cases z : ta = 0
      · rw [if_pos z, if_pos z]; exact Or.inr (Or.inl ⟨rfl, rfl⟩)
      · rw [if_neg z, if_neg z]; exact Or.inl ⟨rfl, rfl⟩
    · refine (if_pos J).trans ((if_neg n5).trans ((if_neg l1).trans ((if_neg l2).trans ?_))); unfold m_tell_29_nqp; rw [hT]
    · refine (if_pos J).trans ((if_neg n5).trans ((if_neg l1).trans ((if_neg l2).trans ?_))); unfold m_tell_36_nqk; rw [hT]
    · refine (if_pos J).trans ((if_neg n5).trans ((if_neg l1).trans ((if_neg l2).trans ?_))); unfold m_tell_46_nqt; rw [hT]
/-- the guess -/
theorem GUESS {f_pg cn ri : Nat → Int32} {sz nw : Nat} (hp : eqOn 1024 f_pg g) (hca : caR sz nw ri nca) (hcn : eqOn 64 cn ncn) :
    G_guess_ret pc (W_take_50_s0 pc f_pg) (W_take_62_d pc f_pg) (W_take_74_a pc f_pg) (W_take_98_i pc f_pg) cn (nI sz) (nI nw) ri = m_guess_ret (m_next_151_s0 pc g) (m_next_171_l11 pc g) (m_next_161_l10 pc g) (m_next_191_l13 pc g) pc (nI sz) ncn nca := by
  obtain ⟨o1, o2, o3⟩ := op_2 (tk_o (pc := pc) hp)
  rw [tk_d hp, tk_a hp, tk_i hp]
  unfold G_guess_ret m_guess_ret
  by_cases b : W_take_50_s0 pc f_pg < 40 ∨ 43 < W_take_50_s0 pc f_pg
  · rw [if_pos (ib_0 b), if_pos (o1.mp b)]
    by_cases c : W_take_50_s0 pc f_pg = 44
    · rw [if_pos c, if_pos (o2.mp c)]
    · rw [if_neg c, if_neg (fun z => c (o2.mpr z))]
      by_cases r : W_take_50_s0 pc f_pg = 45 ∧ W_take_74_a pc f_pg = 15 ∧ W_take_62_d pc f_pg = 0
      · by_cases s : nI sz ≤ 0
        · rw [if_pos (Or.inr s), if_pos (Or.inr (Or.inr (Or.inr s)))]
        · have h8 := hca.1
          have s0 : 0 < sz := by
            rcases Nat.eq_zero_or_pos sz with z | z
            · exact absurd (by rw [z]; decide) s
            · exact z
          have e2 : nI sz - 1 = nI (sz - 1) := by
            have := nI_pred (sz - 1)
            rw [show sz - 1 + 1 = sz by omega] at this
            exact this
          rw [if_neg (fun z => z.elim (ir_1 r.1 r.2.1 r.2.2) s), if_neg (fun z => z.elim (fun n => n (o3.mp r.1)) (fun z => z.elim (fun n => n r.2.1) (fun z => z.elim (fun n => n r.2.2) s))), e2, nI_clamp (by have := hca.2.1; omega), nI_clamp (by omega)]
          have := hca.2.2 0 s0
          rw [show (nw + 8 - 0) % 8 = nw by have := hca.2.1; omega] at this
          exact this
      · rw [if_pos (Or.inl (ir_0 r)), if_pos]
        by_cases r1 : m_next_151_s0 pc g = 45
        · by_cases r2 : W_take_74_a pc f_pg = 15
          · exact Or.inr (Or.inr (Or.inl (fun r3 => r ⟨o3.mpr r1, r2, r3⟩)))
          · exact Or.inr (Or.inl r2)
        · exact Or.inl r1
  · rw [if_neg (ib_1 b), if_neg (fun z => b (o1.mpr z))]
    unfold G_guess_41_s0 m_guess_44_s0
    obtain ⟨u, hu, eu⟩ := vp_in_of (in63 pc) (by decide)
    rw [eu, nI_clamp (by omega), hcn u hu]
    have : ncn u < 2 ↔ ncn u ≤ 1 := by
      rw [Int32.lt_iff_toInt_lt, Int32.le_iff_toInt_le]
      have e1 : Int32.toInt 2 = 2 := rfl
      have e2 : Int32.toInt 1 = 1 := rfl
      omega
    by_cases z : ncn u ≤ 1
    · rw [if_pos z, if_pos (this.mpr z)]
    · rw [if_neg z, if_neg (fun y => z (this.mp y))]
end

