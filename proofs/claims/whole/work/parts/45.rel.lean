/-! the sums of the cycles of the next instruction: class and reference -/
def rdR (B : Nat) (r : Nat → Nat) (rd : Nat → Int32) (nrd : Nat → Int64) : Prop := r 0 = 0 ∧ ∀ j, j < 16 → rd j = nI (r j) ∧ nrd j = lN (r j) ∧ r j ≤ B
theorem SN_T {pc any gu mi : Int32} {f_pg g fx fli rd : Nat → Int32} {nrd : Nat → Int64} {r : Nat → Nat} {d xe xx mm ww : Int64} {F X M W B : Nat} (hp : eqOn 1024 f_pg g) (hB : B < 2 ^ 29) (hF : F ≤ B) (hX : X ≤ B) (hM : M ≤ B) (hW : W ≤ B) (h81 : m_next_81_s0 d xe any gu = lN F) (h47 : m_next_47_s0 xx any = lN X) (h15 : m_next_15_s0 mm any = lN M) (h31 : m_next_31_s0 ww any = lN W) (hr : rdR B r rd nrd)
    (hmi : m_does_x_mm_miss (m_next_114_s0 pc) (m_next_151_s0 pc g) (m_next_171_l11 pc g) (m_next_191_l13 pc g) fx fli = mi) :
    ∃ D' X' XE' M' ME' : Nat, S_pass_11_max (nI F) (nI X) = nI D' ∧ S_pass_92_sg_x (nI F) (nI X) (nI M) (W_take_50_s0 pc f_pg) (W_take_74_a pc f_pg) (W_take_86_b pc f_pg) rd = nI X' ∧ S_pass_104_xe (nI F) (nI X) (nI M) (W_take_50_s0 pc f_pg) (W_take_74_a pc f_pg) (W_take_86_b pc f_pg) rd = nI XE' ∧
      S_pass_155_sg_m (nI F) (nI W) (nI X) (nI M) (W_take_50_s0 pc f_pg) (W_take_74_a pc f_pg) (W_take_86_b pc f_pg) rd = nI M' ∧ S_pass_174_s0 mi (nI F) (nI W) (nI X) (nI M) (W_take_50_s0 pc f_pg) (W_take_74_a pc f_pg) (W_take_86_b pc f_pg) rd = nI ME' ∧ S_pass_184_w mi (nI F) (nI W) (nI X) (nI M) (W_take_50_s0 pc f_pg) (W_take_74_a pc f_pg) (W_take_86_b pc f_pg) rd = nI (ME' + 1) ∧
      m_next_306_max d xx xe any gu = lN D' ∧ m_next_355_xx pc d xx xe mm any gu g nrd = lN X' ∧ m_next_398_xe pc d xx xe mm any gu g nrd = lN XE' ∧ m_next_438_m pc d xx xe mm ww any gu g nrd = lN M' ∧ m_next_480_s0 pc d xx xe mm ww any gu g nrd fx fli = lN ME' ∧ m_next_490_w pc d xx xe mm ww any gu g nrd fx fli = lN (ME' + 1) ∧
      F + 1 ≤ D' ∧ X ≤ D' ∧ D' < X' ∧ M ≤ X' ∧ X' ≤ XE' ∧ XE' < M' ∧ W ≤ M' ∧ M' ≤ ME' ∧ ME' ≤ B + 23 := by
  obtain ⟨o1, o2, o3, o4, o5⟩ := op_1 (tk_o (pc := pc) hp)
  obtain ⟨ja, la, ea⟩ := vp_in_of (show vp_in (W_take_74_a pc f_pg) 16 from in15 _) (by decide)
  obtain ⟨jb, lb, eb⟩ := vp_in_of (show vp_in (W_take_86_b pc f_pg) 16 from in15 _) (by decide)
  obtain ⟨c, c1, c2, ec⟩ := t394_nat (m_next_151_s0 pc g)
  have ka : Int32.toNatClampNeg (W_take_74_a pc f_pg) = ja := by rw [ea, nI_clamp (by omega)]
  have kb : Int32.toNatClampNeg (W_take_86_b pc f_pg) = jb := by rw [eb, nI_clamp (by omega)]
  have ra := hr.2 ja la
  have rb := hr.2 jb lb
  have za : m_next_171_l11 pc g = 0 → r ja = 0 := fun z => by
    rw [tk_a hp, ea] at z
    have : ja = 0 := (nI_eq (a := ja) (b := 0) (by omega) (by decide)).mp z
    rw [this]; exact hr.1
  have zb : m_next_181_l12 pc g = 0 → r jb = 0 := fun z => by
    rw [tk_b hp, eb] at z
    have : jb = 0 := (nI_eq (a := jb) (b := 0) (by omega) (by decide)).mp z
    rw [this]; exact hr.1
  have B30 : B < 2 ^ 30 := by omega
  have ma : nrd (Int32.toNatClampNeg (m_next_171_l11 pc g)) = lN (r ja) := by rw [tk_a hp, ka]; exact ra.2.1
  have mb : nrd (Int32.toNatClampNeg (m_next_181_l12 pc g)) = lN (r jb) := by rw [tk_b hp, kb]; exact rb.2.1
  have s1 := S11 B30 hF hX
  have s2 := S92 (op := W_take_50_s0 pc f_pg) (a := W_take_74_a pc f_pg) (b := W_take_86_b pc f_pg) (rd := rd) B30 hF hX hM ra.2.2 rb.2.2 (by rw [ka]; exact ra.1) (by rw [kb]; exact rb.1)
  have s3 := S104 (op := W_take_50_s0 pc f_pg) (a := W_take_74_a pc f_pg) (b := W_take_86_b pc f_pg) (rd := rd) B30 hF hX hM ra.2.2 rb.2.2 (by rw [ka]; exact ra.1) (by rw [kb]; exact rb.1) c1 (o3.trans ec)
  have s4 := S155 (op := W_take_50_s0 pc f_pg) (a := W_take_74_a pc f_pg) (b := W_take_86_b pc f_pg) (rd := rd) B30 hF hX hM hW ra.2.2 rb.2.2 (by rw [ka]; exact ra.1) (by rw [kb]; exact rb.1) c1 c2 (o3.trans ec)
  have m1 := M306 B30 hF hX h81 h47
  have m2 := M355 (pc := pc) (g := g) B30 hF hX hM ra.2.2 rb.2.2 h81 h47 h15 ma za mb zb
  rw [e295, e241, ← o1, ← o2] at m2
  have m3 := M398 c1 c2 m2 ((e394 pc g).trans ec)
  have lX := tX_le (ra := W_readsA_51_s0 (W_take_50_s0 pc f_pg)) (rb := W_readsB_19_s0 (W_take_50_s0 pc f_pg)) hF hX hM ra.2.2 rb.2.2
  have m4 := M438 (w := W) (pb := r jb) (by omega) (by omega) (by have := rb.2.2; omega) m3 h31 mb zb
  have e435 : m_next_435_s0 pc g = (if W_take_50_s0 pc f_pg = 33 then 1 else 0) := by
    unfold m_next_435_s0
    by_cases q : W_take_50_s0 pc f_pg = 33
    · rw [if_pos q, if_pos (o4.mp q)]
    · rw [if_neg q, if_neg (fun z => q (o4.mpr z))]
  rw [e435] at m4
  have s5 := S174 (mi := mi) s4
  have m5 := M480 m4 hmi
  generalize hx' : tX F X M (W_readsA_51_s0 (W_take_50_s0 pc f_pg)) (W_readsB_19_s0 (W_take_50_s0 pc f_pg)) (r ja) (r jb) = X' at *
  generalize hm' : tM (X' + c - 1) W (if W_take_50_s0 pc f_pg = 33 then 1 else 0) (r jb) = M' at *
  have gM : X' + c - 1 + 1 ≤ M' ∧ W ≤ M' ∧ M' ≤ B + 15 := by
    rw [← hm']
    unfold tM
    have g1 : max (X' + c - 1 + 1) W ≤ tA (max (X' + c - 1 + 1) W) (if W_take_50_s0 pc f_pg = 33 then 1 else 0) (r jb) := tA_ge
    have g2 : tA (max (X' + c - 1 + 1) W) (if W_take_50_s0 pc f_pg = 33 then 1 else 0) (r jb) ≤ B + 15 := tA_le (by omega) (by have := rb.2.2; omega)
    omega
  have gX : tY F X M ≤ X' := by rw [← hx']; exact Nat.le_trans tA_ge tA_ge
  have gQ := tQ_le (m := M') (mi := mi)
  refine ⟨tD F X, X', X' + c - 1, M', tQ M' mi, s1, s2, s3, s4, s5, ?_, m1, m2, m3, m4, m5, ?_, ?_, ?_, ?_, ?_, ?_, ?_, ?_, ?_, ?_⟩
  · unfold S_pass_184_w; rw [s5, nI_1]
  · unfold m_next_490_w; rw [m5, lN_1]
  all_goals (unfold tY at gX; unfold tD at *; omega)

