/-! what the law compares, call by call -/
theorem lt16 (x : Int32) : x < 16 ↔ x ≤ 15 := by
  rw [Int32.lt_iff_toInt_lt, Int32.le_iff_toInt_le]
  have e1 : (16 : Int32).toInt = 16 := rfl
  have e2 : (15 : Int32).toInt = 15 := rfl
  omega
theorem fz : m_fails_10_s0 0 1 = 0 := rfl
theorem fo : m_fails_10_s0 1 1 = 1 := rfl
theorem cd_g {k : Int32} (h1 : ¬ k < 0) (h2 : k < 1024) : m_code_17_s0 k = 0 := if_neg (fun z => z.elim h1 (fun n => n ((lt1024 k).mp h2)))
theorem cd_b {k : Int32} (h : k < 0 ∨ ¬ k < 1024) : m_code_17_s0 k = 1 := if_pos (h.imp id (fun n z => n ((lt1024 k).mpr z)))
theorem da_g {k : Int32} (h1 : ¬ k < 0) (h2 : k < 1024) : m_data_17_s0 k = 0 := cd_g h1 h2
theorem da_b {k : Int32} (h : k < 0 ∨ ¬ k < 1024) : m_data_17_s0 k = 1 := cd_b h
theorem me_g {k : Int32} (h1 : ¬ k < 0) (h2 : k < 1024) : m_memory_17_s0 k = 0 := cd_g h1 h2
theorem me_b {k : Int32} (h : k < 0 ∨ ¬ k < 1024) : m_memory_17_s0 k = 1 := cd_b h
theorem re_g {k : Int32} (h1 : ¬ k < 0) (h2 : k < 16) : m_register_16_s0 k = 0 := if_neg (fun z => z.elim h1 (fun n => n ((lt16 k).mp h2)))
theorem re_b {k : Int32} (h : k < 0 ∨ ¬ k < 16) : m_register_16_s0 k = 1 := if_pos (h.imp id (fun n z => n ((lt16 k).mpr z)))
theorem co_g {k : Int32} (h : vp_in k 9) : m_count_16_s0 k = 0 := by
  obtain ⟨j, hj, rfl⟩ := vp_in_of h (by decide)
  refine if_neg (fun z => z.elim (nI_ge0 (by omega)) (fun n => n (nI_le (a := j) (b := 8) (by omega) (by decide))))
theorem co_b {k : Int32} (h : ¬ vp_in k 9) : m_count_16_s0 k = 1 := by
  refine if_pos ?_
  have h9 : ¬ (0 ≤ k.toInt ∧ k.toInt < (9 : Nat)) := fun z => h (vp_in_iff.mpr z)
  rw [Int32.lt_iff_toInt_lt, Int32.le_iff_toInt_le]
  have e1 : (0 : Int32).toInt = 0 := rfl
  have e2 : (8 : Int32).toInt = 8 := rfl
  omega
theorem ou_g {k o : Int32} (h1 : ¬ k < 0) (h2 : k < O_kept_7_min o) : m_output_25_s0 k o = 0 := by
  refine if_neg ?_
  unfold O_kept_7_min at h2
  rw [Int32.lt_iff_toInt_lt] at h1
  rw [Int32.lt_iff_toInt_lt, Int32.lt_iff_toInt_lt, Int32.le_iff_toInt_le]
  have e1 : (0 : Int32).toInt = 0 := rfl
  have e2 : (1000 : Int32).toInt = 1000 := rfl
  by_cases q : 1000 < o
  · rw [if_pos q, Int32.lt_iff_toInt_lt] at h2
    rw [Int32.lt_iff_toInt_lt] at q
    omega
  · rw [if_neg q, Int32.lt_iff_toInt_lt] at h2
    rw [Int32.lt_iff_toInt_lt] at q
    omega
theorem ou_b {k o : Int32} (h : k < 0 ∨ ¬ k < O_kept_7_min o) : m_output_25_s0 k o = 1 := by
  refine if_pos ?_
  unfold O_kept_7_min at h
  rw [Int32.lt_iff_toInt_lt] at h
  rw [Int32.lt_iff_toInt_lt, Int32.lt_iff_toInt_lt, Int32.le_iff_toInt_le]
  have e1 : (0 : Int32).toInt = 0 := rfl
  have e2 : (1000 : Int32).toInt = 1000 := rfl
  by_cases q : 1000 < o
  · rw [if_pos q, Int32.lt_iff_toInt_lt] at h
    rw [Int32.lt_iff_toInt_lt] at q
    omega
  · rw [if_neg q, Int32.lt_iff_toInt_lt] at h
    rw [Int32.lt_iff_toInt_lt] at q
    omega
theorem on_at {n : Nat} {f g : Nat → Int32} {k : Int32} (h : eqOn n f g) (hk : vp_in k n) (hn : n < 2 ^ 31) : f (Int32.toNatClampNeg k) = g (Int32.toNatClampNeg k) := by
  obtain ⟨j, hj, rfl⟩ := vp_in_of hk hn
  rw [nI_clamp (by omega)]; exact h j hj
theorem re_eq {k : Int32} {f g : Nat → Int32} (h : eqOn 16 f g) (h1 : ¬ k < 0) (h2 : k < 16) : m_register_33_s0 k g = f (Int32.toNatClampNeg k) := (if_pos (re_g h1 h2)).trans (on_at h (in_lt h1 h2 (by decide)) (by decide)).symm
theorem me_eq {k : Int32} {f g : Nat → Int32} (h : eqOn 1024 f g) (h1 : ¬ k < 0) (h2 : k < 1024) : m_memory_34_s0 k g = f (Int32.toNatClampNeg k) := (if_pos (me_g h1 h2)).trans (on_at h (in_lt h1 h2 (by decide)) (by decide)).symm
theorem ou_eq {k o : Int32} {f g : Nat → Int32} (h : eqOn 1000 f g) (h1 : ¬ k < 0) (h2 : k < O_kept_7_min o) : m_output_42_s0 k o g = f (Int32.toNatClampNeg k) := (if_pos (ou_g h1 h2)).trans (on_at h (in_kept h1 h2) (by decide)).symm
theorem co_eq {k c e t d w mi ta la o : Int32} (h : vp_in k 9) : m_count_ret k c e t d w mi ta la o = X_count_ret k c e t la d w mi ta o := if_pos (co_g h)
theorem cd_up {k x : Int32} {f g : Nat → Int32} (h : eqOn 1024 f g) (h1 : ¬ k < 0) (h2 : k < 1024) : eqOn 1024 (upd f (Int32.toNatClampNeg k) x) (m_code_x_ncg k x g) := by
  rw [show m_code_x_ncg k x g = upd g (Int32.toNatClampNeg k) x from if_pos (cd_g h1 h2)]; exact eqOn_upd h
theorem cd_no {k x : Int32} {g : Nat → Int32} (h : k < 0 ∨ ¬ k < 1024) : m_code_x_ncg k x g = g := if_neg (by rw [cd_b h]; decide)
theorem da_up {k x : Int32} {f g : Nat → Int32} (h : eqOn 1024 f g) (h1 : ¬ k < 0) (h2 : k < 1024) : eqOn 1024 (upd f (Int32.toNatClampNeg k) x) (m_data_x_ndg k x g) := by
  rw [show m_data_x_ndg k x g = upd g (Int32.toNatClampNeg k) x from if_pos (da_g h1 h2)]; exact eqOn_upd h
theorem da_no {k x : Int32} {g : Nat → Int32} (h : k < 0 ∨ ¬ k < 1024) : m_data_x_ndg k x g = g := if_neg (by rw [da_b h]; decide)
/-- what a run changes in the invariant's other words: nothing; what any call but run and begin changes: nothing -/
theorem TR_ou {v : VB} {u : UB} {c : Nat} {e : Int32} (h : TR v u c e) : ∃ nw : Nat, nw < 8 ∧ v.1 24 = nI nw ∧ eqOn 1000 (v.2 9) (u.2.2.1 4) := by
  obtain ⟨ME, ⟨F, D, X, XE, M, hd, q, fi, sz, nw, r, -, ⟨-, -, -, g4, -, -, -, g8, -⟩, -⟩, ⟨-, -, a3, -⟩, -⟩ := h
  exact ⟨nw, g8.2.1, g4, a3⟩

