/-! one round of both loops -/
set_option maxHeartbeats 4000000 in
theorem STEP {nn cyc nn' cyc' ended : Int32} {f_pg g : Nat → Int32} {v : VB} {u : UB} {ME : Nat} (hp : eqOn 1024 f_pg g) (hB : ME < 2 ^ 27) (hPB : PB v u ME) (hPA : PA v u ME) (h12 : v.1 12 = 0) (h26 : v.1 26 = 0) :
    ∃ ME' : Nat, PB (M_ad_s nn cyc f_pg 4 v) (m_rn_s nn' cyc' ended g 4 u) ME' ∧ PA (M_ad_s nn cyc f_pg 4 v) (m_rn_s nn' cyc' ended g 4 u) ME' ∧ (M_ad_s nn cyc f_pg 4 v).1 26 = 0 ∧ ME < ME' ∧ ME' ≤ ME + 24 := by
  obtain ⟨F0, D, X, XE, M, hd, q, fi, sz, nw, r, ⟨a1, a2, a3, a4, a5, a6, a7, b1, b2, b3, b4, b5, b6, k1, k2, k3, k4, k5⟩, ⟨g1, g2, g3, g4, g5, g6, g7, g8, g9, g10, g11, g12, g13⟩, hq, w1, w2, w3, w4, w5, w6, w7, w8, w9, w10, w11, hPE⟩ := hPB
  rcases hPE with ⟨E0, L0, hG, hM, hO, hr⟩ | ⟨-, -, -, E1⟩
  · have hE : M_finish_x_t_ending (v.1 12) (v.1 26) = 0 := (if_pos h12).trans h26
    obtain ⟨f1, f2, f3, f4, f5, ⟨T, f6, f7, f8⟩, f9, f10, f11, f12, f13⟩ := FS hPA h12 L0 hG hM hO w7 w8 w3 w4 w5 (show ME < 2 ^ 29 by omega)
    have na : ¬ u.1 8 = 0 := by rw [w6]; decide
    obtain ⟨F, hF, e81, lF, hDF⟩ : ∃ F : Nat, M_finish_x_sg_f (v.1 0) (v.1 12) (v.1 14) (v.1 15) (v.1 18) = nI F ∧ m_next_81_s0 (u.2.1 1) (u.2.1 3) (u.1 8) (u.1 9) = lN F ∧ F ≤ XE + 1 ∧ D ≤ F := by
      unfold M_finish_x_sg_f S_goOn_18_s0 m_next_81_s0
      rw [if_pos h12, if_neg na, ← w5, a4, a2, b3, b1]
      by_cases z : v.1 0 = 0
      · rw [if_pos z, if_pos z]; exact ⟨XE + 1, nI_1 XE, lN_1 XE, Nat.le_refl _, by omega⟩
      · rw [if_neg z, if_neg z]; exact ⟨D, rfl, rfl, by omega, Nat.le_refl _⟩
    have hr' : rdR (ME + 1) r (v.2 2) (u.2.2.2 0) := ⟨hr.1, fun j hj => ⟨(hr.2 j hj).1, (hr.2 j hj).2.1, by have := (hr.2 j hj).2.2; omega⟩⟩
    have hT : tmR hd q M X F (v.2 6) := fun k t hk e ht => by
      have := g13 k t hk e ht
      exact ⟨by omega, this.2.1, fun h => by have := this.2.2 h; omega⟩
    obtain ⟨ME', hPB', l1, l2, l3, l4⟩ := START (pc := u.1 0) (any := u.1 8) (gu := u.1 9) (sgf := M_finish_x_sg_f (v.1 0) (v.1 12) (v.1 14) (v.1 15) (v.1 18)) (sgx := v.1 19) (sgm := v.1 20) (sgw := v.1 17) (hdI := v.1 21) (tdI := v.1 22) (szI := v.1 23) (nwI := v.1 24) (dpI := u.1 22) (fiI := u.1 23) (quI := u.1 24) (rv := u.1 11) (mv := u.1 13) (ov := u.1 14)
      (d := u.2.1 1) (xe := u.2.1 3) (xx := u.2.1 2) (mm := u.2.1 4) (ww := u.2.1 6) (f_pg := f_pg) (g := g) (rg := M_finish_x_rg (v.1 3) (v.1 4) (v.1 9) (v.1 12) (v.2 0)) (sto := M_finish_x_sto (v.1 3) (v.1 9) (v.1 10) (v.1 12) (v.2 1)) (he := v.2 8) (nx := u.2.2.1 0) (nda := u.2.2.1 2) (nli := u.2.2.1 9) (cn := v.2 3) (ri := v.2 7) (ncn := u.2.2.1 5) (nca := u.2.2.1 6) (tw := v.2 4) (tp := v.2 5) (tx := v.2 6) (qp := u.2.2.1 7) (qk := u.2.2.1 8) (rd := v.2 2) (qt := u.2.2.2 1) (nrd := u.2.2.2 0)
      (F := F) (X := X) (M := M) (W := ME + 1) (BB := ME + 1) (hd := hd) (q := q) (fi := fi) (sz := sz) (nw := nw) (r := r) (M_ad_s nn cyc f_pg 4 v) (m_rn_s nn' cyc' ended g 4 u)
      hp f1 f2 w9 (by omega) (by omega) (by omega) (by omega) (Nat.le_refl _) hF a3 a5 a7 g1 g2 g3 g4 g7 g6 g5 e81 (by unfold m_next_47_s0; rw [if_neg na]; exact b2) (by unfold m_next_15_s0; rw [if_neg na]; exact b4) (by unfold m_next_31_s0; rw [if_neg na]; exact b6) hr' g11 (by omega) (by omega) g12 g8 g9 g10 hT
      (by rw [← w2]; exact if_pos hE) (by rw [← w2]; exact if_pos hE) (by rw [← w2]; exact if_pos hE) (by rw [← w2]; exact if_pos hE) (by rw [← w2]; exact if_pos hE) (by rw [← w2]; exact if_pos hE) (by rw [← w2]; exact if_pos hE) (by rw [← w2]; exact if_pos hE) (by rw [← w2]; exact if_pos hE) (by rw [← w2]; exact if_pos hE) (by rw [← w2]; exact if_pos hE) rfl (by rw [← w2]; exact if_pos hE) (by rw [← w2]; exact if_pos hE) (by rw [← w2]; exact if_pos hE) (if_pos hE) (by rw [← w2]; exact if_pos hE) (by rw [← w2]; exact if_pos hE) (if_pos hE) (by rw [← w2]; exact if_pos hE) (if_pos hE) (if_pos hE) rfl rfl (by rw [← w2]; exact if_pos hE) (if_pos hE) (by rw [← w2]; exact if_pos hE) (by rw [← w2]; exact if_pos hE) (by rw [← w2]; exact if_pos hE) (if_pos hE) (by rw [← w2]; exact if_pos hE) rfl rfl rfl rfl rfl rfl rfl rfl rfl rfl rfl rfl rfl rfl rfl rfl rfl rfl rfl rfl rfl rfl rfl rfl rfl rfl rfl rfl rfl rfl rfl rfl rfl
    refine ⟨ME', hPB', ⟨f3, f4, f5, ⟨T, f6, f7, by omega⟩, f9, w1, f10, f11, f12, f13⟩, hE, by omega, by omega⟩
  · rcases E1 with ⟨z, -⟩ | ⟨z, -⟩
    · rw [h12] at z; exact absurd z (by decide)
    · rw [h12] at z; exact absurd z (by decide)

