/-! both loops -/
def hpC (v : VB) : Prop := (vp_in (v.1 10) 1024) ∧ (vp_in (v.1 4) 16) ∧ (¬ (v.1 25) < 0) ∧ (¬ G_hb_F (M_finish_x_sg_f (v.1 0) (v.1 12) (v.1 14) (v.1 15) (v.1 18)) (v.1 22) (v.2 4) (v.2 5) (v.2 6) (G_hb (M_finish_x_sg_f (v.1 0) (v.1 12) (v.1 14) (v.1 15) (v.1 18)) (v.1 22) (v.2 4) (v.2 5) (v.2 6) 4 (((v.1 21), (v.1 23), (v.1 24), (v.2 3), (v.2 7)) : HT))) ∧ (vp_in ((G_hb (M_finish_x_sg_f (v.1 0) (v.1 12) (v.1 14) (v.1 15) (v.1 18)) (v.1 22) (v.2 4) (v.2 5) (v.2 6) 4 (((v.1 21), (v.1 23), (v.1 24), (v.2 3), (v.2 7)) : HT)).2.2.1) 8)
def hpM (g : Nat → Int32) (v : UB) : Prop := (¬ (v.1 12) < 0 → vp_in (v.1 12) 1024) ∧ (¬ (v.1 10) ≤ 0 → vp_in (v.1 10) 16) ∧ (¬ (v.1 7) < 0) ∧ (¬ m_tl_F (m_next_81_s0 (v.2.1 1) (v.2.1 3) (v.1 8) (v.1 9)) (v.2.2.1 7) (v.2.2.1 8) (v.2.2.2 1) (m_tl (m_next_81_s0 (v.2.1 1) (v.2.1 3) (v.1 8) (v.1 9)) (v.2.2.1 7) (v.2.2.1 8) (v.2.2.2 1) 4 (((v.1 24), (v.1 23), (v.1 22), (v.2.2.1 5), (v.2.2.1 6)) : HT))) ∧ (∀ k, k ≤ 4 → (fun v : HT => (vp_in v.2.1 64) ∧ (vp_in v.2.2.1 9)) (m_tl (m_next_81_s0 (v.2.1 1) (v.2.1 3) (v.1 8) (v.1 9)) (v.2.2.1 7) (v.2.2.1 8) (v.2.2.2 1) k (((v.1 24), (v.1 23), (v.1 22), (v.2.2.1 5), (v.2.2.1 6)) : HT))) ∧
  (¬ ((m_tl (m_next_81_s0 (v.2.1 1) (v.2.1 3) (v.1 8) (v.1 9)) (v.2.2.1 7) (v.2.2.1 8) (v.2.2.2 1) 4 (((v.1 24), (v.1 23), (v.1 22), (v.2.2.1 5), (v.2.2.1 6)) : HT)).2.2.1) ≤ 0 → vp_in (((m_tl (m_next_81_s0 (v.2.1 1) (v.2.1 3) (v.1 8) (v.1 9)) (v.2.2.1 7) (v.2.2.1 8) (v.2.2.2 1) 4 (((v.1 24), (v.1 23), (v.1 22), (v.2.2.1 5), (v.2.2.1 6)) : HT)).2.2.1) - 1) 8) ∧ (vp_in (m_tell_19_l2 ((m_tl (m_next_81_s0 (v.2.1 1) (v.2.1 3) (v.1 8) (v.1 9)) (v.2.2.1 7) (v.2.2.1 8) (v.2.2.2 1) 4 (((v.1 24), (v.1 23), (v.1 22), (v.2.2.1 5), (v.2.2.1 6)) : HT)).2.1) ((m_tl (m_next_81_s0 (v.2.1 1) (v.2.1 3) (v.1 8) (v.1 9)) (v.2.2.1 7) (v.2.2.1 8) (v.2.2.2 1) 4 (((v.1 24), (v.1 23), (v.1 22), (v.2.2.1 5), (v.2.2.1 6)) : HT)).1)) 64) ∧
  (vp_in (m_tell_19_l2 ((m_tl (m_next_81_s0 (v.2.1 1) (v.2.1 3) (v.1 8) (v.1 9)) (v.2.2.1 7) (v.2.2.1 8) (v.2.2.2 1) 4 (((v.1 24), (v.1 23), (v.1 22), (v.2.2.1 5), (v.2.2.1 6)) : HT)).2.1) (m_next_580_mm_queued (v.1 0) (v.2.1 1) (v.2.1 3) (v.1 8) (v.1 9) (v.1 22) (v.1 23) (v.1 24) g (v.2.2.1 5) (v.2.2.1 6) (v.2.2.1 7) (v.2.2.1 8) (v.2.2.2 1) 4)) 64)
theorem nI_ge0 {T : Nat} (h : T < 2 ^ 30) : ¬ nI T < 0 := fun z => (vp_in_nI (n := T) (N := 2 ^ 30) h (by decide)) (Or.inl z)
theorem HP {v : VB} {u : UB} {ME : Nat} (g : Nat → Int32) (hB : ME < 2 ^ 27) (hPB : PB v u ME) (hPA : PA v u ME) : hpC v ∧ hpM g u := by
  obtain ⟨F0, D, X, XE, M, hd, q, fi, sz, nw, r, ⟨a1, a2, a3, a4, a5, a6, a7, b1, b2, b3, b4, b5, b6, k1, k2, k3, k4, k5⟩, ⟨g1, g2, g3, g4, g5, g6, g7, g8, g9, g10, g11, g12, g13⟩, hq, w1, w2, w3, w4, w5, w6, w7, w8, w9, w10, w11, hPE⟩ := hPB
  obtain ⟨-, -, -, ⟨T, t1, t2, t3⟩, -⟩ := hPA
  have na : ¬ u.1 8 = 0 := by rw [w6]; decide
  obtain ⟨Fc, hFc, lFc⟩ : ∃ F : Nat, M_finish_x_sg_f (v.1 0) (v.1 12) (v.1 14) (v.1 15) (v.1 18) = nI F ∧ F < 2 ^ 29 := by
    unfold M_finish_x_sg_f S_goOn_18_s0
    rw [a4, a2, a1]
    by_cases y : v.1 12 = 0
    · rw [if_pos y]
      by_cases z : v.1 0 = 0
      · rw [if_pos z]; exact ⟨XE + 1, nI_1 XE, by omega⟩
      · rw [if_neg z]; exact ⟨D, rfl, by omega⟩
    · rw [if_neg y]; exact ⟨F0, rfl, by omega⟩
  obtain ⟨Fm, hFm, lFm⟩ : ∃ F : Nat, m_next_81_s0 (u.2.1 1) (u.2.1 3) (u.1 8) (u.1 9) = lN F ∧ F < 2 ^ 29 := by
    unfold m_next_81_s0
    rw [if_neg na, b3, b1]
    by_cases z : u.1 9 = 0
    · rw [if_pos z]; exact ⟨XE + 1, lN_1 XE, by omega⟩
    · rw [if_neg z]; exact ⟨D, rfl, by omega⟩
  obtain ⟨c1, c2, -⟩ := HQ lFc g11 (show hd + q < 2 ^ 29 by omega) g12 g8 g9 g10
  obtain ⟨-, -, c3, c4, q1, fi', sz', ncn', nca', c5, c6, c7, c8⟩ := HQ lFm g11 (show hd + q < 2 ^ 29 by omega) g12 g8 g9 g10
  refine ⟨⟨w8, w7, by rw [t1]; exact nI_ge0 (by omega), ?_, ?_⟩, ⟨w10, w11, by rw [t2]; exact nI_ge0 (by omega), ?_, ?_, ?_, ?_, ?_⟩⟩
  · rw [hFc, g1, g2, g3, g4]; exact c1
  · rw [hFc, g1, g2, g3, g4]; exact c2
  · rw [hFm, g5, g6, g7]; exact c3
  · intro k hk
    rw [hFm, g5, g6, g7]; exact c4 k hk
  · rw [hFm, g5, g6, g7, c5]; exact sz_8 c8
  · rw [hFm, g5, g6, g7, c5]; exact tl_19 c7 (by omega)
  · have h5 := (TELL (pc := u.1 0) (g := g) (f_pg := g) (fx := g) (told := 0) (xe_ := 0) (tw := g) (tp := g) (tx := g) (xx := 0) (mm := 0) (nrd := fun _ => 0) (fun _ _ => rfl) rfl (d := u.2.1 1) (xe := u.2.1 3) (any := u.1 8) (gu := u.1 9) (dp := nI sz) (fi := nI fi) (qu := nI q) (ncn := u.2.2.1 5) (nca := u.2.2.1 6) (nqp := u.2.2.1 7) (nqk := u.2.2.1 8) (nqt := u.2.2.2 1) (nt := 4) (T := (nI q1, nI fi', nI sz', ncn', nca')) (by rw [hFm]; exact c5)).2
    rw [g5, g6, g7]
    rcases h5 with h | h
    · rw [h, hFm, c5]; exact tl_19 c7 (by omega)
    · rw [h, hFm, c5]
      show vp_in (m_tell_19_l2 (nI fi') (nI q1 + 1)) 64
      rw [nI_1]
      exact tl_19 c7 (by omega)
/-- the last one: nothing is started after it -/
theorem LASTC {nn cyc : Int32} {f_pg : Nat → Int32} {v : VB} {u u2 : UB} {ME : Nat} (hPB : PB v u ME) (h12 : ¬ v.1 12 = 0)
    (i1 : ∀ k, ¬ k = 1 → ¬ k = 6 → ¬ k = 21 → u2.1 k = u.1 k) (i2 : u2.2.1 = u.2.1) (i3 : ∀ k, u2.2.2.1 k = u.2.2.1 k) (i4 : ∀ k, u2.2.2.2 k = u.2.2.2 k) : PB (M_ad_s nn cyc f_pg 4 v) u2 ME := by
  have hE : ¬ M_finish_x_t_ending (v.1 12) (v.1 26) = 0 := by unfold M_finish_x_t_ending; rw [if_neg h12]; exact h12
  obtain ⟨F0, D, X, XE, M, hd, q, fi, sz, nw, r, ⟨a1, a2, a3, a4, a5, a6, a7, b1, b2, b3, b4, b5, b6, k1, k2, k3, k4, k5⟩, ⟨g1, g2, g3, g4, g5, g6, g7, g8, g9, g10, g11, g12, g13⟩, hq, w1, w2, w3, w4, w5, w6, w7, w8, w9, w10, w11, hPE⟩ := hPB
  have n0 : (M_ad_s nn cyc f_pg 4 v).1 0 = v.1 0 := if_neg hE
  have n1 : (M_ad_s nn cyc f_pg 4 v).1 1 = v.1 1 := if_neg hE
  have n2 : (M_ad_s nn cyc f_pg 4 v).1 2 = v.1 2 := if_neg hE
  have n4 : (M_ad_s nn cyc f_pg 4 v).1 4 = v.1 4 := if_neg hE
  have n8 : (M_ad_s nn cyc f_pg 4 v).1 8 = v.1 8 := if_neg hE
  have n10 : (M_ad_s nn cyc f_pg 4 v).1 10 = v.1 10 := if_neg hE
  have n11 : (M_ad_s nn cyc f_pg 4 v).1 11 = v.1 11 := if_neg hE
  have n12 : (M_ad_s nn cyc f_pg 4 v).1 12 = v.1 12 := if_neg hE
  have n13 : (M_ad_s nn cyc f_pg 4 v).1 13 = v.1 13 := if_neg hE
  have n14 : (M_ad_s nn cyc f_pg 4 v).1 14 = v.1 14 := if_neg h12
  have n15 : (M_ad_s nn cyc f_pg 4 v).1 15 = v.1 15 := if_neg hE
  have n16 : (M_ad_s nn cyc f_pg 4 v).1 16 = v.1 16 := if_neg hE
  have n17 : (M_ad_s nn cyc f_pg 4 v).1 17 = v.1 17 := if_neg hE
  have n18 : (M_ad_s nn cyc f_pg 4 v).1 18 = v.1 18 := if_neg hE
  have n19 : (M_ad_s nn cyc f_pg 4 v).1 19 = v.1 19 := if_neg hE
  have n20 : (M_ad_s nn cyc f_pg 4 v).1 20 = v.1 20 := if_neg hE
  have n21 : (M_ad_s nn cyc f_pg 4 v).1 21 = v.1 21 := if_neg hE
  have n22 : (M_ad_s nn cyc f_pg 4 v).1 22 = v.1 22 := if_neg hE
  have n23 : (M_ad_s nn cyc f_pg 4 v).1 23 = v.1 23 := if_neg hE
  have n24 : (M_ad_s nn cyc f_pg 4 v).1 24 = v.1 24 := if_neg hE
  have m3 : (M_ad_s nn cyc f_pg 4 v).2 3 = v.2 3 := if_neg hE
  have m4 : (M_ad_s nn cyc f_pg 4 v).2 4 = v.2 4 := if_neg hE
  have m5 : (M_ad_s nn cyc f_pg 4 v).2 5 = v.2 5 := if_neg hE
  have m6 : (M_ad_s nn cyc f_pg 4 v).2 6 = v.2 6 := if_neg hE
  have m7 : (M_ad_s nn cyc f_pg 4 v).2 7 = v.2 7 := if_neg hE
  have m8 : (M_ad_s nn cyc f_pg 4 v).2 8 = v.2 8 := if_neg hE
  have j : ∀ k, 7 ≤ k → ¬ k = 21 → u2.1 k = u.1 k := fun k h h2 => i1 k (by omega) (by omega) h2
  refine ⟨F0, D, X, XE, M, hd, q, fi, sz, nw, r, ⟨n14.trans a1, n18.trans a2, n19.trans a3, n15.trans a4, n20.trans a5, n16.trans a6, n17.trans a7, by rw [i2]; exact b1, by rw [i2]; exact b2, by rw [i2]; exact b3, by rw [i2]; exact b4, by rw [i2]; exact b5, by rw [i2]; exact b6, k1, k2, k3, k4, k5⟩, ⟨n21.trans g1, n22.trans g2, n23.trans g3, n24.trans g4, (j 24 (by omega) (by omega)).trans g5, (j 23 (by omega) (by omega)).trans g6, (j 22 (by omega) (by omega)).trans g7, ?_, ?_, ?_, g11, g12, ?_⟩, hq, ?_, ?_, ?_, ?_, ?_, (j 8 (by omega) (by omega)).trans w6, ?_, ?_, ?_, ?_, ?_, ?_⟩
  · rw [m7, i3]; exact g8
  · rw [m3, i3]; exact g9
  · rw [m4, m5, m6, i3, i3, i4]; exact g10
  · rw [m6]; exact g13
  · rw [n2, j 15 (by omega) (by omega)]; exact w1
  · rw [n8, i1 0 (by omega) (by omega) (by omega)]; exact w2
  · rw [n1, j 18 (by omega) (by omega)]; exact w3
  · rw [n11, j 19 (by omega) (by omega)]; exact w4
  · rw [n0, j 9 (by omega) (by omega)]; exact w5
  · rw [n4]; exact w7
  · rw [n10]; exact w8
  · rw [m8, i3]; exact w9
  · rw [j 12 (by omega) (by omega)]; exact w10
  · rw [j 10 (by omega) (by omega)]; exact w11
  · rcases hPE with ⟨E0, -⟩ | ⟨L1, A1, W1, E1⟩
    · exact absurd E0 h12
    · refine Or.inr ⟨(j 20 (by omega) (by omega)).trans L1, (j 12 (by omega) (by omega)).trans A1, ?_, ?_⟩
      · rw [n13, j 16 (by omega) (by omega)]; exact W1
      · rw [n12, n13]; exact E1
theorem LASTA {nn cyc : Int32} {f_pg : Nat → Int32} {v : VB} {u u2 : UB} {ME : Nat} (hPA : PA v u ME) (h12 : ¬ v.1 12 = 0) (hw : u.1 16 = v.1 13) (ha : v.1 2 = u.1 15)
    (i1 : ∀ k, ¬ k = 1 → ¬ k = 6 → ¬ k = 21 → u2.1 k = u.1 k) (i6 : u2.1 6 = u.1 15) (it : u2.1 1 = u.1 16) (i3 : ∀ k, u2.2.2.1 k = u.2.2.1 k) : PA (M_ad_s nn cyc f_pg 4 v) u2 ME := by
  obtain ⟨a1, a2, a3, ⟨T, t1, t2, t3⟩, a4, a5, a6, a7, a8, a9⟩ := hPA
  have s0 : (M_ad_s nn cyc f_pg 4 v).2 0 = v.2 0 := if_neg h12
  have s1 : (M_ad_s nn cyc f_pg 4 v).2 1 = v.2 1 := if_neg h12
  have s9 : (M_ad_s nn cyc f_pg 4 v).2 9 = v.2 9 := if_neg h12
  have s25 : (M_ad_s nn cyc f_pg 4 v).1 25 = v.1 25 := if_neg h12
  have s27 : (M_ad_s nn cyc f_pg 4 v).1 27 = v.1 13 := if_neg h12
  have s29 : (M_ad_s nn cyc f_pg 4 v).1 29 = v.1 29 := if_neg h12
  have s30 : (M_ad_s nn cyc f_pg 4 v).1 30 = v.1 30 := if_neg h12
  have s31 : (M_ad_s nn cyc f_pg 4 v).1 31 = v.1 31 := if_neg h12
  have s32 : (M_ad_s nn cyc f_pg 4 v).1 32 = v.1 32 := if_neg h12
  refine ⟨by rw [s0, i3]; exact a1, by rw [s1, i3]; exact a2, by rw [s9, i3]; exact a3, ⟨T, s25.trans t1, (i1 7 (by omega) (by omega) (by omega)).trans t2, t3⟩, ?_, ?_, ?_, ?_, ?_, ?_⟩
  · rw [s27, it]; exact hw.symm
  · rw [i6]; exact ha
  · rw [s29, i1 2 (by omega) (by omega) (by omega)]; exact a6
  · rw [s30, i1 3 (by omega) (by omega) (by omega)]; exact a7
  · rw [s31, i1 4 (by omega) (by omega) (by omega)]; exact a8
  · rw [s32, i1 5 (by omega) (by omega) (by omega)]; exact a9

