/-! both loops run side by side -/
theorem goal_c {n c : Nat} (h : c + n ≤ 51200000) : M_advance_8_min (nI n) (nI c) = nI (c + n) := by
  unfold M_advance_8_min
  rw [nI_add, if_neg]
  intro z
  have := (nI_ltI (a := 51200000) (b := c + n) (by decide) (by omega)).mp z
  omega
theorem goal_m {n c : Nat} (h : c + n ≤ 51200000) : m_runOk_33_l2 (nI n) (nI c) = lN (c + n) := by
  unfold m_runOk_33_l2
  rw [nI_l (by omega), nI_l (by omega), lN_add]
theorem RUN {f_pg g : Nat → Int32} {n c : Nat} (hp : eqOn 1024 f_pg g) (hG : c + n ≤ 51200000) : ∀ (d : Nat) (v : VB) (u : UB) (ME k : Nat), PB v u ME → PA v u ME → v.1 26 = 0 → v.1 33 = nI k → k + c ≤ ME → ME ≤ c + n + 24 → c + n < ME + 1 + d →
    ∃ na nr ME' : Nat, ¬ M_ad_F (nI n) (nI c) f_pg 4 (M_ad (nI n) (nI c) f_pg 4 na v) ∧ (∀ j, j ≤ na → hpC (M_ad (nI n) (nI c) f_pg 4 j v)) ∧ ¬ m_rn_F (nI n) (nI c) 0 g 4 (m_rn (nI n) (nI c) 0 g 4 nr u) ∧ (∀ j, j ≤ nr → hpM g (m_rn (nI n) (nI c) 0 g 4 j u)) ∧
      (((M_ad (nI n) (nI c) f_pg 4 na v).1 26 = 0 ∧ PB (M_ad (nI n) (nI c) f_pg 4 na v) (m_rn (nI n) (nI c) 0 g 4 nr u) ME' ∧ PA (M_ad (nI n) (nI c) f_pg 4 na v) (m_rn (nI n) (nI c) 0 g 4 nr u) ME' ∧ c + n < ME' + 1 ∧ ME' ≤ c + n + 24) ∨
       (∃ vp : VB, M_ad (nI n) (nI c) f_pg 4 na v = M_ad_s (nI n) (nI c) f_pg 4 vp ∧ PB vp (m_rn (nI n) (nI c) 0 g 4 nr u) ME' ∧ PA vp (m_rn (nI n) (nI c) 0 g 4 nr u) ME' ∧ ¬ vp.1 12 = 0 ∧ vp.1 26 = 0 ∧ ME' + 1 ≤ c + n)) := by
  have stop : ∀ (v : VB) (u : UB) (ME : Nat), PB v u ME → PA v u ME → v.1 26 = 0 → ME ≤ c + n + 24 → c + n < ME + 1 →
    ∃ na nr ME' : Nat, ¬ M_ad_F (nI n) (nI c) f_pg 4 (M_ad (nI n) (nI c) f_pg 4 na v) ∧ (∀ j, j ≤ na → hpC (M_ad (nI n) (nI c) f_pg 4 j v)) ∧ ¬ m_rn_F (nI n) (nI c) 0 g 4 (m_rn (nI n) (nI c) 0 g 4 nr u) ∧ (∀ j, j ≤ nr → hpM g (m_rn (nI n) (nI c) 0 g 4 j u)) ∧
      (((M_ad (nI n) (nI c) f_pg 4 na v).1 26 = 0 ∧ PB (M_ad (nI n) (nI c) f_pg 4 na v) (m_rn (nI n) (nI c) 0 g 4 nr u) ME' ∧ PA (M_ad (nI n) (nI c) f_pg 4 na v) (m_rn (nI n) (nI c) 0 g 4 nr u) ME' ∧ c + n < ME' + 1 ∧ ME' ≤ c + n + 24) ∨
       (∃ vp : VB, M_ad (nI n) (nI c) f_pg 4 na v = M_ad_s (nI n) (nI c) f_pg 4 vp ∧ PB vp (m_rn (nI n) (nI c) 0 g 4 nr u) ME' ∧ PA vp (m_rn (nI n) (nI c) 0 g 4 nr u) ME' ∧ ¬ vp.1 12 = 0 ∧ vp.1 26 = 0 ∧ ME' + 1 ≤ c + n)) := by
    intro v u ME hPB hPA h26 hU hW
    have hh := HP g (show ME < 2 ^ 27 by omega) hPB hPA
    obtain ⟨F0, D, X, XE, M, hd, q, fi, sz, nw, r, ⟨a1, a2, a3, a4, a5, a6, a7, b1, b2, b3, b4, b5, b6, k1, k2, k3, k4, k5⟩, -⟩ := id hPB
    refine ⟨0, 0, ME, ?_, ?_, ?_, ?_, Or.inl ⟨h26, hPB, hPA, hW, hU⟩⟩
    · intro z
      refine z.2.2.2 ?_
      show M_advance_8_min (nI n) (nI c) < v.1 17
      rw [goal_c hG, a7]; exact nI_lt hW (by omega)
    · intro j hj
      rw [show j = 0 by omega]; exact hh.1
    · intro z
      refine z.2.2.1 ?_
      show m_runOk_33_l2 (nI n) (nI c) < u.2.1 6
      rw [goal_m hG, b6, lN_lt (by omega) (by omega)]; exact hW
    · intro j hj
      rw [show j = 0 by omega]; exact hh.2
  intro d
  induction d with
  | zero =>
    intro v u ME k hPB hPA h26 h33 hk hU hd
    exact stop v u ME hPB hPA h26 hU (by omega)
  | succ d ih =>
    intro v u ME k hPB hPA h26 h33 hk hU hd
    by_cases hW : c + n < ME + 1
    · exact stop v u ME hPB hPA h26 hU hW
    have hh := HP g (show ME < 2 ^ 27 by omega) hPB hPA
    obtain ⟨F0, D, X, XE, M, hd', q, fi, sz, nw, r, ⟨a1, a2, a3, a4, a5, a6, a7, b1, b2, b3, b4, b5, b6, k1, k2, k3, k4, k5⟩, hPQ, hq, w1, w2, w3, w4, w5, w6, w7, w8, w9, w10, w11, hPE⟩ := id hPB
    have n1 : ¬ nI n ≤ v.1 33 := by
      rw [h33]; exact nI_ge (by omega) (by omega)
    have n2 : ¬ M_advance_8_min (nI n) (nI c) < v.1 17 := by
      rw [goal_c hG, a7]
      intro z
      have := (nI_ltI (a := c + n) (b := ME + 1) (by omega) (by omega)).mp z
      omega
    have hF : M_ad_F (nI n) (nI c) f_pg 4 v := ⟨fun z => z.elim n1 (fun z => z.elim (fun z => z h26) n2), n1, h26, n2⟩
    have e1 : ∀ j, M_ad (nI n) (nI c) f_pg 4 (j + 1) v = M_ad (nI n) (nI c) f_pg 4 j (M_ad_s (nI n) (nI c) f_pg 4 v) := fun j => if_pos hF
    have n3 : ¬ m_runOk_33_l2 (nI n) (nI c) < u.2.1 6 := by
      rw [goal_m hG, b6, lN_lt (by omega) (by omega)]; exact hW
    by_cases h12 : v.1 12 = 0
    · have h20 : u.1 20 = 0 := by
        rcases hPE with ⟨-, L0, -⟩ | ⟨-, -, -, E1⟩
        · exact L0
        · rcases E1 with ⟨z, -⟩ | ⟨z, -⟩
          · rw [h12] at z; exact absurd z (by decide)
          · rw [h12] at z; exact absurd z (by decide)
      have hM : m_rn_F (nI n) (nI c) 0 g 4 u := ⟨fun z => z.elim (fun z => z rfl) n3, rfl, n3, h20⟩
      have e2 : ∀ j, m_rn (nI n) (nI c) 0 g 4 (j + 1) u = m_rn (nI n) (nI c) 0 g 4 j (m_rn_s (nI n) (nI c) 0 g 4 u) := fun j => if_pos hM
      obtain ⟨ME1, s1, s2, s3, s4, s5⟩ := STEP (nn := nI n) (cyc := nI c) (nn' := nI n) (cyc' := nI c) (ended := 0) hp (show ME < 2 ^ 27 by omega) hPB hPA h12 h26
      have s6 : (M_ad_s (nI n) (nI c) f_pg 4 v).1 33 = nI (k + 1) := by
        show v.1 33 + 1 = _
        rw [h33, nI_1]
      obtain ⟨na, nr, ME', r1, r2, r3, r4, r5⟩ := ih (M_ad_s (nI n) (nI c) f_pg 4 v) (m_rn_s (nI n) (nI c) 0 g 4 u) ME1 (k + 1) s1 s2 s3 s6 (by omega) (by omega) (by omega)
      refine ⟨na + 1, nr + 1, ME', by rw [e1]; exact r1, ?_, by rw [e2]; exact r3, ?_, by rw [e1, e2]; exact r5⟩
      · intro j hj
        cases j with
        | zero => exact hh.1
        | succ j => rw [e1]; exact r2 j (by omega)
      · intro j hj
        cases j with
        | zero => exact hh.2
        | succ j => rw [e2]; exact r4 j (by omega)
    · have hv : M_ad (nI n) (nI c) f_pg 4 1 v = M_ad_s (nI n) (nI c) f_pg 4 v := e1 0
      have v26 : (M_ad_s (nI n) (nI c) f_pg 4 v).1 26 = v.1 12 := if_neg h12
      refine ⟨1, 0, ME, ?_, ?_, ?_, ?_, Or.inr ⟨v, hv, hPB, hPA, h12, h26, by omega⟩⟩
      · rw [hv]
        intro z
        have := z.2.2.1
        rw [v26] at this
        exact h12 this
      · intro j hj
        rcases (show j = 0 ∨ j = 1 by omega) with rfl | rfl
        · exact hh.1
        · rw [hv]
          have hB' := LASTC (nn := nI n) (cyc := nI c) (f_pg := f_pg) (u2 := u) hPB h12 (fun _ _ _ _ => rfl) rfl (fun _ => rfl) (fun _ => rfl)
          have hA' := LASTA (nn := nI n) (cyc := nI c) (f_pg := f_pg) (u2 := ((fun k => if k = 1 then u.1 16 else if k = 6 then u.1 15 else u.1 k), u.2)) hPA h12 (by
            rcases hPE with ⟨E0, -⟩ | ⟨-, -, W1, -⟩
            · exact absurd E0 h12
            · exact W1) w1 (fun k h1 h6 _ => by show (if k = 1 then _ else if k = 6 then _ else u.1 k) = _; rw [if_neg h1, if_neg h6]) rfl rfl (fun _ => rfl)
          obtain ⟨z1, z2, z3, ⟨T, t1, t2, t3⟩, z4⟩ := hA'
          have hA2 : PA (M_ad_s (nI n) (nI c) f_pg 4 v) ((fun k => if k = 1 then u.1 16 else if k = 6 then u.1 15 else u.1 k), u.2) ME := ⟨z1, z2, z3, ⟨T, t1, t2, t3⟩, z4⟩
          have hB2 := LASTC (nn := nI n) (cyc := nI c) (f_pg := f_pg) (u2 := ((fun k => if k = 1 then u.1 16 else if k = 6 then u.1 15 else u.1 k), u.2)) hPB h12 (fun k h1 h6 _ => by show (if k = 1 then _ else if k = 6 then _ else u.1 k) = _; rw [if_neg h1, if_neg h6]) rfl (fun _ => rfl) (fun _ => rfl)
          exact (HP g (show ME < 2 ^ 27 by omega) hB2 hA2).1
      · intro z
        have h20 : u.1 20 = 1 := by
          rcases hPE with ⟨E0, -⟩ | ⟨L1, -⟩
          · exact absurd E0 h12
          · exact L1
        have := z.2.2.2
        rw [show (m_rn (nI n) (nI c) 0 g 4 0 u).1 20 = u.1 20 from rfl, h20] at this
        exact absurd this (by decide)
      · intro j hj
        rw [show j = 0 by omega]; exact hh.2

