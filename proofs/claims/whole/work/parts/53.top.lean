/-! a call of run: class and reference -/
def TR (v : VB) (u : UB) (c : Nat) (e : Int32) : Prop := ∃ ME : Nat, PB v u ME ∧ PA v u ME ∧ v.1 26 = e ∧ ((e = 0 ∧ c ≤ ME ∧ ME ≤ c + 24) ∨ (¬ e = 0 ∧ ¬ v.1 12 = 0 ∧ c = ME + 1))
def vRun (nn cyc : Int32) (v : VB) : VB := (v.1, (fun k => match k with | 1 => M_advance_x_sto nn cyc v | k => v.2 k))
def uRun (nn cyc e : Int32) (u : UB) : UB := ((fun k => match k with | 1 => m_runOk_x_mm_trap nn cyc e u | 2 => m_runOk_x_mm_done nn cyc e u | 3 => m_runOk_x_mm_wrong nn cyc e u | 4 => m_runOk_x_mm_misses nn cyc e u | 5 => m_runOk_x_mm_taken nn cyc e u | 6 => m_runOk_x_mm_latest nn cyc e u | 7 => m_runOk_x_mm_outs nn cyc e u | 21 => m_runOk_x_mm_stored nn cyc e u | k => u.1 k), u.2.1, (fun k => match k with | 1 => m_runOk_x_nsx nn cyc e u | 3 => m_runOk_x_nsd nn cyc e u | 4 => m_runOk_x_nou nn cyc e u | k => u.2.2.1 k), u.2.2.2)
theorem uRun_o {nn cyc e : Int32} {u : UB} (k : Nat) (h1 : ¬ k = 1) (h2 : ¬ k = 2) (h3 : ¬ k = 3) (h4 : ¬ k = 4) (h5 : ¬ k = 5) (h6 : ¬ k = 6) (h7 : ¬ k = 7) (h21 : ¬ k = 21) : (uRun nn cyc e u).1 k = u.1 k := by
  dsimp only [uRun]
  split <;> first | contradiction | rfl
theorem uRun_p {nn cyc e : Int32} {u : UB} (k : Nat) (h1 : ¬ k = 1) (h3 : ¬ k = 3) (h4 : ¬ k = 4) : (uRun nn cyc e u).2.2.1 k = u.2.2.1 k := by
  dsimp only [uRun]
  split <;> first | contradiction | rfl
theorem vRun_o {nn cyc : Int32} {v : VB} (k : Nat) (h1 : ¬ k = 1) : (vRun nn cyc v).2 k = v.2 k := by
  dsimp only [vRun]
  split <;> first | contradiction | rfl
/-- nothing ended: the store at ME, class and reference -/
theorem TOPA {nn cyc e : Int32} {v : VB} {u : UB} {ME : Nat} (hPB : PB v u ME) (hPA : PA v u ME) (hc : ¬ e = 0 ∨ m_runOk_33_l2 nn cyc < u.2.1 6)
    (hs : (M_advance_x_sto nn cyc v = v.2 1 ∧ m_runOk_124_nsd nn cyc e u = u.2.2.1 3 ∧ m_runOk_124_mm_stored nn cyc e u = u.1 21) ∨ (M_advance_x_sto nn cyc v = M_storeWord_x_sto (v.1 9) (v.1 10) (v.1 12) (v.1 3) (v.2 1) ∧ m_runOk_124_nsd nn cyc e u = m_store_27_nsd (u.1 12) (u.1 13) (u.1 21) (u.2.2.1 3) ∧ m_runOk_124_mm_stored nn cyc e u = 1)) :
    PB (vRun nn cyc v) (uRun nn cyc e u) ME ∧ PA (vRun nn cyc v) (uRun nn cyc e u) ME := by
  obtain ⟨F0, D, X, XE, M, hd, q, fi, sz, nw, r, hPT, hPQ, hq, w1, w2, w3, w4, w5, w6, w7, w8, w9, w10, w11, hPE⟩ := hPB
  obtain ⟨a1, a2, a3, hT, a4, a5, a6, a7, a8, a9⟩ := hPA
  have u1 : (uRun nn cyc e u).1 1 = u.1 1 := if_pos hc
  have u2 : (uRun nn cyc e u).1 2 = u.1 2 := if_pos hc
  have u3 : (uRun nn cyc e u).1 3 = u.1 3 := if_pos hc
  have u4 : (uRun nn cyc e u).1 4 = u.1 4 := if_pos hc
  have u5 : (uRun nn cyc e u).1 5 = u.1 5 := if_pos hc
  have u6 : (uRun nn cyc e u).1 6 = u.1 6 := if_pos hc
  have u7 : (uRun nn cyc e u).1 7 = u.1 7 := if_pos hc
  have u21 : (uRun nn cyc e u).1 21 = m_runOk_124_mm_stored nn cyc e u := if_pos hc
  have x1 : (uRun nn cyc e u).2.2.1 1 = u.2.2.1 1 := if_pos hc
  have x3 : (uRun nn cyc e u).2.2.1 3 = m_runOk_124_nsd nn cyc e u := if_pos hc
  have x4 : (uRun nn cyc e u).2.2.1 4 = u.2.2.1 4 := if_pos hc
  have y1 : (vRun nn cyc v).2 1 = M_advance_x_sto nn cyc v := rfl
  have hsto : eqOn 1024 (M_advance_x_sto nn cyc v) (m_runOk_124_nsd nn cyc e u) := by
    rcases hs with ⟨h1, h2, h3⟩ | ⟨h1, h2, h3⟩
    · rw [h1, h2]; exact a2
    · rw [h1, h2]
      unfold M_storeWord_x_sto m_store_27_nsd
      rcases hPE with ⟨E0, L0, hG, hM, hO, hr⟩ | ⟨L1, A1, W1, E1⟩
      · rcases hM with ⟨g1, g2, g3⟩ | ⟨g1, g2, g3, g4, g5⟩
        · rw [if_pos (show D_isStore_21_s0 (v.1 12) (v.1 3) = 0 from if_pos (Or.inl g1)), g2, if_pos (by decide)]; exact a2
        · rw [if_neg (by rw [show D_isStore_21_s0 (v.1 12) (v.1 3) = 1 from if_neg (fun z => z.elim (fun n => n g1) (fun n => n E0))]; decide), g2, if_neg (fun z => w8 (Or.inl z)), g3]
          by_cases s : u.1 21 = 0
          · rw [if_pos s]; exact eqOn_upd a2
          · rw [if_neg s]
            intro j hj
            by_cases y : j = Int32.toNatClampNeg (v.1 10)
            · rw [y, pk_us, ← y, ← a2 j hj, y]; exact (g5 s).symm
            · rw [pk_un y]; exact a2 j hj
      · have h12 : ¬ v.1 12 = 0 := by
          rcases E1 with ⟨z, -⟩ | ⟨z, -⟩
          · rw [z]; decide
          · rw [z]; decide
        rw [if_pos (show D_isStore_21_s0 (v.1 12) (v.1 3) = 0 from if_pos (Or.inr h12)), A1, if_pos (by decide)]; exact a2
  refine ⟨⟨F0, D, X, XE, M, hd, q, fi, sz, nw, r, hPT, hPQ, hq, w1, w2, w3, w4, w5, w6, w7, w8, w9, w10, w11, ?_⟩, ⟨?_, ?_, ?_, ?_, ?_, ?_, ?_, ?_, ?_, ?_⟩⟩
  · rcases hPE with ⟨E0, L0, hG, hM, hO, hr⟩ | ⟨L1, A1, W1, E1⟩
    · refine Or.inl ⟨E0, L0, hG, ?_, hO, hr⟩
      unfold PM
      rw [u21, y1]
      show (¬ v.1 3 = 33 ∧ u.1 12 = -1 ∧ eqOn 1024 (M_advance_x_sto nn cyc v) (u.2.2.1 2)) ∨ (v.1 3 = 33 ∧ u.1 12 = v.1 10 ∧ u.1 13 = v.1 9 ∧ eqOn 1024 (upd (M_advance_x_sto nn cyc v) (Int32.toNatClampNeg (v.1 10)) (v.1 9)) (u.2.2.1 2) ∧ (¬ m_runOk_124_mm_stored nn cyc e u = 0 → (M_advance_x_sto nn cyc v) (Int32.toNatClampNeg (v.1 10)) = v.1 9))
      rcases hs with ⟨h1, h2, h3⟩ | ⟨h1, h2, h3⟩
      · rw [h1, h3]; exact hM
      · rw [h1]
        unfold M_storeWord_x_sto
        rcases hM with ⟨g1, g2, g3⟩ | ⟨g1, g2, g3, g4, g5⟩
        · rw [if_pos (show D_isStore_21_s0 (v.1 12) (v.1 3) = 0 from if_pos (Or.inl g1))]
          exact Or.inl ⟨g1, g2, g3⟩
        · rw [if_neg (by rw [show D_isStore_21_s0 (v.1 12) (v.1 3) = 1 from if_neg (fun z => z.elim (fun n => n g1) (fun n => n E0))]; decide)]
          refine Or.inr ⟨g1, g2, g3, ?_, fun _ => pk_us⟩
          intro j hj
          rw [← g4 j hj]
          by_cases y : j = Int32.toNatClampNeg (v.1 10)
          · rw [y, pk_us, pk_us]
          · rw [pk_un y]
    · exact Or.inr ⟨L1, A1, W1, E1⟩
  · rw [x1]; exact a1
  · rw [x3, y1]; exact hsto
  · rw [x4]; exact a3
  · rw [u7]; exact hT
  · rw [u1]; exact a4
  · rw [u6]; exact a5
  · rw [u2]; exact a6
  · rw [u3]; exact a7
  · rw [u4]; exact a8
  · rw [u5]; exact a9
theorem RUNREL {f_pg g : Nat → Int32} {n c : Nat} {e : Int32} (hp : eqOn 1024 f_pg g) (hG : c + n ≤ 51200000) (v : VB) (u : UB) (h33 : v.1 33 = nI 0) (hTR : TR v u c e) :
    ∃ na nr c2 : Nat, ¬ M_ad_F (nI n) (nI c) f_pg 4 (M_ad (nI n) (nI c) f_pg 4 na v) ∧ (∀ j, j ≤ na → hpC (M_ad (nI n) (nI c) f_pg 4 j v)) ∧ ¬ m_rn_F (nI n) (nI c) e g 4 (m_rn (nI n) (nI c) e g 4 nr u) ∧ (∀ j, j ≤ nr → hpM g (m_rn (nI n) (nI c) e g 4 j u)) ∧
      M_advance_93_s0 (nI n) (nI c) (M_ad (nI n) (nI c) f_pg 4 na v) = nI c2 ∧ m_runOk_x_mm_cycles (nI n) (nI c) e (m_rn (nI n) (nI c) e g 4 nr u) = nI c2 ∧ c2 ≤ c + n ∧ (M_ad (nI n) (nI c) f_pg 4 na v).1 26 = m_runOk_ret (nI n) (nI c) e (m_rn (nI n) (nI c) e g 4 nr u) ∧
      TR (vRun (nI n) (nI c) (M_ad (nI n) (nI c) f_pg 4 na v)) (uRun (nI n) (nI c) e (m_rn (nI n) (nI c) e g 4 nr u)) c2 ((M_ad (nI n) (nI c) f_pg 4 na v).1 26) := by
  obtain ⟨ME, hPB, hPA, h26, hE⟩ := hTR
  rcases hE with ⟨rfl, hc, hU⟩ | ⟨he, h12, hc⟩
  · obtain ⟨na, nr, ME', r1, r2, r3, r4, r5⟩ := RUN hp hG (c + n + 1) v u ME 0 hPB hPA h26 h33 (by omega) (by omega) (by omega)
    rcases r5 with ⟨z26, zPB, zPA, zW, zU⟩ | ⟨vp, ev, zPB, zPA, z12, z26, zW⟩
    · refine ⟨na, nr, c + n, r1, r2, r3, r4, ?_⟩
      generalize M_ad (nI n) (nI c) f_pg 4 na v = v' at *
      generalize m_rn (nI n) (nI c) 0 g 4 nr u = u' at *
      obtain ⟨F0, D, X, XE, M, hd', q, fi, sz, nw, r, ⟨a1, a2, a3, a4, a5, a6, a7, b1, b2, b3, b4, b5, b6, k1, k2, k3, k4, k5⟩, -⟩ := id zPB
      have e93 : M_advance_93_s0 (nI n) (nI c) v' = nI (c + n) := (if_pos z26).trans (goal_c hG)
      have hw : m_runOk_33_l2 (nI n) (nI c) < u'.2.1 6 := by rw [goal_m hG, b6, lN_lt (by omega) (by omega)]; exact zW
      have hcond : ¬ (0 : Int32) = 0 ∨ m_runOk_33_l2 (nI n) (nI c) < u'.2.1 6 := Or.inr hw
      have hs : (M_advance_x_sto (nI n) (nI c) v' = v'.2 1 ∧ m_runOk_124_nsd (nI n) (nI c) 0 u' = u'.2.2.1 3 ∧ m_runOk_124_mm_stored (nI n) (nI c) 0 u' = u'.1 21) ∨ (M_advance_x_sto (nI n) (nI c) v' = M_storeWord_x_sto (v'.1 9) (v'.1 10) (v'.1 12) (v'.1 3) (v'.2 1) ∧ m_runOk_124_nsd (nI n) (nI c) 0 u' = m_store_27_nsd (u'.1 12) (u'.1 13) (u'.1 21) (u'.2.2.1 3) ∧ m_runOk_124_mm_stored (nI n) (nI c) 0 u' = 1) := by
        unfold M_advance_x_sto m_runOk_124_nsd m_runOk_124_mm_stored
        rw [e93, if_pos rfl, if_pos rfl, goal_m hG, a6, b5]
        by_cases y : c + n < ME'
        · rw [if_pos (nI_lt y (by omega)), if_pos ((lN_lt (by omega) (by omega)).mpr y), if_pos ((lN_lt (by omega) (by omega)).mpr y)]
          exact Or.inl ⟨rfl, rfl, rfl⟩
        · rw [if_neg (fun z => y ((nI_ltI (a := c + n) (b := ME') (by omega) (by omega)).mp z)), if_neg (fun z => y ((lN_lt (by omega) (by omega)).mp z)), if_neg (fun z => y ((lN_lt (by omega) (by omega)).mp z))]
          exact Or.inr ⟨rfl, rfl, rfl⟩
      obtain ⟨t1, t2⟩ := TOPA zPB zPA hcond hs
      refine ⟨e93, ?_, Nat.le_refl _, ?_, ME', t1, t2, rfl, Or.inl ⟨z26, by omega, by omega⟩⟩
      · unfold m_runOk_x_mm_cycles
        rw [if_pos hcond]
        unfold m_runOk_124_mm_cycles m_runOk_108_cycles
        rw [if_pos rfl, goal_m hG, lN_i]
      · rw [z26]; exact (if_pos hcond).symm
    · rw [ev] at r1
      have zv : M_ad (nI n) (nI c) f_pg 4 na v = M_ad_s (nI n) (nI c) f_pg 4 vp := ev
      refine ⟨na, nr, ME' + 1, by rw [zv]; exact r1, r2, r3, r4, ?_⟩
      rw [zv]
      generalize m_rn (nI n) (nI c) 0 g 4 nr u = u' at *
      obtain ⟨F0, D, X, XE, M, hd', q, fi, sz, nw, r, ⟨a1, a2, a3, a4, a5, a6, a7, b1, b2, b3, b4, b5, b6, k1, k2, k3, k4, k5⟩, hPQ, hq, w1, w2, w3, w4, w5, w6, w7, w8, w9, w10, w11, hPE⟩ := id zPB
      rcases hPE with ⟨E0, -⟩ | ⟨L1, A1, W1, E1⟩
      · exact absurd E0 z12
      have hEE : ¬ M_finish_x_t_ending (vp.1 12) (vp.1 26) = 0 := by unfold M_finish_x_t_ending; rw [if_neg z12]; exact z12
      have v26 : (M_ad_s (nI n) (nI c) f_pg 4 vp).1 26 = vp.1 12 := if_neg z12
      have v17 : (M_ad_s (nI n) (nI c) f_pg 4 vp).1 17 = vp.1 17 := if_neg hEE
      have v12 : (M_ad_s (nI n) (nI c) f_pg 4 vp).1 12 = vp.1 12 := if_neg hEE
      have n20 : ¬ u'.1 20 = 0 := by rw [L1]; decide
      have hw : ¬ m_runOk_33_l2 (nI n) (nI c) < u'.2.1 6 := by rw [goal_m hG, b6, lN_lt (by omega) (by omega)]; omega
      have hcond : ¬ (¬ (0 : Int32) = 0 ∨ m_runOk_33_l2 (nI n) (nI c) < u'.2.1 6) := fun z => z.elim (fun z => z rfl) hw
      have e93 : M_advance_93_s0 (nI n) (nI c) (M_ad_s (nI n) (nI c) f_pg 4 vp) = nI (ME' + 1) := (if_neg (by rw [v26]; exact z12)).trans (v17.trans a7)
      have u1 : (uRun (nI n) (nI c) 0 u').1 1 = u'.1 16 := (if_neg hcond).trans (if_neg n20)
      have u2 : (uRun (nI n) (nI c) 0 u').1 2 = u'.1 2 := (if_neg hcond).trans (if_neg n20)
      have u3 : (uRun (nI n) (nI c) 0 u').1 3 = u'.1 3 := (if_neg hcond).trans (if_neg n20)
      have u4 : (uRun (nI n) (nI c) 0 u').1 4 = u'.1 4 := (if_neg hcond).trans (if_neg n20)
      have u5 : (uRun (nI n) (nI c) 0 u').1 5 = u'.1 5 := (if_neg hcond).trans (if_neg n20)
      have u6 : (uRun (nI n) (nI c) 0 u').1 6 = u'.1 15 := if_neg hcond
      have u7 : (uRun (nI n) (nI c) 0 u').1 7 = u'.1 7 := (if_neg hcond).trans (if_neg n20)
      have x1 : (uRun (nI n) (nI c) 0 u').2.2.1 1 = u'.2.2.1 1 := (if_neg hcond).trans (if_neg n20)
      have x3 : (uRun (nI n) (nI c) 0 u').2.2.1 3 = u'.2.2.1 3 := (if_neg hcond).trans (if_neg n20)
      have x4 : (uRun (nI n) (nI c) 0 u').2.2.1 4 = u'.2.2.1 4 := (if_neg hcond).trans (if_neg n20)
      have i1 : ∀ k, ¬ k = 1 → ¬ k = 6 → ¬ k = 21 → (uRun (nI n) (nI c) 0 u').1 k = u'.1 k := by
        intro k k1 k6 k21
        by_cases q2 : k = 2
        · subst q2; exact u2
        by_cases q3 : k = 3
        · subst q3; exact u3
        by_cases q4 : k = 4
        · subst q4; exact u4
        by_cases q5 : k = 5
        · subst q5; exact u5
        by_cases q7 : k = 7
        · subst q7; exact u7
        exact uRun_o k k1 q2 q3 q4 q5 k6 q7 k21
      have i3 : ∀ k, (uRun (nI n) (nI c) 0 u').2.2.1 k = u'.2.2.1 k := by
        intro k
        by_cases q1 : k = 1
        · subst q1; exact x1
        by_cases q3 : k = 3
        · subst q3; exact x3
        by_cases q4 : k = 4
        · subst q4; exact x4
        exact uRun_p k q1 q3 q4
      have t1 := LASTC (nn := nI n) (cyc := nI c) (f_pg := f_pg) (u2 := uRun (nI n) (nI c) 0 u') zPB z12 i1 rfl i3 (fun _ => rfl)
      have t2 := LASTA (nn := nI n) (cyc := nI c) (f_pg := f_pg) (u2 := uRun (nI n) (nI c) 0 u') zPA z12 W1 w1 i1 u6 u1 i3
      have hsto : M_advance_x_sto (nI n) (nI c) (M_ad_s (nI n) (nI c) f_pg 4 vp) = (M_ad_s (nI n) (nI c) f_pg 4 vp).2 1 := by
        unfold M_advance_x_sto M_storeWord_x_sto
        rw [if_pos (show D_isStore_21_s0 ((M_ad_s (nI n) (nI c) f_pg 4 vp).1 12) ((M_ad_s (nI n) (nI c) f_pg 4 vp).1 3) = 0 from if_pos (Or.inr (by rw [v12]; exact z12)))]
        split <;> rfl
      have hvr : vRun (nI n) (nI c) (M_ad_s (nI n) (nI c) f_pg 4 vp) = M_ad_s (nI n) (nI c) f_pg 4 vp := by
        unfold vRun
        refine Prod.ext rfl (funext fun k => ?_)
        by_cases q1 : k = 1
        · subst q1; exact hsto
        exact vRun_o (v := M_ad_s (nI n) (nI c) f_pg 4 vp) k q1
      refine ⟨e93, ?_, by omega, ?_, ME', by rw [hvr]; exact t1, by rw [hvr]; exact t2, rfl, Or.inr ⟨by rw [v26]; exact z12, by rw [hvr, v12]; exact z12, rfl⟩⟩
      · unfold m_runOk_x_mm_cycles
        rw [if_neg hcond, b6, lN_i]
      · unfold m_runOk_ret
        rw [if_neg hcond, v26]
        unfold m_runOk_74_s0 m_see_x_mm_trap
        rw [if_neg n20, W1]
        rcases E1 with ⟨y1, y2⟩ | ⟨y1, y2⟩
        · rw [y1, if_pos y2]
        · rw [y1, if_neg y2]
  · have hh := HP g (show ME < 2 ^ 27 by omega) hPB hPA
    obtain ⟨F0, D, X, XE, M, hd', q, fi, sz, nw, r, ⟨a1, a2, a3, a4, a5, a6, a7, b1, b2, b3, b4, b5, b6, k1, k2, k3, k4, k5⟩, -⟩ := id hPB
    have n26 : ¬ v.1 26 = 0 := by rw [h26]; exact he
    have hcond : ¬ e = 0 ∨ m_runOk_33_l2 (nI n) (nI c) < u.2.1 6 := Or.inl he
    have e93 : M_advance_93_s0 (nI n) (nI c) v = nI c := by rw [hc]; exact (if_neg n26).trans a7
    have hs : (M_advance_x_sto (nI n) (nI c) v = v.2 1 ∧ m_runOk_124_nsd (nI n) (nI c) e u = u.2.2.1 3 ∧ m_runOk_124_mm_stored (nI n) (nI c) e u = u.1 21) ∨ (M_advance_x_sto (nI n) (nI c) v = M_storeWord_x_sto (v.1 9) (v.1 10) (v.1 12) (v.1 3) (v.2 1) ∧ m_runOk_124_nsd (nI n) (nI c) e u = m_store_27_nsd (u.1 12) (u.1 13) (u.1 21) (u.2.2.1 3) ∧ m_runOk_124_mm_stored (nI n) (nI c) e u = 1) := by
      refine Or.inl ⟨?_, if_neg he, if_neg he⟩
      unfold M_advance_x_sto M_storeWord_x_sto
      rw [if_pos (show D_isStore_21_s0 (v.1 12) (v.1 3) = 0 from if_pos (Or.inr h12))]
      split <;> rfl
    obtain ⟨t1, t2⟩ := TOPA hPB hPA hcond hs
    refine ⟨0, 0, c, fun z => n26 z.2.2.1, fun j hj => by rw [show j = 0 by omega]; exact hh.1, fun z => he z.2.1, fun j hj => by rw [show j = 0 by omega]; exact hh.2, e93, ?_, by omega, ?_, ME, t1, t2, rfl, Or.inr ⟨n26, h12, hc⟩⟩
    · show m_runOk_x_mm_cycles (nI n) (nI c) e u = nI c
      exact (if_pos hcond).trans (if_neg he)
    · rw [show (M_ad (nI n) (nI c) f_pg 4 0 v).1 26 = v.1 26 from rfl, h26]
      exact (if_pos hcond).symm

