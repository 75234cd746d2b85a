/-! the relation of class and reference while an instruction is under way -/
abbrev VB : Type := (Nat → Int32) × (Nat → Nat → Int32)
abbrev UB : Type := (Nat → Int32) × (Nat → Int64) × (Nat → Nat → Int32) × (Nat → Nat → Int64)
def PT (v : VB) (u : UB) (F D X XE M ME : Nat) : Prop :=
  v.1 14 = nI F ∧ v.1 18 = nI D ∧ v.1 19 = nI X ∧ v.1 15 = nI XE ∧ v.1 20 = nI M ∧ v.1 16 = nI ME ∧ v.1 17 = nI (ME + 1) ∧
  u.2.1 1 = lN D ∧ u.2.1 2 = lN X ∧ u.2.1 3 = lN XE ∧ u.2.1 4 = lN M ∧ u.2.1 5 = lN ME ∧ u.2.1 6 = lN (ME + 1) ∧ F ≤ D ∧ D < X ∧ X ≤ XE ∧ XE < M ∧ M ≤ ME
def PQ (v : VB) (u : UB) (D X XE hd q fi sz nw : Nat) : Prop :=
  v.1 21 = nI hd ∧ v.1 22 = nI (hd + q) ∧ v.1 23 = nI sz ∧ v.1 24 = nI nw ∧ u.1 24 = nI q ∧ u.1 23 = nI fi ∧ u.1 22 = nI sz ∧
  caR sz nw (v.2 7) (u.2.2.1 6) ∧ eqOn 64 (v.2 3) (u.2.2.1 5) ∧ qR hd fi q (v.2 4) (v.2 5) (v.2 6) (u.2.2.1 7) (u.2.2.1 8) (u.2.2.2 1) ∧ q ≤ 3 ∧ fi < 64 ∧ tmR hd q (XE + 1) X D (v.2 6)
def PG (v : VB) (u : UB) : Prop := (W_getsD_44_s0 (v.1 3) = 0 ∧ u.1 10 = -1 ∧ eqOn 16 (v.2 0) (u.2.2.1 0)) ∨ (W_getsD_44_s0 (v.1 3) = 1 ∧ u.1 10 = v.1 4 ∧ u.1 11 = v.1 9 ∧ eqOn 16 (m_gets_x_nx (v.1 4) (v.1 9) (v.2 0)) (u.2.2.1 0))
def PM (v : VB) (u : UB) : Prop := (¬ v.1 3 = 33 ∧ u.1 12 = -1 ∧ eqOn 1024 (v.2 1) (u.2.2.1 2)) ∨ (v.1 3 = 33 ∧ u.1 12 = v.1 10 ∧ u.1 13 = v.1 9 ∧ eqOn 1024 (upd (v.2 1) (Int32.toNatClampNeg (v.1 10)) (v.1 9)) (u.2.2.1 2) ∧ (¬ u.1 21 = 0 → v.2 1 (Int32.toNatClampNeg (v.1 10)) = v.1 9))
def PO (v : VB) (u : UB) : Prop := (¬ v.1 3 = 49 ∧ u.1 17 = 0) ∨ (v.1 3 = 49 ∧ u.1 17 = 1 ∧ u.1 14 = v.1 9)
def PE (v : VB) (u : UB) (ME : Nat) (r : Nat → Nat) : Prop := (v.1 12 = 0 ∧ u.1 20 = 0 ∧ PG v u ∧ PM v u ∧ PO v u ∧ rdR ME r (v.2 2) (u.2.2.2 0)) ∨ (u.1 20 = 1 ∧ u.1 12 = -1 ∧ u.1 16 = v.1 13 ∧ ((v.1 12 = 1 ∧ v.1 13 = 0) ∨ (v.1 12 = 2 ∧ ¬ v.1 13 = 0)))
def PW (v : VB) (u : UB) (ME : Nat) (r : Nat → Nat) : Prop :=
  v.1 2 = u.1 15 ∧ v.1 8 = u.1 0 ∧ v.1 1 = u.1 18 ∧ v.1 11 = u.1 19 ∧ v.1 0 = u.1 9 ∧ u.1 8 = 1 ∧ vp_in (v.1 4) 16 ∧ vp_in (v.1 10) 1024 ∧ eqOn 16 (v.2 8) (u.2.2.1 9) ∧ (¬ u.1 12 < 0 → vp_in (u.1 12) 1024) ∧ (¬ u.1 10 ≤ 0 → vp_in (u.1 10) 16) ∧ PE v u ME r
def PB (v : VB) (u : UB) (ME : Nat) : Prop := ∃ F D X XE M hd q fi sz nw : Nat, ∃ r : Nat → Nat, PT v u F D X XE M ME ∧ PQ v u D X XE hd q fi sz nw ∧ hd + q ≤ ME ∧ PW v u ME r
def PA (v : VB) (u : UB) (ME : Nat) : Prop :=
  eqOn 16 (v.2 0) (u.2.2.1 1) ∧ eqOn 1024 (v.2 1) (u.2.2.1 3) ∧ eqOn 1000 (v.2 9) (u.2.2.1 4) ∧ (∃ T : Nat, v.1 25 = nI T ∧ u.1 7 = nI T ∧ T ≤ ME) ∧ v.1 27 = u.1 1 ∧ v.1 28 = u.1 6 ∧ v.1 29 = u.1 2 ∧ v.1 30 = u.1 3 ∧ v.1 31 = u.1 4 ∧ v.1 32 = u.1 5
theorem regAt_in {in_ o dd a i : Int32} {nx : Nat → Int32} (hd : vp_in dd 16) : ¬ m_does_x_mm_regAt in_ o dd a i nx ≤ 0 → vp_in (m_does_x_mm_regAt in_ o dd a i nx) 16 := by
  have h : m_does_x_mm_regAt in_ o dd a i nx = -1 ∨ m_does_x_mm_regAt in_ o dd a i nx = dd := by
    unfold m_does_x_mm_regAt m_does_277_mm_regAt
    repeat' split
    all_goals first | exact Or.inl rfl | exact Or.inr rfl
  intro n
  rcases h with h | h
  · rw [h] at n; exact absurd (by decide) n
  · rw [h]; exact hd
theorem memAt_in {in_ o a i : Int32} {nx : Nat → Int32} : ¬ m_does_x_mm_memAt in_ o a i nx < 0 → vp_in (m_does_x_mm_memAt in_ o a i nx) 1024 := by
  have h : m_does_x_mm_memAt in_ o a i nx = -1 ∨ vp_in (m_does_x_mm_memAt in_ o a i nx) 1024 := by
    unfold m_does_x_mm_memAt
    by_cases h1 : in_ = 0
    · rw [if_pos h1]; exact Or.inl rfl
    rw [if_neg h1]
    by_cases h2 : 12 < o
    · rw [if_pos h2]
      by_cases h3 : o < 16 ∨ 25 < o
      · rw [if_pos h3]
        by_cases h4 : o = 26
        · rw [if_pos h4]; exact Or.inl rfl
        rw [if_neg h4]
        by_cases h5 : o = 32 ∨ o = 33
        · rw [if_pos h5]
          unfold m_does_277_mm_memAt
          by_cases h6 : (m_does_169_l9 a i nx) < 0 ∨ ¬ (m_does_169_l9 a i nx) ≤ 1023
          · rw [if_pos h6]; exact Or.inl rfl
          · rw [if_neg h6]
            by_cases h7 : o = 32
            · rw [if_pos h7]; exact Or.inl rfl
            · rw [if_neg h7]
              refine Or.inr (in_le (M := 1023) (fun z => h6 (Or.inl z)) ?_ (by decide))
              exact Classical.byContradiction (fun z => h6 (Or.inr z))
        · rw [if_neg h5]; exact Or.inl rfl
      · rw [if_neg h3]; exact Or.inl rfl
    · rw [if_neg h2]; exact Or.inl rfl
  intro n
  rcases h with h | h
  · rw [h] at n; exact absurd (by decide) n
  · exact h
theorem memAt_last {in_ o a i : Int32} {nx : Nat → Int32} (h : m_does_x_mm_last in_ o a i nx = 1) : m_does_x_mm_memAt in_ o a i nx = -1 := by
  unfold m_does_x_mm_memAt
  unfold m_does_x_mm_last at h
  by_cases h1 : in_ = 0
  · rw [if_pos h1]
  rw [if_neg h1] at h ⊢
  by_cases h2 : 12 < o
  · rw [if_pos h2] at h ⊢
    by_cases h3 : o < 16 ∨ 25 < o
    · rw [if_pos h3] at h ⊢
      by_cases h4 : o = 26
      · rw [if_pos h4]
      rw [if_neg h4] at h ⊢
      by_cases h5 : o = 32 ∨ o = 33
      · rw [if_pos h5] at h ⊢
        unfold m_does_277_mm_memAt
        unfold m_does_277_mm_last at h
        by_cases h6 : (m_does_169_l9 a i nx) < 0 ∨ ¬ (m_does_169_l9 a i nx) ≤ 1023
        · rw [if_pos h6]
        · rw [if_neg h6] at h
          exact absurd h (by decide)
      · rw [if_neg h5]
    · rw [if_neg h3]
  · rw [if_neg h2]
/-- what the rows of the calls ask of the guesser -/
theorem HQ {tw tp tx qp qk cn ri ncn nca : Nat → Int32} {qt : Nat → Int64} {F hd q fi sz nw : Nat} (hF : F < 2 ^ 29) (hq : q ≤ 3) (hhd : hd + q < 2 ^ 29) (hfi : fi < 64) (hca : caR sz nw ri nca) (hcn : eqOn 64 cn ncn) (hqR : qR hd fi q tw tp tx qp qk qt) :
    ¬ G_hb_F (nI F) (nI (hd + q)) tw tp tx (G_hb (nI F) (nI (hd + q)) tw tp tx 4 ((nI hd, nI sz, nI nw, cn, ri) : HT)) ∧ vp_in (G_hb (nI F) (nI (hd + q)) tw tp tx 4 ((nI hd, nI sz, nI nw, cn, ri) : HT)).2.2.1 8 ∧
    ¬ m_tl_F (lN F) qp qk qt (m_tl (lN F) qp qk qt 4 ((nI q, nI fi, nI sz, ncn, nca) : HT)) ∧
    (∀ k, k ≤ 4 → vp_in (m_tl (lN F) qp qk qt k ((nI q, nI fi, nI sz, ncn, nca) : HT)).2.1 64 ∧ vp_in (m_tl (lN F) qp qk qt k ((nI q, nI fi, nI sz, ncn, nca) : HT)).2.2.1 9) ∧
    (∃ q1 fi' sz' : Nat, ∃ ncn' nca' : Nat → Int32, m_tl (lN F) qp qk qt 4 ((nI q, nI fi, nI sz, ncn, nca) : HT) = (nI q1, nI fi', nI sz', ncn', nca') ∧ q1 ≤ 3 ∧ fi' < 64 ∧ sz' ≤ 8) := by
  have B30 : hd + q < 2 ^ 30 := by omega
  have F30 : F < 2 ^ 30 := by omega
  obtain ⟨q1, sz', nw', cn', ri', ncn', nca', r0, r1, r2, r3, r4, r5, r6⟩ := heed_ok (tw := tw) (tp := tp) (tx := tx) (qp := qp) (qk := qk) (qt := qt) F30 4 q hd fi sz nw cn ri ncn nca B30 hfi (by omega) hca hcn hqR
  have r6 := r6 (by omega)
  have F1 : ¬ G_hb_F (nI F) (nI (hd + q)) tw tp tx ((nI (hd + (q - q1)), nI sz', nI nw', cn', ri') : HT) := by
    rintro ⟨z1, z2⟩
    rcases r6 with h | ⟨t, ht, e1, e2, hf⟩
    · exact z1 (nI_le (by omega) (by omega))
    · refine z2 ?_
      show nI F ≤ tx (Int32.toNatClampNeg (nI (hd + (q - q1)) &&& 3))
      rw [and3 _ (by omega), e1]
      exact nI_le hf (by omega)
  have F2 : ¬ m_tl_F (lN F) qp qk qt ((nI q1, nI ((fi + (q - q1)) % 64), nI sz', ncn', nca') : HT) := by
    rintro ⟨z1, z2⟩
    rcases r6 with h | ⟨t, ht, e1, e2, hf⟩
    · exact z1 (by rw [h]; show nI 0 ≤ 0; decide)
    · refine z2 ?_
      show lN F ≤ qt (Int32.toNatClampNeg (nI ((fi + (q - q1)) % 64)))
      rw [nI_clamp (by omega), e2, lN_le (by omega) (by omega)]
      exact hf
  clear r6
  have F3 : ∀ k, k ≤ 4 → vp_in (m_tl (lN F) qp qk qt k ((nI q, nI fi, nI sz, ncn, nca) : HT)).2.1 64 ∧ vp_in (m_tl (lN F) qp qk qt k ((nI q, nI fi, nI sz, ncn, nca) : HT)).2.2.1 9 := by
    intro k _
    obtain ⟨q9, sz9, nw9, cn9, ri9, ncn9, nca9, -, -, s2, s3, -, -, -⟩ := heed_ok (tw := tw) (tp := tp) (tx := tx) (qp := qp) (qk := qk) (qt := qt) F30 k q hd fi sz nw cn ri ncn nca B30 hfi (by omega) hca hcn hqR
    rw [s2]
    exact ⟨vp_in_nI (Nat.mod_lt _ (by decide)) (by decide), vp_in_nI (by have := s3.1; omega) (by decide)⟩
  refine ⟨by rw [r1]; exact F1, by rw [r1]; exact vp_in_nI r3.2.1 (by decide), by rw [r2]; exact F2, F3, q1, (fi + (q - q1)) % 64, sz', ncn', nca', r2, by omega, Nat.mod_lt _ (by decide), r3.1⟩
theorem tl_19 {q fi : Nat} (h : fi < 64) (h2 : q < 2 ^ 20) : vp_in (m_tell_19_l2 (nI fi) (nI q)) 64 := by
  have hx : m_tell_19_l2 (nI fi) (nI q) = nI ((fi + q) % 64) := by
    unfold m_tell_19_l2
    rw [nI_add]
    exact pk_rem (a := fi + q) (d := 64) (by omega) (by decide) (by decide)
  rw [hx]
  exact vp_in_nI (Nat.mod_lt _ (by decide)) (by decide)
theorem sz_8 {sz : Nat} (h : sz ≤ 8) : ¬ nI sz ≤ 0 → vp_in (nI sz - 1) 8 := by
  intro n
  have s0 : 0 < sz := by
    rcases Nat.eq_zero_or_pos sz with z | z
    · exact absurd (by rw [z]; decide) n
    · exact z
  have e2 : nI sz - 1 = nI (sz - 1) := by
    have := nI_pred (sz - 1)
    rw [show sz - 1 + 1 = sz by omega] at this
    exact this
  rw [e2]
  exact vp_in_nI (by omega) (by decide)
theorem rdR_upd {B ME j t : Nat} {r : Nat → Nat} {rd : Nat → Int32} {nrd : Nat → Int64} (hr : rdR B r rd nrd) (hB : B ≤ ME) (z : ¬ j = 0) (ht : t ≤ ME) : rdR ME (fun k => if k = j then t else r k) (upd rd j (nI t)) (vp_updL nrd j (lN t)) := by
  refine ⟨(if_neg (fun q => z q.symm)).trans hr.1, fun k hk => ?_⟩
  show upd rd j (nI t) k = nI (if k = j then t else r k) ∧ vp_updL nrd j (lN t) k = lN (if k = j then t else r k) ∧ (if k = j then t else r k) ≤ ME
  by_cases y : k = j
  · rw [if_pos y]
    exact ⟨if_pos y, if_pos y, ht⟩
  · rw [if_neg y]
    exact ⟨(pk_un y).trans (hr.2 k hk).1, (if_neg y).trans (hr.2 k hk).2.1, Nat.le_trans (hr.2 k hk).2.2 hB⟩
/-- when the next register is ready -/
theorem RDL {op dd rA mi any gu pc : Int32} {sgf sgw sgx sgm a b : Int32} {rd : Nat → Int32} {nrd : Nat → Int64} {r : Nat → Nat} {B XE ME : Nat} {d xx xe mm ww : Int64} {g nx nli : Nat → Int32} (hr : rdR B r rd nrd) (hB : B ≤ ME) (hX : XE ≤ ME) (ho : op = 32 ↔ m_next_151_s0 pc g = 32) (hd : vp_in dd 16)
    (e1 : S_pass_174_s0 mi sgf sgw sgx sgm op a b rd = nI ME) (e2 : S_pass_104_xe sgf sgx sgm op a b rd = nI XE) (e3 : m_next_480_s0 pc d xx xe mm ww any gu g nrd nx nli = lN ME) (e4 : m_next_398_xe pc d xx xe mm any gu g nrd = lN XE)
    (e5 : m_does_x_mm_regAt (m_next_114_s0 pc) (m_next_151_s0 pc g) (m_next_161_l10 pc g) (m_next_171_l11 pc g) (m_next_191_l13 pc g) nx = rA) (h : (W_getsD_44_s0 op = 0 ∧ rA = -1) ∨ (W_getsD_44_s0 op = 1 ∧ rA = dd)) :
    ∃ r', rdR ME r' (S_pass_x_rd mi sgf sgw sgx sgm op dd a b rd) (m_next_550_nrd pc d xx xe mm ww any gu g nrd nx nli) := by
  unfold S_pass_x_rd m_next_550_nrd
  rw [e5]
  have same : ∃ r', rdR ME r' rd nrd := ⟨r, hr.1, fun j hj => ⟨(hr.2 j hj).1, (hr.2 j hj).2.1, Nat.le_trans (hr.2 j hj).2.2 hB⟩⟩
  rcases h with ⟨h1, h2⟩ | ⟨h1, h2⟩
  · rw [if_pos h1, h2, if_pos (by decide)]; exact same
  · rw [if_neg (by rw [h1]; decide), h2]
    obtain ⟨j, hj, rfl⟩ := vp_in_of hd (by decide)
    by_cases z : j = 0
    · subst z
      rw [if_pos (show nI 0 = 0 from rfl), if_pos (show nI 0 ≤ 0 by decide)]; exact same
    · rw [if_neg (show ¬ nI j = 0 from fun q => z ((nI_eq (a := j) (b := 0) (by omega) (by decide)).mp q)), if_neg (nI_nle (by omega) (by omega))]
      unfold S_pass_229_rd m_next_549_nrd
      rw [e5, h2, nI_clamp (by omega)]
      have s1 : S_pass_229_s0 mi sgf sgw sgx sgm op a b rd = nI (if op = 32 then ME else XE) := by
        unfold S_pass_229_s0; rw [e1, e2]; split <;> rfl
      have s2 : m_next_549_s0 pc d xx xe mm ww any gu g nrd nx nli = lN (if op = 32 then ME else XE) := by
        unfold m_next_549_s0; rw [e3, e4]
        by_cases y : op = 32
        · rw [if_pos y, if_pos (ho.mp y)]
        · rw [if_neg y, if_neg (fun q => y (ho.mpr q))]
      rw [s1, s2]
      exact ⟨_, rdR_upd hr hB z (by split <;> omega)⟩
/-- what is seen when an instruction has its W: class and reference -/
theorem FS {v : VB} {u : UB} {ME : Nat} (hA : PA v u ME) (h12 : v.1 12 = 0) (h20 : u.1 20 = 0) (hG : PG v u) (hM : PM v u) (hO : PO v u) (hd : vp_in (v.1 4) 16) (had : vp_in (v.1 10) 1024) (hMi : v.1 1 = u.1 18) (hTk : v.1 11 = u.1 19) (hGu : v.1 0 = u.1 9) (hB : ME < 2 ^ 29) :
    eqOn 16 (M_finish_x_rg (v.1 3) (v.1 4) (v.1 9) (v.1 12) (v.2 0)) (u.2.2.1 0) ∧ eqOn 1024 (M_finish_x_sto (v.1 3) (v.1 9) (v.1 10) (v.1 12) (v.2 1)) (u.2.2.1 2) ∧
    eqOn 16 (M_finish_x_rg (v.1 3) (v.1 4) (v.1 9) (v.1 12) (v.2 0)) (m_see_x_nsx (u.1 10) (u.1 11) (u.1 20) (u.2.2.1 1)) ∧ eqOn 1024 (M_finish_x_sto (v.1 3) (v.1 9) (v.1 10) (v.1 12) (v.2 1)) (m_see_x_nsd (u.1 12) (u.1 13) (u.1 20) (u.1 21) (u.2.2.1 3)) ∧
    eqOn 1000 (M_finish_x_fi (v.1 3) (v.1 9) (v.1 12) (v.1 25) (v.2 9)) (m_see_x_nou (u.1 7) (u.1 14) (u.1 17) (u.1 20) (u.2.2.1 4)) ∧ (∃ T : Nat, M_finish_x_o_total (v.1 3) (v.1 12) (v.1 25) = nI T ∧ m_see_x_mm_outs (u.1 7) (u.1 17) (u.1 20) = nI T ∧ T ≤ ME + 1) ∧
    M_finish_x_t_trap (v.1 12) (v.1 13) (v.1 27) = m_see_x_mm_trap (u.1 1) (u.1 16) (u.1 20) ∧ M_finish_x_t_done (v.1 12) (v.1 29) = m_see_x_mm_done (u.1 2) (u.1 20) ∧ M_finish_x_t_wrongGuesses (v.1 0) (v.1 12) (v.1 30) = m_see_x_mm_wrong (u.1 3) (u.1 9) (u.1 20) ∧ M_finish_x_t_misses (v.1 1) (v.1 12) (v.1 31) = m_see_x_mm_misses (u.1 4) (u.1 18) (u.1 20) ∧ M_finish_x_t_branchesTaken (v.1 11) (v.1 12) (v.1 32) = m_see_x_mm_taken (u.1 5) (u.1 19) (u.1 20) := by
  obtain ⟨a1, a2, a3, ⟨T, t1, t2, t3⟩, a4, a5, a6, a7, a8, a9⟩ := hA
  unfold M_finish_x_rg M_finish_x_sto M_finish_x_fi M_finish_x_o_total M_finish_x_t_trap M_finish_x_t_done M_finish_x_t_wrongGuesses M_finish_x_t_misses M_finish_x_t_branchesTaken m_see_x_nsx m_see_x_nsd m_see_x_nou m_see_x_mm_outs m_see_x_mm_trap m_see_x_mm_done m_see_x_mm_wrong m_see_x_mm_misses m_see_x_mm_taken
  rw [if_pos h12, if_pos h12, if_pos h12, if_pos h12, if_pos h12, if_pos h12, if_pos h12, if_pos h12, if_pos h12, if_pos h20, if_pos h20, if_pos h20, if_pos h20, if_pos h20, if_pos h20, if_pos h20, if_pos h20, if_pos h20]
  refine ⟨?_, ?_, ?_, ?_, ?_, ?_, a4, by rw [a6], ?_, ?_, ?_⟩
  · unfold M_finish_96_rg
    rcases hG with ⟨g1, g2, g3⟩ | ⟨g1, g2, g3, g4⟩
    · rw [if_pos g1]; exact g3
    · rw [if_neg (by rw [g1]; decide)]; exact g4
  · unfold M_storeWord_x_sto
    rcases hM with ⟨g1, g2, g3⟩ | ⟨g1, g2, g3, g4, g5⟩
    · rw [if_pos (show D_isStore_21_s0 (v.1 12) (v.1 3) = 0 from if_pos (Or.inl g1))]; exact g3
    · rw [if_neg (by rw [show D_isStore_21_s0 (v.1 12) (v.1 3) = 1 from if_neg (fun z => z.elim (fun n => n g1) (fun n => n h12))]; decide)]; exact g4
  · unfold M_finish_96_rg m_see_48_nsx
    rcases hG with ⟨g1, g2, g3⟩ | ⟨g1, g2, g3, g4⟩
    · rw [if_pos g1, g2, if_pos (by decide)]; exact a1
    · rw [if_neg (by rw [g1]; decide), g2, g3]
      obtain ⟨j, hj, ej⟩ := vp_in_of hd (by decide)
      rw [ej]
      by_cases z : j = 0
      · subst z
        rw [if_pos (show nI 0 = 0 from rfl), if_pos (show nI 0 ≤ 0 by decide)]; exact a1
      · rw [if_neg (show ¬ nI j = 0 from fun q => z ((nI_eq (a := j) (b := 0) (by omega) (by decide)).mp q)), if_neg (nI_nle (by omega) (by omega))]
        exact eqOn_upd a1
  · unfold M_storeWord_x_sto m_store_27_nsd
    rcases hM with ⟨g1, g2, g3⟩ | ⟨g1, g2, g3, g4, g5⟩
    · rw [if_pos (show D_isStore_21_s0 (v.1 12) (v.1 3) = 0 from if_pos (Or.inl g1)), g2, if_pos (by decide)]; exact a2
    · rw [if_neg (by rw [show D_isStore_21_s0 (v.1 12) (v.1 3) = 1 from if_neg (fun z => z.elim (fun n => n g1) (fun n => n h12))]; decide), g2, if_neg (fun z => had (Or.inl z)), g3]
      by_cases s : u.1 21 = 0
      · rw [if_pos s]; exact eqOn_upd a2
      · rw [if_neg s]
        intro j hj
        by_cases y : j = Int32.toNatClampNeg (v.1 10)
        · rw [y, pk_us, ← y, ← a2 j hj, y]; exact (g5 s).symm
        · rw [pk_un y]; exact a2 j hj
  · unfold M_finish_122_fi m_see_88_nou
    rcases hO with ⟨g1, g2⟩ | ⟨g1, g2, g3⟩
    · rw [if_neg g1, if_pos g2]; exact a3
    · rw [if_pos g1, if_neg (by rw [g2]; decide), g3]
      unfold O_put_20_fi m_see_78_nou
      rw [t1, t2]
      by_cases z : 1000 ≤ nI T
      · rw [if_pos z, if_pos z]; exact a3
      · rw [if_neg z, if_neg z]; exact eqOn_upd a3
  · unfold M_finish_122_o_total m_see_88_mm_outs
    rcases hO with ⟨g1, g2⟩ | ⟨g1, g2, g3⟩
    · rw [if_neg g1, if_pos g2]; exact ⟨T, t1, t2, by omega⟩
    · rw [if_pos g1, if_neg (by rw [g2]; decide), t1, t2, nI_1]; exact ⟨T + 1, rfl, rfl, by omega⟩
  · unfold T_add_24_t_wrongGuesses m_see_115_mm_wrong; rw [hGu, a7]
  · unfold T_add_38_t_misses m_see_132_mm_misses; rw [hMi, a8]
  · unfold T_add_x_t_branchesTaken; rw [hTk, a9]

