/-! the guesser at the next instruction: class and reference -/
def tmR (hd q a b c : Nat) (tx : Nat → Int32) : Prop := ∀ k t : Nat, k < q → tx ((hd + k) % 4) = nI t → t < 2 ^ 30 → t < a ∧ (k + 2 ≤ q → t < b) ∧ (k + 3 ≤ q → t < c)
theorem SN_Q {pc any gu ta xe_ : Int32} {d xx xe mm : Int64} {f_pg g fx cn ri ncn nca tw tp tx qp qk : Nat → Int32} {qt nrd : Nat → Int64} {hd q fi sz nw F X0 M0 D' X' XE' : Nat} (hp : eqOn 1024 f_pg g) (hF : F < 2 ^ 29) (hq : q ≤ 3) (hhd : hd + q < 2 ^ 29) (hfi : fi < 64) (hca : caR sz nw ri nca) (hcn : eqOn 64 cn ncn) (hqR : qR hd fi q tw tp tx qp qk qt) (hT : tmR hd q M0 X0 F tx)
    (h81 : m_next_81_s0 d xe any gu = lN F) (hta : m_does_x_mm_took (m_next_114_s0 pc) (m_next_151_s0 pc g) (m_next_171_l11 pc g) (m_next_181_l12 pc g) fx = ta) (hxe : xe_ = nI XE') (hxm : m_next_398_xe pc d xx xe mm any gu g nrd = lN XE') (t1 : F < D') (t2 : X0 ≤ D') (t3 : D' < X') (t4 : M0 ≤ X') (t5 : X' ≤ XE') (t6 : XE' < 2 ^ 30) :
    ∃ hd' q1 q' fi' sz' nw' : Nat, ∃ cn' ri' ncn' nca' : Nat → Int32,
      G_hb (nI F) (nI (hd + q)) tw tp tx 4 ((nI hd, nI sz, nI nw, cn, ri) : HT) = (nI hd', nI sz', nI nw', cn', ri') ∧ ¬ G_hb_F (nI F) (nI (hd + q)) tw tp tx ((nI hd', nI sz', nI nw', cn', ri') : HT) ∧
      m_tl (lN F) qp qk qt 4 ((nI q, nI fi, nI sz, ncn, nca) : HT) = (nI q1, nI fi', nI sz', ncn', nca') ∧ ¬ m_tl_F (lN F) qp qk qt ((nI q1, nI fi', nI sz', ncn', nca') : HT) ∧
      (∀ k, k ≤ 4 → vp_in (m_tl (lN F) qp qk qt k ((nI q, nI fi, nI sz, ncn, nca) : HT)).2.1 64 ∧ vp_in (m_tl (lN F) qp qk qt k ((nI q, nI fi, nI sz, ncn, nca) : HT)).2.2.1 9) ∧
      caR sz' nw' ri' nca' ∧ eqOn 64 cn' ncn' ∧ fi' < 64 ∧ q1 ≤ 2 ∧
      (m_next_580_mm_queued pc d xe any gu (nI sz) (nI fi) (nI q) g ncn nca qp qk qt 4 = nI q1 ∨ m_next_580_mm_queued pc d xe any gu (nI sz) (nI fi) (nI q) g ncn nca qp qk qt 4 = nI (q1 + 1)) ∧
      G_guess_ret pc (W_take_50_s0 pc f_pg) (W_take_62_d pc f_pg) (W_take_74_a pc f_pg) (W_take_98_i pc f_pg) cn' (nI sz') (nI nw') ri' = m_guess_ret (m_next_151_s0 pc g) (m_next_171_l11 pc g) (m_next_161_l10 pc g) (m_next_191_l13 pc g) pc (nI sz') ncn' nca' ∧
      G_hear_x_g_told (nI (hd + q)) (W_take_50_s0 pc f_pg) (W_take_62_d pc f_pg) (W_take_74_a pc f_pg) = nI (hd' + q') ∧ m_next_x_mm_queued pc d xe any gu (nI sz) (nI fi) (nI q) g ncn nca qp qk qt 4 = nI q' ∧ q' ≤ 3 ∧ hd' + q' ≤ hd + q + 1 ∧
      qR hd' fi' q' (G_hear_x_tw ta (nI (hd + q)) (W_take_50_s0 pc f_pg) (W_take_62_d pc f_pg) (W_take_74_a pc f_pg) tw) (G_hear_x_tp (nI (hd + q)) pc (W_take_50_s0 pc f_pg) (W_take_62_d pc f_pg) (W_take_74_a pc f_pg) tp) (G_hear_x_tx xe_ (nI (hd + q)) (W_take_50_s0 pc f_pg) (W_take_62_d pc f_pg) (W_take_74_a pc f_pg) tx) (m_next_x_nqp pc d xe any gu (nI sz) (nI fi) (nI q) g ncn nca qp qk qt 4) (m_next_x_nqk pc d xe any gu (nI sz) (nI fi) (nI q) g ncn nca qp qk qt fx 4) (m_next_x_nqt pc d xx xe mm any gu (nI sz) (nI fi) (nI q) g ncn nca qp qk qt nrd 4) ∧
      tmR hd' q' (XE' + 1) X' D' (G_hear_x_tx xe_ (nI (hd + q)) (W_take_50_s0 pc f_pg) (W_take_62_d pc f_pg) (W_take_74_a pc f_pg) tx) := by
  have B30 : hd + q < 2 ^ 30 := by omega
  have F30 : F < 2 ^ 30 := by omega
  obtain ⟨q1, sz', nw', cn', ri', ncn', nca', r0, r1, r2, r3, r4, r5, r6⟩ := heed_ok (tw := tw) (tp := tp) (tx := tx) (qp := qp) (qk := qk) (qt := qt) F30 4 q hd fi sz nw cn ri ncn nca B30 hfi (by omega) hca hcn hqR
  have r6 := r6 (by omega)
  have hq1 : q1 ≤ 2 := by
    rcases r6 with h | ⟨t, ht, e1, e2, hf⟩
    · omega
    · by_cases z : q1 ≤ 2
      · exact z
      · have := (hT (q - q1) t (by omega) e1 ht).2.2 (by omega)
        omega
  have hTl := TELL (told := nI (hd + q)) (xe_ := xe_) (tw := tw) (tp := tp) (tx := tx) (d := d) (xx := xx) (xe := xe) (mm := mm) (any := any) (gu := gu) (dp := nI sz) (fi := nI fi) (qu := nI q) (ncn := ncn) (nca := nca) (nqp := qp) (nqk := qk) (nqt := qt) (nrd := nrd) (nt := 4) hp hta (T := (nI q1, nI ((fi + (q - q1)) % 64), nI sz', ncn', nca')) (by rw [h81]; exact r2)
  obtain ⟨hTl, h580⟩ := hTl
  have hx : m_tell_19_l2 (nI ((fi + (q - q1)) % 64)) (nI q1) = nI (((fi + (q - q1)) % 64 + q1) % 64) := by
    unfold m_tell_19_l2
    rw [nI_add]
    exact pk_rem (a := (fi + (q - q1)) % 64 + q1) (d := 64) (by omega) (by decide) (by decide)
  have hc3 : Int32.toNatClampNeg (nI (hd + q) &&& 3) = (hd + q) % 4 := and3 (hd + q) (by omega)
  have F1 : ¬ G_hb_F (nI F) (nI (hd + q)) tw tp tx ((nI (hd + (q - q1)), nI sz', nI nw', cn', ri') : HT) := by
    rintro ⟨z1, z2⟩
    rcases r6 with h | ⟨t, ht, e1, e2, hf⟩
    · exact z1 (nI_le (by omega) (by omega))
    · refine z2 ?_
      show nI F ≤ tx (Int32.toNatClampNeg (nI (hd + (q - q1)) &&& 3))
      rw [and3 _ (by omega), e1]
      exact nI_le hf (by omega)
  have F2 : ¬ m_tl_F (lN F) qp qk qt ((nI q1, nI ((fi + (q - q1)) % 64), nI sz', ncn', nca') : HT) := by
    rintro ⟨z1, z2⟩
    rcases r6 with h | ⟨t, ht, e1, e2, hf⟩
    · exact z1 (by rw [h]; show nI 0 ≤ 0; decide)
    · refine z2 ?_
      show lN F ≤ qt (Int32.toNatClampNeg (nI ((fi + (q - q1)) % 64)))
      rw [nI_clamp (by omega), e2, lN_le (by omega) (by omega)]
      exact hf
  have F3 : ∀ k, k ≤ 4 → vp_in (m_tl (lN F) qp qk qt k ((nI q, nI fi, nI sz, ncn, nca) : HT)).2.1 64 ∧ vp_in (m_tl (lN F) qp qk qt k ((nI q, nI fi, nI sz, ncn, nca) : HT)).2.2.1 9 := by
    intro k _
    obtain ⟨q9, sz9, nw9, cn9, ri9, ncn9, nca9, -, -, s2, s3, -, -, -⟩ := heed_ok (tw := tw) (tp := tp) (tx := tx) (qp := qp) (qk := qk) (qt := qt) F30 k q hd fi sz nw cn ri ncn nca B30 hfi (by omega) hca hcn hqR
    rw [s2]
    exact ⟨vp_in_nI (Nat.mod_lt _ (by decide)) (by decide), vp_in_nI (by have := s3.1; omega) (by decide)⟩
  clear r6
  have h580' : m_next_580_mm_queued pc d xe any gu (nI sz) (nI fi) (nI q) g ncn nca qp qk qt 4 = nI q1 ∨ m_next_580_mm_queued pc d xe any gu (nI sz) (nI fi) (nI q) g ncn nca qp qk qt 4 = nI (q1 + 1) := h580.imp id (fun h => h.trans (nI_1 q1))
  have hG := GUESS (pc := pc) hp r3 r4
  rcases hTl with ⟨a1, a2, a3, a4, a5, a6, a7, a8⟩ | ⟨wh, k0, hk, a1, a2, a3, a4, a5, a6, a7, a8⟩
  · refine ⟨hd + (q - q1), q1, q1, (fi + (q - q1)) % 64, sz', nw', cn', ri', ncn', nca', r1, F1, r2, F2, F3, r3, r4, Nat.mod_lt _ (by decide), hq1, h580', hG, ?_, a5, by omega, by omega, ?_, ?_⟩
    · rw [a1, show hd + (q - q1) + q1 = hd + q by omega]
    · rw [a2, a3, a4, a6, a7, a8]
      intro k hk
      have := hqR (k + (q - q1)) (by omega)
      rw [show hd + (q - q1) + k = hd + (k + (q - q1)) by omega, show ((fi + (q - q1)) % 64 + k) % 64 = (fi + (k + (q - q1))) % 64 by omega]
      exact this
    · rw [a4]
      intro k t hk e ht
      have := hT (k + (q - q1)) t (by omega) (by rw [show hd + (k + (q - q1)) = hd + (q - q1) + k by omega]; exact e) ht
      refine ⟨by omega, fun h => ?_, fun h => ?_⟩
      · have := this.2.1 (by omega); omega
      · have := this.2.2 (by omega); omega
  · have hx' : Int32.toNatClampNeg (m_tell_19_l2 (nI ((fi + (q - q1)) % 64)) (nI q1)) = (fi + q) % 64 := by
      rw [hx, nI_clamp (by omega)]; omega
    rw [hx'] at a6 a7 a8
    rw [hc3] at a2 a3 a4
    refine ⟨hd + (q - q1), q1, q1 + 1, (fi + (q - q1)) % 64, sz', nw', cn', ri', ncn', nca', r1, F1, r2, F2, F3, r3, r4, Nat.mod_lt _ (by decide), hq1, h580', hG, ?_, a5.trans (nI_1 q1), by omega, by omega, ?_, ?_⟩
    · rw [a1, nI_1, show hd + (q - q1) + (q1 + 1) = hd + q + 1 by omega]
    · rw [a2, a3, a4, a6, a7, a8]
      intro k hk'
      rw [show hd + (q - q1) + k = hd + (k + (q - q1)) by omega, show ((fi + (q - q1)) % 64 + k) % 64 = (fi + (k + (q - q1))) % 64 by omega]
      by_cases kl : k = q1
      · rw [show k + (q - q1) = q by omega, pk_us, pk_us, pk_us, pk_us]
        refine ⟨rfl, hk, XE', t6, pk_us.trans hxe, ?_⟩
        rw [hxm]; exact if_pos rfl
      · have z1 : (hd + (k + (q - q1))) % 4 ≠ (hd + q) % 4 := by omega
        have z2 : (fi + (k + (q - q1))) % 64 ≠ (fi + q) % 64 := by omega
        rw [pk_un z1, pk_un z1, pk_un z1, pk_un z2, pk_un z2, show vp_updL qt ((fi + q) % 64) (m_next_398_xe pc d xx xe mm any gu g nrd) ((fi + (k + (q - q1))) % 64) = qt ((fi + (k + (q - q1))) % 64) from if_neg z2]
        exact hqR (k + (q - q1)) (by omega)
    · rw [a4]
      intro k t hk' e ht
      rw [show hd + (q - q1) + k = hd + (k + (q - q1)) by omega] at e
      by_cases kl : k = q1
      · rw [show k + (q - q1) = q by omega, pk_us, hxe] at e
        have := (nI_eq (a := XE') (b := t) (by omega) (by omega)).mp e
        exact ⟨by omega, fun h => by omega, fun h => by omega⟩
      · have z1 : (hd + (k + (q - q1))) % 4 ≠ (hd + q) % 4 := by omega
        rw [pk_un z1] at e
        have := hT (k + (q - q1)) t (by omega) e ht
        refine ⟨by omega, fun h => by omega, fun h => ?_⟩
        have := this.2.1 (by omega); omega

