/-! one instruction is started: class and reference -/
set_option maxHeartbeats 4000000 in
theorem START {pc any gu sgf sgx sgm sgw hdI tdI szI nwI dpI fiI quI rv mv ov : Int32} {d xe xx mm ww : Int64} {f_pg g rg sto he nx nda nli cn ri ncn nca tw tp tx qp qk rd : Nat → Int32} {qt nrd : Nat → Int64} {F X M W BB hd q fi sz nw : Nat} {r : Nat → Nat} (v' : VB) (u' : UB) (hp : eqOn 1024 f_pg g) (hrg : eqOn 16 rg nx) (hst : eqOn 1024 sto nda) (hh : eqOn 16 he nli) (hB : BB < 2 ^ 28) (hF : F ≤ BB) (hX : X ≤ BB) (hM : M ≤ BB) (hW : W ≤ BB) (e1 : sgf = nI F) (e2 : sgx = nI X) (e3 : sgm = nI M) (e4 : sgw = nI W) (e5 : hdI = nI hd) (e6 : tdI = nI (hd + q)) (e7 : szI = nI sz) (e8 : nwI = nI nw) (e9 : dpI = nI sz) (e10 : fiI = nI fi) (e11 : quI = nI q)
    (h81 : m_next_81_s0 d xe any gu = lN F) (h47 : m_next_47_s0 xx any = lN X) (h15 : m_next_15_s0 mm any = lN M) (h31 : m_next_31_s0 ww any = lN W) (hr : rdR BB r rd nrd) (hq : q ≤ 3) (hhd : hd + q ≤ W - 1) (hBW : BB ≤ max W 3) (hfi : fi < 64) (hca : caR sz nw ri nca) (hcn : eqOn 64 cn ncn) (hqR : qR hd fi q tw tp tx qp qk qt) (hT : tmR hd q M X F tx)
    (c0 : v'.1 0 = M_start_154_s0 pc f_pg hdI tdI cn szI nwI ri tw tp tx sgf rg 4) (c1 : v'.1 1 = M_start_94_s0 pc f_pg rg he) (c2 : v'.1 2 = pc) (c3 : v'.1 3 = (W_take_50_s0 pc f_pg)) (c4 : v'.1 4 = (W_take_62_d pc f_pg)) (c8 : v'.1 8 = D_work_x_de_next pc (W_take_50_s0 pc f_pg) (W_take_74_a pc f_pg) (W_take_86_b pc f_pg) (W_take_98_i pc f_pg) rg) (c9 : v'.1 9 = D_work_x_de_value pc (W_take_50_s0 pc f_pg) (W_take_74_a pc f_pg) (W_take_86_b pc f_pg) (W_take_98_i pc f_pg) rg sto) (c10 : v'.1 10 = D_work_x_de_address (W_take_50_s0 pc f_pg) (W_take_74_a pc f_pg) (W_take_98_i pc f_pg) rg) (c11 : v'.1 11 = (D_work_x_de_taken (W_take_50_s0 pc f_pg) (W_take_74_a pc f_pg) (W_take_86_b pc f_pg) rg)) (c12 : v'.1 12 = D_work_x_de_ending (W_take_50_s0 pc f_pg) (W_take_74_a pc f_pg) (W_take_98_i pc f_pg) rg) (c13 : v'.1 13 = D_work_x_de_trap (W_take_50_s0 pc f_pg) (W_take_74_a pc f_pg) (W_take_98_i pc f_pg) rg) (c14 : v'.1 14 = sgf) (c15 : v'.1 15 = (S_pass_104_xe sgf sgx sgm (W_take_50_s0 pc f_pg) (W_take_74_a pc f_pg) (W_take_86_b pc f_pg) rd)) (c16 : v'.1 16 = S_pass_174_s0 (M_start_94_s0 pc f_pg rg he) sgf sgw sgx sgm (W_take_50_s0 pc f_pg) (W_take_74_a pc f_pg) (W_take_86_b pc f_pg) rd) (c17 : v'.1 17 = S_pass_184_w (M_start_94_s0 pc f_pg rg he) sgf sgw sgx sgm (W_take_50_s0 pc f_pg) (W_take_74_a pc f_pg) (W_take_86_b pc f_pg) rd) (c18 : v'.1 18 = S_pass_11_max sgf sgx) (c19 : v'.1 19 = S_pass_92_sg_x sgf sgx sgm (W_take_50_s0 pc f_pg) (W_take_74_a pc f_pg) (W_take_86_b pc f_pg) rd) (c20 : v'.1 20 = S_pass_155_sg_m sgf sgw sgx sgm (W_take_50_s0 pc f_pg) (W_take_74_a pc f_pg) (W_take_86_b pc f_pg) rd) (c21 : v'.1 21 = (G_hb sgf tdI tw tp tx 4 ((hdI, szI, nwI, cn, ri) : HT)).1) (c22 : v'.1 22 = G_hear_x_g_told tdI (W_take_50_s0 pc f_pg) (W_take_62_d pc f_pg) (W_take_74_a pc f_pg)) (c23 : v'.1 23 = (G_hb sgf tdI tw tp tx 4 ((hdI, szI, nwI, cn, ri) : HT)).2.1) (c24 : v'.1 24 = (G_hb sgf tdI tw tp tx 4 ((hdI, szI, nwI, cn, ri) : HT)).2.2.1) (d0 : v'.2 0 = rg) (d1 : v'.2 1 = sto) (d2 : v'.2 2 = S_pass_x_rd (M_start_94_s0 pc f_pg rg he) sgf sgw sgx sgm (W_take_50_s0 pc f_pg) (W_take_62_d pc f_pg) (W_take_74_a pc f_pg) (W_take_86_b pc f_pg) rd) (d3 : v'.2 3 = (G_hb sgf tdI tw tp tx 4 ((hdI, szI, nwI, cn, ri) : HT)).2.2.2.1) (d4 : v'.2 4 = G_hear_x_tw (D_work_x_de_taken (W_take_50_s0 pc f_pg) (W_take_74_a pc f_pg) (W_take_86_b pc f_pg) rg) tdI (W_take_50_s0 pc f_pg) (W_take_62_d pc f_pg) (W_take_74_a pc f_pg) tw) (d5 : v'.2 5 = G_hear_x_tp tdI pc (W_take_50_s0 pc f_pg) (W_take_62_d pc f_pg) (W_take_74_a pc f_pg) tp) (d6 : v'.2 6 = G_hear_x_tx (S_pass_104_xe sgf sgx sgm (W_take_50_s0 pc f_pg) (W_take_74_a pc f_pg) (W_take_86_b pc f_pg) rd) tdI (W_take_50_s0 pc f_pg) (W_take_62_d pc f_pg) (W_take_74_a pc f_pg) tx) (d7 : v'.2 7 = (G_hb sgf tdI tw tp tx 4 ((hdI, szI, nwI, cn, ri) : HT)).2.2.2.2) (d8 : v'.2 8 = M_start_94_he pc f_pg rg he) (m0 : u'.1 0 = m_does_x_mm_pc (m_next_114_s0 pc) (m_next_151_s0 pc g) (m_next_171_l11 pc g) (m_next_181_l12 pc g) (m_next_191_l13 pc g) pc nx) (m8 : u'.1 8 = 1) (m9 : u'.1 9 = m_next_513_s0 pc d xe any gu dpI fiI quI g ncn nca qp qk qt nx 4) (m10 : u'.1 10 = m_does_x_mm_regAt (m_next_114_s0 pc) (m_next_151_s0 pc g) (m_next_161_l10 pc g) (m_next_171_l11 pc g) (m_next_191_l13 pc g) nx) (m11 : u'.1 11 = m_does_x_mm_regValue (m_next_114_s0 pc) (m_next_151_s0 pc g) (m_next_171_l11 pc g) (m_next_181_l12 pc g) (m_next_191_l13 pc g) rv pc nx nda) (m12 : u'.1 12 = m_does_x_mm_memAt (m_next_114_s0 pc) (m_next_151_s0 pc g) (m_next_171_l11 pc g) (m_next_191_l13 pc g) nx) (m13 : u'.1 13 = m_does_x_mm_memValue (m_next_114_s0 pc) (m_next_151_s0 pc g) (m_next_171_l11 pc g) (m_next_181_l12 pc g) (m_next_191_l13 pc g) mv nx) (m14 : u'.1 14 = m_does_x_mm_outValue (m_next_114_s0 pc) (m_next_151_s0 pc g) (m_next_171_l11 pc g) ov nx) (m15 : u'.1 15 = pc) (m16 : u'.1 16 = m_does_x_mm_which (m_next_114_s0 pc) (m_next_151_s0 pc g) (m_next_171_l11 pc g) (m_next_191_l13 pc g) nx) (m17 : u'.1 17 = m_does_x_mm_puts (m_next_114_s0 pc) (m_next_151_s0 pc g)) (m18 : u'.1 18 = m_does_x_mm_miss (m_next_114_s0 pc) (m_next_151_s0 pc g) (m_next_171_l11 pc g) (m_next_191_l13 pc g) nx nli) (m19 : u'.1 19 = m_does_x_mm_took (m_next_114_s0 pc) (m_next_151_s0 pc g) (m_next_171_l11 pc g) (m_next_181_l12 pc g) nx) (m20 : u'.1 20 = m_does_x_mm_last (m_next_114_s0 pc) (m_next_151_s0 pc g) (m_next_171_l11 pc g) (m_next_191_l13 pc g) nx) (m21 : u'.1 21 = 0) (m22 : u'.1 22 = (m_tl (m_next_81_s0 d xe any gu) qp qk qt 4 ((quI, fiI, dpI, ncn, nca) : HT)).2.2.1) (m23 : u'.1 23 = (m_tl (m_next_81_s0 d xe any gu) qp qk qt 4 ((quI, fiI, dpI, ncn, nca) : HT)).2.1) (m24 : u'.1 24 = m_next_x_mm_queued pc d xe any gu dpI fiI quI g ncn nca qp qk qt 4) (l1 : u'.2.1 1 = m_next_306_max d xx xe any gu) (l2 : u'.2.1 2 = m_next_355_xx pc d xx xe mm any gu g nrd) (l3 : u'.2.1 3 = m_next_398_xe pc d xx xe mm any gu g nrd) (l4 : u'.2.1 4 = m_next_438_m pc d xx xe mm ww any gu g nrd) (l5 : u'.2.1 5 = m_next_480_s0 pc d xx xe mm ww any gu g nrd nx nli) (l6 : u'.2.1 6 = m_next_490_w pc d xx xe mm ww any gu g nrd nx nli) (n0 : u'.2.2.1 0 = m_does_x_nx (m_next_114_s0 pc) (m_next_151_s0 pc g) (m_next_161_l10 pc g) (m_next_171_l11 pc g) (m_next_181_l12 pc g) (m_next_191_l13 pc g) pc nx nda) (n2 : u'.2.2.1 2 = m_does_x_nda (m_next_114_s0 pc) (m_next_151_s0 pc g) (m_next_171_l11 pc g) (m_next_181_l12 pc g) (m_next_191_l13 pc g) nx nda) (n5 : u'.2.2.1 5 = (m_tl (m_next_81_s0 d xe any gu) qp qk qt 4 ((quI, fiI, dpI, ncn, nca) : HT)).2.2.2.1) (n6 : u'.2.2.1 6 = (m_tl (m_next_81_s0 d xe any gu) qp qk qt 4 ((quI, fiI, dpI, ncn, nca) : HT)).2.2.2.2) (n7 : u'.2.2.1 7 = m_next_x_nqp pc d xe any gu dpI fiI quI g ncn nca qp qk qt 4) (n8 : u'.2.2.1 8 = m_next_x_nqk pc d xe any gu dpI fiI quI g ncn nca qp qk qt nx 4) (n9 : u'.2.2.1 9 = m_does_x_nli (m_next_114_s0 pc) (m_next_151_s0 pc g) (m_next_171_l11 pc g) (m_next_191_l13 pc g) nx nli) (p0 : u'.2.2.2 0 = m_next_550_nrd pc d xx xe mm ww any gu g nrd nx nli) (p1 : u'.2.2.2 1 = m_next_x_nqt pc d xx xe mm any gu dpI fiI quI g ncn nca qp qk qt nrd 4) : ∃ ME : Nat, PB v' u' ME ∧ W ≤ ME ∧ hd + q + 1 ≤ ME ∧ 3 ≤ ME ∧ ME ≤ BB + 23 := by
  subst e1 e2 e3 e4 e5 e6 e7 e8 e9 e10 e11
  have oR := tk_o (pc := pc) hp
  obtain ⟨o1, o2, o3, o4, o5⟩ := op_1 oR
  have ka : vp_in (W_take_74_a pc f_pg) 16 := in15 _
  have kb : vp_in (W_take_86_b pc f_pg) 16 := in15 _
  have kd : vp_in (W_take_62_d pc f_pg) 16 := in15 _
  have Ea := tk_a (pc := pc) hp
  have Eb := tk_b (pc := pc) hp
  have Ei := tk_i (pc := pc) hp
  have Ed := tk_d (pc := pc) hp
  obtain ⟨s1, s2, s3, s4, s5, s6, s7, s8, s9⟩ := DS_ok (pc := pc) (i := W_take_98_i pc f_pg) (dd := W_take_62_d pc f_pg) (rv := rv) (mv := mv) (ov := ov) oR hrg ka kb hst hh
  obtain ⟨D', X', XE', M', ME', T1, T2, T3, T4, T5, T6, U1, U2, U3, U4, U5, U6, q1, q2, q3, q4, q5, q6, q7, q8, q9⟩ := SN_T (pc := pc) (fx := nx) (fli := nli) (rd := rd) (mi := M_start_94_s0 pc f_pg rg he) hp (show BB < 2 ^ 29 by omega) hF hX hM hW h81 h47 h15 h31 hr (by rw [Ea, Ei]; exact s7)
  have hta : m_does_x_mm_took (m_next_114_s0 pc) (m_next_151_s0 pc g) (m_next_171_l11 pc g) (m_next_181_l12 pc g) nx = D_work_x_de_taken (W_take_50_s0 pc f_pg) (W_take_74_a pc f_pg) (W_take_86_b pc f_pg) rg := by rw [Ea, Eb]; exact s2
  obtain ⟨hd', qq, q', fi', sz', nw', cn', ri', ncn', nca', G1, G2, G3, G4, G5, G6, G7, G8, G9, G10, G11, G12, G13, G14, G15, G16, G17⟩ := SN_Q (fx := nx) (xx := xx) (mm := mm) (nrd := nrd) (cn := cn) (ri := ri) (ncn := ncn) (nca := nca) hp (show F < 2 ^ 29 by omega) hq (show hd + q < 2 ^ 29 by omega) hfi hca hcn hqR hT h81 hta T3 U3 (show F < D' by omega) q2 q3 q4 q5 (show XE' < 2 ^ 30 by omega)
  have hg : M_start_154_s0 pc f_pg (nI hd) (nI (hd + q)) cn (nI sz) (nI nw) ri tw tp tx (nI F) rg 4 = m_next_513_s0 pc d xe any gu (nI sz) (nI fi) (nI q) g ncn nca qp qk qt nx 4 := by
    unfold M_start_154_s0 m_next_513_s0 M_start_37_l2 m_next_213_l14
    rw [h81, G1, G3, G11, Ea, Eb, Ei, s1]
  refine ⟨ME', ⟨F, D', X', XE', M', hd', q', fi', sz', nw', ?_⟩, by omega, by omega, by omega, q9⟩
  have hPT : PT v' u' F D' X' XE' M' ME' := ⟨c14, c18.trans T1, c19.trans T2, c15.trans T3, c20.trans T4, c16.trans T5, c17.trans T6, l1.trans U1, l2.trans U2, l3.trans U3, l4.trans U4, l5.trans U5, l6.trans U6, by omega, q3, q5, q6, q8⟩
  have hPQ : PQ v' u' D' X' XE' hd' q' fi' sz' nw' := by
    refine ⟨c21.trans (by rw [G1]), c22.trans G12, c23.trans (by rw [G1]), c24.trans (by rw [G1]), m24.trans G13, m23.trans (by rw [h81, G3]), m22.trans (by rw [h81, G3]), ?_, ?_, ?_, G14, G8, ?_⟩
    · rw [d7, n6, h81, G1, G3]; exact G6
    · rw [d3, n5, h81, G1, G3]; exact G7
    · rw [d4, d5, d6, n7, n8, p1]; exact G16
    · rw [d6]; exact G17
  have hW1 : v'.1 2 = u'.1 15 ∧ v'.1 8 = u'.1 0 ∧ v'.1 1 = u'.1 18 ∧ v'.1 11 = u'.1 19 ∧ v'.1 0 = u'.1 9 ∧ u'.1 8 = 1 ∧ vp_in (v'.1 4) 16 ∧ vp_in (v'.1 10) 1024 ∧ eqOn 16 (v'.2 8) (u'.2.2.1 9) ∧ (¬ u'.1 12 < 0 → vp_in (u'.1 12) 1024) ∧ (¬ u'.1 10 ≤ 0 → vp_in (u'.1 10) 16) := by
    refine ⟨c2.trans m15.symm, ?_, ?_, ?_, c0.trans (hg.trans m9.symm), m8, by rw [c4]; exact kd, by rw [c10]; exact s9, ?_, by rw [m12]; exact memAt_in, by rw [m10, Ed]; exact regAt_in kd⟩
    · rw [c8, m0, Ea, Eb, Ei]; exact s1.symm
    · rw [c1, m18, Ea, Ei]; exact s7.symm
    · rw [c11, m19]; exact hta.symm
    · rw [d8, n9, Ea, Ei]; exact s8
  have fin : ∀ r', PE v' u' ME' r' → ∃ r, PT v' u' F D' X' XE' M' ME' ∧ PQ v' u' D' X' XE' hd' q' fi' sz' nw' ∧ hd' + q' ≤ ME' ∧ PW v' u' ME' r := fun r' h => by
    obtain ⟨w1, w2, w3, w4, w5, w6, w7, w8, w9, w10, w11⟩ := hW1
    exact ⟨r', hPT, hPQ, by omega, w1, w2, w3, w4, w5, w6, w7, w8, w9, w10, w11, h⟩
  rcases s3 with ⟨E0, L0⟩ | ⟨L1, W1, E1⟩
  · have s4 := s4 E0
    have s5 := s5 E0
    have s6 := s6 E0
    obtain ⟨r', hr'⟩ := RDL (d := d) (xx := xx) (xe := xe) (mm := mm) (ww := ww) (any := any) (gu := gu) (dd := W_take_62_d pc f_pg) (nx := nx) (nli := nli) hr (show BB ≤ ME' by omega) (show XE' ≤ ME' by omega) o5 kd T5 T3 U5 U3 (rA := m_does_x_mm_regAt (m_next_114_s0 pc) (m_next_151_s0 pc g) (W_take_62_d pc f_pg) (W_take_74_a pc f_pg) (W_take_98_i pc f_pg) nx) (by rw [Ea, Ei, Ed]) (s4.imp (fun h => ⟨h.1, h.2.1⟩) (fun h => ⟨h.1, h.2.1⟩))
    refine fin r' (Or.inl ⟨c12.trans E0, ?_, ?_, ?_, ?_, by rw [d2, p0]; exact hr'⟩)
    · rw [m20, Ea, Ei]; exact L0
    · unfold PG
      rw [c3, m10, m11, c4, c9, d0, n0, Ea, Eb, Ei, Ed]
      rcases s4 with ⟨h1, h2, h3⟩ | ⟨h1, h2, h3, h4⟩
      · exact Or.inl ⟨h1, h2, by rw [h3]; exact hrg⟩
      · refine Or.inr ⟨h1, h2, h3, ?_⟩
        rw [h4]
        unfold m_gets_x_nx
        by_cases z : W_take_62_d pc f_pg = 0
        · rw [if_pos z, if_pos z]; exact hrg
        · rw [if_neg z, if_neg z]; exact eqOn_upd hrg
    · unfold PM
      rw [c3, m12, m13, c9, c10, d1, n2, m21, Ea, Eb, Ei]
      rcases s5 with ⟨h1, h2, h3⟩ | ⟨h1, h2, h3, h4⟩
      · exact Or.inl ⟨h1, h2, by rw [h3]; exact hst⟩
      · refine Or.inr ⟨h1, h2, h3, ?_, fun n => absurd rfl n⟩
        rw [h4]; exact eqOn_upd hst
    · unfold PO
      rw [c3, m17, m14, c9, Ea]
      exact s6
  · refine fin r (Or.inr ⟨?_, ?_, ?_, ?_⟩)
    · rw [m20, Ea, Ei]; exact L1
    · rw [m12, Ea, Ei]; exact memAt_last L1
    · rw [m16, c13, Ea, Ei]; exact W1
    · rw [c12, c13]; exact E1

