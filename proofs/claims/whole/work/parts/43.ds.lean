/-! what one instruction does: class against reference -/
section DSS
variable (pc op o in_ a b i dd rv mv ov : Int32) (rg sto he nx nda nli : Nat → Int32)
def DS : Prop :=
  m_does_x_mm_pc in_ o a b i pc nx = D_work_x_de_next pc op a b i rg ∧ m_does_x_mm_took in_ o a b nx = D_work_x_de_taken op a b rg ∧
  ((D_work_x_de_ending op a i rg = 0 ∧ m_does_x_mm_last in_ o a i nx = 0) ∨ (m_does_x_mm_last in_ o a i nx = 1 ∧ m_does_x_mm_which in_ o a i nx = D_work_x_de_trap op a i rg ∧ ((D_work_x_de_ending op a i rg = 1 ∧ D_work_x_de_trap op a i rg = 0) ∨ (D_work_x_de_ending op a i rg = 2 ∧ ¬ D_work_x_de_trap op a i rg = 0)))) ∧
  (D_work_x_de_ending op a i rg = 0 → ((W_getsD_44_s0 op = 0 ∧ m_does_x_mm_regAt in_ o dd a i nx = -1 ∧ m_does_x_nx in_ o dd a b i pc nx nda = nx) ∨ (W_getsD_44_s0 op = 1 ∧ m_does_x_mm_regAt in_ o dd a i nx = dd ∧ m_does_x_mm_regValue in_ o a b i rv pc nx nda = D_work_x_de_value pc op a b i rg sto ∧ m_does_x_nx in_ o dd a b i pc nx nda = m_gets_x_nx dd (D_work_x_de_value pc op a b i rg sto) nx))) ∧
  (D_work_x_de_ending op a i rg = 0 → ((¬ op = 33 ∧ m_does_x_mm_memAt in_ o a i nx = -1 ∧ m_does_x_nda in_ o a b i nx nda = nda) ∨ (op = 33 ∧ m_does_x_mm_memAt in_ o a i nx = D_work_x_de_address op a i rg ∧ m_does_x_mm_memValue in_ o a b i mv nx = D_work_x_de_value pc op a b i rg sto ∧ m_does_x_nda in_ o a b i nx nda = upd nda (Int32.toNatClampNeg (D_work_x_de_address op a i rg)) (D_work_x_de_value pc op a b i rg sto)))) ∧
  (D_work_x_de_ending op a i rg = 0 → ((¬ op = 49 ∧ m_does_x_mm_puts in_ o = 0) ∨ (op = 49 ∧ m_does_x_mm_puts in_ o = 1 ∧ m_does_x_mm_outValue in_ o a ov nx = D_work_x_de_value pc op a b i rg sto))) ∧
  m_does_x_mm_miss in_ o a i nx nli = (if (D_isLoad_21_s0 (D_work_x_de_ending op a i rg) op) = 0 then 0 else (if (L_miss_24_s0 (D_work_x_de_address op a i rg) he) = 0 then 0 else 1)) ∧
  eqOn 16 (if (D_isLoad_21_s0 (D_work_x_de_ending op a i rg) op) = 0 then he else (L_miss_32_he (D_work_x_de_address op a i rg) he)) (m_does_x_nli in_ o a i nx nli) ∧
  vp_in (D_work_x_de_address op a i rg) 1024
theorem DSa (hE : D_work_x_de_ending op a i rg = 0) (hl : m_does_x_mm_last in_ o a i nx = 0) (hA : D_work_x_de_address op a i rg = 0) (hn : m_does_x_mm_pc in_ o a b i pc nx = D_work_x_de_next pc op a b i rg) (ht : m_does_x_mm_took in_ o a b nx = D_work_x_de_taken op a b rg)
    (hr : (W_getsD_44_s0 op = 0 ∧ m_does_x_mm_regAt in_ o dd a i nx = -1 ∧ m_does_x_nx in_ o dd a b i pc nx nda = nx) ∨ (W_getsD_44_s0 op = 1 ∧ m_does_x_mm_regAt in_ o dd a i nx = dd ∧ m_does_x_mm_regValue in_ o a b i rv pc nx nda = D_work_x_de_value pc op a b i rg sto ∧ m_does_x_nx in_ o dd a b i pc nx nda = m_gets_x_nx dd (D_work_x_de_value pc op a b i rg sto) nx))
    (n32 : ¬ op = 32) (n33 : ¬ op = 33) (hm : m_does_x_mm_memAt in_ o a i nx = -1) (hd : m_does_x_nda in_ o a b i nx nda = nda)
    (hp : (¬ op = 49 ∧ m_does_x_mm_puts in_ o = 0) ∨ (op = 49 ∧ m_does_x_mm_puts in_ o = 1 ∧ m_does_x_mm_outValue in_ o a ov nx = D_work_x_de_value pc op a b i rg sto))
    (hmi : m_does_x_mm_miss in_ o a i nx nli = 0) (hli : m_does_x_nli in_ o a i nx nli = nli) (hh : eqOn 16 he nli) : DS pc op o in_ a b i dd rv mv ov rg sto he nx nda nli := by
  have e1 : D_isLoad_21_s0 (D_work_x_de_ending op a i rg) op = 0 := if_pos (Or.inl n32)
  refine ⟨hn, ht, Or.inl ⟨hE, hl⟩, fun _ => hr, fun _ => Or.inl ⟨n33, hm, hd⟩, fun _ => hp, ?_, ?_, ?_⟩
  · rw [if_pos e1, hmi]
  · rw [if_pos e1, hli]; exact hh
  · rw [hA]; exact vp_in_iff.mpr (by decide)
theorem DSb (hE : (D_work_x_de_ending op a i rg = 1 ∧ D_work_x_de_trap op a i rg = 0) ∨ (D_work_x_de_ending op a i rg = 2 ∧ ¬ D_work_x_de_trap op a i rg = 0)) (hl : m_does_x_mm_last in_ o a i nx = 1) (hw : m_does_x_mm_which in_ o a i nx = D_work_x_de_trap op a i rg) (hA : D_work_x_de_address op a i rg = 0) (hn : m_does_x_mm_pc in_ o a b i pc nx = D_work_x_de_next pc op a b i rg) (ht : m_does_x_mm_took in_ o a b nx = D_work_x_de_taken op a b rg)
    (hmi : m_does_x_mm_miss in_ o a i nx nli = 0) (hli : m_does_x_nli in_ o a i nx nli = nli) (hh : eqOn 16 he nli) : DS pc op o in_ a b i dd rv mv ov rg sto he nx nda nli := by
  have hE0 : ¬ D_work_x_de_ending op a i rg = 0 := by
    rcases hE with ⟨h, -⟩ | ⟨h, -⟩
    · rw [h]; decide
    · rw [h]; decide
  have e1 : D_isLoad_21_s0 (D_work_x_de_ending op a i rg) op = 0 := if_pos (Or.inr hE0)
  refine ⟨hn, ht, Or.inr ⟨hl, hw, hE⟩, fun h => absurd h hE0, fun h => absurd h hE0, fun h => absurd h hE0, ?_, ?_, ?_⟩
  · rw [if_pos e1, hmi]
  · rw [if_pos e1, hli]; exact hh
  · rw [hA]; exact vp_in_iff.mpr (by decide)
end DSS
theorem lt1024 (x : Int32) : x < 1024 ↔ x ≤ 1023 := by
  rw [Int32.lt_iff_toInt_lt, Int32.le_iff_toInt_le]
  have e1 : (1024 : Int32).toInt = 1024 := by decide
  have e2 : (1023 : Int32).toInt = 1023 := by decide
  omega
theorem line_eq {n : Nat} (h : n < 1024) : L_miss_3_l2 (nI n) = nI (n / 4) ∧ nI n >>> ((2 : Int32) &&& 31) = nI (n / 4) :=
  ⟨pk_ushrN (n := n) (by omega) 2 2 (by decide), pk_shrN (n := n) (by omega) ((2 : Int32) &&& 31) 2 (by decide)⟩
theorem eqOn_upd {n k : Nat} {f g : Nat → Int32} {x : Int32} (h : eqOn n f g) : eqOn n (upd f k x) (upd g k x) := by
  intro j hj
  by_cases q : j = k
  · subst q; rw [pk_us, pk_us]
  · rw [pk_un q, pk_un q]; exact h j hj
set_option maxHeartbeats 4000000 in
theorem DS_ok {pc op o in_ a b i dd rv mv ov : Int32} {rg sto he nx nda nli : Nat → Int32} (h : opR in_ op o) (hrg : eqOn 16 rg nx) (ha : vp_in a 16) (hb : vp_in b 16) (hst : eqOn 1024 sto nda) (hh : eqOn 16 he nli) : DS pc op o in_ a b i dd rv mv ov rg sto he nx nda nli := by
  have ea : m_does_57_l7 a nx = D_work_6_l4 a rg := by
    obtain ⟨j, hj, e⟩ := vp_in_of ha (by decide)
    unfold m_does_57_l7 D_work_6_l4
    rw [e, nI_clamp (by omega)]
    exact (hrg j hj).symm
  have eb : m_does_66_l8 b nx = D_work_14_l5 b rg := by
    obtain ⟨j, hj, e⟩ := vp_in_of hb (by decide)
    unfold m_does_66_l8 D_work_14_l5
    rw [e, nI_clamp (by omega)]
    exact (hrg j hj).symm
  have ek : m_does_169_l9 a i nx = D_work_6_l4 a rg + i := by unfold m_does_169_l9; rw [ea]
  rcases h with ⟨hi, rfl, rfl⟩ | ⟨hi, j, hj, rfl, rfl⟩
  · exact DSb _ _ _ _ _ _ _ _ _ _ _ _ _ _ _ _ _ (Or.inr ⟨zc_out_ending hi, by rw [zc_out_trap hi]; decide⟩) (zm_out_last hi) ((zm_out_which hi).trans (zc_out_trap hi).symm) (zc_out_addr hi) ((zm_out_pc hi).trans (zc_out_next hi).symm) ((zm_out_took hi).trans (zc_out_taken hi).symm) (zm_out_miss hi) (zm_out_nli hi) hh
  · have hi : ¬ in_ = 0 := by rw [hi]; decide
    have n64 : ¬ nI j = 64 := fun e => by
      have := (nI_eq (a := j) (b := 64) (by omega) (by decide)).mp e
      omega
    generalize nI j = op at n64 ⊢
    by_cases h0 : 12 < op
    · by_cases h1 : (op < 16 ∨ 25 < op)
      · by_cases n26 : op = 26
        · subst n26
          exact DSa _ _ _ _ _ _ _ _ _ _ _ _ _ _ _ _ _ (zc_k26_ending hi) (zm_k26_last hi) (zc_k26_addr hi) ((zm_k26_pc hi).trans (zc_k26_next hi).symm) ((zm_k26_took hi).trans (zc_k26_taken hi).symm)
            (Or.inr ⟨zc_k26_gets hi, zm_k26_regAt hi, (zm_k26_regValue hi).trans (zc_k26_value hi).symm, by rw [zm_k26_nx hi, zc_k26_value hi]; rfl⟩) (by decide) (by decide) (zm_k26_memAt hi) (zm_k26_nda hi) (Or.inl ⟨by decide, zm_k26_puts hi⟩) (zm_k26_miss hi) (zm_k26_nli hi) hh
        · by_cases n32 : op = 32
          · subst n32
            by_cases k0 : (((D_work_6_l4 a rg) + i) < 0 ∨ ¬ ((D_work_6_l4 a rg) + i) < 1024)
            · have k2 : ((m_does_169_l9 a i nx) < 0 ∨ ¬ (m_does_169_l9 a i nx) ≤ 1023) := by
                rw [ek]; exact k0.imp id (fun q z => q ((lt1024 _).mpr z))
              exact DSb _ _ _ _ _ _ _ _ _ _ _ _ _ _ _ _ _ (Or.inr ⟨zc_l32_ending k0 k2 hi, by rw [zc_l32_trap k0 k2 hi]; decide⟩) (zm_l32_last k0 k2 hi) ((zm_l32_which k0 k2 hi).trans (zc_l32_trap k0 k2 hi).symm) (zc_l32_addr k0 k2 hi) ((zm_l32_pc k0 k2 hi).trans (zc_l32_next k0 k2 hi).symm) ((zm_l32_took k0 k2 hi).trans (zc_l32_taken k0 k2 hi).symm) (zm_l32_miss k0 k2 hi) (zm_l32_nli k0 k2 hi) hh
            · have k2 : ¬ ((m_does_169_l9 a i nx) < 0 ∨ ¬ (m_does_169_l9 a i nx) ≤ 1023) := by
                rw [ek]; exact fun q => k0 (q.imp id (fun q z => q ((lt1024 _).mp z)))
              have hA := zc_k32_addr k0 k2 hi
              have hE := zc_k32_ending k0 k2 hi
              have q0 := not_or.mp k0
              have hin : vp_in (D_work_6_l4 a rg + i) 1024 := in_lt q0.1 (Decidable.not_not.mp q0.2) (by decide)
              obtain ⟨n, hn, en⟩ := vp_in_of hin (by decide)
              have e1 : ¬ D_isLoad_21_s0 (D_work_x_de_ending 32 a i rg) 32 = 0 := by rw [hE]; decide
              have l10 : m_does_202_l10 a i nx = nI (n / 4) := by unfold m_does_202_l10; rw [ek, en]; exact (line_eq hn).2
              have l11 : m_does_209_l11 a i nx = nI (n / 4) &&& 15 := by unfold m_does_209_l11; rw [l10]
              have l3 : L_miss_3_l2 (D_work_x_de_address 32 a i rg) = nI (n / 4) := by rw [hA, en]; exact (line_eq hn).1
              obtain ⟨u, hu, eu⟩ := vp_in_of (in15 (nI (n / 4))) (by decide)
              refine ⟨(zm_k32_pc k0 k2 hi).trans (zc_k32_next k0 k2 hi).symm, (zm_k32_took k0 k2 hi).trans (zc_k32_taken k0 k2 hi).symm, Or.inl ⟨hE, zm_k32_last k0 k2 hi⟩, fun _ => Or.inr ⟨zc_k32_gets k0 k2 hi, zm_k32_regAt k0 k2 hi, ?_, ?_⟩, fun _ => Or.inl ⟨by decide, zm_k32_memAt k0 k2 hi, zm_k32_nda k0 k2 hi⟩, fun _ => Or.inl ⟨by decide, zm_k32_puts k0 k2 hi⟩, ?_, ?_, by rw [hA]; exact hin⟩
              · rw [zm_k32_regValue k0 k2 hi, zc_k32_value k0 k2 hi, ek, en, nI_clamp (by omega)]
                exact (hst n hn).symm
              · rw [zm_k32_nx k0 k2 hi, zc_k32_value k0 k2 hi, ek, en, nI_clamp (by omega), hst n hn]
              · rw [zm_k32_miss k0 k2 hi, if_neg e1]
                unfold m_does_229_s0 L_miss_24_s0
                rw [l10, l11, l3, eu, nI_clamp (by omega), ← hh u hu]
                by_cases q : he u = nI (n / 4)
                · rw [if_pos q, if_pos rfl]
                · rw [if_neg q, if_neg (by decide)]
              · rw [zm_k32_nli k0 k2 hi, if_neg e1]
                unfold m_does_240_nli L_miss_32_he
                rw [l10, l11, l3]
                exact eqOn_upd hh
          · by_cases n33 : op = 33
            · subst n33
              by_cases k0 : (((D_work_6_l4 a rg) + i) < 0 ∨ ¬ ((D_work_6_l4 a rg) + i) < 1024)
              · have k2 : ((m_does_169_l9 a i nx) < 0 ∨ ¬ (m_does_169_l9 a i nx) ≤ 1023) := by
                  rw [ek]; exact k0.imp id (fun q z => q ((lt1024 _).mpr z))
                exact DSb _ _ _ _ _ _ _ _ _ _ _ _ _ _ _ _ _ (Or.inr ⟨zc_l33_ending k0 k2 hi, by rw [zc_l33_trap k0 k2 hi]; decide⟩) (zm_l33_last k0 k2 hi) ((zm_l33_which k0 k2 hi).trans (zc_l33_trap k0 k2 hi).symm) (zc_l33_addr k0 k2 hi) ((zm_l33_pc k0 k2 hi).trans (zc_l33_next k0 k2 hi).symm) ((zm_l33_took k0 k2 hi).trans (zc_l33_taken k0 k2 hi).symm) (zm_l33_miss k0 k2 hi) (zm_l33_nli k0 k2 hi) hh
              · have k2 : ¬ ((m_does_169_l9 a i nx) < 0 ∨ ¬ (m_does_169_l9 a i nx) ≤ 1023) := by
                  rw [ek]; exact fun q => k0 (q.imp id (fun q z => q ((lt1024 _).mp z)))
                have hA := zc_k33_addr k0 k2 hi
                have hE := zc_k33_ending k0 k2 hi
                have q0 := not_or.mp k0
                have hin : vp_in (D_work_6_l4 a rg + i) 1024 := in_lt q0.1 (Decidable.not_not.mp q0.2) (by decide)
                have e1 : D_isLoad_21_s0 (D_work_x_de_ending 33 a i rg) 33 = 0 := if_pos (Or.inl (by decide))
                refine ⟨(zm_k33_pc k0 k2 hi).trans (zc_k33_next k0 k2 hi).symm, (zm_k33_took k0 k2 hi).trans (zc_k33_taken k0 k2 hi).symm, Or.inl ⟨hE, zm_k33_last k0 k2 hi⟩, fun _ => Or.inl ⟨zc_k33_gets k0 k2 hi, zm_k33_regAt k0 k2 hi, zm_k33_nx k0 k2 hi⟩, fun _ => Or.inr ⟨rfl, ?_, ?_, ?_⟩, fun _ => Or.inl ⟨by decide, zm_k33_puts k0 k2 hi⟩, ?_, ?_, by rw [hA]; exact hin⟩
                · rw [zm_k33_memAt k0 k2 hi, hA, ek]
                · rw [zm_k33_memValue k0 k2 hi, zc_k33_value k0 k2 hi, eb]
                · rw [zm_k33_nda k0 k2 hi, zc_k33_value k0 k2 hi, hA]
                  unfold m_does_264_nda
                  rw [ek, eb]
                · rw [if_pos e1, zm_k33_miss k0 k2 hi]
                · rw [if_pos e1, zm_k33_nli k0 k2 hi]; exact hh
            · have h2 : ¬ (op = 32 ∨ op = 33) := fun z => z.elim n32 n33
              by_cases h3 : (op < 40 ∨ 43 < op)
              · by_cases n44 : op = 44
                · subst n44
                  exact DSa _ _ _ _ _ _ _ _ _ _ _ _ _ _ _ _ _ (zc_k44_ending hi) (zm_k44_last hi) (zc_k44_addr hi) ((zm_k44_pc hi).trans (zc_k44_next hi).symm) ((zm_k44_took hi).trans (zc_k44_taken hi).symm)
                    (Or.inr ⟨zc_k44_gets hi, zm_k44_regAt hi, (zm_k44_regValue hi).trans (zc_k44_value hi).symm, by rw [zm_k44_nx hi, zc_k44_value hi]⟩) (by decide) (by decide) (zm_k44_memAt hi) (zm_k44_nda hi) (Or.inl ⟨by decide, zm_k44_puts hi⟩) (zm_k44_miss hi) (zm_k44_nli hi) hh
                · by_cases n45 : op = 45
                  · subst n45
                    exact DSa _ _ _ _ _ _ _ _ _ _ _ _ _ _ _ _ _ (zc_k45_ending hi) (zm_k45_last hi) (zc_k45_addr hi) (by rw [zm_k45_pc hi, zc_k45_next hi]; unfold m_does_446_pc; rw [ea]) ((zm_k45_took hi).trans (zc_k45_taken hi).symm)
                      (Or.inr ⟨zc_k45_gets hi, zm_k45_regAt hi, (zm_k45_regValue hi).trans (zc_k45_value hi).symm, by rw [zm_k45_nx hi, zc_k45_value hi]⟩) (by decide) (by decide) (zm_k45_memAt hi) (zm_k45_nda hi) (Or.inl ⟨by decide, zm_k45_puts hi⟩) (zm_k45_miss hi) (zm_k45_nli hi) hh
                  · by_cases n48 : op = 48
                    · subst n48
                      exact DSb _ _ _ _ _ _ _ _ _ _ _ _ _ _ _ _ _ (Or.inl ⟨zc_k48_ending hi, zc_k48_trap hi⟩) (zm_k48_last hi) ((zm_k48_which hi).trans (zc_k48_trap hi).symm) (zc_k48_addr hi) ((zm_k48_pc hi).trans (zc_k48_next hi).symm) ((zm_k48_took hi).trans (zc_k48_taken hi).symm) (zm_k48_miss hi) (zm_k48_nli hi) hh
                    · by_cases n49 : op = 49
                      · subst n49
                        exact DSa _ _ _ _ _ _ _ _ _ _ _ _ _ _ _ _ _ (zc_k49_ending hi) (zm_k49_last hi) (zc_k49_addr hi) ((zm_k49_pc hi).trans (zc_k49_next hi).symm) ((zm_k49_took hi).trans (zc_k49_taken hi).symm)
                          (Or.inl ⟨zc_k49_gets hi, zm_k49_regAt hi, zm_k49_nx hi⟩) (by decide) (by decide) (zm_k49_memAt hi) (zm_k49_nda hi) (Or.inr ⟨rfl, zm_k49_puts hi, by rw [zm_k49_outValue hi, zc_k49_value hi, ea]⟩) (zm_k49_miss hi) (zm_k49_nli hi) hh
                      · exact DSb _ _ _ _ _ _ _ _ _ _ _ _ _ _ _ _ _ (Or.inr ⟨zc_oth_ending h0 h1 h2 h3 n26 n32 n33 n44 n45 n48 n49 n64 hi, by rw [zc_oth_trap h0 h1 h2 h3 n26 n32 n33 n44 n45 n48 n49 n64 hi]; decide⟩) (zm_oth_last h0 h1 h2 h3 n26 n32 n33 n44 n45 n48 n49 n64 hi) ((zm_oth_which h0 h1 h2 h3 n26 n32 n33 n44 n45 n48 n49 n64 hi).trans (zc_oth_trap h0 h1 h2 h3 n26 n32 n33 n44 n45 n48 n49 n64 hi).symm) (zc_oth_addr h0 h1 h2 h3 n26 n32 n33 n44 n45 n48 n49 n64 hi) ((zm_oth_pc h0 h1 h2 h3 n26 n32 n33 n44 n45 n48 n49 n64 hi).trans (zc_oth_next h0 h1 h2 h3 n26 n32 n33 n44 n45 n48 n49 n64 hi).symm) ((zm_oth_took h0 h1 h2 h3 n26 n32 n33 n44 n45 n48 n49 n64 hi).trans (zc_oth_taken h0 h1 h2 h3 n26 n32 n33 n44 n45 n48 n49 n64 hi).symm) (zm_oth_miss h0 h1 h2 h3 n26 n32 n33 n44 n45 n48 n49 n64 hi) (zm_oth_nli h0 h1 h2 h3 n26 n32 n33 n44 n45 n48 n49 n64 hi) hh
              · have n44 : ¬ op = 44 := fun e => h3 (by rw [e]; decide)
                have n45 : ¬ op = 45 := fun e => h3 (by rw [e]; decide)
                have n49 : ¬ op = 49 := fun e => h3 (by rw [e]; decide)
                have et : m_does_368_s0 op a b nx = D_holds_ret op (D_work_6_l4 a rg) (D_work_14_l5 b rg) := by
                  unfold m_does_368_s0 D_holds_ret
                  rw [ea, eb]
                  rfl
                exact DSa _ _ _ _ _ _ _ _ _ _ _ _ _ _ _ _ _ (zc_br_ending h0 h1 n26 n32 n44 n45 h2 h3 hi) (zm_br_last h0 h1 n26 n32 n44 n45 h2 h3 hi) (zc_br_addr h0 h1 n26 n32 n44 n45 h2 h3 hi) (by rw [zm_br_pc h0 h1 n26 n32 n44 n45 h2 h3 hi, zc_br_next h0 h1 n26 n32 n44 n45 h2 h3 hi, et]; rfl) (by rw [zm_br_took h0 h1 n26 n32 n44 n45 h2 h3 hi, zc_br_taken h0 h1 n26 n32 n44 n45 h2 h3 hi, et])
                  (Or.inl ⟨zc_br_gets h0 h1 n26 n32 n44 n45 h2 h3 hi, zm_br_regAt h0 h1 n26 n32 n44 n45 h2 h3 hi, zm_br_nx h0 h1 n26 n32 n44 n45 h2 h3 hi⟩) n32 n33 (zm_br_memAt h0 h1 n26 n32 n44 n45 h2 h3 hi) (zm_br_nda h0 h1 n26 n32 n44 n45 h2 h3 hi) (Or.inl ⟨n49, zm_br_puts h0 h1 n26 n32 n44 n45 h2 h3 hi⟩) (zm_br_miss h0 h1 n26 n32 n44 n45 h2 h3 hi) (zm_br_nli h0 h1 n26 n32 n44 n45 h2 h3 hi) hh
      · have n32 : ¬ op = 32 := fun e => h1 (by rw [e]; decide)
        have n33 : ¬ op = 33 := fun e => h1 (by rw [e]; decide)
        have n49 : ¬ op = 49 := fun e => h1 (by rw [e]; decide)
        have ev : m_does_x_mm_regValue in_ op a b i rv pc nx nda = D_work_x_de_value pc op a b i rg sto := by
          rw [zm_num_regValue h0 h1 hi, zc_num_value h0 h1 hi, ea, sum_eq]; rfl
        exact DSa _ _ _ _ _ _ _ _ _ _ _ _ _ _ _ _ _ (zc_num_ending h0 h1 hi) (zm_num_last h0 h1 hi) (zc_num_addr h0 h1 hi) ((zm_num_pc h0 h1 hi).trans (zc_num_next h0 h1 hi).symm) ((zm_num_took h0 h1 hi).trans (zc_num_taken h0 h1 hi).symm)
          (Or.inr ⟨zc_num_gets h0 h1 hi, zm_num_regAt h0 h1 hi, ev, by rw [zm_num_nx h0 h1 hi, zc_num_value h0 h1 hi, ea, sum_eq]; rfl⟩) n32 n33 (zm_num_memAt h0 h1 hi) (zm_num_nda h0 h1 hi) (Or.inl ⟨n49, zm_num_puts h0 h1 hi⟩) (zm_num_miss h0 h1 hi) (zm_num_nli h0 h1 hi) hh
    · have n32 : ¬ op = 32 := fun e => h0 (by rw [e]; decide)
      have n33 : ¬ op = 33 := fun e => h0 (by rw [e]; decide)
      have n49 : ¬ op = 49 := fun e => h0 (by rw [e]; decide)
      have ev : m_does_x_mm_regValue in_ op a b i rv pc nx nda = D_work_x_de_value pc op a b i rg sto := by
        rw [zm_two_regValue h0 hi, zc_two_value h0 hi, ea, eb, sum_eq]; rfl
      exact DSa _ _ _ _ _ _ _ _ _ _ _ _ _ _ _ _ _ (zc_two_ending h0 hi) (zm_two_last h0 hi) (zc_two_addr h0 hi) ((zm_two_pc h0 hi).trans (zc_two_next h0 hi).symm) ((zm_two_took h0 hi).trans (zc_two_taken h0 hi).symm)
        (Or.inr ⟨zc_two_gets h0 hi, zm_two_regAt h0 hi, ev, by rw [zm_two_nx h0 hi, zc_two_value h0 hi, ea, eb, sum_eq]; rfl⟩) n32 n33 (zm_two_memAt h0 hi) (zm_two_nda h0 hi) (Or.inl ⟨n49, zm_two_puts h0 hi⟩) (zm_two_miss h0 hi) (zm_two_nli h0 hi) hh

