/-! what was told: ring of four against ring of sixty-four; the CALLS: ring of eight against a list that shifts -/
abbrev HT : Type := Int32 × Int32 × Int32 × (Nat → Int32) × (Nat → Int32)
def kR (w k : Int32) : Prop := (w = 0 ∧ k = 1) ∨ (w = 1 ∧ k = 0) ∨ (w = 2 ∧ k = 2) ∨ (w = 3 ∧ k = 3)
def caR (sz nw : Nat) (ri ca : Nat → Int32) : Prop := sz ≤ 8 ∧ nw < 8 ∧ ∀ j, j < sz → ri ((nw + 8 - j) % 8) = ca (sz - 1 - j)
def qR (hd fi q : Nat) (tw tp tx qp qk : Nat → Int32) (qt : Nat → Int64) : Prop := ∀ k, k < q → tp ((hd + k) % 4) = qp ((fi + k) % 64) ∧ kR (tw ((hd + k) % 4)) (qk ((fi + k) % 64)) ∧ ∃ t : Nat, t < 2 ^ 30 ∧ tx ((hd + k) % 4) = nI t ∧ qt ((fi + k) % 64) = lN t
theorem min3 (y : Int32) : (if 3 < y then 3 else y) = (if y < 3 then y else 3) := by
  by_cases h : 3 < y
  · rw [if_pos h, if_neg (by rw [Int32.lt_iff_toInt_lt] at h ⊢; omega)]
  · rw [if_neg h]
    by_cases h2 : y < 3
    · rw [if_pos h2]
    · rw [if_neg h2]
      rw [Int32.lt_iff_toInt_lt] at h h2
      exact Int32.toInt_inj.mp (by omega)
theorem max0 (y : Int32) : (if y < 0 then 0 else y) = (if 0 < y then y else 0) := by
  by_cases h : y < 0
  · rw [if_pos h, if_neg (by rw [Int32.lt_iff_toInt_lt] at h ⊢; omega)]
  · rw [if_neg h]
    by_cases h2 : 0 < y
    · rw [if_pos h2]
    · rw [if_neg h2]
      rw [Int32.lt_iff_toInt_lt] at h h2
      exact Int32.toInt_inj.mp (by omega)
theorem and3 (n : Nat) (h : n < 2 ^ 31) : Int32.toNatClampNeg (nI n &&& 3) = n % 4 := by
  rw [pk_andN (by omega) 2 (by decide), nI_clamp (by omega)]
theorem nw_up : ∀ nw, nw < 8 → (nI nw + 1) &&& 7 = nI ((nw + 1) % 8) := by decide +kernel
theorem nw_dn : ∀ nw, nw < 8 → (nI nw - 1) &&& 7 = nI ((nw + 7) % 8) := by decide +kernel
theorem sz_up : ∀ sz, sz ≤ 8 → C_push_x_ca_size (nI sz) = nI (if sz = 8 then 8 else sz + 1) := by decide +kernel
theorem sz_dn : ∀ sz, sz ≤ 8 → C_pop_x_ca_size (nI sz) = nI (sz - 1) := by decide +kernel
theorem shift7 (v : HT) : ∀ j, j < 7 → m_told_145_nca'''''' v j = v.2.2.2.2 (j + 1) := by
  intro j hj
  have h : j = 0 ∨ j = 1 ∨ j = 2 ∨ j = 3 ∨ j = 4 ∨ j = 5 ∨ j = 6 := by omega
  rcases h with rfl | rfl | rfl | rfl | rfl | rfl | rfl <;> rfl
theorem caR_push {sz nw : Nat} {ri ca ca' : Nat → Int32} {x : Int32} (h : caR sz nw ri ca) (h1 : ca' ((if sz = 8 then 8 else sz + 1) - 1) = x) (h2 : sz = 8 → ∀ j, j < 7 → ca' j = ca (j + 1)) (h3 : ¬ sz = 8 → ∀ j, j < sz → ca' j = ca j) :
    caR (if sz = 8 then 8 else sz + 1) ((nw + 1) % 8) (upd ri ((nw + 1) % 8) x) ca' := by
  obtain ⟨hs, hn, hr⟩ := h
  refine ⟨by split <;> omega, by omega, fun j hj => ?_⟩
  by_cases j0 : j = 0
  · subst j0
    rw [show ((nw + 1) % 8 + 8 - 0) % 8 = (nw + 1) % 8 by omega, pk_us]
    exact h1.symm
  · have hj8 : j < 8 := by split at hj <;> omega
    rw [pk_un (by omega), show ((nw + 1) % 8 + 8 - j) % 8 = (nw + 8 - (j - 1)) % 8 by omega, hr (j - 1) (by split at hj <;> omega)]
    by_cases q : sz = 8
    · rw [if_pos q] at hj ⊢
      rw [h2 q (8 - 1 - j) (by omega)]
      congr 1; omega
    · rw [if_neg q] at hj ⊢
      rw [h3 q (sz + 1 - 1 - j) (by omega)]
      congr 1; omega
theorem caR_pop {sz nw : Nat} {ri ca : Nat → Int32} (h : caR sz nw ri ca) : caR (sz - 1) (if sz = 0 then nw else (nw + 7) % 8) ri ca := by
  obtain ⟨hs, hn, hr⟩ := h
  refine ⟨by omega, by split <;> omega, fun j hj => ?_⟩
  rw [if_neg (by omega), show ((nw + 7) % 8 + 8 - j) % 8 = (nw + 8 - (j + 1)) % 8 by omega, hr (j + 1) (by omega)]
  congr 1; omega
/-- one that is heeded: class and reference -/
theorem heed1 {wh k pc : Int32} {hd fi q sz nw : Nat} {cn ri ncn nca tw tp tx qp qk : Nat → Int32} {qt : Nat → Int64} {f told : Int32} {cy : Int64} (hhd : hd < 2 ^ 30) (hfi : fi < 64) (hq : 0 < q) (hca : caR sz nw ri nca) (hcn : eqOn 64 cn ncn)
    (ew : tw (hd % 4) = wh) (ek : qk fi = k) (hk : kR wh k) (ep : tp (hd % 4) = pc) (ep' : qp fi = pc) :
    ∃ sz' nw' cn' ri' ncn' nca', G_hb_s f told tw tp tx ((nI hd, nI sz, nI nw, cn, ri) : HT) = (nI (hd + 1), nI sz', nI nw', cn', ri') ∧ m_tl_s cy qp qk qt ((nI q, nI fi, nI sz, ncn, nca) : HT) = (nI (q - 1), nI ((fi + 1) % 64), nI sz', ncn', nca') ∧ caR sz' nw' ri' nca' ∧ eqOn 64 cn' ncn' := by
  have e1 : Int32.toNatClampNeg (nI hd &&& 3) = hd % 4 := and3 hd (by omega)
  have e2 : nI q - 1 = nI (q - 1) := by
    have := nI_pred (q - 1)
    rw [show q - 1 + 1 = q by omega] at this
    exact this
  have e3 : m_told_211_first ((nI q, nI fi, nI sz, ncn, nca) : HT) = nI ((fi + 1) % 64) := by
    show (nI fi + 1) - (nI fi + 1) / 64 * 64 = nI ((fi + 1) % 64)
    rw [nI_1]
    exact pk_rem (a := fi + 1) (d := 64) (by omega) (by decide) (by decide)
  have e4 : m_told_40_l4 qk ((nI q, nI fi, nI sz, ncn, nca) : HT) = k := by
    show qk (Int32.toNatClampNeg (nI fi)) = k
    rw [nI_clamp (by omega)]; exact ek
  have e5 : m_told_30_l3 qp ((nI q, nI fi, nI sz, ncn, nca) : HT) = pc := by
    show qp (Int32.toNatClampNeg (nI fi)) = pc
    rw [nI_clamp (by omega)]; exact ep'
  have e6 : m_told_46_l5 qp ((nI q, nI fi, nI sz, ncn, nca) : HT) = pc &&& 63 := by unfold m_told_46_l5; rw [e5]
  obtain ⟨u, hu, eu⟩ := vp_in_of (in63 pc) (by decide)
  have eu' : Int32.toNatClampNeg (pc &&& 63) = u := by rw [eu, nI_clamp (by omega)]
  have hS : G_hb_s f told tw tp tx ((nI hd, nI sz, nI nw, cn, ri) : HT) = (nI (hd + 1), G_heed_x_ca_size wh (nI sz), G_heed_x_ca_newest wh (nI sz) (nI nw), G_heed_x_cn wh pc cn, G_heed_x_ri wh pc (nI nw) ri) := by
    show ((nI hd + 1), (G_heed_x_ca_size (tw (Int32.toNatClampNeg (nI hd &&& 3))) (nI sz)), (G_heed_x_ca_newest (tw (Int32.toNatClampNeg (nI hd &&& 3))) (nI sz) (nI nw)), (G_heed_x_cn (tw (Int32.toNatClampNeg (nI hd &&& 3))) (tp (Int32.toNatClampNeg (nI hd &&& 3))) cn), (G_heed_x_ri (tw (Int32.toNatClampNeg (nI hd &&& 3))) (tp (Int32.toNatClampNeg (nI hd &&& 3))) (nI nw) ri)) = _
    rw [e1, ew, ep, nI_1]
  have hM : m_tl_s cy qp qk qt ((nI q, nI fi, nI sz, ncn, nca) : HT) = (nI (q - 1), nI ((fi + 1) % 64), m_told_201_mm_depth qk ((nI q, nI fi, nI sz, ncn, nca) : HT), m_told_201_ncn qp qk ((nI q, nI fi, nI sz, ncn, nca) : HT), m_told_201_nca qp qk ((nI q, nI fi, nI sz, ncn, nca) : HT)) := by
    show (nI q - 1, m_told_211_first ((nI q, nI fi, nI sz, ncn, nca) : HT), _, _, _) = _
    rw [e2, e3]
  rw [hS, hM]
  have hsz := hca.1
  have hnw := hca.2.1
  rcases hk with ⟨rfl, rfl⟩ | ⟨rfl, rfl⟩ | ⟨rfl, rfl⟩ | ⟨rfl, rfl⟩
  · refine ⟨sz, nw, G_heed_x_cn 0 pc cn, ri, m_told_201_ncn qp qk ((nI q, nI fi, nI sz, ncn, nca) : HT), nca, Prod.ext rfl (Prod.ext rfl (Prod.ext rfl (Prod.ext rfl rfl))), Prod.ext rfl (Prod.ext rfl (Prod.ext (if_pos e4) (Prod.ext rfl (if_pos e4)))), hca, ?_⟩
    rw [show m_told_201_ncn qp qk ((nI q, nI fi, nI sz, ncn, nca) : HT) = m_told_73_ncn qp ((nI q, nI fi, nI sz, ncn, nca) : HT) from if_pos e4]
    show eqOn 64 (upd cn (Int32.toNatClampNeg (pc &&& 63)) (if 3 < (cn (Int32.toNatClampNeg (pc &&& 63)) + 1) then 3 else (cn (Int32.toNatClampNeg (pc &&& 63)) + 1))) (upd ncn (Int32.toNatClampNeg (m_told_46_l5 qp ((nI q, nI fi, nI sz, ncn, nca) : HT))) (if (ncn (Int32.toNatClampNeg (m_told_46_l5 qp ((nI q, nI fi, nI sz, ncn, nca) : HT))) + 1) < 3 then (ncn (Int32.toNatClampNeg (m_told_46_l5 qp ((nI q, nI fi, nI sz, ncn, nca) : HT))) + 1) else 3))
    rw [e6, eu', hcn u hu, min3]
    exact eqOn_upd hcn
  · refine ⟨sz, nw, G_heed_x_cn 1 pc cn, ri, m_told_201_ncn qp qk ((nI q, nI fi, nI sz, ncn, nca) : HT), nca, Prod.ext rfl (Prod.ext rfl (Prod.ext rfl (Prod.ext rfl rfl))), Prod.ext rfl (Prod.ext rfl (Prod.ext ((if_neg (by rw [e4]; decide)).trans (if_pos e4)) (Prod.ext rfl ((if_neg (by rw [e4]; decide)).trans (if_pos e4))))), hca, ?_⟩
    rw [show m_told_201_ncn qp qk ((nI q, nI fi, nI sz, ncn, nca) : HT) = m_told_101_ncn qp ((nI q, nI fi, nI sz, ncn, nca) : HT) from (if_neg (by rw [e4]; decide)).trans (if_pos e4)]
    show eqOn 64 (upd cn (Int32.toNatClampNeg (pc &&& 63)) (if (cn (Int32.toNatClampNeg (pc &&& 63)) - 1) < 0 then 0 else (cn (Int32.toNatClampNeg (pc &&& 63)) - 1))) (upd ncn (Int32.toNatClampNeg (m_told_46_l5 qp ((nI q, nI fi, nI sz, ncn, nca) : HT))) (if 0 < (ncn (Int32.toNatClampNeg (m_told_46_l5 qp ((nI q, nI fi, nI sz, ncn, nca) : HT))) - 1) then (ncn (Int32.toNatClampNeg (m_told_46_l5 qp ((nI q, nI fi, nI sz, ncn, nca) : HT))) - 1) else 0))
    rw [e6, eu', hcn u hu, max0]
    exact eqOn_upd hcn
  · have f1 : ¬ m_told_40_l4 qk ((nI q, nI fi, nI sz, ncn, nca) : HT) = 1 := by rw [e4]; decide
    have f0 : ¬ m_told_40_l4 qk ((nI q, nI fi, nI sz, ncn, nca) : HT) = 0 := by rw [e4]; decide
    have d1 : m_told_201_mm_depth qk ((nI q, nI fi, nI sz, ncn, nca) : HT) = m_told_174_depth ((nI q, nI fi, nI sz, ncn, nca) : HT) := (if_neg f1).trans ((if_neg f0).trans (if_pos e4))
    have d2 : m_told_201_nca qp qk ((nI q, nI fi, nI sz, ncn, nca) : HT) = m_told_180_nca qp ((nI q, nI fi, nI sz, ncn, nca) : HT) := (if_neg f1).trans ((if_neg f0).trans (if_pos e4))
    have d3 : m_told_201_ncn qp qk ((nI q, nI fi, nI sz, ncn, nca) : HT) = ncn := (if_neg f1).trans (if_neg f0)
    have dm : m_told_162_mm_depth ((nI q, nI fi, nI sz, ncn, nca) : HT) = nI ((if sz = 8 then 8 else sz + 1) - 1) := by
      show (if nI sz = 8 then nI sz - 1 else nI sz) = _
      by_cases q8 : sz = 8
      · subst q8; rfl
      · rw [if_neg (show ¬ nI sz = 8 from fun z => q8 ((nI_eq (a := sz) (b := 8) (by omega) (by decide)).mp z)), if_neg q8]; rfl
    have dd : m_told_174_depth ((nI q, nI fi, nI sz, ncn, nca) : HT) = nI (if sz = 8 then 8 else sz + 1) := by
      unfold m_told_174_depth
      rw [dm, nI_1]
      congr 1; split <;> omega
    have hl : (if sz = 8 then 8 else sz + 1) - 1 < 2 ^ 31 := by split <;> omega
    refine ⟨if sz = 8 then 8 else sz + 1, (nw + 1) % 8, cn, G_heed_x_ri 2 pc (nI nw) ri, ncn, m_told_180_nca qp ((nI q, nI fi, nI sz, ncn, nca) : HT), Prod.ext rfl (Prod.ext (sz_up sz hsz) (Prod.ext (nw_up nw hnw) (Prod.ext rfl rfl))), Prod.ext rfl (Prod.ext rfl (Prod.ext (d1.trans dd) (Prod.ext d3 d2))), ?_, hcn⟩
    show caR _ _ (upd ri (Int32.toNatClampNeg ((nI nw + 1) &&& 7)) (pc + 1)) _
    rw [nw_up nw hnw, nI_clamp (by omega)]
    refine caR_push hca ?_ (fun q8 j hj => ?_) (fun q8 j hj => ?_)
    · show upd (m_told_162_nca ((nI q, nI fi, nI sz, ncn, nca) : HT)) (Int32.toNatClampNeg (m_told_162_mm_depth ((nI q, nI fi, nI sz, ncn, nca) : HT))) (m_told_30_l3 qp ((nI q, nI fi, nI sz, ncn, nca) : HT) + 1) _ = _
      rw [dm, nI_clamp hl, e5, pk_us]
    · show upd (m_told_162_nca ((nI q, nI fi, nI sz, ncn, nca) : HT)) (Int32.toNatClampNeg (m_told_162_mm_depth ((nI q, nI fi, nI sz, ncn, nca) : HT))) (m_told_30_l3 qp ((nI q, nI fi, nI sz, ncn, nca) : HT) + 1) j = _
      rw [dm, nI_clamp hl, pk_un (by rw [if_pos q8]; omega)]
      rw [show m_told_162_nca ((nI q, nI fi, nI sz, ncn, nca) : HT) = m_told_145_nca'''''' ((nI q, nI fi, nI sz, ncn, nca) : HT) from if_pos (by show nI sz = 8; rw [q8]; rfl)]
      exact shift7 _ j hj
    · show upd (m_told_162_nca ((nI q, nI fi, nI sz, ncn, nca) : HT)) (Int32.toNatClampNeg (m_told_162_mm_depth ((nI q, nI fi, nI sz, ncn, nca) : HT))) (m_told_30_l3 qp ((nI q, nI fi, nI sz, ncn, nca) : HT) + 1) j = _
      rw [dm, nI_clamp hl, pk_un (by rw [if_neg q8]; omega)]
      rw [show m_told_162_nca ((nI q, nI fi, nI sz, ncn, nca) : HT) = nca from if_neg (show ¬ nI sz = 8 from fun z => q8 ((nI_eq (a := sz) (b := 8) (by omega) (by decide)).mp z))]
  · have f1 : ¬ m_told_40_l4 qk ((nI q, nI fi, nI sz, ncn, nca) : HT) = 1 := by rw [e4]; decide
    have f0 : ¬ m_told_40_l4 qk ((nI q, nI fi, nI sz, ncn, nca) : HT) = 0 := by rw [e4]; decide
    have f2 : ¬ m_told_40_l4 qk ((nI q, nI fi, nI sz, ncn, nca) : HT) = 2 := by rw [e4]; decide
    have d1 : m_told_201_mm_depth qk ((nI q, nI fi, nI sz, ncn, nca) : HT) = (if nI sz ≤ 0 then nI sz else nI sz - 1) := (if_neg f1).trans ((if_neg f0).trans (if_neg f2))
    have d2 : m_told_201_nca qp qk ((nI q, nI fi, nI sz, ncn, nca) : HT) = nca := (if_neg f1).trans ((if_neg f0).trans (if_neg f2))
    have d3 : m_told_201_ncn qp qk ((nI q, nI fi, nI sz, ncn, nca) : HT) = ncn := (if_neg f1).trans (if_neg f0)
    have d4 : (if nI sz ≤ 0 then nI sz else nI sz - 1) = nI (sz - 1) := sz_dn sz hsz
    have d5 : G_heed_x_ca_newest 3 (nI sz) (nI nw) = nI (if sz = 0 then nw else (nw + 7) % 8) := by
      show (if nI sz ≤ 0 then nI nw else ((nI nw - 1) &&& 7)) = _
      by_cases s0 : sz = 0
      · subst s0; rfl
      · rw [if_neg (nI_nle (by omega) (by omega)), if_neg s0]
        exact nw_dn nw hnw
    exact ⟨sz - 1, if sz = 0 then nw else (nw + 7) % 8, cn, ri, ncn, nca, Prod.ext rfl (Prod.ext (sz_dn sz hsz) (Prod.ext d5 (Prod.ext rfl rfl))), Prod.ext rfl (Prod.ext rfl (Prod.ext (d1.trans d4) (Prod.ext d3 d2))), caR_pop hca, hcn⟩
/-- all that are heeded, with n turns at the most -/
theorem heed_ok {f : Nat} {tw tp tx qp qk : Nat → Int32} {qt : Nat → Int64} (hf : f < 2 ^ 30) : ∀ (n q hd fi sz nw : Nat) (cn ri ncn nca : Nat → Int32), hd + q < 2 ^ 30 → fi < 64 → q ≤ 64 → caR sz nw ri nca → eqOn 64 cn ncn → qR hd fi q tw tp tx qp qk qt →
    ∃ q' sz' nw' : Nat, ∃ cn' ri' ncn' nca' : Nat → Int32, q' ≤ q ∧ G_hb (nI f) (nI (hd + q)) tw tp tx n ((nI hd, nI sz, nI nw, cn, ri) : HT) = (nI (hd + (q - q')), nI sz', nI nw', cn', ri') ∧ m_tl (lN f) qp qk qt n ((nI q, nI fi, nI sz, ncn, nca) : HT) = (nI q', nI ((fi + (q - q')) % 64), nI sz', ncn', nca') ∧ caR sz' nw' ri' nca' ∧ eqOn 64 cn' ncn' ∧
      (∀ k t : Nat, k < q - q' → tx ((hd + k) % 4) = nI t → t < 2 ^ 30 → t < f) ∧ (q ≤ n → q' = 0 ∨ ∃ t : Nat, t < 2 ^ 30 ∧ tx ((hd + (q - q')) % 4) = nI t ∧ qt ((fi + (q - q')) % 64) = lN t ∧ f ≤ t) := by
  intro n
  induction n with
  | zero =>
    intro q hd fi sz nw cn ri ncn nca h1 h2 h3 h4 h5 h6
    refine ⟨q, sz, nw, cn, ri, ncn, nca, Nat.le_refl _, ?_, ?_, h4, h5, fun k t hk => by omega, fun h => Or.inl (by omega)⟩
    · rw [Nat.sub_self]; rfl
    · rw [Nat.sub_self, Nat.add_zero, Nat.mod_eq_of_lt h2]; rfl
  | succ n ih =>
    intro q hd fi sz nw cn ri ncn nca h1 h2 h3 h4 h5 h6
    have ef : Int32.toNatClampNeg (nI fi) = fi := nI_clamp (by omega)
    have eh : Int32.toNatClampNeg (nI hd &&& 3) = hd % 4 := and3 hd (by omega)
    by_cases q0 : q = 0
    · subst q0
      refine ⟨0, sz, nw, cn, ri, ncn, nca, Nat.le_refl _, ?_, ?_, h4, h5, fun k t hk => by omega, fun _ => Or.inl rfl⟩
      · exact if_neg (fun z => z.1 (nI_le (Nat.le_refl _) (by omega)))
      · rw [show (fi + (0 - 0)) % 64 = fi by omega]
        exact if_neg (fun z => z.1 (by show nI 0 ≤ 0; decide))
    · obtain ⟨ep, hk, t, ht, e1, e2⟩ := h6 0 (by omega)
      simp only [Nat.add_zero, Nat.mod_eq_of_lt h2] at ep hk e1 e2
      by_cases tf : t < f
      · have c1 : (¬ nI (hd + q) ≤ nI hd ∧ ¬ nI f ≤ (tx (Int32.toNatClampNeg (nI hd &&& 3)))) := ⟨nI_ge (by omega) (by omega), by rw [eh, e1]; exact nI_ge tf (by omega)⟩
        have c2 : (¬ nI q ≤ 0 ∧ ¬ lN f ≤ (qt (Int32.toNatClampNeg (nI fi)))) := ⟨nI_nle (by omega) (by omega), by rw [ef, e2, lN_le (by omega) (by omega)]; omega⟩
        obtain ⟨sz1, nw1, cn1, ri1, ncn1, nca1, s1, s2, s3, s4⟩ := heed1 (q := q) (f := nI f) (told := nI (hd + q)) (cy := lN f) (tx := tx) (qt := qt) (pc := tp (hd % 4)) (by omega) h2 (by omega) h4 h5 rfl rfl hk rfl ep.symm
        have x0 : hd + 1 + (q - 1) = hd + q := by omega
        have x1 : ∀ q', q' ≤ q - 1 → hd + 1 + (q - 1 - q') = hd + (q - q') := fun q' h => by omega
        have x2 : ∀ q', q' ≤ q - 1 → ((fi + 1) % 64 + (q - 1 - q')) % 64 = (fi + (q - q')) % 64 := fun q' h => by omega
        have x3 : q ≤ n + 1 → q - 1 ≤ n := fun h => by omega
        obtain ⟨q', sz', nw', cn', ri', ncn', nca', r0, r1, r2, r3, r4, r5, r6⟩ := ih (q - 1) (hd + 1) ((fi + 1) % 64) sz1 nw1 cn1 ri1 ncn1 nca1 (by omega) (by omega) (by omega) s3 s4 (fun k hk => by
          have := h6 (k + 1) (by omega)
          rw [show hd + 1 + k = hd + (k + 1) by omega, show ((fi + 1) % 64 + k) % 64 = (fi + (k + 1)) % 64 by omega]
          exact this)
        refine ⟨q', sz', nw', cn', ri', ncn', nca', Nat.le_trans r0 (Nat.sub_le _ _), ?_, ?_, r3, r4, ?_, ?_⟩
        · refine (if_pos c1).trans ?_
          rw [s1]
          rw [x0] at r1
          rw [r1, x1 q' r0]
        · refine (if_pos c2).trans ?_
          rw [s2, r2, x2 q' r0]
        · clear r6
          intro k t' hk' et' ht'
          by_cases k0 : k = 0
          · subst k0
            rw [Nat.add_zero, e1] at et'
            have := (nI_eq (a := t) (b := t') (by omega) (by omega)).mp et'
            omega
          · exact r5 (k - 1) t' (by omega) (by rw [show hd + 1 + (k - 1) = hd + k by omega]; exact et') ht'
        · intro hn
          rcases r6 (x3 hn) with h | ⟨t', g1, g2, g3, g4⟩
          · exact Or.inl h
          · refine Or.inr ⟨t', g1, ?_, ?_, g4⟩
            · rw [x1 q' r0] at g2; exact g2
            · rw [x2 q' r0] at g3; exact g3
      · refine ⟨q, sz, nw, cn, ri, ncn, nca, Nat.le_refl _, ?_, ?_, h4, h5, fun k t hk => by omega, fun _ => Or.inr ⟨t, ht, ?_, ?_, by omega⟩⟩
        · rw [Nat.sub_self]
          exact if_neg (fun z => z.2 (by show nI f ≤ tx (Int32.toNatClampNeg (nI hd &&& 3)); rw [eh, e1]; exact nI_le (by omega) (by omega)))
        · rw [show (fi + (q - q)) % 64 = fi by omega]
          exact if_neg (fun z => z.2 (by show lN f ≤ qt (Int32.toNatClampNeg (nI fi)); rw [ef, e2, lN_le (by omega) (by omega)]; omega))
        · rw [Nat.sub_self, Nat.add_zero]; exact e1
        · rw [show (fi + (q - q)) % 64 = fi by omega]; exact e2

