/-! what the tables say of the classes -/
theorem lawK {s : State} {args : Array Value} (hts : ∀ w ∈ gU, w.before args s = true) : ∃ (D : va_G) (cI cJ : ClassId), va_K D vwCl (tyS cI cJ) s := by
  obtain ⟨c0, i0, h0⟩ := u_known (C := RX0) (T := TX0) (N := 3) hts inX0 (hts _ kt_202)
  obtain ⟨c1, i1, h1⟩ := u_known (C := RX1) (T := TX1) (N := 6) hts inX1 (hts _ kt_130)
  obtain ⟨c2, i2, h2⟩ := u_known (C := RX2) (T := TX2) (N := 7) hts inX2 (hts _ kt_196)
  obtain ⟨c3, i3, h3⟩ := u_known (C := RX3) (T := TX3) (N := 1) hts inX3 (hts _ kt_241)
  obtain ⟨c4, i4, h4⟩ := u_known (C := RX4) (T := TX4) (N := 15) hts inX4 (hts _ kt_29)
  obtain ⟨c5, i5, h5⟩ := u_known (C := RX5) (T := TX5) (N := 2) hts inX5 (hts _ kt_35)
  obtain ⟨c6, i6, h6⟩ := u_known (C := RX6) (T := TX6) (N := 8) hts inX6 (hts _ kt_161)
  obtain ⟨c7, i7, h7⟩ := u_known (C := RX7) (T := TX7) (N := 7) hts inX7 (hts _ kt_52)
  obtain ⟨c8, i8, h8⟩ := u_known (C := RX8) (T := TX8) (N := 6) hts inX8 (hts _ kt_90)
  obtain ⟨c9, i9, h9⟩ := u_known (C := RX9) (T := TX9) (N := 1) hts inX9 (hts _ kt_21)
  obtain ⟨c10, i10, h10⟩ := u_known (C := RX10) (T := TX10) (N := 50) hts inX10 (hts _ kt_641)
  obtain ⟨cI, kI, mI, e1, e2, e3⟩ := Cond.arrayClass_spec (hts _ kt_50)
  obtain ⟨cJ, kJ, mJ, f1, f2, f3⟩ := Cond.arrayClass_spec (hts _ kt_843)
  refine ⟨(fun c => match c with | 0 => c0 | 1 => c1 | 2 => c2 | 3 => c3 | 4 => c4 | 5 => c5 | 6 => c6 | 7 => c7 | 8 => c8 | 9 => c9 | 10 => c10 | _ => 0, fun c => match c with | 0 => i0 | 1 => i1 | 2 => i2 | 3 => i3 | 4 => i4 | 5 => i5 | 6 => i6 | 7 => i7 | 8 => i8 | 9 => i9 | 10 => i10 | _ => fun _ => 0), cI, cJ, ?_, ?_⟩
  · intro c q hq
    match c, hq with
    | 0, hq => cases hq; exact h0
    | 1, hq => cases hq; exact h1
    | 2, hq => cases hq; exact h2
    | 3, hq => cases hq; exact h3
    | 4, hq => cases hq; exact h4
    | 5, hq => cases hq; exact h5
    | 6, hq => cases hq; exact h6
    | 7, hq => cases hq; exact h7
    | 8, hq => cases hq; exact h8
    | 9, hq => cases hq; exact h9
    | 10, hq => cases hq; exact h10
    | n + 11, hq => cases hq
  · intro k q hq
    match k, hq with
    | 0, hq => cases hq; exact ⟨fun n z => ⟨fun k h => (by cases h), kI, e2, mI, e3⟩, e1⟩
    | 1, hq => cases hq; exact ⟨fun n z => ⟨fun k h => (by cases h), kJ, f2, mJ, f3⟩, f1⟩
    | n + 2, hq => cases hq
