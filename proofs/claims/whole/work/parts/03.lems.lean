/-! small rows that the walks use -/
abbrev tyS (cI cJ : ClassId) : List (ClassId × FieldType) := [(cI, .int), (cJ, .long)]
theorem in_lt {x M : Int32} {n : Nat} (h1 : ¬ x < 0) (h2 : x < M) (hM : M.toInt = (n : Int)) : vp_in x n := by
  rw [Int32.lt_iff_toInt_lt] at h1 h2
  have e0 : (0 : Int32).toInt = 0 := by decide
  exact vp_in_iff.mpr (by omega)
theorem in_ge {x M : Int32} {n : Nat} (h1 : ¬ x < 0) (h2 : ¬ M ≤ x) (hM : M.toInt = (n : Int)) : vp_in x n := by
  rw [Int32.lt_iff_toInt_lt] at h1
  rw [Int32.le_iff_toInt_le] at h2
  have e0 : (0 : Int32).toInt = 0 := by decide
  exact vp_in_iff.mpr (by omega)
theorem in_le {x M : Int32} {n : Nat} (h1 : ¬ x < 0) (h2 : x ≤ M) (hM : M.toInt + 1 = (n : Int)) : vp_in x n := by
  rw [Int32.lt_iff_toInt_lt] at h1
  rw [Int32.le_iff_toInt_le] at h2
  have e0 : (0 : Int32).toInt = 0 := by decide
  exact vp_in_iff.mpr (by omega)
theorem in_gt {x M : Int32} {n : Nat} (h1 : ¬ x < 0) (h2 : ¬ M < x) (hM : M.toInt + 1 = (n : Int)) : vp_in x n := by
  rw [Int32.lt_iff_toInt_lt] at h1 h2
  have e0 : (0 : Int32).toInt = 0 := by decide
  exact vp_in_iff.mpr (by omega)
theorem in_c {x : Int32} {n : Nat} (h : 0 ≤ x.toInt ∧ x.toInt < n) : vp_in x n := vp_in_iff.mpr h
theorem in15 (x : Int32) : vp_in (x &&& 15) 16 := pk_andIn x 4 (by decide) (by decide)
theorem in63 (x : Int32) : vp_in (x &&& 63) 64 := pk_andIn x 6 (by decide) (by decide)
theorem in7 (x : Int32) : vp_in (x &&& 7) 8 := pk_andIn x 3 (by decide) (by decide)
theorem in3 (x : Int32) : vp_in (x &&& 3) 4 := pk_andIn x 2 (by decide) (by decide)
theorem nz {x : Int32} (h : x = 0 ∨ x = 1) : narrow .boolean (.int x) = .int x ∧ fits .boolean (.int x) = true := by
  rcases h with rfl | rfl
  · exact ⟨by decide, by decide⟩
  · exact ⟨by decide, by decide⟩
theorem l_nz {q : Int32} (h : ¬ q = 0) : ¬ q.toInt64 = 0 := by
  intro z
  apply h
  have e : q.toInt64.toInt = (0 : Int64).toInt := by rw [z]
  rw [Int32.toInt_toInt64] at e
  exact Int32.toInt_inj.mp (by rw [e]; decide)
/-! copies and fills, i places done -/
def cp_ (i : Nat) (g f : Nat → Int32) : Nat → Int32 := fun j => if j < i then f j else g j
def fl_ (i : Nat) (g : Nat → Int32) (v : Int32) : Nat → Int32 := fun j => if j < i then v else g j
def fL_ (i : Nat) (g : Nat → Int64) (v : Int64) : Nat → Int64 := fun j => if j < i then v else g j
theorem cp_0 {g f : Nat → Int32} : cp_ 0 g f = g := by funext j; exact if_neg (Nat.not_lt_zero j)
theorem fl_0 {g : Nat → Int32} {v : Int32} : fl_ 0 g v = g := by funext j; exact if_neg (Nat.not_lt_zero j)
theorem fL_0 {g : Nat → Int64} {v : Int64} : fL_ 0 g v = g := by funext j; exact if_neg (Nat.not_lt_zero j)
theorem cp_s {i N : Nat} {g f : Nat → Int32} (hi : i < N) (hN : N < 2 ^ 31) : upd (cp_ i g f) (Int32.toNatClampNeg (nI i)) (f (Int32.toNatClampNeg (nI i))) = cp_ (i + 1) g f := by
  rw [nI_clamp (by omega)]
  funext j
  by_cases h : j = i
  · subst h; rw [pk_us]; exact (if_pos (Nat.lt_succ_self j)).symm
  · rw [pk_un h]
    unfold cp_
    by_cases h2 : j < i
    · rw [if_pos h2, if_pos (by omega)]
    · rw [if_neg h2, if_neg (by omega)]
theorem fl_s {i N : Nat} {g : Nat → Int32} {v : Int32} (hi : i < N) (hN : N < 2 ^ 31) : upd (fl_ i g v) (Int32.toNatClampNeg (nI i)) v = fl_ (i + 1) g v := by
  rw [nI_clamp (by omega)]
  funext j
  by_cases h : j = i
  · subst h; rw [pk_us]; exact (if_pos (Nat.lt_succ_self j)).symm
  · rw [pk_un h]
    unfold fl_
    by_cases h2 : j < i
    · rw [if_pos h2, if_pos (by omega)]
    · rw [if_neg h2, if_neg (by omega)]
theorem fL_s {i N : Nat} {g : Nat → Int64} {v : Int64} (hi : i < N) (hN : N < 2 ^ 31) : vp_updL (fL_ i g v) (Int32.toNatClampNeg (nI i)) v = fL_ (i + 1) g v := by
  rw [nI_clamp (by omega)]
  funext j
  by_cases h : j = i
  · subst h; rw [pk_uLs]; exact (if_pos (Nat.lt_succ_self j)).symm
  · rw [pk_uLn h]
    unfold fL_
    by_cases h2 : j < i
    · rw [if_pos h2, if_pos (by omega)]
    · rw [if_neg h2, if_neg (by omega)]
section WL
variable {p : Program} {l : Launch} {e : Env} {R : Room} {s : State} {m : MethodId} {args : Array Value} {below : List Frame} {meth : Method} {c : Code} {H : Heap} {locs : List Loc} {cells slots : Nat} {Q : State → Prop}
variable {cc : ByteArray} {pc : Nat} {ls : Array Slot} {rest : List Value} {x y : Int64} {off : Int} {tgt : Nat}
theorem wl_le (hx : p.tables.exec = Jvm.exec) (hb : c.code = cc) (hd : decode cc pc = .ok (.lcmp, 1)) (hd2 : decode cc (pc + 1) = .ok (.ifCond .le off, 3)) (ht : ((pc + 1 : Nat) : Int) + off = (tgt : Int))
    (kt : x ≤ y → W p l e R s m args below meth c H locs cells slots Q (F0 m tgt ls rest)) (kf : ¬ x ≤ y → W p l e R s m args below meth c H locs cells slots Q (F0 m (pc + 4) ls rest)) : W p l e R s m args below meth c H locs cells slots Q (F0 m pc ls (.long y :: .long x :: rest)) :=
  W.lcmp hx hb hd (lv_if_le hx hb hd2 ht (fun h => kt ((lg_cmp_le x y).mp h)) (fun h => kf (fun q => h ((lg_cmp_le x y).mpr q))))
theorem wl_gt (hx : p.tables.exec = Jvm.exec) (hb : c.code = cc) (hd : decode cc pc = .ok (.lcmp, 1)) (hd2 : decode cc (pc + 1) = .ok (.ifCond .gt off, 3)) (ht : ((pc + 1 : Nat) : Int) + off = (tgt : Int))
    (kt : y < x → W p l e R s m args below meth c H locs cells slots Q (F0 m tgt ls rest)) (kf : ¬ y < x → W p l e R s m args below meth c H locs cells slots Q (F0 m (pc + 4) ls rest)) : W p l e R s m args below meth c H locs cells slots Q (F0 m pc ls (.long y :: .long x :: rest)) :=
  W.lcmp hx hb hd (lv_if_gt hx hb hd2 ht (fun h => kt ((lg_cmp_gt x y).mp h)) (fun h => kf (fun q => h ((lg_cmp_gt x y).mpr q))))
theorem wl_ge (hx : p.tables.exec = Jvm.exec) (hb : c.code = cc) (hd : decode cc pc = .ok (.lcmp, 1)) (hd2 : decode cc (pc + 1) = .ok (.ifCond .ge off, 3)) (ht : ((pc + 1 : Nat) : Int) + off = (tgt : Int))
    (kt : y ≤ x → W p l e R s m args below meth c H locs cells slots Q (F0 m tgt ls rest)) (kf : ¬ y ≤ x → W p l e R s m args below meth c H locs cells slots Q (F0 m (pc + 4) ls rest)) : W p l e R s m args below meth c H locs cells slots Q (F0 m pc ls (.long y :: .long x :: rest)) :=
  W.lcmp hx hb hd (lv_if_ge hx hb hd2 ht (fun h => kt ((lg_cmp_ge x y).mp h)) (fun h => kf (fun q => h ((lg_cmp_ge x y).mpr q))))
theorem wl_lt (hx : p.tables.exec = Jvm.exec) (hb : c.code = cc) (hd : decode cc pc = .ok (.lcmp, 1)) (hd2 : decode cc (pc + 1) = .ok (.ifCond .lt off, 3)) (ht : ((pc + 1 : Nat) : Int) + off = (tgt : Int))
    (kt : x < y → W p l e R s m args below meth c H locs cells slots Q (F0 m tgt ls rest)) (kf : ¬ x < y → W p l e R s m args below meth c H locs cells slots Q (F0 m (pc + 4) ls rest)) : W p l e R s m args below meth c H locs cells slots Q (F0 m pc ls (.long y :: .long x :: rest)) :=
  W.lcmp hx hb hd (lv_if_lt hx hb hd2 ht (fun h => kt ((lg_cmp_lt x y).mp h)) (fun h => kf (fun q => h ((lg_cmp_lt x y).mpr q))))
theorem wl_eq (hx : p.tables.exec = Jvm.exec) (hb : c.code = cc) (hd : decode cc pc = .ok (.lcmp, 1)) (hd2 : decode cc (pc + 1) = .ok (.ifCond .eq off, 3)) (ht : ((pc + 1 : Nat) : Int) + off = (tgt : Int))
    (kt : x = y → W p l e R s m args below meth c H locs cells slots Q (F0 m tgt ls rest)) (kf : ¬ x = y → W p l e R s m args below meth c H locs cells slots Q (F0 m (pc + 4) ls rest)) : W p l e R s m args below meth c H locs cells slots Q (F0 m pc ls (.long y :: .long x :: rest)) :=
  W.lcmp hx hb hd (lv_if_eq hx hb hd2 ht (fun h => kt ((lg_cmp_eq x y).mp h)) (fun h => kf (fun q => h ((lg_cmp_eq x y).mpr q))))
theorem wl_ne (hx : p.tables.exec = Jvm.exec) (hb : c.code = cc) (hd : decode cc pc = .ok (.lcmp, 1)) (hd2 : decode cc (pc + 1) = .ok (.ifCond .ne off, 3)) (ht : ((pc + 1 : Nat) : Int) + off = (tgt : Int))
    (kt : ¬ x = y → W p l e R s m args below meth c H locs cells slots Q (F0 m tgt ls rest)) (kf : x = y → W p l e R s m args below meth c H locs cells slots Q (F0 m (pc + 4) ls rest)) : W p l e R s m args below meth c H locs cells slots Q (F0 m pc ls (.long y :: .long x :: rest)) :=
  W.lcmp hx hb hd (lv_if_ne hx hb hd2 ht (fun h => kt (fun q => h ((lg_cmp_eq x y).mpr q))) (fun h => kf ((lg_cmp_eq x y).mp h)))
end WL

