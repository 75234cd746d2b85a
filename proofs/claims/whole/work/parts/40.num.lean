/-! numbers: two ways of cutting a word; quotients by way of longs -/
theorem i_nat (x : Int32) : x.toInt = if 2 * x.toBitVec.toNat < 4294967296 then (x.toBitVec.toNat : Int) else (x.toBitVec.toNat : Int) - 4294967296 := by
  show x.toBitVec.toInt = _
  rw [BitVec.toInt_eq_toNat_cond]
  rfl
theorem i_lt (x : Int32) : x.toBitVec.toNat < 4294967296 := x.toBitVec.isLt
theorem sh_gen (x s : Int32) (k P : Nat) (hP : 2 ^ k = P) (hk : 16 * P ≤ 2 ^ 28 ∧ 0 < P) (hq : 4294967296 % (P * 16) = 0) (h1 : (s.toBitVec.smod 32).toNat = k) (h2 : ((s.toUInt32 &&& Int32.toUInt32 31).toBitVec % 32).toNat = k)
    (hdiv : ∀ X : Int, (X - 4294967296) / (P : Int) = X / (P : Int) - 4294967296 / (P : Int)) (hm : (4294967296 / (P : Int)) % 16 = 0) : ((x >>> s) &&& 15) = ((x.toUInt32 >>> (s.toUInt32 &&& Int32.toUInt32 31)).toInt32 &&& 15) := by
  have h := pk_shr x s k h1
  have a1 := i_nat (x >>> s)
  have a2 := i_nat x
  rw [pk_and _ 4 (by decide), pk_and _ 4 (by decide), pk_ushr x s k h2, hP]
  rw [Int.shiftRight_eq_div_pow] at h
  have hP' : ((2 : Int) ^ k) = (P : Int) := by rw [← hP]; simp
  rw [show ((2 ^ k : Nat) : Int) = (P : Int) by rw [hP]] at h
  congr 1
  have e2 := hdiv (x.toBitVec.toNat : Int)
  have c1 : ((x.toBitVec.toNat / P : Nat) : Int) = (x.toBitVec.toNat : Int) / (P : Int) := by simp
  generalize (x >>> s).toBitVec.toNat = N at *
  generalize (x >>> s).toInt = T at *
  generalize x.toBitVec.toNat = X at *
  generalize x.toInt = Y at *
  show N % 16 = X / P % 16
  generalize X / P = Z at *
  generalize (4294967296 / (P : Int)) = V at *
  by_cases q1 : 2 * N < 4294967296
  · rw [if_pos q1] at a1
    by_cases q2 : 2 * X < 4294967296
    · rw [if_pos q2] at a2; rw [a2] at h; omega
    · rw [if_neg q2] at a2; rw [a2, e2] at h; omega
  · rw [if_neg q1] at a1
    by_cases q2 : 2 * X < 4294967296
    · rw [if_pos q2] at a2; rw [a2] at h; omega
    · rw [if_neg q2] at a2; rw [a2, e2] at h; omega
theorem sh22 (x : Int32) : ((x >>> ((22 : Int32) &&& 31)) &&& 15) = (((Int32.toUInt32 x >>> (Int32.toUInt32 (22 : Int32) &&& Int32.toUInt32 31)).toInt32) &&& 15) :=
  sh_gen x 22 22 4194304 (by decide) (by decide) (by decide) (by decide) (by decide) (by intro X; omega) (by decide)
theorem sh18 (x : Int32) : ((x >>> ((18 : Int32) &&& 31)) &&& 15) = (((Int32.toUInt32 x >>> (Int32.toUInt32 (18 : Int32) &&& Int32.toUInt32 31)).toInt32) &&& 15) :=
  sh_gen x 18 18 262144 (by decide) (by decide) (by decide) (by decide) (by decide) (by intro X; omega) (by decide)
theorem sh14 (x : Int32) : ((x >>> ((14 : Int32) &&& 31)) &&& 15) = (((Int32.toUInt32 x >>> (Int32.toUInt32 (14 : Int32) &&& Int32.toUInt32 31)).toInt32) &&& 15) :=
  sh_gen x 14 14 16384 (by decide) (by decide) (by decide) (by decide) (by decide) (by intro X; omega) (by decide)
theorem l_div (p q : Int32) : (p.toInt64 / q.toInt64).toInt32 = p / q := by
  apply Int32.toInt_inj.mp
  rw [Int64.toInt_toInt32, Int64.toInt_div, Int32.toInt_toInt64, Int32.toInt_toInt64, Int32.toInt_div]
  exact Int.bmod_bmod_of_dvd (by decide)
theorem l_rem (p q : Int32) : (p.toInt64 - p.toInt64 / q.toInt64 * q.toInt64).toInt32 = p - p / q * q := by
  rw [Int64.toInt32_sub, Int64.toInt32_mul, l_div, Int32.toInt32_toInt64, Int32.toInt32_toInt64]
theorem sum_eq (o p q : Int32) : m_sum_ret o p q = D_compute_ret o p q := by
  unfold m_sum_ret D_compute_ret
  rw [show m_sum_151_s0 p q = D_compute_148_s0 p q by unfold m_sum_151_s0 D_compute_148_s0; rw [l_div], show m_sum_166_s0 p q = D_compute_160_s0 p q by unfold m_sum_166_s0 D_compute_160_s0; rw [l_rem]]
  rfl

