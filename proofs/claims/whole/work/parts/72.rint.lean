/-! ROUNDING: what one side reckons with a half, the other with a great number added and taken -/
theorem nI_add (a b : Nat) : nI a + nI b = nI (a + b) := Int32.toBitVec_inj.mp (show BitVec.ofNat 32 a + BitVec.ofNat 32 b = BitVec.ofNat 32 (a + b) from (BitVec.ofNat_add a b).symm)
theorem near_add {c P : Nat} (hP : 0 < P) : FP.Core.nearest (2 ^ 52 * P + c) P = 2 ^ 52 + FP.Core.nearest c P := by
  have e1 : (2 ^ 52 * P + c) % P = c % P := by rw [Nat.mul_comm]; exact Nat.mul_add_mod P (2 ^ 52) c
  have e2 : (2 ^ 52 * P + c) / P = 2 ^ 52 + c / P := by rw [Nat.mul_comm]; exact Nat.mul_add_div hP (2 ^ 52) c
  unfold FP.Core.nearest
  rw [e1, e2]
  repeat' split
  all_goals omega
theorem rint_sum {c p : Nat} {x : UInt64} (e : FP.Core.val64 x = .fin false c (-(p : Int))) (hc : c < 2 ^ 11 * 2 ^ p) (hn : FP.Core.nearest c (2 ^ p) ≤ 2048) : FP.Core.DInt ((2 ^ 52 + FP.Core.nearest c (2 ^ p) : Nat) : Int) (FP.dadd 4841369599423283200 x) := by
  have hP : 0 < 2 ^ p := Nat.two_pow_pos p
  show FP.Core.Whole _ (FP.Core.val64 (FP.Core.dadd _ _))
  rw [FP.Core.val64_dadd, e, show FP.Core.val64 4841369599423283200 = .fin false (2 ^ 52) 0 from by decide +kernel]
  show FP.Core.Whole _ (FP.Core.roundRatio FP.Core.b64 (FP.Core.sumSign false false (FP.Core.sumUnits false (2 ^ 52) 0 false c (-(p : Int)) (min 0 (-(p : Int))))) (FP.Core.sumUnits false (2 ^ 52) 0 false c (-(p : Int)) (min 0 (-(p : Int)))).natAbs 1 (min 0 (-(p : Int))))
  rw [show min 0 (-(p : Int)) = -(p : Int) by omega]
  have hv : FP.Core.sumUnits false (2 ^ 52) 0 false c (-(p : Int)) (-(p : Int)) = ((2 ^ 52 * 2 ^ p + c : Nat) : Int) := by
    unfold FP.Core.sumUnits FP.Core.signed FP.Core.inUnits
    rw [if_neg (by decide), if_neg (by decide), show (0 - -(p : Int)).toNat = p by omega, show (-(p : Int) - -(p : Int)).toNat = 0 by omega, Nat.pow_zero, Nat.mul_one]
    exact (Int.natCast_add _ _).symm
  rw [hv]
  have hA : 0 < 2 ^ 52 * 2 ^ p + c := Nat.add_pos_left (Nat.mul_pos (by decide) hP) c
  generalize hAd : 2 ^ 52 * 2 ^ p + c = A at hA
  rw [Int.natAbs_natCast, show FP.Core.sumSign false false (A : Int) = false from by
    unfold FP.Core.sumSign
    rw [if_neg (by omega)]
    exact decide_eq_false (by omega)]
  unfold FP.Core.roundRatio
  rw [if_neg (by omega)]
  have hq : FP.Core.quantum FP.Core.b64 A 1 (-(p : Int)) = 0 := by
    refine FP.Core.quantum_eq hA (by decide) (by decide) ?_ (Or.inr ?_)
    · unfold FP.Core.Below
      rw [FP.Core.p_b64, show (-(0 - -(p : Int) + ((53 : Nat) : Int))).toNat = 0 by omega, show (0 - -(p : Int) + ((53 : Nat) : Int)).toNat = p + 53 by omega, ← hAd, Nat.pow_zero, Nat.mul_one, Nat.one_mul, Nat.pow_add, Nat.mul_comm (2 ^ p) (2 ^ 53)]
      have : (2 : Nat) ^ 53 * 2 ^ p = 2 ^ 52 * 2 ^ p + 2 ^ 52 * 2 ^ p := by rw [show (2 : Nat) ^ 53 = 2 ^ 52 + 2 ^ 52 by decide, Nat.add_mul]
      rw [this]
      exact Nat.add_lt_add_left (Nat.lt_of_lt_of_le hc (Nat.mul_le_mul_right _ (by decide))) _
    · unfold FP.Core.Below
      rw [FP.Core.p_b64, show (-(0 - -(p : Int) + (((53 : Nat) : Int) - 1))).toNat = 0 by omega, show (0 - -(p : Int) + (((53 : Nat) : Int) - 1)).toNat = p + 52 by omega, ← hAd, Nat.pow_zero, Nat.mul_one, Nat.one_mul, Nat.pow_add, Nat.mul_comm (2 ^ p) (2 ^ 52)]
      exact Nat.not_lt.mpr (Nat.le_add_right _ _)
  unfold FP.Core.roundAt
  rw [hq]
  unfold FP.Core.unitsNum FP.Core.unitsDen
  rw [show (-(p : Int) - 0).toNat = 0 by omega, show (0 - -(p : Int)).toNat = p by omega, Nat.pow_zero, Nat.mul_one, Nat.one_mul, ← hAd, near_add hP]
  generalize FP.Core.nearest c (2 ^ p) = m at hn
  unfold FP.Core.settle FP.Core.bound
  rw [FP.Core.p_b64, if_pos (by have : (2 : Nat) ^ 52 + 2048 < 2 ^ 53 := by decide
                                omega), if_pos (by decide)]
  show FP.Core.signed false ((2 ^ 52 + m) * 2 ^ (0 : Int).toNat) = ((2 ^ 52 + m : Nat) : Int) * ((2 ^ (-(0 : Int)).toNat : Nat) : Int)
  unfold FP.Core.signed
  rw [if_neg (by decide)]
  simp
