/-! ROUNDING: what one side reckons with a half, the other with a great number added and taken -/
theorem nI_ad9 (a b : Nat) : nI a + nI b = nI (a + b) := Int32.toBitVec_inj.mp (show BitVec.ofNat 32 a + BitVec.ofNat 32 b = BitVec.ofNat 32 (a + b) from (BitVec.ofNat_add a b).symm)
theorem near_add {c P : Nat} (hP : 0 < P) : FP.Core.nearest (2 ^ 52 * P + c) P = 2 ^ 52 + FP.Core.nearest c P := by
  have e1 : (2 ^ 52 * P + c) % P = c % P := by rw [Nat.mul_comm]; exact Nat.mul_add_mod P (2 ^ 52) c
  have e2 : (2 ^ 52 * P + c) / P = 2 ^ 52 + c / P := by rw [Nat.mul_comm]; exact Nat.mul_add_div hP (2 ^ 52) c
  unfold FP.Core.nearest
  rw [e1, e2]
  repeat' split
  all_goals omega
theorem rint_sum {c p : Nat} {x : UInt64} (e : FP.Core.val64 x = .fin false c (-(p : Int))) (hc : c < 2 ^ 11 * 2 ^ p) (hn : FP.Core.nearest c (2 ^ p) ≤ 2048) : FP.Core.DInt ((2 ^ 52 + FP.Core.nearest c (2 ^ p) : Nat) : Int) (FP.dadd 4841369599423283200 x) := by
  have hP : 0 < 2 ^ p := Nat.two_pow_pos p
  show FP.Core.Whole _ (FP.Core.val64 (FP.Core.dadd _ _))
  rw [FP.Core.val64_dadd, e, show FP.Core.val64 4841369599423283200 = .fin false (2 ^ 52) 0 from by decide +kernel]
  show FP.Core.Whole _ (FP.Core.roundRatio FP.Core.b64 (FP.Core.sumSign false false (FP.Core.sumUnits false (2 ^ 52) 0 false c (-(p : Int)) (min 0 (-(p : Int))))) (FP.Core.sumUnits false (2 ^ 52) 0 false c (-(p : Int)) (min 0 (-(p : Int)))).natAbs 1 (min 0 (-(p : Int))))
  rw [show min 0 (-(p : Int)) = -(p : Int) by omega]
  have hv : FP.Core.sumUnits false (2 ^ 52) 0 false c (-(p : Int)) (-(p : Int)) = ((2 ^ 52 * 2 ^ p + c : Nat) : Int) := by
    unfold FP.Core.sumUnits FP.Core.signed FP.Core.inUnits
    rw [if_neg (by decide), if_neg (by decide), show (0 - -(p : Int)).toNat = p by omega, show (-(p : Int) - -(p : Int)).toNat = 0 by omega, Nat.pow_zero, Nat.mul_one]
    exact (Int.natCast_add _ _).symm
  rw [hv]
  have hA : 0 < 2 ^ 52 * 2 ^ p + c := Nat.add_pos_left (Nat.mul_pos (by decide) hP) c
  generalize hAd : 2 ^ 52 * 2 ^ p + c = A at hA
  rw [Int.natAbs_natCast, show FP.Core.sumSign false false (A : Int) = false from by
    unfold FP.Core.sumSign
    rw [if_neg (by omega)]
    exact decide_eq_false (by omega)]
  unfold FP.Core.roundRatio
  rw [if_neg (by omega)]
  have hq : FP.Core.quantum FP.Core.b64 A 1 (-(p : Int)) = 0 := by
    refine FP.Core.quantum_eq hA (by decide) (by decide) ?_ (Or.inr ?_)
    · unfold FP.Core.Below
      rw [show FP.Core.b64.p = 53 from rfl, show (-(0 - -(p : Int) + ((53 : Nat) : Int))).toNat = 0 by omega, show (0 - -(p : Int) + ((53 : Nat) : Int)).toNat = p + 53 by omega, ← hAd, Nat.pow_zero, Nat.mul_one, Nat.one_mul, Nat.pow_add, Nat.mul_comm (2 ^ p) (2 ^ 53)]
      have : (2 : Nat) ^ 53 * 2 ^ p = 2 ^ 52 * 2 ^ p + 2 ^ 52 * 2 ^ p := by rw [show (2 : Nat) ^ 53 = 2 ^ 52 + 2 ^ 52 by decide, Nat.add_mul]
      rw [this]
      exact Nat.add_lt_add_left (Nat.lt_of_lt_of_le hc (Nat.mul_le_mul_right _ (by decide))) _
    · unfold FP.Core.Below
      rw [show FP.Core.b64.p = 53 from rfl, show (-(0 - -(p : Int) + (((53 : Nat) : Int) - 1))).toNat = 0 by omega, show (0 - -(p : Int) + (((53 : Nat) : Int) - 1)).toNat = p + 52 by omega, ← hAd, Nat.pow_zero, Nat.mul_one, Nat.one_mul, Nat.pow_add, Nat.mul_comm (2 ^ p) (2 ^ 52)]
      exact Nat.not_lt.mpr (Nat.le_add_right _ _)
  unfold FP.Core.roundAt
  rw [hq]
  unfold FP.Core.unitsNum FP.Core.unitsDen
  rw [show (-(p : Int) - 0).toNat = 0 by omega, show (0 - -(p : Int)).toNat = p by omega, Nat.pow_zero, Nat.mul_one, Nat.one_mul, ← hAd, near_add hP]
  generalize FP.Core.nearest c (2 ^ p) = m at hn
  unfold FP.Core.settle FP.Core.bound
  have b52 : 2 ^ 52 + m < 2 ^ 53 := Nat.lt_of_le_of_lt (Nat.add_le_add_left hn _) (by decide)
  rw [show FP.Core.b64.p = 53 from rfl, if_pos b52, if_pos (by decide)]
  show FP.Core.signed false ((2 ^ 52 + m) * 2 ^ (0 : Int).toNat) = ((2 ^ 52 + m : Nat) : Int) * ((2 ^ (-(0 : Int)).toNat : Nat) : Int)
  unfold FP.Core.signed
  rw [if_neg (by decide)]
  simp

/-- a sign that is plus -/
def ps9 (a : UInt64) : Prop := FP.Core.sgn (FP.Core.val64 a) = false
theorem ps_i2d {n : Int32} (h : 0 ≤ n.toInt) : ps9 (FP.i2d n) := by
  show FP.Core.sgn (FP.Core.val64 (FP.Core.i2d n)) = false
  rw [FP.Core.val64_i2d]
  show FP.Core.sgn (FP.Core.roundRatio _ (decide (n.toInt < 0)) _ 1 _) = false
  rw [FP.Core.sgn_roundRatio]
  exact decide_eq_false (by omega)
theorem ps_dmul {a b : UInt64} (fa : DF a) (fb : DF b) (ha : ps9 a) (hb : ps9 b) : ps9 (FP.dmul a b) := by
  obtain ⟨s, c, q, e⟩ := fa
  obtain ⟨t, d, r, e'⟩ := fb
  unfold ps9 at ha hb
  rw [e] at ha
  rw [e'] at hb
  have ha : s = false := ha
  have hb : t = false := hb
  subst ha; subst hb
  show FP.Core.sgn (FP.Core.val64 (FP.Core.dmul a b)) = false
  rw [FP.Core.val64_dmul, e, e']
  show FP.Core.sgn (FP.Core.roundRatio _ (false != false) _ 1 _) = false
  rw [FP.Core.sgn_roundRatio]; rfl
theorem ps_dadd {a b : UInt64} (fa : DF a) (fb : DF b) (ha : ps9 a) (hb : ps9 b) : ps9 (FP.dadd a b) := by
  obtain ⟨s, c, q, e⟩ := fa
  obtain ⟨t, d, r, e'⟩ := fb
  unfold ps9 at ha hb
  rw [e] at ha
  rw [e'] at hb
  have ha : s = false := ha
  have hb : t = false := hb
  subst ha; subst hb
  show FP.Core.sgn (FP.Core.val64 (FP.Core.dadd a b)) = false
  rw [FP.Core.val64_dadd, e, e']
  show FP.Core.sgn (FP.Core.roundRatio _ (FP.Core.sumSign false false (FP.Core.sumUnits false c q false d r (min q r))) _ 1 _) = false
  rw [FP.Core.sgn_roundRatio]
  unfold FP.Core.sumSign
  split
  · rfl
  · refine decide_eq_false ?_
    unfold FP.Core.sumUnits FP.Core.signed
    rw [if_neg (by decide), if_neg (by decide)]
    omega
theorem ps_ddiv {a b : UInt64} (fa : DF a) (fb : DF b) (ha : ps9 a) (hb : ps9 b) : ps9 (FP.ddiv a b) := by
  obtain ⟨s, c, q, e⟩ := fa
  obtain ⟨t, d, r, e'⟩ := fb
  unfold ps9 at ha hb
  rw [e] at ha
  rw [e'] at hb
  have ha : s = false := ha
  have hb : t = false := hb
  subst ha; subst hb
  show FP.Core.sgn (FP.Core.val64 (FP.Core.ddiv a b)) = false
  rw [FP.Core.val64_ddiv, e, e']
  show FP.Core.sgn (if d = 0 then (if c = 0 then .nan else .inf (false != false)) else FP.Core.roundRatio FP.Core.b64 (false != false) c d (q - r)) = false
  split
  · split <;> rfl
  · rw [FP.Core.sgn_roundRatio]; rfl
/-- what is less than 2048 and not less than nothing -/
theorem rint_form {x : UInt64} (hs : ps9 x) (hb : x.toNat % 2 ^ 63 < 1034 * 2 ^ 52) : ∃ c p : Nat, FP.Core.val64 x = .fin false c (-(p : Int)) ∧ c < 2 ^ 11 * 2 ^ p ∧ c < 2 ^ 53 ∧ p ≤ 1074 := by
  obtain ⟨s, c, q, e, hlt⟩ := FP.Core.mag_bits hb (by decide)
  have hf := FP.Core.val64_fits x
  rw [e] at hf
  obtain ⟨h1, h2, h3, h4⟩ := hf
  unfold ps9 at hs
  rw [e] at hs
  have hs : s = false := hs
  subst hs
  have qm : FP.Core.b64.qmin = -1074 := rfl
  rw [qm, show (1034 - 1 : Nat) = 1033 from rfl] at hlt
  rw [qm] at h2 h4
  have h1 : c < 2 ^ 53 := h1
  have key : ∀ T P : Nat, 0 < T → c * T < 2 ^ 52 * 2 ^ 1033 → T * P = 2 ^ 1074 → c < 2 ^ 11 * P := by
    intro T P hT h e9
    refine Nat.lt_of_mul_lt_mul_right (a := T) ?_
    rw [Nat.mul_assoc, Nat.mul_comm P T, e9, ← Nat.pow_add]
    rw [← Nat.pow_add] at h
    exact h
  have hq : q ≤ 0 := by
    rcases Int.lt_or_le 0 q with w | w
    · exfalso
      have ht : FP.Core.b64.tails ≤ c := h4.resolve_left (by omega)
      have ht : 2 ^ 52 ≤ c := ht
      have a1 : (2 : Nat) ^ 1033 ≤ 2 ^ (q - -1074).toNat := Nat.pow_le_pow_right (by decide) (by omega)
      exact absurd hlt (Nat.not_lt.mpr (Nat.mul_le_mul ht a1))
    · exact w
  obtain ⟨p, rfl⟩ : ∃ p : Nat, q = -(p : Int) := ⟨(-q).toNat, by omega⟩
  refine ⟨c, p, e, ?_, h1, by omega⟩
  refine key (2 ^ (-(p : Int) - -1074).toNat) (2 ^ p) (Nat.two_pow_pos _) hlt ?_
  rw [← Nat.pow_add, show (-(p : Int) - -1074).toNat + p = 1074 by omega]
theorem near_le {c P : Nat} (hP : 0 < P) (hc : c < 2 ^ 11 * P) : FP.Core.nearest c P ≤ 2048 ∧ c / P < 2048 := by
  have h : c / P < 2048 := (Nat.div_lt_iff_lt_mul hP).mpr hc
  refine ⟨?_, h⟩
  unfold FP.Core.nearest
  repeat' split
  all_goals omega
def parity_ok : Bool := (List.range 2049).all fun n => decide (nI n - nI n / 2 * 2 = 0) == decide (n % 2 = 0)
theorem parity_tbl : parity_ok = true := by decide +kernel
theorem parity_at {n : Nat} (h : n < 2049) : (nI n - nI n / 2 * 2 = 0) ↔ n % 2 = 0 := by
  have := List.all_eq_true.mp parity_tbl n (List.mem_range.mpr h)
  simp only [beq_iff_eq] at this
  exact decide_eq_decide.mp this
theorem pow2s (n : Nat) : 2 * 2 ^ n = 2 ^ (n + 1) := by rw [Nat.pow_succ, Nat.mul_comm]
theorem clampN {N : Nat} (h : N < 2048) : max (-2 ^ 31) (min (2 ^ 31 - 1) (N : Int)) = (N : Int) := by
  rw [Int.min_eq_right (by omega), Int.max_eq_right (by omega)]
/-- the class's way of rounding -/
theorem round_near {c p : Nat} {x : UInt64} (e : FP.Core.val64 x = .fin false c (-(p : Int))) (hc : c < 2 ^ 11 * 2 ^ p) (hc2 : c < 2 ^ 53) (hp : p ≤ 1074) : sp_round x = nI (FP.Core.nearest c (2 ^ p)) := by
  have hP : 0 < 2 ^ p := Nat.two_pow_pos p
  obtain ⟨-, n2⟩ := near_le hP hc
  have ed : FP.d2i x = nI (c / 2 ^ p) := by
    show Int32.ofInt (FP.Core.toInt (-2 ^ 31) (2 ^ 31 - 1) (FP.Core.val64 x)) = _
    rw [e]
    show Int32.ofInt (max (-2 ^ 31) (min (2 ^ 31 - 1) (FP.Core.truncate false c (-(p : Int))))) = _
    have : FP.Core.truncate false c (-(p : Int)) = ((c / 2 ^ p : Nat) : Int) := by
      unfold FP.Core.truncate FP.Core.signed
      rw [if_neg (by decide), show (-(p : Int)).toNat = 0 by omega, show (-(-(p : Int))).toNat = p by omega, Nat.pow_zero, Nat.mul_one]
    rw [this, clampN n2]
    rfl
  have hn := parity_at (n := c / 2 ^ p) (by omega)
  unfold sp_round
  rw [ed]
  have fx : DF x := ⟨_, _, _, e⟩
  have fn := df_i2d (nI (c / 2 ^ p))
  have dn := dsub_n fx.n fn
  have hU : 0 < 2 ^ (1074 - p) := Nat.two_pow_pos _
  have eP : 2 ^ (1074 - p) * 2 ^ p = 2 ^ 1074 := by rw [← Nat.pow_add, show 1074 - p + p = 1074 by omega]
  have zx : dz x = ((c * 2 ^ (1074 - p) : Nat) : Int) := by
    show FP.Core.zval _ (FP.Core.val64 x) = _
    rw [e]
    show FP.Core.signed false (FP.Core.inUnits c (-(p : Int)) FP.Core.b64.qmin) = _
    unfold FP.Core.signed FP.Core.inUnits
    rw [if_neg (by decide), show (-(p : Int) - FP.Core.b64.qmin).toNat = 1074 - p from by rw [show FP.Core.b64.qmin = -1074 from rfl]; omega]
  have one : dO = ((2 ^ 1074 : Nat) : Int) := rfl
  have zn : dz (FP.i2d (nI (c / 2 ^ p))) = ((c / 2 ^ p * 2 ^ 1074 : Nat) : Int) := by
    rw [dz_i2d, nI_toInt (by omega), one, Int.natCast_mul]
  have split9 : c * 2 ^ (1074 - p) = c / 2 ^ p * 2 ^ 1074 + c % 2 ^ p * 2 ^ (1074 - p) := by
    rw [← eP, Nat.mul_comm (2 ^ (1074 - p)) (2 ^ p), ← Nat.mul_assoc, ← Nat.add_mul, Nat.div_add_mod' c (2 ^ p)]
  have qx : (0 : Int) ≤ FP.Core.b64.qmax := by decide
  have qn : FP.Core.b64.qmin ≤ -(p : Int) := by rw [show FP.Core.b64.qmin = -1074 from rfl]; omega
  obtain ⟨c', q', v1, v2⟩ := FP.Core.round_exact FP.Core.good_b64 false (c := c % 2 ^ p) (q := -(p : Int)) (Nat.lt_of_le_of_lt (Nat.mod_le _ _) hc2) qn (by omega)
  have vv : FP.Core.val64 (FP.Core.of64 (FP.Core.round FP.Core.b64 (.fin false (c % 2 ^ p) (-(p : Int))))) = .fin false c' q' := by
    rw [FP.Core.val64_of64 (FP.Core.round_fits FP.Core.good_b64 _), v1]
  generalize FP.Core.of64 (FP.Core.round FP.Core.b64 (.fin false (c % 2 ^ p) (-(p : Int)))) = V at vv
  have fV : DF V := ⟨_, _, _, vv⟩
  have zV : dz V = ((c % 2 ^ p * 2 ^ (1074 - p) : Nat) : Int) := by
    show FP.Core.zval _ (FP.Core.val64 V) = _
    rw [vv]
    show FP.Core.signed false (FP.Core.inUnits c' q' FP.Core.b64.qmin) = _
    rw [v2]
    unfold FP.Core.signed FP.Core.inUnits
    rw [if_neg (by decide), show (-(p : Int) - FP.Core.b64.qmin).toNat = 1074 - p from by rw [show FP.Core.b64.qmin = -1074 from rfl]; omega]
  have ze : dz x - dz (FP.i2d (nI (c / 2 ^ p))) = dz V := by
    rw [zx, zn, zV, split9, Int.natCast_add]; omega
  have zf : dz (FP.dsub x (FP.i2d (nI (c / 2 ^ p)))) = dz V := Int.le_antisymm (dsub_le fx fn fV.n (Int.le_of_eq ze)) (dsub_ge fx fn fV.n (Int.le_of_eq ze.symm))
  have half : FP.Core.val64 4602678819172646912 = .fin false (2 ^ 52) (-53) := by decide +kernel
  have dh : DF 4602678819172646912 := ⟨_, _, _, half⟩
  have zh : dz 4602678819172646912 = ((2 ^ 1073 : Nat) : Int) := by
    show FP.Core.zval _ (FP.Core.val64 4602678819172646912) = _
    rw [half]
    show FP.Core.signed false (FP.Core.inUnits (2 ^ 52) (-53) FP.Core.b64.qmin) = _
    unfold FP.Core.signed FP.Core.inUnits
    rw [if_neg (by decide), show ((-53 : Int) - FP.Core.b64.qmin).toNat = 1021 from rfl, ← Nat.pow_add]
  have eP2 : 2 ^ (1074 - p) * 2 ^ p = 2 ^ (1073 + 1) := by rw [← Nat.pow_add, show 1074 - p + p = 1073 + 1 by omega]
  have h2 : 2 * 2 ^ 1073 = 2 ^ (1074 - p) * 2 ^ p := by rw [eP2, ← pow2s 1073]
  have cg : dgt (FP.dsub x (FP.i2d (nI (c / 2 ^ p)))) 4602678819172646912 ↔ 2 ^ p < 2 * (c % 2 ^ p) := by
    rw [dcmp_gt9i dn dh.n, zf, zV, zh, Int.ofNat_lt]
    constructor
    · intro h
      refine Nat.lt_of_mul_lt_mul_left (a := 2 ^ (1074 - p)) ?_
      rw [← h2, ← Nat.mul_assoc, Nat.mul_comm (2 ^ (1074 - p)) 2, Nat.mul_assoc, Nat.mul_comm (2 ^ (1074 - p))]
      exact Nat.mul_lt_mul_of_pos_left h (by decide)
    · intro h
      refine Nat.lt_of_mul_lt_mul_left (a := 2) ?_
      rw [h2, Nat.mul_comm (c % 2 ^ p), ← Nat.mul_assoc, Nat.mul_comm 2 (2 ^ (1074 - p)), Nat.mul_assoc]
      exact Nat.mul_lt_mul_of_pos_left h hU
  have ce : deq (FP.dsub x (FP.i2d (nI (c / 2 ^ p)))) 4602678819172646912 ↔ 2 ^ p = 2 * (c % 2 ^ p) := by
    have e1 : deq (FP.dsub x (FP.i2d (nI (c / 2 ^ p)))) 4602678819172646912 ↔ dz (FP.dsub x (FP.i2d (nI (c / 2 ^ p)))) = dz 4602678819172646912 := ⟨fun w => dcmp_eq9 dn dh.n w, fun w => FP.Core.dcmp_eq.mpr ⟨dn, dh.n, w⟩⟩
    rw [e1, zf, zV, zh, Int.ofNat_inj]
    constructor
    · intro h
      refine Nat.eq_of_mul_eq_mul_left hU ?_
      rw [← h2, ← h, Nat.mul_comm (c % 2 ^ p), ← Nat.mul_assoc, Nat.mul_comm 2 (2 ^ (1074 - p)), Nat.mul_assoc]
    · intro h
      refine Nat.eq_of_mul_eq_mul_left (show 0 < 2 by decide) ?_
      rw [h2]
      generalize c % 2 ^ p = R at h ⊢
      rw [h, Nat.mul_comm R, ← Nat.mul_assoc, Nat.mul_comm 2 (2 ^ (1074 - p)), Nat.mul_assoc]
  unfold FP.Core.nearest
  by_cases a1 : 2 * (c % 2 ^ p) < 2 ^ p
  · rw [if_pos a1, if_neg (fun w => by rcases w with w | w; exact absurd (cg.mp w) (by omega); exact absurd (ce.mp w.1) (by omega))]
  · rw [if_neg a1]
    by_cases a2 : 2 ^ p < 2 * (c % 2 ^ p)
    · rw [if_pos a2, if_pos (Or.inl (cg.mpr a2)), nI_1]
    · rw [if_neg a2]
      by_cases a3 : c / 2 ^ p % 2 = 0
      · rw [a3, Nat.add_zero, if_neg (fun w => by rcases w with w | w; exact absurd (cg.mp w) a2; exact w.2 (hn.mpr a3))]
      · rw [show c / 2 ^ p % 2 = 1 by omega, if_pos (Or.inr ⟨ce.mpr (by omega), fun w => a3 (hn.mp w)⟩), nI_1]
/-- the reference's way of rounding: a great number added and taken -/
def sp_rint (x : UInt64) : UInt64 := FP.dmul 4607182418800017408 (FP.dsub (FP.dadd 4841369599423283200 x) 4841369599423283200)
theorem rint_int {x : UInt64} (hs : ps9 x) (hb : x.toNat % 2 ^ 63 < 1034 * 2 ^ 52) : ∃ n : Nat, n ≤ 2048 ∧ sp_round x = nI n ∧ FP.Core.DInt ((2 ^ 52 + n : Nat) : Int) (FP.dadd 4841369599423283200 x) ∧ FP.Core.DInt (n : Int) (FP.dsub (FP.dadd 4841369599423283200 x) 4841369599423283200) ∧ FP.Core.DInt (n : Int) (sp_rint x) := by
  obtain ⟨c, p, e, h1, h2, h3⟩ := rint_form hs hb
  obtain ⟨n1, -⟩ := near_le (Nat.two_pow_pos p) h1
  have a1 := rint_sum e h1 n1
  refine ⟨FP.Core.nearest c (2 ^ p), n1, round_near e h1 h2 h3, a1, ?_⟩
  generalize FP.Core.nearest c (2 ^ p) = n at a1 n1
  have b52 : FP.Core.DInt ((2 ^ 52 : Nat) : Int) 4841369599423283200 := by
    show FP.Core.Whole _ (FP.Core.val64 4841369599423283200)
    rw [show FP.Core.val64 4841369599423283200 = .fin false (2 ^ 52) 0 from by decide +kernel]
    show FP.Core.signed false (2 ^ 52 * 2 ^ (0 : Int).toNat) = ((2 ^ 52 : Nat) : Int) * ((2 ^ (-(0 : Int)).toNat : Nat) : Int)
    decide
  have a2 := FP.Core.dsub_int a1 b52 (by omega)
  have e2 : (((2 ^ 52 + n : Nat) : Int) - ((2 ^ 52 : Nat) : Int)) = (n : Int) := by omega
  rw [e2] at a2
  have o1 : FP.Core.DInt 1 4607182418800017408 := by
    have := FP.Core.i2d_int 1
    rw [show FP.Core.i2d 1 = 4607182418800017408 from by decide +kernel] at this
    exact this
  have a3 := FP.Core.dmul_int o1 a2 (by omega)
  rw [Int.one_mul] at a3
  exact ⟨a2, a3⟩
/-- where a glaze melts, either way -/
theorem melts_eq {x : UInt64} (hs : ps9 x) (hb : x.toNat % 2 ^ 63 < 1034 * 2 ^ 52) : FP.d2i (pk64 false 4622945017495814144 (sp_rint x)) = if sp_round x < 12 then sp_round x else 12 := by
  obtain ⟨n, h1, h2, -, -, h3⟩ := rint_int hs hb
  have w12 : FP.i2d 12 = 4622945017495814144 := by decide +kernel
  have d12 : FP.Core.DInt ((12 : Int32).toInt) 4622945017495814144 := by rw [← w12]; exact FP.Core.i2d_int 12
  have p12 : 0 < dz 4622945017495814144 := by
    rw [dz_whole w12]
    exact Int.mul_pos (by decide) dO_pos
  have hn : dN (sp_rint x) := by
    intro w
    have h4 : FP.Core.Whole (n : Int) (FP.Core.val64 (sp_rint x)) := h3
    rw [w] at h4
    exact h4
  rw [pk_min2 (df_whole w12).n hn p12, h2]
  have e12 : (12 : Int32).toInt = 12 := by decide
  have zr : dz (sp_rint x) = (n : Int) * dO := FP.Core.DInt_zval h3
  have z12 : dz 4622945017495814144 = 12 * dO := by rw [dz_whole w12, e12]
  have en : FP.d2i (sp_rint x) = nI n := FP.Core.d2i_int (a := nI n) (by rw [nI_toInt (by omega)]; exact h3)
  by_cases w : n < 12
  · rw [if_pos ((dcmp_lt9i hn (df_whole w12).n).mpr (by rw [zr, z12]; exact Int.mul_lt_mul_of_pos_right (by omega) dO_pos)), en, if_pos (by rw [Int32.lt_iff_toInt_lt, nI_toInt (by omega), e12]; omega)]
  · have hle : dz 4622945017495814144 ≤ dz (sp_rint x) := by rw [zr, z12]; exact Int.mul_le_mul_of_nonneg_right (by omega) (Int.le_of_lt dO_pos)
    rw [if_neg (fun v => by have := (dcmp_lt9i hn (df_whole w12).n).mp v; omega), if_neg (fun v => by rw [Int32.lt_iff_toInt_lt, nI_toInt (by omega), e12] at v; omega)]
    exact FP.Core.d2i_int (a := 12) d12
/-- a glaze's numbers -/
theorem i2d_tbl : ((List.range 961).all fun n => decide ((FP.i2d (nI n)).toNat % 2 ^ 63 < 1033 * 2 ^ 52) && (decide (60 < n) || decide ((FP.i2d (nI n)).toNat % 2 ^ 63 < 1029 * 2 ^ 52))) = true := by decide +kernel
theorem i2d_60 {n : Nat} (h : n ≤ 60) : (FP.i2d (nI n)).toNat % 2 ^ 63 < 1029 * 2 ^ 52 := by
  have := List.all_eq_true.mp i2d_tbl n (List.mem_range.mpr (by omega))
  simp only [Bool.and_eq_true, Bool.or_eq_true, decide_eq_true_eq] at this
  exact this.2.resolve_left (by omega)
theorem mg_fin {a : UInt64} {K : Nat} (h : a.toNat % 2 ^ 63 < K * 2 ^ 52) (hK : K ≤ 2047) : DF a := FP.Core.fin_of_lt h hK
theorem i2d_ge {n : Nat} (h : 1 ≤ n) (h2 : n < 2 ^ 31) : 1023 * 2 ^ 52 ≤ (FP.i2d (nI n)).toNat % 2 ^ 63 ∧ (FP.i2d (nI n)).toNat % 2 ^ 63 < 2047 * 2 ^ 52 := FP.Core.i2d_big (by rw [nI_toInt h2]; omega)
theorem glz_nat {g : GT} (hg : glzOk g) : ∃ s l a i : Nat, s ≤ 60 ∧ l ≤ 60 ∧ a ≤ 60 ∧ i ≤ 60 ∧ 1 ≤ s + l ∧ g.1 = nI s ∧ g.2.1 = nI l ∧ g.2.2.1 = nI a ∧ g.2.2.2.1 = nI i := by
  obtain ⟨⟨h1, h2, h3, h4, -⟩, h0⟩ := hg
  obtain ⟨s, hs, e1⟩ := rng9 (n := 60) (by decide) h1
  obtain ⟨l, hl, e2⟩ := rng9 (n := 60) (by decide) h2
  obtain ⟨a, ha, e3⟩ := rng9 (n := 60) (by decide) h3
  obtain ⟨i, hi, e4⟩ := rng9 (n := 60) (by decide) h4
  refine ⟨s, l, a, i, by omega, by omega, by omega, by omega, ?_, e1, e2, e3, e4⟩
  rcases Nat.lt_or_ge 0 (s + l) with w | w
  · exact w
  · exact absurd ⟨by rw [e1, show s = 0 by omega]; rfl, by rw [e2, show l = 0 by omega]; rfl⟩ h0
theorem glz_all {g : GT} (hg : glzOk g) : glzN g ∧ DF (sp_growth g) ∧ ps9 (sp_mx g) ∧ (sp_mx g).toNat % 2 ^ 63 < 1034 * 2 ^ 52 := by
  obtain ⟨s, l, a, i, b1, b2, b3, b4, b5, e1, e2, e3, e4⟩ := glz_nat hg
  unfold glzN sp_growth sp_gnum sp_mx
  rw [e1, e2, e3, e4, nI_ad9, nI_ad9, nI_ad9]
  have z0 : ∀ {n : Nat}, n < 2 ^ 31 → 0 ≤ (nI n).toInt := fun h => by rw [nI_toInt h]; omega
  obtain ⟨f1, f2⟩ := i2d_ge b5 (by omega)
  obtain ⟨t1, t2⟩ := i2d_ge (n := s + l + a + i) (by omega) (by omega)
  have q1 := FP.Core.ddiv_mag (i2d_60 b3) f1 f2 (by decide) (by decide)
  have q2 := FP.Core.ddiv_mag (i2d_60 b4) f1 f2 (by decide) (by decide)
  have k15 : (4609434218613702656 : UInt64).toNat % 2 ^ 63 < 1024 * 2 ^ 52 := by decide
  have k05 : (4602678819172646912 : UInt64).toNat % 2 ^ 63 < 1024 * 2 ^ 52 := by decide
  have m1 := FP.Core.dmul_mag k15 q1 (by decide) (by decide)
  have m2 := FP.Core.dmul_mag k05 q2 (by decide) (by decide)
  have x1 := FP.Core.dadd_mag (K := 1032) m1 m2 (by decide)
  have k8 : (4620693217682128896 : UInt64).toNat % 2 ^ 63 < 1027 * 2 ^ 52 := by decide
  have k4 : (4616189618054758400 : UInt64).toNat % 2 ^ 63 < 1027 * 2 ^ 52 := by decide
  have k2 : (4611686018427387904 : UInt64).toNat % 2 ^ 63 < 1027 * 2 ^ 52 := by decide
  have g1 := FP.Core.dmul_mag k8 (i2d_60 b1) (by decide) (by decide)
  have g2 := FP.Core.dmul_mag k4 (i2d_60 b2) (by decide) (by decide)
  have g3 := FP.Core.dadd_mag (K := 1034) g1 g2 (by decide)
  have g4 := FP.Core.dmul_mag k2 (i2d_60 b3) (by decide) (by decide)
  have g5 := FP.Core.dadd_mag (K := 1036) g3 (Nat.lt_of_lt_of_le g4 (by decide)) (by decide)
  have g6 := FP.Core.dadd_mag (K := 1038) g5 (Nat.lt_of_lt_of_le (i2d_60 b4) (by decide)) (by decide)
  have g7 := FP.Core.ddiv_mag g6 t1 t2 (by decide) (by decide)
  have ff : DF (FP.i2d (nI (s + l))) := df_i2d _
  have d15 := mg_fin k15 (by decide)
  have d05 := mg_fin k05 (by decide)
  have p15 : ps9 4609434218613702656 := by unfold ps9; decide +kernel
  have p05 : ps9 4602678819172646912 := by unfold ps9; decide +kernel
  have pf : ps9 (FP.i2d (nI (s + l))) := ps_i2d (z0 (by omega))
  have s1 := ps_ddiv (df_i2d _) ff (ps_i2d (z0 (show a < 2 ^ 31 by omega))) pf
  have s2 := ps_ddiv (df_i2d _) ff (ps_i2d (z0 (show i < 2 ^ 31 by omega))) pf
  have s3 := ps_dmul d15 (mg_fin q1 (by decide)) p15 s1
  have s4 := ps_dmul d05 (mg_fin q2 (by decide)) p05 s2
  exact ⟨⟨nn_of (mg_fin q1 (by decide)).n, nn_of (mg_fin m1 (by decide)).n, nn_of (mg_fin q2 (by decide)).n, nn_of (mg_fin m2 (by decide)).n, (mg_fin x1 (by decide)).n, nn_of (mg_fin g1 (by decide)).n, nn_of (mg_fin g2 (by decide)).n, nn_of (mg_fin g3 (by decide)).n, nn_of (mg_fin g4 (by decide)).n, nn_of (mg_fin g5 (by decide)).n, nn_of (mg_fin g6 (by decide)).n, nn_of (mg_fin g7 (by decide)).n⟩, mg_fin g7 (by decide), ps_dadd (mg_fin m1 (by decide)) (mg_fin m2 (by decide)) s3 s4, x1⟩
