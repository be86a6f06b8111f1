/-! DOUBLES: what is finite, what is no NaN, bounds. dz: the value, in units of the least double -/
abbrev dz (a : UInt64) : Int := FP.Core.zval FP.Core.b64 (FP.Core.val64 a)
abbrev dN (a : UInt64) : Prop := FP.Core.val64 a ≠ .nan
abbrev DF (a : UInt64) : Prop := FP.Core.DFin a
theorem nn_of {r : UInt64} (h : dN r) : vf_n64 r := by
  have h1 : ¬ FP.Core.infBits FP.Core.b64 < FP.Core.mag FP.Core.b64 r.toNat := fun q => h ((FP.Core.decode_nan _).mpr q)
  rw [FP.Core.infBits_b64, FP.Core.mag_toNat64, ← FP.Core.mask_toNat] at h1
  show r &&& 0x7fffffffffffffff ≤ 0x7ff0000000000000
  rw [UInt64.le_iff_toNat_le]
  have : (0x7ff0000000000000 : UInt64).toNat = 9218868437227405312 := by decide
  omega
theorem dN_of {r : UInt64} (h : FP.Core.dIsNaN r = false) : dN r := fun q => by rw [(FP.Core.dIsNaN_iff r).mpr q] at h; cases h
theorem dN_is {r : UInt64} (h : dN r) : FP.Core.dIsNaN r = false := by
  cases hh : FP.Core.dIsNaN r with
  | false => rfl
  | true => exact absurd ((FP.Core.dIsNaN_iff r).mp hh) h
theorem DF.n {a : UInt64} (h : DF a) : dN a := h.ne_nan
theorem dadd_n {a b : UInt64} (ha : dN a) (hb : DF b) : dN (FP.dadd a b) := dN_of (FP.Core.dadd_out (dN_is ha) hb)
theorem dsub_n {a b : UInt64} (ha : dN a) (hb : DF b) : dN (FP.dsub a b) := dN_of (FP.Core.dsub_out (dN_is ha) hb)
theorem dmul_n {a b : UInt64} (ha : DF a) (hb : DF b) : dN (FP.dmul a b) := dN_of (FP.Core.dmul_out ha hb)
theorem ddiv_n {a b : UInt64} (ha : dN a) (hb : DF b) (hz : ¬ FP.Core.DZero b) : dN (FP.ddiv a b) := dN_of (FP.Core.ddiv_out (dN_is ha) hb hz)
theorem df_lit {a : UInt64} (h : a.toNat % 2 ^ 63 < 9218868437227405312) : DF a := (FP.Core.fin_bits a).mpr h
theorem dz_dneg (a : UInt64) : dz (FP.dneg a) = - dz a := by
  show FP.Core.zval _ (FP.Core.val64 (FP.dneg a)) = _
  rw [FP.val64_dneg, FP.Core.zval_negate]
theorem df_dneg {a : UInt64} (h : DF a) : DF (FP.dneg a) := by
  obtain ⟨s, c, q, e⟩ := h
  refine ⟨!s, c, q, ?_⟩
  rw [FP.val64_dneg, e]; rfl
theorem dz_cneg (a : UInt64) : dz (FP.Core.dneg a) = - dz a := by
  show FP.Core.zval _ (FP.Core.val64 (FP.Core.dneg a)) = _
  rw [FP.Core.val64_dneg, FP.Core.zval_negate]
theorem df_cneg {a : UInt64} (h : DF a) : DF (FP.Core.dneg a) := by
  obtain ⟨s, c, q, e⟩ := h
  refine ⟨!s, c, q, ?_⟩
  show FP.Core.val64 (FP.Core.dneg a) = _
  rw [FP.Core.val64_dneg, e]; rfl
/-- between two finite ones -/
theorem df_between {a L U : UInt64} (hn : dN a) (hL : DF L) (hU : DF U) (h1 : dz L ≤ dz a) (h2 : dz a ≤ dz U) : DF a := by
  cases hv : FP.Core.val64 a with
  | nan => exact absurd hv hn
  | fin s c q => exact ⟨s, c, q, hv⟩
  | inf s =>
    have l1 := hL.zval_lt
    have u1 := hU.zval_lt
    have key : ∀ d : FP.Core.Datum, FP.Core.zval FP.Core.b64 d = FP.Core.zmag FP.Core.b64 d ∨ FP.Core.zval FP.Core.b64 d = -(FP.Core.zmag FP.Core.b64 d : Int) := by
      intro d
      unfold FP.Core.zval FP.Core.signed
      split
      · exact Or.inr rfl
      · exact Or.inl rfl
    have kL := key (FP.Core.val64 L)
    have kU := key (FP.Core.val64 U)
    have e : dz a = FP.Core.signed s (FP.Core.b64.tails * 2 ^ (FP.Core.b64.exps - 2)) := by
      show FP.Core.zval _ (FP.Core.val64 a) = _
      rw [hv]; rfl
    rw [e] at h1 h2
    generalize FP.Core.b64.tails * 2 ^ (FP.Core.b64.exps - 2) = T at *
    unfold FP.Core.signed at h1 h2
    have h3 : dz L = FP.Core.zval FP.Core.b64 (FP.Core.val64 L) := rfl
    have h4 : dz U = FP.Core.zval FP.Core.b64 (FP.Core.val64 U) := rfl
    rw [h3] at h1
    rw [h4] at h2
    cases s
    · simp only [Bool.false_eq_true, if_false] at h1 h2
      rcases kU with g | g <;> rw [g] at h2 <;> omega
    · simp only [if_true] at h1 h2
      rcases kL with g | g <;> rw [g] at h1 <;> omega
theorem dadd_le {a b V : UInt64} (ha : DF a) (hb : DF b) (hV : dN V) (h : dz a + dz b ≤ dz V) : dz (FP.dadd a b) ≤ dz V := by
  show FP.Core.zval _ (FP.Core.val64 (FP.Core.dadd a b)) ≤ _
  rw [FP.Core.val64_dadd]
  exact FP.Core.sum_le FP.Core.good_b64 ha hb (FP.Core.val64_fits a) (FP.Core.val64_fits b) (FP.Core.val64_fits V) hV h
theorem dadd_ge {a b V : UInt64} (ha : DF a) (hb : DF b) (hV : dN V) (h : dz V ≤ dz a + dz b) : dz V ≤ dz (FP.dadd a b) := by
  show _ ≤ FP.Core.zval _ (FP.Core.val64 (FP.Core.dadd a b))
  rw [FP.Core.val64_dadd]
  exact FP.Core.sum_ge FP.Core.good_b64 ha hb (FP.Core.val64_fits a) (FP.Core.val64_fits b) (FP.Core.val64_fits V) hV h
theorem dsub_le {a b V : UInt64} (ha : DF a) (hb : DF b) (hV : dN V) (h : dz a - dz b ≤ dz V) : dz (FP.dsub a b) ≤ dz V := by
  show FP.Core.zval _ (FP.Core.val64 (FP.Core.dsub a b)) ≤ _
  rw [FP.Core.dsub_eq]
  exact dadd_le ha (df_cneg hb) hV (by rw [dz_cneg]; omega)
theorem dsub_ge {a b V : UInt64} (ha : DF a) (hb : DF b) (hV : dN V) (h : dz V ≤ dz a - dz b) : dz V ≤ dz (FP.dsub a b) := by
  show _ ≤ FP.Core.zval _ (FP.Core.val64 (FP.Core.dsub a b))
  rw [FP.Core.dsub_eq]
  exact dadd_ge ha (df_cneg hb) hV (by rw [dz_cneg]; omega)
/-- a divisor that is a power of two -/
theorem ddiv_pow {a C : UInt64} {k : Nat} {s : Bool} {c : Nat} {q : Int} (hC : FP.Core.val64 C = .fin false (2 ^ 52) ((k : Int) - 52)) (ha : FP.Core.val64 a = .fin s c q) : FP.Core.val64 (FP.ddiv a C) = FP.Core.round FP.Core.b64 (.fin s c (q - k)) := by
  show FP.Core.val64 (FP.Core.ddiv a C) = _
  rw [FP.Core.val64_ddiv, ha, hC]
  show (if 2 ^ 52 = 0 then (if c = 0 then .nan else .inf (s != false)) else FP.Core.roundRatio FP.Core.b64 (s != false) c (2 ^ 52) (q - ((k : Int) - 52))) = FP.Core.roundRatio FP.Core.b64 s c 1 (q - k)
  rw [if_neg (by decide)]
  have : (s != false) = s := by cases s <;> rfl
  rw [this]
  refine FP.Core.roundRatio_congr (by decide) (by decide) ?_
  rw [show (q - ((k : Int) - 52) - (q - k)).toNat = 52 by omega, show (q - (k : Int) - (q - ((k : Int) - 52))).toNat = 0 by omega]
  simp
theorem ddiv_le {a C V : UInt64} {k : Nat} (hC : FP.Core.val64 C = .fin false (2 ^ 52) ((k : Int) - 52)) (ha : DF a) (hV : dN V) (h : dz a ≤ dz V * ((2 ^ k : Nat) : Int)) : dz (FP.ddiv a C) ≤ dz V := by
  obtain ⟨s, c, q, e⟩ := ha
  show FP.Core.zval _ (FP.Core.val64 (FP.ddiv a C)) ≤ _
  rw [ddiv_pow hC e]
  have hf := FP.Core.val64_fits a
  rw [e] at hf
  have hq := hf.2.1
  have h9 : dz a = FP.Core.signed s (FP.Core.inUnits c q FP.Core.b64.qmin) := by
    show FP.Core.zval _ (FP.Core.val64 a) = _
    rw [e]; rfl
  refine FP.Core.zval_round_le FP.Core.good_b64 (e0 := FP.Core.b64.qmin - k) (FP.Core.val64_fits V) hV (by omega) (by omega) ?_
  have e1 : FP.Core.inUnits c (q - k) (FP.Core.b64.qmin - k) = FP.Core.inUnits c q FP.Core.b64.qmin := by
    unfold FP.Core.inUnits
    rw [show (q - (k : Int) - (FP.Core.b64.qmin - k)).toNat = (q - FP.Core.b64.qmin).toNat by omega]
  rw [e1, show (FP.Core.b64.qmin - (FP.Core.b64.qmin - (k : Int))).toNat = k by omega, ← h9]
  exact h
theorem ddiv_ge {a C V : UInt64} {k : Nat} (hC : FP.Core.val64 C = .fin false (2 ^ 52) ((k : Int) - 52)) (ha : DF a) (hV : dN V) (h : dz V * ((2 ^ k : Nat) : Int) ≤ dz a) : dz V ≤ dz (FP.ddiv a C) := by
  obtain ⟨s, c, q, e⟩ := ha
  show _ ≤ FP.Core.zval _ (FP.Core.val64 (FP.ddiv a C))
  rw [ddiv_pow hC e]
  have hf := FP.Core.val64_fits a
  rw [e] at hf
  have hq := hf.2.1
  have h9 : dz a = FP.Core.signed s (FP.Core.inUnits c q FP.Core.b64.qmin) := by
    show FP.Core.zval _ (FP.Core.val64 a) = _
    rw [e]; rfl
  refine FP.Core.zval_round_ge FP.Core.good_b64 (e0 := FP.Core.b64.qmin - k) (FP.Core.val64_fits V) hV (by omega) (by omega) ?_
  have e1 : FP.Core.inUnits c (q - k) (FP.Core.b64.qmin - k) = FP.Core.inUnits c q FP.Core.b64.qmin := by
    unfold FP.Core.inUnits
    rw [show (q - (k : Int) - (FP.Core.b64.qmin - k)).toNat = (q - FP.Core.b64.qmin).toNat by omega]
  rw [e1, show (FP.Core.b64.qmin - (FP.Core.b64.qmin - (k : Int))).toNat = k by omega, ← h9]
  exact h
theorem pw2 : FP.Core.val64 4611686018427387904 = .fin false (2 ^ 52) (((1 : Nat) : Int) - 52) := by decide +kernel
theorem pw4 : FP.Core.val64 4616189618054758400 = .fin false (2 ^ 52) (((2 : Nat) : Int) - 52) := by decide +kernel
theorem pw8 : FP.Core.val64 4620693217682128896 = .fin false (2 ^ 52) (((3 : Nat) : Int) - 52) := by decide +kernel
theorem pw16 : FP.Core.val64 4625196817309499392 = .fin false (2 ^ 52) (((4 : Nat) : Int) - 52) := by decide +kernel
theorem pw32 : FP.Core.val64 4629700416936869888 = .fin false (2 ^ 52) (((5 : Nat) : Int) - 52) := by decide +kernel
theorem pw_nz {C : UInt64} {k : Nat} (hC : FP.Core.val64 C = .fin false (2 ^ 52) ((k : Int) - 52)) : ¬ FP.Core.DZero C := by
  rintro ⟨s, q, e⟩
  rw [hC] at e
  injection e with _ h _
  revert h; decide
theorem pw_df {C : UInt64} {k : Nat} (hC : FP.Core.val64 C = .fin false (2 ^ 52) ((k : Int) - 52)) : DF C := ⟨_, _, _, hC⟩
theorem dcmp_of {a b : UInt64} (ha : dN a) (hb : dN b) : FP.dcmp a b = some (compare (dz a) (dz b)) := FP.Core.dcmp_zval ha hb
/-- the unit: dz of a whole number is that many of it -/
def dO : Int := (FP.Core.one64 : Int)
theorem dO_pos : 0 < dO := Int.natCast_pos.mpr FP.Core.one64_pos
theorem dz_i2d (n : Int32) : dz (FP.i2d n) = n.toInt * dO := FP.Core.DInt_zval (FP.Core.i2d_int n)
theorem df_i2d (n : Int32) : DF (FP.i2d n) := FP.Core.i2d_fin n
theorem dz_whole {C : UInt64} {n : Int32} (h : FP.i2d n = C) : dz C = n.toInt * dO := by rw [← h]; exact dz_i2d n
theorem df_whole {C : UInt64} {n : Int32} (h : FP.i2d n = C) : DF C := by rw [← h]; exact df_i2d n
theorem w1 : FP.i2d 1 = 4607182418800017408 := by decide +kernel
theorem w12 : FP.i2d 12 = 4622945017495814144 := by decide +kernel
theorem w8 : FP.i2d 8 = 4620693217682128896 := by decide +kernel
theorem w20 : FP.i2d 20 = 4626322717216342016 := by decide +kernel
theorem w50 : FP.i2d 50 = 4632233691727265792 := by decide +kernel
theorem w90 : FP.i2d 90 = 4636033603912859648 := by decide +kernel
theorem w100 : FP.i2d 100 = 4636737291354636288 := by decide +kernel
theorem w700 : FP.i2d 700 = 4649368480934526976 := by decide +kernel
theorem w1400 : FP.i2d 1400 = 4653872080561897472 := by decide +kernel
theorem w2000 : FP.i2d 2000 = 4656510908468559872 := by decide +kernel
theorem w0 : FP.i2d 0 = 0 := by decide +kernel
theorem dz_0 : dz 0 = 0 := by rw [dz_whole w0]; simp
theorem df_0 : DF 0 := df_whole w0
/-- the heat of a kiln: from 1 to 1400 -/
def Ht (h : UInt64) : Prop := dN h ∧ dO ≤ dz h ∧ dz h ≤ 1400 * dO
theorem Ht.df {h : UInt64} (H : Ht h) : DF h := df_between H.1 (df_whole w1) (df_whole w1400) (by rw [dz_whole w1]; have := H.2.1; simpa using this) (by rw [dz_whole w1400]; have := H.2.2; simpa using this)
/-- heat less 20 -/
theorem Ht.sub20 {h : UInt64} (H : Ht h) : DF (FP.dsub h 4626322717216342016) ∧ dz (FP.dsub h 4626322717216342016) ≤ dz h ∧ (20 * dO ≤ dz h → 0 ≤ dz (FP.dsub h 4626322717216342016)) ∧ (dz h ≤ 20 * dO → dz (FP.dsub h 4626322717216342016) ≤ 0) ∧ -(20 * dO) ≤ dz (FP.dsub h 4626322717216342016) := by
  have hd := H.df
  have h20 := df_whole w20
  have e20 : dz 4626322717216342016 = 20 * dO := by rw [dz_whole w20]; rfl
  have p := dO_pos
  have a := H.2.1
  have b := H.2.2
  have n20 : dz (FP.dneg 4626322717216342016) = -(20 * dO) := by rw [dz_dneg, e20]
  have u := dsub_le hd h20 hd.n (by rw [e20]; omega)
  have lo : -(20 * dO) ≤ dz (FP.dsub h 4626322717216342016) := by
    have := dsub_ge hd h20 (df_dneg h20).n (V := FP.dneg 4626322717216342016) (by rw [n20, e20]; omega)
    rwa [n20] at this
  refine ⟨df_between (dsub_n hd.n h20) (df_dneg h20) hd (by rw [n20]; exact lo) u, u, fun q => ?_, fun q => ?_, lo⟩
  · have := dsub_ge hd h20 df_0.n (V := 0) (by rw [dz_0, e20]; omega)
    rwa [dz_0] at this
  · have := dsub_le hd h20 df_0.n (V := 0) (by rw [dz_0, e20]; omega)
    rwa [dz_0] at this
