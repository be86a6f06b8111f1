/-! THE HEAT STAYS BETWEEN 1 AND 1400, THE WORKS STAY POSITIVE -/
theorem dcmp_lt9i {a b : UInt64} (ha : dN a) (hb : dN b) : dlt a b ↔ dz a < dz b := ⟨fun h => (FP.Core.dcmp_lt.mp h).2.2, fun h => FP.Core.dcmp_lt.mpr ⟨ha, hb, h⟩⟩
theorem dcmp_gt9i {a b : UInt64} (ha : dN a) (hb : dN b) : dgt a b ↔ dz b < dz a := ⟨fun h => (FP.Core.dcmp_gt.mp h).2.2, fun h => FP.Core.dcmp_gt.mpr ⟨ha, hb, h⟩⟩
theorem dcmp_eq9i {a b : UInt64} (ha : dN a) (hb : dN b) : deq a b ↔ dz a = dz b := ⟨fun h => (FP.Core.dcmp_eq.mp h).2.2, fun h => FP.Core.dcmp_eq.mpr ⟨ha, hb, h⟩⟩
theorem dcmp_le9 {a b : UInt64} (ha : dN a) (hb : dN b) (h : ¬ dgt a b) : dz a ≤ dz b := Int.not_lt.mp (fun g => h ((dcmp_gt9i ha hb).mpr g))
theorem dcmp_ge9 {a b : UInt64} (ha : dN a) (hb : dN b) (h : ¬ dlt a b) : dz b ≤ dz a := Int.not_lt.mp (fun g => h ((dcmp_lt9i ha hb).mpr g))
theorem dcmp_lt9 {a b : UInt64} (ha : dN a) (hb : dN b) (h : dlt a b) : dz a < dz b := (dcmp_lt9i ha hb).mp h
theorem dcmp_gt9 {a b : UInt64} (ha : dN a) (hb : dN b) (h : dgt a b) : dz b < dz a := (dcmp_gt9i ha hb).mp h
theorem dcmp_eq9 {a b : UInt64} (ha : dN a) (hb : dN b) (h : deq a b) : dz a = dz b := (dcmp_eq9i ha hb).mp h
theorem dz_1 : dz FP.dconst1 = dO := by rw [dz_whole (C := FP.dconst1) (n := 1) (by decide +kernel)]; simp
theorem df_1 : DF FP.dconst1 := df_whole (C := FP.dconst1) (n := 1) (by decide +kernel)
/-- a number that lies between two others and is one of three -/
theorem Ht.mk9 {a : UInt64} (n : dN a) (h1 : dO ≤ dz a) (h2 : dz a ≤ 1400 * dO) : Ht a := ⟨n, h1, h2⟩
theorem ht_i2d {t : Int32} (h : 100 ≤ t.toInt ∧ t.toInt ≤ 1400) : Ht (FP.i2d t) := by
  have p := dO_pos
  refine ⟨(df_i2d t).n, ?_, ?_⟩ <;> rw [dz_i2d]
  · have := Int.mul_le_mul_of_nonneg_right (show (1 : Int) ≤ t.toInt by omega) (Int.le_of_lt p); omega
  · exact Int.mul_le_mul_of_nonneg_right h.2 (Int.le_of_lt p)
/-- what heat rises by -/
abbrev sp_inc (r : RT) (g : UInt64) : UInt64 := if dlt g (FP.i2d r.1) then g else FP.i2d r.1
theorem inc_ok {r : RT} {g : UInt64} (hr : 10 ≤ r.1.toInt ∧ r.1.toInt ≤ 200) (hg : dN g) (h1 : ¬ dlt g FP.dconst1) : DF (sp_inc r g) ∧ dO ≤ dz (sp_inc r g) := by
  have p := dO_pos
  have g1 := dcmp_ge9 hg df_1.n h1
  rw [dz_1] at g1
  have e := dz_i2d r.1
  have l : dO ≤ r.1.toInt * dO := by have := Int.mul_le_mul_of_nonneg_right (show (1 : Int) ≤ r.1.toInt by omega) (Int.le_of_lt p); omega
  unfold sp_inc
  split
  · rename_i q
    have := dcmp_lt9 hg (df_i2d r.1).n q
    exact ⟨df_between hg df_1 (df_i2d r.1) (by rw [dz_1]; exact g1) (by omega), g1⟩
  · exact ⟨df_i2d _, by rw [e]; exact l⟩
theorem rise_ok {t : UInt64} {r : RT} {g : UInt64} (H : Ht t) (hr : 10 ≤ r.1.toInt ∧ r.1.toInt ≤ 200) (ht : 100 ≤ r.2.1.toInt ∧ r.2.1.toInt ≤ 1400) (hg : dN g) (h1 : ¬ dlt g FP.dconst1) :
    dN (FP.dadd t (sp_inc r g)) ∧ Ht (if dgt (FP.dadd t (sp_inc r g)) (FP.i2d r.2.1) then FP.i2d r.2.1 else FP.dadd t (sp_inc r g)) := by
  obtain ⟨d, lo⟩ := inc_ok hr hg h1
  have p := dO_pos
  have n := dadd_n H.1 d
  have T := ht_i2d ht
  have l := dadd_ge H.df d H.1 (V := t) (by omega)
  refine ⟨n, ?_⟩
  split
  · exact T
  · rename_i q
    have := dcmp_le9 n T.1 q
    exact ⟨n, by have := H.2.1; omega, by have := T.2.2; omega⟩
/-- what heat falls by -/
abbrev sp_dec (r : RT) (t : UInt64) : UInt64 := if dlt (sp_loss t) (FP.i2d r.1) then sp_loss t else FP.i2d r.1
theorem fall_ok {t : UInt64} {r : RT} (H : Ht t) (hr : 10 ≤ r.1.toInt ∧ r.1.toInt ≤ 200) (ht : 100 ≤ r.2.1.toInt ∧ r.2.1.toInt ≤ 1400) (hg : dgt t (FP.i2d r.2.1)) :
    DF (sp_dec r t) ∧ dN (FP.dsub t (sp_dec r t)) ∧ Ht (sp_fallH r t) := by
  have p := dO_pos
  have T := ht_i2d ht
  have q := dcmp_gt9 H.1 T.1 hg
  obtain ⟨s1, s2, s3, s4, s5⟩ := H.sub20
  obtain ⟨l1, l2, l3⟩ := H.part8
  have e := dz_i2d r.1
  have e2 := dz_i2d r.2.1
  have l : dO ≤ r.1.toInt * dO := by have := Int.mul_le_mul_of_nonneg_right (show (1 : Int) ≤ r.1.toInt by omega) (Int.le_of_lt p); omega
  have l2' : 20 * dO ≤ r.2.1.toInt * dO := Int.mul_le_mul_of_nonneg_right (show (20 : Int) ≤ r.2.1.toInt by omega) (Int.le_of_lt p)
  have z0 : 0 ≤ dz (sp_loss t) := by
    have := ddiv_ge (V := 0) pw8 s1 df_0.n (by rw [dz_0]; simpa using s3 (by omega))
    rwa [dz_0] at this
  have d : DF (sp_dec r t) ∧ 0 ≤ dz (sp_dec r t) := by
    unfold sp_dec
    split
    · exact ⟨l1, z0⟩
    · exact ⟨df_i2d _, by omega⟩
  have n := dsub_n H.1 d.1
  have u := dsub_le H.df d.1 H.1 (V := t) (by have := d.2; omega)
  refine ⟨d.1, n, ?_⟩
  have e9 : sp_fallH r t = if dlt (FP.dsub t (sp_dec r t)) (FP.i2d r.2.1) then FP.i2d r.2.1 else FP.dsub t (sp_dec r t) := rfl
  rw [e9]
  generalize sp_dec r t = m at *
  split
  · exact T
  · rename_i w
    have := dcmp_ge9 n T.1 w
    exact ⟨n, by have := T.2.1; omega, by have := H.2.2; omega⟩
theorem cool_mid {t C : UInt64} {k : Nat} (hC : FP.Core.val64 C = .fin false (2 ^ 52) ((k : Int) - 52)) (hk : 1 ≤ k) (H : Ht t) (m : Int32) (hm : 0 ≤ m.toInt) (h1 : (m.toInt + 1) * dO ≤ dz t) (h2 : dz t ≤ (2 * m.toInt + 20) * dO) :
    dO ≤ dz (FP.dsub t (FP.ddiv (FP.dsub t 4626322717216342016) C)) := by
  have p := dO_pos
  obtain ⟨d, -, -, -, -⟩ := H.sub20
  have e20 : dz 4626322717216342016 = 20 * dO := by rw [dz_whole w20]; rfl
  have em := dz_i2d m
  have mm : 0 ≤ m.toInt * dO := Int.mul_nonneg hm (Int.le_of_lt p)
  have x1 : (m.toInt + 1) * dO = m.toInt * dO + dO := by rw [Int.add_mul, Int.one_mul]
  have x2 : (2 * m.toInt + 20) * dO = 2 * (m.toInt * dO) + 20 * dO := by rw [Int.add_mul, Int.mul_assoc]
  rw [x1] at h1
  rw [x2] at h2
  have pk : (2 : Int) ≤ ((2 ^ k : Nat) : Int) := by
    have : 2 ^ 1 ≤ 2 ^ k := Nat.pow_le_pow_right (by decide) hk
    omega
  have b1 : dz (FP.dsub t 4626322717216342016) ≤ dz (FP.i2d m) * ((2 ^ k : Nat) : Int) := by
    have y : dz (FP.i2d m) * 2 ≤ dz (FP.i2d m) * ((2 ^ k : Nat) : Int) := Int.mul_le_mul_of_nonneg_left pk (by rw [em]; exact mm)
    have z : dz (FP.dsub t 4626322717216342016) ≤ 2 * (m.toInt * dO) := by
      by_cases hb : 2 * m.toInt < 2147483648
      · have hv : (Int32.ofInt (2 * m.toInt)).toInt = 2 * m.toInt := Int32.toInt_ofInt_of_le (by omega) (by omega)
        have := dsub_le H.df (df_whole w20) (df_i2d (Int32.ofInt (2 * m.toInt))).n (by rw [e20, dz_i2d, hv, Int.mul_assoc]; omega)
        rwa [dz_i2d, hv, Int.mul_assoc] at this
      · have u := H.sub20.2.1
        have b := H.2.2
        have : 1400 * dO ≤ m.toInt * dO := Int.mul_le_mul_of_nonneg_right (by omega) (Int.le_of_lt p)
        omega
    omega
  have n := ddiv_n d.n (⟨_, _, _, hC⟩ : DF C) (pw_nz hC)
  have g := ddiv_le hC d (df_i2d m).n b1
  have lo : -(20 * dO) ≤ dz (FP.ddiv (FP.dsub t 4626322717216342016) C) := by
    have n20 : dz (FP.dneg 4626322717216342016) = -(20 * dO) := by rw [dz_dneg, e20]
    have := ddiv_ge hC d (df_dneg (df_whole w20)).n (by
      rw [n20]
      have l := H.sub20.2.2.2.2
      have : -(20 * dO) * ((2 ^ k : Nat) : Int) ≤ -(20 * dO) * 1 := Int.mul_le_mul_of_nonpos_left (by omega) (by omega)
      omega)
    rwa [n20] at this
  have dd : DF (FP.ddiv (FP.dsub t 4626322717216342016) C) := df_between n (df_dneg (df_whole w20)) (df_i2d m) (by rw [dz_dneg, e20]; exact lo) g
  have := dsub_ge H.df dd df_1.n (V := FP.dconst1) (by rw [dz_1]; omega)
  rwa [dz_1] at this
theorem cool_ok9 {t C : UInt64} {k : Nat} (hC : FP.Core.val64 C = .fin false (2 ^ 52) ((k : Int) - 52)) (hk : 1 ≤ k) (H : Ht t) (hn : dN (FP.dsub t (FP.ddiv (FP.dsub t 4626322717216342016) C))) : Ht (FP.dsub t (FP.ddiv (FP.dsub t 4626322717216342016) C)) := by
  have p := dO_pos
  obtain ⟨d, up, s3, s4, lo⟩ := H.sub20
  have b := H.2.2
  have a := H.2.1
  have n := ddiv_n d.n (⟨_, _, _, hC⟩ : DF C) (pw_nz hC)
  have e20 : dz 4626322717216342016 = 20 * dO := by rw [dz_whole w20]; rfl
  have n20 : dz (FP.dneg 4626322717216342016) = -(20 * dO) := by rw [dz_dneg, e20]
  have e14 : dz 4653872080561897472 = 1400 * dO := by rw [dz_whole w1400]; rfl
  have pk : (2 : Int) ≤ ((2 ^ k : Nat) : Int) := by
    have : 2 ^ 1 ≤ 2 ^ k := Nat.pow_le_pow_right (by decide) hk
    omega
  have q1 : -(20 * dO) ≤ dz (FP.ddiv (FP.dsub t 4626322717216342016) C) := by
    have := ddiv_ge hC d (df_dneg (df_whole w20)).n (by
      rw [n20]
      have : -(20 * dO) * ((2 ^ k : Nat) : Int) ≤ -(20 * dO) * 1 := Int.mul_le_mul_of_nonpos_left (by omega) (by omega)
      omega)
    rwa [n20] at this
  have q2 : dz (FP.ddiv (FP.dsub t 4626322717216342016) C) ≤ 1400 * dO := by
    have := ddiv_le hC d (df_whole w1400).n (by
      rw [e14]
      have : (1400 * dO) * 1 ≤ (1400 * dO) * ((2 ^ k : Nat) : Int) := Int.mul_le_mul_of_nonneg_left (by omega) (by omega)
      omega)
    rwa [e14] at this
  have dd : DF (FP.ddiv (FP.dsub t 4626322717216342016) C) := df_between n (df_dneg (df_whole w20)) (df_whole w1400) (by rw [n20]; exact q1) (by rw [e14]; exact q2)
  refine ⟨hn, ?_, ?_⟩
  · by_cases g : dz t ≤ 20 * dO
    · have := ddiv_le (V := 0) hC d df_0.n (by rw [dz_0, Int.zero_mul]; exact s4 g)
      rw [dz_0] at this
      have := dsub_ge H.df dd df_1.n (V := FP.dconst1) (by rw [dz_1]; omega)
      rwa [dz_1] at this
    · by_cases g1 : dz t ≤ 40 * dO
      · exact cool_mid hC hk H 10 (by decide) (by show (11 : Int) * dO ≤ _; omega) (by show _ ≤ (40 : Int) * dO; omega)
      · by_cases g2 : dz t ≤ 98 * dO
        · exact cool_mid hC hk H 39 (by decide) (by show (40 : Int) * dO ≤ _; omega) (by show _ ≤ (98 : Int) * dO; omega)
        · by_cases g3 : dz t ≤ 214 * dO
          · exact cool_mid hC hk H 97 (by decide) (by show (98 : Int) * dO ≤ _; omega) (by show _ ≤ (214 : Int) * dO; omega)
          · by_cases g4 : dz t ≤ 446 * dO
            · exact cool_mid hC hk H 213 (by decide) (by show (214 : Int) * dO ≤ _; omega) (by show _ ≤ (446 : Int) * dO; omega)
            · by_cases g5 : dz t ≤ 910 * dO
              · exact cool_mid hC hk H 445 (by decide) (by show (446 : Int) * dO ≤ _; omega) (by show _ ≤ (910 : Int) * dO; omega)
              · exact cool_mid hC hk H 909 (by decide) (by show (910 : Int) * dO ≤ _; omega) (by show _ ≤ (1838 : Int) * dO; omega)
  · by_cases g : dz t ≤ 20 * dO
    · have := dsub_le H.df dd (df_whole w1400).n (by rw [e14]; omega)
      rwa [e14] at this
    · have := ddiv_ge (V := 0) hC d df_0.n (by rw [dz_0, Int.zero_mul]; exact s3 (by omega))
      rw [dz_0] at this
      have := dsub_le H.df dd H.1 (V := t) (by omega)
      omega
theorem cool_ok {t : UInt64} (H : Ht t) (o : Bool) : Ht (sp_cool t o) := by
  obtain ⟨c1, -, c2, -⟩ := cool_n H
  unfold sp_cool
  cases o
  · exact cool_ok9 pw8 (by decide) H c2
  · exact cool_ok9 pw2 (by decide) H c1
/-- no NaN, no sign -/
def pS (d : FP.Core.Datum) : Prop := (∃ c q, d = .fin false c q) ∨ d = .inf false
theorem pS_round {d : FP.Core.Datum} (h : pS d) : pS (FP.Core.round FP.Core.b64 d) := by
  rcases h with ⟨c, q, rfl⟩ | rfl
  · show pS (FP.Core.roundRatio FP.Core.b64 false c 1 q)
    unfold FP.Core.roundRatio
    split
    · exact Or.inl ⟨_, _, rfl⟩
    · unfold FP.Core.roundAt FP.Core.settle FP.Core.bound
      split <;> split <;> first | exact Or.inl ⟨_, _, rfl⟩ | exact Or.inr rfl
  · exact Or.inr rfl
theorem pS_sum {d e : FP.Core.Datum} (hd : pS d) (he : pS e) : pS (FP.Core.exactSum d e) := by
  rcases hd with ⟨c, q, rfl⟩ | rfl <;> rcases he with ⟨c', q', rfl⟩ | rfl
  · left
    have : FP.Core.sumSign false false (FP.Core.sumUnits false c q false c' q' (min q q')) = false := by
      unfold FP.Core.sumSign
      split
      · rfl
      · apply decide_eq_false
        unfold FP.Core.sumUnits FP.Core.signed
        simp only [Bool.false_eq_true, if_false]
        omega
    refine ⟨(FP.Core.sumUnits false c q false c' q' (min q q')).natAbs, min q q', ?_⟩
    show FP.Core.Datum.fin (FP.Core.sumSign false false (FP.Core.sumUnits false c q false c' q' (min q q'))) _ _ = _
    rw [this]
  · exact Or.inr rfl
  · exact Or.inr rfl
  · exact Or.inr rfl
abbrev okW (w : UInt64) : Prop := pS (FP.Core.val64 w)
theorem okW.n {w : UInt64} (h : okW w) : dN w := by
  rcases h with ⟨c, q, e⟩ | e <;> intro h <;> rw [e] at h <;> cases h
theorem okW.z {w : UInt64} (h : okW w) : FP.dadd w 0 = w := by
  refine FP.Core.dadd_zero h.n ?_
  rintro rfl
  rcases h with ⟨c, q, e⟩ | e <;> rw [FP.Core.val64_dzeroNeg] at e <;> cases e
theorem okW.add {w b : UInt64} (h : okW w) (hb : okW b) : okW (FP.dadd w b) := by
  show pS (FP.Core.val64 (FP.Core.dadd w b))
  rw [FP.Core.val64_dadd]
  exact pS_round (pS_sum h hb)
theorem okW.of {a : UInt64} (h : DF a) (hz : 0 < dz a) : okW a := by
  obtain ⟨s, c, q, e⟩ := h
  have : dz a = FP.Core.signed s (FP.Core.inUnits c q FP.Core.b64.qmin) := by
    show FP.Core.zval _ (FP.Core.val64 a) = _
    rw [e]; rfl
  rw [this] at hz
  cases s
  · exact Or.inl ⟨_, _, e⟩
  · unfold FP.Core.signed at hz
    simp only [if_true] at hz
    omega
theorem okW.div {a : UInt64} (h : DF a) (hw : okW a) : okW (FP.ddiv a 4629700416936869888) := by
  obtain ⟨s, c, q, e⟩ := h
  have : s = false := by
    rcases hw with ⟨c', q', e'⟩ | e' <;> rw [e] at e' <;> injection e'
  subst this
  show pS (FP.Core.val64 _)
  rw [ddiv_pow pw32 e]
  exact pS_round (Or.inl ⟨_, _, rfl⟩)
/-- a shelf's heat -/
theorem hot_ok {t : UInt64} (H : Ht t) (s : Nat) : DF (sp_hot s t) ∧ dz (sp_hot s t) ≤ 1408 * dO := by
  have p := dO_pos
  have a := H.2.1
  have b := H.2.2
  have e12 : dz 4622945017495814144 = 12 * dO := by rw [dz_whole w12]; rfl
  have e8 : dz 4620693217682128896 = 8 * dO := by rw [dz_whole w8]; rfl
  have n12 : dz (FP.dneg 4622945017495814144) = -(12 * dO) := by rw [dz_dneg, e12]
  have e2 : dz 4656510908468559872 = 2000 * dO := by rw [dz_whole w2000]; rfl
  have w1408 : FP.i2d 1408 = 4653907264933986304 := by decide +kernel
  have e14 : dz 4653907264933986304 = 1408 * dO := by rw [dz_whole w1408]; rfl
  unfold sp_hot
  split
  · have u := dsub_le H.df (df_whole w12) H.1 (V := t) (by omega)
    have l := dsub_ge H.df (df_whole w12) (df_dneg (df_whole w12)).n (by rw [n12, e12]; omega)
    exact ⟨df_between (dsub_n H.1 (df_whole w12)) (df_dneg (df_whole w12)) H.df l u, by omega⟩
  · split
    · exact ⟨H.df, by omega⟩
    · have u := dadd_le H.df (df_whole w8) (df_whole w1408).n (by rw [e14, e8]; omega)
      have l := dadd_ge H.df (df_whole w8) H.1 (V := t) (by omega)
      exact ⟨df_between (dadd_n H.1 (df_whole w8)) H.df (df_whole w1408) l u, by rw [e14] at u; exact u⟩
theorem hot700 {x : UInt64} (hx : DF x) (hb : dz x ≤ 1408 * dO) (h : dgt x 4649368480934526976) : DF (FP.dsub x 4649368480934526976) ∧ 0 < dz (FP.dsub x 4649368480934526976) := by
  have p := dO_pos
  have e7 : dz 4649368480934526976 = 700 * dO := by rw [dz_whole w700]; rfl
  have g := dcmp_gt9 hx.n (df_whole w700).n h
  have one : DF 1 ∧ dz 1 = 1 := ⟨df_lit (by decide), by decide +kernel⟩
  have l := dsub_ge hx (df_whole w700) one.1.n (V := 1) (by rw [one.2]; omega)
  have u := dsub_le hx (df_whole w700) hx.n (V := x) (by omega)
  exact ⟨df_between (dsub_n hx.n (df_whole w700)) one.1 hx l u, by rw [one.2] at l; omega⟩
theorem addw_ok {x w : UInt64} (hx : DF x) (hb : dz x ≤ 1408 * dO) (hw : okW w) : okW (sp_addw x w) := by
  unfold sp_addw
  split
  · rename_i g
    obtain ⟨d, z⟩ := hot700 hx hb g
    exact hw.add (okW.div d (okW.of d z))
  · exact hw
