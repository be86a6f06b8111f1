/-! NUMBERS, POTS AND GLAZES (as in whole) -/
theorem w2 : FP.i2d 2 = 4611686018427387904 := by decide +kernel
theorem wn2 : FP.i2d (-2) = 13835058055282163712 := by decide +kernel
theorem cg_fin {q : Int32} (h : 8 ≤ q.toInt ∧ q.toInt ≤ 40) : DF (sp_cg q) := by
  obtain ⟨j, hj, rfl⟩ := nI_i (x := q) (N := 41) (by omega) (by omega)
  have key : ∀ j : Fin 41, (sp_cg (nI j.1)).toNat % 2 ^ 63 < 9218868437227405312 := by decide +kernel
  exact df_lit (key ⟨j, hj⟩)
/-- water: so many sixteenths -/
def wt (n : Nat) : UInt32 := FP.fdiv (FP.i2f (nI n)) 1098907648
/-- what a day takes: so many sixteenths -/
def lk (air wl : Nat) (cv : Bool) : Nat := if cv then air * (8 / wl) / 2 else air * (8 / wl)
theorem loss_tbl : ∀ a : Fin 9, ∀ w : Fin 5, (w.1 = 1 ∨ w.1 = 2 ∨ w.1 = 4) → (sp_loss0 (nI a.1) (nI w.1) false = wt (a.1 * (8 / w.1)) ∧ sp_loss0 (nI a.1) (nI w.1) true = wt (a.1 * (8 / w.1) / 2) ∧ FP.fmul (FP.fdiv (FP.fdiv (FP.i2f (nI a.1)) FP.fconst2) (FP.i2f (nI w.1))) 1056964608 = wt (a.1 * (8 / w.1) / 2) ∧ (FP.fdiv (FP.i2f (nI a.1)) FP.fconst2).toNat % 2 ^ 31 < 2139095040) := by decide +kernel
theorem wt_fin : ∀ n : Fin 129, (wt n.1).toNat % 2 ^ 31 < 2139095040 := by decide +kernel
theorem wt_cmp : ∀ n : Fin 129, (wt n.1).toNat < 2 ^ 31 ∧ FP.fcmp (wt n.1) 1048576000 = some (compare n.1 4) ∧ FP.fcmp (wt n.1) 1069547520 = some (compare n.1 24) ∧ FP.f2l (FP.fmul 1115684864 (wt n.1)) = FP.d2l (FP.dmul 4634204016564240384 (FP.f2d (wt n.1))) := by decide +kernel
def okwt (n k : Nat) : Bool := FP.fcmp (wt n) (wt k) == some (compare n k) && (if k ≤ n then FP.fsub (wt n) (wt k) == wt (n - k) else true)
theorem wt_sub0 : ((List.range 129).all fun n => (List.range 65).all fun k => okwt n k) = true := by decide +kernel
theorem wt_sub {n k : Nat} (hn : n ≤ 128) (hk : k ≤ 64) : FP.fcmp (wt n) (wt k) = some (compare n k) ∧ (k ≤ n → FP.fsub (wt n) (wt k) = wt (n - k)) := by
  have h1 := List.all_eq_true.mp wt_sub0 n (List.mem_range.mpr (by omega))
  have h2 := List.all_eq_true.mp h1 k (List.mem_range.mpr (by omega))
  simp only [okwt, Bool.and_eq_true, beq_iff_eq] at h2
  refine ⟨h2.1, fun w => ?_⟩
  have h3 := h2.2
  rw [if_pos w] at h3
  simpa using h3
theorem wt_n {n : Nat} (h : n ≤ 128) : FP.Core.FFin (wt n) := (FP.Core.fin_bits32 _).mpr (wt_fin ⟨n, by omega⟩)
theorem fn_of {r : UInt32} (h : FP.Core.FFin r) : vf_n32 r := fnn_of h.ne_nan
/-- POWER: 1, and 63/64 of it again and again -/
def pw9 : Nat → UInt32
  | 0 => FP.fconst1
  | j + 1 => FP.fmul 1065091072 (pw9 j)
def okpw (p : UInt32) : Bool := decide (p.toNat % 2 ^ 31 < 2139095040) && (FP.f2l (FP.fmul 1115684864 p) == FP.d2l (FP.dmul 4634204016564240384 (FP.f2d p))) && decide ((FP.fmul 1115684864 p).toNat % 2 ^ 31 < 2139095040)
def chk9 : Nat → UInt32 → Bool
  | 0, p => okpw p
  | n + 1, p => okpw p && chk9 n (FP.fmul 1065091072 p)
theorem chk9_ok : ∀ (n : Nat) (j : Nat), chk9 n (pw9 j) = true → ∀ i, i ≤ n → okpw (pw9 (j + i)) = true
  | 0, j, h, i, hi => by
    obtain rfl : i = 0 := by omega
    exact h
  | n + 1, j, h, i, hi => by
    simp only [chk9, Bool.and_eq_true] at h
    rcases i with _ | i
    · exact h.1
    · rw [show j + (i + 1) = (j + 1) + i by omega]
      exact chk9_ok n (j + 1) h.2 i (by omega)
theorem pw9_tbl : chk9 520 (pw9 0) = true := by decide +kernel
theorem pw9_ok {j : Nat} (hj : j ≤ 520) : FP.Core.FFin (pw9 j) ∧ FP.f2l (FP.fmul 1115684864 (pw9 j)) = FP.d2l (FP.dmul 4634204016564240384 (FP.f2d (pw9 j))) ∧ FP.Core.FFin (FP.fmul 1115684864 (pw9 j)) := by
  have h := chk9_ok 520 0 pw9_tbl j hj
  rw [Nat.zero_add] at h
  simp only [okpw, Bool.and_eq_true, decide_eq_true_eq, beq_iff_eq] at h
  exact ⟨(FP.Core.fin_bits32 _).mpr h.1.1, h.1.2, (FP.Core.fin_bits32 _).mpr h.2⟩
/-- a pot's water: what it can be; its wall -/
def okq (q : QT) : Prop := (∃ n, n ≤ 128 ∧ qWa q = wt n) ∧ (qWl q = 1 ∨ qWl q = 2 ∨ qWl q = 4)
theorem air_nat {air : Int32} (h : 1 ≤ air ∧ air ≤ 8) : ∃ a : Nat, 1 ≤ a ∧ a ≤ 8 ∧ air = nI a := by
  have a1 := Int32.le_iff_toInt_le.mp h.1
  have a2 := Int32.le_iff_toInt_le.mp h.2
  have e1 : (1 : Int32).toInt = 1 := rfl
  have e2 : (8 : Int32).toInt = 8 := rfl
  obtain ⟨m, hm, rfl⟩ := nI_i (N := 9) (x := air) (by omega) (by omega)
  rw [nI_toInt (by omega)] at a1
  exact ⟨m, by omega, by omega, rfl⟩
theorem wall_nat {w : Int32} (h : w = 1 ∨ w = 2 ∨ w = 4) : ∃ a : Nat, (a = 1 ∨ a = 2 ∨ a = 4) ∧ w = nI a := by
  rcases h with rfl | rfl | rfl
  · exact ⟨1, Or.inl rfl, rfl⟩
  · exact ⟨2, Or.inr (Or.inl rfl), rfl⟩
  · exact ⟨4, Or.inr (Or.inr rfl), rfl⟩
/-- what a day takes, by its number -/
theorem loss_nat {air : Int32} {q : QT} (ha : 1 ≤ air ∧ air ≤ 8) (hq : okq q) : ∃ n k : Nat, n ≤ 128 ∧ k ≤ 64 ∧ qWa q = wt n ∧ sp_loss0 air (qWl q) (qCv q) = wt k ∧ (qCv q = true → FP.fmul (FP.fdiv (FP.fdiv (FP.i2f air) FP.fconst2) (FP.i2f (qWl q))) 1056964608 = wt k) ∧ (qCv q = false → FP.fdiv (FP.fdiv (FP.i2f air) FP.fconst2) (FP.i2f (qWl q)) = wt k) ∧ (∃ k2, k2 ≤ 64 ∧ FP.fdiv (FP.fdiv (FP.i2f air) FP.fconst2) (FP.i2f (qWl q)) = wt k2) ∧ vf_n32 (FP.fdiv (FP.i2f air) FP.fconst2) := by
  obtain ⟨⟨n, hn, e1⟩, hw⟩ := hq
  obtain ⟨a, a1, a2, rfl⟩ := air_nat ha
  obtain ⟨w, w1, e2⟩ := wall_nat hw
  obtain ⟨t1, t2, t3, t4⟩ := loss_tbl ⟨a, by omega⟩ ⟨w, by omega⟩ w1
  have b1 : a * (8 / w) ≤ 64 := by rcases w1 with rfl | rfl | rfl <;> simp <;> omega
  have f0 : sp_loss0 (nI a) (nI w) false = FP.fdiv (FP.fdiv (FP.i2f (nI a)) FP.fconst2) (FP.i2f (nI w)) := by unfold sp_loss0; simp
  have t4 := fn_of ((FP.Core.fin_bits32 _).mpr t4)
  dsimp only at t1 t2 t3 t4
  rw [f0] at t1
  rw [e2]
  cases hc : qCv q with
  | false => exact ⟨n, a * (8 / w), hn, b1, e1, (by rw [f0]; exact t1), fun h => (by cases h), fun _ => t1, ⟨_, b1, t1⟩, t4⟩
  | true => exact ⟨n, a * (8 / w) / 2, hn, by omega, e1, t2, fun _ => t3, fun h => (by cases h), ⟨_, b1, t1⟩, t4⟩
/-- a day's loss keeps what a pot's water can be, and makes no NaN -/
theorem lose_okq {air : Int32} {q : QT} (ha : 1 ≤ air ∧ air ≤ 8) (hq : okq q) : lossN air q ∧ okq (sp_lose air q) ∧ (∃ n k, n ≤ 128 ∧ k ≤ 64 ∧ k ≤ n ∧ qWa q = wt n ∧ sp_loss9 air q = wt k) := by
  obtain ⟨n, k, hn, hk, e1, e2, e3, e4, ⟨k2, hk2, e5⟩, e6⟩ := loss_nat ha hq
  have h1 := (wt_sub hn hk).1
  have l9 : ∃ k', k' ≤ 64 ∧ k' ≤ n ∧ sp_loss9 air q = wt k' := by
    unfold sp_loss9
    rw [e2, e1]
    by_cases w : fgt (wt k) (wt n)
    · rw [if_pos w]
      have a1 := FP.Core.fcmp_gt.mp w
      have a2 : FP.Core.fcmp (wt n) (wt k) = some .lt := FP.Core.fcmp_lt.mpr ⟨a1.2.1, a1.1, a1.2.2⟩
      rw [show FP.Core.fcmp (wt n) (wt k) = some (compare n k) from h1, Option.some.injEq, Nat.compare_eq_lt] at a2
      exact ⟨n, by omega, Nat.le_refl n, rfl⟩
    · rw [if_neg w]
      refine ⟨k, hk, Nat.not_lt.mp (fun v => w ?_), rfl⟩
      have a2 : FP.Core.fcmp (wt n) (wt k) = some .lt := by rw [show FP.Core.fcmp (wt n) (wt k) = some (compare n k) from h1, Nat.compare_eq_lt.mpr v]
      have a1 := FP.Core.fcmp_lt.mp a2
      exact FP.Core.fcmp_gt.mpr ⟨a1.2.1, a1.1, a1.2.2⟩
  obtain ⟨k', b1, b2, b3⟩ := l9
  have sb : FP.fsub (qWa q) (sp_loss9 air q) = wt (n - k') := by rw [e1, b3]; exact (wt_sub hn b1).2 b2
  refine ⟨⟨e6, by rw [e5]; exact fn_of (wt_n (by omega)), ?_, by rw [sb]; exact fn_of (wt_n (by omega))⟩, ?_, n, k', hn, b1, b2, e1, b3⟩
  · obtain ⟨a, a1, a2, rfl⟩ := air_nat ha
    obtain ⟨w, w1, e7⟩ := wall_nat hq.2
    obtain ⟨t1, t2, t3, t4⟩ := loss_tbl ⟨a, by omega⟩ ⟨w, by omega⟩ w1
    have b1 : a * (8 / w) ≤ 64 := by rcases w1 with rfl | rfl | rfl <;> simp <;> omega
    rw [e7]
    have f0 : sp_loss0 (nI a) (nI w) true = FP.fdiv (FP.fdiv (FP.fdiv (FP.i2f (nI a)) FP.fconst2) (FP.i2f (nI w))) FP.fconst2 := by unfold sp_loss0; simp
    rw [← f0, t2]
    exact fn_of (wt_n (by dsimp only; omega))
  · unfold sp_lose
    split
    · exact ⟨⟨n - k', by omega, sb⟩, hq.2⟩
    · exact hq
theorem rng9 {x : Int32} {n : Nat} (hn : n < 2 ^ 30) (h : 0 ≤ x ∧ x ≤ nI n) : ∃ w, w < n + 1 ∧ x = nI w := by
  have h1 := Int32.le_iff_toInt_le.mp h.1
  have h2 := Int32.le_iff_toInt_le.mp h.2
  rw [nI_toInt (by omega)] at h2
  have e0 : (0 : Int32).toInt = 0 := by decide
  exact nI_i (by omega) (by omega)
theorem nI_ad9 (a b : Nat) : nI a + nI b = nI (a + b) := Int32.toBitVec_inj.mp (show BitVec.ofNat 32 a + BitVec.ofNat 32 b = BitVec.ofNat 32 (a + b) from (BitVec.ofNat_add a b).symm)
/-- a sign that is plus -/
def ps9 (a : UInt64) : Prop := FP.Core.sgn (FP.Core.val64 a) = false
theorem ps_i2d {n : Int32} (h : 0 ≤ n.toInt) : ps9 (FP.i2d n) := by
  show FP.Core.sgn (FP.Core.val64 (FP.Core.i2d n)) = false
  rw [FP.Core.val64_i2d]
  show FP.Core.sgn (FP.Core.roundRatio _ (decide (n.toInt < 0)) _ 1 _) = false
  rw [FP.Core.sgn_roundRatio]
  exact decide_eq_false (by omega)
theorem ps_dmul {a b : UInt64} (fa : DF a) (fb : DF b) (ha : ps9 a) (hb : ps9 b) : ps9 (FP.dmul a b) := by
  obtain ⟨s, c, q, e⟩ := fa
  obtain ⟨t, d, r, e'⟩ := fb
  unfold ps9 at ha hb
  rw [e] at ha
  rw [e'] at hb
  have ha : s = false := ha
  have hb : t = false := hb
  subst ha; subst hb
  show FP.Core.sgn (FP.Core.val64 (FP.Core.dmul a b)) = false
  rw [FP.Core.val64_dmul, e, e']
  show FP.Core.sgn (FP.Core.roundRatio _ (false != false) _ 1 _) = false
  rw [FP.Core.sgn_roundRatio]; rfl
theorem ps_dadd {a b : UInt64} (fa : DF a) (fb : DF b) (ha : ps9 a) (hb : ps9 b) : ps9 (FP.dadd a b) := by
  obtain ⟨s, c, q, e⟩ := fa
  obtain ⟨t, d, r, e'⟩ := fb
  unfold ps9 at ha hb
  rw [e] at ha
  rw [e'] at hb
  have ha : s = false := ha
  have hb : t = false := hb
  subst ha; subst hb
  show FP.Core.sgn (FP.Core.val64 (FP.Core.dadd a b)) = false
  rw [FP.Core.val64_dadd, e, e']
  show FP.Core.sgn (FP.Core.roundRatio _ (FP.Core.sumSign false false (FP.Core.sumUnits false c q false d r (min q r))) _ 1 _) = false
  rw [FP.Core.sgn_roundRatio]
  unfold FP.Core.sumSign
  split
  · rfl
  · refine decide_eq_false ?_
    unfold FP.Core.sumUnits FP.Core.signed
    rw [if_neg (by decide), if_neg (by decide)]
    omega
theorem ps_ddiv {a b : UInt64} (fa : DF a) (fb : DF b) (ha : ps9 a) (hb : ps9 b) : ps9 (FP.ddiv a b) := by
  obtain ⟨s, c, q, e⟩ := fa
  obtain ⟨t, d, r, e'⟩ := fb
  unfold ps9 at ha hb
  rw [e] at ha
  rw [e'] at hb
  have ha : s = false := ha
  have hb : t = false := hb
  subst ha; subst hb
  show FP.Core.sgn (FP.Core.val64 (FP.Core.ddiv a b)) = false
  rw [FP.Core.val64_ddiv, e, e']
  show FP.Core.sgn (if d = 0 then (if c = 0 then .nan else .inf (false != false)) else FP.Core.roundRatio FP.Core.b64 (false != false) c d (q - r)) = false
  split
  · split <;> rfl
  · rw [FP.Core.sgn_roundRatio]; rfl
/-- a glaze's numbers -/
theorem i2d_tbl : ((List.range 961).all fun n => decide ((FP.i2d (nI n)).toNat % 2 ^ 63 < 1033 * 2 ^ 52) && (decide (60 < n) || decide ((FP.i2d (nI n)).toNat % 2 ^ 63 < 1029 * 2 ^ 52))) = true := by decide +kernel
theorem i2d_60 {n : Nat} (h : n ≤ 60) : (FP.i2d (nI n)).toNat % 2 ^ 63 < 1029 * 2 ^ 52 := by
  have := List.all_eq_true.mp i2d_tbl n (List.mem_range.mpr (by omega))
  simp only [Bool.and_eq_true, Bool.or_eq_true, decide_eq_true_eq] at this
  exact this.2.resolve_left (by omega)
theorem mg_fin {a : UInt64} {K : Nat} (h : a.toNat % 2 ^ 63 < K * 2 ^ 52) (hK : K ≤ 2047) : DF a := FP.Core.fin_of_lt h hK
theorem i2d_ge {n : Nat} (h : 1 ≤ n) (h2 : n < 2 ^ 31) : 1023 * 2 ^ 52 ≤ (FP.i2d (nI n)).toNat % 2 ^ 63 ∧ (FP.i2d (nI n)).toNat % 2 ^ 63 < 2047 * 2 ^ 52 := FP.Core.i2d_big (by rw [nI_toInt h2]; omega)
theorem glz_nat {g : GT} (hg : glzOk g) : ∃ s l a i : Nat, s ≤ 60 ∧ l ≤ 60 ∧ a ≤ 60 ∧ i ≤ 60 ∧ 1 ≤ s + l ∧ g.1 = nI s ∧ g.2.1 = nI l ∧ g.2.2.1 = nI a ∧ g.2.2.2.1 = nI i := by
  obtain ⟨⟨h1, h2, h3, h4, -⟩, h0⟩ := hg
  obtain ⟨s, hs, e1⟩ := rng9 (n := 60) (by decide) h1
  obtain ⟨l, hl, e2⟩ := rng9 (n := 60) (by decide) h2
  obtain ⟨a, ha, e3⟩ := rng9 (n := 60) (by decide) h3
  obtain ⟨i, hi, e4⟩ := rng9 (n := 60) (by decide) h4
  refine ⟨s, l, a, i, by omega, by omega, by omega, by omega, ?_, e1, e2, e3, e4⟩
  rcases Nat.lt_or_ge 0 (s + l) with w | w
  · exact w
  · exact absurd ⟨by rw [e1, show s = 0 by omega]; rfl, by rw [e2, show l = 0 by omega]; rfl⟩ h0
theorem glz_all {g : GT} (hg : glzOk g) : glzN g ∧ DF (sp_growth g) ∧ ps9 (sp_mx g) ∧ (sp_mx g).toNat % 2 ^ 63 < 1034 * 2 ^ 52 := by
  obtain ⟨s, l, a, i, b1, b2, b3, b4, b5, e1, e2, e3, e4⟩ := glz_nat hg
  unfold glzN sp_growth sp_gnum sp_mx
  rw [e1, e2, e3, e4, nI_ad9, nI_ad9, nI_ad9]
  have z0 : ∀ {n : Nat}, n < 2 ^ 31 → 0 ≤ (nI n).toInt := fun h => by rw [nI_toInt h]; omega
  obtain ⟨f1, f2⟩ := i2d_ge b5 (by omega)
  obtain ⟨t1, t2⟩ := i2d_ge (n := s + l + a + i) (by omega) (by omega)
  have q1 := FP.Core.ddiv_mag (i2d_60 b3) f1 f2 (by decide) (by decide)
  have q2 := FP.Core.ddiv_mag (i2d_60 b4) f1 f2 (by decide) (by decide)
  have k15 : (4609434218613702656 : UInt64).toNat % 2 ^ 63 < 1024 * 2 ^ 52 := by decide
  have k05 : (4602678819172646912 : UInt64).toNat % 2 ^ 63 < 1024 * 2 ^ 52 := by decide
  have m1 := FP.Core.dmul_mag k15 q1 (by decide) (by decide)
  have m2 := FP.Core.dmul_mag k05 q2 (by decide) (by decide)
  have x1 := FP.Core.dadd_mag (K := 1032) m1 m2 (by decide)
  have k8 : (4620693217682128896 : UInt64).toNat % 2 ^ 63 < 1027 * 2 ^ 52 := by decide
  have k4 : (4616189618054758400 : UInt64).toNat % 2 ^ 63 < 1027 * 2 ^ 52 := by decide
  have k2 : (4611686018427387904 : UInt64).toNat % 2 ^ 63 < 1027 * 2 ^ 52 := by decide
  have g1 := FP.Core.dmul_mag k8 (i2d_60 b1) (by decide) (by decide)
  have g2 := FP.Core.dmul_mag k4 (i2d_60 b2) (by decide) (by decide)
  have g3 := FP.Core.dadd_mag (K := 1034) g1 g2 (by decide)
  have g4 := FP.Core.dmul_mag k2 (i2d_60 b3) (by decide) (by decide)
  have g5 := FP.Core.dadd_mag (K := 1036) g3 (Nat.lt_of_lt_of_le g4 (by decide)) (by decide)
  have g6 := FP.Core.dadd_mag (K := 1038) g5 (Nat.lt_of_lt_of_le (i2d_60 b4) (by decide)) (by decide)
  have g7 := FP.Core.ddiv_mag g6 t1 t2 (by decide) (by decide)
  have ff : DF (FP.i2d (nI (s + l))) := df_i2d _
  have d15 := mg_fin k15 (by decide)
  have d05 := mg_fin k05 (by decide)
  have p15 : ps9 4609434218613702656 := by unfold ps9; decide +kernel
  have p05 : ps9 4602678819172646912 := by unfold ps9; decide +kernel
  have pf : ps9 (FP.i2d (nI (s + l))) := ps_i2d (z0 (by omega))
  have s1 := ps_ddiv (df_i2d _) ff (ps_i2d (z0 (show a < 2 ^ 31 by omega))) pf
  have s2 := ps_ddiv (df_i2d _) ff (ps_i2d (z0 (show i < 2 ^ 31 by omega))) pf
  have s3 := ps_dmul d15 (mg_fin q1 (by decide)) p15 s1
  have s4 := ps_dmul d05 (mg_fin q2 (by decide)) p05 s2
  exact ⟨⟨nn_of (mg_fin q1 (by decide)).n, nn_of (mg_fin m1 (by decide)).n, nn_of (mg_fin q2 (by decide)).n, nn_of (mg_fin m2 (by decide)).n, (mg_fin x1 (by decide)).n, nn_of (mg_fin g1 (by decide)).n, nn_of (mg_fin g2 (by decide)).n, nn_of (mg_fin g3 (by decide)).n, nn_of (mg_fin g4 (by decide)).n, nn_of (mg_fin g5 (by decide)).n, nn_of (mg_fin g6 (by decide)).n, nn_of (mg_fin g7 (by decide)).n⟩, mg_fin g7 (by decide), ps_dadd (mg_fin m1 (by decide)) (mg_fin m2 (by decide)) s3 s4, x1⟩
theorem sa_n {g : GT} (hg : glzOk g) (h : ¬ g.2.2.1 = 0) : vf_n64 (FP.ddiv (FP.i2d g.2.2.2.1) (FP.i2d g.2.2.1)) := by
  obtain ⟨s, l, a, i, b1, b2, b3, b4, b5, e1, e2, e3, e4⟩ := glz_nat hg
  rw [e3] at h ⊢
  rw [e4]
  have a1 : 1 ≤ a := by
    rcases Nat.lt_or_ge 0 a with w | w
    · exact w
    · exact absurd (by rw [show a = 0 by omega]; rfl) h
  obtain ⟨f1, f2⟩ := i2d_ge a1 (by omega)
  exact nn_of (mg_fin (FP.Core.ddiv_mag (i2d_60 b4) f1 f2 (by decide) (by decide)) (by decide)).n
theorem rng1 {x : Int32} {n : Nat} (hn : n < 2 ^ 30) (h : 1 ≤ x ∧ x ≤ nI n) : ∃ m : Nat, (1 ≤ m ∧ m ≤ n) ∧ x = nI m := by
  have h1 := Int32.le_iff_toInt_le.mp h.1
  have h2 := Int32.le_iff_toInt_le.mp h.2
  rw [nI_toInt (by omega)] at h2
  have e1 : (1 : Int32).toInt = 1 := by decide
  obtain ⟨m, hm, rfl⟩ := nI_i (x := x) (N := n + 1) (by omega) (by omega)
  rw [nI_toInt (by omega)] at h1
  exact ⟨m, ⟨by omega, by omega⟩, rfl⟩
/-- where a pot can stand -/
def okSh (q : QT) : Prop := qSh q = -1 ∨ ∃ s, s < 3 ∧ qSh q = nI s
def okGl (nG : Nat) (p : PT) : Prop := (∀ g, p.2.1 = some g → g < nG) ∧ (qSt p.2.2 = 3 ∨ qSt p.2.2 = 4 ∨ qSt p.2.2 = 6 → ∃ g, p.2.1 = some g)
theorem nI_or (a b : Nat) : nI a ||| nI b = nI (a ||| b) := Int32.toBitVec_inj.mp (show BitVec.ofNat 32 a ||| BitVec.ofNat 32 b = BitVec.ofNat 32 (a ||| b) from BitVec.ofNat_or.symm)
theorem nI_and (a b : Nat) : nI a &&& nI b = nI (a &&& b) := Int32.toBitVec_inj.mp (show BitVec.ofNat 32 a &&& BitVec.ofNat 32 b = BitVec.ofNat 32 (a &&& b) from BitVec.ofNat_and.symm)
theorem p10 {x : Nat} (h : 10 ≤ x) : 1024 ≤ 2 ^ x := Nat.le_trans (by decide : 1024 ≤ 2 ^ 10) (Nat.pow_le_pow_right (by decide) h)
/-- so many cells from a place on -/
def cfN (c w : Nat) : Nat := (2 ^ w - 1) * 2 ^ c
theorem cf_tbl : ∀ c : Fin 10, ∀ w : Fin 6, 1 ≤ w.1 → c.1 + w.1 ≤ 10 → sp_cf (nI c.1) (nI w.1) = nI (cfN c.1 w.1) ∧ cfN c.1 w.1 < 1024 ∧ ∀ x : Fin 10, (cfN c.1 w.1).testBit x.1 = decide (nI c.1 ≤ nI x.1 ∧ nI x.1 ≤ nI c.1 + nI w.1 - 1) ∧ (cfN c.1 w.1).testBit x.1 = decide (c.1 ≤ x.1 ∧ x.1 < c.1 + w.1) := by decide +kernel
/-- where the pots of a shelf lie -/
def okCe (q : QT) : Prop := ¬ qSh q = -1 → ∃ c w, 1 ≤ w ∧ w ≤ 5 ∧ c + w ≤ 10 ∧ qCe q = nI c ∧ qWd q = nI w
def bits_ok (m : Nat) : Bool := (10 - sp_bc (nI m) == sp_cnt (fun x => !m.testBit x) 10) && (List.range 10).all fun x => decide ((nI m >>> (nI x &&& 31)) &&& 1 = 0) == !m.testBit x
theorem bits_tbl : ((List.range 1024).all fun m => bits_ok m) = true := by decide +kernel
theorem bits_at {m : Nat} (hm : m < 1024) : 10 - sp_bc (nI m) = sp_cnt (fun x => !m.testBit x) 10 ∧ ∀ x, x < 10 → ((nI m >>> (nI x &&& 31)) &&& 1 = 0 ↔ m.testBit x = false) := by
  have h1 := List.all_eq_true.mp bits_tbl m (List.mem_range.mpr hm)
  simp only [bits_ok, Bool.and_eq_true, beq_iff_eq] at h1
  refine ⟨h1.1, fun x hx => ?_⟩
  have h2 := List.all_eq_true.mp h1.2 x (List.mem_range.mpr hx)
  simp only [beq_iff_eq] at h2
  cases hb : m.testBit x with
  | false => rw [hb] at h2; exact ⟨fun _ => rfl, fun _ => of_decide_eq_true h2⟩
  | true => rw [hb] at h2; exact ⟨fun w => absurd w (of_decide_eq_false h2), fun w => by cases w⟩
theorem cnt_congr {p q : Nat → Bool} : ∀ j, (∀ i, i < j → p i = q i) → sp_cnt p j = sp_cnt q j
  | 0, _ => rfl
  | j + 1, h => by
    show sp_cnt p j + bi (p j) = sp_cnt q j + bi (q j)
    rw [cnt_congr j (fun i hi => h i (by omega)), h j (by omega)]
def okSum (q : QT) : Prop := ∃ w, 1 ≤ w ∧ w ≤ 5 ∧ qWd q = nI w
/-- a pot's glaze goes with its state -/
def okG1 (p : PT) : Prop := qSt p.2.2 = 1 → p.2.1 = none
theorem firep_n {cs : Nat → Int32 × Int32} {gs : Nat → GT} {cone : Int32} {p : PT} (h1 : ¬ qSt p.2.2 = 1) (h3 : ¬ qSt p.2.2 = 3) : sp_firep cs gs cone p = p.2.2 := by
  unfold sp_firep
  split
  · exact fireN_no (fun w => by rcases w with w | w; exact h1 w.1; exact h3 w.1)
  · exact fireG_no (fun w => by rcases w with w | w; exact h1 w.1; exact h3 w.1)
theorem firep_b {cs : Nat → Int32 × Int32} {gs : Nat → GT} {cone : Int32} {p : PT} (h : qSt p.2.2 = 1 ∨ qSt p.2.2 = 3) (ht : 1 ≤ (cs p.1).1) (g : (cs p.1).1 < cone) : sp_firep cs gs cone p = (qWd p.2.2, qHg p.2.2, qWl p.2.2, 5, qWa p.2.2, qCv p.2.2, qSm p.2.2, qMk p.2.2 ||| 4, qSh p.2.2, qCe p.2.2) := by
  have h1 := Int32.le_iff_toInt_le.mp ht
  have h2 := Int32.lt_iff_toInt_lt.mp g
  have e1 : (1 : Int32).toInt = 1 := by decide
  have e2 : (2 : Int32).toInt = 2 := by decide
  have hf : (qSt p.2.2 = 1 ∧ 2 ≤ cone) ∨ (qSt p.2.2 = 3 ∧ 1 ≤ cone) := by
    rcases h with h | h
    · exact Or.inl ⟨h, Int32.le_iff_toInt_le.mpr (by omega)⟩
    · exact Or.inr ⟨h, Int32.le_iff_toInt_le.mpr (by omega)⟩
  unfold sp_firep
  split
  · exact fireN_b hf g
  · exact fireG_b hf g
theorem firep_1 {cs : Nat → Int32 × Int32} {gs : Nat → GT} {cone : Int32} {p : PT} (h : qSt p.2.2 = 1) (hn : p.2.1 = none) (g : ¬ (cs p.1).1 < cone) : sp_firep cs gs cone p = (qWd p.2.2, qHg p.2.2, qWl p.2.2, (if 2 ≤ cone then 2 else 1), qWa p.2.2, qCv p.2.2, qSm p.2.2, qMk p.2.2, qSh p.2.2, qCe p.2.2) := by
  unfold sp_firep
  rw [hn]
  by_cases w : 2 ≤ cone
  · rw [if_pos w]; exact fireN_k (Or.inl ⟨h, w⟩) g
  · rw [if_neg w]
    refine (fireN_no (fun v => by rcases v with v | v; exact w v.2; rw [h] at v; exact absurd v.1 (by decide))).trans ?_
    rw [← h]
theorem firep_3 {cs : Nat → Int32 × Int32} {gs : Nat → GT} {cone : Int32} {p : PT} {g0 : Nat} (h : qSt p.2.2 = 3) (hn : p.2.1 = some g0) (w : 1 ≤ cone) (g : ¬ (cs p.1).1 < cone) : sp_firep cs gs cone p = (qWd p.2.2, qHg p.2.2, qWl p.2.2, 4, qWa p.2.2, qCv p.2.2, qSm p.2.2, qMk p.2.2 ||| sp_marks (sp_melts (gs g0)) (sp_growth (gs g0)) (sp_cg (cs p.1).2) cone, qSh p.2.2, qCe p.2.2) := by
  unfold sp_firep
  rw [hn]
  exact fireG_k (Or.inr ⟨h, w⟩) g
theorem firep_30 {cs : Nat → Int32 × Int32} {gs : Nat → GT} {cone : Int32} {p : PT} (h : qSt p.2.2 = 3) (w : ¬ 1 ≤ cone) : sp_firep cs gs cone p = p.2.2 := by
  have hf : ¬ ((qSt p.2.2 = 1 ∧ 2 ≤ cone) ∨ (qSt p.2.2 = 3 ∧ 1 ≤ cone)) := fun v => by
    rcases v with v | v
    · rw [h] at v; exact absurd v.1 (by decide)
    · exact w v.2
  unfold sp_firep
  split
  · exact fireN_no hf
  · exact fireG_no hf
/-- what is known of the clays -/
def okCl (nC : Nat) (cs : Nat → Int32 × Int32) : Prop := ∀ i, i < nC → 1 ≤ (cs i).1 ∧ 8 ≤ (cs i).2.toInt ∧ (cs i).2.toInt ≤ 40
theorem clr_f {k : KT} (h : sp_worn (kW k) 3 = false) : sp_clr k = (kH k, kP k, kO k, kL k, kA k, kE k, kC k, kF k, kS k, sp_zero (kW k) 3) := by
  rw [sp_clr, h]; rfl
theorem clr_t {k : KT} (h : sp_worn (kW k) 3 = true) : sp_clr k = (kH k, FP.fmul 1065091072 (kP k), kO k, kL k, kA k, kE k, kC k, kF k, kS k, sp_zero (kW k) 3) := by
  rw [sp_clr, h]; rfl
theorem one_le {n : Nat} (h : 1 ≤ n) (h2 : n < 2 ^ 31) : (1 : Int32) ≤ nI n := by
  rw [Int32.le_iff_toInt_le, nI_toInt h2]
  show (1 : Int) ≤ n
  omega
theorem le_60 {n : Nat} (h : n ≤ 60) : nI n ≤ (60 : Int32) := by
  rw [Int32.le_iff_toInt_le, nI_toInt (by omega)]
  show (n : Int) ≤ 60
  omega
