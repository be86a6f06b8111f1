/-! POTS STAND APART: the cells of a shelf, counted -/
def pcN (m : Nat) : Nat → Nat
  | 0 => 0
  | j + 1 => pcN m j + (if m.testBit j then 1 else 0)
theorem pcN_le (m : Nat) : ∀ j, pcN m j ≤ j
  | 0 => Nat.le_refl 0
  | j + 1 => by
    have := pcN_le m j
    show pcN m j + _ ≤ j + 1
    split <;> omega
theorem pcN_or {a b : Nat} (h : a &&& b = 0) : ∀ j, pcN (a ||| b) j = pcN a j + pcN b j
  | 0 => rfl
  | j + 1 => by
    have hb : (a &&& b).testBit j = false := by rw [h, Nat.zero_testBit]
    rw [Nat.testBit_and] at hb
    show pcN (a ||| b) j + (if (a ||| b).testBit j then 1 else 0) = pcN a j + (if a.testBit j then 1 else 0) + (pcN b j + (if b.testBit j then 1 else 0))
    rw [pcN_or h j, Nat.testBit_or]
    cases ha : a.testBit j <;> cases hc : b.testBit j
    · simp
    · simp; omega
    · simp; omega
    · rw [ha, hc] at hb; cases hb
def pc_ok (m : Nat) : Bool := sp_bc (nI m) == nI (pcN m 10) && decide ((sp_lr (nI m) 10).1 ≤ 10 - sp_bc (nI m))
theorem pc_tbl : ((List.range 1024).all pc_ok) = true := by decide +kernel
theorem pc_at {m : Nat} (hm : m < 1024) : sp_bc (nI m) = nI (pcN m 10) ∧ (sp_lr (nI m) 10).1 ≤ 10 - sp_bc (nI m) := by
  have h1 := List.all_eq_true.mp pc_tbl m (List.mem_range.mpr hm)
  simp only [pc_ok, Bool.and_eq_true, beq_iff_eq, decide_eq_true_eq] at h1
  exact h1
theorem cf_pc : ∀ c : Fin 10, ∀ w : Fin 6, 1 ≤ w.1 → c.1 + w.1 ≤ 10 → 1 ≤ pcN (cfN c.1 w.1) 10 := by decide +kernel
theorem fr_tbl : ∀ p : Fin 11, ∀ n : Fin 11, n.1 ≤ p.1 → (10 - nI p.1 + nI n.1 : Int32) ≤ 10 := by decide +kernel
theorem bt9 {a b : Nat} (h : a &&& b = 0) (i : Nat) : a.testBit i = true → b.testBit i = true → False := fun x y => by
  have : (a &&& b).testBit i = false := by rw [h, Nat.zero_testBit]
  rw [Nat.testBit_and, x, y] at this
  cases this
theorem bs9 {a b : Nat} (h : a &&& b = b) (i : Nat) : b.testBit i = true → a.testBit i = true := fun y => by
  have : (a &&& b).testBit i = b.testBit i := by rw [h]
  rw [Nat.testBit_and, y, Bool.and_true] at this
  exact this
theorem or_and0 {a b y : Nat} (h1 : a &&& y = 0) (h2 : b &&& y = 0) : (a ||| b) &&& y = 0 := by
  apply Nat.eq_of_testBit_eq
  intro i
  rw [Nat.testBit_and, Nat.testBit_or, Nat.zero_testBit]
  have q1 := bt9 h1 i
  have q2 := bt9 h2 i
  cases ha : a.testBit i <;> cases hb : b.testBit i <;> cases hy : y.testBit i <;> first | rfl | exact (q1 ha hy).elim | exact (q2 hb hy).elim
theorem sub_or {a b y : Nat} (h : a &&& y = y) : (a ||| b) &&& y = y := by
  apply Nat.eq_of_testBit_eq
  intro i
  rw [Nat.testBit_and, Nat.testBit_or]
  have q := bs9 h i
  cases hy : y.testBit i
  · rw [Bool.and_false]
  · rw [q hy]; rfl
theorem sub_or2 {a y : Nat} : (a ||| y) &&& y = y := by
  apply Nat.eq_of_testBit_eq
  intro i
  rw [Nat.testBit_and, Nat.testBit_or]
  cases hy : y.testBit i <;> cases ha : a.testBit i <;> rfl
theorem and_sub0 {m x y : Nat} (h : m &&& x = x) (h2 : m &&& y = 0) : x &&& y = 0 := by
  apply Nat.eq_of_testBit_eq
  intro i
  rw [Nat.testBit_and, Nat.zero_testBit]
  have q := bs9 h i
  have q2 := bt9 h2 i
  cases hx : x.testBit i
  · rfl
  · cases hy : y.testBit i
    · rfl
    · exact (q2 (q hx) hy).elim
theorem and0_nI {a b : Nat} (ha : a < 1024) : nI a &&& nI b = 0 ↔ a &&& b = 0 := by
  have lt : a &&& b < 2 ^ 31 := Nat.lt_of_le_of_lt Nat.and_le_left (by omega)
  rw [nI_and, nI_is0 lt]
/-- a pot's cells -/
abbrev sp_mk (p : PT) : Int32 := sp_cf (qCe p.2.2) (qWd p.2.2)
/-- no two pots of a shelf take one cell -/
def aps (nP : Nat) (ps : Nat → PT) : Prop := ∀ i j, i < nP → j < nP → i ≠ j → ¬ qSh (ps i).2.2 = -1 → qSh (ps i).2.2 = qSh (ps j).2.2 → sp_mk (ps i) &&& sp_mk (ps j) = 0
theorem mk_nat {p : PT} (h : okCe p.2.2) (hs : ¬ qSh p.2.2 = -1) : ∃ m, m < 1024 ∧ sp_mk p = nI m ∧ 1 ≤ pcN m 10 := by
  obtain ⟨c, w, w1, w2, w3, e1, e2⟩ := h hs
  obtain ⟨t1, t2, -⟩ := cf_tbl ⟨c, by omega⟩ ⟨w, by omega⟩ w1 w3
  exact ⟨cfN c w, t2, by show sp_cf (qCe p.2.2) (qWd p.2.2) = _; rw [e1, e2]; exact t1, cf_pc ⟨c, by omega⟩ ⟨w, by omega⟩ w1 w3⟩
theorem tk9 {nP : Nat} {ps : Nat → PT} {v : Int32} (hv : ¬ v = -1) (hC : ∀ i, i < nP → okCe (ps i).2.2) (hA : aps nP ps) : ∀ j, ∃ m n, m < 1024 ∧ n ≤ pcN m 10 ∧ sp_tk nP ps v j = nI m ∧ sp_cnt (fun i => decide (i < nP ∧ qSh (ps i).2.2 = v)) j = nI n ∧ (∀ i, i < nP → j ≤ i → qSh (ps i).2.2 = v → nI m &&& sp_mk (ps i) = 0) ∧ (∀ i, i < nP → i < j → qSh (ps i).2.2 = v → ∃ x, x < 1024 ∧ sp_mk (ps i) = nI x ∧ m &&& x = x)
  | 0 => ⟨0, 0, by decide, Nat.zero_le _, rfl, rfl, fun i hi _ hs => by
      obtain ⟨x, hx, e, _⟩ := mk_nat (hC i hi) (by rw [hs]; exact hv)
      rw [e, nI_and, Nat.zero_and]; rfl, fun i _ h => absurd h (Nat.not_lt_zero i)⟩
  | j + 1 => by
    obtain ⟨m, n, h1, h2, h3, h4, h5, h6⟩ := tk9 hv hC hA j
    by_cases hj : j < nP ∧ qSh (ps j).2.2 = v
    · obtain ⟨x, hx, ex, px⟩ := mk_nat (hC j hj.1) (by rw [hj.2]; exact hv)
      have d : m &&& x = 0 := (and0_nI h1).mp (by rw [← ex]; exact h5 j hj.1 (Nat.le_refl j) hj.2)
      refine ⟨m ||| x, n + 1, Nat.or_lt_two_pow (n := 10) h1 hx, by rw [pcN_or d]; omega, ?_, ?_, fun i hi hji hs => ?_, fun i hi hij hs => ?_⟩
      · rw [← tk_t hj.1 hj.2, h3]
        show nI m ||| sp_mk (ps j) = _
        rw [ex, nI_or]
      · show sp_cnt _ j + bi (decide (j < nP ∧ qSh (ps j).2.2 = v)) = nI (n + 1)
        rw [h4, decide_eq_true hj]
        exact nI_1 n
      · obtain ⟨y, hy, ey, _⟩ := mk_nat (hC i hi) (by rw [hs]; exact hv)
        have a1 : m &&& y = 0 := (and0_nI h1).mp (by rw [← ey]; exact h5 i hi (by omega) hs)
        have a2 : x &&& y = 0 := (and0_nI hx).mp (by rw [← ey, ← ex]; exact hA j i hj.1 hi (by omega) (by rw [hj.2]; exact hv) (by rw [hj.2, hs]))
        rw [ey]
        exact (and0_nI (Nat.or_lt_two_pow (n := 10) h1 hx)).mpr (or_and0 a1 a2)
      · by_cases e : i = j
        · subst e
          exact ⟨x, hx, ex, sub_or2⟩
        · obtain ⟨y, hy, ey, sy⟩ := h6 i hi (by omega) hs
          exact ⟨y, hy, ey, sub_or sy⟩
    · refine ⟨m, n, h1, h2, by rw [← tk_f hj]; exact h3, ?_, fun i hi hji hs => h5 i hi (by omega) hs, fun i hi hij hs => ?_⟩
      · show sp_cnt _ j + bi (decide (j < nP ∧ qSh (ps j).2.2 = v)) = nI n
        rw [h4, decide_eq_false hj]
        exact Int32.add_zero _
      · by_cases e : i = j
        · subst e; exact absurd ⟨hi, hs⟩ hj
        · exact h6 i hi (by omega) hs
theorem nI_m1 {s : Nat} (h : s < 3) : ¬ nI s = -1 := by
  rcases (show s = 0 ∨ s = 1 ∨ s = 2 by omega) with rfl | rfl | rfl <;> decide
/-- what is free, and the pots, are ten at most -/
theorem ap_free {nP : Nat} {ps : Nat → PT} {s : Nat} (hs : s < 3) (hC : ∀ i, i < nP → okCe (ps i).2.2) (hA : aps nP ps) : 10 - sp_bc (sp_tk nP ps (nI s) 14) + sp_cnt (fun i => decide (i < nP ∧ qSh (ps i).2.2 = nI s)) 14 ≤ 10 := by
  obtain ⟨m, n, h1, h2, h3, h4, -⟩ := tk9 (nI_m1 hs) hC hA 14
  have l := pcN_le m 10
  rw [h3, h4, (pc_at h1).1]
  exact fr_tbl ⟨pcN m 10, by omega⟩ ⟨n, by omega⟩ h2
theorem ap_row {nP : Nat} {ps : Nat → PT} {s : Nat} (hs : s < 3) (hC : ∀ i, i < nP → okCe (ps i).2.2) (hA : aps nP ps) : (sp_lr (sp_tk nP ps (nI s) 14) 10).1 ≤ 10 - sp_bc (sp_tk nP ps (nI s) 14) := by
  obtain ⟨m, n, h1, h2, h3, h4, -⟩ := tk9 (nI_m1 hs) hC hA 14
  rw [h3]
  exact (pc_at h1).2
theorem ap_cnt {ps : Nat → PT} {v : Int32} : sp_cnt (fun i => decide (i < 10 ∧ qSh (ps i).2.2 = v)) 14 = sp_cnt (fun i => decide (i < 10 ∧ qSh (ps i).2.2 = v)) 10 := by
  have f : ∀ i, 10 ≤ i → bi (decide (i < 10 ∧ qSh (ps i).2.2 = v)) = 0 := fun i hi => by rw [decide_eq_false (fun w => absurd w.1 (by omega))]; rfl
  show sp_cnt _ 10 + bi _ + bi _ + bi _ + bi _ = _
  rw [f 10 (by omega), f 11 (by omega), f 12 (by omega), f 13 (by omega), Int32.add_zero, Int32.add_zero, Int32.add_zero, Int32.add_zero]
/-- the pot at hand against those ahead of it -/
theorem ap_at {nP : Nat} {ps : Nat → PT} {s j : Nat} (hs : s < 3) (hC : ∀ i, i < nP → okCe (ps i).2.2) (hA : aps nP ps) (hj : j < nP) (e : qSh (ps j).2.2 = nI s) : sp_tk nP ps (nI s) j &&& sp_mk (ps j) = 0 ∧ sp_mk (ps j) ≤ 1023 := by
  obtain ⟨m, n, h1, h2, h3, h4, h5, -⟩ := tk9 (nI_m1 hs) hC hA j
  refine ⟨by rw [h3]; exact h5 j hj (Nat.le_refl j) e, ?_⟩
  obtain ⟨x, hx, ex, -⟩ := mk_nat (hC j hj) (by rw [e]; exact nI_m1 hs)
  rw [ex, Int32.le_iff_toInt_le, nI_toInt (by omega)]
  show (x : Int) ≤ 1023
  omega
/-! what keeps it -/
theorem aps.congr {nP : Nat} {ps ps' : Nat → PT} (h : aps nP ps) (e : ∀ i, i < nP → qSh (ps' i).2.2 = qSh (ps i).2.2 ∧ qCe (ps' i).2.2 = qCe (ps i).2.2 ∧ qWd (ps' i).2.2 = qWd (ps i).2.2) : aps nP ps' := by
  intro i j hi hj n a b
  obtain ⟨e1, e2, e3⟩ := e i hi
  obtain ⟨f1, f2, f3⟩ := e j hj
  rw [e1] at a b
  rw [f1] at b
  show sp_cf _ _ &&& sp_cf _ _ = 0
  rw [e2, e3, f2, f3]
  exact h i j hi hj n a b
theorem and_comm9 (a b : Int32) : a &&& b = b &&& a := Int32.toBitVec_inj.mp (BitVec.and_comm ..)
/-- a pot is set -/
theorem aps.set {nP : Nat} {ps : Nat → PT} (hn : nP ≤ 14) (h : aps nP ps) (hC : ∀ i, i < nP → okCe (ps i).2.2) {j s : Nat} {ce : Int32} (hj : j < nP) (hs : s < 3) (h0 : qSh (ps j).2.2 = -1) (hf : sp_tk nP ps (nI s) 14 &&& sp_cf ce (qWd (ps j).2.2) = 0) (hce : ∃ x, x < 1024 ∧ sp_cf ce (qWd (ps j).2.2) = nI x) : aps nP (vf_upd ps j (sp_setp (nI s) ce (ps j))) := by
  obtain ⟨x, hx, ex⟩ := hce
  obtain ⟨m, n, h1, h2, h3, h4, -, h6⟩ := tk9 (nI_m1 hs) hC h 14
  have one : ∀ i, i < nP → i ≠ j → qSh (ps i).2.2 = nI s → sp_mk (ps i) &&& sp_cf ce (qWd (ps j).2.2) = 0 := by
    intro i hi n e
    obtain ⟨y, hy, ey, sy⟩ := h6 i hi (by omega) e
    rw [h3, ex] at hf
    have f := (and0_nI h1).mp hf
    rw [ey, ex]
    exact (and0_nI hy).mpr (and_sub0 sy f)
  intro i k hi hk n a b
  by_cases ei : i = j
  · subst ei
    have ek : k ≠ i := fun w => n w.symm
    simp only [vf_upd, if_true, if_neg ek] at a b ⊢
    show sp_cf ce (qWd (ps i).2.2) &&& sp_mk (ps k) = 0
    rw [and_comm9]
    exact one k hk ek b.symm
  · by_cases ek : k = j
    · subst ek
      simp only [vf_upd, if_true, if_neg ei] at a b ⊢
      exact one i hi ei b
    · simp only [vf_upd, if_neg ei, if_neg ek] at a b ⊢
      exact h i k hi hk n a b
theorem aps.off {nP : Nat} {ps : Nat → PT} (h : ∀ i, i < nP → qSh (ps i).2.2 = -1) : aps nP ps := fun i _ hi _ _ a _ => absurd (h i hi) a
