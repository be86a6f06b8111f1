/-! WATER AND POWER: the few numbers that they can be -/
/-- water: so many sixteenths -/
def wt (n : Nat) : UInt32 := FP.fdiv (FP.i2f (nI n)) 1098907648
/-- what a day takes: so many sixteenths -/
def lk (air wl : Nat) (cv : Bool) : Nat := if cv then air * (8 / wl) / 2 else air * (8 / wl)
theorem loss_tbl : ∀ a : Fin 9, ∀ w : Fin 5, (w.1 = 1 ∨ w.1 = 2 ∨ w.1 = 4) → (sp_loss0 (nI a.1) (nI w.1) false = wt (a.1 * (8 / w.1)) ∧ sp_loss0 (nI a.1) (nI w.1) true = wt (a.1 * (8 / w.1) / 2) ∧ FP.fmul (FP.fdiv (FP.fdiv (FP.i2f (nI a.1)) FP.fconst2) (FP.i2f (nI w.1))) 1056964608 = wt (a.1 * (8 / w.1) / 2) ∧ (FP.fdiv (FP.i2f (nI a.1)) FP.fconst2).toNat % 2 ^ 31 < 2139095040) := by decide +kernel
theorem wt_fin : ∀ n : Fin 129, (wt n.1).toNat % 2 ^ 31 < 2139095040 := by decide +kernel
theorem wt_cmp : ∀ n : Fin 129, (wt n.1).toNat < 2 ^ 31 ∧ FP.fcmp (wt n.1) 1048576000 = some (compare n.1 4) ∧ FP.fcmp (wt n.1) 1069547520 = some (compare n.1 24) ∧ FP.f2l (FP.fmul 1115684864 (wt n.1)) = FP.d2l (FP.dmul 4634204016564240384 (FP.f2d (wt n.1))) := by decide +kernel
def okwt (n k : Nat) : Bool := FP.fcmp (wt n) (wt k) == some (compare n k) && (if k ≤ n then FP.fsub (wt n) (wt k) == wt (n - k) else true)
theorem wt_sub0 : ((List.range 129).all fun n => (List.range 65).all fun k => okwt n k) = true := by decide +kernel
theorem wt_sub {n k : Nat} (hn : n ≤ 128) (hk : k ≤ 64) : FP.fcmp (wt n) (wt k) = some (compare n k) ∧ (k ≤ n → FP.fsub (wt n) (wt k) = wt (n - k)) := by
  have h1 := List.all_eq_true.mp wt_sub0 n (List.mem_range.mpr (by omega))
  have h2 := List.all_eq_true.mp h1 k (List.mem_range.mpr (by omega))
  simp only [okwt, Bool.and_eq_true, beq_iff_eq] at h2
  refine ⟨h2.1, fun w => ?_⟩
  have h3 := h2.2
  rw [if_pos w] at h3
  simpa using h3
theorem wt_n {n : Nat} (h : n ≤ 128) : FP.Core.FFin (wt n) := (FP.Core.fin_bits32 _).mpr (wt_fin ⟨n, by omega⟩)
theorem fn_of {r : UInt32} (h : FP.Core.FFin r) : vf_n32 r := fnn_of h.ne_nan
/-- POWER: 1, and 63/64 of it again and again -/
def pw9 : Nat → UInt32
  | 0 => FP.fconst1
  | j + 1 => FP.fmul 1065091072 (pw9 j)
def okpw (p : UInt32) : Bool := decide (p.toNat % 2 ^ 31 < 2139095040) && (FP.f2l (FP.fmul 1115684864 p) == FP.d2l (FP.dmul 4634204016564240384 (FP.f2d p))) && decide ((FP.fmul 1115684864 p).toNat % 2 ^ 31 < 2139095040)
def chk9 : Nat → UInt32 → Bool
  | 0, p => okpw p
  | n + 1, p => okpw p && chk9 n (FP.fmul 1065091072 p)
theorem chk9_ok : ∀ (n : Nat) (j : Nat), chk9 n (pw9 j) = true → ∀ i, i ≤ n → okpw (pw9 (j + i)) = true
  | 0, j, h, i, hi => by
    obtain rfl : i = 0 := by omega
    exact h
  | n + 1, j, h, i, hi => by
    simp only [chk9, Bool.and_eq_true] at h
    rcases i with _ | i
    · exact h.1
    · rw [show j + (i + 1) = (j + 1) + i by omega]
      exact chk9_ok n (j + 1) h.2 i (by omega)
theorem pw9_tbl : chk9 520 (pw9 0) = true := by decide +kernel
theorem pw9_ok {j : Nat} (hj : j ≤ 520) : FP.Core.FFin (pw9 j) ∧ FP.f2l (FP.fmul 1115684864 (pw9 j)) = FP.d2l (FP.dmul 4634204016564240384 (FP.f2d (pw9 j))) ∧ FP.Core.FFin (FP.fmul 1115684864 (pw9 j)) := by
  have h := chk9_ok 520 0 pw9_tbl j hj
  rw [Nat.zero_add] at h
  simp only [okpw, Bool.and_eq_true, decide_eq_true_eq, beq_iff_eq] at h
  exact ⟨(FP.Core.fin_bits32 _).mpr h.1.1, h.1.2, (FP.Core.fin_bits32 _).mpr h.2⟩
/-- a pot's water: what it can be; its wall -/
def okq (q : QT) : Prop := (∃ n, n ≤ 128 ∧ qWa q = wt n) ∧ (qWl q = 1 ∨ qWl q = 2 ∨ qWl q = 4)
theorem air_nat {air : Int32} (h : 1 ≤ air ∧ air ≤ 8) : ∃ a : Nat, 1 ≤ a ∧ a ≤ 8 ∧ air = nI a := by
  have a1 := Int32.le_iff_toInt_le.mp h.1
  have a2 := Int32.le_iff_toInt_le.mp h.2
  have e1 : (1 : Int32).toInt = 1 := rfl
  have e2 : (8 : Int32).toInt = 8 := rfl
  obtain ⟨m, hm, rfl⟩ := nI_i (N := 9) (x := air) (by omega) (by omega)
  rw [nI_toInt (by omega)] at a1
  exact ⟨m, by omega, by omega, rfl⟩
theorem wall_nat {w : Int32} (h : w = 1 ∨ w = 2 ∨ w = 4) : ∃ a : Nat, (a = 1 ∨ a = 2 ∨ a = 4) ∧ w = nI a := by
  rcases h with rfl | rfl | rfl
  · exact ⟨1, Or.inl rfl, rfl⟩
  · exact ⟨2, Or.inr (Or.inl rfl), rfl⟩
  · exact ⟨4, Or.inr (Or.inr rfl), rfl⟩
/-- what a day takes, by its number -/
theorem loss_nat {air : Int32} {q : QT} (ha : 1 ≤ air ∧ air ≤ 8) (hq : okq q) : ∃ n k : Nat, n ≤ 128 ∧ k ≤ 64 ∧ qWa q = wt n ∧ sp_loss0 air (qWl q) (qCv q) = wt k ∧ (qCv q = true → FP.fmul (FP.fdiv (FP.fdiv (FP.i2f air) FP.fconst2) (FP.i2f (qWl q))) 1056964608 = wt k) ∧ (qCv q = false → FP.fdiv (FP.fdiv (FP.i2f air) FP.fconst2) (FP.i2f (qWl q)) = wt k) ∧ (∃ k2, k2 ≤ 64 ∧ FP.fdiv (FP.fdiv (FP.i2f air) FP.fconst2) (FP.i2f (qWl q)) = wt k2) ∧ vf_n32 (FP.fdiv (FP.i2f air) FP.fconst2) := by
  obtain ⟨⟨n, hn, e1⟩, hw⟩ := hq
  obtain ⟨a, a1, a2, rfl⟩ := air_nat ha
  obtain ⟨w, w1, e2⟩ := wall_nat hw
  obtain ⟨t1, t2, t3, t4⟩ := loss_tbl ⟨a, by omega⟩ ⟨w, by omega⟩ w1
  have b1 : a * (8 / w) ≤ 64 := by rcases w1 with rfl | rfl | rfl <;> simp <;> omega
  have f0 : sp_loss0 (nI a) (nI w) false = FP.fdiv (FP.fdiv (FP.i2f (nI a)) FP.fconst2) (FP.i2f (nI w)) := by unfold sp_loss0; simp
  have t4 := fn_of ((FP.Core.fin_bits32 _).mpr t4)
  dsimp only at t1 t2 t3 t4
  rw [f0] at t1
  rw [e2]
  cases hc : qCv q with
  | false => exact ⟨n, a * (8 / w), hn, b1, e1, (by rw [f0]; exact t1), fun h => (by cases h), fun _ => t1, ⟨_, b1, t1⟩, t4⟩
  | true => exact ⟨n, a * (8 / w) / 2, hn, by omega, e1, t2, fun _ => t3, fun h => (by cases h), ⟨_, b1, t1⟩, t4⟩
/-- the least of two, of floats -/
theorem pk_fmin {n k : Nat} (hn : n ≤ 128) (hk : k ≤ 64) : Native.java_lang_Math.nans.pick32 false (wt n) (wt k) = if fgt (wt k) (wt n) then wt n else wt k := by
  have h1 := (wt_sub hn hk).1
  have key : fgt (wt k) (wt n) ↔ n < k := by
    have h2 : FP.fcmp (wt k) (wt n) = some (compare k n) := by
      by_cases w : n ≤ 64
      · exact (wt_sub (by omega) w).1
      · have a1 := (FP.Core.fcmp_gt (a := wt n) (b := wt k)).mp (by rw [show FP.Core.fcmp (wt n) (wt k) = some (compare n k) from h1, Nat.compare_eq_gt.mpr (by omega)])
        rw [Nat.compare_eq_lt.mpr (show k < n by omega)]
        exact FP.Core.fcmp_lt.mpr ⟨a1.2.1, a1.1, a1.2.2⟩
    show FP.fcmp (wt k) (wt n) = some .gt ↔ _
    rw [h2, Option.some.injEq, Nat.compare_eq_gt]
  unfold Native.java_lang_Math.nans.pick32
  rw [h1]
  rcases Nat.lt_trichotomy n k with w | w | w
  · rw [Nat.compare_eq_lt.mpr w, if_pos (key.mpr w)]; rfl
  · subst w
    rw [Nat.compare_eq_eq.mpr rfl, if_neg (fun v => absurd (key.mp v) (by omega))]
    dsimp only
    split <;> rfl
  · rw [Nat.compare_eq_gt.mpr w, if_neg (fun v => absurd (key.mp v) (by omega))]; rfl
/-- a day's loss keeps what a pot's water can be, and makes no NaN -/
theorem lose_okq {air : Int32} {q : QT} (ha : 1 ≤ air ∧ air ≤ 8) (hq : okq q) : lossN air q ∧ okq (sp_lose air q) ∧ (∃ n k, n ≤ 128 ∧ k ≤ 64 ∧ k ≤ n ∧ qWa q = wt n ∧ sp_loss9 air q = wt k) := by
  obtain ⟨n, k, hn, hk, e1, e2, e3, e4, ⟨k2, hk2, e5⟩, e6⟩ := loss_nat ha hq
  have h1 := (wt_sub hn hk).1
  have l9 : ∃ k', k' ≤ 64 ∧ k' ≤ n ∧ sp_loss9 air q = wt k' := by
    unfold sp_loss9
    rw [e2, e1]
    by_cases w : fgt (wt k) (wt n)
    · rw [if_pos w]
      have a1 := FP.Core.fcmp_gt.mp w
      have a2 : FP.Core.fcmp (wt n) (wt k) = some .lt := FP.Core.fcmp_lt.mpr ⟨a1.2.1, a1.1, a1.2.2⟩
      rw [show FP.Core.fcmp (wt n) (wt k) = some (compare n k) from h1, Option.some.injEq, Nat.compare_eq_lt] at a2
      exact ⟨n, by omega, Nat.le_refl n, rfl⟩
    · rw [if_neg w]
      refine ⟨k, hk, Nat.not_lt.mp (fun v => w ?_), rfl⟩
      have a2 : FP.Core.fcmp (wt n) (wt k) = some .lt := by rw [show FP.Core.fcmp (wt n) (wt k) = some (compare n k) from h1, Nat.compare_eq_lt.mpr v]
      have a1 := FP.Core.fcmp_lt.mp a2
      exact FP.Core.fcmp_gt.mpr ⟨a1.2.1, a1.1, a1.2.2⟩
  obtain ⟨k', b1, b2, b3⟩ := l9
  have sb : FP.fsub (qWa q) (sp_loss9 air q) = wt (n - k') := by rw [e1, b3]; exact (wt_sub hn b1).2 b2
  refine ⟨⟨e6, by rw [e5]; exact fn_of (wt_n (by omega)), ?_, by rw [sb]; exact fn_of (wt_n (by omega))⟩, ?_, n, k', hn, b1, b2, e1, b3⟩
  · obtain ⟨a, a1, a2, rfl⟩ := air_nat ha
    obtain ⟨w, w1, e7⟩ := wall_nat hq.2
    obtain ⟨t1, t2, t3, t4⟩ := loss_tbl ⟨a, by omega⟩ ⟨w, by omega⟩ w1
    have b1 : a * (8 / w) ≤ 64 := by rcases w1 with rfl | rfl | rfl <;> simp <;> omega
    rw [e7]
    have f0 : sp_loss0 (nI a) (nI w) true = FP.fdiv (FP.fdiv (FP.fdiv (FP.i2f (nI a)) FP.fconst2) (FP.i2f (nI w))) FP.fconst2 := by unfold sp_loss0; simp
    rw [← f0, t2]
    exact fn_of (wt_n (by dsimp only; omega))
  · unfold sp_lose
    split
    · exact ⟨⟨n - k', by omega, sb⟩, hq.2⟩
    · exact hq
