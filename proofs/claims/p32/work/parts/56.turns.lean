/-! WHAT A TURN DOES: water never more, what is broken stays so, pots apart -/
def okw2 (a b : Nat) : Bool := FP.dcmp (FP.f2d (wt a)) (FP.f2d (wt b)) == some (compare a b)
theorem w2_tbl : ((List.range 129).all fun a => (List.range 129).all fun b => okw2 a b) = true := by decide +kernel
theorem w2_at {a b : Nat} (ha : a ≤ 128) (hb : b ≤ 128) : FP.dcmp (FP.f2d (wt a)) (FP.f2d (wt b)) = some (compare a b) := by
  have h1 := List.all_eq_true.mp w2_tbl a (List.mem_range.mpr (by omega))
  have h2 := List.all_eq_true.mp h1 b (List.mem_range.mpr (by omega))
  simpa [okw2] using h2
theorem w2_0 : ∀ a : Fin 129, ¬ FP.dcmp (FP.f2d (wt a.1)) FP.dconst0 = some .lt := by decide +kernel
theorem w2_8 : FP.f2d (wt 128) = 4620693217682128896 := by decide +kernel
theorem wt_128 : (1090519040 : UInt32) = wt 128 := by decide +kernel
/-- one pot, before and behind a turn: water is not more, broken stays broken -/
def wb1 (q q' : QT) : Prop := (∃ n n', n' ≤ n ∧ n ≤ 128 ∧ qWa q = wt n ∧ qWa q' = wt n') ∧ (qSt q = 5 → qSt q' = 5)
theorem wb1.rf {q : QT} (h : okq q) : wb1 q q := by
  obtain ⟨⟨n, hn, e⟩, -⟩ := h
  exact ⟨⟨n, n, Nat.le_refl n, hn, e, e⟩, id⟩
theorem wb1.same {q q' : QT} (h : okq q) (e : qWa q' = qWa q) (s : qSt q = 5 → qSt q' = 5) : wb1 q q' := by
  obtain ⟨⟨n, hn, e1⟩, -⟩ := h
  exact ⟨⟨n, n, Nat.le_refl n, hn, e1, e.trans e1⟩, s⟩
theorem wb1.tr {a b c : QT} (h : wb1 a b) (g : wb1 b c) : wb1 a c := by
  obtain ⟨⟨n, n', l, l2, e1, e2⟩, s1⟩ := h
  obtain ⟨⟨m, m', r, r2, f1, f2⟩, s2⟩ := g
  have key : ∀ x y : Nat, x ≤ 128 → y ≤ 128 → wt x = wt y → x = y := by
    intro x y hx hy e
    have h := w2_at hx hy
    rw [e, w2_at hy hy, Option.some.injEq] at h
    rw [Nat.compare_eq_eq.mpr rfl] at h
    exact Nat.compare_eq_eq.mp h.symm
  have e9 : n' = m := key _ _ (by omega) r2 (e2.symm.trans f1)
  subst e9
  exact ⟨⟨n, m', by omega, l2, e1, f2⟩, fun w => s2 (s1 w)⟩
def wb9 (nP : Nat) (ps ps' : Nat → PT) : Prop := ∀ i, i < nP → wb1 (ps i).2.2 (ps' i).2.2
/-- where it stands, its width -/
def st9 (nP : Nat) (ps ps' : Nat → PT) : Prop := ∀ i, i < nP → qSh (ps' i).2.2 = qSh (ps i).2.2 ∧ qCe (ps' i).2.2 = qCe (ps i).2.2 ∧ qWd (ps' i).2.2 = qWd (ps i).2.2
def wd9 (nP : Nat) (ps ps' : Nat → PT) : Prop := ∀ i, i < nP → qWd (ps' i).2.2 = qWd (ps i).2.2
theorem st9.rf {nP : Nat} {ps : Nat → PT} : st9 nP ps ps := fun i _ => ⟨rfl, rfl, rfl⟩
theorem st9.wd {nP : Nat} {ps ps' : Nat → PT} (h : st9 nP ps ps') : wd9 nP ps ps' := fun i hi => (h i hi).2.2
theorem wb9.rf {nP : Nat} {ps : Nat → PT} (h : ∀ i, i < nP → okq (ps i).2.2) : wb9 nP ps ps := fun i hi => wb1.rf (h i hi)
/-- one pot is another -/
theorem wb9.upd {nP : Nat} {ps : Nat → PT} (h : ∀ i, i < nP → okq (ps i).2.2) {j : Nat} {p : PT} (e : j < nP → wb1 (ps j).2.2 p.2.2) : wb9 nP ps (vf_upd ps j p) := by
  intro i hi
  unfold vf_upd
  split
  · rename_i w; subst w; exact e hi
  · exact wb1.rf (h i hi)
theorem st9.upd {nP : Nat} {ps : Nat → PT} {j : Nat} {p : PT} (e : qSh p.2.2 = qSh (ps j).2.2 ∧ qCe p.2.2 = qCe (ps j).2.2 ∧ qWd p.2.2 = qWd (ps j).2.2) : st9 nP ps (vf_upd ps j p) := by
  intro i hi
  unfold vf_upd
  split
  · rename_i w; subst w; exact e
  · exact ⟨rfl, rfl, rfl⟩
theorem wd9.upd {nP : Nat} {ps : Nat → PT} {j : Nat} {p : PT} (e : qWd p.2.2 = qWd (ps j).2.2) : wd9 nP ps (vf_upd ps j p) := by
  intro i hi
  unfold vf_upd
  split
  · rename_i w; subst w; exact e
  · rfl
/-- each pot is another -/
theorem each9 {nP : Nat} {g : PT → PT} {ps : Nat → PT} {i : Nat} (hi : i < nP) (h14 : nP ≤ 14) : sp_each nP g ps 14 i = g (ps i) := by
  unfold sp_each
  exact if_pos ⟨by omega, hi⟩
theorem lose_wb {air : Int32} {q : QT} (ha : 1 ≤ air ∧ air ≤ 8) (h : okq q) : wb1 q (sp_lose air q) := by
  obtain ⟨-, h2, n, k, hn, hk, hkn, e1, e2⟩ := lose_okq ha h
  unfold sp_lose
  split
  · rename_i w
    refine ⟨⟨n, n - k, by omega, hn, e1, ?_⟩, fun w5 => ?_⟩
    · show FP.fsub (qWa q) (sp_loss9 air q) = _
      rw [e1, e2]
      exact (wt_sub hn hk).2 hkn
    · rw [w.1] at w5; exact absurd w5 (by decide)
  · exact wb1.rf h
theorem dps_all {air : Int32} {nP : Nat} {ps : Nat → PT} (h14 : nP ≤ 14) (ha : 1 ≤ air ∧ air ≤ 8) (h : ∀ i, i < nP → okq (ps i).2.2) : ∀ m, (∀ i, i < nP → okq (sp_dps air nP ps m i).2.2) ∧ wb9 nP ps (sp_dps air nP ps m) ∧ st9 nP ps (sp_dps air nP ps m)
  | 0 => ⟨h, wb9.rf h, st9.rf⟩
  | m + 1 => by
    obtain ⟨a1, a2, a3⟩ := dps_all h14 ha h m
    have e : ∀ i, i < nP → sp_dps air nP ps (m + 1) i = sp_dryp air (sp_dps air nP ps m i) := fun i hi => each9 hi h14
    refine ⟨fun i hi => ?_, fun i hi => ?_, fun i hi => ?_⟩
    · rw [e i hi]; exact (lose_okq ha (a1 i hi)).2.1
    · rw [e i hi]; exact (a2 i hi).tr (lose_wb ha (a1 i hi))
    · rw [e i hi]
      obtain ⟨b1, b2, b3, -⟩ := lose_same (air := air) (q := (sp_dps air nP ps m i).2.2)
      obtain ⟨c1, c2, c3⟩ := a3 i hi
      exact ⟨b1.trans c1, b2.trans c2, b3.trans c3⟩
theorem heatp_same (dm : Int32) (a b : UInt64) (p : PT) : qSh (sp_heatp dm a b p).2.2 = qSh p.2.2 ∧ qCe (sp_heatp dm a b p).2.2 = qCe p.2.2 ∧ qWd (sp_heatp dm a b p).2.2 = qWd p.2.2 ∧ qWa (sp_heatp dm a b p).2.2 = qWa p.2.2 ∧ qWl (sp_heatp dm a b p).2.2 = qWl p.2.2 ∧ (qSt p.2.2 = 5 → qSt (sp_heatp dm a b p).2.2 = 5) := by
  unfold sp_heatp
  split
  · exact ⟨rfl, rfl, rfl, rfl, rfl, id⟩
  · unfold sp_feel
    split
    · exact ⟨rfl, rfl, rfl, rfl, rfl, id⟩
    · split
      · exact ⟨rfl, rfl, rfl, rfl, rfl, fun _ => rfl⟩
      · exact ⟨rfl, rfl, rfl, rfl, rfl, id⟩
theorem bps_all {nR : Nat} {rs : Nat → RT} {k : KT} {dmp : Int32} {nP : Nat} {ps : Nat → PT} (h14 : nP ≤ 14) (h : ∀ i, i < nP → okq (ps i).2.2) : ∀ m, (∀ i, i < nP → okq (sp_bps nR rs k dmp nP ps m i).2.2) ∧ wb9 nP ps (sp_bps nR rs k dmp nP ps m) ∧ st9 nP ps (sp_bps nR rs k dmp nP ps m)
  | 0 => ⟨h, wb9.rf h, st9.rf⟩
  | m + 1 => by
    obtain ⟨a1, a2, a3⟩ := bps_all (nR := nR) (rs := rs) (k := k) (dmp := dmp) h14 h m
    obtain ⟨x, y, e⟩ : ∃ x y, ∀ i, i < nP → sp_bps nR rs k dmp nP ps (m + 1) i = sp_heatp dmp x y (sp_bps nR rs k dmp nP ps m i) := ⟨_, _, fun i hi => each9 hi h14⟩
    have s := fun i => heatp_same dmp x y (sp_bps nR rs k dmp nP ps m i)
    have ok : ∀ i, i < nP → okq (sp_bps nR rs k dmp nP ps (m + 1) i).2.2 := fun i hi => by
      rw [e i hi]
      obtain ⟨s1, s2, s3, s4, s5, s6⟩ := s i
      obtain ⟨⟨n, hn, en⟩, w⟩ := a1 i hi
      exact ⟨⟨n, hn, s4.trans en⟩, by rw [s5]; exact w⟩
    refine ⟨ok, fun i hi => ?_, fun i hi => ?_⟩
    · rw [e i hi]
      obtain ⟨s1, s2, s3, s4, s5, s6⟩ := s i
      exact (a2 i hi).tr (wb1.same (a1 i hi) s4 s6)
    · rw [e i hi]
      obtain ⟨s1, s2, s3, s4, s5, s6⟩ := s i
      obtain ⟨c1, c2, c3⟩ := a3 i hi
      exact ⟨s1.trans c1, s2.trans c2, s3.trans c3⟩
theorem firep_5 {cs : Nat → Int32 × Int32} {gs : Nat → GT} {cone : Int32} {p : PT} (h : qSt p.2.2 = 5) : sp_firep cs gs cone p = p.2.2 := firep_n (by rw [h]; decide) (by rw [h]; decide)
/-- a pot that is fired keeps its water and its width -/
theorem firep_wa {nC nG : Nat} {cs : Nat → Int32 × Int32} {gs : Nat → GT} {cone : Int32} {p : PT} (h : okPt nC nG p) (hc : okCl nC cs) : qWa (sp_firep cs gs cone p) = qWa p.2.2 ∧ qWd (sp_firep cs gs cone p) = qWd p.2.2 := by
  by_cases h1 : qSt p.2.2 = 1
  · by_cases ht : (cs p.1).1 < cone
    · rw [firep_b (Or.inl h1) (hc _ h.1).1 ht]; exact ⟨rfl, rfl⟩
    · rw [firep_1 h1 (h.g1 h1) ht]; exact ⟨rfl, rfl⟩
  · by_cases h3 : qSt p.2.2 = 3
    · by_cases ht : (cs p.1).1 < cone
      · rw [firep_b (Or.inr h3) (hc _ h.1).1 ht]; exact ⟨rfl, rfl⟩
      · by_cases w1 : 1 ≤ cone
        · obtain ⟨g, e⟩ := h.2.2.1 (Or.inl h3)
          rw [firep_3 h3 e w1 ht]; exact ⟨rfl, rfl⟩
        · rw [firep_30 h3 w1]; exact ⟨rfl, rfl⟩
    · rw [firep_n h1 h3]; exact ⟨rfl, rfl⟩
theorem unl_wb {nC nG : Nat} {cs : Nat → Int32 × Int32} {gs : Nat → GT} {k : KT} {p : PT} (h : okPt nC nG p) (hc : okCl nC cs) : wb1 p.2.2 (sp_unl cs gs k p).2.2 ∧ qWd (sp_unl cs gs k p).2.2 = qWd p.2.2 ∧ qSh (sp_unl cs gs k p).2.2 = -1 := by
  unfold sp_unl
  split
  · rename_i w
    exact ⟨wb1.rf h.q, rfl, w⟩
  · obtain ⟨a1, a2⟩ := firep_wa (gs := gs) (cone := sp_ucone k p) h hc
    refine ⟨wb1.same h.q a1 (fun w => ?_), a2, rfl⟩
    show qSt (sp_firep cs gs (sp_ucone k p) p) = 5
    rw [firep_5 w]; exact w
theorem unl_all {nC nG nP : Nat} {cs : Nat → Int32 × Int32} {gs : Nat → GT} {k : KT} {ps : Nat → PT} (h14 : nP ≤ 14) (h : okPs nC nG nP ps) (hc : okCl nC cs) : wb9 nP ps (sp_each nP (sp_unl cs gs k) ps 14) ∧ wd9 nP ps (sp_each nP (sp_unl cs gs k) ps 14) ∧ aps nP (sp_each nP (sp_unl cs gs k) ps 14) := by
  refine ⟨fun i hi => ?_, fun i hi => ?_, aps.off fun i hi => ?_⟩
  · rw [each9 hi h14]; exact (unl_wb (h i hi) hc).1
  · rw [each9 hi h14]; exact (unl_wb (h i hi) hc).2.1
  · rw [each9 hi h14]; exact (unl_wb (h i hi) hc).2.2
/-! what the end asks -/
theorem wh_10 (sums : Int32) : ∀ n, n ≤ 10 → ∃ r, r ≤ 10 ∧ sp_wh sums n = nI r
  | 0, _ => ⟨0, by decide, rfl⟩
  | n + 1, h => by
    unfold sp_wh
    split
    · exact wh_10 sums n (by omega)
    · exact ⟨n + 1, h, rfl⟩
theorem cone_nat (w : UInt64) : ∀ j, ∃ r, r ≤ j ∧ sp_cone w j = nI r
  | 0 => ⟨0, Nat.le_refl 0, rfl⟩
  | j + 1 => by
    obtain ⟨r, h, e⟩ := cone_nat w j
    show ∃ r, r ≤ j + 1 ∧ sp_cone w j + bI _ = nI r
    rcases bI_01 (dge w (FP.i2d (cwC j))) with q | q <;> rw [q, e]
    · exact ⟨r, by omega, Int32.add_zero _⟩
    · exact ⟨r + 1, by omega, nI_1 r⟩
