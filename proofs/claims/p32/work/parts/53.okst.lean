/-! WHAT STANDS FAST OF A YARD -/
/-- a pot: its clay, its glaze with its state, where it stands, its width, its water -/
def okPt (nC nG : Nat) (p : PT) : Prop := p.1 < nC ∧ (∀ g, p.2.1 = some g → g < nG) ∧ (qSt p.2.2 = 3 ∨ qSt p.2.2 = 4 ∨ qSt p.2.2 = 6 → ∃ g, p.2.1 = some g) ∧ (qSt p.2.2 = 0 ∨ qSt p.2.2 = 1 ∨ qSt p.2.2 = 2 → p.2.1 = none) ∧ okSh p.2.2 ∧ okCe p.2.2 ∧ okSum p.2.2 ∧ okq p.2.2
theorem okPt.gl {nC nG : Nat} {p : PT} (h : okPt nC nG p) : okGl nG p := ⟨h.2.1, h.2.2.1⟩
theorem okPt.g1 {nC nG : Nat} {p : PT} (h : okPt nC nG p) : okG1 p := fun w => h.2.2.2.1 (Or.inr (Or.inl w))
theorem okPt.sh {nC nG : Nat} {p : PT} (h : okPt nC nG p) : okSh p.2.2 := h.2.2.2.2.1
theorem okPt.ce {nC nG : Nat} {p : PT} (h : okPt nC nG p) : okCe p.2.2 := h.2.2.2.2.2.1
theorem okPt.sum {nC nG : Nat} {p : PT} (h : okPt nC nG p) : okSum p.2.2 := h.2.2.2.2.2.2.1
theorem okPt.q {nC nG : Nat} {p : PT} (h : okPt nC nG p) : okq p.2.2 := h.2.2.2.2.2.2.2
theorem okPt.wd {nC nG : Nat} {p : PT} (h : okPt nC nG p) : ∃ w, (1 ≤ w ∧ w ≤ 5) ∧ qWd p.2.2 = nI w := by
  obtain ⟨w, a, b, e⟩ := h.sum
  exact ⟨w, ⟨a, b⟩, e⟩
theorem okPt.wall {nC nG : Nat} {p : PT} (h : okPt nC nG p) : dN (FP.ddiv 4638707616191610880 (FP.i2d (qWl p.2.2))) := by
  rcases h.q.2 with e | e | e <;> rw [e] <;> exact dN_of (by decide +kernel)
theorem okPt.more {nC nG nC' nG' : Nat} {p : PT} (h : okPt nC nG p) (a : nC ≤ nC') (b : nG ≤ nG') : okPt nC' nG' p := ⟨Nat.lt_of_lt_of_le h.1 a, fun g e => Nat.lt_of_lt_of_le (h.2.1 g e) b, h.2.2⟩
/-- its state changed, and what nothing hangs on -/
theorem okPt.st {nC nG : Nat} {p : PT} (h : okPt nC nG p) {st sm mk : Int32} {cv : Bool} (h1 : st = 3 ∨ st = 4 ∨ st = 6 → qSt p.2.2 = 3 ∨ qSt p.2.2 = 4 ∨ qSt p.2.2 = 6) (h2 : st = 0 ∨ st = 1 ∨ st = 2 → qSt p.2.2 = 0 ∨ qSt p.2.2 = 1 ∨ qSt p.2.2 = 2) : okPt nC nG (p.1, p.2.1, (qWd p.2.2, qHg p.2.2, qWl p.2.2, st, qWa p.2.2, cv, sm, mk, qSh p.2.2, qCe p.2.2)) := by
  obtain ⟨a1, a2, a3, a4, a5, a6, a7, a8⟩ := h
  exact ⟨a1, a2, fun w => a3 (h1 w), fun w => a4 (h2 w), a5, a6, a7, a8⟩
theorem okPt.cvr {nC nG : Nat} {p : PT} (h : okPt nC nG p) (b : Bool) : okPt nC nG (sp_cvr b p) := h.st id id
theorem okPt.lvd {nC nG : Nat} {p : PT} (h : okPt nC nG p) : okPt nC nG (sp_lvd p) := by
  obtain ⟨a1, a2, a3, a4, a5, a6, a7, a8⟩ := h
  exact ⟨a1, a2, a3, a4, Or.inl rfl, fun w => absurd rfl w, a7, a8⟩
theorem okPt.setp {nC nG : Nat} {p : PT} (h : okPt nC nG p) {s c w : Nat} (hs : s < 3) (w1 : 1 ≤ w) (w2 : w ≤ 5) (w3 : c + w ≤ 10) (e : qWd p.2.2 = nI w) : okPt nC nG (sp_setp (nI s) (nI c) p) := by
  obtain ⟨a1, a2, a3, a4, a5, a6, a7, a8⟩ := h
  exact ⟨a1, a2, a3, a4, Or.inr ⟨s, hs, rfl⟩, fun _ => ⟨c, w, w1, w2, w3, rfl, e⟩, a7, a8⟩
theorem okPt.dipp {nC nG : Nat} {p : PT} (h : okPt nC nG p) {g : Nat} (hg : g < nG) : okPt nC nG (sp_dipp g p) := by
  obtain ⟨a1, a2, a3, a4, a5, a6, a7, a8⟩ := h
  exact ⟨a1, fun g' e => by cases e; exact hg, fun _ => ⟨g, rfl⟩, fun w => by rcases (show (3 : Int32) = 0 ∨ (3 : Int32) = 1 ∨ (3 : Int32) = 2 from w) with w | w | w <;> exact absurd w (by decide), a5, a6, a7, a8⟩
theorem okPt.sold {nC nG : Nat} {p : PT} (h : okPt nC nG p) (h4 : qSt p.2.2 = 4) : okPt nC nG (sp_soldp p) := h.st (fun _ => Or.inr (Or.inl h4)) (fun w => by rcases w with w | w | w <;> exact absurd w (by decide))
theorem lose_same {air : Int32} {q : QT} : qSh (sp_lose air q) = qSh q ∧ qCe (sp_lose air q) = qCe q ∧ qWd (sp_lose air q) = qWd q ∧ (qSt (sp_lose air q) = qSt q ∨ (qSt q = 0 ∧ qSt (sp_lose air q) = 1)) := by
  unfold sp_lose
  split
  · rename_i h
    refine ⟨rfl, rfl, rfl, ?_⟩
    show (if _ then (1 : Int32) else qSt q) = qSt q ∨ _
    split
    · exact Or.inr ⟨h.1, rfl⟩
    · exact Or.inl rfl
  · exact ⟨rfl, rfl, rfl, Or.inl rfl⟩
theorem okPt.dryp {nC nG : Nat} {p : PT} (h : okPt nC nG p) {air : Int32} (ha : 1 ≤ air ∧ air ≤ 8) : okPt nC nG (sp_dryp air p) := by
  have hq := (lose_okq ha h.q).2.1
  obtain ⟨a1, a2, a3, a4, a5, a6, a7, a8⟩ := h
  obtain ⟨b1, b2, b3, b4⟩ := lose_same (air := air) (q := p.2.2)
  refine ⟨a1, a2, ?_, ?_, ?_, ?_, ?_, hq⟩
  · intro w
    rcases b4 with b4 | ⟨-, b4⟩
    · exact a3 (by rw [← b4]; exact w)
    · have w : qSt (sp_lose air p.2.2) = 3 ∨ qSt (sp_lose air p.2.2) = 4 ∨ qSt (sp_lose air p.2.2) = 6 := w
      rw [b4] at w; rcases w with w | w | w <;> exact absurd w (by decide)
  · intro w
    rcases b4 with b4 | ⟨b0, -⟩
    · exact a4 (by rw [← b4]; exact w)
    · exact a4 (Or.inl b0)
  · show okSh (sp_lose air p.2.2)
    unfold okSh; rw [b1]; exact a5
  · show okCe (sp_lose air p.2.2)
    unfold okCe; rw [b1, b2, b3]; exact a6
  · show okSum (sp_lose air p.2.2)
    unfold okSum; rw [b3]; exact a7
theorem okPt.heatp {nC nG : Nat} {p : PT} (h : okPt nC nG p) (dm : Int32) (a b : UInt64) : okPt nC nG (sp_heatp dm a b p) := by
  unfold sp_heatp
  split
  · exact h
  · unfold sp_feel
    split
    · exact h
    · split
      · exact h.st (fun w => by rcases w with w | w | w <;> exact absurd w (by decide)) (fun w => by rcases w with w | w | w <;> exact absurd w (by decide))
      · exact h.st id id
theorem okPt.fire {nC nG : Nat} {p : PT} (h : okPt nC nG p) {cs : Nat → Int32 × Int32} {gs : Nat → GT} {cone : Int32} (hc : okCl nC cs) : okPt nC nG (p.1, p.2.1, sp_firep cs gs cone p) := by
  have no5 : ∀ {A : Prop}, ((5 : Int32) = 3 ∨ (5 : Int32) = 4 ∨ (5 : Int32) = 6) → A := fun w => by rcases w with w | w | w <;> exact absurd w (by decide)
  have no50 : ∀ {A : Prop}, ((5 : Int32) = 0 ∨ (5 : Int32) = 1 ∨ (5 : Int32) = 2) → A := fun w => by rcases w with w | w | w <;> exact absurd w (by decide)
  by_cases h1 : qSt p.2.2 = 1
  · by_cases ht : (cs p.1).1 < cone
    · rw [firep_b (Or.inl h1) (hc _ h.1).1 ht]
      exact h.st (fun w => no5 w) (fun w => no50 w)
    · rw [firep_1 h1 (h.g1 h1) ht]
      refine h.st (fun w => ?_) (fun _ => Or.inr (Or.inl h1))
      exfalso
      revert w
      split <;> decide
  · by_cases h3 : qSt p.2.2 = 3
    · by_cases ht : (cs p.1).1 < cone
      · rw [firep_b (Or.inr h3) (hc _ h.1).1 ht]
        exact h.st (fun w => no5 w) (fun w => no50 w)
      · by_cases w1 : 1 ≤ cone
        · obtain ⟨g, e⟩ := h.2.2.1 (Or.inl h3)
          rw [firep_3 h3 e w1 ht]
          exact h.st (fun _ => Or.inl h3) (fun w => by rcases w with w | w | w <;> exact absurd w (by decide))
        · rw [firep_30 h3 w1]; exact h
    · rw [firep_n h1 h3]; exact h
theorem okPt.unl {nC nG : Nat} {p : PT} (h : okPt nC nG p) {cs : Nat → Int32 × Int32} {gs : Nat → GT} {k : KT} (hc : okCl nC cs) : okPt nC nG (sp_unl cs gs k p) := by
  unfold sp_unl
  split
  · exact h
  · exact (h.fire hc).lvd
def okPs (nC nG nP : Nat) (ps : Nat → PT) : Prop := ∀ i, i < nP → okPt nC nG (ps i)
theorem okPs.upd9 {nC nG nP : Nat} {ps : Nat → PT} (h : okPs nC nG nP ps) {j : Nat} {p : PT} (hp : okPt nC nG p) : okPs nC nG nP (vf_upd ps j p) := by
  intro i hi
  unfold vf_upd
  split
  · exact hp
  · exact h i hi
theorem okPs.new {nC nG nP : Nat} {ps : Nat → PT} (h : okPs nC nG nP ps) {p : PT} (hp : okPt nC nG p) : okPs nC nG (nP + 1) (vf_upd ps nP p) := by
  intro i hi
  unfold vf_upd
  split
  · exact hp
  · exact h i (by omega)
theorem okPs.each {nC nG nP : Nat} {ps : Nat → PT} (h : okPs nC nG nP ps) {g : PT → PT} (hg : ∀ p, okPt nC nG p → okPt nC nG (g p)) (j : Nat) : okPs nC nG nP (sp_each nP g ps j) := by
  intro i hi
  unfold sp_each
  split
  · exact hg _ (h i hi)
  · exact h i hi
theorem okPs.dps {nC nG nP : Nat} {ps : Nat → PT} (h : okPs nC nG nP ps) {air : Int32} (ha : 1 ≤ air ∧ air ≤ 8) : ∀ m, okPs nC nG nP (sp_dps air nP ps m)
  | 0 => h
  | m + 1 => (okPs.dps h ha m).each (fun p hp => hp.dryp ha) 14
theorem okPs.bps {nC nG nP : Nat} {ps : Nat → PT} (h : okPs nC nG nP ps) {nR : Nat} {rs : Nat → RT} {k : KT} {dmp : Int32} : ∀ m, okPs nC nG nP (sp_bps nR rs k dmp nP ps m)
  | 0 => h
  | m + 1 => (okPs.bps h m).each (fun p hp => hp.heatp _ _ _) 14
theorem new_pot {nC nG : Nat} {c : Nat} {wd hg wl : Int32} (hc : c < nC) (h : (1 ≤ wd ∧ wd ≤ 5) ∧ (1 ≤ hg ∧ hg ≤ 3) ∧ (wl = 1 ∨ wl = 2 ∨ wl = 4)) : okPt nC nG (c, none, (wd, hg, wl, 0, 1090519040, false, 0, 0, -1, -1)) := by
  obtain ⟨w, hw, e⟩ := rng1 (n := 5) (by decide) h.1
  exact ⟨hc, fun g e => (by cases e), fun v => (by rcases (show (0 : Int32) = 3 ∨ (0 : Int32) = 4 ∨ (0 : Int32) = 6 from v) with v | v | v <;> exact absurd v (by decide)), fun _ => rfl, Or.inl rfl, fun v => absurd rfl v, ⟨w, hw.1, hw.2, e⟩, ⟨⟨128, by decide, (show (1090519040 : UInt32) = wt 128 from by decide +kernel)⟩, h.2.2⟩⟩
/-- all that stands fast, c the calls that were made -/
def okSt (c nC : Nat) (cs : Nat → Int32 × Int32) (nG : Nat) (gs : Nat → GT) (nP : Nat) (ps : Nat → PT) (nO nR : Nat) (rs : Nat → RT) (k : KT) : Prop :=
  nC ≤ 3 ∧ nG ≤ 4 ∧ nP ≤ 14 ∧ nO ≤ 6 ∧ okCl nC cs ∧ (∀ i, i < nG → glzOk (gs i)) ∧ okPs nC nG nP ps ∧ okk k ∧ okL nR k ∧ okR9 nR rs ∧ ∃ pw, pw ≤ c ∧ kP k = pw9 pw
theorem okSt_new : okSt 0 0 (fun _ => (0, 0)) 0 (fun _ => (0, 0, 0, 0, 0)) 0 (fun _ => (0, none, q0T)) 0 0 (fun _ => (0, 0, 0)) k0 := by
  refine ⟨by decide, by decide, by decide, by decide, fun i hi => absurd hi (Nat.not_lt_zero i), fun i hi => absurd hi (Nat.not_lt_zero i), fun i hi => absurd hi (Nat.not_lt_zero i), ⟨?_, ?_, fun j _ => ?_⟩, ⟨fun w => (by cases w), by decide⟩, ⟨by decide, fun i hi => absurd hi (Nat.not_lt_zero i)⟩, 0, Nat.le_refl 0, rfl⟩
  · have w20 : FP.i2d 20 = 4626322717216342016 := by decide +kernel
    refine ⟨(df_whole w20).n, ?_, ?_⟩
    · show dO ≤ dz 4626322717216342016
      rw [dz_whole w20]
      have p := dO_pos
      have e : (20 : Int32).toInt = 20 := by decide
      rw [e]; omega
    · show dz 4626322717216342016 ≤ 1400 * dO
      rw [dz_whole w20]
      have p := dO_pos
      have e : (20 : Int32).toInt = 20 := by decide
      rw [e]; omega
  · exact (pw9_ok (j := 0) (by decide)).1
  · show okW 0
    unfold okW
    rw [show FP.Core.val64 0 = .fin false 0 (-1074) from by decide +kernel]
    first
      | trivial
      | rfl
      | exact ⟨rfl, by decide⟩
      | exact Or.inl ⟨_, _, rfl⟩
theorem okPt.wf {nC nG : Nat} {p : PT} (h : okPt nC nG p) : FP.Core.FFin (qWa p.2.2) := (lose_okq (air := 1) (by decide) h.q).2.2.elim fun n e => by
  obtain ⟨k, n1, _, _, e1, _⟩ := e
  rw [e1]
  exact wt_n n1
theorem okSt.same {c nC : Nat} {cs : Nat → Int32 × Int32} {nG : Nat} {gs : Nat → GT} {nP : Nat} {ps : Nat → PT} {nO nR : Nat} {rs : Nat → RT} {k : KT} (o : okSt c nC cs nG gs nP ps nO nR rs k)  : okSt (c + 1) nC cs nG gs nP ps nO nR rs k := by
  obtain ⟨a1, a2, a3, a4, a5, a6, a7, a8, a9, a10, pw, p1, p2⟩ := o
  exact ⟨a1, a2, a3, a4, a5, a6, a7, a8, a9, a10, ⟨pw, by omega, p2⟩⟩
theorem okSt.clay {c nC : Nat} {cs : Nat → Int32 × Int32} {nG : Nat} {gs : Nat → GT} {nP : Nat} {ps : Nat → PT} {nO nR : Nat} {rs : Nat → RT} {k : KT} (o : okSt c nC cs nG gs nP ps nO nR rs k) {t g : Int32} (h : (1 ≤ t ∧ t ≤ 12) ∧ 8 ≤ g ∧ g ≤ 40) (h3 : nC < 3) : okSt (c + 1) (nC + 1) (vf_upd cs nC (t, g)) nG gs nP ps nO nR rs k := by
  obtain ⟨a1, a2, a3, a4, a5, a6, a7, a8, a9, a10, pw, p1, p2⟩ := o
  have g1 := Int32.le_iff_toInt_le.mp h.2.1
  have g2 := Int32.le_iff_toInt_le.mp h.2.2
  have e8 : (8 : Int32).toInt = 8 := by decide
  have e40 : (40 : Int32).toInt = 40 := by decide
  refine ⟨by omega, a2, a3, a4, fun i hi => ?_, a6, fun i hi => (a7 i hi).more (by omega) (Nat.le_refl _), a8, a9, a10, ⟨pw, by omega, p2⟩⟩
  unfold vf_upd
  split
  · exact ⟨h.1.1, by show 8 ≤ g.toInt; omega, by show g.toInt ≤ 40; omega⟩
  · exact a5 i (by omega)
theorem okSt.glaze {c nC : Nat} {cs : Nat → Int32 × Int32} {nG : Nat} {gs : Nat → GT} {nP : Nat} {ps : Nat → PT} {nO nR : Nat} {rs : Nat → RT} {k : KT} (o : okSt c nC cs nG gs nP ps nO nR rs k) {g0 : GT} (h : glzOk g0) (h4 : nG < 4) : okSt (c + 1) nC cs (nG + 1) (vf_upd gs nG g0) nP ps nO nR rs k := by
  obtain ⟨a1, a2, a3, a4, a5, a6, a7, a8, a9, a10, pw, p1, p2⟩ := o
  refine ⟨a1, by omega, a3, a4, a5, fun i hi => ?_, fun i hi => (a7 i hi).more (Nat.le_refl _) (by omega), a8, a9, a10, ⟨pw, by omega, p2⟩⟩
  unfold vf_upd
  split
  · exact h
  · exact a6 i (by omega)
theorem okSt.pot {c nC : Nat} {cs : Nat → Int32 × Int32} {nG : Nat} {gs : Nat → GT} {nP : Nat} {ps : Nat → PT} {nO nR : Nat} {rs : Nat → RT} {k : KT} (o : okSt c nC cs nG gs nP ps nO nR rs k) {p : PT} (h : okPt nC nG p) (h4 : nP < 14) : okSt (c + 1) nC cs nG gs (nP + 1) (vf_upd ps nP p) nO nR rs k := by
  obtain ⟨a1, a2, a3, a4, a5, a6, a7, a8, a9, a10, pw, p1, p2⟩ := o
  exact ⟨a1, a2, by omega, a4, a5, a6, okPs.new a7 h, a8, a9, a10, ⟨pw, by omega, p2⟩⟩
theorem okSt.upd9 {c nC : Nat} {cs : Nat → Int32 × Int32} {nG : Nat} {gs : Nat → GT} {nP : Nat} {ps : Nat → PT} {nO nR : Nat} {rs : Nat → RT} {k : KT} (o : okSt c nC cs nG gs nP ps nO nR rs k) {p : PT} {j : Nat} (h : okPt nC nG p) : okSt (c + 1) nC cs nG gs nP (vf_upd ps j p) nO nR rs k := by
  obtain ⟨a1, a2, a3, a4, a5, a6, a7, a8, a9, a10, pw, p1, p2⟩ := o
  exact ⟨a1, a2, a3, a4, a5, a6, okPs.upd9 a7 h, a8, a9, a10, ⟨pw, by omega, p2⟩⟩
theorem okSt.dry {c nC : Nat} {cs : Nat → Int32 × Int32} {nG : Nat} {gs : Nat → GT} {nP : Nat} {ps : Nat → PT} {nO nR : Nat} {rs : Nat → RT} {k : KT} (o : okSt c nC cs nG gs nP ps nO nR rs k) {air : Int32} (h : 1 ≤ air ∧ air ≤ 8) {m : Nat} : okSt (c + 1) nC cs nG gs nP (sp_dps air nP ps m) nO nR rs k := by
  obtain ⟨a1, a2, a3, a4, a5, a6, a7, a8, a9, a10, pw, p1, p2⟩ := o
  exact ⟨a1, a2, a3, a4, a5, a6, okPs.dps a7 h m, a8, a9, a10, ⟨pw, by omega, p2⟩⟩
theorem okSt.ramp {c nC : Nat} {cs : Nat → Int32 × Int32} {nG : Nat} {gs : Nat → GT} {nP : Nat} {ps : Nat → PT} {nO nR : Nat} {rs : Nat → RT} {k : KT} (o : okSt c nC cs nG gs nP ps nO nR rs k) {r0 t0 d0 : Int32} (h : (10 ≤ r0 ∧ r0 ≤ 200) ∧ (100 ≤ t0 ∧ t0 ≤ 1400) ∧ 0 ≤ d0 ∧ d0 ≤ 20) (h5 : nR < 5) : okSt (c + 1) nC cs nG gs nP ps nO (nR + 1) (vf_upd rs nR (r0, t0, d0)) k := by
  obtain ⟨a1, a2, a3, a4, a5, a6, a7, a8, a9, a10, pw, p1, p2⟩ := o
  have b1 := Int32.le_iff_toInt_le.mp h.1.1
  have b2 := Int32.le_iff_toInt_le.mp h.1.2
  have b3 := Int32.le_iff_toInt_le.mp h.2.1.1
  have b4 := Int32.le_iff_toInt_le.mp h.2.1.2
  have e1 : (10 : Int32).toInt = 10 := by decide
  have e2 : (200 : Int32).toInt = 200 := by decide
  have e3 : (100 : Int32).toInt = 100 := by decide
  have e4 : (1400 : Int32).toInt = 1400 := by decide
  refine ⟨a1, a2, a3, a4, a5, a6, a7, a8, ⟨fun w => Nat.lt_succ_of_lt (a9.1 w), a9.2⟩, ⟨by omega, fun i hi => ?_⟩, ⟨pw, by omega, p2⟩⟩
  unfold vf_upd
  split
  · exact ⟨⟨by show 10 ≤ r0.toInt; omega, by show r0.toInt ≤ 200; omega⟩, by show 100 ≤ t0.toInt; omega, by show t0.toInt ≤ 1400; omega⟩
  · exact a10.2 i (by omega)
theorem okSt.light {c nC : Nat} {cs : Nat → Int32 × Int32} {nG : Nat} {gs : Nat → GT} {nP : Nat} {ps : Nat → PT} {nO nR : Nat} {rs : Nat → RT} {k : KT} (o : okSt c nC cs nG gs nP ps nO nR rs k) (h : ¬ nR = 0) : okSt (c + 1) nC cs nG gs nP ps nO nR rs (sp_kndl k) := by
  obtain ⟨a1, a2, a3, a4, a5, a6, a7, a8, a9, a10, pw, p1, p2⟩ := o
  exact ⟨a1, a2, a3, a4, a5, a6, a7, ⟨a8.1, a8.2.1, a8.2.2⟩, ⟨fun _ => Nat.pos_of_ne_zero h, Nat.zero_le 5⟩, a10, ⟨pw, by omega, p2⟩⟩
theorem okSt.door {c nC : Nat} {cs : Nat → Int32 × Int32} {nG : Nat} {gs : Nat → GT} {nP : Nat} {ps : Nat → PT} {nO nR : Nat} {rs : Nat → RT} {k : KT} (o : okSt c nC cs nG gs nP ps nO nR rs k) {b : Bool} : okSt (c + 1) nC cs nG gs nP ps nO nR rs (kH k, kP k, b, kL k, kA k, kE k, kC k, kF k, kS k, kW k) := by
  obtain ⟨a1, a2, a3, a4, a5, a6, a7, a8, a9, a10, pw, p1, p2⟩ := o
  exact ⟨a1, a2, a3, a4, a5, a6, a7, ⟨a8.1, a8.2.1, a8.2.2⟩, ⟨a9.1, a9.2⟩, a10, ⟨pw, by omega, p2⟩⟩
theorem step_P {nr : Nat} {Rp : Nat → RT} {k : KT} (hk : okk k) (hL : okL nr k) (hR : okR9 nr Rp) : kP (sp_step nr Rp k) = kP k := by
  obtain ⟨hH, hP, hW⟩ := hk
  obtain ⟨p1, p2⟩ := pass_ok nr Rp (kH k) hR.1 5 (kL k) (kA k) (kE k) hL.1 hL.2
  obtain ⟨L, A, E, e⟩ : ∃ L A E, sp_pass nr Rp (kH k) 5 (kL k) (kA k) (kE k) = (L, A, E) := ⟨_, _, _, rfl⟩
  rw [e] at p1 p2
  cases L
  · rw [step_of (step1_no e)]
  · have hA : A < nr := p1 rfl
    obtain ⟨r1, r2⟩ := hR.2 A hA
    obtain ⟨f1, f2, f3, f4, f5, f6, f7, f8⟩ := follow_ok (r := Rp A) (k := (kH k, kP k, kO k, true, A, E, kC k, kF k, kS k, kW k)) hH hP r1 r2
    rw [step_of (step1_lit e hA rfl)]
    exact f2
theorem run_P {nr : Nat} {Rp : Nat → RT} {k : KT} (hk : okk k) (hL : okL nr k) (hR : okR9 nr Rp) : ∀ m, kP (sp_run nr Rp k m) = kP k
  | 0 => rfl
  | m + 1 => by
    obtain ⟨h1, h2⟩ := run_ok hk hL hR m
    exact (step_P h1 h2 hR).trans (run_P hk hL hR m)
theorem okSt.burn {c nC : Nat} {cs : Nat → Int32 × Int32} {nG : Nat} {gs : Nat → GT} {nP : Nat} {ps : Nat → PT} {nO nR : Nat} {rs : Nat → RT} {k : KT} (o : okSt c nC cs nG gs nP ps nO nR rs k) {dmp : Int32} {m : Nat} : okSt (c + 1) nC cs nG gs nP (sp_bps nR rs k dmp nP ps m) nO nR rs (sp_run nR rs k m) := by
  obtain ⟨a1, a2, a3, a4, a5, a6, a7, a8, a9, a10, pw, p1, p2⟩ := o
  obtain ⟨b1, b2⟩ := run_ok a8 a9 a10 m
  exact ⟨a1, a2, a3, a4, a5, a6, okPs.bps a7 m, b1, b2, a10, ⟨pw, by omega, (run_P a8 a9 a10 m).trans p2⟩⟩
theorem okSt.unload {c nC : Nat} {cs : Nat → Int32 × Int32} {nG : Nat} {gs : Nat → GT} {nP : Nat} {ps : Nat → PT} {nO nR : Nat} {rs : Nat → RT} {k : KT} (o : okSt c nC cs nG gs nP ps nO nR rs k) (hc5 : c ≤ 519) : okSt (c + 1) nC cs nG gs nP (sp_each nP (sp_unl cs gs k) ps 14) nO nR rs (sp_clr k) := by
  obtain ⟨a1, a2, a3, a4, a5, a6, a7, a8, a9, a10, pw, p1, p2⟩ := o
  have hz : ∀ j, j < 3 → okW (sp_zero (kW k) 3 j) := fun j hj => by
    rw [show sp_zero (kW k) 3 j = 0 from if_pos hj]
    exact okSt_new.2.2.2.2.2.2.2.1.2.2 j hj
  have hp : ∃ pw', pw' ≤ c + 1 ∧ kP (sp_clr k) = pw9 pw' := by
    cases hw : sp_worn (kW k) 3 with
    | false => rw [clr_f hw]; exact ⟨pw, by omega, p2⟩
    | true => rw [clr_t hw]; exact ⟨pw + 1, by omega, by show FP.fmul 1065091072 (kP k) = FP.fmul 1065091072 (pw9 pw); rw [p2]⟩
  have hf : FP.Core.FFin (kP (sp_clr k)) := by
    obtain ⟨pw', q1, q2⟩ := hp
    rw [q2]; exact (pw9_ok (by omega)).1
  exact ⟨a1, a2, a3, a4, a5, a6, okPs.each a7 (fun p hp => hp.unl a5) 14, ⟨a8.1, hf, hz⟩, ⟨a9.1, a9.2⟩, a10, hp⟩
