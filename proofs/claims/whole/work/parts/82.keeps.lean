/-! EACH CALL KEEPS WHAT STANDS FAST -/
theorem okSt.same {c nC : Nat} {cs : Nat → Int32 × Int32} {nG : Nat} {gs : Nat → GT} {nP : Nat} {ps : Nat → PT} {nO nR : Nat} {rs : Nat → RT} {k : KT} (o : okSt c nC cs nG gs nP ps nO nR rs k)  : okSt (c + 1) nC cs nG gs nP ps nO nR rs k := by
  obtain ⟨a1, a2, a3, a4, a5, a6, a7, a8, a9, a10, pw, p1, p2⟩ := o
  exact ⟨a1, a2, a3, a4, a5, a6, a7, a8, a9, a10, ⟨pw, by omega, p2⟩⟩
theorem okSt.clay {c nC : Nat} {cs : Nat → Int32 × Int32} {nG : Nat} {gs : Nat → GT} {nP : Nat} {ps : Nat → PT} {nO nR : Nat} {rs : Nat → RT} {k : KT} (o : okSt c nC cs nG gs nP ps nO nR rs k) {t g : Int32} (h : (1 ≤ t ∧ t ≤ 12) ∧ 8 ≤ g ∧ g ≤ 40) (h3 : nC < 3) : okSt (c + 1) (nC + 1) (vf_upd cs nC (t, g)) nG gs nP ps nO nR rs k := by
  obtain ⟨a1, a2, a3, a4, a5, a6, a7, a8, a9, a10, pw, p1, p2⟩ := o
  have g1 := Int32.le_iff_toInt_le.mp h.2.1
  have g2 := Int32.le_iff_toInt_le.mp h.2.2
  have e8 : (8 : Int32).toInt = 8 := by decide
  have e40 : (40 : Int32).toInt = 40 := by decide
  refine ⟨by omega, a2, a3, a4, fun i hi => ?_, a6, fun i hi => (a7 i hi).more (by omega) (Nat.le_refl _), a8, a9, a10, ⟨pw, by omega, p2⟩⟩
  unfold vf_upd
  split
  · exact ⟨h.1.1, by show 8 ≤ g.toInt; omega, by show g.toInt ≤ 40; omega⟩
  · exact a5 i (by omega)
theorem okSt.glaze {c nC : Nat} {cs : Nat → Int32 × Int32} {nG : Nat} {gs : Nat → GT} {nP : Nat} {ps : Nat → PT} {nO nR : Nat} {rs : Nat → RT} {k : KT} (o : okSt c nC cs nG gs nP ps nO nR rs k) {g0 : GT} (h : glzOk g0) (h4 : nG < 4) : okSt (c + 1) nC cs (nG + 1) (vf_upd gs nG g0) nP ps nO nR rs k := by
  obtain ⟨a1, a2, a3, a4, a5, a6, a7, a8, a9, a10, pw, p1, p2⟩ := o
  refine ⟨a1, by omega, a3, a4, a5, fun i hi => ?_, fun i hi => (a7 i hi).more (Nat.le_refl _) (by omega), a8, a9, a10, ⟨pw, by omega, p2⟩⟩
  unfold vf_upd
  split
  · exact h
  · exact a6 i (by omega)
theorem okSt.pot {c nC : Nat} {cs : Nat → Int32 × Int32} {nG : Nat} {gs : Nat → GT} {nP : Nat} {ps : Nat → PT} {nO nR : Nat} {rs : Nat → RT} {k : KT} (o : okSt c nC cs nG gs nP ps nO nR rs k) {p : PT} (h : okPt nC nG p) (h4 : nP < 14) : okSt (c + 1) nC cs nG gs (nP + 1) (vf_upd ps nP p) nO nR rs k := by
  obtain ⟨a1, a2, a3, a4, a5, a6, a7, a8, a9, a10, pw, p1, p2⟩ := o
  exact ⟨a1, a2, by omega, a4, a5, a6, okPs.new a7 h, a8, a9, a10, ⟨pw, by omega, p2⟩⟩
theorem okSt.upd9 {c nC : Nat} {cs : Nat → Int32 × Int32} {nG : Nat} {gs : Nat → GT} {nP : Nat} {ps : Nat → PT} {nO nR : Nat} {rs : Nat → RT} {k : KT} (o : okSt c nC cs nG gs nP ps nO nR rs k) {p : PT} {j : Nat} (h : okPt nC nG p) : okSt (c + 1) nC cs nG gs nP (vf_upd ps j p) nO nR rs k := by
  obtain ⟨a1, a2, a3, a4, a5, a6, a7, a8, a9, a10, pw, p1, p2⟩ := o
  exact ⟨a1, a2, a3, a4, a5, a6, okPs.upd9 a7 h, a8, a9, a10, ⟨pw, by omega, p2⟩⟩
theorem okSt.dry {c nC : Nat} {cs : Nat → Int32 × Int32} {nG : Nat} {gs : Nat → GT} {nP : Nat} {ps : Nat → PT} {nO nR : Nat} {rs : Nat → RT} {k : KT} (o : okSt c nC cs nG gs nP ps nO nR rs k) {air : Int32} (h : 1 ≤ air ∧ air ≤ 8) {m : Nat} : okSt (c + 1) nC cs nG gs nP (sp_dps air nP ps m) nO nR rs k := by
  obtain ⟨a1, a2, a3, a4, a5, a6, a7, a8, a9, a10, pw, p1, p2⟩ := o
  exact ⟨a1, a2, a3, a4, a5, a6, okPs.dps a7 h m, a8, a9, a10, ⟨pw, by omega, p2⟩⟩
theorem okSt.ramp {c nC : Nat} {cs : Nat → Int32 × Int32} {nG : Nat} {gs : Nat → GT} {nP : Nat} {ps : Nat → PT} {nO nR : Nat} {rs : Nat → RT} {k : KT} (o : okSt c nC cs nG gs nP ps nO nR rs k) {r0 t0 d0 : Int32} (h : (10 ≤ r0 ∧ r0 ≤ 200) ∧ (100 ≤ t0 ∧ t0 ≤ 1400) ∧ 0 ≤ d0 ∧ d0 ≤ 20) (h5 : nR < 5) : okSt (c + 1) nC cs nG gs nP ps nO (nR + 1) (vf_upd rs nR (r0, t0, d0)) k := by
  obtain ⟨a1, a2, a3, a4, a5, a6, a7, a8, a9, a10, pw, p1, p2⟩ := o
  have b1 := Int32.le_iff_toInt_le.mp h.1.1
  have b2 := Int32.le_iff_toInt_le.mp h.1.2
  have b3 := Int32.le_iff_toInt_le.mp h.2.1.1
  have b4 := Int32.le_iff_toInt_le.mp h.2.1.2
  have e1 : (10 : Int32).toInt = 10 := by decide
  have e2 : (200 : Int32).toInt = 200 := by decide
  have e3 : (100 : Int32).toInt = 100 := by decide
  have e4 : (1400 : Int32).toInt = 1400 := by decide
  refine ⟨a1, a2, a3, a4, a5, a6, a7, a8, ⟨fun w => Nat.lt_succ_of_lt (a9.1 w), a9.2⟩, ⟨by omega, fun i hi => ?_⟩, ⟨pw, by omega, p2⟩⟩
  unfold vf_upd
  split
  · exact ⟨⟨by show 10 ≤ r0.toInt; omega, by show r0.toInt ≤ 200; omega⟩, by show 100 ≤ t0.toInt; omega, by show t0.toInt ≤ 1400; omega⟩
  · exact a10.2 i (by omega)
theorem okSt.forget {c nC : Nat} {cs : Nat → Int32 × Int32} {nG : Nat} {gs : Nat → GT} {nP : Nat} {ps : Nat → PT} {nO nR : Nat} {rs : Nat → RT} {k : KT} (o : okSt c nC cs nG gs nP ps nO nR rs k) (h : kL k = false) : okSt (c + 1) nC cs nG gs nP ps nO 0 rs k := by
  obtain ⟨a1, a2, a3, a4, a5, a6, a7, a8, a9, a10, pw, p1, p2⟩ := o
  exact ⟨a1, a2, a3, a4, a5, a6, a7, a8, ⟨fun w => (by rw [h] at w; cases w), a9.2⟩, ⟨by omega, fun i hi => absurd hi (Nat.not_lt_zero i)⟩, ⟨pw, by omega, p2⟩⟩
theorem okSt.light {c nC : Nat} {cs : Nat → Int32 × Int32} {nG : Nat} {gs : Nat → GT} {nP : Nat} {ps : Nat → PT} {nO nR : Nat} {rs : Nat → RT} {k : KT} (o : okSt c nC cs nG gs nP ps nO nR rs k) (h : ¬ nR = 0) : okSt (c + 1) nC cs nG gs nP ps nO nR rs (sp_kndl k) := by
  obtain ⟨a1, a2, a3, a4, a5, a6, a7, a8, a9, a10, pw, p1, p2⟩ := o
  exact ⟨a1, a2, a3, a4, a5, a6, a7, ⟨a8.1, a8.2.1, a8.2.2⟩, ⟨fun _ => Nat.pos_of_ne_zero h, Nat.zero_le 5⟩, a10, ⟨pw, by omega, p2⟩⟩
theorem okSt.door {c nC : Nat} {cs : Nat → Int32 × Int32} {nG : Nat} {gs : Nat → GT} {nP : Nat} {ps : Nat → PT} {nO nR : Nat} {rs : Nat → RT} {k : KT} (o : okSt c nC cs nG gs nP ps nO nR rs k) {b : Bool} : okSt (c + 1) nC cs nG gs nP ps nO nR rs (kH k, kP k, b, kL k, kA k, kE k, kC k, kF k, kS k, kW k) := by
  obtain ⟨a1, a2, a3, a4, a5, a6, a7, a8, a9, a10, pw, p1, p2⟩ := o
  exact ⟨a1, a2, a3, a4, a5, a6, a7, ⟨a8.1, a8.2.1, a8.2.2⟩, ⟨a9.1, a9.2⟩, a10, ⟨pw, by omega, p2⟩⟩
theorem step_P {nr : Nat} {Rp : Nat → RT} {k : KT} (hk : okk k) (hL : okL nr k) (hR : okR9 nr Rp) : kP (sp_step nr Rp k) = kP k := by
  obtain ⟨hH, hP, hW⟩ := hk
  obtain ⟨p1, p2⟩ := pass_ok nr Rp (kH k) hR.1 5 (kL k) (kA k) (kE k) hL.1 hL.2
  obtain ⟨L, A, E, e⟩ : ∃ L A E, sp_pass nr Rp (kH k) 5 (kL k) (kA k) (kE k) = (L, A, E) := ⟨_, _, _, rfl⟩
  rw [e] at p1 p2
  cases L
  · rw [step_of (step1_no e)]
  · have hA : A < nr := p1 rfl
    obtain ⟨r1, r2⟩ := hR.2 A hA
    obtain ⟨f1, f2, f3, f4, f5, f6, f7, f8⟩ := follow_ok (r := Rp A) (k := (kH k, kP k, kO k, true, A, E, kC k, kF k, kS k, kW k)) hH hP r1 r2
    rw [step_of (step1_lit e hA rfl)]
    exact f2
theorem run_P {nr : Nat} {Rp : Nat → RT} {k : KT} (hk : okk k) (hL : okL nr k) (hR : okR9 nr Rp) : ∀ m, kP (sp_run nr Rp k m) = kP k
  | 0 => rfl
  | m + 1 => by
    obtain ⟨h1, h2⟩ := run_ok hk hL hR m
    exact (step_P h1 h2 hR).trans (run_P hk hL hR m)
theorem okSt.burn {c nC : Nat} {cs : Nat → Int32 × Int32} {nG : Nat} {gs : Nat → GT} {nP : Nat} {ps : Nat → PT} {nO nR : Nat} {rs : Nat → RT} {k : KT} (o : okSt c nC cs nG gs nP ps nO nR rs k) {dmp : Int32} {m : Nat} : okSt (c + 1) nC cs nG gs nP (sp_bps nR rs k dmp nP ps m) nO nR rs (sp_run nR rs k m) := by
  obtain ⟨a1, a2, a3, a4, a5, a6, a7, a8, a9, a10, pw, p1, p2⟩ := o
  obtain ⟨b1, b2⟩ := run_ok a8 a9 a10 m
  exact ⟨a1, a2, a3, a4, a5, a6, okPs.bps a7 m, b1, b2, a10, ⟨pw, by omega, (run_P a8 a9 a10 m).trans p2⟩⟩
theorem okSt.unload {c nC : Nat} {cs : Nat → Int32 × Int32} {nG : Nat} {gs : Nat → GT} {nP : Nat} {ps : Nat → PT} {nO nR : Nat} {rs : Nat → RT} {k : KT} (o : okSt c nC cs nG gs nP ps nO nR rs k) (hc5 : c ≤ 519) : okSt (c + 1) nC cs nG gs nP (sp_each nP (sp_unl cs gs k) ps 14) nO nR rs (sp_clr k) := by
  obtain ⟨a1, a2, a3, a4, a5, a6, a7, a8, a9, a10, pw, p1, p2⟩ := o
  have hz : ∀ j, j < 3 → okW (sp_zero (kW k) 3 j) := fun j hj => by
    rw [show sp_zero (kW k) 3 j = 0 from if_pos hj]
    exact okSt_new.2.2.2.2.2.2.2.1.2.2 j hj
  have hp : ∃ pw', pw' ≤ c + 1 ∧ kP (sp_clr k) = pw9 pw' := by
    cases hw : sp_worn (kW k) 3 with
    | false => rw [clr_f hw]; exact ⟨pw, by omega, p2⟩
    | true => rw [clr_t hw]; exact ⟨pw + 1, by omega, by show FP.fmul 1065091072 (kP k) = FP.fmul 1065091072 (pw9 pw); rw [p2]⟩
  have hf : FP.Core.FFin (kP (sp_clr k)) := by
    obtain ⟨pw', q1, q2⟩ := hp
    rw [q2]; exact (pw9_ok (by omega)).1
  exact ⟨a1, a2, a3, a4, a5, a6, okPs.each a7 (fun p hp => hp.unl a5) 14, ⟨a8.1, hf, hz⟩, ⟨a9.1, a9.2⟩, a10, hp⟩
theorem okSt.order {c nC : Nat} {cs : Nat → Int32 × Int32} {nG : Nat} {gs : Nat → GT} {nP : Nat} {ps : Nat → PT} {nO nR : Nat} {rs : Nat → RT} {k : KT} (o : okSt c nC cs nG gs nP ps nO nR rs k) (h6 : nO < 6) : okSt (c + 1) nC cs nG gs nP ps (nO + 1) nR rs k := by
  obtain ⟨a1, a2, a3, a4, a5, a6, a7, a8, a9, a10, pw, p1, p2⟩ := o
  exact ⟨a1, a2, a3, by omega, a5, a6, a7, a8, a9, a10, ⟨pw, by omega, p2⟩⟩
