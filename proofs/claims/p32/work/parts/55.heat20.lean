/-! HEAT IS NEVER BELOW 20; FUEL AND CLOCK -/
/-- a double that is a power of two, in units of the least -/
theorem pow_dbl {e : Nat} (he : e ≤ 1100) : ∃ V : UInt64, DF V ∧ dz V = ((2 ^ e : Nat) : Int) := by
  have q0 : FP.Core.b64.qmin = -1074 := by decide +kernel
  have q1 : FP.Core.b64.qmax = 971 := by decide +kernel
  have t0 : FP.Core.b64.tails = 2 ^ 52 := by decide +kernel
  have p0 : FP.Core.b64.p = 53 := rfl
  by_cases h : e < 52
  · have f : FP.Core.fits FP.Core.b64 (.fin false (2 ^ e) (-1074)) := by
      refine ⟨?_, ?_, ?_, Or.inl q0.symm⟩
      · rw [p0]; exact Nat.pow_lt_pow_right (by decide) (by omega)
      · rw [q0]; omega
      · rw [q1]; omega
    refine ⟨FP.Core.of64 (.fin false (2 ^ e) (-1074)), ⟨_, _, _, FP.Core.val64_of64 f⟩, ?_⟩
    show FP.Core.zval _ _ = _
    rw [FP.Core.val64_of64 f]
    show FP.Core.signed false (FP.Core.inUnits (2 ^ e) (-1074) FP.Core.b64.qmin) = _
    rw [q0]
    unfold FP.Core.signed FP.Core.inUnits
    simp
  · have f : FP.Core.fits FP.Core.b64 (.fin false (2 ^ 52) ((e : Int) - 1126)) := by
      refine ⟨?_, ?_, ?_, Or.inr ?_⟩
      · rw [p0]; exact Nat.pow_lt_pow_right (by decide) (by omega)
      · rw [q0]; omega
      · rw [q1]; omega
      · rw [t0]; exact Nat.le_refl _
    refine ⟨FP.Core.of64 (.fin false (2 ^ 52) ((e : Int) - 1126)), ⟨_, _, _, FP.Core.val64_of64 f⟩, ?_⟩
    show FP.Core.zval _ _ = _
    rw [FP.Core.val64_of64 f]
    show FP.Core.signed false (FP.Core.inUnits (2 ^ 52) ((e : Int) - 1126) FP.Core.b64.qmin) = _
    rw [q0]
    unfold FP.Core.signed FP.Core.inUnits
    have e1 : ((e : Int) - 1126 - -1074).toNat = e - 52 := by omega
    rw [e1, ← Nat.pow_add, show 52 + (e - 52) = e by omega]
    rfl
theorem cool20 {t C : UInt64} {k : Nat} (hC : FP.Core.val64 C = .fin false (2 ^ 52) ((k : Int) - 52)) (hk : 1 ≤ k) (H : Ht t) (h20 : 20 * dO ≤ dz t) (hn : dN (FP.dsub t (FP.ddiv (FP.dsub t 4626322717216342016) C))) : 20 * dO ≤ dz (FP.dsub t (FP.ddiv (FP.dsub t 4626322717216342016) C)) := by
  have p := dO_pos
  obtain ⟨d, up, s3, s4, lo⟩ := H.sub20
  have e20 : dz 4626322717216342016 = 20 * dO := by rw [dz_whole w20]; rfl
  have e14 : dz 4653872080561897472 = 1400 * dO := by rw [dz_whole w1400]; rfl
  have n := ddiv_n d.n (⟨_, _, _, hC⟩ : DF C) (pw_nz hC)
  have pk : (2 : Int) ≤ ((2 ^ k : Nat) : Int) := by
    have : 2 ^ 1 ≤ 2 ^ k := Nat.pow_le_pow_right (by decide) hk
    omega
  have z0 := s3 h20
  have q0 : 0 ≤ dz (FP.ddiv (FP.dsub t 4626322717216342016) C) := by
    have := ddiv_ge (V := 0) hC d df_0.n (by rw [dz_0, Int.zero_mul]; exact z0)
    rwa [dz_0] at this
  have b := H.2.2
  have q2 : dz (FP.ddiv (FP.dsub t 4626322717216342016) C) ≤ 1400 * dO := by
    have := ddiv_le hC d (df_whole w1400).n (by
      rw [e14]
      have : (1400 * dO) * 1 ≤ (1400 * dO) * ((2 ^ k : Nat) : Int) := Int.mul_le_mul_of_nonneg_left (by omega) (by omega)
      omega)
    rwa [e14] at this
  have dd : DF (FP.ddiv (FP.dsub t 4626322717216342016) C) := df_between n df_0 (df_whole w1400) (by rw [dz_0]; exact q0) (by rw [e14]; exact q2)
  have key : dz (FP.ddiv (FP.dsub t 4626322717216342016) C) ≤ dz t - 20 * dO := by
    by_cases g : dz t ≤ 20 * dO
    · have := ddiv_le (V := 0) hC d df_0.n (by rw [dz_0, Int.zero_mul]; exact s4 g)
      rw [dz_0] at this
      omega
    · obtain ⟨x, hx⟩ : ∃ x : Nat, (x : Int) = dz t - 20 * dO := ⟨(dz t - 20 * dO).toNat, Int.toNat_of_nonneg (by omega)⟩
      have x0 : x ≠ 0 := by omega
      have l1 := Nat.log2_self_le x0
      have l2 : x < 2 ^ (Nat.log2 x + 1) := Nat.lt_log2_self
      have l3 : Nat.log2 x < 1090 := by
        refine (Nat.log2_lt x0).mpr ?_
        have e1 : dO = ((2 ^ 1074 : Nat) : Int) := rfl
        have e2 : (2 ^ 1090 : Nat) = 2 ^ 16 * 2 ^ 1074 := by rw [← Nat.pow_add]
        rw [e2]
        rw [e1] at hx b
        generalize 2 ^ 1074 = Q at *
        omega
      obtain ⟨V, v1, v2⟩ := pow_dbl (e := Nat.log2 x) (by omega)
      obtain ⟨W, u1, u2⟩ := pow_dbl (e := Nat.log2 x + 1) (by omega)
      have a1 := dsub_le H.df (df_whole w20) u1.n (V := W) (by rw [u2, e20]; omega)
      have e5 : (2 ^ (Nat.log2 x + 1) : Nat) = 2 ^ Nat.log2 x * 2 := Nat.pow_succ ..
      have m2 : ((2 ^ Nat.log2 x : Nat) : Int) * 2 ≤ ((2 ^ Nat.log2 x : Nat) : Int) * ((2 ^ k : Nat) : Int) := Int.mul_le_mul_of_nonneg_left pk (by omega)
      have a2 := ddiv_le (V := V) hC d v1.n (by rw [v2]; rw [u2, e5] at a1; omega)
      rw [v2] at a2
      omega
  have := dsub_ge H.df dd (df_whole w20).n (V := 4626322717216342016) (by rw [e20]; omega)
  rwa [e20] at this
theorem cool20o {t : UInt64} (H : Ht t) (h : 20 * dO ≤ dz t) (o : Bool) : 20 * dO ≤ dz (sp_cool t o) := by
  obtain ⟨c1, -, c2, -⟩ := cool_n H
  unfold sp_cool
  cases o
  · exact cool20 pw8 (by decide) H h c2
  · exact cool20 pw2 (by decide) H h c1
theorem i2d_20 {t : Int32} (h : 100 ≤ t.toInt ∧ t.toInt ≤ 1400) : 20 * dO ≤ dz (FP.i2d t) := by
  have p := dO_pos
  rw [dz_i2d]
  have := Int.mul_le_mul_of_nonneg_right (show (20 : Int) ≤ t.toInt by omega) (Int.le_of_lt p)
  omega
theorem follow20 {r : RT} {k : KT} (hH : Ht (kH k)) (hP : FP.Core.FFin (kP k)) (h1 : 10 ≤ r.1.toInt ∧ r.1.toInt ≤ 200) (h2 : 100 ≤ r.2.1.toInt ∧ r.2.1.toInt ≤ 1400) (h : 20 * dO ≤ dz (kH k)) : 20 * dO ≤ dz (kH (sp_follow r k)) := by
  have p := dO_pos
  have T := i2d_20 h2
  by_cases c : dlt (kH k) (FP.i2d r.2.1)
  · rw [follow_lt c]
    unfold sp_rise
    split
    · exact h
    · rename_i g
      obtain ⟨d, lo⟩ := inc_ok h1 ((gives_n hH hP).2.2 _) g
      have l := dadd_ge hH.df d hH.1 (V := kH k) (by omega)
      have e9 : kH (if dgt (FP.dadd (kH k) (sp_inc r (sp_gives (kH k) (kP k) (kO k)))) (FP.i2d r.2.1) then FP.i2d r.2.1 else FP.dadd (kH k) (sp_inc r (sp_gives (kH k) (kP k) (kO k))), k.2) = if dgt (FP.dadd (kH k) (sp_inc r (sp_gives (kH k) (kP k) (kO k)))) (FP.i2d r.2.1) then FP.i2d r.2.1 else FP.dadd (kH k) (sp_inc r (sp_gives (kH k) (kP k) (kO k))) := rfl
      refine Int.le_trans ?_ (Int.le_of_eq (congrArg dz e9.symm))
      generalize sp_inc r (sp_gives (kH k) (kP k) (kO k)) = m at *
      split
      · exact T
      · exact Int.le_trans h l
  · by_cases g : dgt (kH k) (FP.i2d r.2.1)
    · rw [follow_gt c g]
      obtain ⟨f1, f2, -⟩ := fall_ok hH h1 h2 g
      show 20 * dO ≤ dz (sp_fallH r (kH k))
      have e9 : sp_fallH r (kH k) = if dlt (FP.dsub (kH k) (sp_dec r (kH k))) (FP.i2d r.2.1) then FP.i2d r.2.1 else FP.dsub (kH k) (sp_dec r (kH k)) := rfl
      rw [e9]
      generalize sp_dec r (kH k) = m at *
      split
      · exact T
      · rename_i w
        exact Int.le_trans T (dcmp_ge9 f2 (df_i2d r.2.1).n w)
    · rw [follow_eq c g]
      exact h
theorem fuel_12 (x : Int32) : sp_fuel x = 1 ∨ sp_fuel x = 2 := by
  unfold sp_fuel
  split
  · exact Or.inr rfl
  · exact Or.inl rfl
/-- what a step does to heat, clock and fuel -/
theorem step_all {nr : Nat} {Rp : Nat → RT} {k : KT} (hk : okk k) (hL : okL nr k) (hR : okR9 nr Rp) (h : 20 * dO ≤ dz (kH k)) : 20 * dO ≤ dz (kH (sp_step nr Rp k)) ∧ kC (sp_step nr Rp k) = kC k + 1 ∧ (kF (sp_step nr Rp k) = kF k ∨ kF (sp_step nr Rp k) = kF k + 1 ∨ kF (sp_step nr Rp k) = kF k + 2) ∧ (kL k = false → kL (sp_step nr Rp k) = false ∧ kF (sp_step nr Rp k) = kF k) := by
  obtain ⟨hH, hP, hW⟩ := hk
  obtain ⟨p1, p2⟩ := pass_ok nr Rp (kH k) hR.1 5 (kL k) (kA k) (kE k) hL.1 hL.2
  obtain ⟨L, A, E, e⟩ : ∃ L A E, sp_pass nr Rp (kH k) 5 (kL k) (kA k) (kE k) = (L, A, E) := ⟨_, _, _, rfl⟩
  have eL : kL k = false → L = false := fun w => by
    rw [w, pass_nl] at e
    cases e; rfl
  rw [e] at p1 p2
  cases L
  · rw [step_of (step1_no e)]
    exact ⟨cool20o hH h _, rfl, Or.inl rfl, fun _ => ⟨rfl, rfl⟩⟩
  · have hA : A < nr := p1 rfl
    obtain ⟨r1, r2⟩ := hR.2 A hA
    obtain ⟨f1, f2, f3, f4, f5, f6, f7, f8⟩ := follow_ok (r := Rp A) (k := (kH k, kP k, kO k, true, A, E, kC k, kF k, kS k, kW k)) hH hP r1 r2
    have g1 := follow20 (r := Rp A) (k := (kH k, kP k, kO k, true, A, E, kC k, kF k, kS k, kW k)) hH hP r1 r2 h
    rw [step_of (step1_lit e hA rfl)]
    refine ⟨g1, ?_, ?_, fun w => Bool.noConfusion (eL w)⟩
    · show kC (sp_follow _ _) + 1 = _
      rw [f6]
    · show kF (sp_follow _ _) + sp_fuel _ = _ ∨ kF (sp_follow _ _) + sp_fuel _ = _ ∨ kF (sp_follow _ _) + sp_fuel _ = _
      rw [f7]
      rcases fuel_12 (kC (sp_follow (Rp A) (kH k, kP k, kO k, true, A, E, kC k, kF k, kS k, kW k))) with w | w <;> rw [w]
      · exact Or.inr (Or.inl rfl)
      · exact Or.inr (Or.inr rfl)
theorem run_all {nR : Nat} {rs : Nat → RT} {k : KT} (hk : okk k) (hL : okL nR k) (hR : okR9 nR rs) (h : 20 * dO ≤ dz (kH k)) {f : Nat} (hf : kF k = nI f) : ∀ m, 20 * dO ≤ dz (kH (sp_run nR rs k m)) ∧ kC (sp_run nR rs k m) = kC k + nI m ∧ (∃ f', f ≤ f' ∧ f' ≤ f + 2 * m ∧ kF (sp_run nR rs k m) = nI f') ∧ (kL k = false → kL (sp_run nR rs k m) = false ∧ kF (sp_run nR rs k m) = kF k)
  | 0 => ⟨h, (Int32.add_zero _).symm, ⟨f, Nat.le_refl f, by omega, hf⟩, fun w => ⟨w, rfl⟩⟩
  | m + 1 => by
    obtain ⟨a1, a2, ⟨f', b1, b2, b3⟩, a4⟩ := run_all hk hL hR h hf m
    obtain ⟨k1, k2⟩ := run_ok hk hL hR m
    obtain ⟨s1, s2, s3, s4⟩ := step_all k1 k2 hR a1
    refine ⟨s1, ?_, ?_, fun w => ?_⟩
    · show kC (sp_step nR rs (sp_run nR rs k m)) = _
      rw [s2, a2, Int32.add_assoc, nI_1]
    · show ∃ f', f ≤ f' ∧ f' ≤ f + 2 * (m + 1) ∧ kF (sp_step nR rs (sp_run nR rs k m)) = nI f'
      rcases s3 with w | w | w
      · exact ⟨f', b1, by omega, w.trans b3⟩
      · exact ⟨f' + 1, by omega, by omega, by rw [w, b3, nI_1]⟩
      · exact ⟨f' + 2, by omega, by omega, by rw [w, b3]; exact nI_add f' 2⟩
    · obtain ⟨w1, w2⟩ := a4 w
      obtain ⟨v1, v2⟩ := s4 w1
      exact ⟨v1, v2.trans w2⟩
