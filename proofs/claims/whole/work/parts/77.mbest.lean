/-! THE REFERENCE: UNLOAD, BEST -/
theorem ors0 (A B C D : Prop) [Decidable A] [Decidable B] [Decidable C] [Decidable D] : ((((0 ||| (if A then (8 : Int32) else 0)) ||| (if B then 16 else 0)) ||| (if C then 32 else 0)) ||| (if D then 64 else 0)) = 0 ↔ ¬ A ∧ ¬ B ∧ ¬ C ∧ ¬ D := by
  by_cases a : A <;> by_cases b : B <;> by_cases c : C <;> by_cases d : D <;> simp only [a, b, c, d, if_true, if_false, not_true_eq_false, not_false_eq_true, and_true, and_false, true_and, false_and, iff_true, iff_false] <;> decide
theorem marks0 {me cone : Int32} {gr kg : UInt64} : sp_marks me gr kg cone = 0 ↔ ¬ cone < me ∧ ¬ me + 2 < cone ∧ ¬ dgt (FP.dsub gr kg) 4611686018427387904 ∧ ¬ dgt (FP.dsub kg gr) 4611686018427387904 := ors0 _ _ _ _
theorem abs2 {gr kg : UInt64} (hg : DF gr) (hk : DF kg) : dgt (FP.dsub gr kg &&& 0x7fffffffffffffff) 4611686018427387904 ↔ dgt (FP.dsub gr kg) 4611686018427387904 ∨ dgt (FP.dsub kg gr) 4611686018427387904 := by
  have n1 := dsub_n hg.n hk
  have n2 := dsub_n hk.n hg
  have d2 := (df_whole w2).n
  obtain ⟨a1, a2⟩ := dz_abs n1
  have tn := sub_turn hg hk
  have p2 : 0 < dz 4611686018427387904 := by rw [dz_whole w2]; exact Int.mul_pos (by decide) dO_pos
  rw [dcmp_gt9i a1 d2, dcmp_gt9i n1 d2, dcmp_gt9i n2 d2, a2, tn]
  split <;> omega
theorem dist_lt {g b kg : UInt64} (hg : DF g) (hb : DF b) (hk : DF kg) : dlt (FP.dsub g kg &&& 0x7fffffffffffffff) (FP.dsub b kg &&& 0x7fffffffffffffff) ↔ dlt (sp_dist g kg) (sp_dist b kg) := by
  obtain ⟨a1, a2, a3⟩ := dist_abs hg hk
  obtain ⟨b1, b2, b3⟩ := dist_abs hb hk
  rw [dcmp_lt9i a3 b3, dcmp_lt9i a1 b1, a2, b2]
theorem clr_f {k : KT} (h : sp_worn (kW k) 3 = false) : sp_clr k = (kH k, kP k, kO k, kL k, kA k, kE k, kC k, kF k, kS k, sp_zero (kW k) 3) := by
  rw [sp_clr, h]; rfl
theorem clr_t {k : KT} (h : sp_worn (kW k) 3 = true) : sp_clr k = (kH k, FP.fmul 1065091072 (kP k), kO k, kL k, kA k, kE k, kC k, kF k, kS k, sp_zero (kW k) 3) := by
  rw [sp_clr, h]; rfl
theorem nI_ne9 {b : Nat} (h : b < 2 ^ 31) : ¬ nI b = -1 := fun w => by
  have := congrArg Int32.toInt w
  rw [nI_toInt h] at this
  have e : (-1 : Int32).toInt = -1 := by decide
  omega

set_option maxHeartbeats 4000000 in
set_option maxRecDepth 100000 in
theorem lp_X10_wear {K : KC} (C : CX K RX10 cX10_unload 4 rm_X10_unload) (hl : (Kl K).stackTraces = false) {m0 kl wk : Nat} {L : Nat → Nat} {E : Nat → Nat} {M : Nat → Int32} {ca : Nat → Nat} {ga : Nat → Nat} {pa : Nat → Nat} {oa : Nat → Nat} {ra : Nat → Nat} {th : Int32} {nC : Nat} {cs : Nat → Int32 × Int32} {nG : Nat} {gs : Nat → GT} {nP : Nat} {ps : Nat → PT} {nO : Nat} {os : Nat → OT} {nR : Nat} {rs : Nat → RT} {k : KT} {dmp : Int32} {day : Int32} {pur : Int32} {rf : Int32} {z0 : Int32}
    (kk : ∀ h', Mh (Kt K) m0 kl wk L E M ca ga pa oa ra th nC cs nG gs nP ps nO os nR rs ((kH k, kP k, kO k, kL k, kA k, kE k, kC k, kF k, kS k, sp_zero (kW k) 3)) dmp day pur rf h' → WW K (1, 4) 143 [some (.ref m0), some (.int z0), some (.int (bi (sp_worn (kW k) 3))), some (.int (nI 3))] [] h')
    : ∀ j : Nat, j ≤ 3 → ∀ {h : HM},  (YY : Mh (Kt K) m0 kl wk L E M ca ga pa oa ra th nC cs nG gs nP ps nO os nR rs ((kH k, kP k, kO k, kL k, kA k, kE k, kC k, kF k, kS k, sp_zero (kW k) j)) dmp day pur rf h) → WW K (1, 4) 100 [some (.ref m0), some (.int z0), some (.int (bi (sp_worn (kW k) j))), some (.int (nI j))] [] h := by
  refine up_ind ?_
  intro j hj ih h YY
  obtain ⟨mm, mL, mk, mw, mCl, mGl, mPt, mOr, mRm, mn1, mn2, mn3⟩ := id YY
  refine w_iload_n C dX10_unload_100 (by rfl) ?_
  refine w_iconst (v := 3) C dX10_unload_101 (by rfl) ?_
  refine w_icmp_ge (tgt := 143) C dX10_unload_102 (by rfl) (fun c_102 => ?_) (fun c_102 => ?_)
  · have e3 : ¬ j < 3 := fun q => nI_ge q (show 3 < 2 ^ 31 by decide) c_102
    obtain rfl : j = 3 := by omega
    exact kk _ YY
  · have hj3 : j < 3 := Nat.not_le.mp (fun q => c_102 (nI_le (a := 3) q (by omega)))
    refine w_iload_n C dX10_unload_105 (by rfl) ?_
    first | refine w_aload_n C dX10_unload_106 (by rfl) ?_ | refine w_aload_nN C dX10_unload_106 (by rfl) ?_
    refine gf_X10_28 C mm dX10_unload_107 ?_
    refine gf_X10_249 C mk dX10_unload_110 ?_
    refine w_iload_n C dX10_unload_113 (by rfl) ?_
    refine w_daldn C mw hj3 (by decide) dX10_unload_114 ?_
    rw [show kW (kH k, kP k, kO k, kL k, kA k, kE k, kC k, kF k, kS k, sp_zero (kW k) j) j = kW k j from zero_at _ _]
    refine w_dconst0 C dX10_unload_115 ?_
    refine w_dcmp C dX10_unload_116 ?_
    refine w_if_le (tgt := 124) C dX10_unload_117 (by rfl) (fun c_117 => ?_) (fun c_117 => ?_)
    · try simp only [cg_ge, cg_gt, cl_gt, cl_le, cl_eq, cl_lt, cl_ge, bi_eq0, bi_ne0, bI_eq0, Decidable.not_not, Bool.not_eq_false] at c_117
      refine w_iconst (v := 0) C dX10_unload_124 (by rfl) ?_
      refine w_ior C dX10_unload_125 ?_
      rw [Int32.or_zero, ← worn_f c_117]
      refine w_istore_2 C dX10_unload_126 (by first | trivial | rfl) ?_
      first | refine w_aload_n C dX10_unload_127 (by rfl) ?_ | refine w_aload_nN C dX10_unload_127 (by rfl) ?_
      refine gf_X10_28 C mm dX10_unload_128 ?_
      refine gf_X10_249 C mk dX10_unload_131 ?_
      refine w_iload_n C dX10_unload_134 (by rfl) ?_
      refine w_dconst0 C dX10_unload_135 ?_
      refine w_dastn C mw hj3 (by decide) dX10_unload_136 (fun h9 u9 => ?_)
      have YY := YY.kiln (k2 := (kH k, kP k, kO k, kL k, kA k, kE k, kC k, kF k, kS k, sp_zero (kW k) (j + 1))) (u9.oth mk mw (by intro v; simp at v)) (by have := u9.self; rw [show vf_upd (kW (kH k, kP k, kO k, kL k, kA k, kE k, kC k, kF k, kS k, sp_zero (kW k) j)) j FP.dconst0 = sp_zero (kW k) (j + 1) from zero_s _ _] at this; exact this) (u9.fr.sub (by simp))
      obtain ⟨mm, mL, mk, mw, mCl, mGl, mPt, mOr, mRm, mn1, mn2, mn3⟩ := id YY
      refine w_iinc_3 (v := _ + (1)) C dX10_unload_137 (by rfl) (by first | trivial | rfl) ?_
      refine w_goto (tgt := 100) C dX10_unload_140 (by rfl) ?_
      rw [nI_1 j]
      exact w_sub (ih hj3 YY) (by repeat' first | exact trivial | rfl | constructor)
    · try simp only [cg_ge, cg_gt, cl_gt, cl_le, cl_eq, cl_lt, cl_ge, bi_eq0, bi_ne0, bI_eq0, Decidable.not_not, Bool.not_eq_false] at c_117
      refine w_iconst (v := 1) C dX10_unload_120 (by rfl) ?_
      refine w_goto (tgt := 125) C dX10_unload_121 (by rfl) ?_
      refine w_ior C dX10_unload_125 ?_
      rw [show bi (sp_worn (kW k) j) ||| (1 : Int32) = bi (sp_worn (kW k) (j + 1)) from by rw [worn_t c_117]; cases sp_worn (kW k) j <;> decide]
      refine w_istore_2 C dX10_unload_126 (by first | trivial | rfl) ?_
      first | refine w_aload_n C dX10_unload_127 (by rfl) ?_ | refine w_aload_nN C dX10_unload_127 (by rfl) ?_
      refine gf_X10_28 C mm dX10_unload_128 ?_
      refine gf_X10_249 C mk dX10_unload_131 ?_
      refine w_iload_n C dX10_unload_134 (by rfl) ?_
      refine w_dconst0 C dX10_unload_135 ?_
      refine w_dastn C mw hj3 (by decide) dX10_unload_136 (fun h9 u9 => ?_)
      have YY := YY.kiln (k2 := (kH k, kP k, kO k, kL k, kA k, kE k, kC k, kF k, kS k, sp_zero (kW k) (j + 1))) (u9.oth mk mw (by intro v; simp at v)) (by have := u9.self; rw [show vf_upd (kW (kH k, kP k, kO k, kL k, kA k, kE k, kC k, kF k, kS k, sp_zero (kW k) j)) j FP.dconst0 = sp_zero (kW k) (j + 1) from zero_s _ _] at this; exact this) (u9.fr.sub (by simp))
      obtain ⟨mm, mL, mk, mw, mCl, mGl, mPt, mOr, mRm, mn1, mn2, mn3⟩ := id YY
      refine w_iinc_3 (v := _ + (1)) C dX10_unload_137 (by rfl) (by first | trivial | rfl) ?_
      refine w_goto (tgt := 100) C dX10_unload_140 (by rfl) ?_
      rw [nI_1 j]
      exact w_sub (ih hj3 YY) (by repeat' first | exact trivial | rfl | constructor)

theorem cnt_P14 {nP : Nat} {cs : Nat → Int32 × Int32} {gs : Nat → GT} {k : KT} {ps : Nat → PT} (h : nP ≤ 14) : sp_cnt (fun i => decide (i < nP ∧ ¬ qSh (ps i).2.2 = -1 ∧ qSt (sp_firep cs gs (sp_ucone k (ps i)) (ps i)) = 5)) nP = sp_cnt (fun i => decide (i < nP ∧ ¬ qSh (ps i).2.2 = -1 ∧ qSt (sp_firep cs gs (sp_ucone k (ps i)) (ps i)) = 5)) 14 := by
  have := cnt_to (p := (fun i => decide (i < nP ∧ ¬ qSh (ps i).2.2 = -1 ∧ qSt (sp_firep cs gs (sp_ucone k (ps i)) (ps i)) = 5))) (n := nP) (fun i hi => decide_eq_false (fun w => absurd w.1 (Nat.not_lt.mpr hi))) (14 - nP)
  rw [show nP + (14 - nP) = 14 by omega] at this
  exact this.symm

set_option maxHeartbeats 4000000 in
set_option maxRecDepth 100000 in
theorem m_X10_unload {l : Launch} {D : va_G} {tc : Nat → ClassId} (hl : l.stackTraces = false) {h : HM} {m0 kl wk : Nat} {L : Nat → Nat} {E : Nat → Nat} {M : Nat → Int32} {ca : Nat → Nat} {ga : Nat → Nat} {pa : Nat → Nat} {oa : Nat → Nat} {ra : Nat → Nat} {th : Int32} {nC : Nat} {cs : Nat → Int32 × Int32} {nG : Nat} {gs : Nat → GT} {nP : Nat} {ps : Nat → PT} {nO : Nat} {os : Nat → OT} {nR : Nat} {rs : Nat → RT} {k : KT} {dmp : Int32} {day : Int32} {pur : Int32} {rf : Int32} (YY : Mh tc m0 kl wk L E M ca ga pa oa ra th nC cs nG gs nP ps nO os nR rs k dmp day pur rf h) (hn : nP ≤ 14) (hS : ∀ i, i < nP → okSh (ps i).2.2) (hpc : ∀ i, i < nP → (ps i).1 < nC) (hcl : okCl nC cs) (hg : ∀ i, i < nP → okGl nG (ps i)) (hg1 : ∀ i, i < nP → okG1 (ps i)) (hgz : ∀ i, i < nG → glzOk (gs i)) (hP : FP.Core.FFin (kP k)) :
    CT l D tc yX10_unload cX10_unload 4 (some FieldType.int) rm_X10_unload [.ref m0] h (rI (fun z h' => ((kL k = true ∨ dge (kH k) 4636737291354636288) ∧ z = 0 ∧ MhE tc m0 kl wk 1 nC cs nG gs nP ps nO os nR rs k dmp day pur rf h') ∨ (¬ (kL k = true ∨ dge (kH k) 4636737291354636288) ∧ z = sp_cnt (fun i => decide (i < nP ∧ ¬ qSh (ps i).2.2 = -1 ∧ qSt (sp_firep cs gs (sp_ucone k (ps i)) (ps i)) = 5)) 14 ∧ MhE tc m0 kl wk 0 nC cs nG gs nP ((sp_each nP (sp_unl cs gs k) ps 14)) nO os nR rs (sp_clr k) dmp day pur rf h'))) := by
  refine CT.start [some (.ref m0), none, none, none] (by decide) hl rfl rfl (fun K C M => ?_)
  obtain ⟨rfl, rfl, rfl, -⟩ := id M
  have C : CX K RX10 cX10_unload 4 rm_X10_unload := C
  obtain ⟨mm, mL, mk, mw, mCl, mGl, mPt, mOr, mRm, mn1, mn2, mn3⟩ := id YY
  first | refine w_aload_n C dX10_unload_0 (by rfl) ?_ | refine w_aload_nN C dX10_unload_0 (by rfl) ?_
  first | refine w_aload_n C dX10_unload_1 (by rfl) ?_ | refine w_aload_nN C dX10_unload_1 (by rfl) ?_
  refine cl_X10_170 C (m_X10_isHot hl YY) mm (by rfl) (by rfl) ⟨by decide, by decide⟩ (by rfl) dX10_unload_2 (fun z1 h1 p1 => ?_)
  obtain ⟨rfl, rfl⟩ := p1
  refine w_iconst (v := 1) C dX10_unload_5 (by rfl) ?_
  by_cases hot9 : (kL k = true ∨ dge (kH k) 4636737291354636288)
  · rw [← bI_t hot9]
    refine cl_X10_88 C (m_X10_startT hl mm (by decide)) mm (by rfl) (by rfl) ⟨by decide, by decide⟩ (by rfl) dX10_unload_6 (fun z2 h2 p2 => ?_)
    obtain ⟨rfl, p2⟩ := p2
    have YY := YY.me (th2 := 1) (day2 := day) (dmp2 := dmp) (pur2 := pur) (rf2 := rf) p2
    obtain ⟨mm, mL, mk, mw, mCl, mGl, mPt, mOr, mRm, mn1, mn2, mn3⟩ := id YY
    refine w_if_eq (tgt := 14) C dX10_unload_9 (by rfl) (fun c_9 => ?_) (fun c_9 => ?_)
    · exact absurd c_9 (by decide)
    · try simp only [cg_ge, cg_gt, cl_gt, cl_le, cl_eq, cl_lt, cl_ge, bi_eq0, bi_ne0, bI_eq0, Decidable.not_not, Bool.not_eq_false] at c_9
      refine w_iconst (v := 0) C dX10_unload_12 (by rfl) ?_
      refine w_iret C M dX10_unload_13 ⟨by decide, by decide⟩ ⟨_, rfl, ?_⟩
      exact Or.inl ⟨hot9, rfl, YY.ex⟩
  · rw [← bI_f hot9]
    refine cl_X10_88 C (m_X10_startF hl mm) mm (by rfl) (by rfl) ⟨by decide, by decide⟩ (by rfl) dX10_unload_6 (fun z3 h3 p3 => ?_)
    obtain ⟨rfl, p3⟩ := p3
    have YY := YY.me (th2 := 0) (day2 := day) (dmp2 := dmp) (pur2 := pur) (rf2 := rf) p3
    obtain ⟨mm, mL, mk, mw, mCl, mGl, mPt, mOr, mRm, mn1, mn2, mn3⟩ := id YY
    refine w_if_eq (tgt := 14) C dX10_unload_9 (by rfl) (fun c_9 => ?_) (fun c_9 => ?_)
    · try simp only [cg_ge, cg_gt, cl_gt, cl_le, cl_eq, cl_lt, cl_ge, bi_eq0, bi_ne0, bI_eq0, Decidable.not_not, Bool.not_eq_false] at c_9
      refine w_iconst (v := 0) C dX10_unload_14 (by rfl) ?_
      refine w_istore_1 C dX10_unload_15 (by first | trivial | rfl) ?_
      first | refine w_aload_n C dX10_unload_16 (by rfl) ?_ | refine w_aload_nN C dX10_unload_16 (by rfl) ?_
      refine gf_X10_19 C mm dX10_unload_17 ?_
      refine cl_X10_110 C (m_Jx4a65c_iterator_32c93 hl YY.lp) YY.lp (by rfl) (by rfl) ⟨by decide, by decide⟩ (by rfl) dX10_unload_20 (fun z4 h4 p4 => ?_)
      obtain ⟨q, rfl, nq, uq⟩ := p4
      first | refine w_astore_2 C dX10_unload_23 (by first | trivial | rfl) ?_ | refine w_astore_2N C dX10_unload_23 (by first | trivial | rfl) ?_
      refine lp_X10_unload C hl hn hS hpc hcl hg hg1 hgz (fun h8 YY8 => ?_) 0 (by omega) (lr := -1) (by rw [each_0]; exact YY.fr0 (uq.frN nq)) uq.self
      rw [each_14 _ _ hn] at YY8
      have YY := YY8
      obtain ⟨mm, mL, mk, mw, mCl, mGl, mPt, mOr, mRm, mn1, mn2, mn3⟩ := id YY
      refine w_iconst (v := 0) C dX10_unload_96 (by rfl) ?_
      refine w_istore_2 C dX10_unload_97 (by first | trivial | rfl) ?_
      refine w_iconst (v := 0) C dX10_unload_98 (by rfl) ?_
      refine w_istore_3 C dX10_unload_99 (by first | trivial | rfl) ?_
      refine lp_X10_wear C hl (fun h7 YY7 => ?_) 0 (by omega) (by rw [zero_0]; exact YY)
      have YY := YY7
      obtain ⟨mm, mL, mk, mw, mCl, mGl, mPt, mOr, mRm, mn1, mn2, mn3⟩ := id YY
      refine w_iload_n C dX10_unload_143 (by rfl) ?_
      refine w_if_eq (tgt := 162) C dX10_unload_144 (by rfl) (fun c_144 => ?_) (fun c_144 => ?_)
      · try simp only [cg_ge, cg_gt, cl_gt, cl_le, cl_eq, cl_lt, cl_ge, bi_eq0, bi_ne0, bI_eq0, Decidable.not_not, Bool.not_eq_false] at c_144
        refine w_iload_n C dX10_unload_162 (by rfl) ?_
        refine w_iret C M dX10_unload_163 ⟨by decide, by decide⟩ ⟨_, rfl, ?_⟩
        exact Or.inr ⟨hot9, cnt_P14 hn, by rw [clr_f c_144]; exact YY.ex⟩
      · try simp only [cg_ge, cg_gt, cl_gt, cl_le, cl_eq, cl_lt, cl_ge, bi_eq0, bi_ne0, bI_eq0, Decidable.not_not, Bool.not_eq_false] at c_144
        first | refine w_aload_n C dX10_unload_147 (by rfl) ?_ | refine w_aload_nN C dX10_unload_147 (by rfl) ?_
        refine gf_X10_28 C mm dX10_unload_148 ?_
        refine w_dup C dX10_unload_151 (by rfl) ?_
        refine gf_X10_252 C mk dX10_unload_152 ?_
        refine w_ldcwf C gw_1485 dX10_unload_155 ?_
        refine w_fmul C dX10_unload_158 (by rw [show FP.fmul (kP k) 1065091072 = FP.fmul 1065091072 (kP k) from FP.Core.fmul_comm _ _]; exact worn_n hP) ?_
        rw [show FP.fmul (kP k) 1065091072 = FP.fmul 1065091072 (kP k) from FP.Core.fmul_comm _ _]
        refine pf_X10_252 C mk dX10_unload_159 (fun h5 u5 => ?_)
        have mk := u5.self
        have YY := YY.kiln1 (k2 := (kH k, FP.fmul 1065091072 (kP k), kO k, kL k, kA k, kE k, kC k, kF k, kS k, sp_zero (kW k) 3)) u5 rfl
        refine w_iload_n C dX10_unload_162 (by rfl) ?_
        refine w_iret C M dX10_unload_163 ⟨by decide, by decide⟩ ⟨_, rfl, ?_⟩
        exact Or.inr ⟨hot9, cnt_P14 hn, by rw [clr_t c_144]; exact YY.ex⟩
    · exact absurd c_9 (by decide)

set_option maxHeartbeats 4000000 in
set_option maxRecDepth 100000 in
theorem lp_X10_best {K : KC} (C : CX K RX10 cX10_best 7 rm_X10_best) (hl : (Kl K).stackTraces = false) {h : HM} {c : Nat} {cone : Int32} {m0 kl wk : Nat} {L : Nat → Nat} {E : Nat → Nat} {M : Nat → Int32} {ca : Nat → Nat} {ga : Nat → Nat} {pa : Nat → Nat} {oa : Nat → Nat} {ra : Nat → Nat} {th : Int32} {nC : Nat} {cs : Nat → Int32 × Int32} {nG : Nat} {gs : Nat → GT} {nP : Nat} {ps : Nat → PT} {nO : Nat} {os : Nat → OT} {nR : Nat} {rs : Nat → RT} {k : KT} {dmp : Int32} {day : Int32} {pur : Int32} {rf : Int32} (YY : Mh (Kt K) m0 kl wk L E M ca ga pa oa ra th nC cs nG gs nP ps nO os nR rs k dmp day pur rf h) (bG : nG ≤ 4) (hc : c < nC) (hq : 8 ≤ (cs c).2.toInt ∧ (cs c).2.toInt ≤ 40) (hgz : ∀ i, i < nG → glzOk (gs i))
    (kk : WW K (0, 0) 140 [some (.ref m0), some (.int (nI c)), some (.int cone), some (.int (bestI (sp_best gs (sp_cg (cs c).2) cone nG nG))), some (.int (nI nG)), none, none] [] h)
    : ∀ j : Nat, j ≤ nG → WW K (0, 0) 43 [some (.ref m0), some (.int (nI c)), some (.int cone), some (.int (bestI (sp_best gs (sp_cg (cs c).2) cone nG j))), some (.int (nI j)), none, none] [] h := by
  refine up_ind ?_
  intro j hj ih  
  obtain ⟨mm, mL, mk, mw, mCl, mGl, mPt, mOr, mRm, mn1, mn2, mn3⟩ := id YY
  have cF : DF (sp_cg (cs c).2) := cg_fin hq
  refine w_iload C dX10_best_43 (by rfl) ?_
  first | refine w_aload_n C dX10_best_45 (by rfl) ?_ | refine w_aload_nN C dX10_best_45 (by rfl) ?_
  refine gf_X10_16 C mm dX10_best_46 ?_
  refine cl_X10_40 C (m_Jx4a65c_size_8abf5 hl YY.lg) YY.lg (by rfl) (by rfl) ⟨by decide, by decide⟩ (by rfl) dX10_best_49 (fun z1 h1 p1 => ?_)
  obtain ⟨rfl, rfl⟩ := p1
  refine w_icmp_ge (tgt := 140) C dX10_best_52 (by rfl) (fun c_52 => ?_) (fun c_52 => ?_)
  · have e3 : ¬ j < nG := fun q => nI_ge q (by omega) c_52
    obtain rfl : j = nG := by omega
    exact kk
  · have hj3 : j < nG := Nat.not_le.mp (fun q => c_52 (nI_le (a := nG) q (by omega)))
    obtain ⟨gN, gF, -, -⟩ := glz_all (hgz j hj3)
    first | refine w_aload_n C dX10_best_55 (by rfl) ?_ | refine w_aload_nN C dX10_best_55 (by rfl) ?_
    refine w_iload C dX10_best_56 (by rfl) ?_
    refine cl_X10_230 C (m_X10_growth hl YY hj3 gN) mm (by rfl) (by rfl) ⟨by decide, by decide⟩ (by rfl) dX10_best_58 (fun z2 h2 p2 => ?_)
    obtain ⟨rfl, rfl⟩ := p2
    first | refine w_aload_n C dX10_best_61 (by rfl) ?_ | refine w_aload_nN C dX10_best_61 (by rfl) ?_
    refine w_iload_n C dX10_best_62 (by rfl) ?_
    refine cl_X10_234 C (m_X10_growthOf hl YY hc hq) mm (by rfl) (by rfl) ⟨by decide, by decide⟩ (by rfl) dX10_best_63 (fun z3 h3 p3 => ?_)
    obtain ⟨rfl, rfl⟩ := p3
    refine w_dsub C dX10_best_66 (nn_of (dsub_n gF.n cF)) ?_
    refine w_dabs C (abs_nan (dsub_n gF.n cF)) gw_1587 (by rfl) (by rfl) (by rfl) (by rfl) ⟨by decide, by decide⟩ dX10_best_67 ?_
    refine w_dstore_5 C dX10_best_70 (by first | trivial | rfl) ?_
    refine w_iload_n C dX10_best_72 (by rfl) ?_
    first | refine w_aload_n C dX10_best_73 (by rfl) ?_ | refine w_aload_nN C dX10_best_73 (by rfl) ?_
    refine w_iload C dX10_best_74 (by rfl) ?_
    refine cl_X10_147 C (m_X10_melts hl YY hj3 (hgz j hj3)) mm (by rfl) (by rfl) ⟨by decide, by decide⟩ (by rfl) dX10_best_76 (fun z4 h4 p4 => ?_)
    obtain ⟨rfl, rfl⟩ := p4
    refine w_icmp_lt (tgt := 134) C dX10_best_79 (by rfl) (fun c_79 => ?_) (fun c_79 => ?_)
    · have eb := best_no (gs := gs) (kg := (sp_cg (cs c).2)) (cone := cone) (nG := nG) (j := j) (fun w => (marks0.mp w.2).1 c_79)
      refine w_iinc_4 (v := _ + (1)) C dX10_best_134 (by rfl) (by first | trivial | rfl) ?_
      refine w_goto (tgt := 43) C dX10_best_137 (by rfl) ?_
      rw [nI_1 j]
      first
        | rw [← eb]
        | rw [show nI j = bestI (some j) from rfl, ← eb]
        | rw [← hb9, ← eb]
      exact w_sub (ih hj3) (by repeat' first | exact trivial | rfl | constructor)
    · refine w_iload_n C dX10_best_82 (by rfl) ?_
      first | refine w_aload_n C dX10_best_83 (by rfl) ?_ | refine w_aload_nN C dX10_best_83 (by rfl) ?_
      refine w_iload C dX10_best_84 (by rfl) ?_
      refine cl_X10_147 C (m_X10_melts hl YY hj3 (hgz j hj3)) mm (by rfl) (by rfl) ⟨by decide, by decide⟩ (by rfl) dX10_best_86 (fun z5 h5 p5 => ?_)
      obtain ⟨rfl, rfl⟩ := p5
      refine w_iconst (v := 2) C dX10_best_89 (by rfl) ?_
      refine w_iadd C dX10_best_90 ?_
      refine w_icmp_gt (tgt := 134) C dX10_best_91 (by rfl) (fun c_91 => ?_) (fun c_91 => ?_)
      · have eb := best_no (gs := gs) (kg := (sp_cg (cs c).2)) (cone := cone) (nG := nG) (j := j) (fun w => (marks0.mp w.2).2.1 c_91)
        refine w_iinc_4 (v := _ + (1)) C dX10_best_134 (by rfl) (by first | trivial | rfl) ?_
        refine w_goto (tgt := 43) C dX10_best_137 (by rfl) ?_
        rw [nI_1 j]
        first
          | rw [← eb]
          | rw [show nI j = bestI (some j) from rfl, ← eb]
          | rw [← hb9, ← eb]
        exact w_sub (ih hj3) (by repeat' first | exact trivial | rfl | constructor)
      · refine w_dload C dX10_best_94 (by rfl) ?_
        refine lc_X10_84 C dX10_best_96 ?_
        refine w_dcmp C dX10_best_99 ?_
        refine w_if_le (tgt := 106) C dX10_best_100 (by rfl) (fun c_100 => ?_) (fun c_100 => ?_)
        · try simp only [cg_ge, cg_gt, cl_gt, cl_le, cl_eq, cl_lt, cl_ge, bi_eq0, bi_ne0, bI_eq0, Decidable.not_not, Bool.not_eq_false] at c_100
          have hm9 : j < nG ∧ sp_marks (sp_melts (gs j)) (sp_growth (gs j)) (sp_cg (cs c).2) cone = 0 := ⟨hj3, marks0.mpr ⟨c_79, c_91, fun w => c_100 ((abs2 gF cF).mpr (Or.inl w)), fun w => c_100 ((abs2 gF cF).mpr (Or.inr w))⟩⟩
          cases hb9 : (sp_best gs (sp_cg (cs c).2) cone nG j)
          · have eb := best_n hm9 hb9
            refine w_iload_n C dX10_best_106 (by rfl) ?_
            refine w_iconst (v := (-1)) C dX10_best_107 (by rfl) ?_
            refine w_icmp_eq (tgt := 131) C dX10_best_108 (by rfl) (fun c_108 => ?_) (fun c_108 => ?_)
            · refine w_iload C dX10_best_131 (by rfl) ?_
              refine w_istore_3 C dX10_best_133 (by first | trivial | rfl) ?_
              refine w_iinc_4 (v := _ + (1)) C dX10_best_134 (by rfl) (by first | trivial | rfl) ?_
              refine w_goto (tgt := 43) C dX10_best_137 (by rfl) ?_
              rw [nI_1 j]
              first
                | rw [← eb]
                | rw [show nI j = bestI (some j) from rfl, ← eb]
                | rw [← hb9, ← eb]
              exact w_sub (ih hj3) (by repeat' first | exact trivial | rfl | constructor)
            · exact absurd rfl c_108
          · rename_i b
            have hb1 := best_lt j b hb9
            obtain ⟨bN, bF, -, -⟩ := glz_all (hgz b (by omega))
            refine w_iload_n C dX10_best_106 (by rfl) ?_
            refine w_iconst (v := (-1)) C dX10_best_107 (by rfl) ?_
            refine w_icmp_eq (tgt := 131) C dX10_best_108 (by rfl) (fun c_108 => ?_) (fun c_108 => ?_)
            · exact absurd c_108 (nI_ne9 (by omega))
            · refine w_dload C dX10_best_111 (by rfl) ?_
              first | refine w_aload_n C dX10_best_113 (by rfl) ?_ | refine w_aload_nN C dX10_best_113 (by rfl) ?_
              refine w_iload_n C dX10_best_114 (by rfl) ?_
              refine cl_X10_230 C (m_X10_growth hl YY (show b < nG by omega) bN) mm (by rfl) (by rfl) ⟨by decide, by decide⟩ (by rfl) dX10_best_115 (fun z6 h6 p6 => ?_)
              obtain ⟨rfl, rfl⟩ := p6
              first | refine w_aload_n C dX10_best_118 (by rfl) ?_ | refine w_aload_nN C dX10_best_118 (by rfl) ?_
              refine w_iload_n C dX10_best_119 (by rfl) ?_
              refine cl_X10_234 C (m_X10_growthOf hl YY hc hq) mm (by rfl) (by rfl) ⟨by decide, by decide⟩ (by rfl) dX10_best_120 (fun z7 h7 p7 => ?_)
              obtain ⟨rfl, rfl⟩ := p7
              refine w_dsub C dX10_best_123 (nn_of (dsub_n bF.n cF)) ?_
              refine w_dabs C (abs_nan (dsub_n bF.n cF)) gw_1587 (by rfl) (by rfl) (by rfl) (by rfl) ⟨by decide, by decide⟩ dX10_best_124 ?_
              refine w_dcmp C dX10_best_127 ?_
              refine w_if_ge (tgt := 134) C dX10_best_128 (by rfl) (fun c_128 => ?_) (fun c_128 => ?_)
              · try simp only [cg_ge, cg_gt, cl_gt, cl_le, cl_eq, cl_lt, cl_ge, bi_eq0, bi_ne0, bI_eq0, Decidable.not_not, Bool.not_eq_false] at c_128
                have eb := best_s hm9 hb9 (fun w => c_128 ((dist_lt gF bF cF).mpr w))
                refine w_iinc_4 (v := _ + (1)) C dX10_best_134 (by rfl) (by first | trivial | rfl) ?_
                refine w_goto (tgt := 43) C dX10_best_137 (by rfl) ?_
                rw [nI_1 j]
                first
                  | rw [← eb]
                  | rw [show nI j = bestI (some j) from rfl, ← eb]
                  | rw [← hb9, ← eb]
                exact w_sub (ih hj3) (by repeat' first | exact trivial | rfl | constructor)
              · try simp only [cg_ge, cg_gt, cl_gt, cl_le, cl_eq, cl_lt, cl_ge, bi_eq0, bi_ne0, bI_eq0, Decidable.not_not, Bool.not_eq_false] at c_128
                have eb := best_y hm9 hb9 ((dist_lt gF bF cF).mp c_128)
                refine w_iload C dX10_best_131 (by rfl) ?_
                refine w_istore_3 C dX10_best_133 (by first | trivial | rfl) ?_
                refine w_iinc_4 (v := _ + (1)) C dX10_best_134 (by rfl) (by first | trivial | rfl) ?_
                refine w_goto (tgt := 43) C dX10_best_137 (by rfl) ?_
                rw [nI_1 j]
                first
                  | rw [← eb]
                  | rw [show nI j = bestI (some j) from rfl, ← eb]
                  | rw [← hb9, ← eb]
                exact w_sub (ih hj3) (by repeat' first | exact trivial | rfl | constructor)
        · try simp only [cg_ge, cg_gt, cl_gt, cl_le, cl_eq, cl_lt, cl_ge, bi_eq0, bi_ne0, bI_eq0, Decidable.not_not, Bool.not_eq_false] at c_100
          have eb := best_no (gs := gs) (kg := (sp_cg (cs c).2)) (cone := cone) (nG := nG) (j := j) (fun w => by rcases (abs2 gF cF).mp c_100 with v | v; exact (marks0.mp w.2).2.2.1 v; exact (marks0.mp w.2).2.2.2 v)
          refine w_goto (tgt := 134) C dX10_best_103 (by rfl) ?_
          refine w_iinc_4 (v := _ + (1)) C dX10_best_134 (by rfl) (by first | trivial | rfl) ?_
          refine w_goto (tgt := 43) C dX10_best_137 (by rfl) ?_
          rw [nI_1 j]
          first
            | rw [← eb]
            | rw [show nI j = bestI (some j) from rfl, ← eb]
            | rw [← hb9, ← eb]
          exact w_sub (ih hj3) (by repeat' first | exact trivial | rfl | constructor)
