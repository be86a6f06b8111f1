/-! THE REFERENCE: POTS, ORDERS, RAMPS -/

set_option maxHeartbeats 4000000 in
set_option maxRecDepth 100000 in
theorem m_X10_pot {l : Launch} {D : va_G} {tc : Nat → ClassId} (hl : l.stackTraces = false) {h : HM} {m0 kl wk : Nat} {L : Nat → Nat} {E : Nat → Nat} {M : Nat → Int32} {ca : Nat → Nat} {ga : Nat → Nat} {pa : Nat → Nat} {oa : Nat → Nat} {ra : Nat → Nat} {th : Int32} {nC : Nat} {cs : Nat → Int32 × Int32} {nG : Nat} {gs : Nat → GT} {nP : Nat} {ps : Nat → PT} {nO : Nat} {os : Nat → OT} {nR : Nat} {rs : Nat → RT} {k : KT} {dmp : Int32} {day : Int32} {pur : Int32} {rf : Int32} (YY : Mh tc m0 kl wk L E M ca ga pa oa ra th nC cs nG gs nP ps nO os nR rs k dmp day pur rf h) (bC : nC ≤ 3) (bP : nP ≤ 14) {cl wd hg wl : Int32} :
    CT l D tc yX10_pot cX10_pot 5 (some FieldType.int) rm_X10_pot [.ref m0, .int cl, .int wd, .int hg, .int wl] h (rI (fun z h' => (out9 cl nC ∧ z = 0 ∧ MhE tc m0 kl wk 1 nC cs nG gs nP ps nO os nR rs k dmp day pur rf h') ∨ (∃ c, c < nC ∧ cl = nI c ∧ ((¬ ((1 ≤ wd ∧ wd ≤ 5) ∧ (1 ≤ hg ∧ hg ≤ 3) ∧ (wl = 1 ∨ wl = 2 ∨ wl = 4)) ∧ z = 0 ∧ MhE tc m0 kl wk 2 nC cs nG gs nP ps nO os nR rs k dmp day pur rf h') ∨ (((1 ≤ wd ∧ wd ≤ 5) ∧ (1 ≤ hg ∧ hg ≤ 3) ∧ (wl = 1 ∨ wl = 2 ∨ wl = 4)) ∧ ¬ nP < 14 ∧ z = 0 ∧ MhE tc m0 kl wk 3 nC cs nG gs nP ps nO os nR rs k dmp day pur rf h') ∨ (((1 ≤ wd ∧ wd ≤ 5) ∧ (1 ≤ hg ∧ hg ≤ 3) ∧ (wl = 1 ∨ wl = 2 ∨ wl = 4)) ∧ nP < 14 ∧ z = nI nP ∧ MhE tc m0 kl wk 0 nC cs nG gs (nP + 1) (vf_upd ps nP (c, none, (wd, hg, wl, 0, 1090519040, false, 0, 0, -1, -1))) nO os nR rs k dmp day pur rf h'))))) := by
  refine CT.start [some (.ref m0), some (.int cl), some (.int wd), some (.int hg), some (.int wl)] (by decide) hl rfl rfl (fun K C M => ?_)
  obtain ⟨rfl, rfl, rfl, -⟩ := id M
  have C : CX K RX10 cX10_pot 5 rm_X10_pot := C
  obtain ⟨mm, mL, mk, mw, mCl, mGl, mPt, mOr, mRm, mn1, mn2, mn3⟩ := id YY
  first | refine w_aload_n C dX10_pot_0 (by rfl) ?_ | refine w_aload_nN C dX10_pot_0 (by rfl) ?_
  first | refine w_aload_n C dX10_pot_1 (by rfl) ?_ | refine w_aload_nN C dX10_pot_1 (by rfl) ?_
  refine w_iload_n C dX10_pot_2 (by rfl) ?_
  refine cl_X10_95 C (m_X10_isNoClay hl YY (by omega)) mm (by rfl) (by rfl) ⟨by decide, by decide⟩ (by rfl) dX10_pot_3 (fun z1 h1 p1 => ?_)
  obtain ⟨rfl, p_3⟩ := p1
  rcases p_3 with ⟨rfl, c_3⟩ | ⟨rfl, c0, hc0, rfl⟩
  · 
    refine w_iconst (v := 1) C dX10_pot_6 (by rfl) ?_
    refine cl_X10_88 C (m_X10_startT hl mm (by decide)) mm (by rfl) (by rfl) ⟨by decide, by decide⟩ (by rfl) dX10_pot_7 (fun z2 h2 p2 => ?_)
    obtain ⟨rfl, p2⟩ := p2
    have YY := YY.me (th2 := 1) (day2 := day) (dmp2 := dmp) (pur2 := pur) (rf2 := rf) p2
    obtain ⟨mm, mL, mk, mw, mCl, mGl, mPt, mOr, mRm, mn1, mn2, mn3⟩ := id YY
    refine w_if_ne (tgt := 87) C dX10_pot_10 (by rfl) (fun c_10 => ?_) (fun c_10 => ?_)
    · try simp only [cg_ge, cg_gt, cl_gt, cl_le, cl_eq, cl_lt, cl_ge, bi_eq0, bi_ne0, bI_eq0, Decidable.not_not, Bool.not_eq_false] at c_10
      refine w_iconst (v := 0) C dX10_pot_87 (by rfl) ?_
      refine w_iret C M dX10_pot_88 ⟨by decide, by decide⟩ ⟨_, rfl, ?_⟩
      exact Or.inl ⟨c_3, rfl, YY.ex⟩
    · exact absurd c_10 (by decide)
  · 
    refine w_iconst (v := 1) C dX10_pot_6 (by rfl) ?_
    refine cl_X10_88 C (m_X10_startF hl mm) mm (by rfl) (by rfl) ⟨by decide, by decide⟩ (by rfl) dX10_pot_7 (fun z3 h3 p3 => ?_)
    obtain ⟨rfl, p3⟩ := p3
    have YY := YY.me (th2 := 0) (day2 := day) (dmp2 := dmp) (pur2 := pur) (rf2 := rf) p3
    obtain ⟨mm, mL, mk, mw, mCl, mGl, mPt, mOr, mRm, mn1, mn2, mn3⟩ := id YY
    refine w_if_ne (tgt := 87) C dX10_pot_10 (by rfl) (fun c_10 => ?_) (fun c_10 => ?_)
    · exact absurd c_10 (by decide)
    · try simp only [cg_ge, cg_gt, cl_gt, cl_le, cl_eq, cl_lt, cl_ge, bi_eq0, bi_ne0, bI_eq0, Decidable.not_not, Bool.not_eq_false] at c_10
      first | refine w_aload_n C dX10_pot_13 (by rfl) ?_ | refine w_aload_nN C dX10_pot_13 (by rfl) ?_
      refine w_iload_n C dX10_pot_14 (by rfl) ?_
      refine w_iconst (v := 1) C dX10_pot_15 (by rfl) ?_
      refine w_iconst (v := 5) C dX10_pot_16 (by rfl) ?_
      refine cl_X10_44 C (m_X10_isIn hl) (by rfl) (by rfl) ⟨by decide, by decide⟩ (by rfl) dX10_pot_17 (fun z4 h4 p4 => ?_)
      obtain ⟨rfl, rfl⟩ := p4
      refine w_if_eq (tgt := 50) C dX10_pot_20 (by rfl) (fun c_20 => ?_) (fun c_20 => ?_)
      · try simp only [cg_ge, cg_gt, cl_gt, cl_le, cl_eq, cl_lt, cl_ge, bi_eq0, bi_ne0, bI_eq0, Decidable.not_not, Bool.not_eq_false] at c_20
        refine w_iconst (v := 1) C dX10_pot_50 (by rfl) ?_
        refine w_goto (tgt := 55) C dX10_pot_51 (by rfl) ?_
        refine w_iconst (v := 2) C dX10_pot_55 (by rfl) ?_
        refine cl_X10_36 C (m_X10_refuseT hl mm (by decide)) mm (by rfl) (by rfl) ⟨by decide, by decide⟩ (by rfl) dX10_pot_56 (fun z5 h5 p5 => ?_)
        obtain ⟨rfl, p5⟩ := p5
        have YY := YY.me (th2 := 2) (day2 := day) (dmp2 := dmp) (pur2 := pur) (rf2 := rf) p5
        obtain ⟨mm, mL, mk, mw, mCl, mGl, mPt, mOr, mRm, mn1, mn2, mn3⟩ := id YY
        refine w_if_ne (tgt := 87) C dX10_pot_59 (by rfl) (fun c_59 => ?_) (fun c_59 => ?_)
        · try simp only [cg_ge, cg_gt, cl_gt, cl_le, cl_eq, cl_lt, cl_ge, bi_eq0, bi_ne0, bI_eq0, Decidable.not_not, Bool.not_eq_false] at c_59
          refine w_iconst (v := 0) C dX10_pot_87 (by rfl) ?_
          refine w_iret C M dX10_pot_88 ⟨by decide, by decide⟩ ⟨_, rfl, ?_⟩
          exact Or.inr ⟨c0, hc0, rfl, Or.inl ⟨(fun w => c_20 w.1), rfl, YY.ex⟩⟩
        · exact absurd c_59 (by decide)
      · try simp only [cg_ge, cg_gt, cl_gt, cl_le, cl_eq, cl_lt, cl_ge, bi_eq0, bi_ne0, bI_eq0, Decidable.not_not, Bool.not_eq_false] at c_20
        refine w_iload_n C dX10_pot_23 (by rfl) ?_
        refine w_iconst (v := 1) C dX10_pot_24 (by rfl) ?_
        refine w_iconst (v := 3) C dX10_pot_25 (by rfl) ?_
        refine cl_X10_44 C (m_X10_isIn hl) (by rfl) (by rfl) ⟨by decide, by decide⟩ (by rfl) dX10_pot_26 (fun z6 h6 p6 => ?_)
        obtain ⟨rfl, rfl⟩ := p6
        refine w_if_eq (tgt := 50) C dX10_pot_29 (by rfl) (fun c_29 => ?_) (fun c_29 => ?_)
        · try simp only [cg_ge, cg_gt, cl_gt, cl_le, cl_eq, cl_lt, cl_ge, bi_eq0, bi_ne0, bI_eq0, Decidable.not_not, Bool.not_eq_false] at c_29
          refine w_iconst (v := 1) C dX10_pot_50 (by rfl) ?_
          refine w_goto (tgt := 55) C dX10_pot_51 (by rfl) ?_
          refine w_iconst (v := 2) C dX10_pot_55 (by rfl) ?_
          refine cl_X10_36 C (m_X10_refuseT hl mm (by decide)) mm (by rfl) (by rfl) ⟨by decide, by decide⟩ (by rfl) dX10_pot_56 (fun z7 h7 p7 => ?_)
          obtain ⟨rfl, p7⟩ := p7
          have YY := YY.me (th2 := 2) (day2 := day) (dmp2 := dmp) (pur2 := pur) (rf2 := rf) p7
          obtain ⟨mm, mL, mk, mw, mCl, mGl, mPt, mOr, mRm, mn1, mn2, mn3⟩ := id YY
          refine w_if_ne (tgt := 87) C dX10_pot_59 (by rfl) (fun c_59 => ?_) (fun c_59 => ?_)
          · try simp only [cg_ge, cg_gt, cl_gt, cl_le, cl_eq, cl_lt, cl_ge, bi_eq0, bi_ne0, bI_eq0, Decidable.not_not, Bool.not_eq_false] at c_59
            refine w_iconst (v := 0) C dX10_pot_87 (by rfl) ?_
            refine w_iret C M dX10_pot_88 ⟨by decide, by decide⟩ ⟨_, rfl, ?_⟩
            exact Or.inr ⟨c0, hc0, rfl, Or.inl ⟨(fun w => c_29 w.2.1), rfl, YY.ex⟩⟩
          · exact absurd c_59 (by decide)
        · try simp only [cg_ge, cg_gt, cl_gt, cl_le, cl_eq, cl_lt, cl_ge, bi_eq0, bi_ne0, bI_eq0, Decidable.not_not, Bool.not_eq_false] at c_29
          refine w_iload C dX10_pot_32 (by rfl) ?_
          refine w_iconst (v := 1) C dX10_pot_34 (by rfl) ?_
          refine w_icmp_eq (tgt := 54) C dX10_pot_35 (by rfl) (fun c_35 => ?_) (fun c_35 => ?_)
          · refine w_iconst (v := 0) C dX10_pot_54 (by rfl) ?_
            refine w_iconst (v := 2) C dX10_pot_55 (by rfl) ?_
            refine cl_X10_36 C (m_X10_refuseF hl mm) mm (by rfl) (by rfl) ⟨by decide, by decide⟩ (by rfl) dX10_pot_56 (fun z8 h8 p8 => ?_)
            obtain ⟨rfl, rfl⟩ := p8
            refine w_if_ne (tgt := 87) C dX10_pot_59 (by rfl) (fun c_59 => ?_) (fun c_59 => ?_)
            · exact absurd c_59 (by decide)
            · try simp only [cg_ge, cg_gt, cl_gt, cl_le, cl_eq, cl_lt, cl_ge, bi_eq0, bi_ne0, bI_eq0, Decidable.not_not, Bool.not_eq_false] at c_59
              first | refine w_aload_n C dX10_pot_62 (by rfl) ?_ | refine w_aload_nN C dX10_pot_62 (by rfl) ?_
              first | refine w_aload_n C dX10_pot_63 (by rfl) ?_ | refine w_aload_nN C dX10_pot_63 (by rfl) ?_
              refine gf_X10_19 C mm dX10_pot_64 ?_
              refine cl_X10_40 C (m_Jx4a65c_size_8abf5 hl YY.lp) YY.lp (by rfl) (by rfl) ⟨by decide, by decide⟩ (by rfl) dX10_pot_67 (fun z9 h9 p9 => ?_)
              obtain ⟨rfl, rfl⟩ := p9
              refine w_bipush (v := (14)) C dX10_pot_70 (by rfl) ?_
              refine w_icmp_ne (tgt := 79) C dX10_pot_72 (by rfl) (fun c_72 => ?_) (fun c_72 => ?_)
              · have b9 : nP < 14 := by
                  have : ¬ nP = 14 := fun w => c_72 (by rw [w]; rfl)
                  omega
                refine w_iconst (v := 0) C dX10_pot_79 (by rfl) ?_
                refine w_iconst (v := 3) C dX10_pot_80 (by rfl) ?_
                refine cl_X10_36 C (m_X10_refuseF hl mm) mm (by rfl) (by rfl) ⟨by decide, by decide⟩ (by rfl) dX10_pot_81 (fun z10 h10 p10 => ?_)
                obtain ⟨rfl, rfl⟩ := p10
                refine w_if_eq (tgt := 89) C dX10_pot_84 (by rfl) (fun c_84 => ?_) (fun c_84 => ?_)
                · try simp only [cg_ge, cg_gt, cl_gt, cl_le, cl_eq, cl_lt, cl_ge, bi_eq0, bi_ne0, bI_eq0, Decidable.not_not, Bool.not_eq_false] at c_84
                  first | refine w_aload_n C dX10_pot_89 (by rfl) ?_ | refine w_aload_nN C dX10_pot_89 (by rfl) ?_
                  refine gf_X10_19 C mm dX10_pot_90 ?_
                  have YY0 := YY
                  refine nw_X10_99 C (by decide) (by decide) dX10_pot_93 (fun q h11 n11 u11 => ?_)
                  have f_q := u11.self
                  have nq := n11
                  have uq := u11
                  refine w_dup C dX10_pot_96 (by rfl) ?_
                  refine w_iload_n C dX10_pot_97 (by rfl) ?_
                  refine w_iload_n C dX10_pot_98 (by rfl) ?_
                  refine w_iload_n C dX10_pot_99 (by rfl) ?_
                  refine w_iload C dX10_pot_100 (by rfl) ?_
                  refine cl_X10_101 C (m_X9_init hl f_q) (by rfl) (by rfl) ⟨by decide, by decide⟩ (by rfl) dX10_pot_102 (fun h12 p12 => ?_)
                  have fr0 := Fr.fresh (S := [q]) (((uq.frN nq).sub (by simp)).tr p12.fr) (by intro b m; simp at m; rw [m]; exact nq)
                  have YY := YY0.fr0 fr0
                  obtain ⟨mm, mL, mk, mw, mCl, mGl, mPt, mOr, mRm, mn1, mn2, mn3⟩ := id YY
                  have f_q := p12.self
                  refine cl_X10_91 C (m_add hl YY.lp YY.ap (Or.inr ⟨_, f_q⟩) (fun i hi => Or.inr ⟨_, mPt i hi⟩) (by omega)) YY.lp (by rfl) (by rfl) ⟨by decide, by decide⟩ (by rfl) dX10_pot_105 (fun z13 h13 p13 => ?_)
                  obtain ⟨rfl, el', nE, g1, g2, d9⟩ := p13
                  have hx9 := (LCh.of YY.ap Fr.rfl9 nE d9).oth YY.lp f_q (by intro _ _ _ v; simp at v) (by intro _ _ _ v; simp at v)
                  have YY := YY0.addP (p := (c0, none, (wd, hg, wl, 0, 1090519040, false, 0, 0, -1, -1))) hx9 (fun z v => by rw [nq] at v; cases v) g1 g2 (LCh.of YY0.ap fr0 nE d9)
                  obtain ⟨mm, mL, mk, mw, mCl, mGl, mPt, mOr, mRm, mn1, mn2, mn3⟩ := id YY
                  refine w_pop C dX10_pot_108 (by rfl) ?_
                  first | refine w_aload_n C dX10_pot_109 (by rfl) ?_ | refine w_aload_nN C dX10_pot_109 (by rfl) ?_
                  refine gf_X10_19 C mm dX10_pot_110 ?_
                  refine cl_X10_40 C (m_Jx4a65c_size_8abf5 hl YY.lp) YY.lp (by rfl) (by rfl) ⟨by decide, by decide⟩ (by rfl) dX10_pot_113 (fun z14 h14 p14 => ?_)
                  obtain ⟨rfl, rfl⟩ := p14
                  refine w_iconst (v := 1) C dX10_pot_116 (by rfl) ?_
                  refine w_isub C dX10_pot_117 ?_
                  refine w_iret C M dX10_pot_118 ⟨by decide, by decide⟩ ⟨_, rfl, ?_⟩
                  exact Or.inr ⟨c0, hc0, rfl, Or.inr (Or.inr ⟨⟨c_20, c_29, Or.inl c_35⟩, b9, nI_s1 _, YY.ex⟩)⟩
                · exact absurd c_84 (by decide)
              · have b9 : ¬ nP < 14 := by
                  have := (nI_eq (b := 14) (by omega) (by decide)).mp c_72
                  omega
                refine w_iconst (v := 1) C dX10_pot_75 (by rfl) ?_
                refine w_goto (tgt := 80) C dX10_pot_76 (by rfl) ?_
                refine w_iconst (v := 3) C dX10_pot_80 (by rfl) ?_
                refine cl_X10_36 C (m_X10_refuseT hl mm (by decide)) mm (by rfl) (by rfl) ⟨by decide, by decide⟩ (by rfl) dX10_pot_81 (fun z15 h15 p15 => ?_)
                obtain ⟨rfl, p15⟩ := p15
                have YY := YY.me (th2 := 3) (day2 := day) (dmp2 := dmp) (pur2 := pur) (rf2 := rf) p15
                obtain ⟨mm, mL, mk, mw, mCl, mGl, mPt, mOr, mRm, mn1, mn2, mn3⟩ := id YY
                refine w_if_eq (tgt := 89) C dX10_pot_84 (by rfl) (fun c_84 => ?_) (fun c_84 => ?_)
                · exact absurd c_84 (by decide)
                · try simp only [cg_ge, cg_gt, cl_gt, cl_le, cl_eq, cl_lt, cl_ge, bi_eq0, bi_ne0, bI_eq0, Decidable.not_not, Bool.not_eq_false] at c_84
                  refine w_iconst (v := 0) C dX10_pot_87 (by rfl) ?_
                  refine w_iret C M dX10_pot_88 ⟨by decide, by decide⟩ ⟨_, rfl, ?_⟩
                  exact Or.inr ⟨c0, hc0, rfl, Or.inr (Or.inl ⟨⟨c_20, c_29, Or.inl c_35⟩, b9, rfl, YY.ex⟩)⟩
          · refine w_iload C dX10_pot_38 (by rfl) ?_
            refine w_iconst (v := 2) C dX10_pot_40 (by rfl) ?_
            refine w_icmp_eq (tgt := 54) C dX10_pot_41 (by rfl) (fun c_41 => ?_) (fun c_41 => ?_)
            · refine w_iconst (v := 0) C dX10_pot_54 (by rfl) ?_
              refine w_iconst (v := 2) C dX10_pot_55 (by rfl) ?_
              refine cl_X10_36 C (m_X10_refuseF hl mm) mm (by rfl) (by rfl) ⟨by decide, by decide⟩ (by rfl) dX10_pot_56 (fun z16 h16 p16 => ?_)
              obtain ⟨rfl, rfl⟩ := p16
              refine w_if_ne (tgt := 87) C dX10_pot_59 (by rfl) (fun c_59 => ?_) (fun c_59 => ?_)
              · exact absurd c_59 (by decide)
              · try simp only [cg_ge, cg_gt, cl_gt, cl_le, cl_eq, cl_lt, cl_ge, bi_eq0, bi_ne0, bI_eq0, Decidable.not_not, Bool.not_eq_false] at c_59
                first | refine w_aload_n C dX10_pot_62 (by rfl) ?_ | refine w_aload_nN C dX10_pot_62 (by rfl) ?_
                first | refine w_aload_n C dX10_pot_63 (by rfl) ?_ | refine w_aload_nN C dX10_pot_63 (by rfl) ?_
                refine gf_X10_19 C mm dX10_pot_64 ?_
                refine cl_X10_40 C (m_Jx4a65c_size_8abf5 hl YY.lp) YY.lp (by rfl) (by rfl) ⟨by decide, by decide⟩ (by rfl) dX10_pot_67 (fun z17 h17 p17 => ?_)
                obtain ⟨rfl, rfl⟩ := p17
                refine w_bipush (v := (14)) C dX10_pot_70 (by rfl) ?_
                refine w_icmp_ne (tgt := 79) C dX10_pot_72 (by rfl) (fun c_72 => ?_) (fun c_72 => ?_)
                · have b9 : nP < 14 := by
                    have : ¬ nP = 14 := fun w => c_72 (by rw [w]; rfl)
                    omega
                  refine w_iconst (v := 0) C dX10_pot_79 (by rfl) ?_
                  refine w_iconst (v := 3) C dX10_pot_80 (by rfl) ?_
                  refine cl_X10_36 C (m_X10_refuseF hl mm) mm (by rfl) (by rfl) ⟨by decide, by decide⟩ (by rfl) dX10_pot_81 (fun z18 h18 p18 => ?_)
                  obtain ⟨rfl, rfl⟩ := p18
                  refine w_if_eq (tgt := 89) C dX10_pot_84 (by rfl) (fun c_84 => ?_) (fun c_84 => ?_)
                  · try simp only [cg_ge, cg_gt, cl_gt, cl_le, cl_eq, cl_lt, cl_ge, bi_eq0, bi_ne0, bI_eq0, Decidable.not_not, Bool.not_eq_false] at c_84
                    first | refine w_aload_n C dX10_pot_89 (by rfl) ?_ | refine w_aload_nN C dX10_pot_89 (by rfl) ?_
                    refine gf_X10_19 C mm dX10_pot_90 ?_
                    have YY0 := YY
                    refine nw_X10_99 C (by decide) (by decide) dX10_pot_93 (fun q h19 n19 u19 => ?_)
                    have f_q := u19.self
                    have nq := n19
                    have uq := u19
                    refine w_dup C dX10_pot_96 (by rfl) ?_
                    refine w_iload_n C dX10_pot_97 (by rfl) ?_
                    refine w_iload_n C dX10_pot_98 (by rfl) ?_
                    refine w_iload_n C dX10_pot_99 (by rfl) ?_
                    refine w_iload C dX10_pot_100 (by rfl) ?_
                    refine cl_X10_101 C (m_X9_init hl f_q) (by rfl) (by rfl) ⟨by decide, by decide⟩ (by rfl) dX10_pot_102 (fun h20 p20 => ?_)
                    have fr0 := Fr.fresh (S := [q]) (((uq.frN nq).sub (by simp)).tr p20.fr) (by intro b m; simp at m; rw [m]; exact nq)
                    have YY := YY0.fr0 fr0
                    obtain ⟨mm, mL, mk, mw, mCl, mGl, mPt, mOr, mRm, mn1, mn2, mn3⟩ := id YY
                    have f_q := p20.self
                    refine cl_X10_91 C (m_add hl YY.lp YY.ap (Or.inr ⟨_, f_q⟩) (fun i hi => Or.inr ⟨_, mPt i hi⟩) (by omega)) YY.lp (by rfl) (by rfl) ⟨by decide, by decide⟩ (by rfl) dX10_pot_105 (fun z21 h21 p21 => ?_)
                    obtain ⟨rfl, el', nE, g1, g2, d9⟩ := p21
                    have hx9 := (LCh.of YY.ap Fr.rfl9 nE d9).oth YY.lp f_q (by intro _ _ _ v; simp at v) (by intro _ _ _ v; simp at v)
                    have YY := YY0.addP (p := (c0, none, (wd, hg, wl, 0, 1090519040, false, 0, 0, -1, -1))) hx9 (fun z v => by rw [nq] at v; cases v) g1 g2 (LCh.of YY0.ap fr0 nE d9)
                    obtain ⟨mm, mL, mk, mw, mCl, mGl, mPt, mOr, mRm, mn1, mn2, mn3⟩ := id YY
                    refine w_pop C dX10_pot_108 (by rfl) ?_
                    first | refine w_aload_n C dX10_pot_109 (by rfl) ?_ | refine w_aload_nN C dX10_pot_109 (by rfl) ?_
                    refine gf_X10_19 C mm dX10_pot_110 ?_
                    refine cl_X10_40 C (m_Jx4a65c_size_8abf5 hl YY.lp) YY.lp (by rfl) (by rfl) ⟨by decide, by decide⟩ (by rfl) dX10_pot_113 (fun z22 h22 p22 => ?_)
                    obtain ⟨rfl, rfl⟩ := p22
                    refine w_iconst (v := 1) C dX10_pot_116 (by rfl) ?_
                    refine w_isub C dX10_pot_117 ?_
                    refine w_iret C M dX10_pot_118 ⟨by decide, by decide⟩ ⟨_, rfl, ?_⟩
                    exact Or.inr ⟨c0, hc0, rfl, Or.inr (Or.inr ⟨⟨c_20, c_29, Or.inr (Or.inl c_41)⟩, b9, nI_s1 _, YY.ex⟩)⟩
                  · exact absurd c_84 (by decide)
                · have b9 : ¬ nP < 14 := by
                    have := (nI_eq (b := 14) (by omega) (by decide)).mp c_72
                    omega
                  refine w_iconst (v := 1) C dX10_pot_75 (by rfl) ?_
                  refine w_goto (tgt := 80) C dX10_pot_76 (by rfl) ?_
                  refine w_iconst (v := 3) C dX10_pot_80 (by rfl) ?_
                  refine cl_X10_36 C (m_X10_refuseT hl mm (by decide)) mm (by rfl) (by rfl) ⟨by decide, by decide⟩ (by rfl) dX10_pot_81 (fun z23 h23 p23 => ?_)
                  obtain ⟨rfl, p23⟩ := p23
                  have YY := YY.me (th2 := 3) (day2 := day) (dmp2 := dmp) (pur2 := pur) (rf2 := rf) p23
                  obtain ⟨mm, mL, mk, mw, mCl, mGl, mPt, mOr, mRm, mn1, mn2, mn3⟩ := id YY
                  refine w_if_eq (tgt := 89) C dX10_pot_84 (by rfl) (fun c_84 => ?_) (fun c_84 => ?_)
                  · exact absurd c_84 (by decide)
                  · try simp only [cg_ge, cg_gt, cl_gt, cl_le, cl_eq, cl_lt, cl_ge, bi_eq0, bi_ne0, bI_eq0, Decidable.not_not, Bool.not_eq_false] at c_84
                    refine w_iconst (v := 0) C dX10_pot_87 (by rfl) ?_
                    refine w_iret C M dX10_pot_88 ⟨by decide, by decide⟩ ⟨_, rfl, ?_⟩
                    exact Or.inr ⟨c0, hc0, rfl, Or.inr (Or.inl ⟨⟨c_20, c_29, Or.inr (Or.inl c_41)⟩, b9, rfl, YY.ex⟩)⟩
            · refine w_iload C dX10_pot_44 (by rfl) ?_
              refine w_iconst (v := 4) C dX10_pot_46 (by rfl) ?_
              refine w_icmp_eq (tgt := 54) C dX10_pot_47 (by rfl) (fun c_47 => ?_) (fun c_47 => ?_)
              · refine w_iconst (v := 0) C dX10_pot_54 (by rfl) ?_
                refine w_iconst (v := 2) C dX10_pot_55 (by rfl) ?_
                refine cl_X10_36 C (m_X10_refuseF hl mm) mm (by rfl) (by rfl) ⟨by decide, by decide⟩ (by rfl) dX10_pot_56 (fun z24 h24 p24 => ?_)
                obtain ⟨rfl, rfl⟩ := p24
                refine w_if_ne (tgt := 87) C dX10_pot_59 (by rfl) (fun c_59 => ?_) (fun c_59 => ?_)
                · exact absurd c_59 (by decide)
                · try simp only [cg_ge, cg_gt, cl_gt, cl_le, cl_eq, cl_lt, cl_ge, bi_eq0, bi_ne0, bI_eq0, Decidable.not_not, Bool.not_eq_false] at c_59
                  first | refine w_aload_n C dX10_pot_62 (by rfl) ?_ | refine w_aload_nN C dX10_pot_62 (by rfl) ?_
                  first | refine w_aload_n C dX10_pot_63 (by rfl) ?_ | refine w_aload_nN C dX10_pot_63 (by rfl) ?_
                  refine gf_X10_19 C mm dX10_pot_64 ?_
                  refine cl_X10_40 C (m_Jx4a65c_size_8abf5 hl YY.lp) YY.lp (by rfl) (by rfl) ⟨by decide, by decide⟩ (by rfl) dX10_pot_67 (fun z25 h25 p25 => ?_)
                  obtain ⟨rfl, rfl⟩ := p25
                  refine w_bipush (v := (14)) C dX10_pot_70 (by rfl) ?_
                  refine w_icmp_ne (tgt := 79) C dX10_pot_72 (by rfl) (fun c_72 => ?_) (fun c_72 => ?_)
                  · have b9 : nP < 14 := by
                      have : ¬ nP = 14 := fun w => c_72 (by rw [w]; rfl)
                      omega
                    refine w_iconst (v := 0) C dX10_pot_79 (by rfl) ?_
                    refine w_iconst (v := 3) C dX10_pot_80 (by rfl) ?_
                    refine cl_X10_36 C (m_X10_refuseF hl mm) mm (by rfl) (by rfl) ⟨by decide, by decide⟩ (by rfl) dX10_pot_81 (fun z26 h26 p26 => ?_)
                    obtain ⟨rfl, rfl⟩ := p26
                    refine w_if_eq (tgt := 89) C dX10_pot_84 (by rfl) (fun c_84 => ?_) (fun c_84 => ?_)
                    · try simp only [cg_ge, cg_gt, cl_gt, cl_le, cl_eq, cl_lt, cl_ge, bi_eq0, bi_ne0, bI_eq0, Decidable.not_not, Bool.not_eq_false] at c_84
                      first | refine w_aload_n C dX10_pot_89 (by rfl) ?_ | refine w_aload_nN C dX10_pot_89 (by rfl) ?_
                      refine gf_X10_19 C mm dX10_pot_90 ?_
                      have YY0 := YY
                      refine nw_X10_99 C (by decide) (by decide) dX10_pot_93 (fun q h27 n27 u27 => ?_)
                      have f_q := u27.self
                      have nq := n27
                      have uq := u27
                      refine w_dup C dX10_pot_96 (by rfl) ?_
                      refine w_iload_n C dX10_pot_97 (by rfl) ?_
                      refine w_iload_n C dX10_pot_98 (by rfl) ?_
                      refine w_iload_n C dX10_pot_99 (by rfl) ?_
                      refine w_iload C dX10_pot_100 (by rfl) ?_
                      refine cl_X10_101 C (m_X9_init hl f_q) (by rfl) (by rfl) ⟨by decide, by decide⟩ (by rfl) dX10_pot_102 (fun h28 p28 => ?_)
                      have fr0 := Fr.fresh (S := [q]) (((uq.frN nq).sub (by simp)).tr p28.fr) (by intro b m; simp at m; rw [m]; exact nq)
                      have YY := YY0.fr0 fr0
                      obtain ⟨mm, mL, mk, mw, mCl, mGl, mPt, mOr, mRm, mn1, mn2, mn3⟩ := id YY
                      have f_q := p28.self
                      refine cl_X10_91 C (m_add hl YY.lp YY.ap (Or.inr ⟨_, f_q⟩) (fun i hi => Or.inr ⟨_, mPt i hi⟩) (by omega)) YY.lp (by rfl) (by rfl) ⟨by decide, by decide⟩ (by rfl) dX10_pot_105 (fun z29 h29 p29 => ?_)
                      obtain ⟨rfl, el', nE, g1, g2, d9⟩ := p29
                      have hx9 := (LCh.of YY.ap Fr.rfl9 nE d9).oth YY.lp f_q (by intro _ _ _ v; simp at v) (by intro _ _ _ v; simp at v)
                      have YY := YY0.addP (p := (c0, none, (wd, hg, wl, 0, 1090519040, false, 0, 0, -1, -1))) hx9 (fun z v => by rw [nq] at v; cases v) g1 g2 (LCh.of YY0.ap fr0 nE d9)
                      obtain ⟨mm, mL, mk, mw, mCl, mGl, mPt, mOr, mRm, mn1, mn2, mn3⟩ := id YY
                      refine w_pop C dX10_pot_108 (by rfl) ?_
                      first | refine w_aload_n C dX10_pot_109 (by rfl) ?_ | refine w_aload_nN C dX10_pot_109 (by rfl) ?_
                      refine gf_X10_19 C mm dX10_pot_110 ?_
                      refine cl_X10_40 C (m_Jx4a65c_size_8abf5 hl YY.lp) YY.lp (by rfl) (by rfl) ⟨by decide, by decide⟩ (by rfl) dX10_pot_113 (fun z30 h30 p30 => ?_)
                      obtain ⟨rfl, rfl⟩ := p30
                      refine w_iconst (v := 1) C dX10_pot_116 (by rfl) ?_
                      refine w_isub C dX10_pot_117 ?_
                      refine w_iret C M dX10_pot_118 ⟨by decide, by decide⟩ ⟨_, rfl, ?_⟩
                      exact Or.inr ⟨c0, hc0, rfl, Or.inr (Or.inr ⟨⟨c_20, c_29, Or.inr (Or.inr c_47)⟩, b9, nI_s1 _, YY.ex⟩)⟩
                    · exact absurd c_84 (by decide)
                  · have b9 : ¬ nP < 14 := by
                      have := (nI_eq (b := 14) (by omega) (by decide)).mp c_72
                      omega
                    refine w_iconst (v := 1) C dX10_pot_75 (by rfl) ?_
                    refine w_goto (tgt := 80) C dX10_pot_76 (by rfl) ?_
                    refine w_iconst (v := 3) C dX10_pot_80 (by rfl) ?_
                    refine cl_X10_36 C (m_X10_refuseT hl mm (by decide)) mm (by rfl) (by rfl) ⟨by decide, by decide⟩ (by rfl) dX10_pot_81 (fun z31 h31 p31 => ?_)
                    obtain ⟨rfl, p31⟩ := p31
                    have YY := YY.me (th2 := 3) (day2 := day) (dmp2 := dmp) (pur2 := pur) (rf2 := rf) p31
                    obtain ⟨mm, mL, mk, mw, mCl, mGl, mPt, mOr, mRm, mn1, mn2, mn3⟩ := id YY
                    refine w_if_eq (tgt := 89) C dX10_pot_84 (by rfl) (fun c_84 => ?_) (fun c_84 => ?_)
                    · exact absurd c_84 (by decide)
                    · try simp only [cg_ge, cg_gt, cl_gt, cl_le, cl_eq, cl_lt, cl_ge, bi_eq0, bi_ne0, bI_eq0, Decidable.not_not, Bool.not_eq_false] at c_84
                      refine w_iconst (v := 0) C dX10_pot_87 (by rfl) ?_
                      refine w_iret C M dX10_pot_88 ⟨by decide, by decide⟩ ⟨_, rfl, ?_⟩
                      exact Or.inr ⟨c0, hc0, rfl, Or.inr (Or.inl ⟨⟨c_20, c_29, Or.inr (Or.inr c_47)⟩, b9, rfl, YY.ex⟩)⟩
              · refine w_iconst (v := 1) C dX10_pot_50 (by rfl) ?_
                refine w_goto (tgt := 55) C dX10_pot_51 (by rfl) ?_
                refine w_iconst (v := 2) C dX10_pot_55 (by rfl) ?_
                refine cl_X10_36 C (m_X10_refuseT hl mm (by decide)) mm (by rfl) (by rfl) ⟨by decide, by decide⟩ (by rfl) dX10_pot_56 (fun z32 h32 p32 => ?_)
                obtain ⟨rfl, p32⟩ := p32
                have YY := YY.me (th2 := 2) (day2 := day) (dmp2 := dmp) (pur2 := pur) (rf2 := rf) p32
                obtain ⟨mm, mL, mk, mw, mCl, mGl, mPt, mOr, mRm, mn1, mn2, mn3⟩ := id YY
                refine w_if_ne (tgt := 87) C dX10_pot_59 (by rfl) (fun c_59 => ?_) (fun c_59 => ?_)
                · try simp only [cg_ge, cg_gt, cl_gt, cl_le, cl_eq, cl_lt, cl_ge, bi_eq0, bi_ne0, bI_eq0, Decidable.not_not, Bool.not_eq_false] at c_59
                  refine w_iconst (v := 0) C dX10_pot_87 (by rfl) ?_
                  refine w_iret C M dX10_pot_88 ⟨by decide, by decide⟩ ⟨_, rfl, ?_⟩
                  exact Or.inr ⟨c0, hc0, rfl, Or.inl ⟨(fun w => by rcases w.2.2 with v | v | v; exact c_35 v; exact c_41 v; exact c_47 v), rfl, YY.ex⟩⟩
                · exact absurd c_59 (by decide)

set_option maxHeartbeats 4000000 in
set_option maxRecDepth 100000 in
theorem m_X10_order {l : Launch} {D : va_G} {tc : Nat → ClassId} (hl : l.stackTraces = false) {h : HM} {m0 kl wk : Nat} {L : Nat → Nat} {E : Nat → Nat} {M : Nat → Int32} {ca : Nat → Nat} {ga : Nat → Nat} {pa : Nat → Nat} {oa : Nat → Nat} {ra : Nat → Nat} {th : Int32} {nC : Nat} {cs : Nat → Int32 × Int32} {nG : Nat} {gs : Nat → GT} {nP : Nat} {ps : Nat → PT} {nO : Nat} {os : Nat → OT} {nR : Nat} {rs : Nat → RT} {k : KT} {dmp : Int32} {day : Int32} {pur : Int32} {rf : Int32} (YY : Mh tc m0 kl wk L E M ca ga pa oa ra th nC cs nG gs nP ps nO os nR rs k dmp day pur rf h) (bG : nG ≤ 4) (bO : nO ≤ 6) {gl c ds pz : Int32} :
    CT l D tc yX10_order cX10_order 5 (some FieldType.int) rm_X10_order [.ref m0, .int gl, .int c, .int ds, .int pz] h (rI (fun z h' => (out9 gl nG ∧ z = 0 ∧ MhE tc m0 kl wk 1 nC cs nG gs nP ps nO os nR rs k dmp day pur rf h') ∨ (∃ g, g < nG ∧ gl = nI g ∧ ((¬ ((0 ≤ c ∧ c ≤ 2) ∧ (0 ≤ ds ∧ ds ≤ 60) ∧ 1 ≤ pz ∧ pz ≤ 99) ∧ z = 0 ∧ MhE tc m0 kl wk 2 nC cs nG gs nP ps nO os nR rs k dmp day pur rf h') ∨ (((0 ≤ c ∧ c ≤ 2) ∧ (0 ≤ ds ∧ ds ≤ 60) ∧ 1 ≤ pz ∧ pz ≤ 99) ∧ ¬ nO < 6 ∧ z = 0 ∧ MhE tc m0 kl wk 3 nC cs nG gs nP ps nO os nR rs k dmp day pur rf h') ∨ (((0 ≤ c ∧ c ≤ 2) ∧ (0 ≤ ds ∧ ds ≤ 60) ∧ 1 ≤ pz ∧ pz ≤ 99) ∧ nO < 6 ∧ z = nI nO ∧ MhE tc m0 kl wk 0 nC cs nG gs nP ps (nO + 1) (vf_upd os nO (g, c, day + ds, pz, false)) nR rs k dmp day pur rf h'))))) := by
  refine CT.start [some (.ref m0), some (.int gl), some (.int c), some (.int ds), some (.int pz)] (by decide) hl rfl rfl (fun K C M => ?_)
  obtain ⟨rfl, rfl, rfl, -⟩ := id M
  have C : CX K RX10 cX10_order 5 rm_X10_order := C
  obtain ⟨mm, mL, mk, mw, mCl, mGl, mPt, mOr, mRm, mn1, mn2, mn3⟩ := id YY
  first | refine w_aload_n C dX10_order_0 (by rfl) ?_ | refine w_aload_nN C dX10_order_0 (by rfl) ?_
  first | refine w_aload_n C dX10_order_1 (by rfl) ?_ | refine w_aload_nN C dX10_order_1 (by rfl) ?_
  refine w_iload_n C dX10_order_2 (by rfl) ?_
  refine cl_X10_141 C (m_X10_isNoGlaze hl YY (by omega)) mm (by rfl) (by rfl) ⟨by decide, by decide⟩ (by rfl) dX10_order_3 (fun z1 h1 p1 => ?_)
  obtain ⟨rfl, p_3⟩ := p1
  rcases p_3 with ⟨rfl, c_3⟩ | ⟨rfl, c0, hc0, rfl⟩
  · 
    refine w_iconst (v := 1) C dX10_order_6 (by rfl) ?_
    refine cl_X10_88 C (m_X10_startT hl mm (by decide)) mm (by rfl) (by rfl) ⟨by decide, by decide⟩ (by rfl) dX10_order_7 (fun z2 h2 p2 => ?_)
    obtain ⟨rfl, p2⟩ := p2
    have YY := YY.me (th2 := 1) (day2 := day) (dmp2 := dmp) (pur2 := pur) (rf2 := rf) p2
    obtain ⟨mm, mL, mk, mw, mCl, mGl, mPt, mOr, mRm, mn1, mn2, mn3⟩ := id YY
    refine w_if_ne (tgt := 81) C dX10_order_10 (by rfl) (fun c_10 => ?_) (fun c_10 => ?_)
    · try simp only [cg_ge, cg_gt, cl_gt, cl_le, cl_eq, cl_lt, cl_ge, bi_eq0, bi_ne0, bI_eq0, Decidable.not_not, Bool.not_eq_false] at c_10
      refine w_iconst (v := 0) C dX10_order_81 (by rfl) ?_
      refine w_iret C M dX10_order_82 ⟨by decide, by decide⟩ ⟨_, rfl, ?_⟩
      exact Or.inl ⟨c_3, rfl, YY.ex⟩
    · exact absurd c_10 (by decide)
  · 
    refine w_iconst (v := 1) C dX10_order_6 (by rfl) ?_
    refine cl_X10_88 C (m_X10_startF hl mm) mm (by rfl) (by rfl) ⟨by decide, by decide⟩ (by rfl) dX10_order_7 (fun z3 h3 p3 => ?_)
    obtain ⟨rfl, p3⟩ := p3
    have YY := YY.me (th2 := 0) (day2 := day) (dmp2 := dmp) (pur2 := pur) (rf2 := rf) p3
    obtain ⟨mm, mL, mk, mw, mCl, mGl, mPt, mOr, mRm, mn1, mn2, mn3⟩ := id YY
    refine w_if_ne (tgt := 81) C dX10_order_10 (by rfl) (fun c_10 => ?_) (fun c_10 => ?_)
    · exact absurd c_10 (by decide)
    · try simp only [cg_ge, cg_gt, cl_gt, cl_le, cl_eq, cl_lt, cl_ge, bi_eq0, bi_ne0, bI_eq0, Decidable.not_not, Bool.not_eq_false] at c_10
      first | refine w_aload_n C dX10_order_13 (by rfl) ?_ | refine w_aload_nN C dX10_order_13 (by rfl) ?_
      refine w_iload_n C dX10_order_14 (by rfl) ?_
      refine w_iconst (v := 0) C dX10_order_15 (by rfl) ?_
      refine w_iconst (v := 2) C dX10_order_16 (by rfl) ?_
      refine cl_X10_44 C (m_X10_isIn hl) (by rfl) (by rfl) ⟨by decide, by decide⟩ (by rfl) dX10_order_17 (fun z4 h4 p4 => ?_)
      obtain ⟨rfl, rfl⟩ := p4
      refine w_if_eq (tgt := 44) C dX10_order_20 (by rfl) (fun c_20 => ?_) (fun c_20 => ?_)
      · try simp only [cg_ge, cg_gt, cl_gt, cl_le, cl_eq, cl_lt, cl_ge, bi_eq0, bi_ne0, bI_eq0, Decidable.not_not, Bool.not_eq_false] at c_20
        refine w_iconst (v := 1) C dX10_order_44 (by rfl) ?_
        refine w_goto (tgt := 49) C dX10_order_45 (by rfl) ?_
        refine w_iconst (v := 2) C dX10_order_49 (by rfl) ?_
        refine cl_X10_36 C (m_X10_refuseT hl mm (by decide)) mm (by rfl) (by rfl) ⟨by decide, by decide⟩ (by rfl) dX10_order_50 (fun z5 h5 p5 => ?_)
        obtain ⟨rfl, p5⟩ := p5
        have YY := YY.me (th2 := 2) (day2 := day) (dmp2 := dmp) (pur2 := pur) (rf2 := rf) p5
        obtain ⟨mm, mL, mk, mw, mCl, mGl, mPt, mOr, mRm, mn1, mn2, mn3⟩ := id YY
        refine w_if_ne (tgt := 81) C dX10_order_53 (by rfl) (fun c_53 => ?_) (fun c_53 => ?_)
        · try simp only [cg_ge, cg_gt, cl_gt, cl_le, cl_eq, cl_lt, cl_ge, bi_eq0, bi_ne0, bI_eq0, Decidable.not_not, Bool.not_eq_false] at c_53
          refine w_iconst (v := 0) C dX10_order_81 (by rfl) ?_
          refine w_iret C M dX10_order_82 ⟨by decide, by decide⟩ ⟨_, rfl, ?_⟩
          exact Or.inr ⟨c0, hc0, rfl, Or.inl ⟨(fun w => c_20 w.1), rfl, YY.ex⟩⟩
        · exact absurd c_53 (by decide)
      · try simp only [cg_ge, cg_gt, cl_gt, cl_le, cl_eq, cl_lt, cl_ge, bi_eq0, bi_ne0, bI_eq0, Decidable.not_not, Bool.not_eq_false] at c_20
        refine w_iload_n C dX10_order_23 (by rfl) ?_
        refine w_iconst (v := 0) C dX10_order_24 (by rfl) ?_
        refine w_bipush (v := (60)) C dX10_order_25 (by rfl) ?_
        refine cl_X10_44 C (m_X10_isIn hl) (by rfl) (by rfl) ⟨by decide, by decide⟩ (by rfl) dX10_order_27 (fun z6 h6 p6 => ?_)
        obtain ⟨rfl, rfl⟩ := p6
        refine w_if_eq (tgt := 44) C dX10_order_30 (by rfl) (fun c_30 => ?_) (fun c_30 => ?_)
        · try simp only [cg_ge, cg_gt, cl_gt, cl_le, cl_eq, cl_lt, cl_ge, bi_eq0, bi_ne0, bI_eq0, Decidable.not_not, Bool.not_eq_false] at c_30
          refine w_iconst (v := 1) C dX10_order_44 (by rfl) ?_
          refine w_goto (tgt := 49) C dX10_order_45 (by rfl) ?_
          refine w_iconst (v := 2) C dX10_order_49 (by rfl) ?_
          refine cl_X10_36 C (m_X10_refuseT hl mm (by decide)) mm (by rfl) (by rfl) ⟨by decide, by decide⟩ (by rfl) dX10_order_50 (fun z7 h7 p7 => ?_)
          obtain ⟨rfl, p7⟩ := p7
          have YY := YY.me (th2 := 2) (day2 := day) (dmp2 := dmp) (pur2 := pur) (rf2 := rf) p7
          obtain ⟨mm, mL, mk, mw, mCl, mGl, mPt, mOr, mRm, mn1, mn2, mn3⟩ := id YY
          refine w_if_ne (tgt := 81) C dX10_order_53 (by rfl) (fun c_53 => ?_) (fun c_53 => ?_)
          · try simp only [cg_ge, cg_gt, cl_gt, cl_le, cl_eq, cl_lt, cl_ge, bi_eq0, bi_ne0, bI_eq0, Decidable.not_not, Bool.not_eq_false] at c_53
            refine w_iconst (v := 0) C dX10_order_81 (by rfl) ?_
            refine w_iret C M dX10_order_82 ⟨by decide, by decide⟩ ⟨_, rfl, ?_⟩
            exact Or.inr ⟨c0, hc0, rfl, Or.inl ⟨(fun w => c_30 w.2.1), rfl, YY.ex⟩⟩
          · exact absurd c_53 (by decide)
        · try simp only [cg_ge, cg_gt, cl_gt, cl_le, cl_eq, cl_lt, cl_ge, bi_eq0, bi_ne0, bI_eq0, Decidable.not_not, Bool.not_eq_false] at c_30
          refine w_iload C dX10_order_33 (by rfl) ?_
          refine w_iconst (v := 1) C dX10_order_35 (by rfl) ?_
          refine w_bipush (v := (99)) C dX10_order_36 (by rfl) ?_
          refine cl_X10_44 C (m_X10_isIn hl) (by rfl) (by rfl) ⟨by decide, by decide⟩ (by rfl) dX10_order_38 (fun z8 h8 p8 => ?_)
          obtain ⟨rfl, rfl⟩ := p8
          refine w_if_ne (tgt := 48) C dX10_order_41 (by rfl) (fun c_41 => ?_) (fun c_41 => ?_)
          · try simp only [cg_ge, cg_gt, cl_gt, cl_le, cl_eq, cl_lt, cl_ge, bi_eq0, bi_ne0, bI_eq0, Decidable.not_not, Bool.not_eq_false] at c_41
            refine w_iconst (v := 0) C dX10_order_48 (by rfl) ?_
            refine w_iconst (v := 2) C dX10_order_49 (by rfl) ?_
            refine cl_X10_36 C (m_X10_refuseF hl mm) mm (by rfl) (by rfl) ⟨by decide, by decide⟩ (by rfl) dX10_order_50 (fun z9 h9 p9 => ?_)
            obtain ⟨rfl, rfl⟩ := p9
            refine w_if_ne (tgt := 81) C dX10_order_53 (by rfl) (fun c_53 => ?_) (fun c_53 => ?_)
            · exact absurd c_53 (by decide)
            · try simp only [cg_ge, cg_gt, cl_gt, cl_le, cl_eq, cl_lt, cl_ge, bi_eq0, bi_ne0, bI_eq0, Decidable.not_not, Bool.not_eq_false] at c_53
              first | refine w_aload_n C dX10_order_56 (by rfl) ?_ | refine w_aload_nN C dX10_order_56 (by rfl) ?_
              first | refine w_aload_n C dX10_order_57 (by rfl) ?_ | refine w_aload_nN C dX10_order_57 (by rfl) ?_
              refine gf_X10_22 C mm dX10_order_58 ?_
              refine cl_X10_40 C (m_Jx4a65c_size_8abf5 hl YY.lo) YY.lo (by rfl) (by rfl) ⟨by decide, by decide⟩ (by rfl) dX10_order_61 (fun z10 h10 p10 => ?_)
              obtain ⟨rfl, rfl⟩ := p10
              refine w_bipush (v := (6)) C dX10_order_64 (by rfl) ?_
              refine w_icmp_ne (tgt := 73) C dX10_order_66 (by rfl) (fun c_66 => ?_) (fun c_66 => ?_)
              · have b9 : nO < 6 := by
                  have : ¬ nO = 6 := fun w => c_66 (by rw [w]; rfl)
                  omega
                refine w_iconst (v := 0) C dX10_order_73 (by rfl) ?_
                refine w_iconst (v := 3) C dX10_order_74 (by rfl) ?_
                refine cl_X10_36 C (m_X10_refuseF hl mm) mm (by rfl) (by rfl) ⟨by decide, by decide⟩ (by rfl) dX10_order_75 (fun z11 h11 p11 => ?_)
                obtain ⟨rfl, rfl⟩ := p11
                refine w_if_eq (tgt := 83) C dX10_order_78 (by rfl) (fun c_78 => ?_) (fun c_78 => ?_)
                · try simp only [cg_ge, cg_gt, cl_gt, cl_le, cl_eq, cl_lt, cl_ge, bi_eq0, bi_ne0, bI_eq0, Decidable.not_not, Bool.not_eq_false] at c_78
                  first | refine w_aload_n C dX10_order_83 (by rfl) ?_ | refine w_aload_nN C dX10_order_83 (by rfl) ?_
                  refine gf_X10_22 C mm dX10_order_84 ?_
                  refine w_iconst (v := 5) C dX10_order_87 (by rfl) ?_
                  have YY0 := YY
                  refine w_newain C gw_1139 (by decide) (by rfl) (by decide) (by decide) (by decide) dX10_order_88 (fun q h12 n12 u12 => ?_)
                  have f_q := u12.self
                  have nq := n12
                  have uq := u12
                  refine w_dup C dX10_order_90 (by rfl) ?_
                  refine w_iconst (v := 0) C dX10_order_91 (by rfl) ?_
                  refine w_iload_n C dX10_order_92 (by rfl) ?_
                  refine w_iastn (j := 0) C f_q (by decide) (by decide) dX10_order_93 (fun h93 u93 => ?_)
                  have f_q := u93.self
                  refine w_dup C dX10_order_94 (by rfl) ?_
                  refine w_iconst (v := 1) C dX10_order_95 (by rfl) ?_
                  refine w_iload_n C dX10_order_96 (by rfl) ?_
                  refine w_iastn (j := 1) C f_q (by decide) (by decide) dX10_order_97 (fun h97 u97 => ?_)
                  have f_q := u97.self
                  refine w_dup C dX10_order_98 (by rfl) ?_
                  refine w_iconst (v := 2) C dX10_order_99 (by rfl) ?_
                  first | refine w_aload_n C dX10_order_100 (by rfl) ?_ | refine w_aload_nN C dX10_order_100 (by rfl) ?_
                  have mm := u97.oth (u93.oth (uq.new mm nq) uq.self (by intro v; simp at v)) u93.self (by intro v; simp at v)
                  refine gf_X10_131 C mm dX10_order_101 ?_
                  refine w_iload_n C dX10_order_104 (by rfl) ?_
                  refine w_iadd C dX10_order_105 ?_
                  refine w_iastn (j := 2) C f_q (by decide) (by decide) dX10_order_106 (fun h106 u106 => ?_)
                  have f_q := u106.self
                  refine w_dup C dX10_order_107 (by rfl) ?_
                  refine w_iconst (v := 3) C dX10_order_108 (by rfl) ?_
                  refine w_iload C dX10_order_109 (by rfl) ?_
                  refine w_iastn (j := 3) C f_q (by decide) (by decide) dX10_order_111 (fun h111 u111 => ?_)
                  have f_q := u111.self
                  refine w_dup C dX10_order_112 (by rfl) ?_
                  refine w_iconst (v := 4) C dX10_order_113 (by rfl) ?_
                  refine w_iconst (v := 0) C dX10_order_114 (by rfl) ?_
                  refine w_iastn (j := 4) C f_q (by decide) (by decide) dX10_order_115 (fun h115 u115 => ?_)
                  have f_q := u115.self
                  have fr0 := Fr.fresh (S := [q]) (((uq.frN nq).sub (by simp)).tr (u93.fr.tr (u97.fr.tr (u106.fr.tr (u111.fr.tr (u115.fr)))))) (by intro b m; simp at m; rw [m]; exact nq)
                  have YY := YY0.fr0 fr0
                  obtain ⟨mm, mL, mk, mw, mCl, mGl, mPt, mOr, mRm, mn1, mn2, mn3⟩ := id YY
                  refine cl_X10_91 C (m_add hl YY.lo YY.ao (Or.inl ⟨_, _, f_q⟩) (fun i hi => Or.inl ⟨_, _, mOr i hi⟩) (by omega)) YY.lo (by rfl) (by rfl) ⟨by decide, by decide⟩ (by rfl) dX10_order_116 (fun z13 h13 p13 => ?_)
                  obtain ⟨rfl, el', nE, g1, g2, d9⟩ := p13
                  have hx9 := (LCh.of YY.ao Fr.rfl9 nE d9).oth YY.lo f_q (by intro _ _ _ v; simp at v) (by intro _ _ _ v; simp at v)
                  have YY := YY0.addO (o := (c0, c, day + ds, pz, false)) hx9 (fun z v => by rw [nq] at v; cases v) g1 g2 (LCh.of YY0.ao fr0 nE d9)
                  obtain ⟨mm, mL, mk, mw, mCl, mGl, mPt, mOr, mRm, mn1, mn2, mn3⟩ := id YY
                  refine w_pop C dX10_order_119 (by rfl) ?_
                  first | refine w_aload_n C dX10_order_120 (by rfl) ?_ | refine w_aload_nN C dX10_order_120 (by rfl) ?_
                  refine gf_X10_22 C mm dX10_order_121 ?_
                  refine cl_X10_40 C (m_Jx4a65c_size_8abf5 hl YY.lo) YY.lo (by rfl) (by rfl) ⟨by decide, by decide⟩ (by rfl) dX10_order_124 (fun z14 h14 p14 => ?_)
                  obtain ⟨rfl, rfl⟩ := p14
                  refine w_iconst (v := 1) C dX10_order_127 (by rfl) ?_
                  refine w_isub C dX10_order_128 ?_
                  refine w_iret C M dX10_order_129 ⟨by decide, by decide⟩ ⟨_, rfl, ?_⟩
                  exact Or.inr ⟨c0, hc0, rfl, Or.inr (Or.inr ⟨⟨c_20, c_30, c_41⟩, b9, nI_s1 _, YY.ex⟩)⟩
                · exact absurd c_78 (by decide)
              · have b9 : ¬ nO < 6 := by
                  have := (nI_eq (b := 6) (by omega) (by decide)).mp c_66
                  omega
                refine w_iconst (v := 1) C dX10_order_69 (by rfl) ?_
                refine w_goto (tgt := 74) C dX10_order_70 (by rfl) ?_
                refine w_iconst (v := 3) C dX10_order_74 (by rfl) ?_
                refine cl_X10_36 C (m_X10_refuseT hl mm (by decide)) mm (by rfl) (by rfl) ⟨by decide, by decide⟩ (by rfl) dX10_order_75 (fun z15 h15 p15 => ?_)
                obtain ⟨rfl, p15⟩ := p15
                have YY := YY.me (th2 := 3) (day2 := day) (dmp2 := dmp) (pur2 := pur) (rf2 := rf) p15
                obtain ⟨mm, mL, mk, mw, mCl, mGl, mPt, mOr, mRm, mn1, mn2, mn3⟩ := id YY
                refine w_if_eq (tgt := 83) C dX10_order_78 (by rfl) (fun c_78 => ?_) (fun c_78 => ?_)
                · exact absurd c_78 (by decide)
                · try simp only [cg_ge, cg_gt, cl_gt, cl_le, cl_eq, cl_lt, cl_ge, bi_eq0, bi_ne0, bI_eq0, Decidable.not_not, Bool.not_eq_false] at c_78
                  refine w_iconst (v := 0) C dX10_order_81 (by rfl) ?_
                  refine w_iret C M dX10_order_82 ⟨by decide, by decide⟩ ⟨_, rfl, ?_⟩
                  exact Or.inr ⟨c0, hc0, rfl, Or.inr (Or.inl ⟨⟨c_20, c_30, c_41⟩, b9, rfl, YY.ex⟩)⟩
          · try simp only [cg_ge, cg_gt, cl_gt, cl_le, cl_eq, cl_lt, cl_ge, bi_eq0, bi_ne0, bI_eq0, Decidable.not_not, Bool.not_eq_false] at c_41
            refine w_iconst (v := 1) C dX10_order_44 (by rfl) ?_
            refine w_goto (tgt := 49) C dX10_order_45 (by rfl) ?_
            refine w_iconst (v := 2) C dX10_order_49 (by rfl) ?_
            refine cl_X10_36 C (m_X10_refuseT hl mm (by decide)) mm (by rfl) (by rfl) ⟨by decide, by decide⟩ (by rfl) dX10_order_50 (fun z16 h16 p16 => ?_)
            obtain ⟨rfl, p16⟩ := p16
            have YY := YY.me (th2 := 2) (day2 := day) (dmp2 := dmp) (pur2 := pur) (rf2 := rf) p16
            obtain ⟨mm, mL, mk, mw, mCl, mGl, mPt, mOr, mRm, mn1, mn2, mn3⟩ := id YY
            refine w_if_ne (tgt := 81) C dX10_order_53 (by rfl) (fun c_53 => ?_) (fun c_53 => ?_)
            · try simp only [cg_ge, cg_gt, cl_gt, cl_le, cl_eq, cl_lt, cl_ge, bi_eq0, bi_ne0, bI_eq0, Decidable.not_not, Bool.not_eq_false] at c_53
              refine w_iconst (v := 0) C dX10_order_81 (by rfl) ?_
              refine w_iret C M dX10_order_82 ⟨by decide, by decide⟩ ⟨_, rfl, ?_⟩
              exact Or.inr ⟨c0, hc0, rfl, Or.inl ⟨(fun w => c_41 w.2.2), rfl, YY.ex⟩⟩
            · exact absurd c_53 (by decide)

set_option maxHeartbeats 4000000 in
set_option maxRecDepth 100000 in
theorem m_X10_ramp {l : Launch} {D : va_G} {tc : Nat → ClassId} (hl : l.stackTraces = false) {h : HM} {m0 kl wk : Nat} {L : Nat → Nat} {E : Nat → Nat} {M : Nat → Int32} {ca : Nat → Nat} {ga : Nat → Nat} {pa : Nat → Nat} {oa : Nat → Nat} {ra : Nat → Nat} {th : Int32} {nC : Nat} {cs : Nat → Int32 × Int32} {nG : Nat} {gs : Nat → GT} {nP : Nat} {ps : Nat → PT} {nO : Nat} {os : Nat → OT} {nR : Nat} {rs : Nat → RT} {k : KT} {dmp : Int32} {day : Int32} {pur : Int32} {rf : Int32} (YY : Mh tc m0 kl wk L E M ca ga pa oa ra th nC cs nG gs nP ps nO os nR rs k dmp day pur rf h) (bR : nR ≤ 5) {r0 t0 d0 : Int32} :
    CT l D tc yX10_ramp cX10_ramp 4 (some FieldType.int) rm_X10_ramp [.ref m0, .int r0, .int t0, .int d0] h (rI (fun z h' => (¬ ((10 ≤ r0 ∧ r0 ≤ 200) ∧ (100 ≤ t0 ∧ t0 ≤ 1400) ∧ 0 ≤ d0 ∧ d0 ≤ 20) ∧ z = 0 ∧ MhE tc m0 kl wk 1 nC cs nG gs nP ps nO os nR rs k dmp day pur rf h') ∨ (((10 ≤ r0 ∧ r0 ≤ 200) ∧ (100 ≤ t0 ∧ t0 ≤ 1400) ∧ 0 ≤ d0 ∧ d0 ≤ 20) ∧ (kL k = true ∨ ¬ nR < 5) ∧ z = 0 ∧ MhE tc m0 kl wk 2 nC cs nG gs nP ps nO os nR rs k dmp day pur rf h') ∨ (((10 ≤ r0 ∧ r0 ≤ 200) ∧ (100 ≤ t0 ∧ t0 ≤ 1400) ∧ 0 ≤ d0 ∧ d0 ≤ 20) ∧ kL k = false ∧ nR < 5 ∧ z = nI nR ∧ MhE tc m0 kl wk 0 nC cs nG gs nP ps nO os (nR + 1) (vf_upd rs nR (r0, t0, d0)) k dmp day pur rf h'))) := by
  refine CT.start [some (.ref m0), some (.int r0), some (.int t0), some (.int d0)] (by decide) hl rfl rfl (fun K C M => ?_)
  obtain ⟨rfl, rfl, rfl, -⟩ := id M
  have C : CX K RX10 cX10_ramp 4 rm_X10_ramp := C
  obtain ⟨mm, mL, mk, mw, mCl, mGl, mPt, mOr, mRm, mn1, mn2, mn3⟩ := id YY
  first | refine w_aload_n C dX10_ramp_0 (by rfl) ?_ | refine w_aload_nN C dX10_ramp_0 (by rfl) ?_
  refine w_iload_n C dX10_ramp_1 (by rfl) ?_
  refine w_bipush (v := (10)) C dX10_ramp_2 (by rfl) ?_
  refine w_sipush (v := (200)) C dX10_ramp_4 (by rfl) ?_
  refine cl_X10_44 C (m_X10_isIn hl) (by rfl) (by rfl) ⟨by decide, by decide⟩ (by rfl) dX10_ramp_7 (fun z1 h1 p1 => ?_)
  obtain ⟨rfl, rfl⟩ := p1
  refine w_if_eq (tgt := 35) C dX10_ramp_10 (by rfl) (fun c_10 => ?_) (fun c_10 => ?_)
  · try simp only [cg_ge, cg_gt, cl_gt, cl_le, cl_eq, cl_lt, cl_ge, bi_eq0, bi_ne0, bI_eq0, Decidable.not_not, Bool.not_eq_false] at c_10
    refine w_iconst (v := 1) C dX10_ramp_35 (by rfl) ?_
    refine w_goto (tgt := 40) C dX10_ramp_36 (by rfl) ?_
    refine w_iconst (v := 1) C dX10_ramp_40 (by rfl) ?_
    refine cl_X10_88 C (m_X10_startT hl mm (by decide)) mm (by rfl) (by rfl) ⟨by decide, by decide⟩ (by rfl) dX10_ramp_41 (fun z2 h2 p2 => ?_)
    obtain ⟨rfl, p2⟩ := p2
    have YY := YY.me (th2 := 1) (day2 := day) (dmp2 := dmp) (pur2 := pur) (rf2 := rf) p2
    obtain ⟨mm, mL, mk, mw, mCl, mGl, mPt, mOr, mRm, mn1, mn2, mn3⟩ := id YY
    refine w_if_ne (tgt := 84) C dX10_ramp_44 (by rfl) (fun c_44 => ?_) (fun c_44 => ?_)
    · try simp only [cg_ge, cg_gt, cl_gt, cl_le, cl_eq, cl_lt, cl_ge, bi_eq0, bi_ne0, bI_eq0, Decidable.not_not, Bool.not_eq_false] at c_44
      refine w_iconst (v := 0) C dX10_ramp_84 (by rfl) ?_
      refine w_iret C M dX10_ramp_85 ⟨by decide, by decide⟩ ⟨_, rfl, ?_⟩
      exact Or.inl ⟨(fun w => c_10 w.1), rfl, YY.ex⟩
    · exact absurd c_44 (by decide)
  · try simp only [cg_ge, cg_gt, cl_gt, cl_le, cl_eq, cl_lt, cl_ge, bi_eq0, bi_ne0, bI_eq0, Decidable.not_not, Bool.not_eq_false] at c_10
    refine w_iload_n C dX10_ramp_13 (by rfl) ?_
    refine w_bipush (v := (100)) C dX10_ramp_14 (by rfl) ?_
    refine w_sipush (v := (1400)) C dX10_ramp_16 (by rfl) ?_
    refine cl_X10_44 C (m_X10_isIn hl) (by rfl) (by rfl) ⟨by decide, by decide⟩ (by rfl) dX10_ramp_19 (fun z3 h3 p3 => ?_)
    obtain ⟨rfl, rfl⟩ := p3
    refine w_if_eq (tgt := 35) C dX10_ramp_22 (by rfl) (fun c_22 => ?_) (fun c_22 => ?_)
    · try simp only [cg_ge, cg_gt, cl_gt, cl_le, cl_eq, cl_lt, cl_ge, bi_eq0, bi_ne0, bI_eq0, Decidable.not_not, Bool.not_eq_false] at c_22
      refine w_iconst (v := 1) C dX10_ramp_35 (by rfl) ?_
      refine w_goto (tgt := 40) C dX10_ramp_36 (by rfl) ?_
      refine w_iconst (v := 1) C dX10_ramp_40 (by rfl) ?_
      refine cl_X10_88 C (m_X10_startT hl mm (by decide)) mm (by rfl) (by rfl) ⟨by decide, by decide⟩ (by rfl) dX10_ramp_41 (fun z4 h4 p4 => ?_)
      obtain ⟨rfl, p4⟩ := p4
      have YY := YY.me (th2 := 1) (day2 := day) (dmp2 := dmp) (pur2 := pur) (rf2 := rf) p4
      obtain ⟨mm, mL, mk, mw, mCl, mGl, mPt, mOr, mRm, mn1, mn2, mn3⟩ := id YY
      refine w_if_ne (tgt := 84) C dX10_ramp_44 (by rfl) (fun c_44 => ?_) (fun c_44 => ?_)
      · try simp only [cg_ge, cg_gt, cl_gt, cl_le, cl_eq, cl_lt, cl_ge, bi_eq0, bi_ne0, bI_eq0, Decidable.not_not, Bool.not_eq_false] at c_44
        refine w_iconst (v := 0) C dX10_ramp_84 (by rfl) ?_
        refine w_iret C M dX10_ramp_85 ⟨by decide, by decide⟩ ⟨_, rfl, ?_⟩
        exact Or.inl ⟨(fun w => c_22 w.2.1), rfl, YY.ex⟩
      · exact absurd c_44 (by decide)
    · try simp only [cg_ge, cg_gt, cl_gt, cl_le, cl_eq, cl_lt, cl_ge, bi_eq0, bi_ne0, bI_eq0, Decidable.not_not, Bool.not_eq_false] at c_22
      refine w_iload_n C dX10_ramp_25 (by rfl) ?_
      refine w_iconst (v := 0) C dX10_ramp_26 (by rfl) ?_
      refine w_bipush (v := (20)) C dX10_ramp_27 (by rfl) ?_
      refine cl_X10_44 C (m_X10_isIn hl) (by rfl) (by rfl) ⟨by decide, by decide⟩ (by rfl) dX10_ramp_29 (fun z5 h5 p5 => ?_)
      obtain ⟨rfl, rfl⟩ := p5
      refine w_if_ne (tgt := 39) C dX10_ramp_32 (by rfl) (fun c_32 => ?_) (fun c_32 => ?_)
      · try simp only [cg_ge, cg_gt, cl_gt, cl_le, cl_eq, cl_lt, cl_ge, bi_eq0, bi_ne0, bI_eq0, Decidable.not_not, Bool.not_eq_false] at c_32
        refine w_iconst (v := 0) C dX10_ramp_39 (by rfl) ?_
        refine w_iconst (v := 1) C dX10_ramp_40 (by rfl) ?_
        refine cl_X10_88 C (m_X10_startF hl mm) mm (by rfl) (by rfl) ⟨by decide, by decide⟩ (by rfl) dX10_ramp_41 (fun z6 h6 p6 => ?_)
        obtain ⟨rfl, p6⟩ := p6
        have YY := YY.me (th2 := 0) (day2 := day) (dmp2 := dmp) (pur2 := pur) (rf2 := rf) p6
        obtain ⟨mm, mL, mk, mw, mCl, mGl, mPt, mOr, mRm, mn1, mn2, mn3⟩ := id YY
        refine w_if_ne (tgt := 84) C dX10_ramp_44 (by rfl) (fun c_44 => ?_) (fun c_44 => ?_)
        · exact absurd c_44 (by decide)
        · try simp only [cg_ge, cg_gt, cl_gt, cl_le, cl_eq, cl_lt, cl_ge, bi_eq0, bi_ne0, bI_eq0, Decidable.not_not, Bool.not_eq_false] at c_44
          first | refine w_aload_n C dX10_ramp_47 (by rfl) ?_ | refine w_aload_nN C dX10_ramp_47 (by rfl) ?_
          first | refine w_aload_n C dX10_ramp_48 (by rfl) ?_ | refine w_aload_nN C dX10_ramp_48 (by rfl) ?_
          refine gf_X10_28 C mm dX10_ramp_49 ?_
          refine gf_X10_48 C mk dX10_ramp_52 ?_
          refine w_if_ne (tgt := 72) C dX10_ramp_55 (by rfl) (fun c_55 => ?_) (fun c_55 => ?_)
          · try simp only [cg_ge, cg_gt, cl_gt, cl_le, cl_eq, cl_lt, cl_ge, bi_eq0, bi_ne0, bI_eq0, Decidable.not_not, Bool.not_eq_false] at c_55
            refine w_iconst (v := 1) C dX10_ramp_72 (by rfl) ?_
            refine w_goto (tgt := 77) C dX10_ramp_73 (by rfl) ?_
            refine w_iconst (v := 2) C dX10_ramp_77 (by rfl) ?_
            refine cl_X10_36 C (m_X10_refuseT hl mm (by decide)) mm (by rfl) (by rfl) ⟨by decide, by decide⟩ (by rfl) dX10_ramp_78 (fun z7 h7 p7 => ?_)
            obtain ⟨rfl, p7⟩ := p7
            have YY := YY.me (th2 := 2) (day2 := day) (dmp2 := dmp) (pur2 := pur) (rf2 := rf) p7
            obtain ⟨mm, mL, mk, mw, mCl, mGl, mPt, mOr, mRm, mn1, mn2, mn3⟩ := id YY
            refine w_if_eq (tgt := 86) C dX10_ramp_81 (by rfl) (fun c_81 => ?_) (fun c_81 => ?_)
            · exact absurd c_81 (by decide)
            · try simp only [cg_ge, cg_gt, cl_gt, cl_le, cl_eq, cl_lt, cl_ge, bi_eq0, bi_ne0, bI_eq0, Decidable.not_not, Bool.not_eq_false] at c_81
              refine w_iconst (v := 0) C dX10_ramp_84 (by rfl) ?_
              refine w_iret C M dX10_ramp_85 ⟨by decide, by decide⟩ ⟨_, rfl, ?_⟩
              exact Or.inr (Or.inl ⟨⟨c_10, c_22, c_32⟩, Or.inl c_55, rfl, YY.ex⟩)
          · try simp only [cg_ge, cg_gt, cl_gt, cl_le, cl_eq, cl_lt, cl_ge, bi_eq0, bi_ne0, bI_eq0, Decidable.not_not, Bool.not_eq_false] at c_55
            first | refine w_aload_n C dX10_ramp_58 (by rfl) ?_ | refine w_aload_nN C dX10_ramp_58 (by rfl) ?_
            refine gf_X10_28 C mm dX10_ramp_59 ?_
            refine gf_X10_186 C mk dX10_ramp_62 ?_
            refine cl_X10_40 C (m_Jx4a65c_size_8abf5 hl YY.lr) YY.lr (by rfl) (by rfl) ⟨by decide, by decide⟩ (by rfl) dX10_ramp_65 (fun z8 h8 p8 => ?_)
            obtain ⟨rfl, rfl⟩ := p8
            refine w_iconst (v := 5) C dX10_ramp_68 (by rfl) ?_
            refine w_icmp_ne (tgt := 76) C dX10_ramp_69 (by rfl) (fun c_69 => ?_) (fun c_69 => ?_)
            · have b9 : nR < 5 := by
                have : ¬ nR = 5 := fun w => c_69 (by rw [w]; rfl)
                omega
              refine w_iconst (v := 0) C dX10_ramp_76 (by rfl) ?_
              refine w_iconst (v := 2) C dX10_ramp_77 (by rfl) ?_
              refine cl_X10_36 C (m_X10_refuseF hl mm) mm (by rfl) (by rfl) ⟨by decide, by decide⟩ (by rfl) dX10_ramp_78 (fun z9 h9 p9 => ?_)
              obtain ⟨rfl, rfl⟩ := p9
              refine w_if_eq (tgt := 86) C dX10_ramp_81 (by rfl) (fun c_81 => ?_) (fun c_81 => ?_)
              · try simp only [cg_ge, cg_gt, cl_gt, cl_le, cl_eq, cl_lt, cl_ge, bi_eq0, bi_ne0, bI_eq0, Decidable.not_not, Bool.not_eq_false] at c_81
                first | refine w_aload_n C dX10_ramp_86 (by rfl) ?_ | refine w_aload_nN C dX10_ramp_86 (by rfl) ?_
                refine gf_X10_28 C mm dX10_ramp_87 ?_
                refine gf_X10_186 C mk dX10_ramp_90 ?_
                refine w_iconst (v := 3) C dX10_ramp_93 (by rfl) ?_
                have YY0 := YY
                refine w_newain C gw_1139 (by decide) (by rfl) (by decide) (by decide) (by decide) dX10_ramp_94 (fun q h10 n10 u10 => ?_)
                have f_q := u10.self
                have nq := n10
                have uq := u10
                refine w_dup C dX10_ramp_96 (by rfl) ?_
                refine w_iconst (v := 0) C dX10_ramp_97 (by rfl) ?_
                refine w_iload_n C dX10_ramp_98 (by rfl) ?_
                refine w_iastn (j := 0) C f_q (by decide) (by decide) dX10_ramp_99 (fun h99 u99 => ?_)
                have f_q := u99.self
                refine w_dup C dX10_ramp_100 (by rfl) ?_
                refine w_iconst (v := 1) C dX10_ramp_101 (by rfl) ?_
                refine w_iload_n C dX10_ramp_102 (by rfl) ?_
                refine w_iastn (j := 1) C f_q (by decide) (by decide) dX10_ramp_103 (fun h103 u103 => ?_)
                have f_q := u103.self
                refine w_dup C dX10_ramp_104 (by rfl) ?_
                refine w_iconst (v := 2) C dX10_ramp_105 (by rfl) ?_
                refine w_iload_n C dX10_ramp_106 (by rfl) ?_
                refine w_iastn (j := 2) C f_q (by decide) (by decide) dX10_ramp_107 (fun h107 u107 => ?_)
                have f_q := u107.self
                have fr0 := Fr.fresh (S := [q]) (((uq.frN nq).sub (by simp)).tr (u99.fr.tr (u103.fr.tr (u107.fr)))) (by intro b m; simp at m; rw [m]; exact nq)
                have YY := YY0.fr0 fr0
                obtain ⟨mm, mL, mk, mw, mCl, mGl, mPt, mOr, mRm, mn1, mn2, mn3⟩ := id YY
                refine cl_X10_91 C (m_add hl YY.lr YY.ar (Or.inl ⟨_, _, f_q⟩) (fun i hi => Or.inl ⟨_, _, mRm i hi⟩) (by omega)) YY.lr (by rfl) (by rfl) ⟨by decide, by decide⟩ (by rfl) dX10_ramp_108 (fun z11 h11 p11 => ?_)
                obtain ⟨rfl, el', nE, g1, g2, d9⟩ := p11
                have hx9 := (LCh.of YY.ar Fr.rfl9 nE d9).oth YY.lr f_q (by intro _ _ _ v; simp at v) (by intro _ _ _ v; simp at v)
                have YY := YY0.addR (r := (r0, t0, d0)) hx9 (fun z v => by rw [nq] at v; cases v) g1 g2 (LCh.of YY0.ar fr0 nE d9)
                obtain ⟨mm, mL, mk, mw, mCl, mGl, mPt, mOr, mRm, mn1, mn2, mn3⟩ := id YY
                refine w_pop C dX10_ramp_111 (by rfl) ?_
                first | refine w_aload_n C dX10_ramp_112 (by rfl) ?_ | refine w_aload_nN C dX10_ramp_112 (by rfl) ?_
                refine gf_X10_28 C mm dX10_ramp_113 ?_
                refine gf_X10_186 C mk dX10_ramp_116 ?_
                refine cl_X10_40 C (m_Jx4a65c_size_8abf5 hl YY.lr) YY.lr (by rfl) (by rfl) ⟨by decide, by decide⟩ (by rfl) dX10_ramp_119 (fun z12 h12 p12 => ?_)
                obtain ⟨rfl, rfl⟩ := p12
                refine w_iconst (v := 1) C dX10_ramp_122 (by rfl) ?_
                refine w_isub C dX10_ramp_123 ?_
                refine w_iret C M dX10_ramp_124 ⟨by decide, by decide⟩ ⟨_, rfl, ?_⟩
                exact Or.inr (Or.inr ⟨⟨c_10, c_22, c_32⟩, c_55, b9, nI_s1 _, YY.ex⟩)
              · exact absurd c_81 (by decide)
            · have b9 : ¬ nR < 5 := by
                have := (nI_eq (b := 5) (by omega) (by decide)).mp c_69
                omega
              refine w_iconst (v := 1) C dX10_ramp_72 (by rfl) ?_
              refine w_goto (tgt := 77) C dX10_ramp_73 (by rfl) ?_
              refine w_iconst (v := 2) C dX10_ramp_77 (by rfl) ?_
              refine cl_X10_36 C (m_X10_refuseT hl mm (by decide)) mm (by rfl) (by rfl) ⟨by decide, by decide⟩ (by rfl) dX10_ramp_78 (fun z13 h13 p13 => ?_)
              obtain ⟨rfl, p13⟩ := p13
              have YY := YY.me (th2 := 2) (day2 := day) (dmp2 := dmp) (pur2 := pur) (rf2 := rf) p13
              obtain ⟨mm, mL, mk, mw, mCl, mGl, mPt, mOr, mRm, mn1, mn2, mn3⟩ := id YY
              refine w_if_eq (tgt := 86) C dX10_ramp_81 (by rfl) (fun c_81 => ?_) (fun c_81 => ?_)
              · exact absurd c_81 (by decide)
              · try simp only [cg_ge, cg_gt, cl_gt, cl_le, cl_eq, cl_lt, cl_ge, bi_eq0, bi_ne0, bI_eq0, Decidable.not_not, Bool.not_eq_false] at c_81
                refine w_iconst (v := 0) C dX10_ramp_84 (by rfl) ?_
                refine w_iret C M dX10_ramp_85 ⟨by decide, by decide⟩ ⟨_, rfl, ?_⟩
                exact Or.inr (Or.inl ⟨⟨c_10, c_22, c_32⟩, Or.inr b9, rfl, YY.ex⟩)
      · try simp only [cg_ge, cg_gt, cl_gt, cl_le, cl_eq, cl_lt, cl_ge, bi_eq0, bi_ne0, bI_eq0, Decidable.not_not, Bool.not_eq_false] at c_32
        refine w_iconst (v := 1) C dX10_ramp_35 (by rfl) ?_
        refine w_goto (tgt := 40) C dX10_ramp_36 (by rfl) ?_
        refine w_iconst (v := 1) C dX10_ramp_40 (by rfl) ?_
        refine cl_X10_88 C (m_X10_startT hl mm (by decide)) mm (by rfl) (by rfl) ⟨by decide, by decide⟩ (by rfl) dX10_ramp_41 (fun z14 h14 p14 => ?_)
        obtain ⟨rfl, p14⟩ := p14
        have YY := YY.me (th2 := 1) (day2 := day) (dmp2 := dmp) (pur2 := pur) (rf2 := rf) p14
        obtain ⟨mm, mL, mk, mw, mCl, mGl, mPt, mOr, mRm, mn1, mn2, mn3⟩ := id YY
        refine w_if_ne (tgt := 84) C dX10_ramp_44 (by rfl) (fun c_44 => ?_) (fun c_44 => ?_)
        · try simp only [cg_ge, cg_gt, cl_gt, cl_le, cl_eq, cl_lt, cl_ge, bi_eq0, bi_ne0, bI_eq0, Decidable.not_not, Bool.not_eq_false] at c_44
          refine w_iconst (v := 0) C dX10_ramp_84 (by rfl) ?_
          refine w_iret C M dX10_ramp_85 ⟨by decide, by decide⟩ ⟨_, rfl, ?_⟩
          exact Or.inl ⟨(fun w => c_32 w.2.2), rfl, YY.ex⟩
        · exact absurd c_44 (by decide)

set_option maxHeartbeats 4000000 in
set_option maxRecDepth 100000 in
theorem m_X10_forget {l : Launch} {D : va_G} {tc : Nat → ClassId} (hl : l.stackTraces = false) {h : HM} {m0 kl wk : Nat} {L : Nat → Nat} {E : Nat → Nat} {M : Nat → Int32} {ca : Nat → Nat} {ga : Nat → Nat} {pa : Nat → Nat} {oa : Nat → Nat} {ra : Nat → Nat} {th : Int32} {nC : Nat} {cs : Nat → Int32 × Int32} {nG : Nat} {gs : Nat → GT} {nP : Nat} {ps : Nat → PT} {nO : Nat} {os : Nat → OT} {nR : Nat} {rs : Nat → RT} {k : KT} {dmp : Int32} {day : Int32} {pur : Int32} {rf : Int32} (YY : Mh tc m0 kl wk L E M ca ga pa oa ra th nC cs nG gs nP ps nO os nR rs k dmp day pur rf h) :
    CT l D tc yX10_forget cX10_forget 2 (some FieldType.int) rm_X10_forget [.ref m0] h (rI (fun z h' => (kL k = true ∧ z = 0 ∧ MhE tc m0 kl wk 1 nC cs nG gs nP ps nO os nR rs k dmp day pur rf h') ∨ (kL k = false ∧ z = nI nR ∧ MhE tc m0 kl wk 0 nC cs nG gs nP ps nO os 0 rs k dmp day pur rf h'))) := by
  refine CT.start [some (.ref m0), none] (by decide) hl rfl rfl (fun K C M => ?_)
  obtain ⟨rfl, rfl, rfl, -⟩ := id M
  have C : CX K RX10 cX10_forget 2 rm_X10_forget := C
  obtain ⟨mm, mL, mk, mw, mCl, mGl, mPt, mOr, mRm, mn1, mn2, mn3⟩ := id YY
  first | refine w_aload_n C dX10_forget_0 (by rfl) ?_ | refine w_aload_nN C dX10_forget_0 (by rfl) ?_
  first | refine w_aload_n C dX10_forget_1 (by rfl) ?_ | refine w_aload_nN C dX10_forget_1 (by rfl) ?_
  refine gf_X10_28 C mm dX10_forget_2 ?_
  refine gf_X10_48 C mk dX10_forget_5 ?_
  refine w_iconst (v := 1) C dX10_forget_8 (by rfl) ?_
  cases hk9 : kL k
  · rw [bi_f]
    refine cl_X10_88 C (m_X10_startF hl mm) mm (by rfl) (by rfl) ⟨by decide, by decide⟩ (by rfl) dX10_forget_9 (fun z1 h1 p1 => ?_)
    obtain ⟨rfl, p1⟩ := p1
    have YY := YY.me (th2 := 0) (day2 := day) (dmp2 := dmp) (pur2 := pur) (rf2 := rf) p1
    obtain ⟨mm, mL, mk, mw, mCl, mGl, mPt, mOr, mRm, mn1, mn2, mn3⟩ := id YY
    refine w_if_eq (tgt := 17) C dX10_forget_12 (by rfl) (fun c_12 => ?_) (fun c_12 => ?_)
    · try simp only [cg_ge, cg_gt, cl_gt, cl_le, cl_eq, cl_lt, cl_ge, bi_eq0, bi_ne0, bI_eq0, Decidable.not_not, Bool.not_eq_false] at c_12
      first | refine w_aload_n C dX10_forget_17 (by rfl) ?_ | refine w_aload_nN C dX10_forget_17 (by rfl) ?_
      refine gf_X10_28 C mm dX10_forget_18 ?_
      refine gf_X10_186 C mk dX10_forget_21 ?_
      refine cl_X10_40 C (m_Jx4a65c_size_8abf5 hl YY.lr) YY.lr (by rfl) (by rfl) ⟨by decide, by decide⟩ (by rfl) dX10_forget_24 (fun z2 h2 p2 => ?_)
      obtain ⟨rfl, rfl⟩ := p2
      refine w_istore_1 C dX10_forget_27 (by first | trivial | rfl) ?_
      first | refine w_aload_n C dX10_forget_28 (by rfl) ?_ | refine w_aload_nN C dX10_forget_28 (by rfl) ?_
      refine gf_X10_28 C mm dX10_forget_29 ?_
      refine gf_X10_186 C mk dX10_forget_32 ?_
      refine cl_X10_189 C (m_clr hl YY.lr YY.ar) YY.lr (by rfl) (by rfl) ⟨by decide, by decide⟩ (by rfl) dX10_forget_35 (fun h3 p3 => ?_)
      obtain ⟨g1, g2, d9⟩ := p3
      have YY := YY.noR g1 g2 (by
        rcases d9 with d9 | ⟨d1, d2, d3⟩
        · exact Or.inr (Or.inr ⟨rfl, d9⟩)
        · exact Or.inl ⟨rfl, d3, d1, d2⟩)
      refine w_iload_n C dX10_forget_38 (by rfl) ?_
      refine w_iret C M dX10_forget_39 ⟨by decide, by decide⟩ ⟨_, rfl, ?_⟩
      exact Or.inr ⟨hk9, rfl, YY.ex⟩
    · exact absurd c_12 (by decide)
  · rw [bi_t]
    refine cl_X10_88 C (m_X10_startT hl mm (by decide)) mm (by rfl) (by rfl) ⟨by decide, by decide⟩ (by rfl) dX10_forget_9 (fun z4 h4 p4 => ?_)
    obtain ⟨rfl, p4⟩ := p4
    have YY := YY.me (th2 := 1) (day2 := day) (dmp2 := dmp) (pur2 := pur) (rf2 := rf) p4
    obtain ⟨mm, mL, mk, mw, mCl, mGl, mPt, mOr, mRm, mn1, mn2, mn3⟩ := id YY
    refine w_if_eq (tgt := 17) C dX10_forget_12 (by rfl) (fun c_12 => ?_) (fun c_12 => ?_)
    · exact absurd c_12 (by decide)
    · try simp only [cg_ge, cg_gt, cl_gt, cl_le, cl_eq, cl_lt, cl_ge, bi_eq0, bi_ne0, bI_eq0, Decidable.not_not, Bool.not_eq_false] at c_12
      refine w_iconst (v := 0) C dX10_forget_15 (by rfl) ?_
      refine w_iret C M dX10_forget_16 ⟨by decide, by decide⟩ ⟨_, rfl, ?_⟩
      exact Or.inl ⟨hk9, rfl, YY.ex⟩
