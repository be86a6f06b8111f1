/-! THE CALL THAT TELLS A GLAZE -/
def glzOk (g0 : GT) : Prop := ((0 ≤ g0.1 ∧ g0.1 ≤ 60) ∧ (0 ≤ g0.2.1 ∧ g0.2.1 ≤ 60) ∧ (0 ≤ g0.2.2.1 ∧ g0.2.2.1 ≤ 60) ∧ (0 ≤ g0.2.2.2.1 ∧ g0.2.2.2.1 ≤ 60) ∧ (0 ≤ g0.2.2.2.2 ∧ g0.2.2.2.2 ≤ 60)) ∧ ¬ (g0.1 = 0 ∧ g0.2.1 = 0)

set_option maxHeartbeats 4000000 in
set_option maxRecDepth 100000 in
theorem m_X7_glaze {l : Launch} {D : va_G} {tc : Nat → ClassId} (hl : l.stackTraces = false) {h : HM} {y0 cA gA pA oA pr ra re rw tr tw : Nat} {ca ga pa oa : Nat → Nat} {f : Nat → Option Nat} {hb : UInt64} {hbt : UInt64} {dmt : Int32} {kt : KT} {nC : Nat} {cs : Nat → Int32 × Int32} {nG : Nat} {gs : Nat → GT} {nP : Nat} {ps : Nat → PT} {nO : Nat} {os : Nat → OT} {nR : Nat} {rs : Nat → RT} {k : KT} {dmp : Int32} {day : Int32} {pur : Int32} {rf : Int32} (Y : Yh tc y0 cA gA pA oA pr ra re rw tr tw ca ga pa oa f hb hbt dmt kt nC cs nG gs nP ps nO os nR rs k dmp day pur rf h) (bG : nG ≤ 4) (hPG : ∀ i, i < nP → ∀ g, (ps i).2.1 = some g → g < nG) {g0 : GT} (hn : glzOk g0 → glzN g0) :
    CTX l D tc yX7_glaze cX7_glaze 6 (some FieldType.int) rm_X7_glaze [.ref y0, .int g0.1, .int g0.2.1, .int g0.2.2.1, .int g0.2.2.2.1, .int g0.2.2.2.2] h (rI (fun z h' => glzOk g0 ∧ nG < 4 ∧ z = nI nG ∧ ∃ q, Yh tc y0 cA gA pA oA pr ra re rw tr tw ca (vf_upd ga nG q) pa oa f hb hbt dmt kt nC cs (nG + 1) (vf_upd gs nG g0) nP ps nO os nR rs k dmp day pur rf h')) (fun E h' => (E = "java/lang/IllegalArgumentException" ∧ h' = h ∧ ¬ glzOk g0) ∨ (E = "java/lang/IllegalStateException" ∧ h' = h ∧ glzOk g0 ∧ ¬ nG < 4)) := by
  refine CTX.start [some (.ref y0), some (.int g0.1), some (.int g0.2.1), some (.int g0.2.2.1), some (.int g0.2.2.2.1), some (.int g0.2.2.2.2)] (by decide) hl rfl rfl (fun K C M X => ?_)
  obtain ⟨rfl, rfl, rfl, -⟩ := id M
  have C : CX K RX7 cX7_glaze 6 rm_X7_glaze := C
  obtain ⟨yy, yc, yg, yp, yo, ypr, yra, yre, yrw, ytr, ytw, yC, yG, yP, yO, yR, yn1, yn2, yn3, yn4⟩ := id Y
  refine w_iload_n C dX7_glaze_0 (by rfl) ?_
  refine cl_X7_93 C (m_X7_isPart hl g0.1) (by rfl) (by rfl) ⟨by decide, by decide⟩ (by rfl) dX7_glaze_1 (fun z1 h1 p1 => ?_)
  obtain ⟨rfl, rfl⟩ := p1
  refine w_if_eq (tgt := 37) C dX7_glaze_4 (by rfl) (fun c_4 => ?_) (fun c_4 => ?_)
  · try simp only [cg_ge, cg_gt, cl_gt, cl_le, cl_eq, cl_lt, cl_ge, bi_eq0, bi_ne0, bI_eq0, Decidable.not_not, Bool.not_eq_false] at c_4
    exact th_X7_78_97_82 C X (by rfl) (by rfl) (by rfl) (by decide) (by decide) (by decide) (by decide) (Or.inl ⟨rfl, rfl, by first | exact fun w => c_4 w.1.1 | exact fun w => c_11 w.1.2.1 | exact fun w => c_18 w.1.2.2.1 | exact fun w => c_26 w.1.2.2.2.1 | exact fun w => c_34 w.1.2.2.2.2⟩) dX7_glaze_37 dX7_glaze_40 dX7_glaze_41 dX7_glaze_43 dX7_glaze_46
  · try simp only [cg_ge, cg_gt, cl_gt, cl_le, cl_eq, cl_lt, cl_ge, bi_eq0, bi_ne0, bI_eq0, Decidable.not_not, Bool.not_eq_false] at c_4
    refine w_iload_n C dX7_glaze_7 (by rfl) ?_
    refine cl_X7_93 C (m_X7_isPart hl g0.2.1) (by rfl) (by rfl) ⟨by decide, by decide⟩ (by rfl) dX7_glaze_8 (fun z8 h2 p2 => ?_)
    obtain ⟨rfl, rfl⟩ := p2
    refine w_if_eq (tgt := 37) C dX7_glaze_11 (by rfl) (fun c_11 => ?_) (fun c_11 => ?_)
    · try simp only [cg_ge, cg_gt, cl_gt, cl_le, cl_eq, cl_lt, cl_ge, bi_eq0, bi_ne0, bI_eq0, Decidable.not_not, Bool.not_eq_false] at c_11
      exact th_X7_78_97_82 C X (by rfl) (by rfl) (by rfl) (by decide) (by decide) (by decide) (by decide) (Or.inl ⟨rfl, rfl, by first | exact fun w => c_4 w.1.1 | exact fun w => c_11 w.1.2.1 | exact fun w => c_18 w.1.2.2.1 | exact fun w => c_26 w.1.2.2.2.1 | exact fun w => c_34 w.1.2.2.2.2⟩) dX7_glaze_37 dX7_glaze_40 dX7_glaze_41 dX7_glaze_43 dX7_glaze_46
    · try simp only [cg_ge, cg_gt, cl_gt, cl_le, cl_eq, cl_lt, cl_ge, bi_eq0, bi_ne0, bI_eq0, Decidable.not_not, Bool.not_eq_false] at c_11
      refine w_iload_n C dX7_glaze_14 (by rfl) ?_
      refine cl_X7_93 C (m_X7_isPart hl g0.2.2.1) (by rfl) (by rfl) ⟨by decide, by decide⟩ (by rfl) dX7_glaze_15 (fun z15 h3 p3 => ?_)
      obtain ⟨rfl, rfl⟩ := p3
      refine w_if_eq (tgt := 37) C dX7_glaze_18 (by rfl) (fun c_18 => ?_) (fun c_18 => ?_)
      · try simp only [cg_ge, cg_gt, cl_gt, cl_le, cl_eq, cl_lt, cl_ge, bi_eq0, bi_ne0, bI_eq0, Decidable.not_not, Bool.not_eq_false] at c_18
        exact th_X7_78_97_82 C X (by rfl) (by rfl) (by rfl) (by decide) (by decide) (by decide) (by decide) (Or.inl ⟨rfl, rfl, by first | exact fun w => c_4 w.1.1 | exact fun w => c_11 w.1.2.1 | exact fun w => c_18 w.1.2.2.1 | exact fun w => c_26 w.1.2.2.2.1 | exact fun w => c_34 w.1.2.2.2.2⟩) dX7_glaze_37 dX7_glaze_40 dX7_glaze_41 dX7_glaze_43 dX7_glaze_46
      · try simp only [cg_ge, cg_gt, cl_gt, cl_le, cl_eq, cl_lt, cl_ge, bi_eq0, bi_ne0, bI_eq0, Decidable.not_not, Bool.not_eq_false] at c_18
        refine w_iload C dX7_glaze_21 (by rfl) ?_
        refine cl_X7_93 C (m_X7_isPart hl g0.2.2.2.1) (by rfl) (by rfl) ⟨by decide, by decide⟩ (by rfl) dX7_glaze_23 (fun z23 h4 p4 => ?_)
        obtain ⟨rfl, rfl⟩ := p4
        refine w_if_eq (tgt := 37) C dX7_glaze_26 (by rfl) (fun c_26 => ?_) (fun c_26 => ?_)
        · try simp only [cg_ge, cg_gt, cl_gt, cl_le, cl_eq, cl_lt, cl_ge, bi_eq0, bi_ne0, bI_eq0, Decidable.not_not, Bool.not_eq_false] at c_26
          exact th_X7_78_97_82 C X (by rfl) (by rfl) (by rfl) (by decide) (by decide) (by decide) (by decide) (Or.inl ⟨rfl, rfl, by first | exact fun w => c_4 w.1.1 | exact fun w => c_11 w.1.2.1 | exact fun w => c_18 w.1.2.2.1 | exact fun w => c_26 w.1.2.2.2.1 | exact fun w => c_34 w.1.2.2.2.2⟩) dX7_glaze_37 dX7_glaze_40 dX7_glaze_41 dX7_glaze_43 dX7_glaze_46
        · try simp only [cg_ge, cg_gt, cl_gt, cl_le, cl_eq, cl_lt, cl_ge, bi_eq0, bi_ne0, bI_eq0, Decidable.not_not, Bool.not_eq_false] at c_26
          refine w_iload C dX7_glaze_29 (by rfl) ?_
          refine cl_X7_93 C (m_X7_isPart hl g0.2.2.2.2) (by rfl) (by rfl) ⟨by decide, by decide⟩ (by rfl) dX7_glaze_31 (fun z31 h5 p5 => ?_)
          obtain ⟨rfl, rfl⟩ := p5
          refine w_if_ne (tgt := 47) C dX7_glaze_34 (by rfl) (fun c_34 => ?_) (fun c_34 => ?_)
          · try simp only [cg_ge, cg_gt, cl_gt, cl_le, cl_eq, cl_lt, cl_ge, bi_eq0, bi_ne0, bI_eq0, Decidable.not_not, Bool.not_eq_false] at c_34
            refine w_iload_n C dX7_glaze_47 (by rfl) ?_
            refine w_if_ne (tgt := 65) C dX7_glaze_48 (by rfl) (fun c_48 => ?_) (fun c_48 => ?_)
            · try simp only [cg_ge, cg_gt, cl_gt, cl_le, cl_eq, cl_lt, cl_ge, bi_eq0, bi_ne0, bI_eq0, Decidable.not_not, Bool.not_eq_false] at c_48
              have hok : glzOk g0 := ⟨⟨c_4, c_11, c_18, c_26, c_34⟩, fun w => c_48 w.1⟩
              first | refine w_aload_n C dX7_glaze_65 (by rfl) ?_ | refine w_aload_nN C dX7_glaze_65 (by rfl) ?_
              refine gf_X7_37 C yy dX7_glaze_66 ?_
              first | refine w_aload_n C dX7_glaze_69 (by rfl) ?_ | refine w_aload_nN C dX7_glaze_69 (by rfl) ?_
              refine gf_X7_17 C yy dX7_glaze_70 ?_
              refine w_alen C 4 yg (by rfl) dX7_glaze_73 ?_
              refine w_icmp_lt (tgt := 87) C dX7_glaze_74 (by rfl) (fun c_74 => ?_) (fun c_74 => ?_)
              · have hlt : nG < 4 := (nI_ltI (b := 4) (by omega) (by decide)).mp c_74
                first | refine w_aload_n C dX7_glaze_87 (by rfl) ?_ | refine w_aload_nN C dX7_glaze_87 (by rfl) ?_
                refine gf_X7_17 C yy dX7_glaze_88 ?_
                first | refine w_aload_n C dX7_glaze_91 (by rfl) ?_ | refine w_aload_nN C dX7_glaze_91 (by rfl) ?_
                refine gf_X7_37 C yy dX7_glaze_92 ?_
                refine nw_X7_15 C (by decide) (by decide) dX7_glaze_95 (fun qq h6 n6 u6 => ?_)
                have yy := u6.new yy n6
                have yg := u6.new yg n6
                have f_qq := u6.self
                have uN := u6
                have nN := n6
                refine w_dup C dX7_glaze_98 (by rfl) ?_
                first | refine w_aload_n C dX7_glaze_99 (by rfl) ?_ | refine w_aload_nN C dX7_glaze_99 (by rfl) ?_
                refine gf_X7_37 C yy dX7_glaze_100 ?_
                refine w_iload_n C dX7_glaze_103 (by rfl) ?_
                refine w_iload_n C dX7_glaze_104 (by rfl) ?_
                refine w_iload_n C dX7_glaze_105 (by rfl) ?_
                refine w_iload C dX7_glaze_106 (by rfl) ?_
                refine w_iload C dX7_glaze_108 (by rfl) ?_
                refine cl_X7_103 C (m_X1_init hl (g := g0) (i := nG) f_qq (hn hok)) (by rfl) (by rfl) ⟨by decide, by decide⟩ (by rfl) dX7_glaze_110 (fun h7 p7 => ?_)
                have uI := uN.tr p7
                have yy := p7.oth yy f_qq (by intro q; simp at q)
                have yg := p7.oth yg f_qq (by intro q; simp at q)
                have f_qq := p7.self
                have yg0 := yg
                refine w_aastn C 4 (r := (RX1, TX1, 6)) (ci := 1) yg (by rfl) f_qq (by rfl) hlt (by decide) dX7_glaze_113 (fun h9 u9 => ?_)
                have yy := u9.oth yy yg0 (by intro q; simp at q)
                have f_qq := u9.oth f_qq yg0 (by intro q; simp at q)
                have yg := u9.self
                rw [row9_up] at yg
                first | refine w_aload_n C dX7_glaze_114 (by rfl) ?_ | refine w_aload_nN C dX7_glaze_114 (by rfl) ?_
                refine w_dup C dX7_glaze_115 (by rfl) ?_
                refine gf_X7_37 C yy dX7_glaze_116 ?_
                refine w_iconst (v := 1) C dX7_glaze_119 (by rfl) ?_
                refine w_iadd C dX7_glaze_120 ?_
                refine pf_X7_37 C yy dX7_glaze_121 (fun h8 u8 => ?_)
                have yg := u8.oth yg yy (by intro q; simp at q)
                have f_qq := u8.oth f_qq yy (by intro q; simp at q)
                have yy := u8.self
                have FF : Fr [y0, gA] _ _ := (((uI.frN nN).sub (by simp)).tr (u9.fr.sub (by simp))).tr (u8.fr.sub (by simp))
                rw [nI_1 nG] at yy
                first | refine w_aload_n C dX7_glaze_124 (by rfl) ?_ | refine w_aload_nN C dX7_glaze_124 (by rfl) ?_
                refine gf_X7_37 C yy dX7_glaze_125 ?_
                refine w_iconst (v := 1) C dX7_glaze_128 (by rfl) ?_
                refine w_isub C dX7_glaze_129 ?_
                refine w_iret C M dX7_glaze_130 ⟨by decide, by decide⟩ ⟨_, rfl, ?_⟩
                refine ⟨hok, hlt, ?_, qq, Yh.glaze Y nN hPG (g := g0) f_qq yg yy FF⟩
                rw [nI_pred]
              · exact th_X7_85_101_89 C X (by rfl) (by rfl) (by rfl) (by decide) (by decide) (by decide) (by decide) (Or.inr ⟨rfl, rfl, hok, fun w => c_74 (nI_lt w (show 4 < 2 ^ 31 by decide))⟩) dX7_glaze_77 dX7_glaze_80 dX7_glaze_81 dX7_glaze_83 dX7_glaze_86
            · try simp only [cg_ge, cg_gt, cl_gt, cl_le, cl_eq, cl_lt, cl_ge, bi_eq0, bi_ne0, bI_eq0, Decidable.not_not, Bool.not_eq_false] at c_48
              refine w_iload_n C dX7_glaze_51 (by rfl) ?_
              refine w_if_ne (tgt := 65) C dX7_glaze_52 (by rfl) (fun c_52 => ?_) (fun c_52 => ?_)
              · try simp only [cg_ge, cg_gt, cl_gt, cl_le, cl_eq, cl_lt, cl_ge, bi_eq0, bi_ne0, bI_eq0, Decidable.not_not, Bool.not_eq_false] at c_52
                have hok : glzOk g0 := ⟨⟨c_4, c_11, c_18, c_26, c_34⟩, fun w => c_52 w.2⟩
                first | refine w_aload_n C dX7_glaze_65 (by rfl) ?_ | refine w_aload_nN C dX7_glaze_65 (by rfl) ?_
                refine gf_X7_37 C yy dX7_glaze_66 ?_
                first | refine w_aload_n C dX7_glaze_69 (by rfl) ?_ | refine w_aload_nN C dX7_glaze_69 (by rfl) ?_
                refine gf_X7_17 C yy dX7_glaze_70 ?_
                refine w_alen C 4 yg (by rfl) dX7_glaze_73 ?_
                refine w_icmp_lt (tgt := 87) C dX7_glaze_74 (by rfl) (fun c_74 => ?_) (fun c_74 => ?_)
                · have hlt : nG < 4 := (nI_ltI (b := 4) (by omega) (by decide)).mp c_74
                  first | refine w_aload_n C dX7_glaze_87 (by rfl) ?_ | refine w_aload_nN C dX7_glaze_87 (by rfl) ?_
                  refine gf_X7_17 C yy dX7_glaze_88 ?_
                  first | refine w_aload_n C dX7_glaze_91 (by rfl) ?_ | refine w_aload_nN C dX7_glaze_91 (by rfl) ?_
                  refine gf_X7_37 C yy dX7_glaze_92 ?_
                  refine nw_X7_15 C (by decide) (by decide) dX7_glaze_95 (fun qq h9 n9 u9 => ?_)
                  have yy := u9.new yy n9
                  have yg := u9.new yg n9
                  have f_qq := u9.self
                  have uN := u9
                  have nN := n9
                  refine w_dup C dX7_glaze_98 (by rfl) ?_
                  first | refine w_aload_n C dX7_glaze_99 (by rfl) ?_ | refine w_aload_nN C dX7_glaze_99 (by rfl) ?_
                  refine gf_X7_37 C yy dX7_glaze_100 ?_
                  refine w_iload_n C dX7_glaze_103 (by rfl) ?_
                  refine w_iload_n C dX7_glaze_104 (by rfl) ?_
                  refine w_iload_n C dX7_glaze_105 (by rfl) ?_
                  refine w_iload C dX7_glaze_106 (by rfl) ?_
                  refine w_iload C dX7_glaze_108 (by rfl) ?_
                  refine cl_X7_103 C (m_X1_init hl (g := g0) (i := nG) f_qq (hn hok)) (by rfl) (by rfl) ⟨by decide, by decide⟩ (by rfl) dX7_glaze_110 (fun h10 p10 => ?_)
                  have uI := uN.tr p10
                  have yy := p10.oth yy f_qq (by intro q; simp at q)
                  have yg := p10.oth yg f_qq (by intro q; simp at q)
                  have f_qq := p10.self
                  have yg0 := yg
                  refine w_aastn C 4 (r := (RX1, TX1, 6)) (ci := 1) yg (by rfl) f_qq (by rfl) hlt (by decide) dX7_glaze_113 (fun h9 u9 => ?_)
                  have yy := u9.oth yy yg0 (by intro q; simp at q)
                  have f_qq := u9.oth f_qq yg0 (by intro q; simp at q)
                  have yg := u9.self
                  rw [row9_up] at yg
                  first | refine w_aload_n C dX7_glaze_114 (by rfl) ?_ | refine w_aload_nN C dX7_glaze_114 (by rfl) ?_
                  refine w_dup C dX7_glaze_115 (by rfl) ?_
                  refine gf_X7_37 C yy dX7_glaze_116 ?_
                  refine w_iconst (v := 1) C dX7_glaze_119 (by rfl) ?_
                  refine w_iadd C dX7_glaze_120 ?_
                  refine pf_X7_37 C yy dX7_glaze_121 (fun h11 u11 => ?_)
                  have yg := u11.oth yg yy (by intro q; simp at q)
                  have f_qq := u11.oth f_qq yy (by intro q; simp at q)
                  have yy := u11.self
                  have FF : Fr [y0, gA] _ _ := (((uI.frN nN).sub (by simp)).tr (u9.fr.sub (by simp))).tr (u11.fr.sub (by simp))
                  rw [nI_1 nG] at yy
                  first | refine w_aload_n C dX7_glaze_124 (by rfl) ?_ | refine w_aload_nN C dX7_glaze_124 (by rfl) ?_
                  refine gf_X7_37 C yy dX7_glaze_125 ?_
                  refine w_iconst (v := 1) C dX7_glaze_128 (by rfl) ?_
                  refine w_isub C dX7_glaze_129 ?_
                  refine w_iret C M dX7_glaze_130 ⟨by decide, by decide⟩ ⟨_, rfl, ?_⟩
                  refine ⟨hok, hlt, ?_, qq, Yh.glaze Y nN hPG (g := g0) f_qq yg yy FF⟩
                  rw [nI_pred]
                · exact th_X7_85_101_89 C X (by rfl) (by rfl) (by rfl) (by decide) (by decide) (by decide) (by decide) (Or.inr ⟨rfl, rfl, hok, fun w => c_74 (nI_lt w (show 4 < 2 ^ 31 by decide))⟩) dX7_glaze_77 dX7_glaze_80 dX7_glaze_81 dX7_glaze_83 dX7_glaze_86
              · try simp only [cg_ge, cg_gt, cl_gt, cl_le, cl_eq, cl_lt, cl_ge, bi_eq0, bi_ne0, bI_eq0, Decidable.not_not, Bool.not_eq_false] at c_52
                exact th_X7_78_99_82 C X (by rfl) (by rfl) (by rfl) (by decide) (by decide) (by decide) (by decide) (Or.inl ⟨rfl, rfl, fun w => w.2 ⟨c_48, c_52⟩⟩) dX7_glaze_55 dX7_glaze_58 dX7_glaze_59 dX7_glaze_61 dX7_glaze_64
          · try simp only [cg_ge, cg_gt, cl_gt, cl_le, cl_eq, cl_lt, cl_ge, bi_eq0, bi_ne0, bI_eq0, Decidable.not_not, Bool.not_eq_false] at c_34
            exact th_X7_78_97_82 C X (by rfl) (by rfl) (by rfl) (by decide) (by decide) (by decide) (by decide) (Or.inl ⟨rfl, rfl, by first | exact fun w => c_4 w.1.1 | exact fun w => c_11 w.1.2.1 | exact fun w => c_18 w.1.2.2.1 | exact fun w => c_26 w.1.2.2.2.1 | exact fun w => c_34 w.1.2.2.2.2⟩) dX7_glaze_37 dX7_glaze_40 dX7_glaze_41 dX7_glaze_43 dX7_glaze_46
