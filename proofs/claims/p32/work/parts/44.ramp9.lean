/-! A RAMP MORE -/
theorem Yh.ramp {tc : Nat → ClassId} {h h' : HM} {y0 cA gA pA oA pr ra re rw tr tw : Nat} {ca ga pa oa : Nat → Nat} {f : Nat → Option Nat} {hb : UInt64} {hbt : UInt64} {dmt : Int32} {kt : KT} {nC : Nat} {cs : Nat → Int32 × Int32} {nG : Nat} {gs : Nat → GT} {nP : Nat} {ps : Nat → PT} {nO : Nat} {os : Nat → OT} {nR : Nat} {rs : Nat → RT} {k : KT} {dmp : Int32} {day : Int32} {pur : Int32} {rf : Int32} (Y : Yh tc y0 cA gA pA oA pr ra re rw tr tw ca ga pa oa f hb hbt dmt kt nC cs nG gs nP ps nO os nR rs k dmp day pur rf h) {q : Nat} {r0 : RT} (u0 : h' q = some (rCell r0)) (u1 : h' ra = some (qCell (tc 7) 5 (va_up f nR (some q)))) (u2 : h' pr = some (pCell ra (nR + 1))) (u : Fr [pr, ra] h h') : Yh tc y0 cA gA pA oA pr ra re rw tr tw ca ga pa oa (va_up f nR (some q)) hb hbt dmt kt nC cs nG gs nP ps nO os (nR + 1) (vf_upd rs nR r0) k dmp day pur rf h' := by
  obtain ⟨yy, yc, yg, yp, yo, ypr, yra, yre, yrw, ytr, ytw, yC, yG, yP, yO, yR, yn1, yn2, yn3, yn4⟩ := Y
  have N : ∀ {b : Nat} {z : va_E}, h b = some z → z ≠ pCell ra nR → z ≠ qCell (tc 7) 5 f → h' b = some z := fun hb1 n1 n2 => u _ _ (not2 (ne_of hb1 ypr n1) (ne_of hb1 yra n2)) hb1
  have NA : ∀ {b : Nat} {cA9 : ClassId} {m : Nat} {f9 : Nat → Option Nat}, h b = some (qCell cA9 m f9) → m ≠ 5 → h' b = some (qCell cA9 m f9) := fun hb1 n1 => u _ _ (not2 (ne_of hb1 ypr (by intro q; simp at q)) (ne_of hb1 yra (by intro w; simp at w; exact n1 w.2.1))) hb1
  refine ⟨N yy (by intro q; simp at q) (by intro q; simp at q), NA yc (by decide), NA yg (by decide), NA yp (by decide), NA yo (by decide), u2, u1, N yre (by intro q; simp at q) (by intro q; simp at q), N yrw (by intro q; simp at q) (by intro q; simp at q), N ytr (by intro q; simp at q) (by intro q; simp at q), N ytw (by intro q; simp at q) (by intro q; simp at q), fun j hj => N (yC j hj) (by intro q; simp at q) (by intro q; simp at q), fun j hj => N (yG j hj) (by intro q; simp at q) (by intro q; simp at q), fun j hj => N (yP j hj) (by intro q; simp at q) (by intro q; simp at q), fun j hj => N (yO j hj) (by intro q; simp at q) (by intro q; simp at q), fun j hj => ?_, yn1, yn2, yn3, yn4⟩
  by_cases w : j = nR
  · subst w
    exact ⟨q, if_pos rfl, by rw [show vf_upd rs j r0 j = r0 from if_pos rfl]; exact u0⟩
  · obtain ⟨r, r1, r2⟩ := yR j (by omega)
    exact ⟨r, (if_neg w).trans r1, by rw [show vf_upd rs nR r0 j = rs j from if_neg w]; exact N r2 (by intro q; simp at q) (by intro q; simp at q)⟩

set_option maxHeartbeats 4000000 in
set_option maxRecDepth 100000 in
theorem m_X7_ramp {l : Launch} {D : va_G} {tc : Nat → ClassId} (hl : l.stackTraces = false) {h : HM} {y0 cA gA pA oA pr ra re rw tr tw : Nat} {ca ga pa oa : Nat → Nat} {f : Nat → Option Nat} {hb : UInt64} {hbt : UInt64} {dmt : Int32} {kt : KT} {nC : Nat} {cs : Nat → Int32 × Int32} {nG : Nat} {gs : Nat → GT} {nP : Nat} {ps : Nat → PT} {nO : Nat} {os : Nat → OT} {nR : Nat} {rs : Nat → RT} {k : KT} {dmp : Int32} {day : Int32} {pur : Int32} {rf : Int32} (Y : Yh tc y0 cA gA pA oA pr ra re rw tr tw ca ga pa oa f hb hbt dmt kt nC cs nG gs nP ps nO os nR rs k dmp day pur rf h) (bR : nR ≤ 5) {r0 t0 d0 : Int32} :
    CTX l D tc yX7_ramp cX7_ramp 4 (some FieldType.int) rm_X7_ramp [.ref y0, .int r0, .int t0, .int d0] h (rI (fun z h' => ((10 ≤ r0 ∧ r0 ≤ 200) ∧ (100 ≤ t0 ∧ t0 ≤ 1400) ∧ 0 ≤ d0 ∧ d0 ≤ 20) ∧ kL k = false ∧ nR < 5 ∧ z = nI nR ∧ ∃ q, Yh tc y0 cA gA pA oA pr ra re rw tr tw ca ga pa oa (va_up f nR (some q)) hb hbt dmt kt nC cs nG gs nP ps nO os (nR + 1) (vf_upd rs nR (r0, t0, d0)) k dmp day pur rf h')) (fun E h' => (E = "java/lang/IllegalArgumentException" ∧ h' = h ∧ ¬ ((10 ≤ r0 ∧ r0 ≤ 200) ∧ (100 ≤ t0 ∧ t0 ≤ 1400) ∧ 0 ≤ d0 ∧ d0 ≤ 20)) ∨ (E = "java/lang/IllegalStateException" ∧ h' = h ∧ ((10 ≤ r0 ∧ r0 ≤ 200) ∧ (100 ≤ t0 ∧ t0 ≤ 1400) ∧ 0 ≤ d0 ∧ d0 ≤ 20) ∧ (kL k = true ∨ ¬ nR < 5))) := by
  refine CTX.start [some (.ref y0), some (.int r0), some (.int t0), some (.int d0)] (by decide) hl rfl rfl (fun K C M X => ?_)
  obtain ⟨rfl, rfl, rfl, -⟩ := id M
  have C : CX K RX7 cX7_ramp 4 rm_X7_ramp := C
  obtain ⟨yy, yc, yg, yp, yo, ypr, yra, yre, yrw, ytr, ytw, yC, yG, yP, yO, yR, yn1, yn2, yn3, yn4⟩ := id Y
  refine w_iload_n C dX7_ramp_0 (by rfl) ?_
  refine w_bipush (v := (10)) C dX7_ramp_1 (by rfl) ?_
  refine w_sipush (v := (200)) C dX7_ramp_3 (by rfl) ?_
  refine cl_X7_74 C (m_X7_isWithin hl r0 10 200) (by rfl) (by rfl) ⟨by decide, by decide⟩ (by rfl) dX7_ramp_6 (fun z1 h1 p1 => ?_)
  obtain ⟨rfl, rfl⟩ := p1
  refine w_if_eq (tgt := 34) C dX7_ramp_9 (by rfl) (fun c_9 => ?_) (fun c_9 => ?_)
  · try simp only [cg_ge, cg_gt, cl_gt, cl_le, cl_eq, cl_lt, cl_ge, bi_eq0, bi_ne0, bI_eq0, Decidable.not_not, Bool.not_eq_false] at c_9
    exact th_X7_78_202_82 C X (by rfl) (by rfl) (by rfl) (by decide) (by decide) (by decide) (by decide) (Or.inl ⟨rfl, rfl, by first | exact fun w => c_9 w.1 | exact fun w => c_21 w.2.1 | exact fun w => c_31 w.2.2⟩) dX7_ramp_34 dX7_ramp_37 dX7_ramp_38 dX7_ramp_40 dX7_ramp_43
  · try simp only [cg_ge, cg_gt, cl_gt, cl_le, cl_eq, cl_lt, cl_ge, bi_eq0, bi_ne0, bI_eq0, Decidable.not_not, Bool.not_eq_false] at c_9
    refine w_iload_n C dX7_ramp_12 (by rfl) ?_
    refine w_bipush (v := (100)) C dX7_ramp_13 (by rfl) ?_
    refine w_sipush (v := (1400)) C dX7_ramp_15 (by rfl) ?_
    refine cl_X7_74 C (m_X7_isWithin hl t0 100 1400) (by rfl) (by rfl) ⟨by decide, by decide⟩ (by rfl) dX7_ramp_18 (fun z2 h2 p2 => ?_)
    obtain ⟨rfl, rfl⟩ := p2
    refine w_if_eq (tgt := 34) C dX7_ramp_21 (by rfl) (fun c_21 => ?_) (fun c_21 => ?_)
    · try simp only [cg_ge, cg_gt, cl_gt, cl_le, cl_eq, cl_lt, cl_ge, bi_eq0, bi_ne0, bI_eq0, Decidable.not_not, Bool.not_eq_false] at c_21
      exact th_X7_78_202_82 C X (by rfl) (by rfl) (by rfl) (by decide) (by decide) (by decide) (by decide) (Or.inl ⟨rfl, rfl, by first | exact fun w => c_9 w.1 | exact fun w => c_21 w.2.1 | exact fun w => c_31 w.2.2⟩) dX7_ramp_34 dX7_ramp_37 dX7_ramp_38 dX7_ramp_40 dX7_ramp_43
    · try simp only [cg_ge, cg_gt, cl_gt, cl_le, cl_eq, cl_lt, cl_ge, bi_eq0, bi_ne0, bI_eq0, Decidable.not_not, Bool.not_eq_false] at c_21
      refine w_iload_n C dX7_ramp_24 (by rfl) ?_
      refine w_iconst (v := 0) C dX7_ramp_25 (by rfl) ?_
      refine w_bipush (v := (20)) C dX7_ramp_26 (by rfl) ?_
      refine cl_X7_74 C (m_X7_isWithin hl d0 0 20) (by rfl) (by rfl) ⟨by decide, by decide⟩ (by rfl) dX7_ramp_28 (fun z3 h3 p3 => ?_)
      obtain ⟨rfl, rfl⟩ := p3
      refine w_if_ne (tgt := 44) C dX7_ramp_31 (by rfl) (fun c_31 => ?_) (fun c_31 => ?_)
      · try simp only [cg_ge, cg_gt, cl_gt, cl_le, cl_eq, cl_lt, cl_ge, bi_eq0, bi_ne0, bI_eq0, Decidable.not_not, Bool.not_eq_false] at c_31
        first | refine w_aload_n C dX7_ramp_44 (by rfl) ?_ | refine w_aload_nN C dX7_ramp_44 (by rfl) ?_
        refine gf_X7_58 C yy dX7_ramp_45 ?_
        refine gf_X7_204 C yre dX7_ramp_48 ?_
        refine w_if_ne (tgt := 72) C dX7_ramp_51 (by rfl) (fun c_51 => ?_) (fun c_51 => ?_)
        · try simp only [cg_ge, cg_gt, cl_gt, cl_le, cl_eq, cl_lt, cl_ge, bi_eq0, bi_ne0, bI_eq0, Decidable.not_not, Bool.not_eq_false] at c_51
          exact th_X7_85_214_89 C X (by rfl) (by rfl) (by rfl) (by decide) (by decide) (by decide) (by decide) (Or.inr ⟨rfl, rfl, ⟨c_9, c_21, c_31⟩, by first | exact Or.inl c_51 | exact Or.inr (fun w => c_69 (nI_lt w (show 5 < 2 ^ 31 by decide)))⟩) dX7_ramp_72 dX7_ramp_75 dX7_ramp_76 dX7_ramp_78 dX7_ramp_81
        · try simp only [cg_ge, cg_gt, cl_gt, cl_le, cl_eq, cl_lt, cl_ge, bi_eq0, bi_ne0, bI_eq0, Decidable.not_not, Bool.not_eq_false] at c_51
          first | refine w_aload_n C dX7_ramp_54 (by rfl) ?_ | refine w_aload_nN C dX7_ramp_54 (by rfl) ?_
          refine gf_X7_49 C yy dX7_ramp_55 ?_
          refine gf_X7_207 C ypr dX7_ramp_58 ?_
          first | refine w_aload_n C dX7_ramp_61 (by rfl) ?_ | refine w_aload_nN C dX7_ramp_61 (by rfl) ?_
          refine gf_X7_49 C yy dX7_ramp_62 ?_
          refine gf_X7_210 C ypr dX7_ramp_65 ?_
          refine w_alen C 7 yra (by rfl) dX7_ramp_68 ?_
          refine w_icmp_lt (tgt := 82) C dX7_ramp_69 (by rfl) (fun c_69 => ?_) (fun c_69 => ?_)
          · have hlt : nR < 5 := (nI_ltI (b := 5) (by omega) (by decide)).mp c_69
            first | refine w_aload_n C dX7_ramp_82 (by rfl) ?_ | refine w_aload_nN C dX7_ramp_82 (by rfl) ?_
            refine gf_X7_49 C yy dX7_ramp_83 ?_
            refine gf_X7_210 C ypr dX7_ramp_86 ?_
            first | refine w_aload_n C dX7_ramp_89 (by rfl) ?_ | refine w_aload_nN C dX7_ramp_89 (by rfl) ?_
            refine gf_X7_49 C yy dX7_ramp_90 ?_
            refine gf_X7_207 C ypr dX7_ramp_93 ?_
            refine nw_X7_216 C (by decide) (by decide) dX7_ramp_96 (fun qq h4 n4 u4 => ?_)
            have yy := u4.new yy n4
            have ypr := u4.new ypr n4
            have yra := u4.new yra n4
            have f_qq := u4.self
            have uN := u4
            have nN := n4
            refine w_dup C dX7_ramp_99 (by rfl) ?_
            refine w_iload_n C dX7_ramp_100 (by rfl) ?_
            refine w_iload_n C dX7_ramp_101 (by rfl) ?_
            refine w_iload_n C dX7_ramp_102 (by rfl) ?_
            refine cl_X7_218 C (m_X6_init hl r0 t0 d0 f_qq) (by rfl) (by rfl) ⟨by decide, by decide⟩ (by rfl) dX7_ramp_103 (fun h5 p5 => ?_)
            have uI := uN.tr p5
            have yy := p5.oth yy f_qq (by intro q; simp at q)
            have ypr := p5.oth ypr f_qq (by intro q; simp at q)
            have yra := p5.oth yra f_qq (by intro q; simp at q)
            have f_qq := p5.self
            have yra0 := yra
            refine w_aastn C 7 (r := (RX6, TX6, 3)) (ci := 5) yra (by rfl) f_qq (by rfl) hlt (by decide) dX7_ramp_106 (fun h9 u9 => ?_)
            have yy := u9.oth yy yra0 (by intro q; simp at q)
            have ypr := u9.oth ypr yra0 (by intro q; simp at q)
            have f_qq := u9.oth f_qq yra0 (by intro q; simp at q)
            have yra := u9.self
            first | refine w_aload_n C dX7_ramp_107 (by rfl) ?_ | refine w_aload_nN C dX7_ramp_107 (by rfl) ?_
            refine gf_X7_49 C yy dX7_ramp_108 ?_
            refine w_dup C dX7_ramp_111 (by rfl) ?_
            refine gf_X7_207 C ypr dX7_ramp_112 ?_
            refine w_iconst (v := 1) C dX7_ramp_115 (by rfl) ?_
            refine w_iadd C dX7_ramp_116 ?_
            refine pf_X7_207 C ypr dX7_ramp_117 (fun h6 u6 => ?_)
            have yy := u6.oth yy ypr (by intro q; simp at q)
            have yra := u6.oth yra ypr (by intro q; simp at q)
            have f_qq := u6.oth f_qq ypr (by intro q; simp at q)
            have ypr := u6.self
            have FF : Fr [pr, ra] _ _ := (((uI.frN nN).sub (by simp)).tr (u9.fr.sub (by simp))).tr (u6.fr.sub (by simp))
            rw [nI_1 nR] at ypr
            first | refine w_aload_n C dX7_ramp_120 (by rfl) ?_ | refine w_aload_nN C dX7_ramp_120 (by rfl) ?_
            refine gf_X7_49 C yy dX7_ramp_121 ?_
            refine gf_X7_207 C ypr dX7_ramp_124 ?_
            refine w_iconst (v := 1) C dX7_ramp_127 (by rfl) ?_
            refine w_isub C dX7_ramp_128 ?_
            refine w_iret C M dX7_ramp_129 ⟨by decide, by decide⟩ ⟨_, rfl, ?_⟩
            refine ⟨⟨c_9, c_21, c_31⟩, c_51, hlt, ?_, qq, Yh.ramp Y (r0 := (r0, t0, d0)) f_qq yra ypr FF⟩
            rw [nI_pred]
          · exact th_X7_85_214_89 C X (by rfl) (by rfl) (by rfl) (by decide) (by decide) (by decide) (by decide) (Or.inr ⟨rfl, rfl, ⟨c_9, c_21, c_31⟩, by first | exact Or.inl c_51 | exact Or.inr (fun w => c_69 (nI_lt w (show 5 < 2 ^ 31 by decide)))⟩) dX7_ramp_72 dX7_ramp_75 dX7_ramp_76 dX7_ramp_78 dX7_ramp_81
      · try simp only [cg_ge, cg_gt, cl_gt, cl_le, cl_eq, cl_lt, cl_ge, bi_eq0, bi_ne0, bI_eq0, Decidable.not_not, Bool.not_eq_false] at c_31
        exact th_X7_78_202_82 C X (by rfl) (by rfl) (by rfl) (by decide) (by decide) (by decide) (by decide) (Or.inl ⟨rfl, rfl, by first | exact fun w => c_9 w.1 | exact fun w => c_21 w.2.1 | exact fun w => c_31 w.2.2⟩) dX7_ramp_34 dX7_ramp_37 dX7_ramp_38 dX7_ramp_40 dX7_ramp_43
