/-! A CLAY, A GLAZE, A POT, A RAMP, AN ORDER MORE -/
theorem row9_up {n : Nat} {a : Nat → Nat} {q : Nat} : va_up (row9 n a) n (some q) = row9 (n + 1) (vf_upd a n q) := by
  funext i
  simp only [va_up, row9, vf_upd]
  by_cases h : i = n
  · subst h; simp
  · by_cases g : i < n
    · rw [if_neg h, if_pos g, if_pos (by omega), if_neg h]
    · rw [if_neg h, if_neg g, if_neg (by omega)]

theorem Yh.clay {tc : Nat → ClassId} {h h' : HM} {y0 cA gA pA oA pr ra re rw tr tw : Nat} {ca ga pa oa : Nat → Nat} {f : Nat → Option Nat} {hb : UInt64} {hbt : UInt64} {dmt : Int32} {kt : KT} {nC : Nat} {cs : Nat → Int32 × Int32} {nG : Nat} {gs : Nat → GT} {nP : Nat} {ps : Nat → PT} {nO : Nat} {os : Nat → OT} {nR : Nat} {rs : Nat → RT} {k : KT} {dmp : Int32} {day : Int32} {pur : Int32} {rf : Int32} (Y : Yh tc y0 cA gA pA oA pr ra re rw tr tw ca ga pa oa f hb hbt dmt kt nC cs nG gs nP ps nO os nR rs k dmp day pur rf h) {q : Nat} {c : Int32 × Int32} (hq : h q = none) (hP : ∀ i, i < nP → (ps i).1 < nC) (u0 : h' q = some (cCell c.1 (sp_cg c.2))) (u1 : h' cA = some (qCell (tc 3) 3 (row9 (nC + 1) (vf_upd ca nC q)))) (u2 : h' y0 = some (yCell cA gA pA oA (nC + 1) nG nP nO pr re tr day pur rf)) (u : Fr [y0, cA] h h') : Yh tc y0 cA gA pA oA pr ra re rw tr tw (vf_upd ca nC q) ga pa oa f hb hbt dmt kt (nC + 1) (vf_upd cs nC c) nG gs nP ps nO os nR rs k dmp day pur rf h' := by
  obtain ⟨yy, yc, yg, yp, yo, ypr, yra, yre, yrw, ytr, ytw, yC, yG, yP, yO, yR, yn1, yn2, yn3, yn4⟩ := Y
  have N : ∀ {b : Nat} {z : va_E}, h b = some z → z ≠ yCell cA gA pA oA nC nG nP nO pr re tr day pur rf → z ≠ qCell (tc 3) 3 (row9 nC ca) → h' b = some z := fun hb1 n1 n2 => u _ _ (not2 (ne_of hb1 yy n1) (ne_of hb1 yc n2)) hb1
  have NA : ∀ {b : Nat} {cA9 : ClassId} {m : Nat} {f9 : Nat → Option Nat}, h b = some (qCell cA9 m f9) → b ≠ cA → h' b = some (qCell cA9 m f9) := fun hb1 n1 => u _ _ (not2 (ne_of hb1 yy (by intro q; simp at q)) n1) hb1
  refine ⟨u2, u1, NA yg (ne_of yg yc (by intro w; simp at w)), NA yp (ne_of yp yc (by intro w; simp at w)), NA yo (ne_of yo yc (by intro w; simp at w)), N ypr (by intro q; simp at q) (by intro q; simp at q), NA yra (ne_of yra yc (by intro w; simp at w)), N yre (by intro q; simp at q) (by intro q; simp at q), N yrw (by intro q; simp at q) (by intro q; simp at q), N ytr (by intro q; simp at q) (by intro q; simp at q), N ytw (by intro q; simp at q) (by intro q; simp at q), fun j hj => ?_, fun j hj => N (yG j hj) (by intro q; simp at q) (by intro q; simp at q), fun j hj => ?_, fun j hj => N (yO j hj) (by intro q; simp at q) (by intro q; simp at q), fun j hj => ?_, yn1, yn2, yn3, yn4⟩
  · by_cases w : j = nC
    · subst w
      rw [show vf_upd ca j q j = q from if_pos rfl, show vf_upd cs j c j = c from if_pos rfl]
      exact u0
    · rw [show vf_upd ca nC q j = ca j from if_neg w, show vf_upd cs nC c j = cs j from if_neg w]
      exact N (yC j (by omega)) (by intro q; simp at q) (by intro q; simp at q)
  · have w : ¬ (ps j).1 = nC := by have := hP j hj; omega
    show h' (pa j) = some (potC (.ref (vf_upd ca nC q (ps j).1)) _ _)
    rw [show vf_upd ca nC q (ps j).1 = ca (ps j).1 from if_neg w]
    exact N (yP j hj) (by intro q; simp at q) (by intro q; simp at q)
  · obtain ⟨r, r1, r2⟩ := yR j hj
    exact ⟨r, r1, N r2 (by intro q; simp at q) (by intro q; simp at q)⟩

set_option maxHeartbeats 4000000 in
set_option maxRecDepth 100000 in
theorem m_X7_clay {l : Launch} {D : va_G} {tc : Nat → ClassId} (hl : l.stackTraces = false) {h : HM} {y0 cA gA pA oA pr ra re rw tr tw : Nat} {ca ga pa oa : Nat → Nat} {f : Nat → Option Nat} {hb : UInt64} {hbt : UInt64} {dmt : Int32} {kt : KT} {nC : Nat} {cs : Nat → Int32 × Int32} {nG : Nat} {gs : Nat → GT} {nP : Nat} {ps : Nat → PT} {nO : Nat} {os : Nat → OT} {nR : Nat} {rs : Nat → RT} {k : KT} {dmp : Int32} {day : Int32} {pur : Int32} {rf : Int32} (Y : Yh tc y0 cA gA pA oA pr ra re rw tr tw ca ga pa oa f hb hbt dmt kt nC cs nG gs nP ps nO os nR rs k dmp day pur rf h) (bC : nC ≤ 3) (hP : ∀ i, i < nP → (ps i).1 < nC) {t g : Int32} :
    CTX l D tc yX7_clay cX7_clay 3 (some FieldType.int) rm_X7_clay [.ref y0, .int t, .int g] h (rI (fun z h' => ((1 ≤ t ∧ t ≤ 12) ∧ 8 ≤ g ∧ g ≤ 40) ∧ nC < 3 ∧ z = nI nC ∧ ∃ q, Yh tc y0 cA gA pA oA pr ra re rw tr tw (vf_upd ca nC q) ga pa oa f hb hbt dmt kt (nC + 1) (vf_upd cs nC (t, g)) nG gs nP ps nO os nR rs k dmp day pur rf h')) (fun E h' => (E = "java/lang/IllegalArgumentException" ∧ h' = h ∧ ¬ ((1 ≤ t ∧ t ≤ 12) ∧ 8 ≤ g ∧ g ≤ 40)) ∨ (E = "java/lang/IllegalStateException" ∧ h' = h ∧ ((1 ≤ t ∧ t ≤ 12) ∧ 8 ≤ g ∧ g ≤ 40) ∧ ¬ nC < 3)) := by
  refine CTX.start [some (.ref y0), some (.int t), some (.int g)] (by decide) hl rfl rfl (fun K C M X => ?_)
  obtain ⟨rfl, rfl, rfl, -⟩ := id M
  have C : CX K RX7 cX7_clay 3 rm_X7_clay := C
  obtain ⟨yy, yc, yg, yp, yo, ypr, yra, yre, yrw, ytr, ytw, yC, yG, yP, yO, yR, yn1, yn2, yn3, yn4⟩ := id Y
  refine w_iload_n C dX7_clay_0 (by rfl) ?_
  refine w_iconst (v := 1) C dX7_clay_1 (by rfl) ?_
  refine w_bipush (v := (12)) C dX7_clay_2 (by rfl) ?_
  refine cl_X7_74 C (m_X7_isWithin hl t 1 12) (by rfl) (by rfl) ⟨by decide, by decide⟩ (by rfl) dX7_clay_4 (fun z1 h1 p1 => ?_)
  obtain ⟨rfl, rfl⟩ := p1
  refine w_if_eq (tgt := 21) C dX7_clay_7 (by rfl) (fun c_7 => ?_) (fun c_7 => ?_)
  · try simp only [cg_ge, cg_gt, cl_gt, cl_le, cl_eq, cl_lt, cl_ge, bi_eq0, bi_ne0, bI_eq0, Decidable.not_not, Bool.not_eq_false] at c_7
    exact th_X7_78_80_82 C X (by rfl) (by rfl) (by rfl) (by decide) (by decide) (by decide) (by decide) (Or.inl ⟨rfl, rfl, by first | exact fun w => c_7 w.1 | exact fun w => c_18 w.2⟩) dX7_clay_21 dX7_clay_24 dX7_clay_25 dX7_clay_27 dX7_clay_30
  · try simp only [cg_ge, cg_gt, cl_gt, cl_le, cl_eq, cl_lt, cl_ge, bi_eq0, bi_ne0, bI_eq0, Decidable.not_not, Bool.not_eq_false] at c_7
    refine w_iload_n C dX7_clay_10 (by rfl) ?_
    refine w_bipush (v := (8)) C dX7_clay_11 (by rfl) ?_
    refine w_bipush (v := (40)) C dX7_clay_13 (by rfl) ?_
    refine cl_X7_74 C (m_X7_isWithin hl g 8 40) (by rfl) (by rfl) ⟨by decide, by decide⟩ (by rfl) dX7_clay_15 (fun z2 h2 p2 => ?_)
    obtain ⟨rfl, rfl⟩ := p2
    refine w_if_ne (tgt := 31) C dX7_clay_18 (by rfl) (fun c_18 => ?_) (fun c_18 => ?_)
    · try simp only [cg_ge, cg_gt, cl_gt, cl_le, cl_eq, cl_lt, cl_ge, bi_eq0, bi_ne0, bI_eq0, Decidable.not_not, Bool.not_eq_false] at c_18
      first | refine w_aload_n C dX7_clay_31 (by rfl) ?_ | refine w_aload_nN C dX7_clay_31 (by rfl) ?_
      refine gf_X7_33 C yy dX7_clay_32 ?_
      first | refine w_aload_n C dX7_clay_35 (by rfl) ?_ | refine w_aload_nN C dX7_clay_35 (by rfl) ?_
      refine gf_X7_11 C yy dX7_clay_36 ?_
      refine w_alen C 3 yc (by rfl) dX7_clay_39 ?_
      refine w_icmp_lt (tgt := 53) C dX7_clay_40 (by rfl) (fun c_40 => ?_) (fun c_40 => ?_)
      · have hlt : nC < 3 := (nI_ltI (b := 3) (by omega) (by decide)).mp c_40
        first | refine w_aload_n C dX7_clay_53 (by rfl) ?_ | refine w_aload_nN C dX7_clay_53 (by rfl) ?_
        refine gf_X7_11 C yy dX7_clay_54 ?_
        first | refine w_aload_n C dX7_clay_57 (by rfl) ?_ | refine w_aload_nN C dX7_clay_57 (by rfl) ?_
        refine gf_X7_33 C yy dX7_clay_58 ?_
        refine nw_X7_9 C (by decide) (by decide) dX7_clay_61 (fun qq h3 n3 u3 => ?_)
        have yy := u3.new yy n3
        have yc := u3.new yc n3
        have f_qq := u3.self
        have uN := u3
        have nN := n3
        refine w_dup C dX7_clay_64 (by rfl) ?_
        refine w_iload_n C dX7_clay_65 (by rfl) ?_
        refine w_iload_n C dX7_clay_66 (by rfl) ?_
        refine cl_X7_90 C (m_X0_init hl t g f_qq) (by rfl) (by rfl) ⟨by decide, by decide⟩ (by rfl) dX7_clay_67 (fun h4 p4 => ?_)
        have uI := uN.tr p4
        have yy := p4.oth yy f_qq (by intro q; simp at q)
        have yc := p4.oth yc f_qq (by intro q; simp at q)
        have f_qq := p4.self
        have yc0 := yc
        refine w_aastn C 3 (r := (RX0, TX0, 2)) (ci := 0) yc (by rfl) f_qq (by rfl) hlt (by decide) dX7_clay_70 (fun h9 u9 => ?_)
        have yy := u9.oth yy yc0 (by intro q; simp at q)
        have f_qq := u9.oth f_qq yc0 (by intro q; simp at q)
        have yc := u9.self
        rw [row9_up] at yc
        first | refine w_aload_n C dX7_clay_71 (by rfl) ?_ | refine w_aload_nN C dX7_clay_71 (by rfl) ?_
        refine w_dup C dX7_clay_72 (by rfl) ?_
        refine gf_X7_33 C yy dX7_clay_73 ?_
        refine w_iconst (v := 1) C dX7_clay_76 (by rfl) ?_
        refine w_iadd C dX7_clay_77 ?_
        refine pf_X7_33 C yy dX7_clay_78 (fun h5 u5 => ?_)
        have yc := u5.oth yc yy (by intro q; simp at q)
        have f_qq := u5.oth f_qq yy (by intro q; simp at q)
        have yy := u5.self
        have FF : Fr [y0, cA] _ _ := (((uI.frN nN).sub (by simp)).tr (u9.fr.sub (by simp))).tr (u5.fr.sub (by simp))
        rw [nI_1 nC] at yy
        first | refine w_aload_n C dX7_clay_81 (by rfl) ?_ | refine w_aload_nN C dX7_clay_81 (by rfl) ?_
        refine gf_X7_33 C yy dX7_clay_82 ?_
        refine w_iconst (v := 1) C dX7_clay_85 (by rfl) ?_
        refine w_isub C dX7_clay_86 ?_
        refine w_iret C M dX7_clay_87 ⟨by decide, by decide⟩ ⟨_, rfl, ?_⟩
        refine ⟨⟨c_7, c_18⟩, hlt, ?_, qq, Yh.clay Y nN hP f_qq yc yy FF⟩
        rw [nI_pred]
      · exact th_X7_85_87_89 C X (by rfl) (by rfl) (by rfl) (by decide) (by decide) (by decide) (by decide) (Or.inr ⟨rfl, rfl, ⟨c_7, c_18⟩, fun w => c_40 (nI_lt w (show 3 < 2 ^ 31 by decide))⟩) dX7_clay_43 dX7_clay_46 dX7_clay_47 dX7_clay_49 dX7_clay_52
    · try simp only [cg_ge, cg_gt, cl_gt, cl_le, cl_eq, cl_lt, cl_ge, bi_eq0, bi_ne0, bI_eq0, Decidable.not_not, Bool.not_eq_false] at c_18
      exact th_X7_78_80_82 C X (by rfl) (by rfl) (by rfl) (by decide) (by decide) (by decide) (by decide) (Or.inl ⟨rfl, rfl, by first | exact fun w => c_7 w.1 | exact fun w => c_18 w.2⟩) dX7_clay_21 dX7_clay_24 dX7_clay_25 dX7_clay_27 dX7_clay_30
