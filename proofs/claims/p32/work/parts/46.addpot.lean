/-! A POT MORE -/
theorem Yh.addpot {tc : Nat → ClassId} {h h' : HM} {y0 cA gA pA oA pr ra re rw tr tw : Nat} {ca ga pa oa : Nat → Nat} {f : Nat → Option Nat} {hb : UInt64} {hbt : UInt64} {dmt : Int32} {kt : KT} {nC : Nat} {cs : Nat → Int32 × Int32} {nG : Nat} {gs : Nat → GT} {nP : Nat} {ps : Nat → PT} {nO : Nat} {os : Nat → OT} {nR : Nat} {rs : Nat → RT} {k : KT} {dmp : Int32} {day : Int32} {pur : Int32} {rf : Int32} (Y : Yh tc y0 cA gA pA oA pr ra re rw tr tw ca ga pa oa f hb hbt dmt kt nC cs nG gs nP ps nO os nR rs k dmp day pur rf h) {q : Nat} {p : PT} (hq : h q = none) (u0 : h' q = some (pC9 ca ga p)) (u1 : h' pA = some (qCell (tc 6) 14 (row9 (nP + 1) (vf_upd pa nP q)))) (u2 : h' y0 = some (yCell cA gA pA oA nC nG (nP + 1) nO pr re tr day pur rf)) (u : Fr [y0, pA] h h') : Yh tc y0 cA gA pA oA pr ra re rw tr tw ca ga (vf_upd pa nP q) oa f hb hbt dmt kt nC cs nG gs (nP + 1) (vf_upd ps nP p) nO os nR rs k dmp day pur rf h' := by
  obtain ⟨yy, yc, yg, yp, yo, ypr, yra, yre, yrw, ytr, ytw, yC, yG, yP, yO, yR, yn1, yn2, yn3, yn4⟩ := Y
  have N : ∀ {b : Nat} {z : va_E}, h b = some z → z ≠ yCell cA gA pA oA nC nG nP nO pr re tr day pur rf → z ≠ qCell (tc 6) 14 (row9 nP pa) → h' b = some z := fun hb1 n1 n2 => u _ _ (not2 (ne_of hb1 yy n1) (ne_of hb1 yp n2)) hb1
  have NA : ∀ {b : Nat} {cA9 : ClassId} {m : Nat} {f9 : Nat → Option Nat}, h b = some (qCell cA9 m f9) → m ≠ 14 → h' b = some (qCell cA9 m f9) := fun hb1 n1 => u _ _ (not2 (ne_of hb1 yy (by intro q; simp at q)) (ne_of hb1 yp (by intro w; simp at w; exact n1 w.2.1))) hb1
  have nq : ∀ j, j < nP → pa j ≠ q := fun j hj w => by have := yP j hj; rw [w, hq] at this; cases this
  refine ⟨u2, NA yc (by decide), NA yg (by decide), u1, NA yo (by decide), N ypr (by intro q; simp at q) (by intro q; simp at q), NA yra (by decide), N yre (by intro q; simp at q) (by intro q; simp at q), N yrw (by intro q; simp at q) (by intro q; simp at q), N ytr (by intro q; simp at q) (by intro q; simp at q), N ytw (by intro q; simp at q) (by intro q; simp at q), fun j hj => N (yC j hj) (by intro q; simp at q) (by intro q; simp at q), fun j hj => N (yG j hj) (by intro q; simp at q) (by intro q; simp at q), fun j hj => ?_, fun j hj => N (yO j hj) (by intro q; simp at q) (by intro q; simp at q), fun j hj => ?_, yn1, yn2, fun i j hi hj w => ?_, yn4⟩
  · by_cases w : j = nP
    · subst w
      rw [show vf_upd pa j q j = q from if_pos rfl, show vf_upd ps j p j = p from if_pos rfl]
      exact u0
    · rw [show vf_upd pa nP q j = pa j from if_neg w, show vf_upd ps nP p j = ps j from if_neg w]
      exact N (yP j (by omega)) (by intro q; simp at q) (by intro q; simp at q)
  · obtain ⟨r, r1, r2⟩ := yR j hj
    exact ⟨r, r1, N r2 (by intro q; simp at q) (by intro q; simp at q)⟩
  · by_cases wi : i = nP
    · by_cases wj : j = nP
      · omega
      · rw [show vf_upd pa nP q i = q from if_pos wi, show vf_upd pa nP q j = pa j from if_neg wj] at w
        exact absurd w.symm (nq j (by omega))
    · by_cases wj : j = nP
      · rw [show vf_upd pa nP q i = pa i from if_neg wi, show vf_upd pa nP q j = q from if_pos wj] at w
        exact absurd w (nq i (by omega))
      · rw [show vf_upd pa nP q i = pa i from if_neg wi, show vf_upd pa nP q j = pa j from if_neg wj] at w
        exact yn3 i j (by omega) (by omega) w

set_option maxHeartbeats 4000000 in
set_option maxRecDepth 100000 in
theorem m_X7_pot {l : Launch} {D : va_G} {tc : Nat → ClassId} (hl : l.stackTraces = false) {h : HM} {y0 cA gA pA oA pr ra re rw tr tw : Nat} {ca ga pa oa : Nat → Nat} {f : Nat → Option Nat} {hb : UInt64} {hbt : UInt64} {dmt : Int32} {kt : KT} {nC : Nat} {cs : Nat → Int32 × Int32} {nG : Nat} {gs : Nat → GT} {nP : Nat} {ps : Nat → PT} {nO : Nat} {os : Nat → OT} {nR : Nat} {rs : Nat → RT} {k : KT} {dmp : Int32} {day : Int32} {pur : Int32} {rf : Int32} (Y : Yh tc y0 cA gA pA oA pr ra re rw tr tw ca ga pa oa f hb hbt dmt kt nC cs nG gs nP ps nO os nR rs k dmp day pur rf h) (bC : nC ≤ 3) (bP : nP ≤ 14) {cl wd hg wl : Int32} :
    CTX l D tc yX7_pot cX7_pot 7 (some FieldType.int) rm_X7_pot [.ref y0, .int cl, .int wd, .int hg, .int wl] h (rI (fun z h' => ∃ c, c < nC ∧ cl = nI c ∧ ((1 ≤ wd ∧ wd ≤ 5) ∧ (1 ≤ hg ∧ hg ≤ 3) ∧ (wl = 1 ∨ wl = 2 ∨ wl = 4)) ∧ nP < 14 ∧ z = nI nP ∧ ∃ q, Yh tc y0 cA gA pA oA pr ra re rw tr tw ca ga (vf_upd pa nP q) oa f hb hbt dmt kt nC cs nG gs (nP + 1) (vf_upd ps nP (c, none, (wd, hg, wl, 0, 1090519040, false, 0, 0, -1, -1))) nO os nR rs k dmp day pur rf h')) (fun E h' => (E = "java/lang/IndexOutOfBoundsException" ∧ h' = h ∧ out9 cl nC) ∨ (E = "java/lang/IllegalArgumentException" ∧ h' = h ∧ ¬ out9 cl nC ∧ ¬ ((1 ≤ wd ∧ wd ≤ 5) ∧ (1 ≤ hg ∧ hg ≤ 3) ∧ (wl = 1 ∨ wl = 2 ∨ wl = 4))) ∨ (E = "java/lang/IllegalStateException" ∧ h' = h ∧ ¬ out9 cl nC ∧ ((1 ≤ wd ∧ wd ≤ 5) ∧ (1 ≤ hg ∧ hg ≤ 3) ∧ (wl = 1 ∨ wl = 2 ∨ wl = 4)) ∧ ¬ nP < 14)) := by
  refine CTX.start [some (.ref y0), some (.int cl), some (.int wd), some (.int hg), some (.int wl), none, none] (by decide) hl rfl rfl (fun K C M X => ?_)
  obtain ⟨rfl, rfl, rfl, -⟩ := id M
  have C : CX K RX7 cX7_pot 7 rm_X7_pot := C
  obtain ⟨yy, yc, yg, yp, yo, ypr, yra, yre, yrw, ytr, ytw, yC, yG, yP, yO, yR, yn1, yn2, yn3, yn4⟩ := id Y
  first | refine w_aload_n C dX7_pot_0 (by rfl) ?_ | refine w_aload_nN C dX7_pot_0 (by rfl) ?_
  refine w_iload_n C dX7_pot_1 (by rfl) ?_
  refine cx_X7_106 C (m_X7_clayAt hl Y bC cl) yy (by rfl) (by rfl) ⟨by decide, by decide⟩ (by rfl) dX7_pot_2 (fun z0 h1 p1 => ?_) (fun E hx px => w_prop X ⟨by decide, by decide⟩ (Or.inl px))
  obtain ⟨rfl, c, hc, rfl, rfl⟩ := p1
  have no9 : ¬ out9 (nI c) nC := fun w => w (by rw [nI_toInt (by omega)]; omega)
  first | refine w_astore_5 C dX7_pot_5 (by first | trivial | rfl) ?_ | refine w_astore_5N C dX7_pot_5 (by first | trivial | rfl) ?_
  refine w_iload C dX7_pot_7 (by rfl) ?_
  refine w_iconst (v := 1) C dX7_pot_9 (by rfl) ?_
  refine w_icmp_eq (tgt := 25) C dX7_pot_10 (by rfl) (fun c_10 => ?_) (fun c_10 => ?_)
  · refine w_iconst (v := 1) C dX7_pot_25 (by rfl) ?_
    refine w_goto (tgt := 30) C dX7_pot_26 (by rfl) ?_
    refine w_istore_6 C dX7_pot_30 (by first | trivial | rfl) ?_
    have hw : (wl = 1 ∨ wl = 2 ∨ wl = 4) := Or.inl c_10
    refine w_iload_n C dX7_pot_32 (by rfl) ?_
    refine w_iconst (v := 1) C dX7_pot_33 (by rfl) ?_
    refine w_iconst (v := 5) C dX7_pot_34 (by rfl) ?_
    refine cl_X7_74 C (m_X7_isWithin hl wd 1 5) (by rfl) (by rfl) ⟨by decide, by decide⟩ (by rfl) dX7_pot_35 (fun z1 h2 p2 => ?_)
    obtain ⟨rfl, rfl⟩ := p2
    refine w_if_eq (tgt := 55) C dX7_pot_38 (by rfl) (fun c_38 => ?_) (fun c_38 => ?_)
    · try simp only [cg_ge, cg_gt, cl_gt, cl_le, cl_eq, cl_lt, cl_ge, bi_eq0, bi_ne0, bI_eq0, Decidable.not_not, Bool.not_eq_false] at c_38
      exact th_X7_78_110_82 C X (by rfl) (by rfl) (by rfl) (by decide) (by decide) (by decide) (by decide) (Or.inr (Or.inl ⟨rfl, rfl, no9, by first | exact fun w => c_38 w.1 | exact fun w => c_47 w.2.1 | exact fun w => hw w.2.2⟩)) dX7_pot_55 dX7_pot_58 dX7_pot_59 dX7_pot_61 dX7_pot_64
    · try simp only [cg_ge, cg_gt, cl_gt, cl_le, cl_eq, cl_lt, cl_ge, bi_eq0, bi_ne0, bI_eq0, Decidable.not_not, Bool.not_eq_false] at c_38
      refine w_iload_n C dX7_pot_41 (by rfl) ?_
      refine w_iconst (v := 1) C dX7_pot_42 (by rfl) ?_
      refine w_iconst (v := 3) C dX7_pot_43 (by rfl) ?_
      refine cl_X7_74 C (m_X7_isWithin hl hg 1 3) (by rfl) (by rfl) ⟨by decide, by decide⟩ (by rfl) dX7_pot_44 (fun z2 h3 p3 => ?_)
      obtain ⟨rfl, rfl⟩ := p3
      refine w_if_eq (tgt := 55) C dX7_pot_47 (by rfl) (fun c_47 => ?_) (fun c_47 => ?_)
      · try simp only [cg_ge, cg_gt, cl_gt, cl_le, cl_eq, cl_lt, cl_ge, bi_eq0, bi_ne0, bI_eq0, Decidable.not_not, Bool.not_eq_false] at c_47
        exact th_X7_78_110_82 C X (by rfl) (by rfl) (by rfl) (by decide) (by decide) (by decide) (by decide) (Or.inr (Or.inl ⟨rfl, rfl, no9, by first | exact fun w => c_38 w.1 | exact fun w => c_47 w.2.1 | exact fun w => hw w.2.2⟩)) dX7_pot_55 dX7_pot_58 dX7_pot_59 dX7_pot_61 dX7_pot_64
      · try simp only [cg_ge, cg_gt, cl_gt, cl_le, cl_eq, cl_lt, cl_ge, bi_eq0, bi_ne0, bI_eq0, Decidable.not_not, Bool.not_eq_false] at c_47
        refine w_iload C dX7_pot_50 (by rfl) ?_
        refine w_if_ne (tgt := 65) C dX7_pot_52 (by rfl) (fun c_52 => ?_) (fun c_52 => ?_)
        · try simp only [cg_ge, cg_gt, cl_gt, cl_le, cl_eq, cl_lt, cl_ge, bi_eq0, bi_ne0, bI_eq0, Decidable.not_not, Bool.not_eq_false] at c_52
          first | refine w_aload_n C dX7_pot_65 (by rfl) ?_ | refine w_aload_nN C dX7_pot_65 (by rfl) ?_
          refine gf_X7_40 C yy dX7_pot_66 ?_
          first | refine w_aload_n C dX7_pot_69 (by rfl) ?_ | refine w_aload_nN C dX7_pot_69 (by rfl) ?_
          refine gf_X7_23 C yy dX7_pot_70 ?_
          refine w_alen C 6 yp (by rfl) dX7_pot_73 ?_
          refine w_icmp_lt (tgt := 87) C dX7_pot_74 (by rfl) (fun c_74 => ?_) (fun c_74 => ?_)
          · have hlt : nP < 14 := (nI_ltI (b := 14) (by omega) (by decide)).mp c_74
            first | refine w_aload_n C dX7_pot_87 (by rfl) ?_ | refine w_aload_nN C dX7_pot_87 (by rfl) ?_
            refine gf_X7_23 C yy dX7_pot_88 ?_
            first | refine w_aload_n C dX7_pot_91 (by rfl) ?_ | refine w_aload_nN C dX7_pot_91 (by rfl) ?_
            refine gf_X7_40 C yy dX7_pot_92 ?_
            refine nw_X7_21 C (by decide) (by decide) dX7_pot_95 (fun qq h4 n4 u4 => ?_)
            have yy := u4.new yy n4
            have yp := u4.new yp n4
            have f_qq := u4.self
            have uN := u4
            have nN := n4
            refine w_dup C dX7_pot_98 (by rfl) ?_
            first | refine w_aload C dX7_pot_99 (by rfl) ?_ | refine w_aloadN C dX7_pot_99 (by rfl) ?_
            refine w_iload_n C dX7_pot_101 (by rfl) ?_
            refine w_iload_n C dX7_pot_102 (by rfl) ?_
            refine w_iload C dX7_pot_103 (by rfl) ?_
            refine cl_X7_114 C (m_X4_init hl f_qq) (by rfl) (by rfl) ⟨by decide, by decide⟩ (by rfl) dX7_pot_105 (fun h5 p5 => ?_)
            have uI := uN.tr p5
            have yy := p5.oth yy f_qq (by intro q; simp at q)
            have yp := p5.oth yp f_qq (by intro q; simp at q)
            have f_qq := p5.self
            have yp0 := yp
            refine w_aastn C 6 (r := (RX4, TX4, 12)) (ci := 3) yp (by rfl) f_qq (by rfl) hlt (by decide) dX7_pot_108 (fun h9 u9 => ?_)
            have yy := u9.oth yy yp0 (by intro q; simp at q)
            have f_qq := u9.oth f_qq yp0 (by intro q; simp at q)
            have yp := u9.self
            rw [row9_up] at yp
            first | refine w_aload_n C dX7_pot_109 (by rfl) ?_ | refine w_aload_nN C dX7_pot_109 (by rfl) ?_
            refine w_dup C dX7_pot_110 (by rfl) ?_
            refine gf_X7_40 C yy dX7_pot_111 ?_
            refine w_iconst (v := 1) C dX7_pot_114 (by rfl) ?_
            refine w_iadd C dX7_pot_115 ?_
            refine pf_X7_40 C yy dX7_pot_116 (fun h6 u6 => ?_)
            have yp := u6.oth yp yy (by intro q; simp at q)
            have f_qq := u6.oth f_qq yy (by intro q; simp at q)
            have yy := u6.self
            have FF : Fr [y0, pA] _ _ := (((uI.frN nN).sub (by simp)).tr (u9.fr.sub (by simp))).tr (u6.fr.sub (by simp))
            rw [nI_1 nP] at yy
            first | refine w_aload_n C dX7_pot_119 (by rfl) ?_ | refine w_aload_nN C dX7_pot_119 (by rfl) ?_
            refine gf_X7_40 C yy dX7_pot_120 ?_
            refine w_iconst (v := 1) C dX7_pot_123 (by rfl) ?_
            refine w_isub C dX7_pot_124 ?_
            refine w_iret C M dX7_pot_125 ⟨by decide, by decide⟩ ⟨_, rfl, ?_⟩
            refine ⟨c, hc, rfl, ⟨c_38, c_47, hw⟩, hlt, ?_, qq, Yh.addpot Y nN (p := (c, none, (wd, hg, wl, 0, 1090519040, false, 0, 0, -1, -1))) f_qq yp yy FF⟩
            rw [nI_pred]
          · exact th_X7_85_112_89 C X (by rfl) (by rfl) (by rfl) (by decide) (by decide) (by decide) (by decide) (Or.inr (Or.inr ⟨rfl, rfl, no9, ⟨c_38, c_47, hw⟩, fun w => c_74 (nI_lt w (show 14 < 2 ^ 31 by decide))⟩)) dX7_pot_77 dX7_pot_80 dX7_pot_81 dX7_pot_83 dX7_pot_86
        · exact absurd c_52 (by decide)
  · refine w_iload C dX7_pot_13 (by rfl) ?_
    refine w_iconst (v := 2) C dX7_pot_15 (by rfl) ?_
    refine w_icmp_eq (tgt := 25) C dX7_pot_16 (by rfl) (fun c_16 => ?_) (fun c_16 => ?_)
    · refine w_iconst (v := 1) C dX7_pot_25 (by rfl) ?_
      refine w_goto (tgt := 30) C dX7_pot_26 (by rfl) ?_
      refine w_istore_6 C dX7_pot_30 (by first | trivial | rfl) ?_
      have hw : (wl = 1 ∨ wl = 2 ∨ wl = 4) := Or.inr (Or.inl c_16)
      refine w_iload_n C dX7_pot_32 (by rfl) ?_
      refine w_iconst (v := 1) C dX7_pot_33 (by rfl) ?_
      refine w_iconst (v := 5) C dX7_pot_34 (by rfl) ?_
      refine cl_X7_74 C (m_X7_isWithin hl wd 1 5) (by rfl) (by rfl) ⟨by decide, by decide⟩ (by rfl) dX7_pot_35 (fun z1 h7 p7 => ?_)
      obtain ⟨rfl, rfl⟩ := p7
      refine w_if_eq (tgt := 55) C dX7_pot_38 (by rfl) (fun c_38 => ?_) (fun c_38 => ?_)
      · try simp only [cg_ge, cg_gt, cl_gt, cl_le, cl_eq, cl_lt, cl_ge, bi_eq0, bi_ne0, bI_eq0, Decidable.not_not, Bool.not_eq_false] at c_38
        exact th_X7_78_110_82 C X (by rfl) (by rfl) (by rfl) (by decide) (by decide) (by decide) (by decide) (Or.inr (Or.inl ⟨rfl, rfl, no9, by first | exact fun w => c_38 w.1 | exact fun w => c_47 w.2.1 | exact fun w => hw w.2.2⟩)) dX7_pot_55 dX7_pot_58 dX7_pot_59 dX7_pot_61 dX7_pot_64
      · try simp only [cg_ge, cg_gt, cl_gt, cl_le, cl_eq, cl_lt, cl_ge, bi_eq0, bi_ne0, bI_eq0, Decidable.not_not, Bool.not_eq_false] at c_38
        refine w_iload_n C dX7_pot_41 (by rfl) ?_
        refine w_iconst (v := 1) C dX7_pot_42 (by rfl) ?_
        refine w_iconst (v := 3) C dX7_pot_43 (by rfl) ?_
        refine cl_X7_74 C (m_X7_isWithin hl hg 1 3) (by rfl) (by rfl) ⟨by decide, by decide⟩ (by rfl) dX7_pot_44 (fun z2 h8 p8 => ?_)
        obtain ⟨rfl, rfl⟩ := p8
        refine w_if_eq (tgt := 55) C dX7_pot_47 (by rfl) (fun c_47 => ?_) (fun c_47 => ?_)
        · try simp only [cg_ge, cg_gt, cl_gt, cl_le, cl_eq, cl_lt, cl_ge, bi_eq0, bi_ne0, bI_eq0, Decidable.not_not, Bool.not_eq_false] at c_47
          exact th_X7_78_110_82 C X (by rfl) (by rfl) (by rfl) (by decide) (by decide) (by decide) (by decide) (Or.inr (Or.inl ⟨rfl, rfl, no9, by first | exact fun w => c_38 w.1 | exact fun w => c_47 w.2.1 | exact fun w => hw w.2.2⟩)) dX7_pot_55 dX7_pot_58 dX7_pot_59 dX7_pot_61 dX7_pot_64
        · try simp only [cg_ge, cg_gt, cl_gt, cl_le, cl_eq, cl_lt, cl_ge, bi_eq0, bi_ne0, bI_eq0, Decidable.not_not, Bool.not_eq_false] at c_47
          refine w_iload C dX7_pot_50 (by rfl) ?_
          refine w_if_ne (tgt := 65) C dX7_pot_52 (by rfl) (fun c_52 => ?_) (fun c_52 => ?_)
          · try simp only [cg_ge, cg_gt, cl_gt, cl_le, cl_eq, cl_lt, cl_ge, bi_eq0, bi_ne0, bI_eq0, Decidable.not_not, Bool.not_eq_false] at c_52
            first | refine w_aload_n C dX7_pot_65 (by rfl) ?_ | refine w_aload_nN C dX7_pot_65 (by rfl) ?_
            refine gf_X7_40 C yy dX7_pot_66 ?_
            first | refine w_aload_n C dX7_pot_69 (by rfl) ?_ | refine w_aload_nN C dX7_pot_69 (by rfl) ?_
            refine gf_X7_23 C yy dX7_pot_70 ?_
            refine w_alen C 6 yp (by rfl) dX7_pot_73 ?_
            refine w_icmp_lt (tgt := 87) C dX7_pot_74 (by rfl) (fun c_74 => ?_) (fun c_74 => ?_)
            · have hlt : nP < 14 := (nI_ltI (b := 14) (by omega) (by decide)).mp c_74
              first | refine w_aload_n C dX7_pot_87 (by rfl) ?_ | refine w_aload_nN C dX7_pot_87 (by rfl) ?_
              refine gf_X7_23 C yy dX7_pot_88 ?_
              first | refine w_aload_n C dX7_pot_91 (by rfl) ?_ | refine w_aload_nN C dX7_pot_91 (by rfl) ?_
              refine gf_X7_40 C yy dX7_pot_92 ?_
              refine nw_X7_21 C (by decide) (by decide) dX7_pot_95 (fun qq h9 n9 u9 => ?_)
              have yy := u9.new yy n9
              have yp := u9.new yp n9
              have f_qq := u9.self
              have uN := u9
              have nN := n9
              refine w_dup C dX7_pot_98 (by rfl) ?_
              first | refine w_aload C dX7_pot_99 (by rfl) ?_ | refine w_aloadN C dX7_pot_99 (by rfl) ?_
              refine w_iload_n C dX7_pot_101 (by rfl) ?_
              refine w_iload_n C dX7_pot_102 (by rfl) ?_
              refine w_iload C dX7_pot_103 (by rfl) ?_
              refine cl_X7_114 C (m_X4_init hl f_qq) (by rfl) (by rfl) ⟨by decide, by decide⟩ (by rfl) dX7_pot_105 (fun h10 p10 => ?_)
              have uI := uN.tr p10
              have yy := p10.oth yy f_qq (by intro q; simp at q)
              have yp := p10.oth yp f_qq (by intro q; simp at q)
              have f_qq := p10.self
              have yp0 := yp
              refine w_aastn C 6 (r := (RX4, TX4, 12)) (ci := 3) yp (by rfl) f_qq (by rfl) hlt (by decide) dX7_pot_108 (fun h9 u9 => ?_)
              have yy := u9.oth yy yp0 (by intro q; simp at q)
              have f_qq := u9.oth f_qq yp0 (by intro q; simp at q)
              have yp := u9.self
              rw [row9_up] at yp
              first | refine w_aload_n C dX7_pot_109 (by rfl) ?_ | refine w_aload_nN C dX7_pot_109 (by rfl) ?_
              refine w_dup C dX7_pot_110 (by rfl) ?_
              refine gf_X7_40 C yy dX7_pot_111 ?_
              refine w_iconst (v := 1) C dX7_pot_114 (by rfl) ?_
              refine w_iadd C dX7_pot_115 ?_
              refine pf_X7_40 C yy dX7_pot_116 (fun h11 u11 => ?_)
              have yp := u11.oth yp yy (by intro q; simp at q)
              have f_qq := u11.oth f_qq yy (by intro q; simp at q)
              have yy := u11.self
              have FF : Fr [y0, pA] _ _ := (((uI.frN nN).sub (by simp)).tr (u9.fr.sub (by simp))).tr (u11.fr.sub (by simp))
              rw [nI_1 nP] at yy
              first | refine w_aload_n C dX7_pot_119 (by rfl) ?_ | refine w_aload_nN C dX7_pot_119 (by rfl) ?_
              refine gf_X7_40 C yy dX7_pot_120 ?_
              refine w_iconst (v := 1) C dX7_pot_123 (by rfl) ?_
              refine w_isub C dX7_pot_124 ?_
              refine w_iret C M dX7_pot_125 ⟨by decide, by decide⟩ ⟨_, rfl, ?_⟩
              refine ⟨c, hc, rfl, ⟨c_38, c_47, hw⟩, hlt, ?_, qq, Yh.addpot Y nN (p := (c, none, (wd, hg, wl, 0, 1090519040, false, 0, 0, -1, -1))) f_qq yp yy FF⟩
              rw [nI_pred]
            · exact th_X7_85_112_89 C X (by rfl) (by rfl) (by rfl) (by decide) (by decide) (by decide) (by decide) (Or.inr (Or.inr ⟨rfl, rfl, no9, ⟨c_38, c_47, hw⟩, fun w => c_74 (nI_lt w (show 14 < 2 ^ 31 by decide))⟩)) dX7_pot_77 dX7_pot_80 dX7_pot_81 dX7_pot_83 dX7_pot_86
          · exact absurd c_52 (by decide)
    · refine w_iload C dX7_pot_19 (by rfl) ?_
      refine w_iconst (v := 4) C dX7_pot_21 (by rfl) ?_
      refine w_icmp_ne (tgt := 29) C dX7_pot_22 (by rfl) (fun c_22 => ?_) (fun c_22 => ?_)
      · refine w_iconst (v := 0) C dX7_pot_29 (by rfl) ?_
        refine w_istore_6 C dX7_pot_30 (by first | trivial | rfl) ?_
        have hw : ¬ (wl = 1 ∨ wl = 2 ∨ wl = 4) := fun w => w.elim c_10 (fun v => v.elim c_16 c_22)
        refine w_iload_n C dX7_pot_32 (by rfl) ?_
        refine w_iconst (v := 1) C dX7_pot_33 (by rfl) ?_
        refine w_iconst (v := 5) C dX7_pot_34 (by rfl) ?_
        refine cl_X7_74 C (m_X7_isWithin hl wd 1 5) (by rfl) (by rfl) ⟨by decide, by decide⟩ (by rfl) dX7_pot_35 (fun z1 h12 p12 => ?_)
        obtain ⟨rfl, rfl⟩ := p12
        refine w_if_eq (tgt := 55) C dX7_pot_38 (by rfl) (fun c_38 => ?_) (fun c_38 => ?_)
        · try simp only [cg_ge, cg_gt, cl_gt, cl_le, cl_eq, cl_lt, cl_ge, bi_eq0, bi_ne0, bI_eq0, Decidable.not_not, Bool.not_eq_false] at c_38
          exact th_X7_78_110_82 C X (by rfl) (by rfl) (by rfl) (by decide) (by decide) (by decide) (by decide) (Or.inr (Or.inl ⟨rfl, rfl, no9, by first | exact fun w => c_38 w.1 | exact fun w => c_47 w.2.1 | exact fun w => hw w.2.2⟩)) dX7_pot_55 dX7_pot_58 dX7_pot_59 dX7_pot_61 dX7_pot_64
        · try simp only [cg_ge, cg_gt, cl_gt, cl_le, cl_eq, cl_lt, cl_ge, bi_eq0, bi_ne0, bI_eq0, Decidable.not_not, Bool.not_eq_false] at c_38
          refine w_iload_n C dX7_pot_41 (by rfl) ?_
          refine w_iconst (v := 1) C dX7_pot_42 (by rfl) ?_
          refine w_iconst (v := 3) C dX7_pot_43 (by rfl) ?_
          refine cl_X7_74 C (m_X7_isWithin hl hg 1 3) (by rfl) (by rfl) ⟨by decide, by decide⟩ (by rfl) dX7_pot_44 (fun z2 h13 p13 => ?_)
          obtain ⟨rfl, rfl⟩ := p13
          refine w_if_eq (tgt := 55) C dX7_pot_47 (by rfl) (fun c_47 => ?_) (fun c_47 => ?_)
          · try simp only [cg_ge, cg_gt, cl_gt, cl_le, cl_eq, cl_lt, cl_ge, bi_eq0, bi_ne0, bI_eq0, Decidable.not_not, Bool.not_eq_false] at c_47
            exact th_X7_78_110_82 C X (by rfl) (by rfl) (by rfl) (by decide) (by decide) (by decide) (by decide) (Or.inr (Or.inl ⟨rfl, rfl, no9, by first | exact fun w => c_38 w.1 | exact fun w => c_47 w.2.1 | exact fun w => hw w.2.2⟩)) dX7_pot_55 dX7_pot_58 dX7_pot_59 dX7_pot_61 dX7_pot_64
          · try simp only [cg_ge, cg_gt, cl_gt, cl_le, cl_eq, cl_lt, cl_ge, bi_eq0, bi_ne0, bI_eq0, Decidable.not_not, Bool.not_eq_false] at c_47
            refine w_iload C dX7_pot_50 (by rfl) ?_
            refine w_if_ne (tgt := 65) C dX7_pot_52 (by rfl) (fun c_52 => ?_) (fun c_52 => ?_)
            · exact absurd rfl c_52
            · try simp only [cg_ge, cg_gt, cl_gt, cl_le, cl_eq, cl_lt, cl_ge, bi_eq0, bi_ne0, bI_eq0, Decidable.not_not, Bool.not_eq_false] at c_52
              exact th_X7_78_110_82 C X (by rfl) (by rfl) (by rfl) (by decide) (by decide) (by decide) (by decide) (Or.inr (Or.inl ⟨rfl, rfl, no9, by first | exact fun w => c_38 w.1 | exact fun w => c_47 w.2.1 | exact fun w => hw w.2.2⟩)) dX7_pot_55 dX7_pot_58 dX7_pot_59 dX7_pot_61 dX7_pot_64
      · refine w_iconst (v := 1) C dX7_pot_25 (by rfl) ?_
        refine w_goto (tgt := 30) C dX7_pot_26 (by rfl) ?_
        refine w_istore_6 C dX7_pot_30 (by first | trivial | rfl) ?_
        have hw : (wl = 1 ∨ wl = 2 ∨ wl = 4) := Or.inr (Or.inr c_22)
        refine w_iload_n C dX7_pot_32 (by rfl) ?_
        refine w_iconst (v := 1) C dX7_pot_33 (by rfl) ?_
        refine w_iconst (v := 5) C dX7_pot_34 (by rfl) ?_
        refine cl_X7_74 C (m_X7_isWithin hl wd 1 5) (by rfl) (by rfl) ⟨by decide, by decide⟩ (by rfl) dX7_pot_35 (fun z1 h14 p14 => ?_)
        obtain ⟨rfl, rfl⟩ := p14
        refine w_if_eq (tgt := 55) C dX7_pot_38 (by rfl) (fun c_38 => ?_) (fun c_38 => ?_)
        · try simp only [cg_ge, cg_gt, cl_gt, cl_le, cl_eq, cl_lt, cl_ge, bi_eq0, bi_ne0, bI_eq0, Decidable.not_not, Bool.not_eq_false] at c_38
          exact th_X7_78_110_82 C X (by rfl) (by rfl) (by rfl) (by decide) (by decide) (by decide) (by decide) (Or.inr (Or.inl ⟨rfl, rfl, no9, by first | exact fun w => c_38 w.1 | exact fun w => c_47 w.2.1 | exact fun w => hw w.2.2⟩)) dX7_pot_55 dX7_pot_58 dX7_pot_59 dX7_pot_61 dX7_pot_64
        · try simp only [cg_ge, cg_gt, cl_gt, cl_le, cl_eq, cl_lt, cl_ge, bi_eq0, bi_ne0, bI_eq0, Decidable.not_not, Bool.not_eq_false] at c_38
          refine w_iload_n C dX7_pot_41 (by rfl) ?_
          refine w_iconst (v := 1) C dX7_pot_42 (by rfl) ?_
          refine w_iconst (v := 3) C dX7_pot_43 (by rfl) ?_
          refine cl_X7_74 C (m_X7_isWithin hl hg 1 3) (by rfl) (by rfl) ⟨by decide, by decide⟩ (by rfl) dX7_pot_44 (fun z2 h15 p15 => ?_)
          obtain ⟨rfl, rfl⟩ := p15
          refine w_if_eq (tgt := 55) C dX7_pot_47 (by rfl) (fun c_47 => ?_) (fun c_47 => ?_)
          · try simp only [cg_ge, cg_gt, cl_gt, cl_le, cl_eq, cl_lt, cl_ge, bi_eq0, bi_ne0, bI_eq0, Decidable.not_not, Bool.not_eq_false] at c_47
            exact th_X7_78_110_82 C X (by rfl) (by rfl) (by rfl) (by decide) (by decide) (by decide) (by decide) (Or.inr (Or.inl ⟨rfl, rfl, no9, by first | exact fun w => c_38 w.1 | exact fun w => c_47 w.2.1 | exact fun w => hw w.2.2⟩)) dX7_pot_55 dX7_pot_58 dX7_pot_59 dX7_pot_61 dX7_pot_64
          · try simp only [cg_ge, cg_gt, cl_gt, cl_le, cl_eq, cl_lt, cl_ge, bi_eq0, bi_ne0, bI_eq0, Decidable.not_not, Bool.not_eq_false] at c_47
            refine w_iload C dX7_pot_50 (by rfl) ?_
            refine w_if_ne (tgt := 65) C dX7_pot_52 (by rfl) (fun c_52 => ?_) (fun c_52 => ?_)
            · try simp only [cg_ge, cg_gt, cl_gt, cl_le, cl_eq, cl_lt, cl_ge, bi_eq0, bi_ne0, bI_eq0, Decidable.not_not, Bool.not_eq_false] at c_52
              first | refine w_aload_n C dX7_pot_65 (by rfl) ?_ | refine w_aload_nN C dX7_pot_65 (by rfl) ?_
              refine gf_X7_40 C yy dX7_pot_66 ?_
              first | refine w_aload_n C dX7_pot_69 (by rfl) ?_ | refine w_aload_nN C dX7_pot_69 (by rfl) ?_
              refine gf_X7_23 C yy dX7_pot_70 ?_
              refine w_alen C 6 yp (by rfl) dX7_pot_73 ?_
              refine w_icmp_lt (tgt := 87) C dX7_pot_74 (by rfl) (fun c_74 => ?_) (fun c_74 => ?_)
              · have hlt : nP < 14 := (nI_ltI (b := 14) (by omega) (by decide)).mp c_74
                first | refine w_aload_n C dX7_pot_87 (by rfl) ?_ | refine w_aload_nN C dX7_pot_87 (by rfl) ?_
                refine gf_X7_23 C yy dX7_pot_88 ?_
                first | refine w_aload_n C dX7_pot_91 (by rfl) ?_ | refine w_aload_nN C dX7_pot_91 (by rfl) ?_
                refine gf_X7_40 C yy dX7_pot_92 ?_
                refine nw_X7_21 C (by decide) (by decide) dX7_pot_95 (fun qq h16 n16 u16 => ?_)
                have yy := u16.new yy n16
                have yp := u16.new yp n16
                have f_qq := u16.self
                have uN := u16
                have nN := n16
                refine w_dup C dX7_pot_98 (by rfl) ?_
                first | refine w_aload C dX7_pot_99 (by rfl) ?_ | refine w_aloadN C dX7_pot_99 (by rfl) ?_
                refine w_iload_n C dX7_pot_101 (by rfl) ?_
                refine w_iload_n C dX7_pot_102 (by rfl) ?_
                refine w_iload C dX7_pot_103 (by rfl) ?_
                refine cl_X7_114 C (m_X4_init hl f_qq) (by rfl) (by rfl) ⟨by decide, by decide⟩ (by rfl) dX7_pot_105 (fun h17 p17 => ?_)
                have uI := uN.tr p17
                have yy := p17.oth yy f_qq (by intro q; simp at q)
                have yp := p17.oth yp f_qq (by intro q; simp at q)
                have f_qq := p17.self
                have yp0 := yp
                refine w_aastn C 6 (r := (RX4, TX4, 12)) (ci := 3) yp (by rfl) f_qq (by rfl) hlt (by decide) dX7_pot_108 (fun h9 u9 => ?_)
                have yy := u9.oth yy yp0 (by intro q; simp at q)
                have f_qq := u9.oth f_qq yp0 (by intro q; simp at q)
                have yp := u9.self
                rw [row9_up] at yp
                first | refine w_aload_n C dX7_pot_109 (by rfl) ?_ | refine w_aload_nN C dX7_pot_109 (by rfl) ?_
                refine w_dup C dX7_pot_110 (by rfl) ?_
                refine gf_X7_40 C yy dX7_pot_111 ?_
                refine w_iconst (v := 1) C dX7_pot_114 (by rfl) ?_
                refine w_iadd C dX7_pot_115 ?_
                refine pf_X7_40 C yy dX7_pot_116 (fun h18 u18 => ?_)
                have yp := u18.oth yp yy (by intro q; simp at q)
                have f_qq := u18.oth f_qq yy (by intro q; simp at q)
                have yy := u18.self
                have FF : Fr [y0, pA] _ _ := (((uI.frN nN).sub (by simp)).tr (u9.fr.sub (by simp))).tr (u18.fr.sub (by simp))
                rw [nI_1 nP] at yy
                first | refine w_aload_n C dX7_pot_119 (by rfl) ?_ | refine w_aload_nN C dX7_pot_119 (by rfl) ?_
                refine gf_X7_40 C yy dX7_pot_120 ?_
                refine w_iconst (v := 1) C dX7_pot_123 (by rfl) ?_
                refine w_isub C dX7_pot_124 ?_
                refine w_iret C M dX7_pot_125 ⟨by decide, by decide⟩ ⟨_, rfl, ?_⟩
                refine ⟨c, hc, rfl, ⟨c_38, c_47, hw⟩, hlt, ?_, qq, Yh.addpot Y nN (p := (c, none, (wd, hg, wl, 0, 1090519040, false, 0, 0, -1, -1))) f_qq yp yy FF⟩
                rw [nI_pred]
              · exact th_X7_85_112_89 C X (by rfl) (by rfl) (by rfl) (by decide) (by decide) (by decide) (by decide) (Or.inr (Or.inr ⟨rfl, rfl, no9, ⟨c_38, c_47, hw⟩, fun w => c_74 (nI_lt w (show 14 < 2 ^ 31 by decide))⟩)) dX7_pot_77 dX7_pot_80 dX7_pot_81 dX7_pot_83 dX7_pot_86
            · exact absurd c_52 (by decide)
