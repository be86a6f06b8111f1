/-! AN ORDER, A GLAZE MORE -/
theorem Yh.order {tc : Nat → ClassId} {h h' : HM} {y0 cA gA pA oA pr ra re rw tr tw : Nat} {ca ga pa oa : Nat → Nat} {f : Nat → Option Nat} {hb : UInt64} {hbt : UInt64} {dmt : Int32} {kt : KT} {nC : Nat} {cs : Nat → Int32 × Int32} {nG : Nat} {gs : Nat → GT} {nP : Nat} {ps : Nat → PT} {nO : Nat} {os : Nat → OT} {nR : Nat} {rs : Nat → RT} {k : KT} {dmp : Int32} {day : Int32} {pur : Int32} {rf : Int32} (Y : Yh tc y0 cA gA pA oA pr ra re rw tr tw ca ga pa oa f hb hbt dmt kt nC cs nG gs nP ps nO os nR rs k dmp day pur rf h) {q : Nat} {o : OT} (hq : h q = none) (u0 : h' q = some (oC9 o)) (u1 : h' oA = some (qCell (tc 5) 6 (row9 (nO + 1) (vf_upd oa nO q)))) (u2 : h' y0 = some (yCell cA gA pA oA nC nG nP (nO + 1) pr re tr day pur rf)) (u : Fr [y0, oA] h h') : Yh tc y0 cA gA pA oA pr ra re rw tr tw ca ga pa (vf_upd oa nO q) f hb hbt dmt kt nC cs nG gs nP ps (nO + 1) (vf_upd os nO o) nR rs k dmp day pur rf h' := by
  obtain ⟨yy, yc, yg, yp, yo, ypr, yra, yre, yrw, ytr, ytw, yC, yG, yP, yO, yR, yn1, yn2, yn3, yn4⟩ := Y
  have N : ∀ {b : Nat} {z : va_E}, h b = some z → z ≠ yCell cA gA pA oA nC nG nP nO pr re tr day pur rf → z ≠ qCell (tc 5) 6 (row9 nO oa) → h' b = some z := fun hb1 n1 n2 => u _ _ (not2 (ne_of hb1 yy n1) (ne_of hb1 yo n2)) hb1
  have NA : ∀ {b : Nat} {cA9 : ClassId} {m : Nat} {f9 : Nat → Option Nat}, h b = some (qCell cA9 m f9) → b ≠ oA → h' b = some (qCell cA9 m f9) := fun hb1 n1 => u _ _ (not2 (ne_of hb1 yy (by intro q; simp at q)) n1) hb1
  have NE : ∀ {b : Nat} {cA9 : ClassId} {m : Nat} {f9 : Nat → Option Nat}, h b = some (qCell cA9 m f9) → m ≠ 6 → b ≠ oA := fun hb1 n1 => ne_of hb1 yo (by intro w; simp at w; exact n1 w.2.1)
  have nq : ∀ j, j < nO → oa j ≠ q := fun j hj w => by have := yO j hj; rw [w, hq] at this; cases this
  refine ⟨u2, NA yc (NE yc (by decide)), NA yg (NE yg (by decide)), NA yp (NE yp (by decide)), u1, N ypr (by intro q; simp at q) (by intro q; simp at q), NA yra (NE yra (by decide)), N yre (by intro q; simp at q) (by intro q; simp at q), N yrw (by intro q; simp at q) (by intro q; simp at q), N ytr (by intro q; simp at q) (by intro q; simp at q), N ytw (by intro q; simp at q) (by intro q; simp at q), fun j hj => N (yC j hj) (by intro q; simp at q) (by intro q; simp at q), fun j hj => N (yG j hj) (by intro q; simp at q) (by intro q; simp at q), fun j hj => N (yP j hj) (by intro q; simp at q) (by intro q; simp at q), fun j hj => ?_, fun j hj => ?_, yn1, yn2, yn3, fun i j hi hj w => ?_⟩
  · by_cases w : j = nO
    · subst w
      rw [show vf_upd oa j q j = q from if_pos rfl, show vf_upd os j o j = o from if_pos rfl]
      exact u0
    · rw [show vf_upd oa nO q j = oa j from if_neg w, show vf_upd os nO o j = os j from if_neg w]
      exact N (yO j (by omega)) (by intro q; simp at q) (by intro q; simp at q)
  · obtain ⟨r, r1, r2⟩ := yR j hj
    exact ⟨r, r1, N r2 (by intro q; simp at q) (by intro q; simp at q)⟩
  · by_cases wi : i = nO
    · by_cases wj : j = nO
      · omega
      · rw [show vf_upd oa nO q i = q from if_pos wi, show vf_upd oa nO q j = oa j from if_neg wj] at w
        exact absurd w.symm (nq j (by omega))
    · by_cases wj : j = nO
      · rw [show vf_upd oa nO q i = oa i from if_neg wi, show vf_upd oa nO q j = q from if_pos wj] at w
        exact absurd w (nq i (by omega))
      · rw [show vf_upd oa nO q i = oa i from if_neg wi, show vf_upd oa nO q j = oa j from if_neg wj] at w
        exact yn4 i j (by omega) (by omega) w

theorem Yh.glaze {tc : Nat → ClassId} {h h' : HM} {y0 cA gA pA oA pr ra re rw tr tw : Nat} {ca ga pa oa : Nat → Nat} {f : Nat → Option Nat} {hb : UInt64} {hbt : UInt64} {dmt : Int32} {kt : KT} {nC : Nat} {cs : Nat → Int32 × Int32} {nG : Nat} {gs : Nat → GT} {nP : Nat} {ps : Nat → PT} {nO : Nat} {os : Nat → OT} {nR : Nat} {rs : Nat → RT} {k : KT} {dmp : Int32} {day : Int32} {pur : Int32} {rf : Int32} (Y : Yh tc y0 cA gA pA oA pr ra re rw tr tw ca ga pa oa f hb hbt dmt kt nC cs nG gs nP ps nO os nR rs k dmp day pur rf h) {q : Nat} {g : GT} (hq : h q = none) (hPG : ∀ i, i < nP → ∀ g, (ps i).2.1 = some g → g < nG) (u0 : h' q = some (gC9 nG g)) (u1 : h' gA = some (qCell (tc 4) 4 (row9 (nG + 1) (vf_upd ga nG q)))) (u2 : h' y0 = some (yCell cA gA pA oA nC (nG + 1) nP nO pr re tr day pur rf)) (u : Fr [y0, gA] h h') : Yh tc y0 cA gA pA oA pr ra re rw tr tw ca (vf_upd ga nG q) pa oa f hb hbt dmt kt nC cs (nG + 1) (vf_upd gs nG g) nP ps nO os nR rs k dmp day pur rf h' := by
  obtain ⟨yy, yc, yg, yp, yo, ypr, yra, yre, yrw, ytr, ytw, yC, yG, yP, yO, yR, yn1, yn2, yn3, yn4⟩ := Y
  have N : ∀ {b : Nat} {z : va_E}, h b = some z → z ≠ yCell cA gA pA oA nC nG nP nO pr re tr day pur rf → z ≠ qCell (tc 4) 4 (row9 nG ga) → h' b = some z := fun hb1 n1 n2 => u _ _ (not2 (ne_of hb1 yy n1) (ne_of hb1 yg n2)) hb1
  have NA : ∀ {b : Nat} {cA9 : ClassId} {m : Nat} {f9 : Nat → Option Nat}, h b = some (qCell cA9 m f9) → b ≠ gA → h' b = some (qCell cA9 m f9) := fun hb1 n1 => u _ _ (not2 (ne_of hb1 yy (by intro q; simp at q)) n1) hb1
  have NE : ∀ {b : Nat} {cA9 : ClassId} {m : Nat} {f9 : Nat → Option Nat}, h b = some (qCell cA9 m f9) → m ≠ 4 → b ≠ gA := fun hb1 n1 => ne_of hb1 yg (by intro w; simp at w; exact n1 w.2.1)
  refine ⟨u2, NA yc (NE yc (by decide)), u1, NA yp (NE yp (by decide)), NA yo (NE yo (by decide)), N ypr (by intro q; simp at q) (by intro q; simp at q), NA yra (NE yra (by decide)), N yre (by intro q; simp at q) (by intro q; simp at q), N yrw (by intro q; simp at q) (by intro q; simp at q), N ytr (by intro q; simp at q) (by intro q; simp at q), N ytw (by intro q; simp at q) (by intro q; simp at q), fun j hj => N (yC j hj) (by intro q; simp at q) (by intro q; simp at q), fun j hj => ?_, fun j hj => ?_, fun j hj => N (yO j hj) (by intro q; simp at q) (by intro q; simp at q), fun j hj => ?_, yn1, yn2, yn3, yn4⟩
  · by_cases w : j = nG
    · subst w
      rw [show vf_upd ga j q j = q from if_pos rfl, show vf_upd gs j g j = g from if_pos rfl]
      exact u0
    · rw [show vf_upd ga nG q j = ga j from if_neg w, show vf_upd gs nG g j = gs j from if_neg w]
      exact N (yG j (by omega)) (by intro q; simp at q) (by intro q; simp at q)
  · have e : (ps j).2.1.map (vf_upd ga nG q) = (ps j).2.1.map ga := by
      cases hx : (ps j).2.1 with
      | none => rfl
      | some g9 =>
        have := hPG j hj g9 hx
        show some (vf_upd ga nG q g9) = some (ga g9)
        rw [show vf_upd ga nG q g9 = ga g9 from if_neg (by omega)]
    show h' (pa j) = some (potC _ (va_rf ((ps j).2.1.map (vf_upd ga nG q))) _)
    rw [e]
    exact N (yP j hj) (by intro q; simp at q) (by intro q; simp at q)
  · obtain ⟨r, r1, r2⟩ := yR j hj
    exact ⟨r, r1, N r2 (by intro q; simp at q) (by intro q; simp at q)⟩

set_option maxHeartbeats 4000000 in
set_option maxRecDepth 100000 in
theorem m_X7_order {l : Launch} {D : va_G} {tc : Nat → ClassId} (hl : l.stackTraces = false) {h : HM} {y0 cA gA pA oA pr ra re rw tr tw : Nat} {ca ga pa oa : Nat → Nat} {f : Nat → Option Nat} {hb : UInt64} {hbt : UInt64} {dmt : Int32} {kt : KT} {nC : Nat} {cs : Nat → Int32 × Int32} {nG : Nat} {gs : Nat → GT} {nP : Nat} {ps : Nat → PT} {nO : Nat} {os : Nat → OT} {nR : Nat} {rs : Nat → RT} {k : KT} {dmp : Int32} {day : Int32} {pur : Int32} {rf : Int32} (Y : Yh tc y0 cA gA pA oA pr ra re rw tr tw ca ga pa oa f hb hbt dmt kt nC cs nG gs nP ps nO os nR rs k dmp day pur rf h) (bG : nG ≤ 4) (bO : nO ≤ 6) {gl c ds pz : Int32} :
    CTX l D tc yX7_order cX7_order 6 (some FieldType.int) rm_X7_order [.ref y0, .int gl, .int c, .int ds, .int pz] h (rI (fun z h' => ∃ g, g < nG ∧ gl = nI g ∧ ((0 ≤ c ∧ c ≤ 2) ∧ (0 ≤ ds ∧ ds ≤ 60) ∧ 1 ≤ pz ∧ pz ≤ 99) ∧ nO < 6 ∧ z = nI nO ∧ ∃ q, Yh tc y0 cA gA pA oA pr ra re rw tr tw ca ga pa (vf_upd oa nO q) f hb hbt dmt kt nC cs nG gs nP ps (nO + 1) (vf_upd os nO (g, c, day + ds, pz, false)) nR rs k dmp day pur rf h')) (fun E h' => (E = "java/lang/IndexOutOfBoundsException" ∧ h' = h ∧ out9 gl nG) ∨ (E = "java/lang/IllegalArgumentException" ∧ h' = h ∧ ¬ out9 gl nG ∧ ¬ ((0 ≤ c ∧ c ≤ 2) ∧ (0 ≤ ds ∧ ds ≤ 60) ∧ 1 ≤ pz ∧ pz ≤ 99)) ∨ (E = "java/lang/IllegalStateException" ∧ h' = h ∧ ¬ out9 gl nG ∧ ((0 ≤ c ∧ c ≤ 2) ∧ (0 ≤ ds ∧ ds ≤ 60) ∧ 1 ≤ pz ∧ pz ≤ 99) ∧ ¬ nO < 6)) := by
  refine CTX.start [some (.ref y0), some (.int gl), some (.int c), some (.int ds), some (.int pz), none] (by decide) hl rfl rfl (fun K C M X => ?_)
  obtain ⟨rfl, rfl, rfl, -⟩ := id M
  have C : CX K RX7 cX7_order 6 rm_X7_order := C
  obtain ⟨yy, yc, yg, yp, yo, ypr, yra, yre, yrw, ytr, ytw, yC, yG, yP, yO, yR, yn1, yn2, yn3, yn4⟩ := id Y
  first | refine w_aload_n C dX7_order_0 (by rfl) ?_ | refine w_aload_nN C dX7_order_0 (by rfl) ?_
  refine w_iload_n C dX7_order_1 (by rfl) ?_
  refine cx_X7_137 C (m_X7_glazeAt hl Y bG gl) yy (by rfl) (by rfl) ⟨by decide, by decide⟩ (by rfl) dX7_order_2 (fun z0 h1 p1 => ?_) (fun E hx px => w_prop X ⟨by decide, by decide⟩ (Or.inl px))
  obtain ⟨rfl, g, hg, rfl, rfl⟩ := p1
  have hgg := yG g hg
  have no9 : ¬ out9 (nI g) nG := fun w => w (by rw [nI_toInt (by omega)]; omega)
  first | refine w_astore_5 C dX7_order_5 (by first | trivial | rfl) ?_ | refine w_astore_5N C dX7_order_5 (by first | trivial | rfl) ?_
  refine w_iload_n C dX7_order_7 (by rfl) ?_
  refine w_iconst (v := 0) C dX7_order_8 (by rfl) ?_
  refine w_iconst (v := 2) C dX7_order_9 (by rfl) ?_
  refine cl_X7_74 C (m_X7_isWithin hl c 0 2) (by rfl) (by rfl) ⟨by decide, by decide⟩ (by rfl) dX7_order_10 (fun z1 h2 p2 => ?_)
  obtain ⟨rfl, rfl⟩ := p2
  refine w_if_eq (tgt := 37) C dX7_order_13 (by rfl) (fun c_13 => ?_) (fun c_13 => ?_)
  · try simp only [cg_ge, cg_gt, cl_gt, cl_le, cl_eq, cl_lt, cl_ge, bi_eq0, bi_ne0, bI_eq0, Decidable.not_not, Bool.not_eq_false] at c_13
    exact th_X7_78_259_82 C X (by rfl) (by rfl) (by rfl) (by decide) (by decide) (by decide) (by decide) (Or.inr (Or.inl ⟨rfl, rfl, no9, by first | exact fun w => c_13 w.1 | exact fun w => c_23 w.2.1 | exact fun w => c_34 w.2.2⟩)) dX7_order_37 dX7_order_40 dX7_order_41 dX7_order_44 dX7_order_47
  · try simp only [cg_ge, cg_gt, cl_gt, cl_le, cl_eq, cl_lt, cl_ge, bi_eq0, bi_ne0, bI_eq0, Decidable.not_not, Bool.not_eq_false] at c_13
    refine w_iload_n C dX7_order_16 (by rfl) ?_
    refine w_iconst (v := 0) C dX7_order_17 (by rfl) ?_
    refine w_bipush (v := (60)) C dX7_order_18 (by rfl) ?_
    refine cl_X7_74 C (m_X7_isWithin hl ds 0 60) (by rfl) (by rfl) ⟨by decide, by decide⟩ (by rfl) dX7_order_20 (fun z2 h3 p3 => ?_)
    obtain ⟨rfl, rfl⟩ := p3
    refine w_if_eq (tgt := 37) C dX7_order_23 (by rfl) (fun c_23 => ?_) (fun c_23 => ?_)
    · try simp only [cg_ge, cg_gt, cl_gt, cl_le, cl_eq, cl_lt, cl_ge, bi_eq0, bi_ne0, bI_eq0, Decidable.not_not, Bool.not_eq_false] at c_23
      exact th_X7_78_259_82 C X (by rfl) (by rfl) (by rfl) (by decide) (by decide) (by decide) (by decide) (Or.inr (Or.inl ⟨rfl, rfl, no9, by first | exact fun w => c_13 w.1 | exact fun w => c_23 w.2.1 | exact fun w => c_34 w.2.2⟩)) dX7_order_37 dX7_order_40 dX7_order_41 dX7_order_44 dX7_order_47
    · try simp only [cg_ge, cg_gt, cl_gt, cl_le, cl_eq, cl_lt, cl_ge, bi_eq0, bi_ne0, bI_eq0, Decidable.not_not, Bool.not_eq_false] at c_23
      refine w_iload C dX7_order_26 (by rfl) ?_
      refine w_iconst (v := 1) C dX7_order_28 (by rfl) ?_
      refine w_bipush (v := (99)) C dX7_order_29 (by rfl) ?_
      refine cl_X7_74 C (m_X7_isWithin hl pz 1 99) (by rfl) (by rfl) ⟨by decide, by decide⟩ (by rfl) dX7_order_31 (fun z3 h4 p4 => ?_)
      obtain ⟨rfl, rfl⟩ := p4
      refine w_if_ne (tgt := 48) C dX7_order_34 (by rfl) (fun c_34 => ?_) (fun c_34 => ?_)
      · try simp only [cg_ge, cg_gt, cl_gt, cl_le, cl_eq, cl_lt, cl_ge, bi_eq0, bi_ne0, bI_eq0, Decidable.not_not, Bool.not_eq_false] at c_34
        first | refine w_aload_n C dX7_order_48 (by rfl) ?_ | refine w_aload_nN C dX7_order_48 (by rfl) ?_
        refine gf_X7_43 C yy dX7_order_49 ?_
        first | refine w_aload_n C dX7_order_52 (by rfl) ?_ | refine w_aload_nN C dX7_order_52 (by rfl) ?_
        refine gf_X7_29 C yy dX7_order_53 ?_
        refine w_alen C 5 yo (by rfl) dX7_order_56 ?_
        refine w_icmp_lt (tgt := 71) C dX7_order_57 (by rfl) (fun c_57 => ?_) (fun c_57 => ?_)
        · have hlt : nO < 6 := (nI_ltI (b := 6) (by omega) (by decide)).mp c_57
          first | refine w_aload_n C dX7_order_71 (by rfl) ?_ | refine w_aload_nN C dX7_order_71 (by rfl) ?_
          refine gf_X7_29 C yy dX7_order_72 ?_
          first | refine w_aload_n C dX7_order_75 (by rfl) ?_ | refine w_aload_nN C dX7_order_75 (by rfl) ?_
          refine gf_X7_43 C yy dX7_order_76 ?_
          refine nw_X7_27 C (by decide) (by decide) dX7_order_79 (fun qq h5 n5 u5 => ?_)
          have yy := u5.new yy n5
          have yo := u5.new yo n5
          have hgg := u5.new hgg n5
          have f_qq := u5.self
          have uN := u5
          have nN := n5
          refine w_dup C dX7_order_82 (by rfl) ?_
          first | refine w_aload C dX7_order_83 (by rfl) ?_ | refine w_aloadN C dX7_order_83 (by rfl) ?_
          refine gf_X7_263 C hgg dX7_order_85 ?_
          refine w_iload_n C dX7_order_88 (by rfl) ?_
          first | refine w_aload_n C dX7_order_89 (by rfl) ?_ | refine w_aload_nN C dX7_order_89 (by rfl) ?_
          refine gf_X7_65 C yy dX7_order_90 ?_
          refine w_iload_n C dX7_order_93 (by rfl) ?_
          refine w_iadd C dX7_order_94 ?_
          refine w_iload C dX7_order_95 (by rfl) ?_
          refine cl_X7_266 C (m_X3_init hl (nI g) c (day + ds) pz f_qq) (by rfl) (by rfl) ⟨by decide, by decide⟩ (by rfl) dX7_order_97 (fun h6 p6 => ?_)
          have uI := uN.tr p6
          have yy := p6.oth yy f_qq (by intro q; simp at q)
          have yo := p6.oth yo f_qq (by intro q; simp at q)
          have hgg := p6.oth hgg f_qq (by intro q; simp at q)
          have f_qq := p6.self
          have yo0 := yo
          refine w_aastn C 5 (r := (RX3, TX3, 5)) (ci := 5) yo (by rfl) f_qq (by rfl) hlt (by decide) dX7_order_100 (fun h9 u9 => ?_)
          have yy := u9.oth yy yo0 (by intro q; simp at q)
          have f_qq := u9.oth f_qq yo0 (by intro q; simp at q)
          have hgg := u9.oth hgg yo0 (by intro q; simp at q)
          have yo := u9.self
          rw [row9_up] at yo
          first | refine w_aload_n C dX7_order_101 (by rfl) ?_ | refine w_aload_nN C dX7_order_101 (by rfl) ?_
          refine w_dup C dX7_order_102 (by rfl) ?_
          refine gf_X7_43 C yy dX7_order_103 ?_
          refine w_iconst (v := 1) C dX7_order_106 (by rfl) ?_
          refine w_iadd C dX7_order_107 ?_
          refine pf_X7_43 C yy dX7_order_108 (fun h7 u7 => ?_)
          have yo := u7.oth yo yy (by intro q; simp at q)
          have hgg := u7.oth hgg yy (by intro q; simp at q)
          have f_qq := u7.oth f_qq yy (by intro q; simp at q)
          have yy := u7.self
          have FF : Fr [y0, oA] _ _ := (((uI.frN nN).sub (by simp)).tr (u9.fr.sub (by simp))).tr (u7.fr.sub (by simp))
          rw [nI_1 nO] at yy
          first | refine w_aload_n C dX7_order_111 (by rfl) ?_ | refine w_aload_nN C dX7_order_111 (by rfl) ?_
          refine gf_X7_43 C yy dX7_order_112 ?_
          refine w_iconst (v := 1) C dX7_order_115 (by rfl) ?_
          refine w_isub C dX7_order_116 ?_
          refine w_iret C M dX7_order_117 ⟨by decide, by decide⟩ ⟨_, rfl, ?_⟩
          refine ⟨g, hg, rfl, ⟨c_13, c_23, c_34⟩, hlt, ?_, qq, Yh.order Y nN (o := (g, c, day + ds, pz, false)) f_qq yo yy FF⟩
          rw [nI_pred]
        · exact th_X7_85_261_89 C X (by rfl) (by rfl) (by rfl) (by decide) (by decide) (by decide) (by decide) (Or.inr (Or.inr ⟨rfl, rfl, no9, ⟨c_13, c_23, c_34⟩, fun w => c_57 (nI_lt w (show 6 < 2 ^ 31 by decide))⟩)) dX7_order_60 dX7_order_63 dX7_order_64 dX7_order_67 dX7_order_70
      · try simp only [cg_ge, cg_gt, cl_gt, cl_le, cl_eq, cl_lt, cl_ge, bi_eq0, bi_ne0, bI_eq0, Decidable.not_not, Bool.not_eq_false] at c_34
        exact th_X7_78_259_82 C X (by rfl) (by rfl) (by rfl) (by decide) (by decide) (by decide) (by decide) (Or.inr (Or.inl ⟨rfl, rfl, no9, by first | exact fun w => c_13 w.1 | exact fun w => c_23 w.2.1 | exact fun w => c_34 w.2.2⟩)) dX7_order_37 dX7_order_40 dX7_order_41 dX7_order_44 dX7_order_47
