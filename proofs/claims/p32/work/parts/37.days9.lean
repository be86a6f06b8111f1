/-! BURN AND DRY -/
set_option maxHeartbeats 4000000 in
set_option maxRecDepth 100000 in
theorem lp_X7_burn {K : KC} (C : CX K RX7 cX7_burn 3 rm_X7_burn) (hl : (Kl K).stackTraces = false) {y0 cA gA pA oA pr ra re rw tr tw : Nat} {ca ga pa oa : Nat → Nat} {f : Nat → Option Nat} {hb : UInt64} {hbt : UInt64} {dmt : Int32} {kt : KT} {nC : Nat} {cs : Nat → Int32 × Int32} {nG : Nat} {gs : Nat → GT} {nP : Nat} {ps : Nat → PT} {nO : Nat} {os : Nat → OT} {nR : Nat} {rs : Nat → RT} {k : KT} {dmp : Int32} {day : Int32} {pur : Int32} {rf : Int32} {m : Nat} (hm : m ≤ 60) (hk : okk k) (hL : okL nR k) (hRr : okR9 nR rs) (hs : ∀ i, i < nP → ¬ qSh (ps i).2.2 = -1 → ∃ s, s < 3 ∧ qSh (ps i).2.2 = nI s) (hn : ∀ i, i < nP → vf_n64 (FP.ddiv 4638707616191610880 (FP.i2d (qWl (ps i).2.2))))
    (kk : ∀ (h' : HM) (hb9 : UInt64), Yh (Kt K) y0 cA gA pA oA pr ra re rw tr tw ca ga pa oa f hb9 hbt dmt kt nC cs nG gs nP (sp_bps nR rs k dmp nP ps m) nO os nR rs (sp_run nR rs k m) dmp day pur rf h' → WW K (1, 6) 28 [some (.ref y0), some (.int (nI m)), some (.int (nI m))] [] h')
    : ∀ j : Nat, j ≤ m → ∀ {h : HM} {hb : UInt64},  (u : Yh (Kt K) y0 cA gA pA oA pr ra re rw tr tw ca ga pa oa f hb hbt dmt kt nC cs nG gs nP (sp_bps nR rs k dmp nP ps j) nO os nR rs (sp_run nR rs k j) dmp day pur rf h) → WW K (1, 6) 6 [some (.ref y0), some (.int (nI m)), some (.int (nI j))] [] h := by
  refine up_ind ?_
  intro j hj ih h hb u
  obtain ⟨yy, yc, yg, yp, yo, ypr, yra, yre, yrw, ytr, ytw, yC, yG, yP, yO, yR, yn1, yn2, yn3, yn4⟩ := id u
  refine w_iload_n C dX7_burn_6 (by rfl) ?_
  refine w_iload_n C dX7_burn_7 (by rfl) ?_
  refine w_icmp_ge (tgt := 28) C dX7_burn_8 (by rfl) (fun c_8 => ?_) (fun c_8 => ?_)
  · have e3 : ¬ j < m := fun q => nI_ge q (by omega) c_8
    obtain rfl : j = m := by omega
    exact kk _ _ u
  · have hj3 : j < m := Nat.not_le.mp (fun q => c_8 (nI_le (a := m) q (by omega)))
    first | refine w_aload_n C dX7_burn_11 (by rfl) ?_ | refine w_aload_nN C dX7_burn_11 (by rfl) ?_
    refine gf_X7_58 C yy dX7_burn_12 ?_
    refine cl_X7_234 C (m_X2_step hl yre ypr yra yR hRr.1 (run_ok hk hL hRr j).2 yrw (run_ok hk hL hRr j).1 hRr) yre (by rfl) (by rfl) ⟨by decide, by decide⟩ (by rfl) dX7_burn_15 (fun h1 p1 => ?_)
    have u := Yh.real u p1.1 p1.2.1 p1.2.2
    have yy := u.1
    first | refine w_aload_n C dX7_burn_18 (by rfl) ?_ | refine w_aload_nN C dX7_burn_18 (by rfl) ?_
    refine cl_X7_237 C (m_X7_heatPots hl u (run_ok hk hL hRr (j + 1)).1.1 (run_ok hk hL hRr j).1.1 (fun i hi w => by rw [(bps_sh nR rs k dmp nP ps i j).1] at w ⊢; exact hs i hi w) (fun i hi => by rw [(bps_sh nR rs k dmp nP ps i j).2]; exact hn i hi)) yy (by rfl) (by rfl) ⟨by decide, by decide⟩ (by rfl) dX7_burn_19 (fun h2 p2 => ?_)
    have u := p2
    refine w_iinc_2 (v := _ + (1)) C dX7_burn_22 (by rfl) (by first | trivial | rfl) ?_
    refine w_goto (tgt := 6) C dX7_burn_25 (by rfl) ?_
    rw [nI_1 j]
    exact w_sub (ih hj3 u) (by repeat' first | exact trivial | rfl | constructor)

set_option maxHeartbeats 4000000 in
set_option maxRecDepth 100000 in
theorem m_X7_burn {l : Launch} {D : va_G} {tc : Nat → ClassId} (hl : l.stackTraces = false) {h : HM} {y0 cA gA pA oA pr ra re rw tr tw : Nat} {ca ga pa oa : Nat → Nat} {f : Nat → Option Nat} {hb : UInt64} {hbt : UInt64} {dmt : Int32} {kt : KT} {nC : Nat} {cs : Nat → Int32 × Int32} {nG : Nat} {gs : Nat → GT} {nP : Nat} {ps : Nat → PT} {nO : Nat} {os : Nat → OT} {nR : Nat} {rs : Nat → RT} {k : KT} {dmp : Int32} {day : Int32} {pur : Int32} {rf : Int32} (Y : Yh tc y0 cA gA pA oA pr ra re rw tr tw ca ga pa oa f hb hbt dmt kt nC cs nG gs nP ps nO os nR rs k dmp day pur rf h) (hk : okk k) (hL : okL nR k) (hRr : okR9 nR rs) (hs : ∀ i, i < nP → ¬ qSh (ps i).2.2 = -1 → ∃ s, s < 3 ∧ qSh (ps i).2.2 = nI s) (hn : ∀ i, i < nP → vf_n64 (FP.ddiv 4638707616191610880 (FP.i2d (qWl (ps i).2.2)))) {st : Int32} :
    CTX l D tc yX7_burn cX7_burn 3 (some FieldType.boolean) rm_X7_burn [.ref y0, .int st] h (rI (fun z h' => ∃ m, (1 ≤ m ∧ m ≤ 60) ∧ st = nI m ∧ z = bi (kL (sp_run nR rs k m)) ∧ ∃ hb9, Yh tc y0 cA gA pA oA pr ra re rw tr tw ca ga pa oa f hb9 hbt dmt kt nC cs nG gs nP (sp_bps nR rs k dmp nP ps m) nO os nR rs (sp_run nR rs k m) dmp day pur rf h')) (fun E h' => E = "java/lang/IllegalArgumentException" ∧ h' = h ∧ ¬ (1 ≤ st ∧ st ≤ 60)) := by
  refine CTX.start [some (.ref y0), some (.int st), none] (by decide) hl rfl rfl (fun K C M X => ?_)
  obtain ⟨rfl, rfl, rfl, -⟩ := id M
  have C : CX K RX7 cX7_burn 3 rm_X7_burn := C
  obtain ⟨yy, yc, yg, yp, yo, ypr, yra, yre, yrw, ytr, ytw, yC, yG, yP, yO, yR, yn1, yn2, yn3, yn4⟩ := id Y
  refine w_iload_n C dX7_burn_0 (by rfl) ?_
  refine cx_X7_231 C (m_X7_testSteps hl st) (by rfl) (by rfl) ⟨by decide, by decide⟩ (by rfl) dX7_burn_1 (fun h1 p1 => ?_) (fun E hx px => w_prop X ⟨by decide, by decide⟩ px)
  obtain ⟨rfl, w2, w3⟩ := p1
  obtain ⟨m, hm, rfl⟩ := i60 w2 w3
  refine w_iconst (v := 0) C dX7_burn_4 (by rfl) ?_
  refine w_istore_2 C dX7_burn_5 (by first | trivial | rfl) ?_
  refine lp_X7_burn C hl (hb := hb) (dmp := dmp) hm.2 hk hL hRr hs hn (fun h9 hb9 Y9 => ?_) 0 (by omega) Y
  obtain ⟨yy, yc, yg, yp, yo, ypr, yra, yre, yrw, ytr, ytw, yC, yG, yP, yO, yR, yn1, yn2, yn3, yn4⟩ := id Y9
  first | refine w_aload_n C dX7_burn_28 (by rfl) ?_ | refine w_aload_nN C dX7_burn_28 (by rfl) ?_
  refine gf_X7_58 C yy dX7_burn_29 ?_
  refine gf_X7_204 C yre dX7_burn_32 ?_
  refine w_zret C M dX7_burn_35 ⟨by decide, by decide⟩ (nar01 (bi_01 _)) ⟨_, rfl, ?_⟩
  exact ⟨m, hm, rfl, rfl, hb9, Y9⟩

set_option maxHeartbeats 4000000 in
set_option maxRecDepth 100000 in
theorem lp_X7_dry {K : KC} (C : CX K RX7 cX7_dry 4 rm_X7_dry) (hl : (Kl K).stackTraces = false) {y0 cA gA pA oA pr ra re rw tr tw : Nat} {ca ga pa oa : Nat → Nat} {f : Nat → Option Nat} {hb : UInt64} {hbt : UInt64} {dmt : Int32} {kt : KT} {nC : Nat} {cs : Nat → Int32 × Int32} {nG : Nat} {gs : Nat → GT} {nP : Nat} {ps : Nat → PT} {nO : Nat} {os : Nat → OT} {nR : Nat} {rs : Nat → RT} {k : KT} {dmp : Int32} {day : Int32} {pur : Int32} {rf : Int32} {m : Nat} {air : Int32} (hm : m ≤ 20) (hn : ∀ j i, i < nP → lossN air (sp_dps air nP ps j i).2.2)
    (kk : ∀ (h' : HM), Yh (Kt K) y0 cA gA pA oA pr ra re rw tr tw ca ga pa oa f hb hbt dmt kt nC cs nG gs nP (sp_dps air nP ps m) nO os nR rs k dmp (day + nI m) pur rf h' → WW K (0, 0) 70 [some (.ref y0), some (.int (nI m)), some (.int air), some (.int (nI m))] [] h')
    : ∀ j : Nat, j ≤ m → ∀ {h : HM},  (u : Yh (Kt K) y0 cA gA pA oA pr ra re rw tr tw ca ga pa oa f hb hbt dmt kt nC cs nG gs nP (sp_dps air nP ps j) nO os nR rs k dmp (day + nI j) pur rf h) → WW K (0, 0) 54 [some (.ref y0), some (.int (nI m)), some (.int air), some (.int (nI j))] [] h := by
  refine up_ind ?_
  intro j hj ih h u
  obtain ⟨yy, yc, yg, yp, yo, ypr, yra, yre, yrw, ytr, ytw, yC, yG, yP, yO, yR, yn1, yn2, yn3, yn4⟩ := id u
  refine w_iload_n C dX7_dry_54 (by rfl) ?_
  refine w_iload_n C dX7_dry_55 (by rfl) ?_
  refine w_icmp_ge (tgt := 70) C dX7_dry_56 (by rfl) (fun c_56 => ?_) (fun c_56 => ?_)
  · have e3 : ¬ j < m := fun q => nI_ge q (by omega) c_56
    obtain rfl : j = m := by omega
    exact kk _ u
  · have hj3 : j < m := Nat.not_le.mp (fun q => c_56 (nI_le (a := m) q (by omega)))
    first | refine w_aload_n C dX7_dry_59 (by rfl) ?_ | refine w_aload_nN C dX7_dry_59 (by rfl) ?_
    refine w_iload_n C dX7_dry_60 (by rfl) ?_
    refine cl_X7_129 C (m_X7_dryOneDay hl u (hn j)) yy (by rfl) (by rfl) ⟨by decide, by decide⟩ (by rfl) dX7_dry_61 (fun h1 p1 => ?_)
    have u := p1
    rw [Int32.add_assoc, nI_1 j] at u
    refine w_iinc_3 (v := _ + (1)) C dX7_dry_64 (by rfl) (by first | trivial | rfl) ?_
    refine w_goto (tgt := 54) C dX7_dry_67 (by rfl) ?_
    rw [nI_1 j]
    exact w_sub (ih hj3 u) (by repeat' first | exact trivial | rfl | constructor)

theorem i20 {x : Int32} (h1 : 1 ≤ x) (h2 : x ≤ 20) : ∃ m, (1 ≤ m ∧ m ≤ 20) ∧ x = nI m := by
  have a1 := Int32.le_iff_toInt_le.mp h1
  have a2 := Int32.le_iff_toInt_le.mp h2
  have e1 : (1 : Int32).toInt = 1 := rfl
  have e2 : (20 : Int32).toInt = 20 := rfl
  obtain ⟨m, hm, rfl⟩ := nI_i (N := 21) (x := x) (by omega) (by omega)
  rw [nI_toInt (by omega)] at a1
  exact ⟨m, ⟨by omega, by omega⟩, rfl⟩

set_option maxHeartbeats 4000000 in
set_option maxRecDepth 100000 in
theorem m_X7_dry {l : Launch} {D : va_G} {tc : Nat → ClassId} (hl : l.stackTraces = false) {h : HM} {y0 cA gA pA oA pr ra re rw tr tw : Nat} {ca ga pa oa : Nat → Nat} {f : Nat → Option Nat} {hb : UInt64} {hbt : UInt64} {dmt : Int32} {kt : KT} {nC : Nat} {cs : Nat → Int32 × Int32} {nG : Nat} {gs : Nat → GT} {nP : Nat} {ps : Nat → PT} {nO : Nat} {os : Nat → OT} {nR : Nat} {rs : Nat → RT} {k : KT} {dmp : Int32} {day : Int32} {pur : Int32} {rf : Int32} (Y : Yh tc y0 cA gA pA oA pr ra re rw tr tw ca ga pa oa f hb hbt dmt kt nC cs nG gs nP ps nO os nR rs k dmp day pur rf h) {ds air : Int32} (hn : 1 ≤ air → air ≤ 8 → ∀ j i, i < nP → lossN air (sp_dps air nP ps j i).2.2) :
    CTX l D tc yX7_dry cX7_dry 4 (some FieldType.int) rm_X7_dry [.ref y0, .int ds, .int air] h (rI (fun z h' => ((1 ≤ ds ∧ ds ≤ 20) ∧ 1 ≤ air ∧ air ≤ 8) ∧ ¬ 200 < day + ds ∧ ∃ m, (1 ≤ m ∧ m ≤ 20) ∧ ds = nI m ∧ z = sp_cnt (fun i => decide (i < nP ∧ qSt (sp_dps air nP ps m i).2.2 = 1)) 14 ∧ Yh tc y0 cA gA pA oA pr ra re rw tr tw ca ga pa oa f hb hbt dmt kt nC cs nG gs nP (sp_dps air nP ps m) nO os nR rs k dmp (day + ds) pur rf h')) (fun E h' => (E = "java/lang/IllegalArgumentException" ∧ h' = h ∧ ¬ ((1 ≤ ds ∧ ds ≤ 20) ∧ 1 ≤ air ∧ air ≤ 8)) ∨ (E = "java/lang/IllegalStateException" ∧ h' = h ∧ ((1 ≤ ds ∧ ds ≤ 20) ∧ 1 ≤ air ∧ air ≤ 8) ∧ 200 < day + ds)) := by
  refine CTX.start [some (.ref y0), some (.int ds), some (.int air), none] (by decide) hl rfl rfl (fun K C M X => ?_)
  obtain ⟨rfl, rfl, rfl, -⟩ := id M
  have C : CX K RX7 cX7_dry 4 rm_X7_dry := C
  obtain ⟨yy, yc, yg, yp, yo, ypr, yra, yre, yrw, ytr, ytw, yC, yG, yP, yO, yR, yn1, yn2, yn3, yn4⟩ := id Y
  refine w_iload_n C dX7_dry_0 (by rfl) ?_
  refine w_iconst (v := 1) C dX7_dry_1 (by rfl) ?_
  refine w_bipush (v := (20)) C dX7_dry_2 (by rfl) ?_
  refine cl_X7_74 C (m_X7_isWithin hl ds 1 20) (by rfl) (by rfl) ⟨by decide, by decide⟩ (by rfl) dX7_dry_4 (fun z1 h1 p1 => ?_)
  obtain ⟨rfl, rfl⟩ := p1
  refine w_if_eq (tgt := 20) C dX7_dry_7 (by rfl) (fun c_7 => ?_) (fun c_7 => ?_)
  · try simp only [cg_ge, cg_gt, cl_gt, cl_le, cl_eq, cl_lt, cl_ge, bi_eq0, bi_ne0, bI_eq0, Decidable.not_not, Bool.not_eq_false] at c_7
    exact th_X7_78_125_82 C X (by rfl) (by rfl) (by rfl) (by decide) (by decide) (by decide) (by decide) (Or.inl ⟨rfl, rfl, by first | exact fun w => c_7 w.1 | exact fun w => c_17 w.2⟩) dX7_dry_20 dX7_dry_23 dX7_dry_24 dX7_dry_26 dX7_dry_29
  · try simp only [cg_ge, cg_gt, cl_gt, cl_le, cl_eq, cl_lt, cl_ge, bi_eq0, bi_ne0, bI_eq0, Decidable.not_not, Bool.not_eq_false] at c_7
    refine w_iload_n C dX7_dry_10 (by rfl) ?_
    refine w_iconst (v := 1) C dX7_dry_11 (by rfl) ?_
    refine w_bipush (v := (8)) C dX7_dry_12 (by rfl) ?_
    refine cl_X7_74 C (m_X7_isWithin hl air 1 8) (by rfl) (by rfl) ⟨by decide, by decide⟩ (by rfl) dX7_dry_14 (fun z2 h2 p2 => ?_)
    obtain ⟨rfl, rfl⟩ := p2
    refine w_if_ne (tgt := 30) C dX7_dry_17 (by rfl) (fun c_17 => ?_) (fun c_17 => ?_)
    · try simp only [cg_ge, cg_gt, cl_gt, cl_le, cl_eq, cl_lt, cl_ge, bi_eq0, bi_ne0, bI_eq0, Decidable.not_not, Bool.not_eq_false] at c_17
      first | refine w_aload_n C dX7_dry_30 (by rfl) ?_ | refine w_aload_nN C dX7_dry_30 (by rfl) ?_
      refine gf_X7_65 C yy dX7_dry_31 ?_
      refine w_iload_n C dX7_dry_34 (by rfl) ?_
      refine w_iadd C dX7_dry_35 ?_
      refine w_sipush (v := (200)) C dX7_dry_36 (by rfl) ?_
      refine w_icmp_le (tgt := 52) C dX7_dry_39 (by rfl) (fun c_39 => ?_) (fun c_39 => ?_)
      · have o9 : ¬ 200 < day + ds := Int32.not_lt.mpr c_39
        obtain ⟨m, hm, e9⟩ := i20 c_7.1 c_7.2
        refine w_iconst (v := 0) C dX7_dry_52 (by rfl) ?_
        refine w_istore_3 C dX7_dry_53 (by first | trivial | rfl) ?_
        rw [e9]
        refine lp_X7_dry C hl (day := day) (ps := ps) hm.2 (hn c_17.1 c_17.2) (fun h9 Y9 => ?_) 0 (by omega) (by rw [show day + nI 0 = day from Int32.add_zero day]; exact Y)
        obtain ⟨yy, yc, yg, yp, yo, ypr, yra, yre, yrw, ytr, ytw, yC, yG, yP, yO, yR, yn1, yn2, yn3, yn4⟩ := id Y9
        first | refine w_aload_n C dX7_dry_70 (by rfl) ?_ | refine w_aload_nN C dX7_dry_70 (by rfl) ?_
        refine w_iconst (v := 1) C dX7_dry_71 (by rfl) ?_
        refine cl_X7_133 C (m_X7_potsInState hl Y9 1) yy (by rfl) (by rfl) ⟨by decide, by decide⟩ (by rfl) dX7_dry_72 (fun z3 h3 p3 => ?_)
        obtain ⟨rfl, rfl⟩ := p3
        refine w_iret C M dX7_dry_75 ⟨by decide, by decide⟩ ⟨_, rfl, ?_⟩
        rw [← e9] at Y9
        exact ⟨⟨c_7, c_17⟩, o9, m, hm, e9, rfl, Y9⟩
      · exact th_X7_85_127_89 C X (by rfl) (by rfl) (by rfl) (by decide) (by decide) (by decide) (by decide) (Or.inr ⟨rfl, rfl, ⟨c_7, c_17⟩, Int32.not_le.mp c_39⟩) dX7_dry_42 dX7_dry_45 dX7_dry_46 dX7_dry_48 dX7_dry_51
    · try simp only [cg_ge, cg_gt, cl_gt, cl_le, cl_eq, cl_lt, cl_ge, bi_eq0, bi_ne0, bI_eq0, Decidable.not_not, Bool.not_eq_false] at c_17
      exact th_X7_78_125_82 C X (by rfl) (by rfl) (by rfl) (by decide) (by decide) (by decide) (by decide) (Or.inl ⟨rfl, rfl, by first | exact fun w => c_7 w.1 | exact fun w => c_17 w.2⟩) dX7_dry_20 dX7_dry_23 dX7_dry_24 dX7_dry_26 dX7_dry_29
