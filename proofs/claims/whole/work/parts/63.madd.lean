/-! THE REFERENCE: CLAYS, GLAZES, POTS, ORDERS, RAMPS -/
theorem w_istore_11 {K : KC} {n : Nat × Nat} {pc : Nat} {st : List Value} {h : HM} {own : String} {cc : ByteArray} {nL : Nat} {R : Room} {a0 a1 a2 a3 a4 a5 a6 a7 a8 a9 a10 b : Option Value} {t : List (Option Value)} (C : CX K own cc nL R) {x : Int32} (hd : decode cc pc = .ok (.istore 11, 2)) (hp : lvOk (some a10)) (k : WW K n (pc + 2) (a0 :: a1 :: a2 :: a3 :: a4 :: a5 :: a6 :: a7 :: a8 :: a9 :: a10 :: some (.int x) :: t) st h) : WW K n pc (a0 :: a1 :: a2 :: a3 :: a4 :: a5 :: a6 :: a7 :: a8 :: a9 :: a10 :: b :: t) (.int x :: st) h := w_istore0 (i := 11) C hd (by simp) (Or.inr ⟨10, rfl, hp⟩) k
theorem gI_0 (g : GT) : gI g 0 = g.1 := rfl
theorem gI_1 (g : GT) : gI g 1 = g.2.1 := rfl
theorem gI_2 (g : GT) : gI g 2 = g.2.2.1 := rfl
theorem gI_3 (g : GT) : gI g 3 = g.2.2.2.1 := rfl
theorem gI_4 (g : GT) : gI g 4 = g.2.2.2.2 := rfl
theorem cI_1 (c : Int32 × Int32) : cI c 1 = c.2 := rfl
/-- one change beside a new place -/
theorem swap9 {h0 h1 h2 : HM} {a : Nat} {e0 e' : va_E} (fr : Fr [] h0 h1) (u : Up h1 a e' h2) (ha : h0 a = some e0) : Fr [] (hu h0 a e') h2 ∧ ∀ q, h0 q = none → hu h0 a e' q = none := by
  refine ⟨fun b z _ hb => ?_, fun q hq => ?_⟩
  · by_cases w : b = a
    · subst w
      have : hu h0 b e' b = some e' := (show Up h0 b e' (hu h0 b e') from rfl).self
      rw [this] at hb
      rw [← hb]; exact u.self
    · rw [u.ne w]
      rw [hu_ne _ _ w] at hb
      exact fr b z List.not_mem_nil hb
  · rw [hu_ne _ _ (fun w => by rw [w, ha] at hq; cases hq)]
    exact hq
/-- what is wrong of a glaze, when j numbers are seen -/
def sp_gb (g : GT) : Nat → Bool
  | 0 => decide (g.1 = 0 ∧ g.2.1 = 0)
  | j + 1 => sp_gb g j || !decide (0 ≤ gI g j ∧ gI g j ≤ 60)
theorem gb_t {g : GT} {j : Nat} (h : 0 ≤ gI g j ∧ gI g j ≤ 60) : bi (sp_gb g j) ||| 0 = bi (sp_gb g (j + 1)) := by
  show _ = bi (sp_gb g j || !decide (0 ≤ gI g j ∧ gI g j ≤ 60))
  rw [decide_eq_true h]
  cases sp_gb g j <;> decide
theorem gb_f {g : GT} {j : Nat} (h : ¬ (0 ≤ gI g j ∧ gI g j ≤ 60)) : bi (sp_gb g j) ||| 1 = bi (sp_gb g (j + 1)) := by
  show _ = bi (sp_gb g j || !decide (0 ≤ gI g j ∧ gI g j ≤ 60))
  rw [decide_eq_false h]
  cases sp_gb g j <;> decide
theorem gb_ok (g : GT) : sp_gb g 5 = false ↔ glzOk g := by
  simp only [sp_gb, Bool.or_eq_false_iff, decide_eq_false_iff_not, Bool.not_eq_false', decide_eq_true_eq, gI_0, gI_1, gI_2, gI_3, gI_4, glzOk]
  exact ⟨fun ⟨⟨⟨⟨⟨a, b⟩, c⟩, d⟩, e⟩, f⟩ => ⟨⟨of_decide_eq_true b, of_decide_eq_true c, of_decide_eq_true d, of_decide_eq_true e, of_decide_eq_true f⟩, a⟩, fun ⟨⟨b, c, d, e, f⟩, a⟩ => ⟨⟨⟨⟨⟨a, decide_eq_true b⟩, decide_eq_true c⟩, decide_eq_true d⟩, decide_eq_true e⟩, decide_eq_true f⟩⟩

set_option maxHeartbeats 4000000 in
set_option maxRecDepth 100000 in
theorem m_X10_growthOf {l : Launch} {D : va_G} {tc : Nat → ClassId} (hl : l.stackTraces = false) {h : HM} {m0 kl wk : Nat} {L : Nat → Nat} {E : Nat → Nat} {M : Nat → Int32} {ca : Nat → Nat} {ga : Nat → Nat} {pa : Nat → Nat} {oa : Nat → Nat} {ra : Nat → Nat} {th : Int32} {nC : Nat} {cs : Nat → Int32 × Int32} {nG : Nat} {gs : Nat → GT} {nP : Nat} {ps : Nat → PT} {nO : Nat} {os : Nat → OT} {nR : Nat} {rs : Nat → RT} {k : KT} {dmp : Int32} {day : Int32} {pur : Int32} {rf : Int32} (YY : Mh tc m0 kl wk L E M ca ga pa oa ra th nC cs nG gs nP ps nO os nR rs k dmp day pur rf h) {j : Nat} (hj : j < nC) (hq : 8 ≤ (cs j).2.toInt ∧ (cs j).2.toInt ≤ 40) :
    CT l D tc yX10_growthOf cX10_growthOf 2 (some FieldType.double) rm_X10_growthOf [.ref m0, .int (nI j)] h (rD (fun z h' => h' = h ∧ z = sp_cg (cs j).2)) := by
  refine CT.start [some (.ref m0), some (.int (nI j))] (by decide) hl rfl rfl (fun K C M => ?_)
  obtain ⟨rfl, rfl, rfl, -⟩ := id M
  have C : CX K RX10 cX10_growthOf 2 rm_X10_growthOf := C
  obtain ⟨mm, mL, mk, mw, mCl, mGl, mPt, mOr, mRm, mn1, mn2, mn3⟩ := id YY
  first | refine w_aload_n C dX10_growthOf_0 (by rfl) ?_ | refine w_aload_nN C dX10_growthOf_0 (by rfl) ?_
  refine gf_X10_10 C mm dX10_growthOf_1 ?_
  refine w_iload_n C dX10_growthOf_4 (by rfl) ?_
  refine cl_X10_58 C (m_get hl YY.lc YY.ac hj) YY.lc (by rfl) (by rfl) ⟨by decide, by decide⟩ (by rfl) dX10_growthOf_5 (fun z1 h1 p1 => ?_)
  obtain ⟨rfl, rfl⟩ := p1
  refine w_castI C (mCl j hj) gw_1313 dX10_growthOf_8 ?_
  refine w_iconst (v := 1) C dX10_growthOf_11 (by rfl) ?_
  refine w_ialdn (j := 1) C (mCl j hj) (by decide) (by decide) dX10_growthOf_12 ?_
  rw [cI_1]
  refine w_i2d C dX10_growthOf_13 ?_
  refine lc_X10_86 C dX10_growthOf_14 ?_
  refine w_dmul C dX10_growthOf_17 (by rw [cg_mul hq]; exact nn_of (cg_fin hq).n) ?_
  refine w_dret C M dX10_growthOf_18 ⟨by decide, by decide⟩ ⟨_, rfl, ?_⟩
  exact ⟨rfl, cg_mul hq⟩

set_option maxHeartbeats 4000000 in
set_option maxRecDepth 100000 in
theorem m_X10_growth {l : Launch} {D : va_G} {tc : Nat → ClassId} (hl : l.stackTraces = false) {h : HM} {m0 kl wk : Nat} {L : Nat → Nat} {E : Nat → Nat} {M : Nat → Int32} {ca : Nat → Nat} {ga : Nat → Nat} {pa : Nat → Nat} {oa : Nat → Nat} {ra : Nat → Nat} {th : Int32} {nC : Nat} {cs : Nat → Int32 × Int32} {nG : Nat} {gs : Nat → GT} {nP : Nat} {ps : Nat → PT} {nO : Nat} {os : Nat → OT} {nR : Nat} {rs : Nat → RT} {k : KT} {dmp : Int32} {day : Int32} {pur : Int32} {rf : Int32} (YY : Mh tc m0 kl wk L E M ca ga pa oa ra th nC cs nG gs nP ps nO os nR rs k dmp day pur rf h) {j : Nat} (hj : j < nG) (hn : glzN (gs j)) :
    CT l D tc yX10_growth cX10_growth 3 (some FieldType.double) rm_X10_growth [.ref m0, .int (nI j)] h (rD (fun z h' => h' = h ∧ z = sp_growth (gs j))) := by
  refine CT.start [some (.ref m0), some (.int (nI j)), none] (by decide) hl rfl rfl (fun K C M => ?_)
  obtain ⟨rfl, rfl, rfl, -⟩ := id M
  have C : CX K RX10 cX10_growth 3 rm_X10_growth := C
  obtain ⟨mm, mL, mk, mw, mCl, mGl, mPt, mOr, mRm, mn1, mn2, mn3⟩ := id YY
  obtain ⟨n1, n2, n3, n4, n5, n6, n7, n8, n9, n10, n11, n12⟩ := hn
  first | refine w_aload_n C dX10_growth_0 (by rfl) ?_ | refine w_aload_nN C dX10_growth_0 (by rfl) ?_
  refine gf_X10_16 C mm dX10_growth_1 ?_
  refine w_iload_n C dX10_growth_4 (by rfl) ?_
  refine cl_X10_58 C (m_get hl YY.lg YY.ag hj) YY.lg (by rfl) (by rfl) ⟨by decide, by decide⟩ (by rfl) dX10_growth_5 (fun z1 h1 p1 => ?_)
  obtain ⟨rfl, rfl⟩ := p1
  refine w_castI C (mGl j hj) gw_1313 dX10_growth_8 ?_
  first | refine w_astore_2 C dX10_growth_11 (by first | trivial | rfl) ?_ | refine w_astore_2N C dX10_growth_11 (by first | trivial | rfl) ?_
  refine lc_X10_80 C dX10_growth_12 ?_
  first | refine w_aload_n C dX10_growth_15 (by rfl) ?_ | refine w_aload_nN C dX10_growth_15 (by rfl) ?_
  refine w_iconst (v := 0) C dX10_growth_16 (by rfl) ?_
  refine w_ialdn (j := 0) C (mGl j hj) (by decide) (by decide) dX10_growth_17 ?_
  rw [gI_0]
  refine w_i2d C dX10_growth_18 ?_
  refine w_dmul C dX10_growth_19 n6 ?_
  refine lc_X10_82 C dX10_growth_20 ?_
  first | refine w_aload_n C dX10_growth_23 (by rfl) ?_ | refine w_aload_nN C dX10_growth_23 (by rfl) ?_
  refine w_iconst (v := 1) C dX10_growth_24 (by rfl) ?_
  refine w_ialdn (j := 1) C (mGl j hj) (by decide) (by decide) dX10_growth_25 ?_
  rw [gI_1]
  refine w_i2d C dX10_growth_26 ?_
  refine w_dmul C dX10_growth_27 n7 ?_
  refine w_dadd C dX10_growth_28 n8 ?_
  refine lc_X10_84 C dX10_growth_29 ?_
  first | refine w_aload_n C dX10_growth_32 (by rfl) ?_ | refine w_aload_nN C dX10_growth_32 (by rfl) ?_
  refine w_iconst (v := 2) C dX10_growth_33 (by rfl) ?_
  refine w_ialdn (j := 2) C (mGl j hj) (by decide) (by decide) dX10_growth_34 ?_
  rw [gI_2]
  refine w_i2d C dX10_growth_35 ?_
  refine w_dmul C dX10_growth_36 n9 ?_
  refine w_dadd C dX10_growth_37 n10 ?_
  first | refine w_aload_n C dX10_growth_38 (by rfl) ?_ | refine w_aload_nN C dX10_growth_38 (by rfl) ?_
  refine w_iconst (v := 3) C dX10_growth_39 (by rfl) ?_
  refine w_ialdn (j := 3) C (mGl j hj) (by decide) (by decide) dX10_growth_40 ?_
  rw [gI_3]
  refine w_i2d C dX10_growth_41 ?_
  refine w_dadd C dX10_growth_42 n11 ?_
  first | refine w_aload_n C dX10_growth_43 (by rfl) ?_ | refine w_aload_nN C dX10_growth_43 (by rfl) ?_
  refine w_iconst (v := 0) C dX10_growth_44 (by rfl) ?_
  refine w_ialdn (j := 0) C (mGl j hj) (by decide) (by decide) dX10_growth_45 ?_
  rw [gI_0]
  first | refine w_aload_n C dX10_growth_46 (by rfl) ?_ | refine w_aload_nN C dX10_growth_46 (by rfl) ?_
  refine w_iconst (v := 1) C dX10_growth_47 (by rfl) ?_
  refine w_ialdn (j := 1) C (mGl j hj) (by decide) (by decide) dX10_growth_48 ?_
  rw [gI_1]
  refine w_iadd C dX10_growth_49 ?_
  first | refine w_aload_n C dX10_growth_50 (by rfl) ?_ | refine w_aload_nN C dX10_growth_50 (by rfl) ?_
  refine w_iconst (v := 2) C dX10_growth_51 (by rfl) ?_
  refine w_ialdn (j := 2) C (mGl j hj) (by decide) (by decide) dX10_growth_52 ?_
  rw [gI_2]
  refine w_iadd C dX10_growth_53 ?_
  first | refine w_aload_n C dX10_growth_54 (by rfl) ?_ | refine w_aload_nN C dX10_growth_54 (by rfl) ?_
  refine w_iconst (v := 3) C dX10_growth_55 (by rfl) ?_
  refine w_ialdn (j := 3) C (mGl j hj) (by decide) (by decide) dX10_growth_56 ?_
  rw [gI_3]
  refine w_iadd C dX10_growth_57 ?_
  refine w_i2d C dX10_growth_58 ?_
  refine w_ddiv C dX10_growth_59 n12 ?_
  refine w_dret C M dX10_growth_60 ⟨by decide, by decide⟩ ⟨_, rfl, ?_⟩
  exact ⟨rfl, rfl⟩

set_option maxHeartbeats 4000000 in
set_option maxRecDepth 100000 in
theorem m_X10_clay {l : Launch} {D : va_G} {tc : Nat → ClassId} (hl : l.stackTraces = false) {h : HM} {m0 kl wk : Nat} {L : Nat → Nat} {E : Nat → Nat} {M : Nat → Int32} {ca : Nat → Nat} {ga : Nat → Nat} {pa : Nat → Nat} {oa : Nat → Nat} {ra : Nat → Nat} {th : Int32} {nC : Nat} {cs : Nat → Int32 × Int32} {nG : Nat} {gs : Nat → GT} {nP : Nat} {ps : Nat → PT} {nO : Nat} {os : Nat → OT} {nR : Nat} {rs : Nat → RT} {k : KT} {dmp : Int32} {day : Int32} {pur : Int32} {rf : Int32} (YY : Mh tc m0 kl wk L E M ca ga pa oa ra th nC cs nG gs nP ps nO os nR rs k dmp day pur rf h) (bC : nC ≤ 3) {t g : Int32} :
    CT l D tc yX10_clay cX10_clay 3 (some FieldType.int) rm_X10_clay [.ref m0, .int t, .int g] h (rI (fun z h' => (¬ ((1 ≤ t ∧ t ≤ 12) ∧ 8 ≤ g ∧ g ≤ 40) ∧ z = 0 ∧ MhE tc m0 kl wk 1 nC cs nG gs nP ps nO os nR rs k dmp day pur rf h') ∨ (((1 ≤ t ∧ t ≤ 12) ∧ 8 ≤ g ∧ g ≤ 40) ∧ ¬ nC < 3 ∧ z = 0 ∧ MhE tc m0 kl wk 2 nC cs nG gs nP ps nO os nR rs k dmp day pur rf h') ∨ (((1 ≤ t ∧ t ≤ 12) ∧ 8 ≤ g ∧ g ≤ 40) ∧ nC < 3 ∧ z = nI nC ∧ MhE tc m0 kl wk 0 (nC + 1) (vf_upd cs nC (t, g)) nG gs nP ps nO os nR rs k dmp day pur rf h'))) := by
  refine CT.start [some (.ref m0), some (.int t), some (.int g)] (by decide) hl rfl rfl (fun K C M => ?_)
  obtain ⟨rfl, rfl, rfl, -⟩ := id M
  have C : CX K RX10 cX10_clay 3 rm_X10_clay := C
  obtain ⟨mm, mL, mk, mw, mCl, mGl, mPt, mOr, mRm, mn1, mn2, mn3⟩ := id YY
  first | refine w_aload_n C dX10_clay_0 (by rfl) ?_ | refine w_aload_nN C dX10_clay_0 (by rfl) ?_
  refine w_iload_n C dX10_clay_1 (by rfl) ?_
  refine w_iconst (v := 1) C dX10_clay_2 (by rfl) ?_
  refine w_bipush (v := (12)) C dX10_clay_3 (by rfl) ?_
  refine cl_X10_44 C (m_X10_isIn hl) (by rfl) (by rfl) ⟨by decide, by decide⟩ (by rfl) dX10_clay_5 (fun z1 h1 p1 => ?_)
  obtain ⟨rfl, rfl⟩ := p1
  refine w_if_eq (tgt := 22) C dX10_clay_8 (by rfl) (fun c_8 => ?_) (fun c_8 => ?_)
  · try simp only [cg_ge, cg_gt, cl_gt, cl_le, cl_eq, cl_lt, cl_ge, bi_eq0, bi_ne0, bI_eq0, Decidable.not_not, Bool.not_eq_false] at c_8
    refine w_iconst (v := 1) C dX10_clay_22 (by rfl) ?_
    refine w_goto (tgt := 27) C dX10_clay_23 (by rfl) ?_
    refine w_iconst (v := 1) C dX10_clay_27 (by rfl) ?_
    refine cl_X10_88 C (m_X10_startT hl mm (by decide)) mm (by rfl) (by rfl) ⟨by decide, by decide⟩ (by rfl) dX10_clay_28 (fun z2 h2 p2 => ?_)
    obtain ⟨rfl, p2⟩ := p2
    have YY := YY.me (th2 := 1) (day2 := day) (dmp2 := dmp) (pur2 := pur) (rf2 := rf) p2
    obtain ⟨mm, mL, mk, mw, mCl, mGl, mPt, mOr, mRm, mn1, mn2, mn3⟩ := id YY
    refine w_if_ne (tgt := 58) C dX10_clay_31 (by rfl) (fun c_31 => ?_) (fun c_31 => ?_)
    · try simp only [cg_ge, cg_gt, cl_gt, cl_le, cl_eq, cl_lt, cl_ge, bi_eq0, bi_ne0, bI_eq0, Decidable.not_not, Bool.not_eq_false] at c_31
      refine w_iconst (v := 0) C dX10_clay_58 (by rfl) ?_
      refine w_iret C M dX10_clay_59 ⟨by decide, by decide⟩ ⟨_, rfl, ?_⟩
      exact Or.inl ⟨fun w => c_8 w.1, rfl, YY.ex⟩
    · exact absurd c_31 (by decide)
  · try simp only [cg_ge, cg_gt, cl_gt, cl_le, cl_eq, cl_lt, cl_ge, bi_eq0, bi_ne0, bI_eq0, Decidable.not_not, Bool.not_eq_false] at c_8
    refine w_iload_n C dX10_clay_11 (by rfl) ?_
    refine w_bipush (v := (8)) C dX10_clay_12 (by rfl) ?_
    refine w_bipush (v := (40)) C dX10_clay_14 (by rfl) ?_
    refine cl_X10_44 C (m_X10_isIn hl) (by rfl) (by rfl) ⟨by decide, by decide⟩ (by rfl) dX10_clay_16 (fun z3 h3 p3 => ?_)
    obtain ⟨rfl, rfl⟩ := p3
    refine w_if_ne (tgt := 26) C dX10_clay_19 (by rfl) (fun c_19 => ?_) (fun c_19 => ?_)
    · try simp only [cg_ge, cg_gt, cl_gt, cl_le, cl_eq, cl_lt, cl_ge, bi_eq0, bi_ne0, bI_eq0, Decidable.not_not, Bool.not_eq_false] at c_19
      refine w_iconst (v := 0) C dX10_clay_26 (by rfl) ?_
      refine w_iconst (v := 1) C dX10_clay_27 (by rfl) ?_
      refine cl_X10_88 C (m_X10_startF hl mm) mm (by rfl) (by rfl) ⟨by decide, by decide⟩ (by rfl) dX10_clay_28 (fun z4 h4 p4 => ?_)
      obtain ⟨rfl, p4⟩ := p4
      have YY := YY.me (th2 := 0) (day2 := day) (dmp2 := dmp) (pur2 := pur) (rf2 := rf) p4
      obtain ⟨mm, mL, mk, mw, mCl, mGl, mPt, mOr, mRm, mn1, mn2, mn3⟩ := id YY
      refine w_if_ne (tgt := 58) C dX10_clay_31 (by rfl) (fun c_31 => ?_) (fun c_31 => ?_)
      · exact absurd c_31 (by decide)
      · try simp only [cg_ge, cg_gt, cl_gt, cl_le, cl_eq, cl_lt, cl_ge, bi_eq0, bi_ne0, bI_eq0, Decidable.not_not, Bool.not_eq_false] at c_31
        first | refine w_aload_n C dX10_clay_34 (by rfl) ?_ | refine w_aload_nN C dX10_clay_34 (by rfl) ?_
        first | refine w_aload_n C dX10_clay_35 (by rfl) ?_ | refine w_aload_nN C dX10_clay_35 (by rfl) ?_
        refine gf_X10_10 C mm dX10_clay_36 ?_
        refine cl_X10_40 C (m_Jx4a65c_size_8abf5 hl YY.lc) YY.lc (by rfl) (by rfl) ⟨by decide, by decide⟩ (by rfl) dX10_clay_39 (fun z5 h5 p5 => ?_)
        obtain ⟨rfl, rfl⟩ := p5
        refine w_iconst (v := 3) C dX10_clay_42 (by rfl) ?_
        refine w_icmp_ne (tgt := 50) C dX10_clay_43 (by rfl) (fun c_43 => ?_) (fun c_43 => ?_)
        · have b9 : nC < 3 := by
            have : ¬ nC = 3 := fun w => c_43 (by rw [w]; rfl)
            omega
          refine w_iconst (v := 0) C dX10_clay_50 (by rfl) ?_
          refine w_iconst (v := 2) C dX10_clay_51 (by rfl) ?_
          refine cl_X10_36 C (m_X10_refuseF hl mm) mm (by rfl) (by rfl) ⟨by decide, by decide⟩ (by rfl) dX10_clay_52 (fun z6 h6 p6 => ?_)
          obtain ⟨rfl, rfl⟩ := p6
          refine w_if_eq (tgt := 60) C dX10_clay_55 (by rfl) (fun c_55 => ?_) (fun c_55 => ?_)
          · try simp only [cg_ge, cg_gt, cl_gt, cl_le, cl_eq, cl_lt, cl_ge, bi_eq0, bi_ne0, bI_eq0, Decidable.not_not, Bool.not_eq_false] at c_55
            first | refine w_aload_n C dX10_clay_60 (by rfl) ?_ | refine w_aload_nN C dX10_clay_60 (by rfl) ?_
            refine gf_X10_10 C mm dX10_clay_61 ?_
            refine w_iconst (v := 2) C dX10_clay_64 (by rfl) ?_
            have YY0 := YY
            refine w_newain C gw_1139 (by decide) (by rfl) (by decide) (by decide) (by decide) dX10_clay_65 (fun q h7 n7 u7 => ?_)
            have f_q := u7.self
            have nq := n7
            have uq := u7
            refine w_dup C dX10_clay_67 (by rfl) ?_
            refine w_iconst (v := 0) C dX10_clay_68 (by rfl) ?_
            refine w_iload_n C dX10_clay_69 (by rfl) ?_
            refine w_iastn (j := 0) C f_q (by decide) (by decide) dX10_clay_70 (fun h70 u70 => ?_)
            have f_q := u70.self
            refine w_dup C dX10_clay_71 (by rfl) ?_
            refine w_iconst (v := 1) C dX10_clay_72 (by rfl) ?_
            refine w_iload_n C dX10_clay_73 (by rfl) ?_
            refine w_iastn (j := 1) C f_q (by decide) (by decide) dX10_clay_74 (fun h74 u74 => ?_)
            have f_q := u74.self
            have fr0 := Fr.fresh (S := [q]) (((uq.frN nq).sub (by simp)).tr (u70.fr.tr (u74.fr))) (by intro b m; simp at m; rw [m]; exact nq)
            have YY := YY0.fr0 fr0
            obtain ⟨mm, mL, mk, mw, mCl, mGl, mPt, mOr, mRm, mn1, mn2, mn3⟩ := id YY
            refine cl_X10_91 C (m_add hl YY.lc YY.ac (Or.inl ⟨_, _, f_q⟩) (fun i hi => Or.inl ⟨_, _, mCl i hi⟩) (by omega)) YY.lc (by rfl) (by rfl) ⟨by decide, by decide⟩ (by rfl) dX10_clay_75 (fun z8 h8 p8 => ?_)
            obtain ⟨rfl, el', nE, g1, g2, d9⟩ := p8
            have hx9 := (LCh.of YY.ac Fr.rfl9 nE d9).oth YY.lc f_q (by intro _ _ _ v; simp at v) (by intro _ _ _ v; simp at v)
            have YY := YY0.addC (c := (t, g)) hx9 (fun z v => by rw [nq] at v; cases v) g1 g2 (LCh.of YY0.ac fr0 nE d9)
            obtain ⟨mm, mL, mk, mw, mCl, mGl, mPt, mOr, mRm, mn1, mn2, mn3⟩ := id YY
            refine w_pop C dX10_clay_78 (by rfl) ?_
            first | refine w_aload_n C dX10_clay_79 (by rfl) ?_ | refine w_aload_nN C dX10_clay_79 (by rfl) ?_
            refine gf_X10_10 C mm dX10_clay_80 ?_
            refine cl_X10_40 C (m_Jx4a65c_size_8abf5 hl YY.lc) YY.lc (by rfl) (by rfl) ⟨by decide, by decide⟩ (by rfl) dX10_clay_83 (fun z9 h9 p9 => ?_)
            obtain ⟨rfl, rfl⟩ := p9
            refine w_iconst (v := 1) C dX10_clay_86 (by rfl) ?_
            refine w_isub C dX10_clay_87 ?_
            refine w_iret C M dX10_clay_88 ⟨by decide, by decide⟩ ⟨_, rfl, ?_⟩
            exact Or.inr (Or.inr ⟨⟨c_8, c_19⟩, b9, nI_s1 _, YY.ex⟩)
          · exact absurd c_55 (by decide)
        · have b9 : ¬ nC < 3 := by
            have := (nI_eq (b := 3) (by omega) (by decide)).mp c_43
            omega
          refine w_iconst (v := 1) C dX10_clay_46 (by rfl) ?_
          refine w_goto (tgt := 51) C dX10_clay_47 (by rfl) ?_
          refine w_iconst (v := 2) C dX10_clay_51 (by rfl) ?_
          refine cl_X10_36 C (m_X10_refuseT hl mm (by decide)) mm (by rfl) (by rfl) ⟨by decide, by decide⟩ (by rfl) dX10_clay_52 (fun z10 h10 p10 => ?_)
          obtain ⟨rfl, p10⟩ := p10
          have YY := YY.me (th2 := 2) (day2 := day) (dmp2 := dmp) (pur2 := pur) (rf2 := rf) p10
          obtain ⟨mm, mL, mk, mw, mCl, mGl, mPt, mOr, mRm, mn1, mn2, mn3⟩ := id YY
          refine w_if_eq (tgt := 60) C dX10_clay_55 (by rfl) (fun c_55 => ?_) (fun c_55 => ?_)
          · exact absurd c_55 (by decide)
          · try simp only [cg_ge, cg_gt, cl_gt, cl_le, cl_eq, cl_lt, cl_ge, bi_eq0, bi_ne0, bI_eq0, Decidable.not_not, Bool.not_eq_false] at c_55
            refine w_iconst (v := 0) C dX10_clay_58 (by rfl) ?_
            refine w_iret C M dX10_clay_59 ⟨by decide, by decide⟩ ⟨_, rfl, ?_⟩
            exact Or.inr (Or.inl ⟨⟨c_8, c_19⟩, b9, rfl, YY.ex⟩)
    · try simp only [cg_ge, cg_gt, cl_gt, cl_le, cl_eq, cl_lt, cl_ge, bi_eq0, bi_ne0, bI_eq0, Decidable.not_not, Bool.not_eq_false] at c_19
      refine w_iconst (v := 1) C dX10_clay_22 (by rfl) ?_
      refine w_goto (tgt := 27) C dX10_clay_23 (by rfl) ?_
      refine w_iconst (v := 1) C dX10_clay_27 (by rfl) ?_
      refine cl_X10_88 C (m_X10_startT hl mm (by decide)) mm (by rfl) (by rfl) ⟨by decide, by decide⟩ (by rfl) dX10_clay_28 (fun z11 h11 p11 => ?_)
      obtain ⟨rfl, p11⟩ := p11
      have YY := YY.me (th2 := 1) (day2 := day) (dmp2 := dmp) (pur2 := pur) (rf2 := rf) p11
      obtain ⟨mm, mL, mk, mw, mCl, mGl, mPt, mOr, mRm, mn1, mn2, mn3⟩ := id YY
      refine w_if_ne (tgt := 58) C dX10_clay_31 (by rfl) (fun c_31 => ?_) (fun c_31 => ?_)
      · try simp only [cg_ge, cg_gt, cl_gt, cl_le, cl_eq, cl_lt, cl_ge, bi_eq0, bi_ne0, bI_eq0, Decidable.not_not, Bool.not_eq_false] at c_31
        refine w_iconst (v := 0) C dX10_clay_58 (by rfl) ?_
        refine w_iret C M dX10_clay_59 ⟨by decide, by decide⟩ ⟨_, rfl, ?_⟩
        exact Or.inl ⟨fun w => c_19 w.2, rfl, YY.ex⟩
      · exact absurd c_31 (by decide)

set_option maxHeartbeats 4000000 in
set_option maxRecDepth 100000 in
theorem lp_X10_glaze {K : KC} (C : CX K RX10 cX10_glaze 12 rm_X10_glaze) (hl : (Kl K).stackTraces = false) {g0 : GT} {m0 q : Nat} {h : HM} (f_q : h q = some (iC (Kt K 0) 5 (gI g0)))
    (kk : WW K (1, 5) 95 [some (.ref m0), some (.int g0.1), some (.int g0.2.1), some (.int g0.2.2.1), some (.int g0.2.2.2.1), some (.int g0.2.2.2.2), some (.ref q), some (.int (bi (sp_gb g0 5))), some (.ref q), some (.int (nI 5)), some (.int (nI 5)), none] [] h)
    : ∀ j : Nat, j ≤ 5 → WW K (1, 5) 54 [some (.ref m0), some (.int g0.1), some (.int g0.2.1), some (.int g0.2.2.1), some (.int g0.2.2.2.1), some (.int g0.2.2.2.2), some (.ref q), some (.int (bi (sp_gb g0 j))), some (.ref q), some (.int (nI 5)), some (.int (nI j)), none] [] h := by
  refine up_ind ?_
  intro j hj ih  
  refine w_iload C dX10_glaze_54 (by rfl) ?_
  refine w_iload C dX10_glaze_56 (by rfl) ?_
  refine w_icmp_ge (tgt := 95) C dX10_glaze_58 (by rfl) (fun c_58 => ?_) (fun c_58 => ?_)
  · have e3 : ¬ j < 5 := fun q => nI_ge q (show 5 < 2 ^ 31 by decide) c_58
    obtain rfl : j = 5 := by omega
    exact kk
  · have hj3 : j < 5 := Nat.not_le.mp (fun q => c_58 (nI_le (a := 5) q (by omega)))
    first | refine w_aload C dX10_glaze_61 (by rfl) ?_ | refine w_aloadN C dX10_glaze_61 (by rfl) ?_
    refine w_iload C dX10_glaze_63 (by rfl) ?_
    refine w_ialdn C f_q hj3 (by decide) dX10_glaze_65 ?_
    refine w_istore_11 C dX10_glaze_66 (by first | trivial | rfl) ?_
    refine w_iload C dX10_glaze_68 (by rfl) ?_
    refine w_iload C dX10_glaze_70 (by rfl) ?_
    refine w_iconst (v := 0) C dX10_glaze_72 (by rfl) ?_
    refine w_bipush (v := (60)) C dX10_glaze_73 (by rfl) ?_
    refine cl_X10_44 C (m_X10_isIn hl) (by rfl) (by rfl) ⟨by decide, by decide⟩ (by rfl) dX10_glaze_75 (fun z1 h1 p1 => ?_)
    obtain ⟨rfl, rfl⟩ := p1
    refine w_if_ne (tgt := 85) C dX10_glaze_78 (by rfl) (fun c_78 => ?_) (fun c_78 => ?_)
    · try simp only [cg_ge, cg_gt, cl_gt, cl_le, cl_eq, cl_lt, cl_ge, bi_eq0, bi_ne0, bI_eq0, Decidable.not_not, Bool.not_eq_false] at c_78
      refine w_iconst (v := 0) C dX10_glaze_85 (by rfl) ?_
      refine w_ior C dX10_glaze_86 ?_
      rw [gb_t c_78]
      refine w_istore_7 C dX10_glaze_87 (by first | trivial | rfl) ?_
      refine w_iinc_10 (v := _ + (1)) C dX10_glaze_89 (by rfl) (by first | trivial | rfl) ?_
      refine w_goto (tgt := 54) C dX10_glaze_92 (by rfl) ?_
      rw [nI_1 j]
      exact w_sub (ih hj3) (by repeat' first | exact trivial | rfl | constructor)
    · try simp only [cg_ge, cg_gt, cl_gt, cl_le, cl_eq, cl_lt, cl_ge, bi_eq0, bi_ne0, bI_eq0, Decidable.not_not, Bool.not_eq_false] at c_78
      refine w_iconst (v := 1) C dX10_glaze_81 (by rfl) ?_
      refine w_goto (tgt := 86) C dX10_glaze_82 (by rfl) ?_
      refine w_ior C dX10_glaze_86 ?_
      rw [gb_f c_78]
      refine w_istore_7 C dX10_glaze_87 (by first | trivial | rfl) ?_
      refine w_iinc_10 (v := _ + (1)) C dX10_glaze_89 (by rfl) (by first | trivial | rfl) ?_
      refine w_goto (tgt := 54) C dX10_glaze_92 (by rfl) ?_
      rw [nI_1 j]
      exact w_sub (ih hj3) (by repeat' first | exact trivial | rfl | constructor)

set_option maxHeartbeats 4000000 in
set_option maxRecDepth 100000 in
theorem m_X10_glaze {l : Launch} {D : va_G} {tc : Nat → ClassId} (hl : l.stackTraces = false) {h : HM} {m0 kl wk : Nat} {L : Nat → Nat} {E : Nat → Nat} {M : Nat → Int32} {ca : Nat → Nat} {ga : Nat → Nat} {pa : Nat → Nat} {oa : Nat → Nat} {ra : Nat → Nat} {th : Int32} {nC : Nat} {cs : Nat → Int32 × Int32} {nG : Nat} {gs : Nat → GT} {nP : Nat} {ps : Nat → PT} {nO : Nat} {os : Nat → OT} {nR : Nat} {rs : Nat → RT} {k : KT} {dmp : Int32} {day : Int32} {pur : Int32} {rf : Int32} (YY : Mh tc m0 kl wk L E M ca ga pa oa ra th nC cs nG gs nP ps nO os nR rs k dmp day pur rf h) (bG : nG ≤ 4) {g0 : GT} :
    CT l D tc yX10_glaze cX10_glaze 12 (some FieldType.int) rm_X10_glaze [.ref m0, .int g0.1, .int g0.2.1, .int g0.2.2.1, .int g0.2.2.2.1, .int g0.2.2.2.2] h (rI (fun z h' => (¬ glzOk g0 ∧ z = 0 ∧ MhE tc m0 kl wk 1 nC cs nG gs nP ps nO os nR rs k dmp day pur rf h') ∨ (glzOk g0 ∧ ¬ nG < 4 ∧ z = 0 ∧ MhE tc m0 kl wk 2 nC cs nG gs nP ps nO os nR rs k dmp day pur rf h') ∨ (glzOk g0 ∧ nG < 4 ∧ z = nI nG ∧ MhE tc m0 kl wk 0 nC cs (nG + 1) (vf_upd gs nG g0) nP ps nO os nR rs k dmp day pur rf h'))) := by
  refine CT.start [some (.ref m0), some (.int g0.1), some (.int g0.2.1), some (.int g0.2.2.1), some (.int g0.2.2.2.1), some (.int g0.2.2.2.2), none, none, none, none, none, none] (by decide) hl rfl rfl (fun K C M => ?_)
  obtain ⟨rfl, rfl, rfl, -⟩ := id M
  have C : CX K RX10 cX10_glaze 12 rm_X10_glaze := C
  obtain ⟨mm, mL, mk, mw, mCl, mGl, mPt, mOr, mRm, mn1, mn2, mn3⟩ := id YY
  refine w_iconst (v := 5) C dX10_glaze_0 (by rfl) ?_
  have YY0 := YY
  refine w_newain C gw_1139 (by decide) (by rfl) (by decide) (by decide) (by decide) dX10_glaze_1 (fun q h1 n1 u1 => ?_)
  have f_q := u1.self
  have nq := n1
  have uq := u1
  refine w_dup C dX10_glaze_3 (by rfl) ?_
  refine w_iconst (v := 0) C dX10_glaze_4 (by rfl) ?_
  refine w_iload_n C dX10_glaze_5 (by rfl) ?_
  refine w_iastn (j := 0) C f_q (by decide) (by decide) dX10_glaze_6 (fun h6 u6 => ?_)
  have f_q := u6.self
  refine w_dup C dX10_glaze_7 (by rfl) ?_
  refine w_iconst (v := 1) C dX10_glaze_8 (by rfl) ?_
  refine w_iload_n C dX10_glaze_9 (by rfl) ?_
  refine w_iastn (j := 1) C f_q (by decide) (by decide) dX10_glaze_10 (fun h10 u10 => ?_)
  have f_q := u10.self
  refine w_dup C dX10_glaze_11 (by rfl) ?_
  refine w_iconst (v := 2) C dX10_glaze_12 (by rfl) ?_
  refine w_iload_n C dX10_glaze_13 (by rfl) ?_
  refine w_iastn (j := 2) C f_q (by decide) (by decide) dX10_glaze_14 (fun h14 u14 => ?_)
  have f_q := u14.self
  refine w_dup C dX10_glaze_15 (by rfl) ?_
  refine w_iconst (v := 3) C dX10_glaze_16 (by rfl) ?_
  refine w_iload C dX10_glaze_17 (by rfl) ?_
  refine w_iastn (j := 3) C f_q (by decide) (by decide) dX10_glaze_19 (fun h19 u19 => ?_)
  have f_q := u19.self
  refine w_dup C dX10_glaze_20 (by rfl) ?_
  refine w_iconst (v := 4) C dX10_glaze_21 (by rfl) ?_
  refine w_iload C dX10_glaze_22 (by rfl) ?_
  refine w_iastn (j := 4) C f_q (by decide) (by decide) dX10_glaze_24 (fun h24 u24 => ?_)
  have f_q := u24.self
  have fr0 := Fr.fresh (S := [q]) (((uq.frN nq).sub (by simp)).tr (u6.fr.tr (u10.fr.tr (u14.fr.tr (u19.fr.tr (u24.fr)))))) (by intro b m; simp at m; rw [m]; exact nq)
  have YY := YY0.fr0 fr0
  obtain ⟨mm, mL, mk, mw, mCl, mGl, mPt, mOr, mRm, mn1, mn2, mn3⟩ := id YY
  first | refine w_astore_6 C dX10_glaze_25 (by first | trivial | rfl) ?_ | refine w_astore_6N C dX10_glaze_25 (by first | trivial | rfl) ?_
  refine w_iload_n C dX10_glaze_27 (by rfl) ?_
  refine w_if_ne (tgt := 39) C dX10_glaze_28 (by rfl) (fun c_28 => ?_) (fun c_28 => ?_)
  · try simp only [cg_ge, cg_gt, cl_gt, cl_le, cl_eq, cl_lt, cl_ge, bi_eq0, bi_ne0, bI_eq0, Decidable.not_not, Bool.not_eq_false] at c_28
    refine w_iconst (v := 0) C dX10_glaze_39 (by rfl) ?_
    rw [show (0 : Int32) = bi (sp_gb g0 0) from by rw [show sp_gb g0 0 = false from decide_eq_false (fun w => c_28 w.1)]; rfl]
    refine w_istore_7 C dX10_glaze_40 (by first | trivial | rfl) ?_
    first | refine w_aload C dX10_glaze_42 (by rfl) ?_ | refine w_aloadN C dX10_glaze_42 (by rfl) ?_
    first | refine w_astore_8 C dX10_glaze_44 (by first | trivial | rfl) ?_ | refine w_astore_8N C dX10_glaze_44 (by first | trivial | rfl) ?_
    first | refine w_aload C dX10_glaze_46 (by rfl) ?_ | refine w_aloadN C dX10_glaze_46 (by rfl) ?_
    refine w_alen C 0 f_q (by rfl) dX10_glaze_48 ?_
    refine w_istore_9 C dX10_glaze_49 (by first | trivial | rfl) ?_
    refine w_iconst (v := 0) C dX10_glaze_51 (by rfl) ?_
    refine w_istore_10 C dX10_glaze_52 (by first | trivial | rfl) ?_
    refine lp_X10_glaze C hl f_q ?_ 0 (by decide)
    first | refine w_aload_n C dX10_glaze_95 (by rfl) ?_ | refine w_aload_nN C dX10_glaze_95 (by rfl) ?_
    refine w_iload C dX10_glaze_96 (by rfl) ?_
    refine w_iconst (v := 1) C dX10_glaze_98 (by rfl) ?_
    cases hb5 : sp_gb g0 5
    · rw [bi_f]
      refine cl_X10_88 C (m_X10_startF hl mm) mm (by rfl) (by rfl) ⟨by decide, by decide⟩ (by rfl) dX10_glaze_99 (fun z2 h2 p2 => ?_)
      obtain ⟨rfl, p2⟩ := p2
      obtain ⟨fr0, nn9⟩ := swap9 fr0 p2 YY0.1
      have nq := nn9 q nq
      have f_q := p2.oth f_q mm (by intro v; simp at v)
      have YY0 := YY0.me (th2 := 0) (day2 := day) (dmp2 := dmp) (pur2 := pur) (rf2 := rf) (h' := hu _ _ _) rfl
      have YY := YY0.fr0 fr0
      obtain ⟨mm, mL, mk, mw, mCl, mGl, mPt, mOr, mRm, mn1, mn2, mn3⟩ := id YY
      refine w_if_ne (tgt := 129) C dX10_glaze_102 (by rfl) (fun c_102 => ?_) (fun c_102 => ?_)
      · exact absurd c_102 (by decide)
      · try simp only [cg_ge, cg_gt, cl_gt, cl_le, cl_eq, cl_lt, cl_ge, bi_eq0, bi_ne0, bI_eq0, Decidable.not_not, Bool.not_eq_false] at c_102
        first | refine w_aload_n C dX10_glaze_105 (by rfl) ?_ | refine w_aload_nN C dX10_glaze_105 (by rfl) ?_
        first | refine w_aload_n C dX10_glaze_106 (by rfl) ?_ | refine w_aload_nN C dX10_glaze_106 (by rfl) ?_
        refine gf_X10_16 C mm dX10_glaze_107 ?_
        refine cl_X10_40 C (m_Jx4a65c_size_8abf5 hl YY.lg) YY.lg (by rfl) (by rfl) ⟨by decide, by decide⟩ (by rfl) dX10_glaze_110 (fun z3 h3 p3 => ?_)
        obtain ⟨rfl, rfl⟩ := p3
        refine w_iconst (v := 4) C dX10_glaze_113 (by rfl) ?_
        refine w_icmp_ne (tgt := 121) C dX10_glaze_114 (by rfl) (fun c_114 => ?_) (fun c_114 => ?_)
        · have b9 : nG < 4 := by
            have : ¬ nG = 4 := fun w => c_114 (by rw [w]; rfl)
            omega
          refine w_iconst (v := 0) C dX10_glaze_121 (by rfl) ?_
          refine w_iconst (v := 2) C dX10_glaze_122 (by rfl) ?_
          refine cl_X10_36 C (m_X10_refuseF hl mm) mm (by rfl) (by rfl) ⟨by decide, by decide⟩ (by rfl) dX10_glaze_123 (fun z4 h4 p4 => ?_)
          obtain ⟨rfl, rfl⟩ := p4
          refine w_if_eq (tgt := 131) C dX10_glaze_126 (by rfl) (fun c_126 => ?_) (fun c_126 => ?_)
          · try simp only [cg_ge, cg_gt, cl_gt, cl_le, cl_eq, cl_lt, cl_ge, bi_eq0, bi_ne0, bI_eq0, Decidable.not_not, Bool.not_eq_false] at c_126
            first | refine w_aload_n C dX10_glaze_131 (by rfl) ?_ | refine w_aload_nN C dX10_glaze_131 (by rfl) ?_
            refine gf_X10_16 C mm dX10_glaze_132 ?_
            first | refine w_aload C dX10_glaze_135 (by rfl) ?_ | refine w_aloadN C dX10_glaze_135 (by rfl) ?_
            refine cl_X10_91 C (m_add hl YY.lg YY.ag (Or.inl ⟨_, _, f_q⟩) (fun i hi => Or.inl ⟨_, _, mGl i hi⟩) (by omega)) YY.lg (by rfl) (by rfl) ⟨by decide, by decide⟩ (by rfl) dX10_glaze_137 (fun z5 h5 p5 => ?_)
            obtain ⟨rfl, el', nE, g1, g2, d9⟩ := p5
            have hx9 := (LCh.of YY.ag Fr.rfl9 nE d9).oth YY.lg f_q (by intro _ _ _ v; simp at v) (by intro _ _ _ v; simp at v)
            have YY := YY0.addG (g := g0) hx9 (fun z v => by rw [nq] at v; cases v) g1 g2 (LCh.of YY0.ag fr0 nE d9)
            obtain ⟨mm, mL, mk, mw, mCl, mGl, mPt, mOr, mRm, mn1, mn2, mn3⟩ := id YY
            refine w_pop C dX10_glaze_140 (by rfl) ?_
            first | refine w_aload_n C dX10_glaze_141 (by rfl) ?_ | refine w_aload_nN C dX10_glaze_141 (by rfl) ?_
            refine gf_X10_16 C mm dX10_glaze_142 ?_
            refine cl_X10_40 C (m_Jx4a65c_size_8abf5 hl YY.lg) YY.lg (by rfl) (by rfl) ⟨by decide, by decide⟩ (by rfl) dX10_glaze_145 (fun z6 h6 p6 => ?_)
            obtain ⟨rfl, rfl⟩ := p6
            refine w_iconst (v := 1) C dX10_glaze_148 (by rfl) ?_
            refine w_isub C dX10_glaze_149 ?_
            refine w_iret C M dX10_glaze_150 ⟨by decide, by decide⟩ ⟨_, rfl, ?_⟩
            exact Or.inr (Or.inr ⟨(gb_ok g0).mp hb5, b9, nI_s1 _, YY.ex⟩)
          · exact absurd c_126 (by decide)
        · have b9 : ¬ nG < 4 := by
            have := (nI_eq (b := 4) (by omega) (by decide)).mp c_114
            omega
          refine w_iconst (v := 1) C dX10_glaze_117 (by rfl) ?_
          refine w_goto (tgt := 122) C dX10_glaze_118 (by rfl) ?_
          refine w_iconst (v := 2) C dX10_glaze_122 (by rfl) ?_
          refine cl_X10_36 C (m_X10_refuseT hl mm (by decide)) mm (by rfl) (by rfl) ⟨by decide, by decide⟩ (by rfl) dX10_glaze_123 (fun z7 h7 p7 => ?_)
          obtain ⟨rfl, p7⟩ := p7
          have YY := YY.me (th2 := 2) (day2 := day) (dmp2 := dmp) (pur2 := pur) (rf2 := rf) p7
          obtain ⟨mm, mL, mk, mw, mCl, mGl, mPt, mOr, mRm, mn1, mn2, mn3⟩ := id YY
          refine w_if_eq (tgt := 131) C dX10_glaze_126 (by rfl) (fun c_126 => ?_) (fun c_126 => ?_)
          · exact absurd c_126 (by decide)
          · try simp only [cg_ge, cg_gt, cl_gt, cl_le, cl_eq, cl_lt, cl_ge, bi_eq0, bi_ne0, bI_eq0, Decidable.not_not, Bool.not_eq_false] at c_126
            refine w_iconst (v := 0) C dX10_glaze_129 (by rfl) ?_
            refine w_iret C M dX10_glaze_130 ⟨by decide, by decide⟩ ⟨_, rfl, ?_⟩
            exact Or.inr (Or.inl ⟨(gb_ok g0).mp hb5, b9, rfl, YY.ex⟩)
    · rw [bi_t]
      refine cl_X10_88 C (m_X10_startT hl mm (by decide)) mm (by rfl) (by rfl) ⟨by decide, by decide⟩ (by rfl) dX10_glaze_99 (fun z8 h8 p8 => ?_)
      obtain ⟨rfl, p8⟩ := p8
      obtain ⟨fr0, nn9⟩ := swap9 fr0 p8 YY0.1
      have nq := nn9 q nq
      have f_q := p8.oth f_q mm (by intro v; simp at v)
      have YY0 := YY0.me (th2 := 1) (day2 := day) (dmp2 := dmp) (pur2 := pur) (rf2 := rf) (h' := hu _ _ _) rfl
      have YY := YY0.fr0 fr0
      obtain ⟨mm, mL, mk, mw, mCl, mGl, mPt, mOr, mRm, mn1, mn2, mn3⟩ := id YY
      refine w_if_ne (tgt := 129) C dX10_glaze_102 (by rfl) (fun c_102 => ?_) (fun c_102 => ?_)
      · try simp only [cg_ge, cg_gt, cl_gt, cl_le, cl_eq, cl_lt, cl_ge, bi_eq0, bi_ne0, bI_eq0, Decidable.not_not, Bool.not_eq_false] at c_102
        refine w_iconst (v := 0) C dX10_glaze_129 (by rfl) ?_
        refine w_iret C M dX10_glaze_130 ⟨by decide, by decide⟩ ⟨_, rfl, ?_⟩
        exact Or.inl ⟨fun w => absurd (hb5.symm.trans ((gb_ok g0).mpr w)) (by decide), rfl, YY.ex⟩
      · exact absurd c_102 (by decide)
  · try simp only [cg_ge, cg_gt, cl_gt, cl_le, cl_eq, cl_lt, cl_ge, bi_eq0, bi_ne0, bI_eq0, Decidable.not_not, Bool.not_eq_false] at c_28
    refine w_iload_n C dX10_glaze_31 (by rfl) ?_
    refine w_if_ne (tgt := 39) C dX10_glaze_32 (by rfl) (fun c_32 => ?_) (fun c_32 => ?_)
    · try simp only [cg_ge, cg_gt, cl_gt, cl_le, cl_eq, cl_lt, cl_ge, bi_eq0, bi_ne0, bI_eq0, Decidable.not_not, Bool.not_eq_false] at c_32
      refine w_iconst (v := 0) C dX10_glaze_39 (by rfl) ?_
      rw [show (0 : Int32) = bi (sp_gb g0 0) from by rw [show sp_gb g0 0 = false from decide_eq_false (fun w => c_32 w.2)]; rfl]
      refine w_istore_7 C dX10_glaze_40 (by first | trivial | rfl) ?_
      first | refine w_aload C dX10_glaze_42 (by rfl) ?_ | refine w_aloadN C dX10_glaze_42 (by rfl) ?_
      first | refine w_astore_8 C dX10_glaze_44 (by first | trivial | rfl) ?_ | refine w_astore_8N C dX10_glaze_44 (by first | trivial | rfl) ?_
      first | refine w_aload C dX10_glaze_46 (by rfl) ?_ | refine w_aloadN C dX10_glaze_46 (by rfl) ?_
      refine w_alen C 0 f_q (by rfl) dX10_glaze_48 ?_
      refine w_istore_9 C dX10_glaze_49 (by first | trivial | rfl) ?_
      refine w_iconst (v := 0) C dX10_glaze_51 (by rfl) ?_
      refine w_istore_10 C dX10_glaze_52 (by first | trivial | rfl) ?_
      refine lp_X10_glaze C hl f_q ?_ 0 (by decide)
      first | refine w_aload_n C dX10_glaze_95 (by rfl) ?_ | refine w_aload_nN C dX10_glaze_95 (by rfl) ?_
      refine w_iload C dX10_glaze_96 (by rfl) ?_
      refine w_iconst (v := 1) C dX10_glaze_98 (by rfl) ?_
      cases hb5 : sp_gb g0 5
      · rw [bi_f]
        refine cl_X10_88 C (m_X10_startF hl mm) mm (by rfl) (by rfl) ⟨by decide, by decide⟩ (by rfl) dX10_glaze_99 (fun z9 h9 p9 => ?_)
        obtain ⟨rfl, p9⟩ := p9
        obtain ⟨fr0, nn9⟩ := swap9 fr0 p9 YY0.1
        have nq := nn9 q nq
        have f_q := p9.oth f_q mm (by intro v; simp at v)
        have YY0 := YY0.me (th2 := 0) (day2 := day) (dmp2 := dmp) (pur2 := pur) (rf2 := rf) (h' := hu _ _ _) rfl
        have YY := YY0.fr0 fr0
        obtain ⟨mm, mL, mk, mw, mCl, mGl, mPt, mOr, mRm, mn1, mn2, mn3⟩ := id YY
        refine w_if_ne (tgt := 129) C dX10_glaze_102 (by rfl) (fun c_102 => ?_) (fun c_102 => ?_)
        · exact absurd c_102 (by decide)
        · try simp only [cg_ge, cg_gt, cl_gt, cl_le, cl_eq, cl_lt, cl_ge, bi_eq0, bi_ne0, bI_eq0, Decidable.not_not, Bool.not_eq_false] at c_102
          first | refine w_aload_n C dX10_glaze_105 (by rfl) ?_ | refine w_aload_nN C dX10_glaze_105 (by rfl) ?_
          first | refine w_aload_n C dX10_glaze_106 (by rfl) ?_ | refine w_aload_nN C dX10_glaze_106 (by rfl) ?_
          refine gf_X10_16 C mm dX10_glaze_107 ?_
          refine cl_X10_40 C (m_Jx4a65c_size_8abf5 hl YY.lg) YY.lg (by rfl) (by rfl) ⟨by decide, by decide⟩ (by rfl) dX10_glaze_110 (fun z10 h10 p10 => ?_)
          obtain ⟨rfl, rfl⟩ := p10
          refine w_iconst (v := 4) C dX10_glaze_113 (by rfl) ?_
          refine w_icmp_ne (tgt := 121) C dX10_glaze_114 (by rfl) (fun c_114 => ?_) (fun c_114 => ?_)
          · have b9 : nG < 4 := by
              have : ¬ nG = 4 := fun w => c_114 (by rw [w]; rfl)
              omega
            refine w_iconst (v := 0) C dX10_glaze_121 (by rfl) ?_
            refine w_iconst (v := 2) C dX10_glaze_122 (by rfl) ?_
            refine cl_X10_36 C (m_X10_refuseF hl mm) mm (by rfl) (by rfl) ⟨by decide, by decide⟩ (by rfl) dX10_glaze_123 (fun z11 h11 p11 => ?_)
            obtain ⟨rfl, rfl⟩ := p11
            refine w_if_eq (tgt := 131) C dX10_glaze_126 (by rfl) (fun c_126 => ?_) (fun c_126 => ?_)
            · try simp only [cg_ge, cg_gt, cl_gt, cl_le, cl_eq, cl_lt, cl_ge, bi_eq0, bi_ne0, bI_eq0, Decidable.not_not, Bool.not_eq_false] at c_126
              first | refine w_aload_n C dX10_glaze_131 (by rfl) ?_ | refine w_aload_nN C dX10_glaze_131 (by rfl) ?_
              refine gf_X10_16 C mm dX10_glaze_132 ?_
              first | refine w_aload C dX10_glaze_135 (by rfl) ?_ | refine w_aloadN C dX10_glaze_135 (by rfl) ?_
              refine cl_X10_91 C (m_add hl YY.lg YY.ag (Or.inl ⟨_, _, f_q⟩) (fun i hi => Or.inl ⟨_, _, mGl i hi⟩) (by omega)) YY.lg (by rfl) (by rfl) ⟨by decide, by decide⟩ (by rfl) dX10_glaze_137 (fun z12 h12 p12 => ?_)
              obtain ⟨rfl, el', nE, g1, g2, d9⟩ := p12
              have hx9 := (LCh.of YY.ag Fr.rfl9 nE d9).oth YY.lg f_q (by intro _ _ _ v; simp at v) (by intro _ _ _ v; simp at v)
              have YY := YY0.addG (g := g0) hx9 (fun z v => by rw [nq] at v; cases v) g1 g2 (LCh.of YY0.ag fr0 nE d9)
              obtain ⟨mm, mL, mk, mw, mCl, mGl, mPt, mOr, mRm, mn1, mn2, mn3⟩ := id YY
              refine w_pop C dX10_glaze_140 (by rfl) ?_
              first | refine w_aload_n C dX10_glaze_141 (by rfl) ?_ | refine w_aload_nN C dX10_glaze_141 (by rfl) ?_
              refine gf_X10_16 C mm dX10_glaze_142 ?_
              refine cl_X10_40 C (m_Jx4a65c_size_8abf5 hl YY.lg) YY.lg (by rfl) (by rfl) ⟨by decide, by decide⟩ (by rfl) dX10_glaze_145 (fun z13 h13 p13 => ?_)
              obtain ⟨rfl, rfl⟩ := p13
              refine w_iconst (v := 1) C dX10_glaze_148 (by rfl) ?_
              refine w_isub C dX10_glaze_149 ?_
              refine w_iret C M dX10_glaze_150 ⟨by decide, by decide⟩ ⟨_, rfl, ?_⟩
              exact Or.inr (Or.inr ⟨(gb_ok g0).mp hb5, b9, nI_s1 _, YY.ex⟩)
            · exact absurd c_126 (by decide)
          · have b9 : ¬ nG < 4 := by
              have := (nI_eq (b := 4) (by omega) (by decide)).mp c_114
              omega
            refine w_iconst (v := 1) C dX10_glaze_117 (by rfl) ?_
            refine w_goto (tgt := 122) C dX10_glaze_118 (by rfl) ?_
            refine w_iconst (v := 2) C dX10_glaze_122 (by rfl) ?_
            refine cl_X10_36 C (m_X10_refuseT hl mm (by decide)) mm (by rfl) (by rfl) ⟨by decide, by decide⟩ (by rfl) dX10_glaze_123 (fun z14 h14 p14 => ?_)
            obtain ⟨rfl, p14⟩ := p14
            have YY := YY.me (th2 := 2) (day2 := day) (dmp2 := dmp) (pur2 := pur) (rf2 := rf) p14
            obtain ⟨mm, mL, mk, mw, mCl, mGl, mPt, mOr, mRm, mn1, mn2, mn3⟩ := id YY
            refine w_if_eq (tgt := 131) C dX10_glaze_126 (by rfl) (fun c_126 => ?_) (fun c_126 => ?_)
            · exact absurd c_126 (by decide)
            · try simp only [cg_ge, cg_gt, cl_gt, cl_le, cl_eq, cl_lt, cl_ge, bi_eq0, bi_ne0, bI_eq0, Decidable.not_not, Bool.not_eq_false] at c_126
              refine w_iconst (v := 0) C dX10_glaze_129 (by rfl) ?_
              refine w_iret C M dX10_glaze_130 ⟨by decide, by decide⟩ ⟨_, rfl, ?_⟩
              exact Or.inr (Or.inl ⟨(gb_ok g0).mp hb5, b9, rfl, YY.ex⟩)
      · rw [bi_t]
        refine cl_X10_88 C (m_X10_startT hl mm (by decide)) mm (by rfl) (by rfl) ⟨by decide, by decide⟩ (by rfl) dX10_glaze_99 (fun z15 h15 p15 => ?_)
        obtain ⟨rfl, p15⟩ := p15
        obtain ⟨fr0, nn9⟩ := swap9 fr0 p15 YY0.1
        have nq := nn9 q nq
        have f_q := p15.oth f_q mm (by intro v; simp at v)
        have YY0 := YY0.me (th2 := 1) (day2 := day) (dmp2 := dmp) (pur2 := pur) (rf2 := rf) (h' := hu _ _ _) rfl
        have YY := YY0.fr0 fr0
        obtain ⟨mm, mL, mk, mw, mCl, mGl, mPt, mOr, mRm, mn1, mn2, mn3⟩ := id YY
        refine w_if_ne (tgt := 129) C dX10_glaze_102 (by rfl) (fun c_102 => ?_) (fun c_102 => ?_)
        · try simp only [cg_ge, cg_gt, cl_gt, cl_le, cl_eq, cl_lt, cl_ge, bi_eq0, bi_ne0, bI_eq0, Decidable.not_not, Bool.not_eq_false] at c_102
          refine w_iconst (v := 0) C dX10_glaze_129 (by rfl) ?_
          refine w_iret C M dX10_glaze_130 ⟨by decide, by decide⟩ ⟨_, rfl, ?_⟩
          exact Or.inl ⟨fun w => absurd (hb5.symm.trans ((gb_ok g0).mpr w)) (by decide), rfl, YY.ex⟩
        · exact absurd c_102 (by decide)
    · try simp only [cg_ge, cg_gt, cl_gt, cl_le, cl_eq, cl_lt, cl_ge, bi_eq0, bi_ne0, bI_eq0, Decidable.not_not, Bool.not_eq_false] at c_32
      refine w_iconst (v := 1) C dX10_glaze_35 (by rfl) ?_
      refine w_goto (tgt := 40) C dX10_glaze_36 (by rfl) ?_
      rw [show (1 : Int32) = bi (sp_gb g0 0) from by rw [show sp_gb g0 0 = true from decide_eq_true ⟨c_28, c_32⟩]; rfl]
      refine w_istore_7 C dX10_glaze_40 (by first | trivial | rfl) ?_
      first | refine w_aload C dX10_glaze_42 (by rfl) ?_ | refine w_aloadN C dX10_glaze_42 (by rfl) ?_
      first | refine w_astore_8 C dX10_glaze_44 (by first | trivial | rfl) ?_ | refine w_astore_8N C dX10_glaze_44 (by first | trivial | rfl) ?_
      first | refine w_aload C dX10_glaze_46 (by rfl) ?_ | refine w_aloadN C dX10_glaze_46 (by rfl) ?_
      refine w_alen C 0 f_q (by rfl) dX10_glaze_48 ?_
      refine w_istore_9 C dX10_glaze_49 (by first | trivial | rfl) ?_
      refine w_iconst (v := 0) C dX10_glaze_51 (by rfl) ?_
      refine w_istore_10 C dX10_glaze_52 (by first | trivial | rfl) ?_
      refine lp_X10_glaze C hl f_q ?_ 0 (by decide)
      first | refine w_aload_n C dX10_glaze_95 (by rfl) ?_ | refine w_aload_nN C dX10_glaze_95 (by rfl) ?_
      refine w_iload C dX10_glaze_96 (by rfl) ?_
      refine w_iconst (v := 1) C dX10_glaze_98 (by rfl) ?_
      cases hb5 : sp_gb g0 5
      · rw [bi_f]
        refine cl_X10_88 C (m_X10_startF hl mm) mm (by rfl) (by rfl) ⟨by decide, by decide⟩ (by rfl) dX10_glaze_99 (fun z16 h16 p16 => ?_)
        obtain ⟨rfl, p16⟩ := p16
        obtain ⟨fr0, nn9⟩ := swap9 fr0 p16 YY0.1
        have nq := nn9 q nq
        have f_q := p16.oth f_q mm (by intro v; simp at v)
        have YY0 := YY0.me (th2 := 0) (day2 := day) (dmp2 := dmp) (pur2 := pur) (rf2 := rf) (h' := hu _ _ _) rfl
        have YY := YY0.fr0 fr0
        obtain ⟨mm, mL, mk, mw, mCl, mGl, mPt, mOr, mRm, mn1, mn2, mn3⟩ := id YY
        refine w_if_ne (tgt := 129) C dX10_glaze_102 (by rfl) (fun c_102 => ?_) (fun c_102 => ?_)
        · exact absurd c_102 (by decide)
        · try simp only [cg_ge, cg_gt, cl_gt, cl_le, cl_eq, cl_lt, cl_ge, bi_eq0, bi_ne0, bI_eq0, Decidable.not_not, Bool.not_eq_false] at c_102
          first | refine w_aload_n C dX10_glaze_105 (by rfl) ?_ | refine w_aload_nN C dX10_glaze_105 (by rfl) ?_
          first | refine w_aload_n C dX10_glaze_106 (by rfl) ?_ | refine w_aload_nN C dX10_glaze_106 (by rfl) ?_
          refine gf_X10_16 C mm dX10_glaze_107 ?_
          refine cl_X10_40 C (m_Jx4a65c_size_8abf5 hl YY.lg) YY.lg (by rfl) (by rfl) ⟨by decide, by decide⟩ (by rfl) dX10_glaze_110 (fun z17 h17 p17 => ?_)
          obtain ⟨rfl, rfl⟩ := p17
          refine w_iconst (v := 4) C dX10_glaze_113 (by rfl) ?_
          refine w_icmp_ne (tgt := 121) C dX10_glaze_114 (by rfl) (fun c_114 => ?_) (fun c_114 => ?_)
          · have b9 : nG < 4 := by
              have : ¬ nG = 4 := fun w => c_114 (by rw [w]; rfl)
              omega
            refine w_iconst (v := 0) C dX10_glaze_121 (by rfl) ?_
            refine w_iconst (v := 2) C dX10_glaze_122 (by rfl) ?_
            refine cl_X10_36 C (m_X10_refuseF hl mm) mm (by rfl) (by rfl) ⟨by decide, by decide⟩ (by rfl) dX10_glaze_123 (fun z18 h18 p18 => ?_)
            obtain ⟨rfl, rfl⟩ := p18
            refine w_if_eq (tgt := 131) C dX10_glaze_126 (by rfl) (fun c_126 => ?_) (fun c_126 => ?_)
            · try simp only [cg_ge, cg_gt, cl_gt, cl_le, cl_eq, cl_lt, cl_ge, bi_eq0, bi_ne0, bI_eq0, Decidable.not_not, Bool.not_eq_false] at c_126
              first | refine w_aload_n C dX10_glaze_131 (by rfl) ?_ | refine w_aload_nN C dX10_glaze_131 (by rfl) ?_
              refine gf_X10_16 C mm dX10_glaze_132 ?_
              first | refine w_aload C dX10_glaze_135 (by rfl) ?_ | refine w_aloadN C dX10_glaze_135 (by rfl) ?_
              refine cl_X10_91 C (m_add hl YY.lg YY.ag (Or.inl ⟨_, _, f_q⟩) (fun i hi => Or.inl ⟨_, _, mGl i hi⟩) (by omega)) YY.lg (by rfl) (by rfl) ⟨by decide, by decide⟩ (by rfl) dX10_glaze_137 (fun z19 h19 p19 => ?_)
              obtain ⟨rfl, el', nE, g1, g2, d9⟩ := p19
              have hx9 := (LCh.of YY.ag Fr.rfl9 nE d9).oth YY.lg f_q (by intro _ _ _ v; simp at v) (by intro _ _ _ v; simp at v)
              have YY := YY0.addG (g := g0) hx9 (fun z v => by rw [nq] at v; cases v) g1 g2 (LCh.of YY0.ag fr0 nE d9)
              obtain ⟨mm, mL, mk, mw, mCl, mGl, mPt, mOr, mRm, mn1, mn2, mn3⟩ := id YY
              refine w_pop C dX10_glaze_140 (by rfl) ?_
              first | refine w_aload_n C dX10_glaze_141 (by rfl) ?_ | refine w_aload_nN C dX10_glaze_141 (by rfl) ?_
              refine gf_X10_16 C mm dX10_glaze_142 ?_
              refine cl_X10_40 C (m_Jx4a65c_size_8abf5 hl YY.lg) YY.lg (by rfl) (by rfl) ⟨by decide, by decide⟩ (by rfl) dX10_glaze_145 (fun z20 h20 p20 => ?_)
              obtain ⟨rfl, rfl⟩ := p20
              refine w_iconst (v := 1) C dX10_glaze_148 (by rfl) ?_
              refine w_isub C dX10_glaze_149 ?_
              refine w_iret C M dX10_glaze_150 ⟨by decide, by decide⟩ ⟨_, rfl, ?_⟩
              exact Or.inr (Or.inr ⟨(gb_ok g0).mp hb5, b9, nI_s1 _, YY.ex⟩)
            · exact absurd c_126 (by decide)
          · have b9 : ¬ nG < 4 := by
              have := (nI_eq (b := 4) (by omega) (by decide)).mp c_114
              omega
            refine w_iconst (v := 1) C dX10_glaze_117 (by rfl) ?_
            refine w_goto (tgt := 122) C dX10_glaze_118 (by rfl) ?_
            refine w_iconst (v := 2) C dX10_glaze_122 (by rfl) ?_
            refine cl_X10_36 C (m_X10_refuseT hl mm (by decide)) mm (by rfl) (by rfl) ⟨by decide, by decide⟩ (by rfl) dX10_glaze_123 (fun z21 h21 p21 => ?_)
            obtain ⟨rfl, p21⟩ := p21
            have YY := YY.me (th2 := 2) (day2 := day) (dmp2 := dmp) (pur2 := pur) (rf2 := rf) p21
            obtain ⟨mm, mL, mk, mw, mCl, mGl, mPt, mOr, mRm, mn1, mn2, mn3⟩ := id YY
            refine w_if_eq (tgt := 131) C dX10_glaze_126 (by rfl) (fun c_126 => ?_) (fun c_126 => ?_)
            · exact absurd c_126 (by decide)
            · try simp only [cg_ge, cg_gt, cl_gt, cl_le, cl_eq, cl_lt, cl_ge, bi_eq0, bi_ne0, bI_eq0, Decidable.not_not, Bool.not_eq_false] at c_126
              refine w_iconst (v := 0) C dX10_glaze_129 (by rfl) ?_
              refine w_iret C M dX10_glaze_130 ⟨by decide, by decide⟩ ⟨_, rfl, ?_⟩
              exact Or.inr (Or.inl ⟨(gb_ok g0).mp hb5, b9, rfl, YY.ex⟩)
      · rw [bi_t]
        refine cl_X10_88 C (m_X10_startT hl mm (by decide)) mm (by rfl) (by rfl) ⟨by decide, by decide⟩ (by rfl) dX10_glaze_99 (fun z22 h22 p22 => ?_)
        obtain ⟨rfl, p22⟩ := p22
        obtain ⟨fr0, nn9⟩ := swap9 fr0 p22 YY0.1
        have nq := nn9 q nq
        have f_q := p22.oth f_q mm (by intro v; simp at v)
        have YY0 := YY0.me (th2 := 1) (day2 := day) (dmp2 := dmp) (pur2 := pur) (rf2 := rf) (h' := hu _ _ _) rfl
        have YY := YY0.fr0 fr0
        obtain ⟨mm, mL, mk, mw, mCl, mGl, mPt, mOr, mRm, mn1, mn2, mn3⟩ := id YY
        refine w_if_ne (tgt := 129) C dX10_glaze_102 (by rfl) (fun c_102 => ?_) (fun c_102 => ?_)
        · try simp only [cg_ge, cg_gt, cl_gt, cl_le, cl_eq, cl_lt, cl_ge, bi_eq0, bi_ne0, bI_eq0, Decidable.not_not, Bool.not_eq_false] at c_102
          refine w_iconst (v := 0) C dX10_glaze_129 (by rfl) ?_
          refine w_iret C M dX10_glaze_130 ⟨by decide, by decide⟩ ⟨_, rfl, ?_⟩
          exact Or.inl ⟨fun w => absurd (hb5.symm.trans ((gb_ok g0).mpr w)) (by decide), rfl, YY.ex⟩
        · exact absurd c_102 (by decide)
