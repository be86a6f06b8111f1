/-! THE REFERENCE: UNLOAD, BEST -/
theorem cI_0 (c : Int32 × Int32) : cI c 0 = c.1 := rfl
/-- a pot's glaze goes with its state -/
def okG1 (p : PT) : Prop := qSt p.2.2 = 1 → p.2.1 = none
theorem marks_eq {me cone : Int32} {gr kg : UInt64} (hg : DF gr) (hk : DF kg) : (((if cone < me then (8 : Int32) else 0) ||| (if me + 2 < cone then 16 else 0)) ||| (if dgt (FP.dsub gr kg) 4611686018427387904 then 32 else 0)) ||| (if dlt (FP.dsub gr kg) 13835058055282163712 then 64 else 0) = sp_marks me gr kg cone := by
  unfold sp_marks
  rw [Int32.zero_or]
  congr 1
  by_cases h : dlt (FP.dsub gr kg) 13835058055282163712
  · rw [if_pos h, if_pos ((shiv_turn hg hk).mp h)]
  · rw [if_neg h, if_neg (fun w => h ((shiv_turn hg hk).mpr w))]
theorem firep_n {cs : Nat → Int32 × Int32} {gs : Nat → GT} {cone : Int32} {p : PT} (h1 : ¬ qSt p.2.2 = 1) (h3 : ¬ qSt p.2.2 = 3) : sp_firep cs gs cone p = p.2.2 := by
  unfold sp_firep
  split
  · exact fireN_no (fun w => by rcases w with w | w; exact h1 w.1; exact h3 w.1)
  · exact fireG_no (fun w => by rcases w with w | w; exact h1 w.1; exact h3 w.1)
theorem firep_b {cs : Nat → Int32 × Int32} {gs : Nat → GT} {cone : Int32} {p : PT} (h : qSt p.2.2 = 1 ∨ qSt p.2.2 = 3) (ht : 1 ≤ (cs p.1).1) (g : (cs p.1).1 < cone) : sp_firep cs gs cone p = (qWd p.2.2, qHg p.2.2, qWl p.2.2, 5, qWa p.2.2, qCv p.2.2, qSm p.2.2, qMk p.2.2 ||| 4, qSh p.2.2, qCe p.2.2) := by
  have h1 := Int32.le_iff_toInt_le.mp ht
  have h2 := Int32.lt_iff_toInt_lt.mp g
  have e1 : (1 : Int32).toInt = 1 := by decide
  have e2 : (2 : Int32).toInt = 2 := by decide
  have hf : (qSt p.2.2 = 1 ∧ 2 ≤ cone) ∨ (qSt p.2.2 = 3 ∧ 1 ≤ cone) := by
    rcases h with h | h
    · exact Or.inl ⟨h, Int32.le_iff_toInt_le.mpr (by omega)⟩
    · exact Or.inr ⟨h, Int32.le_iff_toInt_le.mpr (by omega)⟩
  unfold sp_firep
  split
  · exact fireN_b hf g
  · exact fireG_b hf g
theorem firep_1 {cs : Nat → Int32 × Int32} {gs : Nat → GT} {cone : Int32} {p : PT} (h : qSt p.2.2 = 1) (hn : p.2.1 = none) (g : ¬ (cs p.1).1 < cone) : sp_firep cs gs cone p = (qWd p.2.2, qHg p.2.2, qWl p.2.2, (if 2 ≤ cone then 2 else 1), qWa p.2.2, qCv p.2.2, qSm p.2.2, qMk p.2.2, qSh p.2.2, qCe p.2.2) := by
  unfold sp_firep
  rw [hn]
  by_cases w : 2 ≤ cone
  · rw [if_pos w]; exact fireN_k (Or.inl ⟨h, w⟩) g
  · rw [if_neg w]
    refine (fireN_no (fun v => by rcases v with v | v; exact w v.2; rw [h] at v; exact absurd v.1 (by decide))).trans ?_
    rw [← h]
theorem firep_3 {cs : Nat → Int32 × Int32} {gs : Nat → GT} {cone : Int32} {p : PT} {g0 : Nat} (h : qSt p.2.2 = 3) (hn : p.2.1 = some g0) (w : 1 ≤ cone) (g : ¬ (cs p.1).1 < cone) : sp_firep cs gs cone p = (qWd p.2.2, qHg p.2.2, qWl p.2.2, 4, qWa p.2.2, qCv p.2.2, qSm p.2.2, qMk p.2.2 ||| sp_marks (sp_melts (gs g0)) (sp_growth (gs g0)) (sp_cg (cs p.1).2) cone, qSh p.2.2, qCe p.2.2) := by
  unfold sp_firep
  rw [hn]
  exact fireG_k (Or.inr ⟨h, w⟩) g
theorem firep_30 {cs : Nat → Int32 × Int32} {gs : Nat → GT} {cone : Int32} {p : PT} (h : qSt p.2.2 = 3) (w : ¬ 1 ≤ cone) : sp_firep cs gs cone p = p.2.2 := by
  have hf : ¬ ((qSt p.2.2 = 1 ∧ 2 ≤ cone) ∨ (qSt p.2.2 = 3 ∧ 1 ≤ cone)) := fun v => by
    rcases v with v | v
    · rw [h] at v; exact absurd v.1 (by decide)
    · exact w v.2
  unfold sp_firep
  split
  · exact fireN_no hf
  · exact fireG_no hf
/-- what is known of the clays -/
def okCl (nC : Nat) (cs : Nat → Int32 × Int32) : Prop := ∀ i, i < nC → 1 ≤ (cs i).1 ∧ 8 ≤ (cs i).2.toInt ∧ (cs i).2.toInt ≤ 40

set_option maxHeartbeats 4000000 in
set_option maxRecDepth 100000 in
theorem m_X10_finish {l : Launch} {D : va_G} {tc : Nat → ClassId} (hl : l.stackTraces = false) {h : HM} {m0 kl wk : Nat} {L : Nat → Nat} {E : Nat → Nat} {M : Nat → Int32} {ca : Nat → Nat} {ga : Nat → Nat} {pa : Nat → Nat} {oa : Nat → Nat} {ra : Nat → Nat} {th : Int32} {nC : Nat} {cs : Nat → Int32 × Int32} {nG : Nat} {gs : Nat → GT} {nP : Nat} {ps : Nat → PT} {nO : Nat} {os : Nat → OT} {nR : Nat} {rs : Nat → RT} {k : KT} {dmp : Int32} {day : Int32} {pur : Int32} {rf : Int32} (YY : Mh tc m0 kl wk L E M ca ga pa oa ra th nC cs nG gs nP ps nO os nR rs k dmp day pur rf h) {j : Nat} {cone : Int32} (hj : j < nP) (hc : (ps j).1 < nC) (hcl : okCl nC cs) (hg : okGl nG (ps j)) (hg1 : okG1 (ps j)) (hgz : ∀ i, i < nG → glzOk (gs i)) :
    CT l D tc yX10_finish cX10_finish 6 none rm_X10_finish [.ref m0, .ref (pa j), .int cone] h (rV (fun h' => Up h (pa j) (mP ((ps j).1, (ps j).2.1, sp_firep cs gs cone (ps j))) h')) := by
  refine CT.start [some (.ref m0), some (.ref (pa j)), some (.int cone), none, none, none] (by decide) hl rfl rfl (fun K C M => ?_)
  obtain ⟨rfl, rfl, rfl, -⟩ := id M
  have C : CX K RX10 cX10_finish 6 rm_X10_finish := C
  obtain ⟨mm, mL, mk, mw, mCl, mGl, mPt, mOr, mRm, mn1, mn2, mn3⟩ := id YY
  have hpj := mPt j hj
  have hpj0 := hpj
  obtain ⟨ht, hq⟩ := hcl _ hc
  first | refine w_aload_n C dX10_finish_0 (by rfl) ?_ | refine w_aload_nN C dX10_finish_0 (by rfl) ?_
  refine gf_X10_124 C hpj dX10_finish_1 ?_
  refine w_iconst (v := 1) C dX10_finish_4 (by rfl) ?_
  refine w_icmp_eq (tgt := 17) C dX10_finish_5 (by rfl) (fun c_5 => ?_) (fun c_5 => ?_)
  · have h13 : qSt (ps j).2.2 = 1 ∨ qSt (ps j).2.2 = 3 := Or.inl c_5
    refine w_iload_n C dX10_finish_17 (by rfl) ?_
    first | refine w_aload_n C dX10_finish_18 (by rfl) ?_ | refine w_aload_nN C dX10_finish_18 (by rfl) ?_
    refine gf_X10_10 C mm dX10_finish_19 ?_
    first | refine w_aload_n C dX10_finish_22 (by rfl) ?_ | refine w_aload_nN C dX10_finish_22 (by rfl) ?_
    refine gf_X10_224 C hpj dX10_finish_23 ?_
    refine cl_X10_58 C (m_get hl YY.lc YY.ac hc) YY.lc (by rfl) (by rfl) ⟨by decide, by decide⟩ (by rfl) dX10_finish_26 (fun z1 h1 p1 => ?_)
    obtain ⟨rfl, rfl⟩ := p1
    refine w_castI C (mCl _ hc) gw_1313 dX10_finish_29 ?_
    refine w_iconst (v := 0) C dX10_finish_32 (by rfl) ?_
    refine w_ialdn (j := 0) C (mCl _ hc) (by decide) (by decide) dX10_finish_33 ?_
    rw [cI_0]
    refine w_icmp_le (tgt := 45) C dX10_finish_34 (by rfl) (fun c_34 => ?_) (fun c_34 => ?_)
    · have c_34 : ¬ (cs (ps j).1).1 < cone := Int32.not_lt.mpr c_34
      first | refine w_aload_n C dX10_finish_45 (by rfl) ?_ | refine w_aload_nN C dX10_finish_45 (by rfl) ?_
      refine gf_X10_124 C hpj dX10_finish_46 ?_
      refine w_iconst (v := 1) C dX10_finish_49 (by rfl) ?_
      refine w_icmp_ne (tgt := 70) C dX10_finish_50 (by rfl) (fun c_50 => ?_) (fun c_50 => ?_)
      · exact absurd c_5 c_50
      · first | refine w_aload_n C dX10_finish_53 (by rfl) ?_ | refine w_aload_nN C dX10_finish_53 (by rfl) ?_
        refine w_iload_n C dX10_finish_54 (by rfl) ?_
        refine w_iconst (v := 2) C dX10_finish_55 (by rfl) ?_
        refine w_icmp_lt (tgt := 63) C dX10_finish_56 (by rfl) (fun c_56 => ?_) (fun c_56 => ?_)
        · have c_56 : ¬ 2 ≤ cone := Int32.not_le.mpr c_56
          refine w_iconst (v := 1) C dX10_finish_63 (by rfl) ?_
          refine pf_X10_124 C hpj dX10_finish_64 (fun h2 u2 => ?_)
          have hpj := u2.self
          refine w_goto (tgt := 174) C dX10_finish_67 (by rfl) ?_
          refine w_vret C M dX10_finish_174 ⟨by decide, by decide⟩ ⟨rfl, ?_⟩
          rw [firep_1 c_50 (hg1 c_50) c_34]
          exact u2.to (by simp only [c_56, if_true, if_false]; rfl)
        · have c_56 : 2 ≤ cone := Int32.not_lt.mp c_56
          refine w_iconst (v := 2) C dX10_finish_59 (by rfl) ?_
          refine w_goto (tgt := 64) C dX10_finish_60 (by rfl) ?_
          refine pf_X10_124 C hpj dX10_finish_64 (fun h3 u3 => ?_)
          have hpj := u3.self
          refine w_goto (tgt := 174) C dX10_finish_67 (by rfl) ?_
          refine w_vret C M dX10_finish_174 ⟨by decide, by decide⟩ ⟨rfl, ?_⟩
          rw [firep_1 c_50 (hg1 c_50) c_34]
          exact u3.to (by simp only [c_56, if_true, if_false]; rfl)
    · have c_34 : (cs (ps j).1).1 < cone := Int32.not_le.mp c_34
      first | refine w_aload_n C dX10_finish_37 (by rfl) ?_ | refine w_aload_nN C dX10_finish_37 (by rfl) ?_
      refine w_iconst (v := 4) C dX10_finish_38 (by rfl) ?_
      refine cl_X10_227 C (m_X9_fail hl hpj) hpj (by rfl) (by rfl) ⟨by decide, by decide⟩ (by rfl) dX10_finish_39 (fun h4 p4 => ?_)
      have hpj := p4.self
      refine w_goto (tgt := 174) C dX10_finish_42 (by rfl) ?_
      refine w_vret C M dX10_finish_174 ⟨by decide, by decide⟩ ⟨rfl, ?_⟩
      rw [firep_b h13 ht c_34]
      exact p4
  · first | refine w_aload_n C dX10_finish_8 (by rfl) ?_ | refine w_aload_nN C dX10_finish_8 (by rfl) ?_
    refine gf_X10_124 C hpj dX10_finish_9 ?_
    refine w_iconst (v := 3) C dX10_finish_12 (by rfl) ?_
    refine w_icmp_eq (tgt := 17) C dX10_finish_13 (by rfl) (fun c_13 => ?_) (fun c_13 => ?_)
    · have h13 : qSt (ps j).2.2 = 1 ∨ qSt (ps j).2.2 = 3 := Or.inr c_13
      refine w_iload_n C dX10_finish_17 (by rfl) ?_
      first | refine w_aload_n C dX10_finish_18 (by rfl) ?_ | refine w_aload_nN C dX10_finish_18 (by rfl) ?_
      refine gf_X10_10 C mm dX10_finish_19 ?_
      first | refine w_aload_n C dX10_finish_22 (by rfl) ?_ | refine w_aload_nN C dX10_finish_22 (by rfl) ?_
      refine gf_X10_224 C hpj dX10_finish_23 ?_
      refine cl_X10_58 C (m_get hl YY.lc YY.ac hc) YY.lc (by rfl) (by rfl) ⟨by decide, by decide⟩ (by rfl) dX10_finish_26 (fun z5 h5 p5 => ?_)
      obtain ⟨rfl, rfl⟩ := p5
      refine w_castI C (mCl _ hc) gw_1313 dX10_finish_29 ?_
      refine w_iconst (v := 0) C dX10_finish_32 (by rfl) ?_
      refine w_ialdn (j := 0) C (mCl _ hc) (by decide) (by decide) dX10_finish_33 ?_
      rw [cI_0]
      refine w_icmp_le (tgt := 45) C dX10_finish_34 (by rfl) (fun c_34 => ?_) (fun c_34 => ?_)
      · have c_34 : ¬ (cs (ps j).1).1 < cone := Int32.not_lt.mpr c_34
        first | refine w_aload_n C dX10_finish_45 (by rfl) ?_ | refine w_aload_nN C dX10_finish_45 (by rfl) ?_
        refine gf_X10_124 C hpj dX10_finish_46 ?_
        refine w_iconst (v := 1) C dX10_finish_49 (by rfl) ?_
        refine w_icmp_ne (tgt := 70) C dX10_finish_50 (by rfl) (fun c_50 => ?_) (fun c_50 => ?_)
        · obtain ⟨g, hgs⟩ := hg.2 (Or.inl (by rcases h13 with v | v; exact absurd v c_50; exact v))
          have h3 : qSt (ps j).2.2 = 3 := by rcases h13 with v | v; exact absurd v c_50; exact v
          have hgn := hg.1 g hgs
          obtain ⟨eg, -⟩ := col_s (gs := gs) hgs
          obtain ⟨gN, gF, -, -⟩ := glz_all (hgz g hgn)
          have cF : DF (sp_cg (cs (ps j).1).2) := cg_fin hq
          refine w_iload_n C dX10_finish_70 (by rfl) ?_
          refine w_iconst (v := 1) C dX10_finish_71 (by rfl) ?_
          refine w_icmp_lt (tgt := 174) C dX10_finish_72 (by rfl) (fun c_72 => ?_) (fun c_72 => ?_)
          · have c_72 : ¬ 1 ≤ cone := Int32.not_le.mpr c_72
            refine w_vret C M dX10_finish_174 ⟨by decide, by decide⟩ ⟨rfl, ?_⟩
            rw [firep_30 h3 c_72]
            exact (hu_id hpj).symm
          · have c_72 : 1 ≤ cone := Int32.not_lt.mp c_72
            first | refine w_aload_n C dX10_finish_75 (by rfl) ?_ | refine w_aload_nN C dX10_finish_75 (by rfl) ?_
            refine w_iconst (v := 4) C dX10_finish_76 (by rfl) ?_
            refine pf_X10_124 C hpj dX10_finish_77 (fun h6 u6 => ?_)
            have hpj := u6.self
            have u77 := u6
            have YY := YY.pot hj (p := ((ps j).1, (ps j).2.1, (qWd (ps j).2.2, qHg (ps j).2.2, qWl (ps j).2.2, 4, qWa (ps j).2.2, qCv (ps j).2.2, qSm (ps j).2.2, qMk (ps j).2.2, qSh (ps j).2.2, qCe (ps j).2.2))) u6
            obtain ⟨mm, mL, mk, mw, mCl, mGl, mPt, mOr, mRm, mn1, mn2, mn3⟩ := id YY
            first | refine w_aload_n C dX10_finish_80 (by rfl) ?_ | refine w_aload_nN C dX10_finish_80 (by rfl) ?_
            first | refine w_aload_n C dX10_finish_81 (by rfl) ?_ | refine w_aload_nN C dX10_finish_81 (by rfl) ?_
            refine gf_X10_144 C hpj dX10_finish_82 ?_
            rw [eg]
            refine cl_X10_147 C (m_X10_melts hl YY hgn (hgz g hgn)) mm (by rfl) (by rfl) ⟨by decide, by decide⟩ (by rfl) dX10_finish_85 (fun z7 h7 p7 => ?_)
            obtain ⟨rfl, rfl⟩ := p7
            refine w_istore_3 C dX10_finish_88 (by first | trivial | rfl) ?_
            first | refine w_aload_n C dX10_finish_89 (by rfl) ?_ | refine w_aload_nN C dX10_finish_89 (by rfl) ?_
            first | refine w_aload_n C dX10_finish_90 (by rfl) ?_ | refine w_aload_nN C dX10_finish_90 (by rfl) ?_
            refine gf_X10_144 C hpj dX10_finish_91 ?_
            rw [eg]
            refine cl_X10_230 C (m_X10_growth hl YY hgn gN) mm (by rfl) (by rfl) ⟨by decide, by decide⟩ (by rfl) dX10_finish_94 (fun z8 h8 p8 => ?_)
            obtain ⟨rfl, rfl⟩ := p8
            first | refine w_aload_n C dX10_finish_97 (by rfl) ?_ | refine w_aload_nN C dX10_finish_97 (by rfl) ?_
            first | refine w_aload_n C dX10_finish_98 (by rfl) ?_ | refine w_aload_nN C dX10_finish_98 (by rfl) ?_
            refine gf_X10_224 C hpj dX10_finish_99 ?_
            refine cl_X10_234 C (m_X10_growthOf hl YY hc hq) mm (by rfl) (by rfl) ⟨by decide, by decide⟩ (by rfl) dX10_finish_102 (fun z9 h9 p9 => ?_)
            obtain ⟨rfl, rfl⟩ := p9
            refine w_dsub C dX10_finish_105 (nn_of (dsub_n gF.n cF)) ?_
            refine w_dstore_4 C dX10_finish_106 (by first | trivial | rfl) ?_
            first | refine w_aload_n C dX10_finish_108 (by rfl) ?_ | refine w_aload_nN C dX10_finish_108 (by rfl) ?_
            refine w_dup C dX10_finish_109 (by rfl) ?_
            refine gf_X10_237 C hpj dX10_finish_110 ?_
            refine w_iload_n C dX10_finish_113 (by rfl) ?_
            refine w_iload_n C dX10_finish_114 (by rfl) ?_
            refine w_icmp_ge (tgt := 123) C dX10_finish_115 (by rfl) (fun c_115 => ?_) (fun c_115 => ?_)
            · have c_115 : ¬ cone < sp_melts (gs g) := Int32.not_lt.mpr c_115
              refine w_iconst (v := 0) C dX10_finish_123 (by rfl) ?_
              refine w_iload_n C dX10_finish_124 (by rfl) ?_
              refine w_iload_n C dX10_finish_125 (by rfl) ?_
              refine w_iconst (v := 2) C dX10_finish_126 (by rfl) ?_
              refine w_iadd C dX10_finish_127 ?_
              refine w_icmp_le (tgt := 136) C dX10_finish_128 (by rfl) (fun c_128 => ?_) (fun c_128 => ?_)
              · have c_128 : ¬ sp_melts (gs g) + 2 < cone := Int32.not_lt.mpr c_128
                refine w_iconst (v := 0) C dX10_finish_136 (by rfl) ?_
                refine w_ior C dX10_finish_137 ?_
                refine w_dload C dX10_finish_138 (by rfl) ?_
                refine lc_X10_84 C dX10_finish_140 ?_
                refine w_dcmp C dX10_finish_143 ?_
                refine w_if_le (tgt := 152) C dX10_finish_144 (by rfl) (fun c_144 => ?_) (fun c_144 => ?_)
                · try simp only [cg_ge, cg_gt, cl_gt, cl_le, cl_eq, cl_lt, cl_ge, bi_eq0, bi_ne0, bI_eq0, Decidable.not_not, Bool.not_eq_false] at c_144
                  refine w_iconst (v := 0) C dX10_finish_152 (by rfl) ?_
                  refine w_ior C dX10_finish_153 ?_
                  refine w_dload C dX10_finish_154 (by rfl) ?_
                  refine lc_X10_240 C dX10_finish_156 ?_
                  refine w_dcmp C dX10_finish_159 ?_
                  refine w_if_ge (tgt := 168) C dX10_finish_160 (by rfl) (fun c_160 => ?_) (fun c_160 => ?_)
                  · try simp only [cg_ge, cg_gt, cl_gt, cl_le, cl_eq, cl_lt, cl_ge, bi_eq0, bi_ne0, bI_eq0, Decidable.not_not, Bool.not_eq_false] at c_160
                    refine w_iconst (v := 0) C dX10_finish_168 (by rfl) ?_
                    refine w_ior C dX10_finish_169 ?_
                    refine w_ior C dX10_finish_170 ?_
                    refine pf_X10_237 C hpj dX10_finish_171 (fun h10 u10 => ?_)
                    have hpj := u10.self
                    refine w_vret C M dX10_finish_174 ⟨by decide, by decide⟩ ⟨rfl, ?_⟩
                    rw [firep_3 h3 hgs c_72 c_34, ← marks_eq gF cF]
                    exact (u6.tr u10).to (by simp only [dlt, dgt, c_115, c_128, c_144, c_160, if_true, if_false, not_true_eq_false, not_false_eq_true]; rfl)
                  · try simp only [cg_ge, cg_gt, cl_gt, cl_le, cl_eq, cl_lt, cl_ge, bi_eq0, bi_ne0, bI_eq0, Decidable.not_not, Bool.not_eq_false] at c_160
                    refine w_bipush (v := (64)) C dX10_finish_163 (by rfl) ?_
                    refine w_goto (tgt := 169) C dX10_finish_165 (by rfl) ?_
                    refine w_ior C dX10_finish_169 ?_
                    refine w_ior C dX10_finish_170 ?_
                    refine pf_X10_237 C hpj dX10_finish_171 (fun h11 u11 => ?_)
                    have hpj := u11.self
                    refine w_vret C M dX10_finish_174 ⟨by decide, by decide⟩ ⟨rfl, ?_⟩
                    rw [firep_3 h3 hgs c_72 c_34, ← marks_eq gF cF]
                    exact (u6.tr u11).to (by simp only [dlt, dgt, c_115, c_128, c_144, c_160, if_true, if_false, not_true_eq_false, not_false_eq_true]; rfl)
                · try simp only [cg_ge, cg_gt, cl_gt, cl_le, cl_eq, cl_lt, cl_ge, bi_eq0, bi_ne0, bI_eq0, Decidable.not_not, Bool.not_eq_false] at c_144
                  refine w_bipush (v := (32)) C dX10_finish_147 (by rfl) ?_
                  refine w_goto (tgt := 153) C dX10_finish_149 (by rfl) ?_
                  refine w_ior C dX10_finish_153 ?_
                  refine w_dload C dX10_finish_154 (by rfl) ?_
                  refine lc_X10_240 C dX10_finish_156 ?_
                  refine w_dcmp C dX10_finish_159 ?_
                  refine w_if_ge (tgt := 168) C dX10_finish_160 (by rfl) (fun c_160 => ?_) (fun c_160 => ?_)
                  · try simp only [cg_ge, cg_gt, cl_gt, cl_le, cl_eq, cl_lt, cl_ge, bi_eq0, bi_ne0, bI_eq0, Decidable.not_not, Bool.not_eq_false] at c_160
                    refine w_iconst (v := 0) C dX10_finish_168 (by rfl) ?_
                    refine w_ior C dX10_finish_169 ?_
                    refine w_ior C dX10_finish_170 ?_
                    refine pf_X10_237 C hpj dX10_finish_171 (fun h12 u12 => ?_)
                    have hpj := u12.self
                    refine w_vret C M dX10_finish_174 ⟨by decide, by decide⟩ ⟨rfl, ?_⟩
                    rw [firep_3 h3 hgs c_72 c_34, ← marks_eq gF cF]
                    exact (u6.tr u12).to (by simp only [dlt, dgt, c_115, c_128, c_144, c_160, if_true, if_false, not_true_eq_false, not_false_eq_true]; rfl)
                  · try simp only [cg_ge, cg_gt, cl_gt, cl_le, cl_eq, cl_lt, cl_ge, bi_eq0, bi_ne0, bI_eq0, Decidable.not_not, Bool.not_eq_false] at c_160
                    refine w_bipush (v := (64)) C dX10_finish_163 (by rfl) ?_
                    refine w_goto (tgt := 169) C dX10_finish_165 (by rfl) ?_
                    refine w_ior C dX10_finish_169 ?_
                    refine w_ior C dX10_finish_170 ?_
                    refine pf_X10_237 C hpj dX10_finish_171 (fun h13 u13 => ?_)
                    have hpj := u13.self
                    refine w_vret C M dX10_finish_174 ⟨by decide, by decide⟩ ⟨rfl, ?_⟩
                    rw [firep_3 h3 hgs c_72 c_34, ← marks_eq gF cF]
                    exact (u6.tr u13).to (by simp only [dlt, dgt, c_115, c_128, c_144, c_160, if_true, if_false, not_true_eq_false, not_false_eq_true]; rfl)
              · have c_128 : sp_melts (gs g) + 2 < cone := Int32.not_le.mp c_128
                refine w_bipush (v := (16)) C dX10_finish_131 (by rfl) ?_
                refine w_goto (tgt := 137) C dX10_finish_133 (by rfl) ?_
                refine w_ior C dX10_finish_137 ?_
                refine w_dload C dX10_finish_138 (by rfl) ?_
                refine lc_X10_84 C dX10_finish_140 ?_
                refine w_dcmp C dX10_finish_143 ?_
                refine w_if_le (tgt := 152) C dX10_finish_144 (by rfl) (fun c_144 => ?_) (fun c_144 => ?_)
                · try simp only [cg_ge, cg_gt, cl_gt, cl_le, cl_eq, cl_lt, cl_ge, bi_eq0, bi_ne0, bI_eq0, Decidable.not_not, Bool.not_eq_false] at c_144
                  refine w_iconst (v := 0) C dX10_finish_152 (by rfl) ?_
                  refine w_ior C dX10_finish_153 ?_
                  refine w_dload C dX10_finish_154 (by rfl) ?_
                  refine lc_X10_240 C dX10_finish_156 ?_
                  refine w_dcmp C dX10_finish_159 ?_
                  refine w_if_ge (tgt := 168) C dX10_finish_160 (by rfl) (fun c_160 => ?_) (fun c_160 => ?_)
                  · try simp only [cg_ge, cg_gt, cl_gt, cl_le, cl_eq, cl_lt, cl_ge, bi_eq0, bi_ne0, bI_eq0, Decidable.not_not, Bool.not_eq_false] at c_160
                    refine w_iconst (v := 0) C dX10_finish_168 (by rfl) ?_
                    refine w_ior C dX10_finish_169 ?_
                    refine w_ior C dX10_finish_170 ?_
                    refine pf_X10_237 C hpj dX10_finish_171 (fun h14 u14 => ?_)
                    have hpj := u14.self
                    refine w_vret C M dX10_finish_174 ⟨by decide, by decide⟩ ⟨rfl, ?_⟩
                    rw [firep_3 h3 hgs c_72 c_34, ← marks_eq gF cF]
                    exact (u6.tr u14).to (by simp only [dlt, dgt, c_115, c_128, c_144, c_160, if_true, if_false, not_true_eq_false, not_false_eq_true]; rfl)
                  · try simp only [cg_ge, cg_gt, cl_gt, cl_le, cl_eq, cl_lt, cl_ge, bi_eq0, bi_ne0, bI_eq0, Decidable.not_not, Bool.not_eq_false] at c_160
                    refine w_bipush (v := (64)) C dX10_finish_163 (by rfl) ?_
                    refine w_goto (tgt := 169) C dX10_finish_165 (by rfl) ?_
                    refine w_ior C dX10_finish_169 ?_
                    refine w_ior C dX10_finish_170 ?_
                    refine pf_X10_237 C hpj dX10_finish_171 (fun h15 u15 => ?_)
                    have hpj := u15.self
                    refine w_vret C M dX10_finish_174 ⟨by decide, by decide⟩ ⟨rfl, ?_⟩
                    rw [firep_3 h3 hgs c_72 c_34, ← marks_eq gF cF]
                    exact (u6.tr u15).to (by simp only [dlt, dgt, c_115, c_128, c_144, c_160, if_true, if_false, not_true_eq_false, not_false_eq_true]; rfl)
                · try simp only [cg_ge, cg_gt, cl_gt, cl_le, cl_eq, cl_lt, cl_ge, bi_eq0, bi_ne0, bI_eq0, Decidable.not_not, Bool.not_eq_false] at c_144
                  refine w_bipush (v := (32)) C dX10_finish_147 (by rfl) ?_
                  refine w_goto (tgt := 153) C dX10_finish_149 (by rfl) ?_
                  refine w_ior C dX10_finish_153 ?_
                  refine w_dload C dX10_finish_154 (by rfl) ?_
                  refine lc_X10_240 C dX10_finish_156 ?_
                  refine w_dcmp C dX10_finish_159 ?_
                  refine w_if_ge (tgt := 168) C dX10_finish_160 (by rfl) (fun c_160 => ?_) (fun c_160 => ?_)
                  · try simp only [cg_ge, cg_gt, cl_gt, cl_le, cl_eq, cl_lt, cl_ge, bi_eq0, bi_ne0, bI_eq0, Decidable.not_not, Bool.not_eq_false] at c_160
                    refine w_iconst (v := 0) C dX10_finish_168 (by rfl) ?_
                    refine w_ior C dX10_finish_169 ?_
                    refine w_ior C dX10_finish_170 ?_
                    refine pf_X10_237 C hpj dX10_finish_171 (fun h16 u16 => ?_)
                    have hpj := u16.self
                    refine w_vret C M dX10_finish_174 ⟨by decide, by decide⟩ ⟨rfl, ?_⟩
                    rw [firep_3 h3 hgs c_72 c_34, ← marks_eq gF cF]
                    exact (u6.tr u16).to (by simp only [dlt, dgt, c_115, c_128, c_144, c_160, if_true, if_false, not_true_eq_false, not_false_eq_true]; rfl)
                  · try simp only [cg_ge, cg_gt, cl_gt, cl_le, cl_eq, cl_lt, cl_ge, bi_eq0, bi_ne0, bI_eq0, Decidable.not_not, Bool.not_eq_false] at c_160
                    refine w_bipush (v := (64)) C dX10_finish_163 (by rfl) ?_
                    refine w_goto (tgt := 169) C dX10_finish_165 (by rfl) ?_
                    refine w_ior C dX10_finish_169 ?_
                    refine w_ior C dX10_finish_170 ?_
                    refine pf_X10_237 C hpj dX10_finish_171 (fun h17 u17 => ?_)
                    have hpj := u17.self
                    refine w_vret C M dX10_finish_174 ⟨by decide, by decide⟩ ⟨rfl, ?_⟩
                    rw [firep_3 h3 hgs c_72 c_34, ← marks_eq gF cF]
                    exact (u6.tr u17).to (by simp only [dlt, dgt, c_115, c_128, c_144, c_160, if_true, if_false, not_true_eq_false, not_false_eq_true]; rfl)
            · have c_115 : cone < sp_melts (gs g) := Int32.not_le.mp c_115
              refine w_bipush (v := (8)) C dX10_finish_118 (by rfl) ?_
              refine w_goto (tgt := 124) C dX10_finish_120 (by rfl) ?_
              refine w_iload_n C dX10_finish_124 (by rfl) ?_
              refine w_iload_n C dX10_finish_125 (by rfl) ?_
              refine w_iconst (v := 2) C dX10_finish_126 (by rfl) ?_
              refine w_iadd C dX10_finish_127 ?_
              refine w_icmp_le (tgt := 136) C dX10_finish_128 (by rfl) (fun c_128 => ?_) (fun c_128 => ?_)
              · have c_128 : ¬ sp_melts (gs g) + 2 < cone := Int32.not_lt.mpr c_128
                refine w_iconst (v := 0) C dX10_finish_136 (by rfl) ?_
                refine w_ior C dX10_finish_137 ?_
                refine w_dload C dX10_finish_138 (by rfl) ?_
                refine lc_X10_84 C dX10_finish_140 ?_
                refine w_dcmp C dX10_finish_143 ?_
                refine w_if_le (tgt := 152) C dX10_finish_144 (by rfl) (fun c_144 => ?_) (fun c_144 => ?_)
                · try simp only [cg_ge, cg_gt, cl_gt, cl_le, cl_eq, cl_lt, cl_ge, bi_eq0, bi_ne0, bI_eq0, Decidable.not_not, Bool.not_eq_false] at c_144
                  refine w_iconst (v := 0) C dX10_finish_152 (by rfl) ?_
                  refine w_ior C dX10_finish_153 ?_
                  refine w_dload C dX10_finish_154 (by rfl) ?_
                  refine lc_X10_240 C dX10_finish_156 ?_
                  refine w_dcmp C dX10_finish_159 ?_
                  refine w_if_ge (tgt := 168) C dX10_finish_160 (by rfl) (fun c_160 => ?_) (fun c_160 => ?_)
                  · try simp only [cg_ge, cg_gt, cl_gt, cl_le, cl_eq, cl_lt, cl_ge, bi_eq0, bi_ne0, bI_eq0, Decidable.not_not, Bool.not_eq_false] at c_160
                    refine w_iconst (v := 0) C dX10_finish_168 (by rfl) ?_
                    refine w_ior C dX10_finish_169 ?_
                    refine w_ior C dX10_finish_170 ?_
                    refine pf_X10_237 C hpj dX10_finish_171 (fun h18 u18 => ?_)
                    have hpj := u18.self
                    refine w_vret C M dX10_finish_174 ⟨by decide, by decide⟩ ⟨rfl, ?_⟩
                    rw [firep_3 h3 hgs c_72 c_34, ← marks_eq gF cF]
                    exact (u6.tr u18).to (by simp only [dlt, dgt, c_115, c_128, c_144, c_160, if_true, if_false, not_true_eq_false, not_false_eq_true]; rfl)
                  · try simp only [cg_ge, cg_gt, cl_gt, cl_le, cl_eq, cl_lt, cl_ge, bi_eq0, bi_ne0, bI_eq0, Decidable.not_not, Bool.not_eq_false] at c_160
                    refine w_bipush (v := (64)) C dX10_finish_163 (by rfl) ?_
                    refine w_goto (tgt := 169) C dX10_finish_165 (by rfl) ?_
                    refine w_ior C dX10_finish_169 ?_
                    refine w_ior C dX10_finish_170 ?_
                    refine pf_X10_237 C hpj dX10_finish_171 (fun h19 u19 => ?_)
                    have hpj := u19.self
                    refine w_vret C M dX10_finish_174 ⟨by decide, by decide⟩ ⟨rfl, ?_⟩
                    rw [firep_3 h3 hgs c_72 c_34, ← marks_eq gF cF]
                    exact (u6.tr u19).to (by simp only [dlt, dgt, c_115, c_128, c_144, c_160, if_true, if_false, not_true_eq_false, not_false_eq_true]; rfl)
                · try simp only [cg_ge, cg_gt, cl_gt, cl_le, cl_eq, cl_lt, cl_ge, bi_eq0, bi_ne0, bI_eq0, Decidable.not_not, Bool.not_eq_false] at c_144
                  refine w_bipush (v := (32)) C dX10_finish_147 (by rfl) ?_
                  refine w_goto (tgt := 153) C dX10_finish_149 (by rfl) ?_
                  refine w_ior C dX10_finish_153 ?_
                  refine w_dload C dX10_finish_154 (by rfl) ?_
                  refine lc_X10_240 C dX10_finish_156 ?_
                  refine w_dcmp C dX10_finish_159 ?_
                  refine w_if_ge (tgt := 168) C dX10_finish_160 (by rfl) (fun c_160 => ?_) (fun c_160 => ?_)
                  · try simp only [cg_ge, cg_gt, cl_gt, cl_le, cl_eq, cl_lt, cl_ge, bi_eq0, bi_ne0, bI_eq0, Decidable.not_not, Bool.not_eq_false] at c_160
                    refine w_iconst (v := 0) C dX10_finish_168 (by rfl) ?_
                    refine w_ior C dX10_finish_169 ?_
                    refine w_ior C dX10_finish_170 ?_
                    refine pf_X10_237 C hpj dX10_finish_171 (fun h20 u20 => ?_)
                    have hpj := u20.self
                    refine w_vret C M dX10_finish_174 ⟨by decide, by decide⟩ ⟨rfl, ?_⟩
                    rw [firep_3 h3 hgs c_72 c_34, ← marks_eq gF cF]
                    exact (u6.tr u20).to (by simp only [dlt, dgt, c_115, c_128, c_144, c_160, if_true, if_false, not_true_eq_false, not_false_eq_true]; rfl)
                  · try simp only [cg_ge, cg_gt, cl_gt, cl_le, cl_eq, cl_lt, cl_ge, bi_eq0, bi_ne0, bI_eq0, Decidable.not_not, Bool.not_eq_false] at c_160
                    refine w_bipush (v := (64)) C dX10_finish_163 (by rfl) ?_
                    refine w_goto (tgt := 169) C dX10_finish_165 (by rfl) ?_
                    refine w_ior C dX10_finish_169 ?_
                    refine w_ior C dX10_finish_170 ?_
                    refine pf_X10_237 C hpj dX10_finish_171 (fun h21 u21 => ?_)
                    have hpj := u21.self
                    refine w_vret C M dX10_finish_174 ⟨by decide, by decide⟩ ⟨rfl, ?_⟩
                    rw [firep_3 h3 hgs c_72 c_34, ← marks_eq gF cF]
                    exact (u6.tr u21).to (by simp only [dlt, dgt, c_115, c_128, c_144, c_160, if_true, if_false, not_true_eq_false, not_false_eq_true]; rfl)
              · have c_128 : sp_melts (gs g) + 2 < cone := Int32.not_le.mp c_128
                refine w_bipush (v := (16)) C dX10_finish_131 (by rfl) ?_
                refine w_goto (tgt := 137) C dX10_finish_133 (by rfl) ?_
                refine w_ior C dX10_finish_137 ?_
                refine w_dload C dX10_finish_138 (by rfl) ?_
                refine lc_X10_84 C dX10_finish_140 ?_
                refine w_dcmp C dX10_finish_143 ?_
                refine w_if_le (tgt := 152) C dX10_finish_144 (by rfl) (fun c_144 => ?_) (fun c_144 => ?_)
                · try simp only [cg_ge, cg_gt, cl_gt, cl_le, cl_eq, cl_lt, cl_ge, bi_eq0, bi_ne0, bI_eq0, Decidable.not_not, Bool.not_eq_false] at c_144
                  refine w_iconst (v := 0) C dX10_finish_152 (by rfl) ?_
                  refine w_ior C dX10_finish_153 ?_
                  refine w_dload C dX10_finish_154 (by rfl) ?_
                  refine lc_X10_240 C dX10_finish_156 ?_
                  refine w_dcmp C dX10_finish_159 ?_
                  refine w_if_ge (tgt := 168) C dX10_finish_160 (by rfl) (fun c_160 => ?_) (fun c_160 => ?_)
                  · try simp only [cg_ge, cg_gt, cl_gt, cl_le, cl_eq, cl_lt, cl_ge, bi_eq0, bi_ne0, bI_eq0, Decidable.not_not, Bool.not_eq_false] at c_160
                    refine w_iconst (v := 0) C dX10_finish_168 (by rfl) ?_
                    refine w_ior C dX10_finish_169 ?_
                    refine w_ior C dX10_finish_170 ?_
                    refine pf_X10_237 C hpj dX10_finish_171 (fun h22 u22 => ?_)
                    have hpj := u22.self
                    refine w_vret C M dX10_finish_174 ⟨by decide, by decide⟩ ⟨rfl, ?_⟩
                    rw [firep_3 h3 hgs c_72 c_34, ← marks_eq gF cF]
                    exact (u6.tr u22).to (by simp only [dlt, dgt, c_115, c_128, c_144, c_160, if_true, if_false, not_true_eq_false, not_false_eq_true]; rfl)
                  · try simp only [cg_ge, cg_gt, cl_gt, cl_le, cl_eq, cl_lt, cl_ge, bi_eq0, bi_ne0, bI_eq0, Decidable.not_not, Bool.not_eq_false] at c_160
                    refine w_bipush (v := (64)) C dX10_finish_163 (by rfl) ?_
                    refine w_goto (tgt := 169) C dX10_finish_165 (by rfl) ?_
                    refine w_ior C dX10_finish_169 ?_
                    refine w_ior C dX10_finish_170 ?_
                    refine pf_X10_237 C hpj dX10_finish_171 (fun h23 u23 => ?_)
                    have hpj := u23.self
                    refine w_vret C M dX10_finish_174 ⟨by decide, by decide⟩ ⟨rfl, ?_⟩
                    rw [firep_3 h3 hgs c_72 c_34, ← marks_eq gF cF]
                    exact (u6.tr u23).to (by simp only [dlt, dgt, c_115, c_128, c_144, c_160, if_true, if_false, not_true_eq_false, not_false_eq_true]; rfl)
                · try simp only [cg_ge, cg_gt, cl_gt, cl_le, cl_eq, cl_lt, cl_ge, bi_eq0, bi_ne0, bI_eq0, Decidable.not_not, Bool.not_eq_false] at c_144
                  refine w_bipush (v := (32)) C dX10_finish_147 (by rfl) ?_
                  refine w_goto (tgt := 153) C dX10_finish_149 (by rfl) ?_
                  refine w_ior C dX10_finish_153 ?_
                  refine w_dload C dX10_finish_154 (by rfl) ?_
                  refine lc_X10_240 C dX10_finish_156 ?_
                  refine w_dcmp C dX10_finish_159 ?_
                  refine w_if_ge (tgt := 168) C dX10_finish_160 (by rfl) (fun c_160 => ?_) (fun c_160 => ?_)
                  · try simp only [cg_ge, cg_gt, cl_gt, cl_le, cl_eq, cl_lt, cl_ge, bi_eq0, bi_ne0, bI_eq0, Decidable.not_not, Bool.not_eq_false] at c_160
                    refine w_iconst (v := 0) C dX10_finish_168 (by rfl) ?_
                    refine w_ior C dX10_finish_169 ?_
                    refine w_ior C dX10_finish_170 ?_
                    refine pf_X10_237 C hpj dX10_finish_171 (fun h24 u24 => ?_)
                    have hpj := u24.self
                    refine w_vret C M dX10_finish_174 ⟨by decide, by decide⟩ ⟨rfl, ?_⟩
                    rw [firep_3 h3 hgs c_72 c_34, ← marks_eq gF cF]
                    exact (u6.tr u24).to (by simp only [dlt, dgt, c_115, c_128, c_144, c_160, if_true, if_false, not_true_eq_false, not_false_eq_true]; rfl)
                  · try simp only [cg_ge, cg_gt, cl_gt, cl_le, cl_eq, cl_lt, cl_ge, bi_eq0, bi_ne0, bI_eq0, Decidable.not_not, Bool.not_eq_false] at c_160
                    refine w_bipush (v := (64)) C dX10_finish_163 (by rfl) ?_
                    refine w_goto (tgt := 169) C dX10_finish_165 (by rfl) ?_
                    refine w_ior C dX10_finish_169 ?_
                    refine w_ior C dX10_finish_170 ?_
                    refine pf_X10_237 C hpj dX10_finish_171 (fun h25 u25 => ?_)
                    have hpj := u25.self
                    refine w_vret C M dX10_finish_174 ⟨by decide, by decide⟩ ⟨rfl, ?_⟩
                    rw [firep_3 h3 hgs c_72 c_34, ← marks_eq gF cF]
                    exact (u6.tr u25).to (by simp only [dlt, dgt, c_115, c_128, c_144, c_160, if_true, if_false, not_true_eq_false, not_false_eq_true]; rfl)
        · exact absurd c_50 c_5
      · have c_34 : (cs (ps j).1).1 < cone := Int32.not_le.mp c_34
        first | refine w_aload_n C dX10_finish_37 (by rfl) ?_ | refine w_aload_nN C dX10_finish_37 (by rfl) ?_
        refine w_iconst (v := 4) C dX10_finish_38 (by rfl) ?_
        refine cl_X10_227 C (m_X9_fail hl hpj) hpj (by rfl) (by rfl) ⟨by decide, by decide⟩ (by rfl) dX10_finish_39 (fun h26 p26 => ?_)
        have hpj := p26.self
        refine w_goto (tgt := 174) C dX10_finish_42 (by rfl) ?_
        refine w_vret C M dX10_finish_174 ⟨by decide, by decide⟩ ⟨rfl, ?_⟩
        rw [firep_b h13 ht c_34]
        exact p26
    · refine w_vret C M dX10_finish_16 ⟨by decide, by decide⟩ ⟨rfl, ?_⟩
      rw [firep_n c_5 c_13]
      exact (hu_id hpj).symm
