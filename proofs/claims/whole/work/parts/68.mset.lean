/-! THE REFERENCE: SET, COLOUR, MEET -/
theorem oI_0 (o : OT) : oI o 0 = nI o.1 := rfl
theorem oI_1 (o : OT) : oI o 1 = o.2.1 := rfl
theorem oI_2 (o : OT) : oI o 2 = o.2.2.1 := rfl
theorem oI_3 (o : OT) : oI o 3 = o.2.2.2.1 := rfl
theorem oI_4 (o : OT) : oI o 4 = bi o.2.2.2.2 := rfl
theorem oI_met (o : OT) : upd (oI o) 4 1 = oI (sp_metd o) := by
  funext i
  by_cases w : i = 4
  · subst w; rfl
  · simp only [upd, oI, sp_metd, if_neg w]
def okGl (nG : Nat) (p : PT) : Prop := (∀ g, p.2.1 = some g → g < nG) ∧ (qSt p.2.2 = 3 ∨ qSt p.2.2 = 4 ∨ qSt p.2.2 = 6 → ∃ g, p.2.1 = some g)

set_option maxHeartbeats 4000000 in
set_option maxRecDepth 100000 in
theorem m_X10_high {l : Launch} {D : va_G} {tc : Nat → ClassId} (hl : l.stackTraces = false) {h : HM} {s : Int32} :
    CT l D tc yX10_high cX10_high 1 (some FieldType.int) rm_X10_high [.int s] h (rI (fun z h' => h' = h ∧ z = if s = 2 then 2 else 3)) := by
  refine CT.start [some (.int s)] (by decide) hl rfl rfl (fun K C M => ?_)
  obtain ⟨rfl, rfl, rfl, -⟩ := id M
  have C : CX K RX10 cX10_high 1 rm_X10_high := C
  refine w_iload_n C dX10_high_0 (by rfl) ?_
  refine w_iconst (v := 2) C dX10_high_1 (by rfl) ?_
  refine w_icmp_ne (tgt := 9) C dX10_high_2 (by rfl) (fun c_2 => ?_) (fun c_2 => ?_)
  · refine w_iconst (v := 3) C dX10_high_9 (by rfl) ?_
    refine w_iret C M dX10_high_10 ⟨by decide, by decide⟩ ⟨_, rfl, ?_⟩
    exact ⟨rfl, (if_neg c_2).symm⟩
  · refine w_iconst (v := 2) C dX10_high_5 (by rfl) ?_
    refine w_goto (tgt := 10) C dX10_high_6 (by rfl) ?_
    refine w_iret C M dX10_high_10 ⟨by decide, by decide⟩ ⟨_, rfl, ?_⟩
    exact ⟨rfl, (if_pos c_2).symm⟩

set_option maxHeartbeats 4000000 in
set_option maxRecDepth 100000 in
theorem m_X10_set {l : Launch} {D : va_G} {tc : Nat → ClassId} (hl : l.stackTraces = false) {h : HM} {m0 kl wk : Nat} {L : Nat → Nat} {E : Nat → Nat} {M : Nat → Int32} {ca : Nat → Nat} {ga : Nat → Nat} {pa : Nat → Nat} {oa : Nat → Nat} {ra : Nat → Nat} {th : Int32} {nC : Nat} {cs : Nat → Int32 × Int32} {nG : Nat} {gs : Nat → GT} {nP : Nat} {ps : Nat → PT} {nO : Nat} {os : Nat → OT} {nR : Nat} {rs : Nat → RT} {k : KT} {dmp : Int32} {day : Int32} {pur : Int32} {rf : Int32} (YY : Mh tc m0 kl wk L E M ca ga pa oa ra th nC cs nG gs nP ps nO os nR rs k dmp day pur rf h) (hn : nP ≤ 14) (hwd : ∀ i, i < nP → ∃ w, (1 ≤ w ∧ w ≤ 5) ∧ qWd (ps i).2.2 = nI w) {i sh ce : Int32} :
    CT l D tc yX10_set cX10_set 7 (some FieldType.int) rm_X10_set [.ref m0, .int i, .int sh, .int ce] h (rI (fun z h' => ((out9 i nP ∨ out9 sh 3 ∨ ¬ (0 ≤ ce ∧ ce ≤ 9)) ∧ z = 0 ∧ MhE tc m0 kl wk 1 nC cs nG gs nP ps nO os nR rs k dmp day pur rf h') ∨ (∃ j s, j < nP ∧ i = nI j ∧ s < 3 ∧ sh = nI s ∧ (0 ≤ ce ∧ ce ≤ 9) ∧ ((¬ (sp_pre k (nI s) ce (ps j).2.2 ∧ sp_sb false nP ps (nI s) ce (qWd (ps j).2.2).toNatClampNeg = false) ∧ z = 0 ∧ MhE tc m0 kl wk 2 nC cs nG gs nP ps nO os nR rs k dmp day pur rf h') ∨ ((sp_pre k (nI s) ce (ps j).2.2 ∧ sp_sb false nP ps (nI s) ce (qWd (ps j).2.2).toNatClampNeg = false) ∧ z = sp_cnt (fun x => !sp_any nP (vf_upd ps j (sp_setp (nI s) ce (ps j))) (nI s) (nI x) nP) 10 ∧ MhE tc m0 kl wk 0 nC cs nG gs nP ((vf_upd ps j (sp_setp (nI s) ce (ps j)))) nO os nR rs k dmp day pur rf h'))))) := by
  refine CT.start [some (.ref m0), some (.int i), some (.int sh), some (.int ce), none, none, none] (by decide) hl rfl rfl (fun K C M => ?_)
  obtain ⟨rfl, rfl, rfl, -⟩ := id M
  have C : CX K RX10 cX10_set 7 rm_X10_set := C
  obtain ⟨mm, mL, mk, mw, mCl, mGl, mPt, mOr, mRm, mn1, mn2, mn3⟩ := id YY
  first | refine w_aload_n C dX10_set_0 (by rfl) ?_ | refine w_aload_nN C dX10_set_0 (by rfl) ?_
  first | refine w_aload_n C dX10_set_1 (by rfl) ?_ | refine w_aload_nN C dX10_set_1 (by rfl) ?_
  refine w_iload_n C dX10_set_2 (by rfl) ?_
  refine cl_X10_104 C (m_X10_isNoPot hl YY (by omega)) mm (by rfl) (by rfl) ⟨by decide, by decide⟩ (by rfl) dX10_set_3 (fun z1 h1 p1 => ?_)
  obtain ⟨rfl, p_3⟩ := p1
  rcases p_3 with ⟨rfl, c_3⟩ | ⟨rfl, j, hj, rfl⟩
  · 
    refine w_if_ne (tgt := 26) C dX10_set_6 (by rfl) (fun c_6 => ?_) (fun c_6 => ?_)
    · try simp only [cg_ge, cg_gt, cl_gt, cl_le, cl_eq, cl_lt, cl_ge, bi_eq0, bi_ne0, bI_eq0, Decidable.not_not, Bool.not_eq_false] at c_6
      refine w_iconst (v := 1) C dX10_set_26 (by rfl) ?_
      refine w_goto (tgt := 31) C dX10_set_27 (by rfl) ?_
      refine w_iconst (v := 1) C dX10_set_31 (by rfl) ?_
      refine cl_X10_88 C (m_X10_startT hl mm (by decide)) mm (by rfl) (by rfl) ⟨by decide, by decide⟩ (by rfl) dX10_set_32 (fun z2 h2 p2 => ?_)
      obtain ⟨rfl, p2⟩ := p2
      have YY := YY.me (th2 := 1) (day2 := day) (dmp2 := dmp) (pur2 := pur) (rf2 := rf) p2
      obtain ⟨mm, mL, mk, mw, mCl, mGl, mPt, mOr, mRm, mn1, mn2, mn3⟩ := id YY
      refine w_if_eq (tgt := 40) C dX10_set_35 (by rfl) (fun c_35 => ?_) (fun c_35 => ?_)
      · exact absurd c_35 (by decide)
      · try simp only [cg_ge, cg_gt, cl_gt, cl_le, cl_eq, cl_lt, cl_ge, bi_eq0, bi_ne0, bI_eq0, Decidable.not_not, Bool.not_eq_false] at c_35
        refine w_iconst (v := 0) C dX10_set_38 (by rfl) ?_
        refine w_iret C M dX10_set_39 ⟨by decide, by decide⟩ ⟨_, rfl, ?_⟩
        exact Or.inl ⟨Or.inl c_3, rfl, YY.ex⟩
    · exact absurd c_6 (by decide)
  · 
    refine w_if_ne (tgt := 26) C dX10_set_6 (by rfl) (fun c_6 => ?_) (fun c_6 => ?_)
    · exact absurd rfl c_6
    · try simp only [cg_ge, cg_gt, cl_gt, cl_le, cl_eq, cl_lt, cl_ge, bi_eq0, bi_ne0, bI_eq0, Decidable.not_not, Bool.not_eq_false] at c_6
      refine w_iload_n C dX10_set_9 (by rfl) ?_
      refine cl_X10_167 C (m_X10_isNoShelf hl) (by rfl) (by rfl) ⟨by decide, by decide⟩ (by rfl) dX10_set_10 (fun z3 h3 p3 => ?_)
      obtain ⟨rfl, p_10⟩ := p3
      rcases p_10 with ⟨rfl, c_10⟩ | ⟨rfl, s, hs, rfl⟩
      · 
        refine w_if_ne (tgt := 26) C dX10_set_13 (by rfl) (fun c_13 => ?_) (fun c_13 => ?_)
        · try simp only [cg_ge, cg_gt, cl_gt, cl_le, cl_eq, cl_lt, cl_ge, bi_eq0, bi_ne0, bI_eq0, Decidable.not_not, Bool.not_eq_false] at c_13
          refine w_iconst (v := 1) C dX10_set_26 (by rfl) ?_
          refine w_goto (tgt := 31) C dX10_set_27 (by rfl) ?_
          refine w_iconst (v := 1) C dX10_set_31 (by rfl) ?_
          refine cl_X10_88 C (m_X10_startT hl mm (by decide)) mm (by rfl) (by rfl) ⟨by decide, by decide⟩ (by rfl) dX10_set_32 (fun z4 h4 p4 => ?_)
          obtain ⟨rfl, p4⟩ := p4
          have YY := YY.me (th2 := 1) (day2 := day) (dmp2 := dmp) (pur2 := pur) (rf2 := rf) p4
          obtain ⟨mm, mL, mk, mw, mCl, mGl, mPt, mOr, mRm, mn1, mn2, mn3⟩ := id YY
          refine w_if_eq (tgt := 40) C dX10_set_35 (by rfl) (fun c_35 => ?_) (fun c_35 => ?_)
          · exact absurd c_35 (by decide)
          · try simp only [cg_ge, cg_gt, cl_gt, cl_le, cl_eq, cl_lt, cl_ge, bi_eq0, bi_ne0, bI_eq0, Decidable.not_not, Bool.not_eq_false] at c_35
            refine w_iconst (v := 0) C dX10_set_38 (by rfl) ?_
            refine w_iret C M dX10_set_39 ⟨by decide, by decide⟩ ⟨_, rfl, ?_⟩
            exact Or.inl ⟨Or.inr (Or.inl c_10), rfl, YY.ex⟩
        · exact absurd c_13 (by decide)
      · 
        refine w_if_ne (tgt := 26) C dX10_set_13 (by rfl) (fun c_13 => ?_) (fun c_13 => ?_)
        · exact absurd rfl c_13
        · try simp only [cg_ge, cg_gt, cl_gt, cl_le, cl_eq, cl_lt, cl_ge, bi_eq0, bi_ne0, bI_eq0, Decidable.not_not, Bool.not_eq_false] at c_13
          refine w_iload_n C dX10_set_16 (by rfl) ?_
          refine w_iconst (v := 0) C dX10_set_17 (by rfl) ?_
          refine w_bipush (v := (9)) C dX10_set_18 (by rfl) ?_
          refine cl_X10_44 C (m_X10_isIn hl) (by rfl) (by rfl) ⟨by decide, by decide⟩ (by rfl) dX10_set_20 (fun z5 h5 p5 => ?_)
          obtain ⟨rfl, rfl⟩ := p5
          refine w_if_ne (tgt := 30) C dX10_set_23 (by rfl) (fun c_23 => ?_) (fun c_23 => ?_)
          · try simp only [cg_ge, cg_gt, cl_gt, cl_le, cl_eq, cl_lt, cl_ge, bi_eq0, bi_ne0, bI_eq0, Decidable.not_not, Bool.not_eq_false] at c_23
            refine w_iconst (v := 0) C dX10_set_30 (by rfl) ?_
            refine w_iconst (v := 1) C dX10_set_31 (by rfl) ?_
            refine cl_X10_88 C (m_X10_startF hl mm) mm (by rfl) (by rfl) ⟨by decide, by decide⟩ (by rfl) dX10_set_32 (fun z6 h6 p6 => ?_)
            obtain ⟨rfl, p6⟩ := p6
            have YY := YY.me (th2 := 0) (day2 := day) (dmp2 := dmp) (pur2 := pur) (rf2 := rf) p6
            obtain ⟨mm, mL, mk, mw, mCl, mGl, mPt, mOr, mRm, mn1, mn2, mn3⟩ := id YY
            refine w_if_eq (tgt := 40) C dX10_set_35 (by rfl) (fun c_35 => ?_) (fun c_35 => ?_)
            · try simp only [cg_ge, cg_gt, cl_gt, cl_le, cl_eq, cl_lt, cl_ge, bi_eq0, bi_ne0, bI_eq0, Decidable.not_not, Bool.not_eq_false] at c_35
              have hpj := mPt j hj
              obtain ⟨w, hw5, hw⟩ := hwd j hj
              first | refine w_aload_n C dX10_set_40 (by rfl) ?_ | refine w_aload_nN C dX10_set_40 (by rfl) ?_
              refine gf_X10_19 C mm dX10_set_41 ?_
              refine w_iload_n C dX10_set_44 (by rfl) ?_
              refine cl_X10_58 C (m_get hl YY.lp YY.ap hj) YY.lp (by rfl) (by rfl) ⟨by decide, by decide⟩ (by rfl) dX10_set_45 (fun z7 h7 p7 => ?_)
              obtain ⟨rfl, rfl⟩ := p7
              refine w_castS C hpj (r := (RX9, TX9, 12)) rfl gw_1152 dX10_set_48 ?_
              first | refine w_astore_4 C dX10_set_51 (by first | trivial | rfl) ?_ | refine w_astore_4N C dX10_set_51 (by first | trivial | rfl) ?_
              first | refine w_aload_n C dX10_set_53 (by rfl) ?_ | refine w_aload_nN C dX10_set_53 (by rfl) ?_
              refine cl_X10_170 C (m_X10_isHot hl YY) mm (by rfl) (by rfl) ⟨by decide, by decide⟩ (by rfl) dX10_set_54 (fun z8 h8 p8 => ?_)
              obtain ⟨rfl, rfl⟩ := p8
              refine w_if_ne (tgt := 119) C dX10_set_57 (by rfl) (fun c_57 => ?_) (fun c_57 => ?_)
              · try simp only [cg_ge, cg_gt, cl_gt, cl_le, cl_eq, cl_lt, cl_ge, bi_eq0, bi_ne0, bI_eq0, Decidable.not_not, Bool.not_eq_false] at c_57
                refine w_iconst (v := 1) C dX10_set_119 (by rfl) ?_
                refine w_goto (tgt := 124) C dX10_set_120 (by rfl) ?_
                have key : sp_pre k (nI s) ce (ps j).2.2 ↔ true = false := ⟨fun w => absurd w (fun w => w.1 c_57), fun w => by cases w⟩
                rw [show (1 : Int32) = bi true from rfl]
                refine w_istore_5 C dX10_set_124 (by first | trivial | rfl) ?_
                have ew : (qWd (ps j).2.2).toNatClampNeg = w := by rw [hw, nI_clamp (by omega)]
                refine sg_X10_set (th := 0) C hl YY hn hj hw hw5.2 M (fun hb h' Y' => Or.inr ⟨j, s, hj, rfl, hs, rfl, c_23, Or.inl ⟨fun v => ?_, rfl, Y'⟩⟩) (fun hb h' Y' => Or.inr ⟨j, s, hj, rfl, hs, rfl, c_23, Or.inr ⟨?_, rfl, Y'⟩⟩)
                · first
                    | exact absurd (key.mp v.1) (by decide)
                    | exact absurd (hb.symm.trans (ew ▸ v.2)) (by decide)
                · first
                    | exact absurd (sb_t.symm.trans hb) (by decide)
                    | exact ⟨key.mpr rfl, by rw [ew]; exact hb⟩
              · try simp only [cg_ge, cg_gt, cl_gt, cl_le, cl_eq, cl_lt, cl_ge, bi_eq0, bi_ne0, bI_eq0, Decidable.not_not, Bool.not_eq_false] at c_57
                first | refine w_aload C dX10_set_60 (by rfl) ?_ | refine w_aloadN C dX10_set_60 (by rfl) ?_
                refine gf_X10_124 C hpj dX10_set_62 ?_
                refine w_if_eq (tgt := 86) C dX10_set_65 (by rfl) (fun c_65 => ?_) (fun c_65 => ?_)
                · try simp only [cg_ge, cg_gt, cl_gt, cl_le, cl_eq, cl_lt, cl_ge, bi_eq0, bi_ne0, bI_eq0, Decidable.not_not, Bool.not_eq_false] at c_65
                  first | refine w_aload C dX10_set_86 (by rfl) ?_ | refine w_aloadN C dX10_set_86 (by rfl) ?_
                  refine gf_X10_150 C hpj dX10_set_88 ?_
                  refine w_iconst (v := (-1)) C dX10_set_91 (by rfl) ?_
                  refine w_icmp_ne (tgt := 119) C dX10_set_92 (by rfl) (fun c_92 => ?_) (fun c_92 => ?_)
                  · refine w_iconst (v := 1) C dX10_set_119 (by rfl) ?_
                    refine w_goto (tgt := 124) C dX10_set_120 (by rfl) ?_
                    have key : sp_pre k (nI s) ce (ps j).2.2 ↔ true = false := ⟨fun w => absurd w (fun w => c_92 w.2.2.1), fun w => by cases w⟩
                    rw [show (1 : Int32) = bi true from rfl]
                    refine w_istore_5 C dX10_set_124 (by first | trivial | rfl) ?_
                    have ew : (qWd (ps j).2.2).toNatClampNeg = w := by rw [hw, nI_clamp (by omega)]
                    refine sg_X10_set (th := 0) C hl YY hn hj hw hw5.2 M (fun hb h' Y' => Or.inr ⟨j, s, hj, rfl, hs, rfl, c_23, Or.inl ⟨fun v => ?_, rfl, Y'⟩⟩) (fun hb h' Y' => Or.inr ⟨j, s, hj, rfl, hs, rfl, c_23, Or.inr ⟨?_, rfl, Y'⟩⟩)
                    · first
                        | exact absurd (key.mp v.1) (by decide)
                        | exact absurd (hb.symm.trans (ew ▸ v.2)) (by decide)
                    · first
                        | exact absurd (sb_t.symm.trans hb) (by decide)
                        | exact ⟨key.mpr rfl, by rw [ew]; exact hb⟩
                  · first | refine w_aload C dX10_set_95 (by rfl) ?_ | refine w_aloadN C dX10_set_95 (by rfl) ?_
                    refine gf_X10_173 C hpj dX10_set_97 ?_
                    refine w_iload_n C dX10_set_100 (by rfl) ?_
                    refine cl_X10_176 C (m_X10_high hl) (by rfl) (by rfl) ⟨by decide, by decide⟩ (by rfl) dX10_set_101 (fun z9 h9 p9 => ?_)
                    obtain ⟨rfl, rfl⟩ := p9
                    refine w_icmp_gt (tgt := 119) C dX10_set_104 (by rfl) (fun c_104 => ?_) (fun c_104 => ?_)
                    · have c_104 : (if nI s = 2 then 2 else 3) < qHg (ps j).2.2 := c_104
                      refine w_iconst (v := 1) C dX10_set_119 (by rfl) ?_
                      refine w_goto (tgt := 124) C dX10_set_120 (by rfl) ?_
                      have key : sp_pre k (nI s) ce (ps j).2.2 ↔ true = false := ⟨fun w => absurd w (fun w => absurd w.2.2.2.1 (Int32.not_le.mpr c_104)), fun w => by cases w⟩
                      rw [show (1 : Int32) = bi true from rfl]
                      refine w_istore_5 C dX10_set_124 (by first | trivial | rfl) ?_
                      have ew : (qWd (ps j).2.2).toNatClampNeg = w := by rw [hw, nI_clamp (by omega)]
                      refine sg_X10_set (th := 0) C hl YY hn hj hw hw5.2 M (fun hb h' Y' => Or.inr ⟨j, s, hj, rfl, hs, rfl, c_23, Or.inl ⟨fun v => ?_, rfl, Y'⟩⟩) (fun hb h' Y' => Or.inr ⟨j, s, hj, rfl, hs, rfl, c_23, Or.inr ⟨?_, rfl, Y'⟩⟩)
                      · first
                          | exact absurd (key.mp v.1) (by decide)
                          | exact absurd (hb.symm.trans (ew ▸ v.2)) (by decide)
                      · first
                          | exact absurd (sb_t.symm.trans hb) (by decide)
                          | exact ⟨key.mpr rfl, by rw [ew]; exact hb⟩
                    · have c_104 : qHg (ps j).2.2 ≤ (if nI s = 2 then 2 else 3) := Int32.not_lt.mp c_104
                      refine w_iload_n C dX10_set_107 (by rfl) ?_
                      first | refine w_aload C dX10_set_108 (by rfl) ?_ | refine w_aloadN C dX10_set_108 (by rfl) ?_
                      refine gf_X10_156 C hpj dX10_set_110 ?_
                      refine w_iadd C dX10_set_113 ?_
                      refine w_bipush (v := (10)) C dX10_set_114 (by rfl) ?_
                      refine w_icmp_le (tgt := 123) C dX10_set_116 (by rfl) (fun c_116 => ?_) (fun c_116 => ?_)
                      · have c_116 : ce + qWd (ps j).2.2 ≤ 10 := c_116
                        refine w_iconst (v := 0) C dX10_set_123 (by rfl) ?_
                        have key : sp_pre k (nI s) ce (ps j).2.2 ↔ false = false := ⟨fun _ => rfl, fun _ => ⟨c_57, Or.inl c_65, c_92, c_104, c_116⟩⟩
                        rw [show (0 : Int32) = bi false from rfl]
                        refine w_istore_5 C dX10_set_124 (by first | trivial | rfl) ?_
                        have ew : (qWd (ps j).2.2).toNatClampNeg = w := by rw [hw, nI_clamp (by omega)]
                        refine sg_X10_set (th := 0) C hl YY hn hj hw hw5.2 M (fun hb h' Y' => Or.inr ⟨j, s, hj, rfl, hs, rfl, c_23, Or.inl ⟨fun v => ?_, rfl, Y'⟩⟩) (fun hb h' Y' => Or.inr ⟨j, s, hj, rfl, hs, rfl, c_23, Or.inr ⟨?_, rfl, Y'⟩⟩)
                        · first
                            | exact absurd (key.mp v.1) (by decide)
                            | exact absurd (hb.symm.trans (ew ▸ v.2)) (by decide)
                        · first
                            | exact absurd (sb_t.symm.trans hb) (by decide)
                            | exact ⟨key.mpr rfl, by rw [ew]; exact hb⟩
                      · have c_116 : 10 < ce + qWd (ps j).2.2 := Int32.not_le.mp c_116
                        refine w_iconst (v := 1) C dX10_set_119 (by rfl) ?_
                        refine w_goto (tgt := 124) C dX10_set_120 (by rfl) ?_
                        have key : sp_pre k (nI s) ce (ps j).2.2 ↔ true = false := ⟨fun w => absurd w (fun w => absurd w.2.2.2.2 (Int32.not_le.mpr c_116)), fun w => by cases w⟩
                        rw [show (1 : Int32) = bi true from rfl]
                        refine w_istore_5 C dX10_set_124 (by first | trivial | rfl) ?_
                        have ew : (qWd (ps j).2.2).toNatClampNeg = w := by rw [hw, nI_clamp (by omega)]
                        refine sg_X10_set (th := 0) C hl YY hn hj hw hw5.2 M (fun hb h' Y' => Or.inr ⟨j, s, hj, rfl, hs, rfl, c_23, Or.inl ⟨fun v => ?_, rfl, Y'⟩⟩) (fun hb h' Y' => Or.inr ⟨j, s, hj, rfl, hs, rfl, c_23, Or.inr ⟨?_, rfl, Y'⟩⟩)
                        · first
                            | exact absurd (key.mp v.1) (by decide)
                            | exact absurd (hb.symm.trans (ew ▸ v.2)) (by decide)
                        · first
                            | exact absurd (sb_t.symm.trans hb) (by decide)
                            | exact ⟨key.mpr rfl, by rw [ew]; exact hb⟩
                · try simp only [cg_ge, cg_gt, cl_gt, cl_le, cl_eq, cl_lt, cl_ge, bi_eq0, bi_ne0, bI_eq0, Decidable.not_not, Bool.not_eq_false] at c_65
                  first | refine w_aload C dX10_set_68 (by rfl) ?_ | refine w_aloadN C dX10_set_68 (by rfl) ?_
                  refine gf_X10_124 C hpj dX10_set_70 ?_
                  refine w_iconst (v := 1) C dX10_set_73 (by rfl) ?_
                  refine w_icmp_eq (tgt := 86) C dX10_set_74 (by rfl) (fun c_74 => ?_) (fun c_74 => ?_)
                  · first | refine w_aload C dX10_set_86 (by rfl) ?_ | refine w_aloadN C dX10_set_86 (by rfl) ?_
                    refine gf_X10_150 C hpj dX10_set_88 ?_
                    refine w_iconst (v := (-1)) C dX10_set_91 (by rfl) ?_
                    refine w_icmp_ne (tgt := 119) C dX10_set_92 (by rfl) (fun c_92 => ?_) (fun c_92 => ?_)
                    · refine w_iconst (v := 1) C dX10_set_119 (by rfl) ?_
                      refine w_goto (tgt := 124) C dX10_set_120 (by rfl) ?_
                      have key : sp_pre k (nI s) ce (ps j).2.2 ↔ true = false := ⟨fun w => absurd w (fun w => c_92 w.2.2.1), fun w => by cases w⟩
                      rw [show (1 : Int32) = bi true from rfl]
                      refine w_istore_5 C dX10_set_124 (by first | trivial | rfl) ?_
                      have ew : (qWd (ps j).2.2).toNatClampNeg = w := by rw [hw, nI_clamp (by omega)]
                      refine sg_X10_set (th := 0) C hl YY hn hj hw hw5.2 M (fun hb h' Y' => Or.inr ⟨j, s, hj, rfl, hs, rfl, c_23, Or.inl ⟨fun v => ?_, rfl, Y'⟩⟩) (fun hb h' Y' => Or.inr ⟨j, s, hj, rfl, hs, rfl, c_23, Or.inr ⟨?_, rfl, Y'⟩⟩)
                      · first
                          | exact absurd (key.mp v.1) (by decide)
                          | exact absurd (hb.symm.trans (ew ▸ v.2)) (by decide)
                      · first
                          | exact absurd (sb_t.symm.trans hb) (by decide)
                          | exact ⟨key.mpr rfl, by rw [ew]; exact hb⟩
                    · first | refine w_aload C dX10_set_95 (by rfl) ?_ | refine w_aloadN C dX10_set_95 (by rfl) ?_
                      refine gf_X10_173 C hpj dX10_set_97 ?_
                      refine w_iload_n C dX10_set_100 (by rfl) ?_
                      refine cl_X10_176 C (m_X10_high hl) (by rfl) (by rfl) ⟨by decide, by decide⟩ (by rfl) dX10_set_101 (fun z10 h10 p10 => ?_)
                      obtain ⟨rfl, rfl⟩ := p10
                      refine w_icmp_gt (tgt := 119) C dX10_set_104 (by rfl) (fun c_104 => ?_) (fun c_104 => ?_)
                      · have c_104 : (if nI s = 2 then 2 else 3) < qHg (ps j).2.2 := c_104
                        refine w_iconst (v := 1) C dX10_set_119 (by rfl) ?_
                        refine w_goto (tgt := 124) C dX10_set_120 (by rfl) ?_
                        have key : sp_pre k (nI s) ce (ps j).2.2 ↔ true = false := ⟨fun w => absurd w (fun w => absurd w.2.2.2.1 (Int32.not_le.mpr c_104)), fun w => by cases w⟩
                        rw [show (1 : Int32) = bi true from rfl]
                        refine w_istore_5 C dX10_set_124 (by first | trivial | rfl) ?_
                        have ew : (qWd (ps j).2.2).toNatClampNeg = w := by rw [hw, nI_clamp (by omega)]
                        refine sg_X10_set (th := 0) C hl YY hn hj hw hw5.2 M (fun hb h' Y' => Or.inr ⟨j, s, hj, rfl, hs, rfl, c_23, Or.inl ⟨fun v => ?_, rfl, Y'⟩⟩) (fun hb h' Y' => Or.inr ⟨j, s, hj, rfl, hs, rfl, c_23, Or.inr ⟨?_, rfl, Y'⟩⟩)
                        · first
                            | exact absurd (key.mp v.1) (by decide)
                            | exact absurd (hb.symm.trans (ew ▸ v.2)) (by decide)
                        · first
                            | exact absurd (sb_t.symm.trans hb) (by decide)
                            | exact ⟨key.mpr rfl, by rw [ew]; exact hb⟩
                      · have c_104 : qHg (ps j).2.2 ≤ (if nI s = 2 then 2 else 3) := Int32.not_lt.mp c_104
                        refine w_iload_n C dX10_set_107 (by rfl) ?_
                        first | refine w_aload C dX10_set_108 (by rfl) ?_ | refine w_aloadN C dX10_set_108 (by rfl) ?_
                        refine gf_X10_156 C hpj dX10_set_110 ?_
                        refine w_iadd C dX10_set_113 ?_
                        refine w_bipush (v := (10)) C dX10_set_114 (by rfl) ?_
                        refine w_icmp_le (tgt := 123) C dX10_set_116 (by rfl) (fun c_116 => ?_) (fun c_116 => ?_)
                        · have c_116 : ce + qWd (ps j).2.2 ≤ 10 := c_116
                          refine w_iconst (v := 0) C dX10_set_123 (by rfl) ?_
                          have key : sp_pre k (nI s) ce (ps j).2.2 ↔ false = false := ⟨fun _ => rfl, fun _ => ⟨c_57, Or.inr (Or.inl c_74), c_92, c_104, c_116⟩⟩
                          rw [show (0 : Int32) = bi false from rfl]
                          refine w_istore_5 C dX10_set_124 (by first | trivial | rfl) ?_
                          have ew : (qWd (ps j).2.2).toNatClampNeg = w := by rw [hw, nI_clamp (by omega)]
                          refine sg_X10_set (th := 0) C hl YY hn hj hw hw5.2 M (fun hb h' Y' => Or.inr ⟨j, s, hj, rfl, hs, rfl, c_23, Or.inl ⟨fun v => ?_, rfl, Y'⟩⟩) (fun hb h' Y' => Or.inr ⟨j, s, hj, rfl, hs, rfl, c_23, Or.inr ⟨?_, rfl, Y'⟩⟩)
                          · first
                              | exact absurd (key.mp v.1) (by decide)
                              | exact absurd (hb.symm.trans (ew ▸ v.2)) (by decide)
                          · first
                              | exact absurd (sb_t.symm.trans hb) (by decide)
                              | exact ⟨key.mpr rfl, by rw [ew]; exact hb⟩
                        · have c_116 : 10 < ce + qWd (ps j).2.2 := Int32.not_le.mp c_116
                          refine w_iconst (v := 1) C dX10_set_119 (by rfl) ?_
                          refine w_goto (tgt := 124) C dX10_set_120 (by rfl) ?_
                          have key : sp_pre k (nI s) ce (ps j).2.2 ↔ true = false := ⟨fun w => absurd w (fun w => absurd w.2.2.2.2 (Int32.not_le.mpr c_116)), fun w => by cases w⟩
                          rw [show (1 : Int32) = bi true from rfl]
                          refine w_istore_5 C dX10_set_124 (by first | trivial | rfl) ?_
                          have ew : (qWd (ps j).2.2).toNatClampNeg = w := by rw [hw, nI_clamp (by omega)]
                          refine sg_X10_set (th := 0) C hl YY hn hj hw hw5.2 M (fun hb h' Y' => Or.inr ⟨j, s, hj, rfl, hs, rfl, c_23, Or.inl ⟨fun v => ?_, rfl, Y'⟩⟩) (fun hb h' Y' => Or.inr ⟨j, s, hj, rfl, hs, rfl, c_23, Or.inr ⟨?_, rfl, Y'⟩⟩)
                          · first
                              | exact absurd (key.mp v.1) (by decide)
                              | exact absurd (hb.symm.trans (ew ▸ v.2)) (by decide)
                          · first
                              | exact absurd (sb_t.symm.trans hb) (by decide)
                              | exact ⟨key.mpr rfl, by rw [ew]; exact hb⟩
                  · first | refine w_aload C dX10_set_77 (by rfl) ?_ | refine w_aloadN C dX10_set_77 (by rfl) ?_
                    refine gf_X10_124 C hpj dX10_set_79 ?_
                    refine w_iconst (v := 3) C dX10_set_82 (by rfl) ?_
                    refine w_icmp_ne (tgt := 119) C dX10_set_83 (by rfl) (fun c_83 => ?_) (fun c_83 => ?_)
                    · refine w_iconst (v := 1) C dX10_set_119 (by rfl) ?_
                      refine w_goto (tgt := 124) C dX10_set_120 (by rfl) ?_
                      have key : sp_pre k (nI s) ce (ps j).2.2 ↔ true = false := ⟨fun w => absurd w (fun w => by rcases w.2.1 with v | v | v; exact c_65 v; exact c_74 v; exact c_83 v), fun w => by cases w⟩
                      rw [show (1 : Int32) = bi true from rfl]
                      refine w_istore_5 C dX10_set_124 (by first | trivial | rfl) ?_
                      have ew : (qWd (ps j).2.2).toNatClampNeg = w := by rw [hw, nI_clamp (by omega)]
                      refine sg_X10_set (th := 0) C hl YY hn hj hw hw5.2 M (fun hb h' Y' => Or.inr ⟨j, s, hj, rfl, hs, rfl, c_23, Or.inl ⟨fun v => ?_, rfl, Y'⟩⟩) (fun hb h' Y' => Or.inr ⟨j, s, hj, rfl, hs, rfl, c_23, Or.inr ⟨?_, rfl, Y'⟩⟩)
                      · first
                          | exact absurd (key.mp v.1) (by decide)
                          | exact absurd (hb.symm.trans (ew ▸ v.2)) (by decide)
                      · first
                          | exact absurd (sb_t.symm.trans hb) (by decide)
                          | exact ⟨key.mpr rfl, by rw [ew]; exact hb⟩
                    · first | refine w_aload C dX10_set_86 (by rfl) ?_ | refine w_aloadN C dX10_set_86 (by rfl) ?_
                      refine gf_X10_150 C hpj dX10_set_88 ?_
                      refine w_iconst (v := (-1)) C dX10_set_91 (by rfl) ?_
                      refine w_icmp_ne (tgt := 119) C dX10_set_92 (by rfl) (fun c_92 => ?_) (fun c_92 => ?_)
                      · refine w_iconst (v := 1) C dX10_set_119 (by rfl) ?_
                        refine w_goto (tgt := 124) C dX10_set_120 (by rfl) ?_
                        have key : sp_pre k (nI s) ce (ps j).2.2 ↔ true = false := ⟨fun w => absurd w (fun w => c_92 w.2.2.1), fun w => by cases w⟩
                        rw [show (1 : Int32) = bi true from rfl]
                        refine w_istore_5 C dX10_set_124 (by first | trivial | rfl) ?_
                        have ew : (qWd (ps j).2.2).toNatClampNeg = w := by rw [hw, nI_clamp (by omega)]
                        refine sg_X10_set (th := 0) C hl YY hn hj hw hw5.2 M (fun hb h' Y' => Or.inr ⟨j, s, hj, rfl, hs, rfl, c_23, Or.inl ⟨fun v => ?_, rfl, Y'⟩⟩) (fun hb h' Y' => Or.inr ⟨j, s, hj, rfl, hs, rfl, c_23, Or.inr ⟨?_, rfl, Y'⟩⟩)
                        · first
                            | exact absurd (key.mp v.1) (by decide)
                            | exact absurd (hb.symm.trans (ew ▸ v.2)) (by decide)
                        · first
                            | exact absurd (sb_t.symm.trans hb) (by decide)
                            | exact ⟨key.mpr rfl, by rw [ew]; exact hb⟩
                      · first | refine w_aload C dX10_set_95 (by rfl) ?_ | refine w_aloadN C dX10_set_95 (by rfl) ?_
                        refine gf_X10_173 C hpj dX10_set_97 ?_
                        refine w_iload_n C dX10_set_100 (by rfl) ?_
                        refine cl_X10_176 C (m_X10_high hl) (by rfl) (by rfl) ⟨by decide, by decide⟩ (by rfl) dX10_set_101 (fun z11 h11 p11 => ?_)
                        obtain ⟨rfl, rfl⟩ := p11
                        refine w_icmp_gt (tgt := 119) C dX10_set_104 (by rfl) (fun c_104 => ?_) (fun c_104 => ?_)
                        · have c_104 : (if nI s = 2 then 2 else 3) < qHg (ps j).2.2 := c_104
                          refine w_iconst (v := 1) C dX10_set_119 (by rfl) ?_
                          refine w_goto (tgt := 124) C dX10_set_120 (by rfl) ?_
                          have key : sp_pre k (nI s) ce (ps j).2.2 ↔ true = false := ⟨fun w => absurd w (fun w => absurd w.2.2.2.1 (Int32.not_le.mpr c_104)), fun w => by cases w⟩
                          rw [show (1 : Int32) = bi true from rfl]
                          refine w_istore_5 C dX10_set_124 (by first | trivial | rfl) ?_
                          have ew : (qWd (ps j).2.2).toNatClampNeg = w := by rw [hw, nI_clamp (by omega)]
                          refine sg_X10_set (th := 0) C hl YY hn hj hw hw5.2 M (fun hb h' Y' => Or.inr ⟨j, s, hj, rfl, hs, rfl, c_23, Or.inl ⟨fun v => ?_, rfl, Y'⟩⟩) (fun hb h' Y' => Or.inr ⟨j, s, hj, rfl, hs, rfl, c_23, Or.inr ⟨?_, rfl, Y'⟩⟩)
                          · first
                              | exact absurd (key.mp v.1) (by decide)
                              | exact absurd (hb.symm.trans (ew ▸ v.2)) (by decide)
                          · first
                              | exact absurd (sb_t.symm.trans hb) (by decide)
                              | exact ⟨key.mpr rfl, by rw [ew]; exact hb⟩
                        · have c_104 : qHg (ps j).2.2 ≤ (if nI s = 2 then 2 else 3) := Int32.not_lt.mp c_104
                          refine w_iload_n C dX10_set_107 (by rfl) ?_
                          first | refine w_aload C dX10_set_108 (by rfl) ?_ | refine w_aloadN C dX10_set_108 (by rfl) ?_
                          refine gf_X10_156 C hpj dX10_set_110 ?_
                          refine w_iadd C dX10_set_113 ?_
                          refine w_bipush (v := (10)) C dX10_set_114 (by rfl) ?_
                          refine w_icmp_le (tgt := 123) C dX10_set_116 (by rfl) (fun c_116 => ?_) (fun c_116 => ?_)
                          · have c_116 : ce + qWd (ps j).2.2 ≤ 10 := c_116
                            refine w_iconst (v := 0) C dX10_set_123 (by rfl) ?_
                            have key : sp_pre k (nI s) ce (ps j).2.2 ↔ false = false := ⟨fun _ => rfl, fun _ => ⟨c_57, Or.inr (Or.inr c_83), c_92, c_104, c_116⟩⟩
                            rw [show (0 : Int32) = bi false from rfl]
                            refine w_istore_5 C dX10_set_124 (by first | trivial | rfl) ?_
                            have ew : (qWd (ps j).2.2).toNatClampNeg = w := by rw [hw, nI_clamp (by omega)]
                            refine sg_X10_set (th := 0) C hl YY hn hj hw hw5.2 M (fun hb h' Y' => Or.inr ⟨j, s, hj, rfl, hs, rfl, c_23, Or.inl ⟨fun v => ?_, rfl, Y'⟩⟩) (fun hb h' Y' => Or.inr ⟨j, s, hj, rfl, hs, rfl, c_23, Or.inr ⟨?_, rfl, Y'⟩⟩)
                            · first
                                | exact absurd (key.mp v.1) (by decide)
                                | exact absurd (hb.symm.trans (ew ▸ v.2)) (by decide)
                            · first
                                | exact absurd (sb_t.symm.trans hb) (by decide)
                                | exact ⟨key.mpr rfl, by rw [ew]; exact hb⟩
                          · have c_116 : 10 < ce + qWd (ps j).2.2 := Int32.not_le.mp c_116
                            refine w_iconst (v := 1) C dX10_set_119 (by rfl) ?_
                            refine w_goto (tgt := 124) C dX10_set_120 (by rfl) ?_
                            have key : sp_pre k (nI s) ce (ps j).2.2 ↔ true = false := ⟨fun w => absurd w (fun w => absurd w.2.2.2.2 (Int32.not_le.mpr c_116)), fun w => by cases w⟩
                            rw [show (1 : Int32) = bi true from rfl]
                            refine w_istore_5 C dX10_set_124 (by first | trivial | rfl) ?_
                            have ew : (qWd (ps j).2.2).toNatClampNeg = w := by rw [hw, nI_clamp (by omega)]
                            refine sg_X10_set (th := 0) C hl YY hn hj hw hw5.2 M (fun hb h' Y' => Or.inr ⟨j, s, hj, rfl, hs, rfl, c_23, Or.inl ⟨fun v => ?_, rfl, Y'⟩⟩) (fun hb h' Y' => Or.inr ⟨j, s, hj, rfl, hs, rfl, c_23, Or.inr ⟨?_, rfl, Y'⟩⟩)
                            · first
                                | exact absurd (key.mp v.1) (by decide)
                                | exact absurd (hb.symm.trans (ew ▸ v.2)) (by decide)
                            · first
                                | exact absurd (sb_t.symm.trans hb) (by decide)
                                | exact ⟨key.mpr rfl, by rw [ew]; exact hb⟩
            · exact absurd c_35 (by decide)
          · try simp only [cg_ge, cg_gt, cl_gt, cl_le, cl_eq, cl_lt, cl_ge, bi_eq0, bi_ne0, bI_eq0, Decidable.not_not, Bool.not_eq_false] at c_23
            refine w_iconst (v := 1) C dX10_set_26 (by rfl) ?_
            refine w_goto (tgt := 31) C dX10_set_27 (by rfl) ?_
            refine w_iconst (v := 1) C dX10_set_31 (by rfl) ?_
            refine cl_X10_88 C (m_X10_startT hl mm (by decide)) mm (by rfl) (by rfl) ⟨by decide, by decide⟩ (by rfl) dX10_set_32 (fun z12 h12 p12 => ?_)
            obtain ⟨rfl, p12⟩ := p12
            have YY := YY.me (th2 := 1) (day2 := day) (dmp2 := dmp) (pur2 := pur) (rf2 := rf) p12
            obtain ⟨mm, mL, mk, mw, mCl, mGl, mPt, mOr, mRm, mn1, mn2, mn3⟩ := id YY
            refine w_if_eq (tgt := 40) C dX10_set_35 (by rfl) (fun c_35 => ?_) (fun c_35 => ?_)
            · exact absurd c_35 (by decide)
            · try simp only [cg_ge, cg_gt, cl_gt, cl_le, cl_eq, cl_lt, cl_ge, bi_eq0, bi_ne0, bI_eq0, Decidable.not_not, Bool.not_eq_false] at c_35
              refine w_iconst (v := 0) C dX10_set_38 (by rfl) ?_
              refine w_iret C M dX10_set_39 ⟨by decide, by decide⟩ ⟨_, rfl, ?_⟩
              exact Or.inl ⟨Or.inr (Or.inr c_23), rfl, YY.ex⟩

theorem col_s {gs : Nat → GT} {p : PT} {g : Nat} (h : p.2.1 = some g) : sp_gn p = nI g ∧ sp_col gs p = if qSt p.2.2 = 4 ∨ qSt p.2.2 = 6 then (if (gs g).2.2.2.2 < 5 then 0 else if 4 ≤ qSm p.2.2 then 1 else 2) else -1 := by
  unfold sp_gn sp_col
  rw [h]
  exact ⟨rfl, rfl⟩
theorem col_n {gs : Nat → GT} {p : PT} (h : ¬ (qSt p.2.2 = 4 ∨ qSt p.2.2 = 6)) : sp_col gs p = -1 := by
  unfold sp_col
  split
  · rfl
  · exact if_neg h

set_option maxHeartbeats 4000000 in
set_option maxRecDepth 100000 in
theorem m_X10_colour {l : Launch} {D : va_G} {tc : Nat → ClassId} (hl : l.stackTraces = false) {h : HM} {m0 kl wk : Nat} {L : Nat → Nat} {E : Nat → Nat} {M : Nat → Int32} {ca : Nat → Nat} {ga : Nat → Nat} {pa : Nat → Nat} {oa : Nat → Nat} {ra : Nat → Nat} {th : Int32} {nC : Nat} {cs : Nat → Int32 × Int32} {nG : Nat} {gs : Nat → GT} {nP : Nat} {ps : Nat → PT} {nO : Nat} {os : Nat → OT} {nR : Nat} {rs : Nat → RT} {k : KT} {dmp : Int32} {day : Int32} {pur : Int32} {rf : Int32} (YY : Mh tc m0 kl wk L E M ca ga pa oa ra th nC cs nG gs nP ps nO os nR rs k dmp day pur rf h) {j : Nat} (hj : j < nP) (hg : okGl nG (ps j)) :
    CT l D tc yX10_colour cX10_colour 2 (some FieldType.int) rm_X10_colour [.ref m0, .ref (pa j)] h (rI (fun z h' => h' = h ∧ z = sp_col gs (ps j))) := by
  refine CT.start [some (.ref m0), some (.ref (pa j))] (by decide) hl rfl rfl (fun K C M => ?_)
  obtain ⟨rfl, rfl, rfl, -⟩ := id M
  have C : CX K RX10 cX10_colour 2 rm_X10_colour := C
  obtain ⟨mm, mL, mk, mw, mCl, mGl, mPt, mOr, mRm, mn1, mn2, mn3⟩ := id YY
  have hpj := mPt j hj
  first | refine w_aload_n C dX10_colour_0 (by rfl) ?_ | refine w_aload_nN C dX10_colour_0 (by rfl) ?_
  refine gf_X10_124 C hpj dX10_colour_1 ?_
  refine w_iconst (v := 4) C dX10_colour_4 (by rfl) ?_
  refine w_icmp_eq (tgt := 19) C dX10_colour_5 (by rfl) (fun c_5 => ?_) (fun c_5 => ?_)
  · have h46 : qSt (ps j).2.2 = 4 ∨ qSt (ps j).2.2 = 6 := Or.inl c_5
    obtain ⟨g, hg1⟩ := hg.2 (Or.inr h46)
    have hg2 := hg.1 g hg1
    obtain ⟨eg, ec⟩ := col_s (gs := gs) hg1
    rw [if_pos h46] at ec
    first | refine w_aload_n C dX10_colour_19 (by rfl) ?_ | refine w_aload_nN C dX10_colour_19 (by rfl) ?_
    refine gf_X10_16 C mm dX10_colour_20 ?_
    first | refine w_aload_n C dX10_colour_23 (by rfl) ?_ | refine w_aload_nN C dX10_colour_23 (by rfl) ?_
    refine gf_X10_144 C hpj dX10_colour_24 ?_
    rw [eg]
    refine cl_X10_58 C (m_get hl YY.lg YY.ag hg2) YY.lg (by rfl) (by rfl) ⟨by decide, by decide⟩ (by rfl) dX10_colour_27 (fun z1 h1 p1 => ?_)
    obtain ⟨rfl, rfl⟩ := p1
    refine w_castI C (mGl g hg2) gw_1313 dX10_colour_30 ?_
    refine w_iconst (v := 4) C dX10_colour_33 (by rfl) ?_
    refine w_ialdn (j := 4) C (mGl g hg2) (by decide) (by decide) dX10_colour_34 ?_
    rw [gI_4]
    refine w_iconst (v := 5) C dX10_colour_35 (by rfl) ?_
    refine w_icmp_ge (tgt := 43) C dX10_colour_36 (by rfl) (fun c_36 => ?_) (fun c_36 => ?_)
    · have c_36 : ¬ (gs g).2.2.2.2 < 5 := Int32.not_lt.mpr c_36
      first | refine w_aload_n C dX10_colour_43 (by rfl) ?_ | refine w_aload_nN C dX10_colour_43 (by rfl) ?_
      refine gf_X10_257 C hpj dX10_colour_44 ?_
      refine w_iconst (v := 4) C dX10_colour_47 (by rfl) ?_
      refine w_icmp_lt (tgt := 55) C dX10_colour_48 (by rfl) (fun c_48 => ?_) (fun c_48 => ?_)
      · have c_48 : ¬ 4 ≤ qSm (ps j).2.2 := Int32.not_le.mpr c_48
        refine w_iconst (v := 2) C dX10_colour_55 (by rfl) ?_
        refine w_iret C M dX10_colour_56 ⟨by decide, by decide⟩ ⟨_, rfl, ?_⟩
        refine ⟨rfl, ?_⟩
        rw [ec]
        simp only [*, if_true, if_false]
      · have c_48 : 4 ≤ qSm (ps j).2.2 := Int32.not_lt.mp c_48
        refine w_iconst (v := 1) C dX10_colour_51 (by rfl) ?_
        refine w_goto (tgt := 56) C dX10_colour_52 (by rfl) ?_
        refine w_iret C M dX10_colour_56 ⟨by decide, by decide⟩ ⟨_, rfl, ?_⟩
        refine ⟨rfl, ?_⟩
        rw [ec]
        simp only [*, if_true, if_false]
    · have c_36 : (gs g).2.2.2.2 < 5 := Int32.not_le.mp c_36
      refine w_iconst (v := 0) C dX10_colour_39 (by rfl) ?_
      refine w_goto (tgt := 56) C dX10_colour_40 (by rfl) ?_
      refine w_iret C M dX10_colour_56 ⟨by decide, by decide⟩ ⟨_, rfl, ?_⟩
      refine ⟨rfl, ?_⟩
      rw [ec]
      simp only [*, if_true, if_false]
  · first | refine w_aload_n C dX10_colour_8 (by rfl) ?_ | refine w_aload_nN C dX10_colour_8 (by rfl) ?_
    refine gf_X10_124 C hpj dX10_colour_9 ?_
    refine w_bipush (v := (6)) C dX10_colour_12 (by rfl) ?_
    refine w_icmp_eq (tgt := 19) C dX10_colour_14 (by rfl) (fun c_14 => ?_) (fun c_14 => ?_)
    · have h46 : qSt (ps j).2.2 = 4 ∨ qSt (ps j).2.2 = 6 := Or.inr c_14
      obtain ⟨g, hg1⟩ := hg.2 (Or.inr h46)
      have hg2 := hg.1 g hg1
      obtain ⟨eg, ec⟩ := col_s (gs := gs) hg1
      rw [if_pos h46] at ec
      first | refine w_aload_n C dX10_colour_19 (by rfl) ?_ | refine w_aload_nN C dX10_colour_19 (by rfl) ?_
      refine gf_X10_16 C mm dX10_colour_20 ?_
      first | refine w_aload_n C dX10_colour_23 (by rfl) ?_ | refine w_aload_nN C dX10_colour_23 (by rfl) ?_
      refine gf_X10_144 C hpj dX10_colour_24 ?_
      rw [eg]
      refine cl_X10_58 C (m_get hl YY.lg YY.ag hg2) YY.lg (by rfl) (by rfl) ⟨by decide, by decide⟩ (by rfl) dX10_colour_27 (fun z2 h2 p2 => ?_)
      obtain ⟨rfl, rfl⟩ := p2
      refine w_castI C (mGl g hg2) gw_1313 dX10_colour_30 ?_
      refine w_iconst (v := 4) C dX10_colour_33 (by rfl) ?_
      refine w_ialdn (j := 4) C (mGl g hg2) (by decide) (by decide) dX10_colour_34 ?_
      rw [gI_4]
      refine w_iconst (v := 5) C dX10_colour_35 (by rfl) ?_
      refine w_icmp_ge (tgt := 43) C dX10_colour_36 (by rfl) (fun c_36 => ?_) (fun c_36 => ?_)
      · have c_36 : ¬ (gs g).2.2.2.2 < 5 := Int32.not_lt.mpr c_36
        first | refine w_aload_n C dX10_colour_43 (by rfl) ?_ | refine w_aload_nN C dX10_colour_43 (by rfl) ?_
        refine gf_X10_257 C hpj dX10_colour_44 ?_
        refine w_iconst (v := 4) C dX10_colour_47 (by rfl) ?_
        refine w_icmp_lt (tgt := 55) C dX10_colour_48 (by rfl) (fun c_48 => ?_) (fun c_48 => ?_)
        · have c_48 : ¬ 4 ≤ qSm (ps j).2.2 := Int32.not_le.mpr c_48
          refine w_iconst (v := 2) C dX10_colour_55 (by rfl) ?_
          refine w_iret C M dX10_colour_56 ⟨by decide, by decide⟩ ⟨_, rfl, ?_⟩
          refine ⟨rfl, ?_⟩
          rw [ec]
          simp only [*, if_true, if_false]
        · have c_48 : 4 ≤ qSm (ps j).2.2 := Int32.not_lt.mp c_48
          refine w_iconst (v := 1) C dX10_colour_51 (by rfl) ?_
          refine w_goto (tgt := 56) C dX10_colour_52 (by rfl) ?_
          refine w_iret C M dX10_colour_56 ⟨by decide, by decide⟩ ⟨_, rfl, ?_⟩
          refine ⟨rfl, ?_⟩
          rw [ec]
          simp only [*, if_true, if_false]
      · have c_36 : (gs g).2.2.2.2 < 5 := Int32.not_le.mp c_36
        refine w_iconst (v := 0) C dX10_colour_39 (by rfl) ?_
        refine w_goto (tgt := 56) C dX10_colour_40 (by rfl) ?_
        refine w_iret C M dX10_colour_56 ⟨by decide, by decide⟩ ⟨_, rfl, ?_⟩
        refine ⟨rfl, ?_⟩
        rw [ec]
        simp only [*, if_true, if_false]
    · refine w_iconst (v := (-1)) C dX10_colour_17 (by rfl) ?_
      refine w_iret C M dX10_colour_18 ⟨by decide, by decide⟩ ⟨_, rfl, ?_⟩
      exact ⟨rfl, (col_n (fun w => w.elim c_5 c_14)).symm⟩

set_option maxHeartbeats 4000000 in
set_option maxRecDepth 100000 in
theorem m_X10_meet {l : Launch} {D : va_G} {tc : Nat → ClassId} (hl : l.stackTraces = false) {h : HM} {m0 kl wk : Nat} {L : Nat → Nat} {E : Nat → Nat} {M : Nat → Int32} {ca : Nat → Nat} {ga : Nat → Nat} {pa : Nat → Nat} {oa : Nat → Nat} {ra : Nat → Nat} {th : Int32} {nC : Nat} {cs : Nat → Int32 × Int32} {nG : Nat} {gs : Nat → GT} {nP : Nat} {ps : Nat → PT} {nO : Nat} {os : Nat → OT} {nR : Nat} {rs : Nat → RT} {k : KT} {dmp : Int32} {day : Int32} {pur : Int32} {rf : Int32} (YY : Mh tc m0 kl wk L E M ca ga pa oa ra th nC cs nG gs nP ps nO os nR rs k dmp day pur rf h) (hn : nP ≤ 14) (hO : nO ≤ 6) (hg : ∀ i, i < nP → okGl nG (ps i)) {i pt : Int32} :
    CT l D tc yX10_meet cX10_meet 7 (some FieldType.int) rm_X10_meet [.ref m0, .int i, .int pt] h (rI (fun z h' => ((out9 i nO ∨ out9 pt nP) ∧ z = 0 ∧ MhE tc m0 kl wk 1 nC cs nG gs nP ps nO os nR rs k dmp day pur rf h') ∨ (∃ ow j, ow < nO ∧ i = nI ow ∧ j < nP ∧ pt = nI j ∧ ((¬ sp_meetok gs (os ow) (ps j) ∧ z = 0 ∧ MhE tc m0 kl wk 2 nC cs nG gs nP ps nO os nR rs k dmp day pur rf h') ∨ (sp_meetok gs (os ow) (ps j) ∧ z = sp_worth day (os ow) (ps j).2.2 ∧ MhE tc m0 kl wk 0 nC cs nG gs nP (vf_upd ps j (sp_soldp (ps j))) nO (vf_upd os ow (sp_metd (os ow))) nR rs k dmp day (pur + sp_worth day (os ow) (ps j).2.2) rf h'))))) := by
  refine CT.start [some (.ref m0), some (.int i), some (.int pt), none, none, none, none] (by decide) hl rfl rfl (fun K C M => ?_)
  obtain ⟨rfl, rfl, rfl, -⟩ := id M
  have C : CX K RX10 cX10_meet 7 rm_X10_meet := C
  obtain ⟨mm, mL, mk, mw, mCl, mGl, mPt, mOr, mRm, mn1, mn2, mn3⟩ := id YY
  first | refine w_aload_n C dX10_meet_0 (by rfl) ?_ | refine w_aload_nN C dX10_meet_0 (by rfl) ?_
  refine w_iload_n C dX10_meet_1 (by rfl) ?_
  refine w_iconst (v := 0) C dX10_meet_2 (by rfl) ?_
  first | refine w_aload_n C dX10_meet_3 (by rfl) ?_ | refine w_aload_nN C dX10_meet_3 (by rfl) ?_
  refine gf_X10_22 C mm dX10_meet_4 ?_
  refine cl_X10_40 C (m_Jx4a65c_size_8abf5 hl YY.lo) YY.lo (by rfl) (by rfl) ⟨by decide, by decide⟩ (by rfl) dX10_meet_7 (fun z1 h1 p1 => ?_)
  obtain ⟨rfl, rfl⟩ := p1
  refine w_iconst (v := 1) C dX10_meet_10 (by rfl) ?_
  refine w_isub C dX10_meet_11 ?_
  refine cl_X10_44 C (m_X10_isIn hl) (by rfl) (by rfl) ⟨by decide, by decide⟩ (by rfl) dX10_meet_12 (fun z2 h2 p2 => ?_)
  obtain ⟨rfl, rfl⟩ := p2
  refine w_if_eq (tgt := 26) C dX10_meet_15 (by rfl) (fun c_15 => ?_) (fun c_15 => ?_)
  · try simp only [cg_ge, cg_gt, cl_gt, cl_le, cl_eq, cl_lt, cl_ge, bi_eq0, bi_ne0, bI_eq0, Decidable.not_not, Bool.not_eq_false] at c_15
    rw [in_n (by omega)] at c_15
    have c_15 := Classical.not_not.mp c_15
    refine w_iconst (v := 1) C dX10_meet_26 (by rfl) ?_
    refine w_goto (tgt := 31) C dX10_meet_27 (by rfl) ?_
    refine w_iconst (v := 1) C dX10_meet_31 (by rfl) ?_
    refine cl_X10_88 C (m_X10_startT hl mm (by decide)) mm (by rfl) (by rfl) ⟨by decide, by decide⟩ (by rfl) dX10_meet_32 (fun z3 h3 p3 => ?_)
    obtain ⟨rfl, p3⟩ := p3
    have YY := YY.me (th2 := 1) (day2 := day) (dmp2 := dmp) (pur2 := pur) (rf2 := rf) p3
    obtain ⟨mm, mL, mk, mw, mCl, mGl, mPt, mOr, mRm, mn1, mn2, mn3⟩ := id YY
    refine w_if_eq (tgt := 40) C dX10_meet_35 (by rfl) (fun c_35 => ?_) (fun c_35 => ?_)
    · exact absurd c_35 (by decide)
    · try simp only [cg_ge, cg_gt, cl_gt, cl_le, cl_eq, cl_lt, cl_ge, bi_eq0, bi_ne0, bI_eq0, Decidable.not_not, Bool.not_eq_false] at c_35
      refine w_iconst (v := 0) C dX10_meet_38 (by rfl) ?_
      refine w_iret C M dX10_meet_39 ⟨by decide, by decide⟩ ⟨_, rfl, ?_⟩
      exact Or.inl ⟨Or.inl c_15, rfl, YY.ex⟩
  · try simp only [cg_ge, cg_gt, cl_gt, cl_le, cl_eq, cl_lt, cl_ge, bi_eq0, bi_ne0, bI_eq0, Decidable.not_not, Bool.not_eq_false] at c_15
    rw [in_n (by omega)] at c_15
    obtain ⟨ow, how, rfl⟩ := of_in c_15
    first | refine w_aload_n C dX10_meet_18 (by rfl) ?_ | refine w_aload_nN C dX10_meet_18 (by rfl) ?_
    refine w_iload_n C dX10_meet_19 (by rfl) ?_
    refine cl_X10_104 C (m_X10_isNoPot hl YY (by omega)) mm (by rfl) (by rfl) ⟨by decide, by decide⟩ (by rfl) dX10_meet_20 (fun z4 h4 p4 => ?_)
    obtain ⟨rfl, p_3⟩ := p4
    rcases p_3 with ⟨rfl, c_3⟩ | ⟨rfl, j, hj, rfl⟩
    · 
      refine w_if_eq (tgt := 30) C dX10_meet_23 (by rfl) (fun c_23 => ?_) (fun c_23 => ?_)
      · exact absurd c_23 (by decide)
      · try simp only [cg_ge, cg_gt, cl_gt, cl_le, cl_eq, cl_lt, cl_ge, bi_eq0, bi_ne0, bI_eq0, Decidable.not_not, Bool.not_eq_false] at c_23
        refine w_iconst (v := 1) C dX10_meet_26 (by rfl) ?_
        refine w_goto (tgt := 31) C dX10_meet_27 (by rfl) ?_
        refine w_iconst (v := 1) C dX10_meet_31 (by rfl) ?_
        refine cl_X10_88 C (m_X10_startT hl mm (by decide)) mm (by rfl) (by rfl) ⟨by decide, by decide⟩ (by rfl) dX10_meet_32 (fun z5 h5 p5 => ?_)
        obtain ⟨rfl, p5⟩ := p5
        have YY := YY.me (th2 := 1) (day2 := day) (dmp2 := dmp) (pur2 := pur) (rf2 := rf) p5
        obtain ⟨mm, mL, mk, mw, mCl, mGl, mPt, mOr, mRm, mn1, mn2, mn3⟩ := id YY
        refine w_if_eq (tgt := 40) C dX10_meet_35 (by rfl) (fun c_35 => ?_) (fun c_35 => ?_)
        · exact absurd c_35 (by decide)
        · try simp only [cg_ge, cg_gt, cl_gt, cl_le, cl_eq, cl_lt, cl_ge, bi_eq0, bi_ne0, bI_eq0, Decidable.not_not, Bool.not_eq_false] at c_35
          refine w_iconst (v := 0) C dX10_meet_38 (by rfl) ?_
          refine w_iret C M dX10_meet_39 ⟨by decide, by decide⟩ ⟨_, rfl, ?_⟩
          exact Or.inl ⟨Or.inr c_3, rfl, YY.ex⟩
    · 
      refine w_if_eq (tgt := 30) C dX10_meet_23 (by rfl) (fun c_23 => ?_) (fun c_23 => ?_)
      · try simp only [cg_ge, cg_gt, cl_gt, cl_le, cl_eq, cl_lt, cl_ge, bi_eq0, bi_ne0, bI_eq0, Decidable.not_not, Bool.not_eq_false] at c_23
        refine w_iconst (v := 0) C dX10_meet_30 (by rfl) ?_
        refine w_iconst (v := 1) C dX10_meet_31 (by rfl) ?_
        refine cl_X10_88 C (m_X10_startF hl mm) mm (by rfl) (by rfl) ⟨by decide, by decide⟩ (by rfl) dX10_meet_32 (fun z6 h6 p6 => ?_)
        obtain ⟨rfl, p6⟩ := p6
        have YY := YY.me (th2 := 0) (day2 := day) (dmp2 := dmp) (pur2 := pur) (rf2 := rf) p6
        obtain ⟨mm, mL, mk, mw, mCl, mGl, mPt, mOr, mRm, mn1, mn2, mn3⟩ := id YY
        refine w_if_eq (tgt := 40) C dX10_meet_35 (by rfl) (fun c_35 => ?_) (fun c_35 => ?_)
        · try simp only [cg_ge, cg_gt, cl_gt, cl_le, cl_eq, cl_lt, cl_ge, bi_eq0, bi_ne0, bI_eq0, Decidable.not_not, Bool.not_eq_false] at c_35
          have hoo := mOr ow how
          have hpj := mPt j hj
          first | refine w_aload_n C dX10_meet_40 (by rfl) ?_ | refine w_aload_nN C dX10_meet_40 (by rfl) ?_
          refine gf_X10_22 C mm dX10_meet_41 ?_
          refine w_iload_n C dX10_meet_44 (by rfl) ?_
          refine cl_X10_58 C (m_get hl YY.lo YY.ao how) YY.lo (by rfl) (by rfl) ⟨by decide, by decide⟩ (by rfl) dX10_meet_45 (fun z7 h7 p7 => ?_)
          obtain ⟨rfl, rfl⟩ := p7
          refine w_castI C hoo gw_1313 dX10_meet_48 ?_
          first | refine w_astore_3 C dX10_meet_51 (by first | trivial | rfl) ?_ | refine w_astore_3N C dX10_meet_51 (by first | trivial | rfl) ?_
          first | refine w_aload_n C dX10_meet_52 (by rfl) ?_ | refine w_aload_nN C dX10_meet_52 (by rfl) ?_
          refine gf_X10_19 C mm dX10_meet_53 ?_
          refine w_iload_n C dX10_meet_56 (by rfl) ?_
          refine cl_X10_58 C (m_get hl YY.lp YY.ap hj) YY.lp (by rfl) (by rfl) ⟨by decide, by decide⟩ (by rfl) dX10_meet_57 (fun z8 h8 p8 => ?_)
          obtain ⟨rfl, rfl⟩ := p8
          refine w_castS C hpj (r := (RX9, TX9, 12)) rfl gw_1152 dX10_meet_60 ?_
          first | refine w_astore_4 C dX10_meet_63 (by first | trivial | rfl) ?_ | refine w_astore_4N C dX10_meet_63 (by first | trivial | rfl) ?_
          first | refine w_aload_n C dX10_meet_65 (by rfl) ?_ | refine w_aload_nN C dX10_meet_65 (by rfl) ?_
          first | refine w_aload_n C dX10_meet_66 (by rfl) ?_ | refine w_aload_nN C dX10_meet_66 (by rfl) ?_
          refine w_iconst (v := 4) C dX10_meet_67 (by rfl) ?_
          refine w_ialdn (j := 4) C hoo (by decide) (by decide) dX10_meet_68 ?_
          rw [oI_4]
          refine w_iconst (v := 1) C dX10_meet_69 (by rfl) ?_
          refine w_icmp_eq (tgt := 105) C dX10_meet_70 (by rfl) (fun c_70 => ?_) (fun c_70 => ?_)
          · refine w_iconst (v := 1) C dX10_meet_105 (by rfl) ?_
            refine w_goto (tgt := 110) C dX10_meet_106 (by rfl) ?_
            refine w_iconst (v := 2) C dX10_meet_110 (by rfl) ?_
            refine cl_X10_36 C (m_X10_refuseT hl mm (by decide)) mm (by rfl) (by rfl) ⟨by decide, by decide⟩ (by rfl) dX10_meet_111 (fun z9 h9 p9 => ?_)
            obtain ⟨rfl, p9⟩ := p9
            have YY := YY.me (th2 := 2) (day2 := day) (dmp2 := dmp) (pur2 := pur) (rf2 := rf) p9
            obtain ⟨mm, mL, mk, mw, mCl, mGl, mPt, mOr, mRm, mn1, mn2, mn3⟩ := id YY
            refine w_if_eq (tgt := 119) C dX10_meet_114 (by rfl) (fun c_114 => ?_) (fun c_114 => ?_)
            · exact absurd c_114 (by decide)
            · try simp only [cg_ge, cg_gt, cl_gt, cl_le, cl_eq, cl_lt, cl_ge, bi_eq0, bi_ne0, bI_eq0, Decidable.not_not, Bool.not_eq_false] at c_114
              refine w_iconst (v := 0) C dX10_meet_117 (by rfl) ?_
              refine w_iret C M dX10_meet_118 ⟨by decide, by decide⟩ ⟨_, rfl, ?_⟩
              exact Or.inr ⟨ow, j, how, rfl, hj, rfl, Or.inl ⟨fun w => by rw [w.1] at c_70; exact absurd c_70 (by decide), rfl, YY.ex⟩⟩
          · first | refine w_aload C dX10_meet_73 (by rfl) ?_ | refine w_aloadN C dX10_meet_73 (by rfl) ?_
            refine gf_X10_124 C hpj dX10_meet_75 ?_
            refine w_iconst (v := 4) C dX10_meet_78 (by rfl) ?_
            refine w_icmp_ne (tgt := 105) C dX10_meet_79 (by rfl) (fun c_79 => ?_) (fun c_79 => ?_)
            · refine w_iconst (v := 1) C dX10_meet_105 (by rfl) ?_
              refine w_goto (tgt := 110) C dX10_meet_106 (by rfl) ?_
              refine w_iconst (v := 2) C dX10_meet_110 (by rfl) ?_
              refine cl_X10_36 C (m_X10_refuseT hl mm (by decide)) mm (by rfl) (by rfl) ⟨by decide, by decide⟩ (by rfl) dX10_meet_111 (fun z10 h10 p10 => ?_)
              obtain ⟨rfl, p10⟩ := p10
              have YY := YY.me (th2 := 2) (day2 := day) (dmp2 := dmp) (pur2 := pur) (rf2 := rf) p10
              obtain ⟨mm, mL, mk, mw, mCl, mGl, mPt, mOr, mRm, mn1, mn2, mn3⟩ := id YY
              refine w_if_eq (tgt := 119) C dX10_meet_114 (by rfl) (fun c_114 => ?_) (fun c_114 => ?_)
              · exact absurd c_114 (by decide)
              · try simp only [cg_ge, cg_gt, cl_gt, cl_le, cl_eq, cl_lt, cl_ge, bi_eq0, bi_ne0, bI_eq0, Decidable.not_not, Bool.not_eq_false] at c_114
                refine w_iconst (v := 0) C dX10_meet_117 (by rfl) ?_
                refine w_iret C M dX10_meet_118 ⟨by decide, by decide⟩ ⟨_, rfl, ?_⟩
                exact Or.inr ⟨ow, j, how, rfl, hj, rfl, Or.inl ⟨fun w => c_79 w.2.1, rfl, YY.ex⟩⟩
            · first | refine w_aload C dX10_meet_82 (by rfl) ?_ | refine w_aloadN C dX10_meet_82 (by rfl) ?_
              refine gf_X10_144 C hpj dX10_meet_84 ?_
              first | refine w_aload_n C dX10_meet_87 (by rfl) ?_ | refine w_aload_nN C dX10_meet_87 (by rfl) ?_
              refine w_iconst (v := 0) C dX10_meet_88 (by rfl) ?_
              refine w_ialdn (j := 0) C hoo (by decide) (by decide) dX10_meet_89 ?_
              rw [oI_0]
              refine w_icmp_ne (tgt := 105) C dX10_meet_90 (by rfl) (fun c_90 => ?_) (fun c_90 => ?_)
              · refine w_iconst (v := 1) C dX10_meet_105 (by rfl) ?_
                refine w_goto (tgt := 110) C dX10_meet_106 (by rfl) ?_
                refine w_iconst (v := 2) C dX10_meet_110 (by rfl) ?_
                refine cl_X10_36 C (m_X10_refuseT hl mm (by decide)) mm (by rfl) (by rfl) ⟨by decide, by decide⟩ (by rfl) dX10_meet_111 (fun z11 h11 p11 => ?_)
                obtain ⟨rfl, p11⟩ := p11
                have YY := YY.me (th2 := 2) (day2 := day) (dmp2 := dmp) (pur2 := pur) (rf2 := rf) p11
                obtain ⟨mm, mL, mk, mw, mCl, mGl, mPt, mOr, mRm, mn1, mn2, mn3⟩ := id YY
                refine w_if_eq (tgt := 119) C dX10_meet_114 (by rfl) (fun c_114 => ?_) (fun c_114 => ?_)
                · exact absurd c_114 (by decide)
                · try simp only [cg_ge, cg_gt, cl_gt, cl_le, cl_eq, cl_lt, cl_ge, bi_eq0, bi_ne0, bI_eq0, Decidable.not_not, Bool.not_eq_false] at c_114
                  refine w_iconst (v := 0) C dX10_meet_117 (by rfl) ?_
                  refine w_iret C M dX10_meet_118 ⟨by decide, by decide⟩ ⟨_, rfl, ?_⟩
                  exact Or.inr ⟨ow, j, how, rfl, hj, rfl, Or.inl ⟨fun w => c_90 w.2.2.1, rfl, YY.ex⟩⟩
              · first | refine w_aload_n C dX10_meet_93 (by rfl) ?_ | refine w_aload_nN C dX10_meet_93 (by rfl) ?_
                first | refine w_aload C dX10_meet_94 (by rfl) ?_ | refine w_aloadN C dX10_meet_94 (by rfl) ?_
                refine cl_X10_260 C (m_X10_colour hl YY hj (hg j hj)) mm (by rfl) (by rfl) ⟨by decide, by decide⟩ (by rfl) dX10_meet_96 (fun z12 h12 p12 => ?_)
                obtain ⟨rfl, rfl⟩ := p12
                first | refine w_aload_n C dX10_meet_99 (by rfl) ?_ | refine w_aload_nN C dX10_meet_99 (by rfl) ?_
                refine w_iconst (v := 1) C dX10_meet_100 (by rfl) ?_
                refine w_ialdn (j := 1) C hoo (by decide) (by decide) dX10_meet_101 ?_
                rw [oI_1]
                refine w_icmp_eq (tgt := 109) C dX10_meet_102 (by rfl) (fun c_102 => ?_) (fun c_102 => ?_)
                · refine w_iconst (v := 0) C dX10_meet_109 (by rfl) ?_
                  refine w_iconst (v := 2) C dX10_meet_110 (by rfl) ?_
                  refine cl_X10_36 C (m_X10_refuseF hl mm) mm (by rfl) (by rfl) ⟨by decide, by decide⟩ (by rfl) dX10_meet_111 (fun z13 h13 p13 => ?_)
                  obtain ⟨rfl, rfl⟩ := p13
                  refine w_if_eq (tgt := 119) C dX10_meet_114 (by rfl) (fun c_114 => ?_) (fun c_114 => ?_)
                  · try simp only [cg_ge, cg_gt, cl_gt, cl_le, cl_eq, cl_lt, cl_ge, bi_eq0, bi_ne0, bI_eq0, Decidable.not_not, Bool.not_eq_false] at c_114
                    have hoo := mOr ow how
                    have hpj := mPt j hj
                    first | refine w_aload C dX10_meet_119 (by rfl) ?_ | refine w_aloadN C dX10_meet_119 (by rfl) ?_
                    refine gf_X10_237 C hpj dX10_meet_121 ?_
                    refine w_if_ne (tgt := 133) C dX10_meet_124 (by rfl) (fun c_124 => ?_) (fun c_124 => ?_)
                    · try simp only [cg_ge, cg_gt, cl_gt, cl_le, cl_eq, cl_lt, cl_ge, bi_eq0, bi_ne0, bI_eq0, Decidable.not_not, Bool.not_eq_false] at c_124
                      first | refine w_aload_n C dX10_meet_133 (by rfl) ?_ | refine w_aload_nN C dX10_meet_133 (by rfl) ?_
                      refine w_iconst (v := 3) C dX10_meet_134 (by rfl) ?_
                      refine w_ialdn (j := 3) C hoo (by decide) (by decide) dX10_meet_135 ?_
                      rw [oI_3]
                      refine w_iconst (v := 2) C dX10_meet_136 (by rfl) ?_
                      refine w_idiv C dX10_meet_137 (by decide) ?_
                      refine w_istore_5 C dX10_meet_138 (by first | trivial | rfl) ?_
                      refine w_iconst (v := 0) C dX10_meet_140 (by rfl) ?_
                      refine w_iload C dX10_meet_141 (by rfl) ?_
                      refine w_iconst (v := 0) C dX10_meet_143 (by rfl) ?_
                      first | refine w_aload_n C dX10_meet_144 (by rfl) ?_ | refine w_aload_nN C dX10_meet_144 (by rfl) ?_
                      refine gf_X10_131 C mm dX10_meet_145 ?_
                      first | refine w_aload_n C dX10_meet_148 (by rfl) ?_ | refine w_aload_nN C dX10_meet_148 (by rfl) ?_
                      refine w_iconst (v := 2) C dX10_meet_149 (by rfl) ?_
                      refine w_ialdn (j := 2) C hoo (by decide) (by decide) dX10_meet_150 ?_
                      rw [oI_2]
                      refine w_isub C dX10_meet_151 ?_
                      refine w_imax C gw_1498 gw_480 gw_66 gw_481 (by rfl) (by rfl) (by rfl) ⟨by decide, by decide⟩ dX10_meet_152 ?_
                      refine w_isub C dX10_meet_155 ?_
                      refine w_imax C gw_1498 gw_480 gw_66 gw_481 (by rfl) (by rfl) (by rfl) ⟨by decide, by decide⟩ dX10_meet_156 ?_
                      refine w_istore_6 C dX10_meet_159 (by first | trivial | rfl) ?_
                      first | refine w_aload_n C dX10_meet_161 (by rfl) ?_ | refine w_aload_nN C dX10_meet_161 (by rfl) ?_
                      refine w_iconst (v := 4) C dX10_meet_162 (by rfl) ?_
                      refine w_iconst (v := 1) C dX10_meet_163 (by rfl) ?_
                      refine w_iastn (j := 4) C hoo (by decide) (by decide) dX10_meet_164 (fun h9 u9 => ?_)
                      have YY := YY.ord how (o := sp_metd (os ow)) (u9.to (by rw [← oI_met]))
                      obtain ⟨mm, mL, mk, mw, mCl, mGl, mPt, mOr, mRm, mn1, mn2, mn3⟩ := id YY
                      have hpj := mPt j hj
                      first | refine w_aload C dX10_meet_165 (by rfl) ?_ | refine w_aloadN C dX10_meet_165 (by rfl) ?_
                      refine w_bipush (v := (6)) C dX10_meet_167 (by rfl) ?_
                      refine pf_X10_124 C hpj dX10_meet_169 (fun h14 u14 => ?_)
                      have hpj := u14.self
                      have YY := YY.pot hj (p := sp_soldp (ps j)) u14
                      obtain ⟨mm, mL, mk, mw, mCl, mGl, mPt, mOr, mRm, mn1, mn2, mn3⟩ := id YY
                      first | refine w_aload_n C dX10_meet_172 (by rfl) ?_ | refine w_aload_nN C dX10_meet_172 (by rfl) ?_
                      refine w_dup C dX10_meet_173 (by rfl) ?_
                      refine gf_X10_264 C mm dX10_meet_174 ?_
                      refine w_iload C dX10_meet_177 (by rfl) ?_
                      refine w_iadd C dX10_meet_179 ?_
                      refine pf_X10_264 C mm dX10_meet_180 (fun h15 u15 => ?_)
                      have mm := u15.self
                      have YY := YY.me (th2 := 0) (day2 := day) (dmp2 := dmp) (pur2 := _) (rf2 := rf) u15
                      obtain ⟨mm, mL, mk, mw, mCl, mGl, mPt, mOr, mRm, mn1, mn2, mn3⟩ := id YY
                      refine w_iload C dX10_meet_183 (by rfl) ?_
                      refine w_iret C M dX10_meet_185 ⟨by decide, by decide⟩ ⟨_, rfl, ?_⟩
                      exact Or.inr ⟨ow, j, how, rfl, hj, rfl, Or.inr ⟨⟨by cases hm9 : (os ow).2.2.2.2 with | false => rfl | true => exact absurd (by rw [hm9]; rfl) c_70, c_79, c_90, c_102⟩, by unfold sp_worth; simp only [c_124, if_true, if_false], by unfold sp_worth; simp only [c_124, if_true, if_false]; exact YY.ex⟩⟩
                    · try simp only [cg_ge, cg_gt, cl_gt, cl_le, cl_eq, cl_lt, cl_ge, bi_eq0, bi_ne0, bI_eq0, Decidable.not_not, Bool.not_eq_false] at c_124
                      first | refine w_aload_n C dX10_meet_127 (by rfl) ?_ | refine w_aload_nN C dX10_meet_127 (by rfl) ?_
                      refine w_iconst (v := 3) C dX10_meet_128 (by rfl) ?_
                      refine w_ialdn (j := 3) C hoo (by decide) (by decide) dX10_meet_129 ?_
                      rw [oI_3]
                      refine w_goto (tgt := 138) C dX10_meet_130 (by rfl) ?_
                      refine w_istore_5 C dX10_meet_138 (by first | trivial | rfl) ?_
                      refine w_iconst (v := 0) C dX10_meet_140 (by rfl) ?_
                      refine w_iload C dX10_meet_141 (by rfl) ?_
                      refine w_iconst (v := 0) C dX10_meet_143 (by rfl) ?_
                      first | refine w_aload_n C dX10_meet_144 (by rfl) ?_ | refine w_aload_nN C dX10_meet_144 (by rfl) ?_
                      refine gf_X10_131 C mm dX10_meet_145 ?_
                      first | refine w_aload_n C dX10_meet_148 (by rfl) ?_ | refine w_aload_nN C dX10_meet_148 (by rfl) ?_
                      refine w_iconst (v := 2) C dX10_meet_149 (by rfl) ?_
                      refine w_ialdn (j := 2) C hoo (by decide) (by decide) dX10_meet_150 ?_
                      rw [oI_2]
                      refine w_isub C dX10_meet_151 ?_
                      refine w_imax C gw_1498 gw_480 gw_66 gw_481 (by rfl) (by rfl) (by rfl) ⟨by decide, by decide⟩ dX10_meet_152 ?_
                      refine w_isub C dX10_meet_155 ?_
                      refine w_imax C gw_1498 gw_480 gw_66 gw_481 (by rfl) (by rfl) (by rfl) ⟨by decide, by decide⟩ dX10_meet_156 ?_
                      refine w_istore_6 C dX10_meet_159 (by first | trivial | rfl) ?_
                      first | refine w_aload_n C dX10_meet_161 (by rfl) ?_ | refine w_aload_nN C dX10_meet_161 (by rfl) ?_
                      refine w_iconst (v := 4) C dX10_meet_162 (by rfl) ?_
                      refine w_iconst (v := 1) C dX10_meet_163 (by rfl) ?_
                      refine w_iastn (j := 4) C hoo (by decide) (by decide) dX10_meet_164 (fun h9 u9 => ?_)
                      have YY := YY.ord how (o := sp_metd (os ow)) (u9.to (by rw [← oI_met]))
                      obtain ⟨mm, mL, mk, mw, mCl, mGl, mPt, mOr, mRm, mn1, mn2, mn3⟩ := id YY
                      have hpj := mPt j hj
                      first | refine w_aload C dX10_meet_165 (by rfl) ?_ | refine w_aloadN C dX10_meet_165 (by rfl) ?_
                      refine w_bipush (v := (6)) C dX10_meet_167 (by rfl) ?_
                      refine pf_X10_124 C hpj dX10_meet_169 (fun h16 u16 => ?_)
                      have hpj := u16.self
                      have YY := YY.pot hj (p := sp_soldp (ps j)) u16
                      obtain ⟨mm, mL, mk, mw, mCl, mGl, mPt, mOr, mRm, mn1, mn2, mn3⟩ := id YY
                      first | refine w_aload_n C dX10_meet_172 (by rfl) ?_ | refine w_aload_nN C dX10_meet_172 (by rfl) ?_
                      refine w_dup C dX10_meet_173 (by rfl) ?_
                      refine gf_X10_264 C mm dX10_meet_174 ?_
                      refine w_iload C dX10_meet_177 (by rfl) ?_
                      refine w_iadd C dX10_meet_179 ?_
                      refine pf_X10_264 C mm dX10_meet_180 (fun h17 u17 => ?_)
                      have mm := u17.self
                      have YY := YY.me (th2 := 0) (day2 := day) (dmp2 := dmp) (pur2 := _) (rf2 := rf) u17
                      obtain ⟨mm, mL, mk, mw, mCl, mGl, mPt, mOr, mRm, mn1, mn2, mn3⟩ := id YY
                      refine w_iload C dX10_meet_183 (by rfl) ?_
                      refine w_iret C M dX10_meet_185 ⟨by decide, by decide⟩ ⟨_, rfl, ?_⟩
                      exact Or.inr ⟨ow, j, how, rfl, hj, rfl, Or.inr ⟨⟨by cases hm9 : (os ow).2.2.2.2 with | false => rfl | true => exact absurd (by rw [hm9]; rfl) c_70, c_79, c_90, c_102⟩, by unfold sp_worth; simp only [c_124, if_true, if_false], by unfold sp_worth; simp only [c_124, if_true, if_false]; exact YY.ex⟩⟩
                  · exact absurd c_114 (by decide)
                · refine w_iconst (v := 1) C dX10_meet_105 (by rfl) ?_
                  refine w_goto (tgt := 110) C dX10_meet_106 (by rfl) ?_
                  refine w_iconst (v := 2) C dX10_meet_110 (by rfl) ?_
                  refine cl_X10_36 C (m_X10_refuseT hl mm (by decide)) mm (by rfl) (by rfl) ⟨by decide, by decide⟩ (by rfl) dX10_meet_111 (fun z18 h18 p18 => ?_)
                  obtain ⟨rfl, p18⟩ := p18
                  have YY := YY.me (th2 := 2) (day2 := day) (dmp2 := dmp) (pur2 := pur) (rf2 := rf) p18
                  obtain ⟨mm, mL, mk, mw, mCl, mGl, mPt, mOr, mRm, mn1, mn2, mn3⟩ := id YY
                  refine w_if_eq (tgt := 119) C dX10_meet_114 (by rfl) (fun c_114 => ?_) (fun c_114 => ?_)
                  · exact absurd c_114 (by decide)
                  · try simp only [cg_ge, cg_gt, cl_gt, cl_le, cl_eq, cl_lt, cl_ge, bi_eq0, bi_ne0, bI_eq0, Decidable.not_not, Bool.not_eq_false] at c_114
                    refine w_iconst (v := 0) C dX10_meet_117 (by rfl) ?_
                    refine w_iret C M dX10_meet_118 ⟨by decide, by decide⟩ ⟨_, rfl, ?_⟩
                    exact Or.inr ⟨ow, j, how, rfl, hj, rfl, Or.inl ⟨fun w => c_102 w.2.2.2, rfl, YY.ex⟩⟩
        · exact absurd c_35 (by decide)
      · exact absurd rfl c_23
