/-! DIP AND SET -/
abbrev sp_dipp (g : Nat) (p : PT) : PT := (p.1, some g, (qWd p.2.2, qHg p.2.2, qWl p.2.2, 3, qWa p.2.2, qCv p.2.2, qSm p.2.2, qMk p.2.2, qSh p.2.2, qCe p.2.2))
abbrev sp_setp (sh ce : Int32) (p : PT) : PT := (p.1, p.2.1, (qWd p.2.2, qHg p.2.2, qWl p.2.2, qSt p.2.2, qWa p.2.2, qCv p.2.2, qSm p.2.2, qMk p.2.2, sh, ce))
/-- whether a pot can be set there -/
def sp_setok (k : KT) (nP : Nat) (ps : Nat → PT) (s : Nat) (ce : Int32) (q : QT) : Prop :=
  (kL k = false ∧ dlt (kH k) 4636737291354636288) ∧ (qSh q = -1 ∧ (qSt q = 0 ∨ qSt q = 1 ∨ qSt q = 3)) ∧ qHg q ≤ (if nI s = 2 then 2 else 3) ∧ ce + qWd q ≤ 10 ∧ sp_tk nP ps (nI s) 14 &&& sp_cf ce (qWd q) = 0

set_option maxHeartbeats 4000000 in
set_option maxRecDepth 100000 in
theorem m_X7_dip {l : Launch} {D : va_G} {tc : Nat → ClassId} (hl : l.stackTraces = false) {h : HM} {y0 cA gA pA oA pr ra re rw tr tw : Nat} {ca ga pa oa : Nat → Nat} {f : Nat → Option Nat} {hb : UInt64} {hbt : UInt64} {dmt : Int32} {kt : KT} {nC : Nat} {cs : Nat → Int32 × Int32} {nG : Nat} {gs : Nat → GT} {nP : Nat} {ps : Nat → PT} {nO : Nat} {os : Nat → OT} {nR : Nat} {rs : Nat → RT} {k : KT} {dmp : Int32} {day : Int32} {pur : Int32} {rf : Int32} (Y : Yh tc y0 cA gA pA oA pr ra re rw tr tw ca ga pa oa f hb hbt dmt kt nC cs nG gs nP ps nO os nR rs k dmp day pur rf h) (bP : nP ≤ 14) (bG : nG ≤ 4) {i gl : Int32} :
    CTX l D tc yX7_dip cX7_dip 5 (some FieldType.int) rm_X7_dip [.ref y0, .int i, .int gl] h (rI (fun z h' => ∃ j g, j < nP ∧ i = nI j ∧ g < nG ∧ gl = nI g ∧ qSt (ps j).2.2 = 2 ∧ z = sp_melts (gs g) ∧ Yh tc y0 cA gA pA oA pr ra re rw tr tw ca ga pa oa f hb hbt dmt kt nC cs nG gs nP (vf_upd ps j (sp_dipp g (ps j))) nO os nR rs k dmp day pur rf h')) (fun E h' => (E = "java/lang/IndexOutOfBoundsException" ∧ h' = h ∧ (out9 i nP ∨ out9 gl nG)) ∨ (E = "java/lang/IllegalStateException" ∧ h' = h ∧ ∃ j g, j < nP ∧ i = nI j ∧ g < nG ∧ gl = nI g ∧ ¬ qSt (ps j).2.2 = 2)) := by
  refine CTX.start [some (.ref y0), some (.int i), some (.int gl), none, none] (by decide) hl rfl rfl (fun K C M X => ?_)
  obtain ⟨rfl, rfl, rfl, -⟩ := id M
  have C : CX K RX7 cX7_dip 5 rm_X7_dip := C
  obtain ⟨yy, yc, yg, yp, yo, ypr, yra, yre, yrw, ytr, ytw, yC, yG, yP, yO, yR, yn1, yn2, yn3, yn4⟩ := id Y
  first | refine w_aload_n C dX7_dip_0 (by rfl) ?_ | refine w_aload_nN C dX7_dip_0 (by rfl) ?_
  refine w_iload_n C dX7_dip_1 (by rfl) ?_
  refine cx_X7_117 C (m_X7_potAt hl Y bP i) yy (by rfl) (by rfl) ⟨by decide, by decide⟩ (by rfl) dX7_dip_2 (fun z1 h1 p1 => ?_) (fun E hx px => w_prop X ⟨by decide, by decide⟩ (Or.inl ⟨px.1, px.2.1, Or.inl px.2.2⟩))
  obtain ⟨rfl, j, hj, rfl, rfl⟩ := p1
  have hpj := yP j hj
  first | refine w_astore_3 C dX7_dip_5 (by first | trivial | rfl) ?_ | refine w_astore_3N C dX7_dip_5 (by first | trivial | rfl) ?_
  first | refine w_aload_n C dX7_dip_6 (by rfl) ?_ | refine w_aload_nN C dX7_dip_6 (by rfl) ?_
  refine w_iload_n C dX7_dip_7 (by rfl) ?_
  refine cx_X7_137 C (m_X7_glazeAt hl Y bG gl) yy (by rfl) (by rfl) ⟨by decide, by decide⟩ (by rfl) dX7_dip_8 (fun z2 h2 p2 => ?_) (fun E hx px => w_prop X ⟨by decide, by decide⟩ (Or.inl ⟨px.1, px.2.1, Or.inr px.2.2⟩))
  obtain ⟨rfl, g, hg, rfl, rfl⟩ := p2
  have hgg := yG g hg
  first | refine w_astore_4 C dX7_dip_11 (by first | trivial | rfl) ?_ | refine w_astore_4N C dX7_dip_11 (by first | trivial | rfl) ?_
  first | refine w_aload_n C dX7_dip_13 (by rfl) ?_ | refine w_aload_nN C dX7_dip_13 (by rfl) ?_
  refine gf_X7_141 C hpj dX7_dip_14 ?_
  refine w_iconst (v := 2) C dX7_dip_17 (by rfl) ?_
  refine w_icmp_eq (tgt := 31) C dX7_dip_18 (by rfl) (fun c_18 => ?_) (fun c_18 => ?_)
  · first | refine w_aload_n C dX7_dip_31 (by rfl) ?_ | refine w_aload_nN C dX7_dip_31 (by rfl) ?_
    first | refine w_aload C dX7_dip_32 (by rfl) ?_ | refine w_aloadN C dX7_dip_32 (by rfl) ?_
    refine pf_X7_146 C hpj dX7_dip_34 (fun h3 u3 => ?_)
    have hgg := u3.oth hgg hpj (by intro q; simp at q)
    have hpj := u3.self
    first | refine w_aload_n C dX7_dip_37 (by rfl) ?_ | refine w_aload_nN C dX7_dip_37 (by rfl) ?_
    refine w_iconst (v := 3) C dX7_dip_38 (by rfl) ?_
    refine pf_X7_141 C hpj dX7_dip_39 (fun h4 u4 => ?_)
    have hgg := u4.oth hgg hpj (by intro q; simp at q)
    have hpj := u4.self
    first | refine w_aload C dX7_dip_42 (by rfl) ?_ | refine w_aloadN C dX7_dip_42 (by rfl) ?_
    refine gf_X7_150 C hgg dX7_dip_44 ?_
    refine w_iret C M dX7_dip_47 ⟨by decide, by decide⟩ ⟨_, rfl, ?_⟩
    exact ⟨j, g, hj, rfl, hg, rfl, c_18, rfl, Yh.pot Y hj (p := sp_dipp g (ps j)) (u3.tr u4)⟩
  · exact th_X7_85_144_89 C X (by rfl) (by rfl) (by rfl) (by decide) (by decide) (by decide) (by decide) (Or.inr ⟨rfl, rfl, j, g, hj, rfl, hg, rfl, c_18⟩) dX7_dip_21 dX7_dip_24 dX7_dip_25 dX7_dip_27 dX7_dip_30

set_option maxHeartbeats 4000000 in
set_option maxRecDepth 100000 in
theorem m_X7_set {l : Launch} {D : va_G} {tc : Nat → ClassId} (hl : l.stackTraces = false) {h : HM} {y0 cA gA pA oA pr ra re rw tr tw : Nat} {ca ga pa oa : Nat → Nat} {f : Nat → Option Nat} {hb : UInt64} {hbt : UInt64} {dmt : Int32} {kt : KT} {nC : Nat} {cs : Nat → Int32 × Int32} {nG : Nat} {gs : Nat → GT} {nP : Nat} {ps : Nat → PT} {nO : Nat} {os : Nat → OT} {nR : Nat} {rs : Nat → RT} {k : KT} {dmp : Int32} {day : Int32} {pur : Int32} {rf : Int32} (Y : Yh tc y0 cA gA pA oA pr ra re rw tr tw ca ga pa oa f hb hbt dmt kt nC cs nG gs nP ps nO os nR rs k dmp day pur rf h) (bP : nP ≤ 14) {i sh ce : Int32} :
    CTX l D tc yX7_set cX7_set 6 (some FieldType.int) rm_X7_set [.ref y0, .int i, .int sh, .int ce] h (rI (fun z h' => ∃ j s, j < nP ∧ i = nI j ∧ s < 3 ∧ sh = nI s ∧ (0 ≤ ce ∧ ce ≤ 9) ∧ sp_setok k nP ps s ce (ps j).2.2 ∧ z = 10 - sp_bc (sp_tk nP (vf_upd ps j (sp_setp (nI s) ce (ps j))) (nI s) 14) ∧ Yh tc y0 cA gA pA oA pr ra re rw tr tw ca ga pa oa f hb hbt dmt kt nC cs nG gs nP (vf_upd ps j (sp_setp (nI s) ce (ps j))) nO os nR rs k dmp day pur rf h')) (fun E h' => (E = "java/lang/IndexOutOfBoundsException" ∧ h' = h ∧ (out9 i nP ∨ out9 sh 3 ∨ ¬ (0 ≤ ce ∧ ce ≤ 9))) ∨ (E = "java/lang/IllegalStateException" ∧ h' = h ∧ ∃ j s, j < nP ∧ i = nI j ∧ s < 3 ∧ sh = nI s ∧ (0 ≤ ce ∧ ce ≤ 9) ∧ ¬ sp_setok k nP ps s ce (ps j).2.2)) := by
  refine CTX.start [some (.ref y0), some (.int i), some (.int sh), some (.int ce), none, none] (by decide) hl rfl rfl (fun K C M X => ?_)
  obtain ⟨rfl, rfl, rfl, -⟩ := id M
  have C : CX K RX7 cX7_set 6 rm_X7_set := C
  obtain ⟨yy, yc, yg, yp, yo, ypr, yra, yre, yrw, ytr, ytw, yC, yG, yP, yO, yR, yn1, yn2, yn3, yn4⟩ := id Y
  first | refine w_aload_n C dX7_set_0 (by rfl) ?_ | refine w_aload_nN C dX7_set_0 (by rfl) ?_
  refine w_iload_n C dX7_set_1 (by rfl) ?_
  refine cx_X7_117 C (m_X7_potAt hl Y bP i) yy (by rfl) (by rfl) ⟨by decide, by decide⟩ (by rfl) dX7_set_2 (fun z1 h1 p1 => ?_) (fun E hx px => w_prop X ⟨by decide, by decide⟩ (Or.inl ⟨px.1, px.2.1, Or.inl px.2.2⟩))
  obtain ⟨rfl, j, hj, rfl, rfl⟩ := p1
  have hpj := yP j hj
  first | refine w_astore_4 C dX7_set_5 (by first | trivial | rfl) ?_ | refine w_astore_4N C dX7_set_5 (by first | trivial | rfl) ?_
  refine w_iload_n C dX7_set_7 (by rfl) ?_
  refine cx_X7_153 C (m_X7_testShelf hl sh) (by rfl) (by rfl) ⟨by decide, by decide⟩ (by rfl) dX7_set_8 (fun h2 p2 => ?_) (fun E hx px => w_prop X ⟨by decide, by decide⟩ (Or.inl ⟨px.1, px.2.1, Or.inr (Or.inl px.2.2)⟩))
  obtain ⟨rfl, w0, w1⟩ := p2
  obtain ⟨s, hs, rfl⟩ := nI_i (N := 3) w0 w1
  refine w_iload_n C dX7_set_11 (by rfl) ?_
  refine w_iconst (v := 0) C dX7_set_12 (by rfl) ?_
  refine w_bipush (v := (9)) C dX7_set_13 (by rfl) ?_
  refine cl_X7_74 C (m_X7_isWithin hl ce 0 9) (by rfl) (by rfl) ⟨by decide, by decide⟩ (by rfl) dX7_set_15 (fun z3 h3 p3 => ?_)
  obtain ⟨rfl, rfl⟩ := p3
  refine w_if_ne (tgt := 31) C dX7_set_18 (by rfl) (fun c_18 => ?_) (fun c_18 => ?_)
  · try simp only [cg_ge, cg_gt, cl_gt, cl_le, cl_eq, cl_lt, cl_ge, bi_eq0, bi_ne0, bI_eq0, Decidable.not_not, Bool.not_eq_false] at c_18
    first | refine w_aload_n C dX7_set_31 (by rfl) ?_ | refine w_aload_nN C dX7_set_31 (by rfl) ?_
    refine gf_X7_58 C yy dX7_set_32 ?_
    refine cl_X7_161 C (m_X2_isInReach hl yre) yre (by rfl) (by rfl) ⟨by decide, by decide⟩ (by rfl) dX7_set_35 (fun z4 h4 p4 => ?_)
    obtain ⟨rfl, rfl⟩ := p4
    refine w_if_eq (tgt := 61) C dX7_set_38 (by rfl) (fun c_38 => ?_) (fun c_38 => ?_)
    · try simp only [cg_ge, cg_gt, cl_gt, cl_le, cl_eq, cl_lt, cl_ge, bi_eq0, bi_ne0, bI_eq0, Decidable.not_not, Bool.not_eq_false] at c_38
      exact th_X7_85_174_89 C X (by rfl) (by rfl) (by rfl) (by decide) (by decide) (by decide) (by decide) (Or.inr ⟨rfl, rfl, j, s, hj, rfl, hs, rfl, c_18, by first | exact fun w => c_38 w.1 | exact fun w => c_46 w.2.1 | exact fun w => c_58 w.2.2.1⟩) dX7_set_61 dX7_set_64 dX7_set_65 dX7_set_67 dX7_set_70
    · try simp only [cg_ge, cg_gt, cl_gt, cl_le, cl_eq, cl_lt, cl_ge, bi_eq0, bi_ne0, bI_eq0, Decidable.not_not, Bool.not_eq_false] at c_38
      first | refine w_aload C dX7_set_41 (by rfl) ?_ | refine w_aloadN C dX7_set_41 (by rfl) ?_
      refine cl_X7_165 C (m_X4_canBeSet hl hpj) hpj (by rfl) (by rfl) ⟨by decide, by decide⟩ (by rfl) dX7_set_43 (fun z5 h5 p5 => ?_)
      obtain ⟨rfl, rfl⟩ := p5
      refine w_if_eq (tgt := 61) C dX7_set_46 (by rfl) (fun c_46 => ?_) (fun c_46 => ?_)
      · try simp only [cg_ge, cg_gt, cl_gt, cl_le, cl_eq, cl_lt, cl_ge, bi_eq0, bi_ne0, bI_eq0, Decidable.not_not, Bool.not_eq_false] at c_46
        exact th_X7_85_174_89 C X (by rfl) (by rfl) (by rfl) (by decide) (by decide) (by decide) (by decide) (Or.inr ⟨rfl, rfl, j, s, hj, rfl, hs, rfl, c_18, by first | exact fun w => c_38 w.1 | exact fun w => c_46 w.2.1 | exact fun w => c_58 w.2.2.1⟩) dX7_set_61 dX7_set_64 dX7_set_65 dX7_set_67 dX7_set_70
      · try simp only [cg_ge, cg_gt, cl_gt, cl_le, cl_eq, cl_lt, cl_ge, bi_eq0, bi_ne0, bI_eq0, Decidable.not_not, Bool.not_eq_false] at c_46
        first | refine w_aload C dX7_set_49 (by rfl) ?_ | refine w_aloadN C dX7_set_49 (by rfl) ?_
        refine gf_X7_168 C hpj dX7_set_51 ?_
        refine w_iload_n C dX7_set_54 (by rfl) ?_
        refine cl_X7_171 C (m_X7_heightOf hl (nI s)) (by rfl) (by rfl) ⟨by decide, by decide⟩ (by rfl) dX7_set_55 (fun z6 h6 p6 => ?_)
        obtain ⟨rfl, rfl⟩ := p6
        refine w_icmp_le (tgt := 71) C dX7_set_58 (by rfl) (fun c_58 => ?_) (fun c_58 => ?_)
        · first | refine w_aload_n C dX7_set_71 (by rfl) ?_ | refine w_aload_nN C dX7_set_71 (by rfl) ?_
          refine w_iload_n C dX7_set_72 (by rfl) ?_
          refine cl_X7_176 C (m_X7_takenCells hl Y (nI s)) yy (by rfl) (by rfl) ⟨by decide, by decide⟩ (by rfl) dX7_set_73 (fun z7 h7 p7 => ?_)
          obtain ⟨rfl, rfl⟩ := p7
          refine w_iload_n C dX7_set_76 (by rfl) ?_
          first | refine w_aload C dX7_set_77 (by rfl) ?_ | refine w_aloadN C dX7_set_77 (by rfl) ?_
          refine gf_X7_179 C hpj dX7_set_79 ?_
          refine cl_X7_182 C (m_X7_cellsFrom hl ce (qWd (ps j).2.2)) (by rfl) (by rfl) ⟨by decide, by decide⟩ (by rfl) dX7_set_82 (fun z8 h8 p8 => ?_)
          obtain ⟨rfl, rfl⟩ := p8
          refine w_iand C dX7_set_85 ?_
          refine w_if_ne (tgt := 93) C dX7_set_86 (by rfl) (fun c_86 => ?_) (fun c_86 => ?_)
          · try simp only [cg_ge, cg_gt, cl_gt, cl_le, cl_eq, cl_lt, cl_ge, bi_eq0, bi_ne0, bI_eq0, Decidable.not_not, Bool.not_eq_false] at c_86
            refine w_iconst (v := 0) C dX7_set_93 (by rfl) ?_
            refine w_istore_5 C dX7_set_94 (by first | trivial | rfl) ?_
            refine w_iload_n C dX7_set_96 (by rfl) ?_
            first | refine w_aload C dX7_set_97 (by rfl) ?_ | refine w_aloadN C dX7_set_97 (by rfl) ?_
            refine gf_X7_179 C hpj dX7_set_99 ?_
            refine w_iadd C dX7_set_102 ?_
            refine w_bipush (v := (10)) C dX7_set_103 (by rfl) ?_
            refine w_icmp_gt (tgt := 113) C dX7_set_105 (by rfl) (fun c_105 => ?_) (fun c_105 => ?_)
            · exact th_X7_85_186_89 C X (by rfl) (by rfl) (by rfl) (by decide) (by decide) (by decide) (by decide) (Or.inr ⟨rfl, rfl, j, s, hj, rfl, hs, rfl, c_18, by first | exact fun w => absurd c_105 (Int32.not_lt.mpr w.2.2.2.1) | exact fun w => c_86 w.2.2.2.2⟩) dX7_set_113 dX7_set_116 dX7_set_117 dX7_set_119 dX7_set_122
            · refine w_iload C dX7_set_108 (by rfl) ?_
              refine w_if_ne (tgt := 123) C dX7_set_110 (by rfl) (fun c_110 => ?_) (fun c_110 => ?_)
              · exact absurd rfl c_110
              · try simp only [cg_ge, cg_gt, cl_gt, cl_le, cl_eq, cl_lt, cl_ge, bi_eq0, bi_ne0, bI_eq0, Decidable.not_not, Bool.not_eq_false] at c_110
                exact th_X7_85_186_89 C X (by rfl) (by rfl) (by rfl) (by decide) (by decide) (by decide) (by decide) (Or.inr ⟨rfl, rfl, j, s, hj, rfl, hs, rfl, c_18, by first | exact fun w => absurd c_105 (Int32.not_lt.mpr w.2.2.2.1) | exact fun w => c_86 w.2.2.2.2⟩) dX7_set_113 dX7_set_116 dX7_set_117 dX7_set_119 dX7_set_122
          · try simp only [cg_ge, cg_gt, cl_gt, cl_le, cl_eq, cl_lt, cl_ge, bi_eq0, bi_ne0, bI_eq0, Decidable.not_not, Bool.not_eq_false] at c_86
            refine w_iconst (v := 1) C dX7_set_89 (by rfl) ?_
            refine w_goto (tgt := 94) C dX7_set_90 (by rfl) ?_
            refine w_istore_5 C dX7_set_94 (by first | trivial | rfl) ?_
            refine w_iload_n C dX7_set_96 (by rfl) ?_
            first | refine w_aload C dX7_set_97 (by rfl) ?_ | refine w_aloadN C dX7_set_97 (by rfl) ?_
            refine gf_X7_179 C hpj dX7_set_99 ?_
            refine w_iadd C dX7_set_102 ?_
            refine w_bipush (v := (10)) C dX7_set_103 (by rfl) ?_
            refine w_icmp_gt (tgt := 113) C dX7_set_105 (by rfl) (fun c_105 => ?_) (fun c_105 => ?_)
            · exact th_X7_85_186_89 C X (by rfl) (by rfl) (by rfl) (by decide) (by decide) (by decide) (by decide) (Or.inr ⟨rfl, rfl, j, s, hj, rfl, hs, rfl, c_18, by first | exact fun w => absurd c_105 (Int32.not_lt.mpr w.2.2.2.1) | exact fun w => c_86 w.2.2.2.2⟩) dX7_set_113 dX7_set_116 dX7_set_117 dX7_set_119 dX7_set_122
            · refine w_iload C dX7_set_108 (by rfl) ?_
              refine w_if_ne (tgt := 123) C dX7_set_110 (by rfl) (fun c_110 => ?_) (fun c_110 => ?_)
              · try simp only [cg_ge, cg_gt, cl_gt, cl_le, cl_eq, cl_lt, cl_ge, bi_eq0, bi_ne0, bI_eq0, Decidable.not_not, Bool.not_eq_false] at c_110
                first | refine w_aload C dX7_set_123 (by rfl) ?_ | refine w_aloadN C dX7_set_123 (by rfl) ?_
                refine w_iload_n C dX7_set_125 (by rfl) ?_
                refine pf_X7_188 C hpj dX7_set_126 (fun h9 u9 => ?_)
                have hpj := u9.self
                first | refine w_aload C dX7_set_129 (by rfl) ?_ | refine w_aloadN C dX7_set_129 (by rfl) ?_
                refine w_iload_n C dX7_set_131 (by rfl) ?_
                refine pf_X7_191 C hpj dX7_set_132 (fun h10 u10 => ?_)
                have hpj := u10.self
                have Y9 := Yh.pot Y hj (p := sp_setp (nI s) ce (ps j)) (u9.tr u10)
                first | refine w_aload_n C dX7_set_135 (by rfl) ?_ | refine w_aload_nN C dX7_set_135 (by rfl) ?_
                refine w_iload_n C dX7_set_136 (by rfl) ?_
                refine cl_X7_194 C (m_X7_freeCells hl Y9 (nI s)) Y9.1 (by rfl) (by rfl) ⟨by decide, by decide⟩ (by rfl) dX7_set_137 (fun z9 h11 p11 => ?_)
                obtain ⟨rfl, rfl⟩ := p11
                refine w_iret C M dX7_set_140 ⟨by decide, by decide⟩ ⟨_, rfl, ?_⟩
                exact ⟨j, s, hj, rfl, hs, rfl, c_18, ⟨c_38, c_46, c_58, Int32.not_lt.mp c_105, c_86⟩, rfl, Y9⟩
              · exact absurd c_110 (by decide)
        · exact th_X7_85_174_89 C X (by rfl) (by rfl) (by rfl) (by decide) (by decide) (by decide) (by decide) (Or.inr ⟨rfl, rfl, j, s, hj, rfl, hs, rfl, c_18, by first | exact fun w => c_38 w.1 | exact fun w => c_46 w.2.1 | exact fun w => c_58 w.2.2.1⟩) dX7_set_61 dX7_set_64 dX7_set_65 dX7_set_67 dX7_set_70
  · try simp only [cg_ge, cg_gt, cl_gt, cl_le, cl_eq, cl_lt, cl_ge, bi_eq0, bi_ne0, bI_eq0, Decidable.not_not, Bool.not_eq_false] at c_18
    exact th_X7_156_158_160 C X (by rfl) (by rfl) (by rfl) (by decide) (by decide) (by decide) (by decide) (Or.inl ⟨rfl, rfl, Or.inr (Or.inr c_18)⟩) dX7_set_21 dX7_set_24 dX7_set_25 dX7_set_27 dX7_set_30
