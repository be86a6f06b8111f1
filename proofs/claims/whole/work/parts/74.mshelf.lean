/-! THE REFERENCE: WHAT IT TELLS OF A SHELF -/
theorem shelf_at {a b c d : Int32} {k : KT} {nP : Nat} {ps : Nat → PT} {s w : Nat} (ha : a = sp_cone (kW k s) 12) (hb : b = 10 - sp_bc (sp_tk nP ps (nI s) 14)) (hc : c = sp_cnt (fun i => decide (i < nP ∧ qSh (ps i).2.2 = nI s)) 14) (hd : d = (sp_lr (sp_tk nP ps (nI s) 14) 10).1) (hw : w < 4) : upd (upd (upd (upd (fun _ => 0) 0 a) 1 b) 2 c) 3 d w = sp_shelf k nP ps s (nI w) := by
  unfold sp_shelf
  rw [← ha, ← hb, ← hc, ← hd]
  clear ha hb hc hd
  rcases w with _ | _ | _ | _ | w
  · rfl
  · rfl
  · rfl
  · rfl
  · omega

set_option maxHeartbeats 4000000 in
set_option maxRecDepth 100000 in
theorem m_X10_toldOfShelf {l : Launch} {D : va_G} {tc : Nat → ClassId} (hl : l.stackTraces = false) {h : HM} {m0 kl wk : Nat} {L : Nat → Nat} {E : Nat → Nat} {M : Nat → Int32} {ca : Nat → Nat} {ga : Nat → Nat} {pa : Nat → Nat} {oa : Nat → Nat} {ra : Nat → Nat} {th : Int32} {nC : Nat} {cs : Nat → Int32 × Int32} {nG : Nat} {gs : Nat → GT} {nP : Nat} {ps : Nat → PT} {nO : Nat} {os : Nat → OT} {nR : Nat} {rs : Nat → RT} {k : KT} {dmp : Int32} {day : Int32} {pur : Int32} {rf : Int32} (YY : Mh tc m0 kl wk L E M ca ga pa oa ra th nC cs nG gs nP ps nO os nR rs k dmp day pur rf h) (hn : nP ≤ 14) (hC : ∀ i, i < nP → okCe (ps i).2.2) {s w : Nat} (hs : s < 3) (hw : w < 4) :
    CT l D tc yX10_toldOfShelf cX10_toldOfShelf 4 (some FieldType.int) rm_X10_toldOfShelf [.ref m0, .int (nI s), .int (nI w)] h (rI (fun z h' => z = sp_shelf k nP ps s (nI w) ∧ Fr [] h h')) := by
  refine CT.start [some (.ref m0), some (.int (nI s)), some (.int (nI w)), none] (by decide) hl rfl rfl (fun K C M => ?_)
  obtain ⟨rfl, rfl, rfl, -⟩ := id M
  have C : CX K RX10 cX10_toldOfShelf 4 rm_X10_toldOfShelf := C
  obtain ⟨mm, mL, mk, mw, mCl, mGl, mPt, mOr, mRm, mn1, mn2, mn3⟩ := id YY
  have hs1 := nI_m1n hs
  refine w_iconst (v := 4) C dX10_toldOfShelf_0 (by rfl) ?_
  refine w_newain C gw_1139 (by decide) (by rfl) (by decide) (by decide) (by decide) dX10_toldOfShelf_1 (fun q h1 n1 u1 => ?_)
  have f_q := u1.self
  have nq := n1
  have uq := u1
  have fr := uq.frN nq
  have YY0 := YY
  have YY := YY0.fr0 fr
  obtain ⟨mm, mL, mk, mw, mCl, mGl, mPt, mOr, mRm, mn1, mn2, mn3⟩ := id YY
  refine w_dup C dX10_toldOfShelf_3 (by rfl) ?_
  refine w_iconst (v := 0) C dX10_toldOfShelf_4 (by rfl) ?_
  first | refine w_aload_n C dX10_toldOfShelf_5 (by rfl) ?_ | refine w_aload_nN C dX10_toldOfShelf_5 (by rfl) ?_
  refine gf_X10_28 C mm dX10_toldOfShelf_6 ?_
  refine w_iload_n C dX10_toldOfShelf_9 (by rfl) ?_
  refine cl_X10_242 C (m_X8_cone hl mk mw hs) mk (by rfl) (by rfl) ⟨by decide, by decide⟩ (by rfl) dX10_toldOfShelf_10 (fun z2 h2 p2 => ?_)
  obtain ⟨rfl, rfl⟩ := p2
  refine w_iastn (j := 0) C f_q (by decide) (by decide) dX10_toldOfShelf_13 (fun h13 u13 => ?_)
  have f_q := u13.self
  have fr := fr.itn nq u13
  have YY := YY0.fr0 fr
  obtain ⟨mm, mL, mk, mw, mCl, mGl, mPt, mOr, mRm, mn1, mn2, mn3⟩ := id YY
  refine w_dup C dX10_toldOfShelf_14 (by rfl) ?_
  refine w_iconst (v := 1) C dX10_toldOfShelf_15 (by rfl) ?_
  first | refine w_aload_n C dX10_toldOfShelf_16 (by rfl) ?_ | refine w_aload_nN C dX10_toldOfShelf_16 (by rfl) ?_
  refine w_iload_n C dX10_toldOfShelf_17 (by rfl) ?_
  refine cl_X10_179 C (m_X10_free hl YY hn) mm (by rfl) (by rfl) ⟨by decide, by decide⟩ (by rfl) dX10_toldOfShelf_18 (fun z3 h3 p3 => ?_)
  obtain ⟨rfl, fr9⟩ := p3
  rw [free_eq hn hs1 hC]
  have f_q := fr9 _ _ List.not_mem_nil f_q
  have fr := fr.tr fr9
  have YY := YY0.fr0 fr
  obtain ⟨mm, mL, mk, mw, mCl, mGl, mPt, mOr, mRm, mn1, mn2, mn3⟩ := id YY
  refine w_iastn (j := 1) C f_q (by decide) (by decide) dX10_toldOfShelf_21 (fun h21 u21 => ?_)
  have f_q := u21.self
  have fr := fr.itn nq u21
  have YY := YY0.fr0 fr
  obtain ⟨mm, mL, mk, mw, mCl, mGl, mPt, mOr, mRm, mn1, mn2, mn3⟩ := id YY
  refine w_dup C dX10_toldOfShelf_22 (by rfl) ?_
  refine w_iconst (v := 2) C dX10_toldOfShelf_23 (by rfl) ?_
  first | refine w_aload_n C dX10_toldOfShelf_24 (by rfl) ?_ | refine w_aload_nN C dX10_toldOfShelf_24 (by rfl) ?_
  refine w_iload_n C dX10_toldOfShelf_25 (by rfl) ?_
  refine cl_X10_201 C (m_X10_placed hl YY hn) mm (by rfl) (by rfl) ⟨by decide, by decide⟩ (by rfl) dX10_toldOfShelf_26 (fun z4 h4 p4 => ?_)
  obtain ⟨rfl, fr9⟩ := p4
  rw [placed_eq hn hs1]
  have f_q := fr9 _ _ List.not_mem_nil f_q
  have fr := fr.tr fr9
  have YY := YY0.fr0 fr
  obtain ⟨mm, mL, mk, mw, mCl, mGl, mPt, mOr, mRm, mn1, mn2, mn3⟩ := id YY
  refine w_iastn (j := 2) C f_q (by decide) (by decide) dX10_toldOfShelf_29 (fun h29 u29 => ?_)
  have f_q := u29.self
  have fr := fr.itn nq u29
  have YY := YY0.fr0 fr
  obtain ⟨mm, mL, mk, mw, mCl, mGl, mPt, mOr, mRm, mn1, mn2, mn3⟩ := id YY
  refine w_dup C dX10_toldOfShelf_30 (by rfl) ?_
  refine w_iconst (v := 3) C dX10_toldOfShelf_31 (by rfl) ?_
  first | refine w_aload_n C dX10_toldOfShelf_32 (by rfl) ?_ | refine w_aload_nN C dX10_toldOfShelf_32 (by rfl) ?_
  refine w_iload_n C dX10_toldOfShelf_33 (by rfl) ?_
  refine cl_X10_283 C (m_X10_row hl YY hn) mm (by rfl) (by rfl) ⟨by decide, by decide⟩ (by rfl) dX10_toldOfShelf_34 (fun z5 h5 p5 => ?_)
  obtain ⟨rfl, fr9⟩ := p5
  rw [row_eq hn hs1 hC 10 (by decide)]
  have f_q := fr9 _ _ List.not_mem_nil f_q
  have fr := fr.tr fr9
  have YY := YY0.fr0 fr
  obtain ⟨mm, mL, mk, mw, mCl, mGl, mPt, mOr, mRm, mn1, mn2, mn3⟩ := id YY
  refine w_iastn (j := 3) C f_q (by decide) (by decide) dX10_toldOfShelf_37 (fun h37 u37 => ?_)
  have f_q := u37.self
  have fr := fr.itn nq u37
  have YY := YY0.fr0 fr
  obtain ⟨mm, mL, mk, mw, mCl, mGl, mPt, mOr, mRm, mn1, mn2, mn3⟩ := id YY
  first | refine w_astore_3 C dX10_toldOfShelf_38 (by first | trivial | rfl) ?_ | refine w_astore_3N C dX10_toldOfShelf_38 (by first | trivial | rfl) ?_
  first | refine w_aload_n C dX10_toldOfShelf_39 (by rfl) ?_ | refine w_aload_nN C dX10_toldOfShelf_39 (by rfl) ?_
  refine w_iload_n C dX10_toldOfShelf_40 (by rfl) ?_
  refine w_ialdn C f_q hw (by decide) dX10_toldOfShelf_41 ?_
  refine w_iret C M dX10_toldOfShelf_42 ⟨by decide, by decide⟩ ⟨_, rfl, ?_⟩
  exact ⟨shelf_at rfl rfl rfl rfl hw, fr⟩

set_option maxHeartbeats 4000000 in
set_option maxRecDepth 100000 in
theorem m_X10_ofShelf {l : Launch} {D : va_G} {tc : Nat → ClassId} (hl : l.stackTraces = false) {h : HM} {m0 kl wk : Nat} {L : Nat → Nat} {E : Nat → Nat} {M : Nat → Int32} {ca : Nat → Nat} {ga : Nat → Nat} {pa : Nat → Nat} {oa : Nat → Nat} {ra : Nat → Nat} {th : Int32} {nC : Nat} {cs : Nat → Int32 × Int32} {nG : Nat} {gs : Nat → GT} {nP : Nat} {ps : Nat → PT} {nO : Nat} {os : Nat → OT} {nR : Nat} {rs : Nat → RT} {k : KT} {dmp : Int32} {day : Int32} {pur : Int32} {rf : Int32} (YY : Mh tc m0 kl wk L E M ca ga pa oa ra th nC cs nG gs nP ps nO os nR rs k dmp day pur rf h) (hn : nP ≤ 14) (hC : ∀ i, i < nP → okCe (ps i).2.2) {i what : Int32} :
    CT l D tc yX10_ofShelf cX10_ofShelf 3 (some FieldType.int) rm_X10_ofShelf [.ref m0, .int i, .int what] h (rI (fun z h' => (out9 i 3 ∧ z = 0 ∧ MhE tc m0 kl wk 1 nC cs nG gs nP ps nO os nR rs k dmp day pur rf h') ∨ (∃ s, s < 3 ∧ i = nI s ∧ ((¬ (0 ≤ what ∧ what ≤ 3) ∧ z = 0 ∧ MhE tc m0 kl wk 2 nC cs nG gs nP ps nO os nR rs k dmp day pur rf h') ∨ ((0 ≤ what ∧ what ≤ 3) ∧ z = sp_shelf k nP ps s what ∧ MhE tc m0 kl wk 0 nC cs nG gs nP ps nO os nR rs k dmp day pur rf h'))))) := by
  refine CT.start [some (.ref m0), some (.int i), some (.int what)] (by decide) hl rfl rfl (fun K C M => ?_)
  obtain ⟨rfl, rfl, rfl, -⟩ := id M
  have C : CX K RX10 cX10_ofShelf 3 rm_X10_ofShelf := C
  obtain ⟨mm, mL, mk, mw, mCl, mGl, mPt, mOr, mRm, mn1, mn2, mn3⟩ := id YY
  first | refine w_aload_n C dX10_ofShelf_0 (by rfl) ?_ | refine w_aload_nN C dX10_ofShelf_0 (by rfl) ?_
  refine w_iload_n C dX10_ofShelf_1 (by rfl) ?_
  refine cl_X10_167 C (m_X10_isNoShelf hl) (by rfl) (by rfl) ⟨by decide, by decide⟩ (by rfl) dX10_ofShelf_2 (fun z1 h1 p1 => ?_)
  obtain ⟨rfl, p_3⟩ := p1
  rcases p_3 with ⟨rfl, c_3⟩ | ⟨rfl, s, hs, rfl⟩
  · 
    refine w_iconst (v := 1) C dX10_ofShelf_5 (by rfl) ?_
    refine cl_X10_88 C (m_X10_startT hl mm (by decide)) mm (by rfl) (by rfl) ⟨by decide, by decide⟩ (by rfl) dX10_ofShelf_6 (fun z2 h2 p2 => ?_)
    obtain ⟨rfl, p2⟩ := p2
    have YY := YY.me (th2 := 1) (day2 := day) (dmp2 := dmp) (pur2 := pur) (rf2 := rf) p2
    obtain ⟨mm, mL, mk, mw, mCl, mGl, mPt, mOr, mRm, mn1, mn2, mn3⟩ := id YY
    refine w_if_ne (tgt := 34) C dX10_ofShelf_9 (by rfl) (fun c_9 => ?_) (fun c_9 => ?_)
    · try simp only [cg_ge, cg_gt, cl_gt, cl_le, cl_eq, cl_lt, cl_ge, bi_eq0, bi_ne0, bI_eq0, Decidable.not_not, Bool.not_eq_false] at c_9
      refine w_iconst (v := 0) C dX10_ofShelf_34 (by rfl) ?_
      refine w_goto (tgt := 44) C dX10_ofShelf_35 (by rfl) ?_
      refine w_iret C M dX10_ofShelf_44 ⟨by decide, by decide⟩ ⟨_, rfl, ?_⟩
      exact Or.inl ⟨c_3, rfl, YY.ex⟩
    · exact absurd c_9 (by decide)
  · 
    refine w_iconst (v := 1) C dX10_ofShelf_5 (by rfl) ?_
    refine cl_X10_88 C (m_X10_startF hl mm) mm (by rfl) (by rfl) ⟨by decide, by decide⟩ (by rfl) dX10_ofShelf_6 (fun z3 h3 p3 => ?_)
    obtain ⟨rfl, p3⟩ := p3
    have YY := YY.me (th2 := 0) (day2 := day) (dmp2 := dmp) (pur2 := pur) (rf2 := rf) p3
    obtain ⟨mm, mL, mk, mw, mCl, mGl, mPt, mOr, mRm, mn1, mn2, mn3⟩ := id YY
    refine w_if_ne (tgt := 34) C dX10_ofShelf_9 (by rfl) (fun c_9 => ?_) (fun c_9 => ?_)
    · exact absurd c_9 (by decide)
    · try simp only [cg_ge, cg_gt, cl_gt, cl_le, cl_eq, cl_lt, cl_ge, bi_eq0, bi_ne0, bI_eq0, Decidable.not_not, Bool.not_eq_false] at c_9
      first | refine w_aload_n C dX10_ofShelf_12 (by rfl) ?_ | refine w_aload_nN C dX10_ofShelf_12 (by rfl) ?_
      refine w_iload_n C dX10_ofShelf_13 (by rfl) ?_
      refine w_iconst (v := 0) C dX10_ofShelf_14 (by rfl) ?_
      refine w_iconst (v := 3) C dX10_ofShelf_15 (by rfl) ?_
      refine cl_X10_44 C (m_X10_isIn hl) (by rfl) (by rfl) ⟨by decide, by decide⟩ (by rfl) dX10_ofShelf_16 (fun z4 h4 p4 => ?_)
      obtain ⟨rfl, rfl⟩ := p4
      refine w_if_ne (tgt := 26) C dX10_ofShelf_19 (by rfl) (fun c_19 => ?_) (fun c_19 => ?_)
      · try simp only [cg_ge, cg_gt, cl_gt, cl_le, cl_eq, cl_lt, cl_ge, bi_eq0, bi_ne0, bI_eq0, Decidable.not_not, Bool.not_eq_false] at c_19
        refine w_iconst (v := 0) C dX10_ofShelf_26 (by rfl) ?_
        refine w_iconst (v := 2) C dX10_ofShelf_27 (by rfl) ?_
        refine cl_X10_36 C (m_X10_refuseF hl mm) mm (by rfl) (by rfl) ⟨by decide, by decide⟩ (by rfl) dX10_ofShelf_28 (fun z5 h5 p5 => ?_)
        obtain ⟨rfl, rfl⟩ := p5
        refine w_if_eq (tgt := 38) C dX10_ofShelf_31 (by rfl) (fun c_31 => ?_) (fun c_31 => ?_)
        · try simp only [cg_ge, cg_gt, cl_gt, cl_le, cl_eq, cl_lt, cl_ge, bi_eq0, bi_ne0, bI_eq0, Decidable.not_not, Bool.not_eq_false] at c_31
          have c_19b := c_19
          obtain ⟨w, hw, rfl⟩ := rng9 (n := 3) (by decide) c_19
          first | refine w_aload_n C dX10_ofShelf_38 (by rfl) ?_ | refine w_aload_nN C dX10_ofShelf_38 (by rfl) ?_
          refine w_iload_n C dX10_ofShelf_39 (by rfl) ?_
          refine w_iload_n C dX10_ofShelf_40 (by rfl) ?_
          refine cl_X10_286 C (m_X10_toldOfShelf hl YY hn hC hs hw) mm (by rfl) (by rfl) ⟨by decide, by decide⟩ (by rfl) dX10_ofShelf_41 (fun z6 h6 p6 => ?_)
          obtain ⟨rfl, fr9⟩ := p6
          have YY := YY.fr0 fr9
          refine w_iret C M dX10_ofShelf_44 ⟨by decide, by decide⟩ ⟨_, rfl, ?_⟩
          exact Or.inr ⟨s, hs, rfl, Or.inr ⟨c_19b, rfl, YY.ex⟩⟩
        · exact absurd c_31 (by decide)
      · try simp only [cg_ge, cg_gt, cl_gt, cl_le, cl_eq, cl_lt, cl_ge, bi_eq0, bi_ne0, bI_eq0, Decidable.not_not, Bool.not_eq_false] at c_19
        refine w_iconst (v := 1) C dX10_ofShelf_22 (by rfl) ?_
        refine w_goto (tgt := 27) C dX10_ofShelf_23 (by rfl) ?_
        refine w_iconst (v := 2) C dX10_ofShelf_27 (by rfl) ?_
        refine cl_X10_36 C (m_X10_refuseT hl mm (by decide)) mm (by rfl) (by rfl) ⟨by decide, by decide⟩ (by rfl) dX10_ofShelf_28 (fun z7 h7 p7 => ?_)
        obtain ⟨rfl, p7⟩ := p7
        have YY := YY.me (th2 := 2) (day2 := day) (dmp2 := dmp) (pur2 := pur) (rf2 := rf) p7
        obtain ⟨mm, mL, mk, mw, mCl, mGl, mPt, mOr, mRm, mn1, mn2, mn3⟩ := id YY
        refine w_if_eq (tgt := 38) C dX10_ofShelf_31 (by rfl) (fun c_31 => ?_) (fun c_31 => ?_)
        · exact absurd c_31 (by decide)
        · try simp only [cg_ge, cg_gt, cl_gt, cl_le, cl_eq, cl_lt, cl_ge, bi_eq0, bi_ne0, bI_eq0, Decidable.not_not, Bool.not_eq_false] at c_31
          refine w_iconst (v := 0) C dX10_ofShelf_34 (by rfl) ?_
          refine w_goto (tgt := 44) C dX10_ofShelf_35 (by rfl) ?_
          refine w_iret C M dX10_ofShelf_44 ⟨by decide, by decide⟩ ⟨_, rfl, ?_⟩
          exact Or.inr ⟨s, hs, rfl, Or.inl ⟨c_19, rfl, YY.ex⟩⟩
