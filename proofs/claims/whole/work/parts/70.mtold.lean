/-! THE REFERENCE: WHAT IT TELLS -/
theorem rng9 {x : Int32} {n : Nat} (hn : n < 2 ^ 30) (h : 0 ≤ x ∧ x ≤ nI n) : ∃ w, w < n + 1 ∧ x = nI w := by
  have h1 := Int32.le_iff_toInt_le.mp h.1
  have h2 := Int32.le_iff_toInt_le.mp h.2
  rw [nI_toInt (by omega)] at h2
  have e0 : (0 : Int32).toInt = 0 := by decide
  exact nI_i (by omega) (by omega)
theorem one_bi (b : Bool) : (if bi b = 0 then (0 : Int32) else 1) = bi b := by cases b <;> decide
theorem nI_m1n {s : Nat} (h : s < 3) : ¬ nI s = -1 := by
  rcases s with _ | _ | _ | s
  · decide
  · decide
  · decide
  · omega
theorem placed_eq {nP : Nat} {ps : Nat → PT} {v : Int32} (hn : nP ≤ 14) (hv : ¬ v = -1) : sp_cnt (fun i => decide (i < nP ∧ (if v = -1 then ¬ qSh (ps i).2.2 = -1 else qSh (ps i).2.2 = v))) nP = sp_cnt (fun i => decide (i < nP ∧ qSh (ps i).2.2 = v)) 14 := by
  rw [cnt_14 hn]
  exact cnt_congr 14 (fun i _ => decide_eq_decide.mpr (by rw [if_neg hv]))
theorem open_s (b : Bool) (i n : Nat) (h : i < n) : (1 : Int32) - bi b = bi (decide (i < n ∧ b = false)) := by
  cases b
  · rw [decide_eq_true ⟨h, rfl⟩]; decide
  · rw [decide_eq_false (fun w => by cases w.2)]; decide

set_option maxHeartbeats 4000000 in
set_option maxRecDepth 100000 in
theorem m_X10_toldOfPot {l : Launch} {D : va_G} {tc : Nat → ClassId} (hl : l.stackTraces = false) {h : HM} {m0 kl wk : Nat} {L : Nat → Nat} {E : Nat → Nat} {M : Nat → Int32} {ca : Nat → Nat} {ga : Nat → Nat} {pa : Nat → Nat} {oa : Nat → Nat} {ra : Nat → Nat} {th : Int32} {nC : Nat} {cs : Nat → Int32 × Int32} {nG : Nat} {gs : Nat → GT} {nP : Nat} {ps : Nat → PT} {nO : Nat} {os : Nat → OT} {nR : Nat} {rs : Nat → RT} {k : KT} {dmp : Int32} {day : Int32} {pur : Int32} {rf : Int32} (YY : Mh tc m0 kl wk L E M ca ga pa oa ra th nC cs nG gs nP ps nO os nR rs k dmp day pur rf h) {j w : Nat} (hj : j < nP) (hw : w < 8) (hg : okGl nG (ps j)) :
    CT l D tc yX10_toldOfPot cX10_toldOfPot 5 (some FieldType.int) rm_X10_toldOfPot [.ref m0, .int (nI j), .int (nI w)] h (rI (fun z h' => z = sp_ofPot gs (ps j) (nI w) ∧ Fr [] h h')) := by
  refine CT.start [some (.ref m0), some (.int (nI j)), some (.int (nI w)), none, none] (by decide) hl rfl rfl (fun K C M => ?_)
  obtain ⟨rfl, rfl, rfl, -⟩ := id M
  have C : CX K RX10 cX10_toldOfPot 5 rm_X10_toldOfPot := C
  obtain ⟨mm, mL, mk, mw, mCl, mGl, mPt, mOr, mRm, mn1, mn2, mn3⟩ := id YY
  have hpj := mPt j hj
  first | refine w_aload_n C dX10_toldOfPot_0 (by rfl) ?_ | refine w_aload_nN C dX10_toldOfPot_0 (by rfl) ?_
  refine gf_X10_19 C mm dX10_toldOfPot_1 ?_
  refine w_iload_n C dX10_toldOfPot_4 (by rfl) ?_
  refine cl_X10_58 C (m_get hl YY.lp YY.ap hj) YY.lp (by rfl) (by rfl) ⟨by decide, by decide⟩ (by rfl) dX10_toldOfPot_5 (fun z1 h1 p1 => ?_)
  obtain ⟨rfl, rfl⟩ := p1
  refine w_castS C hpj (r := (RX9, TX9, 12)) rfl gw_1152 dX10_toldOfPot_8 ?_
  first | refine w_astore_3 C dX10_toldOfPot_11 (by first | trivial | rfl) ?_ | refine w_astore_3N C dX10_toldOfPot_11 (by first | trivial | rfl) ?_
  refine w_bipush (v := (8)) C dX10_toldOfPot_12 (by rfl) ?_
  refine w_newain C gw_1139 (by decide) (by rfl) (by decide) (by decide) (by decide) dX10_toldOfPot_14 (fun q h2 n2 u2 => ?_)
  have f_q := u2.self
  have nq := n2
  have uq := u2
  have fr := uq.frN nq
  have YY0 := YY
  have YY := YY0.fr0 fr
  obtain ⟨mm, mL, mk, mw, mCl, mGl, mPt, mOr, mRm, mn1, mn2, mn3⟩ := id YY
  have hpj := mPt j hj
  refine w_dup C dX10_toldOfPot_16 (by rfl) ?_
  refine w_iconst (v := 0) C dX10_toldOfPot_17 (by rfl) ?_
  first | refine w_aload_n C dX10_toldOfPot_18 (by rfl) ?_ | refine w_aload_nN C dX10_toldOfPot_18 (by rfl) ?_
  refine gf_X10_124 C hpj dX10_toldOfPot_19 ?_
  refine w_iastn (j := 0) C f_q (by decide) (by decide) dX10_toldOfPot_22 (fun h22 u22 => ?_)
  have f_q := u22.self
  have fr := fr.itn nq u22
  have YY := YY0.fr0 fr
  obtain ⟨mm, mL, mk, mw, mCl, mGl, mPt, mOr, mRm, mn1, mn2, mn3⟩ := id YY
  have hpj := mPt j hj
  refine w_dup C dX10_toldOfPot_23 (by rfl) ?_
  refine w_iconst (v := 1) C dX10_toldOfPot_24 (by rfl) ?_
  first | refine w_aload_n C dX10_toldOfPot_25 (by rfl) ?_ | refine w_aload_nN C dX10_toldOfPot_25 (by rfl) ?_
  refine gf_X10_144 C hpj dX10_toldOfPot_26 ?_
  refine w_iastn (j := 1) C f_q (by decide) (by decide) dX10_toldOfPot_29 (fun h29 u29 => ?_)
  have f_q := u29.self
  have fr := fr.itn nq u29
  have YY := YY0.fr0 fr
  obtain ⟨mm, mL, mk, mw, mCl, mGl, mPt, mOr, mRm, mn1, mn2, mn3⟩ := id YY
  have hpj := mPt j hj
  refine w_dup C dX10_toldOfPot_30 (by rfl) ?_
  refine w_iconst (v := 2) C dX10_toldOfPot_31 (by rfl) ?_
  first | refine w_aload_n C dX10_toldOfPot_32 (by rfl) ?_ | refine w_aload_nN C dX10_toldOfPot_32 (by rfl) ?_
  refine gf_X10_237 C hpj dX10_toldOfPot_33 ?_
  refine w_iastn (j := 2) C f_q (by decide) (by decide) dX10_toldOfPot_36 (fun h36 u36 => ?_)
  have f_q := u36.self
  have fr := fr.itn nq u36
  have YY := YY0.fr0 fr
  obtain ⟨mm, mL, mk, mw, mCl, mGl, mPt, mOr, mRm, mn1, mn2, mn3⟩ := id YY
  have hpj := mPt j hj
  refine w_dup C dX10_toldOfPot_37 (by rfl) ?_
  refine w_iconst (v := 3) C dX10_toldOfPot_38 (by rfl) ?_
  first | refine w_aload_n C dX10_toldOfPot_39 (by rfl) ?_ | refine w_aload_nN C dX10_toldOfPot_39 (by rfl) ?_
  refine gf_X10_150 C hpj dX10_toldOfPot_40 ?_
  refine w_iastn (j := 3) C f_q (by decide) (by decide) dX10_toldOfPot_43 (fun h43 u43 => ?_)
  have f_q := u43.self
  have fr := fr.itn nq u43
  have YY := YY0.fr0 fr
  obtain ⟨mm, mL, mk, mw, mCl, mGl, mPt, mOr, mRm, mn1, mn2, mn3⟩ := id YY
  have hpj := mPt j hj
  refine w_dup C dX10_toldOfPot_44 (by rfl) ?_
  refine w_iconst (v := 4) C dX10_toldOfPot_45 (by rfl) ?_
  first | refine w_aload_n C dX10_toldOfPot_46 (by rfl) ?_ | refine w_aload_nN C dX10_toldOfPot_46 (by rfl) ?_
  refine gf_X10_153 C hpj dX10_toldOfPot_47 ?_
  refine w_iastn (j := 4) C f_q (by decide) (by decide) dX10_toldOfPot_50 (fun h50 u50 => ?_)
  have f_q := u50.self
  have fr := fr.itn nq u50
  have YY := YY0.fr0 fr
  obtain ⟨mm, mL, mk, mw, mCl, mGl, mPt, mOr, mRm, mn1, mn2, mn3⟩ := id YY
  have hpj := mPt j hj
  refine w_dup C dX10_toldOfPot_51 (by rfl) ?_
  refine w_iconst (v := 5) C dX10_toldOfPot_52 (by rfl) ?_
  first | refine w_aload_n C dX10_toldOfPot_53 (by rfl) ?_ | refine w_aload_nN C dX10_toldOfPot_53 (by rfl) ?_
  refine gf_X10_257 C hpj dX10_toldOfPot_54 ?_
  refine w_iastn (j := 5) C f_q (by decide) (by decide) dX10_toldOfPot_57 (fun h57 u57 => ?_)
  have f_q := u57.self
  have fr := fr.itn nq u57
  have YY := YY0.fr0 fr
  obtain ⟨mm, mL, mk, mw, mCl, mGl, mPt, mOr, mRm, mn1, mn2, mn3⟩ := id YY
  have hpj := mPt j hj
  refine w_dup C dX10_toldOfPot_58 (by rfl) ?_
  refine w_bipush (v := (6)) C dX10_toldOfPot_59 (by rfl) ?_
  first | refine w_aload_n C dX10_toldOfPot_61 (by rfl) ?_ | refine w_aload_nN C dX10_toldOfPot_61 (by rfl) ?_
  first | refine w_aload_n C dX10_toldOfPot_62 (by rfl) ?_ | refine w_aload_nN C dX10_toldOfPot_62 (by rfl) ?_
  refine cl_X10_260 C (m_X10_colour hl YY hj hg) mm (by rfl) (by rfl) ⟨by decide, by decide⟩ (by rfl) dX10_toldOfPot_63 (fun z3 h3 p3 => ?_)
  obtain ⟨rfl, rfl⟩ := p3
  refine w_iastn (j := 6) C f_q (by decide) (by decide) dX10_toldOfPot_66 (fun h66 u66 => ?_)
  have f_q := u66.self
  have fr := fr.itn nq u66
  have YY := YY0.fr0 fr
  obtain ⟨mm, mL, mk, mw, mCl, mGl, mPt, mOr, mRm, mn1, mn2, mn3⟩ := id YY
  have hpj := mPt j hj
  refine w_dup C dX10_toldOfPot_67 (by rfl) ?_
  refine w_bipush (v := (7)) C dX10_toldOfPot_68 (by rfl) ?_
  first | refine w_aload_n C dX10_toldOfPot_70 (by rfl) ?_ | refine w_aload_nN C dX10_toldOfPot_70 (by rfl) ?_
  refine gf_X10_107 C hpj dX10_toldOfPot_71 ?_
  refine cl_X10_127 C (m_X10_one hl) (by rfl) (by rfl) ⟨by decide, by decide⟩ (by rfl) dX10_toldOfPot_74 (fun z4 h4 p4 => ?_)
  obtain ⟨rfl, rfl⟩ := p4
  rw [one_bi]
  refine w_iastn (j := 7) C f_q (by decide) (by decide) dX10_toldOfPot_77 (fun h77 u77 => ?_)
  have f_q := u77.self
  have fr := fr.itn nq u77
  have YY := YY0.fr0 fr
  obtain ⟨mm, mL, mk, mw, mCl, mGl, mPt, mOr, mRm, mn1, mn2, mn3⟩ := id YY
  have hpj := mPt j hj
  first | refine w_astore_4 C dX10_toldOfPot_78 (by first | trivial | rfl) ?_ | refine w_astore_4N C dX10_toldOfPot_78 (by first | trivial | rfl) ?_
  first | refine w_aload C dX10_toldOfPot_80 (by rfl) ?_ | refine w_aloadN C dX10_toldOfPot_80 (by rfl) ?_
  refine w_iload_n C dX10_toldOfPot_82 (by rfl) ?_
  refine w_ialdn C f_q hw (by decide) dX10_toldOfPot_83 ?_
  refine w_iret C M dX10_toldOfPot_84 ⟨by decide, by decide⟩ ⟨_, rfl, ?_⟩
  refine ⟨?_, fr⟩
  rcases w with _ | _ | _ | _ | _ | _ | _ | _ | w
  · rfl
  · rfl
  · rfl
  · rfl
  · rfl
  · rfl
  · rfl
  · rfl
  · omega

set_option maxHeartbeats 4000000 in
set_option maxRecDepth 100000 in
theorem m_X10_ofPot {l : Launch} {D : va_G} {tc : Nat → ClassId} (hl : l.stackTraces = false) {h : HM} {m0 kl wk : Nat} {L : Nat → Nat} {E : Nat → Nat} {M : Nat → Int32} {ca : Nat → Nat} {ga : Nat → Nat} {pa : Nat → Nat} {oa : Nat → Nat} {ra : Nat → Nat} {th : Int32} {nC : Nat} {cs : Nat → Int32 × Int32} {nG : Nat} {gs : Nat → GT} {nP : Nat} {ps : Nat → PT} {nO : Nat} {os : Nat → OT} {nR : Nat} {rs : Nat → RT} {k : KT} {dmp : Int32} {day : Int32} {pur : Int32} {rf : Int32} (YY : Mh tc m0 kl wk L E M ca ga pa oa ra th nC cs nG gs nP ps nO os nR rs k dmp day pur rf h) (hn : nP ≤ 14) (hg : ∀ i, i < nP → okGl nG (ps i)) {i what : Int32} :
    CT l D tc yX10_ofPot cX10_ofPot 3 (some FieldType.int) rm_X10_ofPot [.ref m0, .int i, .int what] h (rI (fun z h' => (out9 i nP ∧ z = 0 ∧ MhE tc m0 kl wk 1 nC cs nG gs nP ps nO os nR rs k dmp day pur rf h') ∨ (∃ j, j < nP ∧ i = nI j ∧ ((¬ (0 ≤ what ∧ what ≤ 7) ∧ z = 0 ∧ MhE tc m0 kl wk 2 nC cs nG gs nP ps nO os nR rs k dmp day pur rf h') ∨ ((0 ≤ what ∧ what ≤ 7) ∧ z = sp_ofPot gs (ps j) what ∧ MhE tc m0 kl wk 0 nC cs nG gs nP ps nO os nR rs k dmp day pur rf h'))))) := by
  refine CT.start [some (.ref m0), some (.int i), some (.int what)] (by decide) hl rfl rfl (fun K C M => ?_)
  obtain ⟨rfl, rfl, rfl, -⟩ := id M
  have C : CX K RX10 cX10_ofPot 3 rm_X10_ofPot := C
  obtain ⟨mm, mL, mk, mw, mCl, mGl, mPt, mOr, mRm, mn1, mn2, mn3⟩ := id YY
  first | refine w_aload_n C dX10_ofPot_0 (by rfl) ?_ | refine w_aload_nN C dX10_ofPot_0 (by rfl) ?_
  first | refine w_aload_n C dX10_ofPot_1 (by rfl) ?_ | refine w_aload_nN C dX10_ofPot_1 (by rfl) ?_
  refine w_iload_n C dX10_ofPot_2 (by rfl) ?_
  refine cl_X10_104 C (m_X10_isNoPot hl YY (by omega)) mm (by rfl) (by rfl) ⟨by decide, by decide⟩ (by rfl) dX10_ofPot_3 (fun z1 h1 p1 => ?_)
  obtain ⟨rfl, p_3⟩ := p1
  rcases p_3 with ⟨rfl, c_3⟩ | ⟨rfl, j, hj, rfl⟩
  · 
    refine w_iconst (v := 1) C dX10_ofPot_6 (by rfl) ?_
    refine cl_X10_88 C (m_X10_startT hl mm (by decide)) mm (by rfl) (by rfl) ⟨by decide, by decide⟩ (by rfl) dX10_ofPot_7 (fun z2 h2 p2 => ?_)
    obtain ⟨rfl, p2⟩ := p2
    have YY := YY.me (th2 := 1) (day2 := day) (dmp2 := dmp) (pur2 := pur) (rf2 := rf) p2
    obtain ⟨mm, mL, mk, mw, mCl, mGl, mPt, mOr, mRm, mn1, mn2, mn3⟩ := id YY
    refine w_if_ne (tgt := 36) C dX10_ofPot_10 (by rfl) (fun c_10 => ?_) (fun c_10 => ?_)
    · try simp only [cg_ge, cg_gt, cl_gt, cl_le, cl_eq, cl_lt, cl_ge, bi_eq0, bi_ne0, bI_eq0, Decidable.not_not, Bool.not_eq_false] at c_10
      refine w_iconst (v := 0) C dX10_ofPot_36 (by rfl) ?_
      refine w_goto (tgt := 46) C dX10_ofPot_37 (by rfl) ?_
      refine w_iret C M dX10_ofPot_46 ⟨by decide, by decide⟩ ⟨_, rfl, ?_⟩
      exact Or.inl ⟨c_3, rfl, YY.ex⟩
    · exact absurd c_10 (by decide)
  · 
    refine w_iconst (v := 1) C dX10_ofPot_6 (by rfl) ?_
    refine cl_X10_88 C (m_X10_startF hl mm) mm (by rfl) (by rfl) ⟨by decide, by decide⟩ (by rfl) dX10_ofPot_7 (fun z3 h3 p3 => ?_)
    obtain ⟨rfl, p3⟩ := p3
    have YY := YY.me (th2 := 0) (day2 := day) (dmp2 := dmp) (pur2 := pur) (rf2 := rf) p3
    obtain ⟨mm, mL, mk, mw, mCl, mGl, mPt, mOr, mRm, mn1, mn2, mn3⟩ := id YY
    refine w_if_ne (tgt := 36) C dX10_ofPot_10 (by rfl) (fun c_10 => ?_) (fun c_10 => ?_)
    · exact absurd c_10 (by decide)
    · try simp only [cg_ge, cg_gt, cl_gt, cl_le, cl_eq, cl_lt, cl_ge, bi_eq0, bi_ne0, bI_eq0, Decidable.not_not, Bool.not_eq_false] at c_10
      first | refine w_aload_n C dX10_ofPot_13 (by rfl) ?_ | refine w_aload_nN C dX10_ofPot_13 (by rfl) ?_
      refine w_iload_n C dX10_ofPot_14 (by rfl) ?_
      refine w_iconst (v := 0) C dX10_ofPot_15 (by rfl) ?_
      refine w_bipush (v := (7)) C dX10_ofPot_16 (by rfl) ?_
      refine cl_X10_44 C (m_X10_isIn hl) (by rfl) (by rfl) ⟨by decide, by decide⟩ (by rfl) dX10_ofPot_18 (fun z4 h4 p4 => ?_)
      obtain ⟨rfl, rfl⟩ := p4
      refine w_if_ne (tgt := 28) C dX10_ofPot_21 (by rfl) (fun c_21 => ?_) (fun c_21 => ?_)
      · try simp only [cg_ge, cg_gt, cl_gt, cl_le, cl_eq, cl_lt, cl_ge, bi_eq0, bi_ne0, bI_eq0, Decidable.not_not, Bool.not_eq_false] at c_21
        refine w_iconst (v := 0) C dX10_ofPot_28 (by rfl) ?_
        refine w_iconst (v := 2) C dX10_ofPot_29 (by rfl) ?_
        refine cl_X10_36 C (m_X10_refuseF hl mm) mm (by rfl) (by rfl) ⟨by decide, by decide⟩ (by rfl) dX10_ofPot_30 (fun z5 h5 p5 => ?_)
        obtain ⟨rfl, rfl⟩ := p5
        refine w_if_eq (tgt := 40) C dX10_ofPot_33 (by rfl) (fun c_33 => ?_) (fun c_33 => ?_)
        · try simp only [cg_ge, cg_gt, cl_gt, cl_le, cl_eq, cl_lt, cl_ge, bi_eq0, bi_ne0, bI_eq0, Decidable.not_not, Bool.not_eq_false] at c_33
          have c_21b := c_21
          obtain ⟨w, hw, rfl⟩ := rng9 (n := 7) (by decide) c_21
          first | refine w_aload_n C dX10_ofPot_40 (by rfl) ?_ | refine w_aload_nN C dX10_ofPot_40 (by rfl) ?_
          refine w_iload_n C dX10_ofPot_41 (by rfl) ?_
          refine w_iload_n C dX10_ofPot_42 (by rfl) ?_
          refine cl_X10_267 C (m_X10_toldOfPot hl YY hj hw (hg j hj)) mm (by rfl) (by rfl) ⟨by decide, by decide⟩ (by rfl) dX10_ofPot_43 (fun z6 h6 p6 => ?_)
          obtain ⟨rfl, fr9⟩ := p6
          have YY := YY.fr0 fr9
          refine w_iret C M dX10_ofPot_46 ⟨by decide, by decide⟩ ⟨_, rfl, ?_⟩
          exact Or.inr ⟨j, hj, rfl, Or.inr ⟨c_21b, rfl, YY.ex⟩⟩
        · exact absurd c_33 (by decide)
      · try simp only [cg_ge, cg_gt, cl_gt, cl_le, cl_eq, cl_lt, cl_ge, bi_eq0, bi_ne0, bI_eq0, Decidable.not_not, Bool.not_eq_false] at c_21
        refine w_iconst (v := 1) C dX10_ofPot_24 (by rfl) ?_
        refine w_goto (tgt := 29) C dX10_ofPot_25 (by rfl) ?_
        refine w_iconst (v := 2) C dX10_ofPot_29 (by rfl) ?_
        refine cl_X10_36 C (m_X10_refuseT hl mm (by decide)) mm (by rfl) (by rfl) ⟨by decide, by decide⟩ (by rfl) dX10_ofPot_30 (fun z7 h7 p7 => ?_)
        obtain ⟨rfl, p7⟩ := p7
        have YY := YY.me (th2 := 2) (day2 := day) (dmp2 := dmp) (pur2 := pur) (rf2 := rf) p7
        obtain ⟨mm, mL, mk, mw, mCl, mGl, mPt, mOr, mRm, mn1, mn2, mn3⟩ := id YY
        refine w_if_eq (tgt := 40) C dX10_ofPot_33 (by rfl) (fun c_33 => ?_) (fun c_33 => ?_)
        · exact absurd c_33 (by decide)
        · try simp only [cg_ge, cg_gt, cl_gt, cl_le, cl_eq, cl_lt, cl_ge, bi_eq0, bi_ne0, bI_eq0, Decidable.not_not, Bool.not_eq_false] at c_33
          refine w_iconst (v := 0) C dX10_ofPot_36 (by rfl) ?_
          refine w_goto (tgt := 46) C dX10_ofPot_37 (by rfl) ?_
          refine w_iret C M dX10_ofPot_46 ⟨by decide, by decide⟩ ⟨_, rfl, ?_⟩
          exact Or.inr ⟨j, hj, rfl, Or.inl ⟨c_21, rfl, YY.ex⟩⟩

set_option maxHeartbeats 4000000 in
set_option maxRecDepth 100000 in
theorem m_X10_water {l : Launch} {D : va_G} {tc : Nat → ClassId} (hl : l.stackTraces = false) {h : HM} {m0 kl wk : Nat} {L : Nat → Nat} {E : Nat → Nat} {M : Nat → Int32} {ca : Nat → Nat} {ga : Nat → Nat} {pa : Nat → Nat} {oa : Nat → Nat} {ra : Nat → Nat} {th : Int32} {nC : Nat} {cs : Nat → Int32 × Int32} {nG : Nat} {gs : Nat → GT} {nP : Nat} {ps : Nat → PT} {nO : Nat} {os : Nat → OT} {nR : Nat} {rs : Nat → RT} {k : KT} {dmp : Int32} {day : Int32} {pur : Int32} {rf : Int32} (YY : Mh tc m0 kl wk L E M ca ga pa oa ra th nC cs nG gs nP ps nO os nR rs k dmp day pur rf h) (hn : nP ≤ 14) (hf9 : ∀ i, i < nP → FP.Core.FFin (qWa (ps i).2.2)) {i : Int32} :
    CT l D tc yX10_water cX10_water 2 (some FieldType.double) rm_X10_water [.ref m0, .int i] h (rD (fun z h' => (out9 i nP ∧ z = FP.dconst0 ∧ MhE tc m0 kl wk 1 nC cs nG gs nP ps nO os nR rs k dmp day pur rf h') ∨ (∃ j, j < nP ∧ i = nI j ∧ z = FP.f2d (qWa (ps j).2.2) ∧ MhE tc m0 kl wk 0 nC cs nG gs nP ps nO os nR rs k dmp day pur rf h'))) := by
  refine CT.start [some (.ref m0), some (.int i)] (by decide) hl rfl rfl (fun K C M => ?_)
  obtain ⟨rfl, rfl, rfl, -⟩ := id M
  have C : CX K RX10 cX10_water 2 rm_X10_water := C
  obtain ⟨mm, mL, mk, mw, mCl, mGl, mPt, mOr, mRm, mn1, mn2, mn3⟩ := id YY
  first | refine w_aload_n C dX10_water_0 (by rfl) ?_ | refine w_aload_nN C dX10_water_0 (by rfl) ?_
  first | refine w_aload_n C dX10_water_1 (by rfl) ?_ | refine w_aload_nN C dX10_water_1 (by rfl) ?_
  refine w_iload_n C dX10_water_2 (by rfl) ?_
  refine cl_X10_104 C (m_X10_isNoPot hl YY (by omega)) mm (by rfl) (by rfl) ⟨by decide, by decide⟩ (by rfl) dX10_water_3 (fun z1 h1 p1 => ?_)
  obtain ⟨rfl, p_3⟩ := p1
  rcases p_3 with ⟨rfl, c_3⟩ | ⟨rfl, j, hj, rfl⟩
  · 
    refine w_iconst (v := 1) C dX10_water_6 (by rfl) ?_
    refine cl_X10_88 C (m_X10_startT hl mm (by decide)) mm (by rfl) (by rfl) ⟨by decide, by decide⟩ (by rfl) dX10_water_7 (fun z2 h2 p2 => ?_)
    obtain ⟨rfl, p2⟩ := p2
    have YY := YY.me (th2 := 1) (day2 := day) (dmp2 := dmp) (pur2 := pur) (rf2 := rf) p2
    obtain ⟨mm, mL, mk, mw, mCl, mGl, mPt, mOr, mRm, mn1, mn2, mn3⟩ := id YY
    refine w_if_eq (tgt := 17) C dX10_water_10 (by rfl) (fun c_10 => ?_) (fun c_10 => ?_)
    · exact absurd c_10 (by decide)
    · try simp only [cg_ge, cg_gt, cl_gt, cl_le, cl_eq, cl_lt, cl_ge, bi_eq0, bi_ne0, bI_eq0, Decidable.not_not, Bool.not_eq_false] at c_10
      refine w_dconst0 C dX10_water_13 ?_
      refine w_goto (tgt := 32) C dX10_water_14 (by rfl) ?_
      refine w_dret C M dX10_water_32 ⟨by decide, by decide⟩ ⟨_, rfl, ?_⟩
      exact Or.inl ⟨c_3, rfl, YY.ex⟩
  · 
    refine w_iconst (v := 1) C dX10_water_6 (by rfl) ?_
    refine cl_X10_88 C (m_X10_startF hl mm) mm (by rfl) (by rfl) ⟨by decide, by decide⟩ (by rfl) dX10_water_7 (fun z3 h3 p3 => ?_)
    obtain ⟨rfl, p3⟩ := p3
    have YY := YY.me (th2 := 0) (day2 := day) (dmp2 := dmp) (pur2 := pur) (rf2 := rf) p3
    obtain ⟨mm, mL, mk, mw, mCl, mGl, mPt, mOr, mRm, mn1, mn2, mn3⟩ := id YY
    refine w_if_eq (tgt := 17) C dX10_water_10 (by rfl) (fun c_10 => ?_) (fun c_10 => ?_)
    · try simp only [cg_ge, cg_gt, cl_gt, cl_le, cl_eq, cl_lt, cl_ge, bi_eq0, bi_ne0, bI_eq0, Decidable.not_not, Bool.not_eq_false] at c_10
      have hpj := mPt j hj
      first | refine w_aload_n C dX10_water_17 (by rfl) ?_ | refine w_aload_nN C dX10_water_17 (by rfl) ?_
      refine gf_X10_19 C mm dX10_water_18 ?_
      refine w_iload_n C dX10_water_21 (by rfl) ?_
      refine cl_X10_58 C (m_get hl YY.lp YY.ap hj) YY.lp (by rfl) (by rfl) ⟨by decide, by decide⟩ (by rfl) dX10_water_22 (fun z4 h4 p4 => ?_)
      obtain ⟨rfl, rfl⟩ := p4
      refine w_castS C hpj (r := (RX9, TX9, 12)) rfl gw_1152 dX10_water_25 ?_
      refine gf_X10_270 C hpj dX10_water_28 ?_
      refine w_f2d C dX10_water_31 (nn_of (dfin_f2d (hf9 j hj)).n) ?_
      refine w_dret C M dX10_water_32 ⟨by decide, by decide⟩ ⟨_, rfl, ?_⟩
      exact Or.inr ⟨j, hj, rfl, rfl, YY.ex⟩
    · exact absurd c_10 (by decide)

set_option maxHeartbeats 4000000 in
set_option maxRecDepth 100000 in
theorem m_X10_kiln {l : Launch} {D : va_G} {tc : Nat → ClassId} (hl : l.stackTraces = false) {h : HM} {m0 kl wk : Nat} {L : Nat → Nat} {E : Nat → Nat} {M : Nat → Int32} {ca : Nat → Nat} {ga : Nat → Nat} {pa : Nat → Nat} {oa : Nat → Nat} {ra : Nat → Nat} {th : Int32} {nC : Nat} {cs : Nat → Int32 × Int32} {nG : Nat} {gs : Nat → GT} {nP : Nat} {ps : Nat → PT} {nO : Nat} {os : Nat → OT} {nR : Nat} {rs : Nat → RT} {k : KT} {dmp : Int32} {day : Int32} {pur : Int32} {rf : Int32} (YY : Mh tc m0 kl wk L E M ca ga pa oa ra th nC cs nG gs nP ps nO os nR rs k dmp day pur rf h) (hk : okk k) {what : Int32} :
    CT l D tc yX10_kiln cX10_kiln 2 (some FieldType.double) rm_X10_kiln [.ref m0, .int what] h (rD (fun z h' => (¬ (0 ≤ what ∧ what ≤ 5) ∧ z = FP.dconst0 ∧ MhE tc m0 kl wk 1 nC cs nG gs nP ps nO os nR rs k dmp day pur rf h') ∨ ((0 ≤ what ∧ what ≤ 5) ∧ z = sp_kiln k what ∧ MhE tc m0 kl wk 0 nC cs nG gs nP ps nO os nR rs k dmp day pur rf h'))) := by
  refine CT.start [some (.ref m0), some (.int what)] (by decide) hl rfl rfl (fun K C M => ?_)
  obtain ⟨rfl, rfl, rfl, -⟩ := id M
  have C : CX K RX10 cX10_kiln 2 rm_X10_kiln := C
  obtain ⟨mm, mL, mk, mw, mCl, mGl, mPt, mOr, mRm, mn1, mn2, mn3⟩ := id YY
  first | refine w_aload_n C dX10_kiln_0 (by rfl) ?_ | refine w_aload_nN C dX10_kiln_0 (by rfl) ?_
  refine w_iload_n C dX10_kiln_1 (by rfl) ?_
  refine w_iconst (v := 0) C dX10_kiln_2 (by rfl) ?_
  refine w_iconst (v := 5) C dX10_kiln_3 (by rfl) ?_
  refine cl_X10_44 C (m_X10_isIn hl) (by rfl) (by rfl) ⟨by decide, by decide⟩ (by rfl) dX10_kiln_4 (fun z1 h1 p1 => ?_)
  obtain ⟨rfl, rfl⟩ := p1
  refine w_if_ne (tgt := 14) C dX10_kiln_7 (by rfl) (fun c_7 => ?_) (fun c_7 => ?_)
  · try simp only [cg_ge, cg_gt, cl_gt, cl_le, cl_eq, cl_lt, cl_ge, bi_eq0, bi_ne0, bI_eq0, Decidable.not_not, Bool.not_eq_false] at c_7
    refine w_iconst (v := 0) C dX10_kiln_14 (by rfl) ?_
    refine w_iconst (v := 1) C dX10_kiln_15 (by rfl) ?_
    refine cl_X10_88 C (m_X10_startF hl mm) mm (by rfl) (by rfl) ⟨by decide, by decide⟩ (by rfl) dX10_kiln_16 (fun z2 h2 p2 => ?_)
    obtain ⟨rfl, p2⟩ := p2
    have YY := YY.me (th2 := 0) (day2 := day) (dmp2 := dmp) (pur2 := pur) (rf2 := rf) p2
    obtain ⟨mm, mL, mk, mw, mCl, mGl, mPt, mOr, mRm, mn1, mn2, mn3⟩ := id YY
    refine w_if_eq (tgt := 24) C dX10_kiln_19 (by rfl) (fun c_19 => ?_) (fun c_19 => ?_)
    · try simp only [cg_ge, cg_gt, cl_gt, cl_le, cl_eq, cl_lt, cl_ge, bi_eq0, bi_ne0, bI_eq0, Decidable.not_not, Bool.not_eq_false] at c_19
      refine w_iload_n C dX10_kiln_24 (by rfl) ?_
      refine w_if_ne (tgt := 38) C dX10_kiln_25 (by rfl) (fun c_25 => ?_) (fun c_25 => ?_)
      · try simp only [cg_ge, cg_gt, cl_gt, cl_le, cl_eq, cl_lt, cl_ge, bi_eq0, bi_ne0, bI_eq0, Decidable.not_not, Bool.not_eq_false] at c_25
        refine w_iload_n C dX10_kiln_38 (by rfl) ?_
        refine w_iconst (v := 1) C dX10_kiln_39 (by rfl) ?_
        refine w_icmp_ne (tgt := 54) C dX10_kiln_40 (by rfl) (fun c_40 => ?_) (fun c_40 => ?_)
        · refine w_iload_n C dX10_kiln_54 (by rfl) ?_
          refine w_iconst (v := 2) C dX10_kiln_55 (by rfl) ?_
          refine w_icmp_ne (tgt := 69) C dX10_kiln_56 (by rfl) (fun c_56 => ?_) (fun c_56 => ?_)
          · obtain ⟨w, hw, rfl⟩ : ∃ w, w < 3 ∧ what = nI w + 3 := by
              obtain ⟨v, hv, rfl⟩ := rng9 (n := 5) (by decide) c_7
              rcases v with _ | _ | _ | v
              · exact absurd rfl c_25
              · exact absurd rfl c_40
              · exact absurd rfl c_56
              · refine ⟨v, by omega, ?_⟩
                rcases v with _ | _ | _ | v
                · rfl
                · rfl
                · rfl
                · omega
            first | refine w_aload_n C dX10_kiln_69 (by rfl) ?_ | refine w_aload_nN C dX10_kiln_69 (by rfl) ?_
            refine gf_X10_28 C mm dX10_kiln_70 ?_
            refine gf_X10_249 C mk dX10_kiln_73 ?_
            refine w_iload_n C dX10_kiln_76 (by rfl) ?_
            refine w_iconst (v := 3) C dX10_kiln_77 (by rfl) ?_
            refine w_isub C dX10_kiln_78 ?_
            rw [Int32.add_sub_cancel]
            refine w_daldn C mw hw (by decide) dX10_kiln_79 ?_
            refine w_dret C M dX10_kiln_80 ⟨by decide, by decide⟩ ⟨_, rfl, ?_⟩
            exact Or.inr ⟨c_7, by
              rcases w with _ | _ | _ | w
              · rfl
              · rfl
              · rfl
              · omega, YY.ex⟩
          · first | refine w_aload_n C dX10_kiln_59 (by rfl) ?_ | refine w_aload_nN C dX10_kiln_59 (by rfl) ?_
            refine gf_X10_28 C mm dX10_kiln_60 ?_
            refine cl_X10_279 C (m_X8_gives hl mk hk.1 hk.2.1) mk (by rfl) (by rfl) ⟨by decide, by decide⟩ (by rfl) dX10_kiln_63 (fun z3 h3 p3 => ?_)
            obtain ⟨rfl, rfl⟩ := p3
            refine w_goto (tgt := 80) C dX10_kiln_66 (by rfl) ?_
            refine w_dret C M dX10_kiln_80 ⟨by decide, by decide⟩ ⟨_, rfl, ?_⟩
            exact Or.inr ⟨c_7, by rw [c_56]; rfl, YY.ex⟩
        · first | refine w_aload_n C dX10_kiln_43 (by rfl) ?_ | refine w_aload_nN C dX10_kiln_43 (by rfl) ?_
          refine gf_X10_28 C mm dX10_kiln_44 ?_
          refine gf_X10_252 C mk dX10_kiln_47 ?_
          refine w_f2d C dX10_kiln_50 (nn_of (dfin_f2d hk.2.1).n) ?_
          refine w_goto (tgt := 80) C dX10_kiln_51 (by rfl) ?_
          refine w_dret C M dX10_kiln_80 ⟨by decide, by decide⟩ ⟨_, rfl, ?_⟩
          exact Or.inr ⟨c_7, by rw [c_40]; rfl, YY.ex⟩
      · try simp only [cg_ge, cg_gt, cl_gt, cl_le, cl_eq, cl_lt, cl_ge, bi_eq0, bi_ne0, bI_eq0, Decidable.not_not, Bool.not_eq_false] at c_25
        first | refine w_aload_n C dX10_kiln_28 (by rfl) ?_ | refine w_aload_nN C dX10_kiln_28 (by rfl) ?_
        refine gf_X10_28 C mm dX10_kiln_29 ?_
        refine gf_X10_52 C mk dX10_kiln_32 ?_
        refine w_goto (tgt := 80) C dX10_kiln_35 (by rfl) ?_
        refine w_dret C M dX10_kiln_80 ⟨by decide, by decide⟩ ⟨_, rfl, ?_⟩
        exact Or.inr ⟨c_7, by rw [c_25]; rfl, YY.ex⟩
    · exact absurd c_19 (by decide)
  · try simp only [cg_ge, cg_gt, cl_gt, cl_le, cl_eq, cl_lt, cl_ge, bi_eq0, bi_ne0, bI_eq0, Decidable.not_not, Bool.not_eq_false] at c_7
    refine w_iconst (v := 1) C dX10_kiln_10 (by rfl) ?_
    refine w_goto (tgt := 15) C dX10_kiln_11 (by rfl) ?_
    refine w_iconst (v := 1) C dX10_kiln_15 (by rfl) ?_
    refine cl_X10_88 C (m_X10_startT hl mm (by decide)) mm (by rfl) (by rfl) ⟨by decide, by decide⟩ (by rfl) dX10_kiln_16 (fun z4 h4 p4 => ?_)
    obtain ⟨rfl, p4⟩ := p4
    have YY := YY.me (th2 := 1) (day2 := day) (dmp2 := dmp) (pur2 := pur) (rf2 := rf) p4
    obtain ⟨mm, mL, mk, mw, mCl, mGl, mPt, mOr, mRm, mn1, mn2, mn3⟩ := id YY
    refine w_if_eq (tgt := 24) C dX10_kiln_19 (by rfl) (fun c_19 => ?_) (fun c_19 => ?_)
    · exact absurd c_19 (by decide)
    · try simp only [cg_ge, cg_gt, cl_gt, cl_le, cl_eq, cl_lt, cl_ge, bi_eq0, bi_ne0, bI_eq0, Decidable.not_not, Bool.not_eq_false] at c_19
      refine w_dconst0 C dX10_kiln_22 ?_
      refine w_dret C M dX10_kiln_23 ⟨by decide, by decide⟩ ⟨_, rfl, ?_⟩
      exact Or.inl ⟨c_7, rfl, YY.ex⟩

set_option maxHeartbeats 4000000 in
set_option maxRecDepth 100000 in
theorem lp_X10_count {K : KC} (C : CX K RX10 cX10_count 5 rm_X10_count) (hl : (Kl K).stackTraces = false) {h0 : HM} {m0 kl wk : Nat} {L : Nat → Nat} {E : Nat → Nat} {M : Nat → Int32} {ca : Nat → Nat} {ga : Nat → Nat} {pa : Nat → Nat} {oa : Nat → Nat} {ra : Nat → Nat} {th : Int32} {nC : Nat} {cs : Nat → Int32 × Int32} {nG : Nat} {gs : Nat → GT} {nP : Nat} {ps : Nat → PT} {nO : Nat} {os : Nat → OT} {nR : Nat} {rs : Nat → RT} {k : KT} {dmp : Int32} {day : Int32} {pur : Int32} {rf : Int32} (YY0 : Mh (Kt K) m0 kl wk L E M ca ga pa oa ra th nC cs nG gs nP ps nO os nR rs k dmp day pur rf h0) (hO : nO ≤ 6) {q w : Nat} (nq : h0 q = none)
    (kk : ∀ h', Fr [] h0 h' → WW K (1, 4) 42 [some (.ref m0), some (.int (nI w)), some (.int (sp_cnt (fun i => decide (i < nO ∧ (os i).2.2.2.2 = false)) nO)), some (.ref q), none] [] h')
    : ∀ j : Nat, j ≤ nO → ∀ {h : HM} {lr : Int32},  (fr : Fr [] h0 h) → (hI : h q = some (itC j lr (M 3) (L 3))) → WW K (1, 4) 10 [some (.ref m0), some (.int (nI w)), some (.int (sp_cnt (fun i => decide (i < nO ∧ (os i).2.2.2.2 = false)) j)), some (.ref q), none] [] h := by
  refine up_ind ?_
  intro j hj ih h lr fr hI
  have YY := YY0.fr0 fr
  obtain ⟨mm, mL, mk, mw, mCl, mGl, mPt, mOr, mRm, mn1, mn2, mn3⟩ := id YY
  first | refine w_aload_n C dX10_count_10 (by rfl) ?_ | refine w_aload_nN C dX10_count_10 (by rfl) ?_
  refine w_hasN C hl YY.lo hI hj (by omega) gw_1257 (by rfl) (by rfl) ⟨by decide, by decide⟩ (by rfl) dX10_count_11 ?_
  refine w_if_eq (tgt := 42) C dX10_count_16 (by rfl) (fun c_16 => ?_) (fun c_16 => ?_)
  · try simp only [cg_ge, cg_gt, cl_gt, cl_le, cl_eq, cl_lt, cl_ge, bi_eq0, bi_ne0, bI_eq0, Decidable.not_not, Bool.not_eq_false] at c_16
    obtain rfl : j = nO := by omega
    exact kk _ fr
  · try simp only [cg_ge, cg_gt, cl_gt, cl_le, cl_eq, cl_lt, cl_ge, bi_eq0, bi_ne0, bI_eq0, Decidable.not_not, Bool.not_eq_false] at c_16
    have hj3 : j < nO := by assumption
    obtain ⟨cap, hE, hcn, hcap⟩ := YY.ao.get hj3
    first | refine w_aload_n C dX10_count_19 (by rfl) ?_ | refine w_aload_nN C dX10_count_19 (by rfl) ?_
    refine w_next C hl YY.lo hI hE hj3 hcn hcap (row9_i hj3) gw_1267 (by rfl) (by rfl) ⟨by decide, by decide⟩ (by rfl) dX10_count_20 (fun h9 u9 => ?_)
    have fr := fr.itn nq u9
    have YY := YY0.fr0 fr
    have hI := u9.self
    obtain ⟨mm, mL, mk, mw, mCl, mGl, mPt, mOr, mRm, mn1, mn2, mn3⟩ := id YY
    refine w_castI C (mOr j hj3) gw_1313 dX10_count_25 ?_
    first | refine w_astore_4 C dX10_count_28 (by first | trivial | rfl) ?_ | refine w_astore_4N C dX10_count_28 (by first | trivial | rfl) ?_
    refine w_iload_n C dX10_count_30 (by rfl) ?_
    refine w_iconst (v := 1) C dX10_count_31 (by rfl) ?_
    first | refine w_aload C dX10_count_32 (by rfl) ?_ | refine w_aloadN C dX10_count_32 (by rfl) ?_
    refine w_iconst (v := 4) C dX10_count_34 (by rfl) ?_
    refine w_ialdn (j := 4) C (mOr j hj3) (by decide) (by decide) dX10_count_35 ?_
    rw [oI_4]
    refine w_isub C dX10_count_36 ?_
    rw [open_s _ j nO hj3]
    refine w_iadd C dX10_count_37 ?_
    rw [show sp_cnt (fun i => decide (i < nO ∧ (os i).2.2.2.2 = false)) j + bi (decide (j < nO ∧ (os j).2.2.2.2 = false)) = sp_cnt (fun i => decide (i < nO ∧ (os i).2.2.2.2 = false)) (j + 1) from rfl]
    refine w_istore_2 C dX10_count_38 (by first | trivial | rfl) ?_
    refine w_goto (tgt := 10) C dX10_count_39 (by rfl) ?_
    exact w_sub (ih hj3 fr hI) (by repeat' first | exact trivial | rfl | constructor)

theorem cnt_6 {nO : Nat} {os : Nat → OT} (h : nO ≤ 6) : sp_cnt (fun i => decide (i < nO ∧ (os i).2.2.2.2 = false)) nO = sp_cnt (fun i => decide (i < nO ∧ (os i).2.2.2.2 = false)) 6 := by
  have := cnt_to (p := fun i => decide (i < nO ∧ (os i).2.2.2.2 = false)) (n := nO) (fun i hi => decide_eq_false (fun w => absurd w.1 (Nat.not_lt.mpr hi))) (6 - nO)
  rw [show nO + (6 - nO) = 6 by omega] at this
  exact this.symm

set_option maxHeartbeats 4000000 in
set_option maxRecDepth 100000 in
theorem m_X10_count {l : Launch} {D : va_G} {tc : Nat → ClassId} (hl : l.stackTraces = false) {h : HM} {m0 kl wk : Nat} {L : Nat → Nat} {E : Nat → Nat} {M : Nat → Int32} {ca : Nat → Nat} {ga : Nat → Nat} {pa : Nat → Nat} {oa : Nat → Nat} {ra : Nat → Nat} {th : Int32} {nC : Nat} {cs : Nat → Int32 × Int32} {nG : Nat} {gs : Nat → GT} {nP : Nat} {ps : Nat → PT} {nO : Nat} {os : Nat → OT} {nR : Nat} {rs : Nat → RT} {k : KT} {dmp : Int32} {day : Int32} {pur : Int32} {rf : Int32} (YY : Mh tc m0 kl wk L E M ca ga pa oa ra th nC cs nG gs nP ps nO os nR rs k dmp day pur rf h) (hn : nP ≤ 14) (hO : nO ≤ 6) {w : Nat} (hw : w < 16) :
    CT l D tc yX10_count cX10_count 5 (some FieldType.int) rm_X10_count [.ref m0, .int (nI w)] h (rI (fun z h' => z = sp_many nP ps nO os nR k day pur rf (nI w) ∧ Fr [] h h')) := by
  refine CT.start [some (.ref m0), some (.int (nI w)), none, none, none] (by decide) hl rfl rfl (fun K C M => ?_)
  obtain ⟨rfl, rfl, rfl, -⟩ := id M
  have C : CX K RX10 cX10_count 5 rm_X10_count := C
  obtain ⟨mm, mL, mk, mw, mCl, mGl, mPt, mOr, mRm, mn1, mn2, mn3⟩ := id YY
  have YY0 := YY
  refine w_iconst (v := 0) C dX10_count_0 (by rfl) ?_
  refine w_istore_2 C dX10_count_1 (by first | trivial | rfl) ?_
  first | refine w_aload_n C dX10_count_2 (by rfl) ?_ | refine w_aload_nN C dX10_count_2 (by rfl) ?_
  refine gf_X10_22 C mm dX10_count_3 ?_
  refine cl_X10_110 C (m_Jx4a65c_iterator_32c93 hl YY.lo) YY.lo (by rfl) (by rfl) ⟨by decide, by decide⟩ (by rfl) dX10_count_6 (fun z1 h1 p1 => ?_)
  obtain ⟨q, rfl, nq, uq⟩ := p1
  first | refine w_astore_3 C dX10_count_9 (by first | trivial | rfl) ?_ | refine w_astore_3N C dX10_count_9 (by first | trivial | rfl) ?_
  refine lp_X10_count C hl YY hO nq (fun h9 fr9 => ?_) 0 (by omega) (uq.frN nq) uq.self
  have fr := fr9
  have YY := YY0.fr0 fr
  obtain ⟨mm, mL, mk, mw, mCl, mGl, mPt, mOr, mRm, mn1, mn2, mn3⟩ := id YY
  refine w_bipush (v := (16)) C dX10_count_42 (by rfl) ?_
  refine w_newain C gw_1139 (by decide) (by rfl) (by decide) (by decide) (by decide) dX10_count_44 (fun q h2 n2 u2 => ?_)
  have f_q := u2.self
  have nq := fr.nil9 List.not_mem_nil n2
  have fr := fr.tr (u2.frN n2)
  have YY := YY0.fr0 fr
  obtain ⟨mm, mL, mk, mw, mCl, mGl, mPt, mOr, mRm, mn1, mn2, mn3⟩ := id YY
  refine w_dup C dX10_count_46 (by rfl) ?_
  refine w_iconst (v := 0) C dX10_count_47 (by rfl) ?_
  first | refine w_aload_n C dX10_count_48 (by rfl) ?_ | refine w_aload_nN C dX10_count_48 (by rfl) ?_
  refine gf_X10_131 C mm dX10_count_49 ?_
  refine w_iastn (j := 0) C f_q (by decide) (by decide) dX10_count_52 (fun h52 u52 => ?_)
  have f_q := u52.self
  have fr := fr.itn nq u52
  have YY := YY0.fr0 fr
  obtain ⟨mm, mL, mk, mw, mCl, mGl, mPt, mOr, mRm, mn1, mn2, mn3⟩ := id YY
  refine w_dup C dX10_count_53 (by rfl) ?_
  refine w_iconst (v := 1) C dX10_count_54 (by rfl) ?_
  first | refine w_aload_n C dX10_count_55 (by rfl) ?_ | refine w_aload_nN C dX10_count_55 (by rfl) ?_
  refine gf_X10_28 C mm dX10_count_56 ?_
  refine gf_X10_289 C mk dX10_count_59 ?_
  refine w_iastn (j := 1) C f_q (by decide) (by decide) dX10_count_62 (fun h62 u62 => ?_)
  have f_q := u62.self
  have fr := fr.itn nq u62
  have YY := YY0.fr0 fr
  obtain ⟨mm, mL, mk, mw, mCl, mGl, mPt, mOr, mRm, mn1, mn2, mn3⟩ := id YY
  refine w_dup C dX10_count_63 (by rfl) ?_
  refine w_iconst (v := 2) C dX10_count_64 (by rfl) ?_
  first | refine w_aload_n C dX10_count_65 (by rfl) ?_ | refine w_aload_nN C dX10_count_65 (by rfl) ?_
  refine gf_X10_28 C mm dX10_count_66 ?_
  refine gf_X10_48 C mk dX10_count_69 ?_
  refine cl_X10_127 C (m_X10_one hl) (by rfl) (by rfl) ⟨by decide, by decide⟩ (by rfl) dX10_count_72 (fun z3 h3 p3 => ?_)
  obtain ⟨rfl, rfl⟩ := p3
  rw [one_bi]
  refine w_iastn (j := 2) C f_q (by decide) (by decide) dX10_count_75 (fun h75 u75 => ?_)
  have f_q := u75.self
  have fr := fr.itn nq u75
  have YY := YY0.fr0 fr
  obtain ⟨mm, mL, mk, mw, mCl, mGl, mPt, mOr, mRm, mn1, mn2, mn3⟩ := id YY
  refine w_dup C dX10_count_76 (by rfl) ?_
  refine w_iconst (v := 3) C dX10_count_77 (by rfl) ?_
  first | refine w_aload_n C dX10_count_78 (by rfl) ?_ | refine w_aload_nN C dX10_count_78 (by rfl) ?_
  refine gf_X10_28 C mm dX10_count_79 ?_
  refine gf_X10_48 C mk dX10_count_82 ?_
  refine w_if_eq (tgt := 98) C dX10_count_85 (by rfl) (fun c_85 => ?_) (fun c_85 => ?_)
  · try simp only [cg_ge, cg_gt, cl_gt, cl_le, cl_eq, cl_lt, cl_ge, bi_eq0, bi_ne0, bI_eq0, Decidable.not_not, Bool.not_eq_false] at c_85
    refine w_iconst (v := (-1)) C dX10_count_98 (by rfl) ?_
    refine w_iastn (j := 3) C f_q (by decide) (by decide) dX10_count_99 (fun h99 u99 => ?_)
    have f_q := u99.self
    have fr := fr.itn nq u99
    have YY := YY0.fr0 fr
    obtain ⟨mm, mL, mk, mw, mCl, mGl, mPt, mOr, mRm, mn1, mn2, mn3⟩ := id YY
    refine w_dup C dX10_count_100 (by rfl) ?_
    refine w_iconst (v := 4) C dX10_count_101 (by rfl) ?_
    first | refine w_aload_n C dX10_count_102 (by rfl) ?_ | refine w_aload_nN C dX10_count_102 (by rfl) ?_
    refine gf_X10_28 C mm dX10_count_103 ?_
    refine gf_X10_48 C mk dX10_count_106 ?_
    refine w_if_eq (tgt := 122) C dX10_count_109 (by rfl) (fun c_109 => ?_) (fun c_109 => ?_)
    · try simp only [cg_ge, cg_gt, cl_gt, cl_le, cl_eq, cl_lt, cl_ge, bi_eq0, bi_ne0, bI_eq0, Decidable.not_not, Bool.not_eq_false] at c_109
      refine w_iconst (v := 0) C dX10_count_122 (by rfl) ?_
      refine w_iastn (j := 4) C f_q (by decide) (by decide) dX10_count_123 (fun h123 u123 => ?_)
      have f_q := u123.self
      have fr := fr.itn nq u123
      have YY := YY0.fr0 fr
      obtain ⟨mm, mL, mk, mw, mCl, mGl, mPt, mOr, mRm, mn1, mn2, mn3⟩ := id YY
      refine w_dup C dX10_count_124 (by rfl) ?_
      refine w_iconst (v := 5) C dX10_count_125 (by rfl) ?_
      first | refine w_aload_n C dX10_count_126 (by rfl) ?_ | refine w_aload_nN C dX10_count_126 (by rfl) ?_
      refine gf_X10_28 C mm dX10_count_127 ?_
      refine gf_X10_186 C mk dX10_count_130 ?_
      refine cl_X10_40 C (m_Jx4a65c_size_8abf5 hl YY.lr) YY.lr (by rfl) (by rfl) ⟨by decide, by decide⟩ (by rfl) dX10_count_133 (fun z4 h4 p4 => ?_)
      obtain ⟨rfl, rfl⟩ := p4
      refine w_iastn (j := 5) C f_q (by decide) (by decide) dX10_count_136 (fun h136 u136 => ?_)
      have f_q := u136.self
      have fr := fr.itn nq u136
      have YY := YY0.fr0 fr
      obtain ⟨mm, mL, mk, mw, mCl, mGl, mPt, mOr, mRm, mn1, mn2, mn3⟩ := id YY
      refine w_dup C dX10_count_137 (by rfl) ?_
      refine w_bipush (v := (6)) C dX10_count_138 (by rfl) ?_
      first | refine w_aload_n C dX10_count_140 (by rfl) ?_ | refine w_aload_nN C dX10_count_140 (by rfl) ?_
      refine gf_X10_19 C mm dX10_count_141 ?_
      refine cl_X10_40 C (m_Jx4a65c_size_8abf5 hl YY.lp) YY.lp (by rfl) (by rfl) ⟨by decide, by decide⟩ (by rfl) dX10_count_144 (fun z5 h5 p5 => ?_)
      obtain ⟨rfl, rfl⟩ := p5
      refine w_iastn (j := 6) C f_q (by decide) (by decide) dX10_count_147 (fun h147 u147 => ?_)
      have f_q := u147.self
      have fr := fr.itn nq u147
      have YY := YY0.fr0 fr
      obtain ⟨mm, mL, mk, mw, mCl, mGl, mPt, mOr, mRm, mn1, mn2, mn3⟩ := id YY
      refine w_dup C dX10_count_148 (by rfl) ?_
      refine w_bipush (v := (7)) C dX10_count_149 (by rfl) ?_
      first | refine w_aload_n C dX10_count_151 (by rfl) ?_ | refine w_aload_nN C dX10_count_151 (by rfl) ?_
      refine w_iconst (v := 4) C dX10_count_152 (by rfl) ?_
      refine cl_X10_137 C (m_X10_manyIn hl YY hn) mm (by rfl) (by rfl) ⟨by decide, by decide⟩ (by rfl) dX10_count_153 (fun z6 h6 p6 => ?_)
      obtain ⟨rfl, fr9⟩ := p6
      rw [cnt_14 hn]
      have f_q := fr9 _ _ List.not_mem_nil f_q
      have fr := fr.tr fr9
      have YY := YY0.fr0 fr
      obtain ⟨mm, mL, mk, mw, mCl, mGl, mPt, mOr, mRm, mn1, mn2, mn3⟩ := id YY
      refine w_iastn (j := 7) C f_q (by decide) (by decide) dX10_count_156 (fun h156 u156 => ?_)
      have f_q := u156.self
      have fr := fr.itn nq u156
      have YY := YY0.fr0 fr
      obtain ⟨mm, mL, mk, mw, mCl, mGl, mPt, mOr, mRm, mn1, mn2, mn3⟩ := id YY
      refine w_dup C dX10_count_157 (by rfl) ?_
      refine w_bipush (v := (8)) C dX10_count_158 (by rfl) ?_
      first | refine w_aload_n C dX10_count_160 (by rfl) ?_ | refine w_aload_nN C dX10_count_160 (by rfl) ?_
      refine w_iconst (v := 5) C dX10_count_161 (by rfl) ?_
      refine cl_X10_137 C (m_X10_manyIn hl YY hn) mm (by rfl) (by rfl) ⟨by decide, by decide⟩ (by rfl) dX10_count_162 (fun z7 h7 p7 => ?_)
      obtain ⟨rfl, fr9⟩ := p7
      rw [cnt_14 hn]
      have f_q := fr9 _ _ List.not_mem_nil f_q
      have fr := fr.tr fr9
      have YY := YY0.fr0 fr
      obtain ⟨mm, mL, mk, mw, mCl, mGl, mPt, mOr, mRm, mn1, mn2, mn3⟩ := id YY
      refine w_iastn (j := 8) C f_q (by decide) (by decide) dX10_count_165 (fun h165 u165 => ?_)
      have f_q := u165.self
      have fr := fr.itn nq u165
      have YY := YY0.fr0 fr
      obtain ⟨mm, mL, mk, mw, mCl, mGl, mPt, mOr, mRm, mn1, mn2, mn3⟩ := id YY
      refine w_dup C dX10_count_166 (by rfl) ?_
      refine w_bipush (v := (9)) C dX10_count_167 (by rfl) ?_
      first | refine w_aload_n C dX10_count_169 (by rfl) ?_ | refine w_aload_nN C dX10_count_169 (by rfl) ?_
      refine w_bipush (v := (6)) C dX10_count_170 (by rfl) ?_
      refine cl_X10_137 C (m_X10_manyIn hl YY hn) mm (by rfl) (by rfl) ⟨by decide, by decide⟩ (by rfl) dX10_count_172 (fun z8 h8 p8 => ?_)
      obtain ⟨rfl, fr9⟩ := p8
      rw [cnt_14 hn]
      have f_q := fr9 _ _ List.not_mem_nil f_q
      have fr := fr.tr fr9
      have YY := YY0.fr0 fr
      obtain ⟨mm, mL, mk, mw, mCl, mGl, mPt, mOr, mRm, mn1, mn2, mn3⟩ := id YY
      refine w_iastn (j := 9) C f_q (by decide) (by decide) dX10_count_175 (fun h175 u175 => ?_)
      have f_q := u175.self
      have fr := fr.itn nq u175
      have YY := YY0.fr0 fr
      obtain ⟨mm, mL, mk, mw, mCl, mGl, mPt, mOr, mRm, mn1, mn2, mn3⟩ := id YY
      refine w_dup C dX10_count_176 (by rfl) ?_
      refine w_bipush (v := (10)) C dX10_count_177 (by rfl) ?_
      first | refine w_aload_n C dX10_count_179 (by rfl) ?_ | refine w_aload_nN C dX10_count_179 (by rfl) ?_
      refine gf_X10_28 C mm dX10_count_180 ?_
      refine gf_X10_292 C mk dX10_count_183 ?_
      refine w_iastn (j := 10) C f_q (by decide) (by decide) dX10_count_186 (fun h186 u186 => ?_)
      have f_q := u186.self
      have fr := fr.itn nq u186
      have YY := YY0.fr0 fr
      obtain ⟨mm, mL, mk, mw, mCl, mGl, mPt, mOr, mRm, mn1, mn2, mn3⟩ := id YY
      refine w_dup C dX10_count_187 (by rfl) ?_
      refine w_bipush (v := (11)) C dX10_count_188 (by rfl) ?_
      first | refine w_aload_n C dX10_count_190 (by rfl) ?_ | refine w_aload_nN C dX10_count_190 (by rfl) ?_
      refine gf_X10_28 C mm dX10_count_191 ?_
      refine gf_X10_295 C mk dX10_count_194 ?_
      refine w_iastn (j := 11) C f_q (by decide) (by decide) dX10_count_197 (fun h197 u197 => ?_)
      have f_q := u197.self
      have fr := fr.itn nq u197
      have YY := YY0.fr0 fr
      obtain ⟨mm, mL, mk, mw, mCl, mGl, mPt, mOr, mRm, mn1, mn2, mn3⟩ := id YY
      refine w_dup C dX10_count_198 (by rfl) ?_
      refine w_bipush (v := (12)) C dX10_count_199 (by rfl) ?_
      first | refine w_aload_n C dX10_count_201 (by rfl) ?_ | refine w_aload_nN C dX10_count_201 (by rfl) ?_
      refine gf_X10_264 C mm dX10_count_202 ?_
      refine w_iastn (j := 12) C f_q (by decide) (by decide) dX10_count_205 (fun h205 u205 => ?_)
      have f_q := u205.self
      have fr := fr.itn nq u205
      have YY := YY0.fr0 fr
      obtain ⟨mm, mL, mk, mw, mCl, mGl, mPt, mOr, mRm, mn1, mn2, mn3⟩ := id YY
      refine w_dup C dX10_count_206 (by rfl) ?_
      refine w_bipush (v := (13)) C dX10_count_207 (by rfl) ?_
      refine w_iload_n C dX10_count_209 (by rfl) ?_
      refine w_iastn (j := 13) C f_q (by decide) (by decide) dX10_count_210 (fun h210 u210 => ?_)
      have f_q := u210.self
      have fr := fr.itn nq u210
      have YY := YY0.fr0 fr
      obtain ⟨mm, mL, mk, mw, mCl, mGl, mPt, mOr, mRm, mn1, mn2, mn3⟩ := id YY
      refine w_dup C dX10_count_211 (by rfl) ?_
      refine w_bipush (v := (14)) C dX10_count_212 (by rfl) ?_
      first | refine w_aload_n C dX10_count_214 (by rfl) ?_ | refine w_aload_nN C dX10_count_214 (by rfl) ?_
      refine gf_X10_221 C mm dX10_count_215 ?_
      refine w_iastn (j := 14) C f_q (by decide) (by decide) dX10_count_218 (fun h218 u218 => ?_)
      have f_q := u218.self
      have fr := fr.itn nq u218
      have YY := YY0.fr0 fr
      obtain ⟨mm, mL, mk, mw, mCl, mGl, mPt, mOr, mRm, mn1, mn2, mn3⟩ := id YY
      refine w_dup C dX10_count_219 (by rfl) ?_
      refine w_bipush (v := (15)) C dX10_count_220 (by rfl) ?_
      first | refine w_aload_n C dX10_count_222 (by rfl) ?_ | refine w_aload_nN C dX10_count_222 (by rfl) ?_
      refine gf_X10_28 C mm dX10_count_223 ?_
      refine gf_X10_218 C mk dX10_count_226 ?_
      refine cl_X10_127 C (m_X10_one hl) (by rfl) (by rfl) ⟨by decide, by decide⟩ (by rfl) dX10_count_229 (fun z9 h9 p9 => ?_)
      obtain ⟨rfl, rfl⟩ := p9
      rw [one_bi]
      refine w_iastn (j := 15) C f_q (by decide) (by decide) dX10_count_232 (fun h232 u232 => ?_)
      have f_q := u232.self
      have fr := fr.itn nq u232
      have YY := YY0.fr0 fr
      obtain ⟨mm, mL, mk, mw, mCl, mGl, mPt, mOr, mRm, mn1, mn2, mn3⟩ := id YY
      first | refine w_astore_3 C dX10_count_233 (by first | trivial | rfl) ?_ | refine w_astore_3N C dX10_count_233 (by first | trivial | rfl) ?_
      first | refine w_aload_n C dX10_count_234 (by rfl) ?_ | refine w_aload_nN C dX10_count_234 (by rfl) ?_
      refine w_iload_n C dX10_count_235 (by rfl) ?_
      refine w_ialdn C f_q hw (by decide) dX10_count_236 ?_
      refine w_iret C M dX10_count_237 ⟨by decide, by decide⟩ ⟨_, rfl, ?_⟩
      refine ⟨?_, fr⟩
      rcases w with _ | _ | _ | _ | _ | _ | _ | _ | _ | _ | _ | _ | _ | _ | _ | _ | w
      · rfl
      · rfl
      · rfl
      · show _ = if kL k = true then nI (kA k) else -1
        rw [c_85]; rfl
      · show _ = if kL k = true then kE k else 0
        rw [c_109]; rfl
      · rfl
      · rfl
      · rfl
      · rfl
      · rfl
      · rfl
      · rfl
      · rfl
      · show sp_cnt _ nO = sp_cnt _ 6
        exact cnt_6 hO
      · rfl
      · rfl
      · omega
    · exact absurd (bi_eq0.mpr c_85) c_109
  · try simp only [cg_ge, cg_gt, cl_gt, cl_le, cl_eq, cl_lt, cl_ge, bi_eq0, bi_ne0, bI_eq0, Decidable.not_not, Bool.not_eq_false] at c_85
    first | refine w_aload_n C dX10_count_88 (by rfl) ?_ | refine w_aload_nN C dX10_count_88 (by rfl) ?_
    refine gf_X10_28 C mm dX10_count_89 ?_
    refine gf_X10_195 C mk dX10_count_92 ?_
    refine w_goto (tgt := 99) C dX10_count_95 (by rfl) ?_
    refine w_iastn (j := 3) C f_q (by decide) (by decide) dX10_count_99 (fun h99 u99 => ?_)
    have f_q := u99.self
    have fr := fr.itn nq u99
    have YY := YY0.fr0 fr
    obtain ⟨mm, mL, mk, mw, mCl, mGl, mPt, mOr, mRm, mn1, mn2, mn3⟩ := id YY
    refine w_dup C dX10_count_100 (by rfl) ?_
    refine w_iconst (v := 4) C dX10_count_101 (by rfl) ?_
    first | refine w_aload_n C dX10_count_102 (by rfl) ?_ | refine w_aload_nN C dX10_count_102 (by rfl) ?_
    refine gf_X10_28 C mm dX10_count_103 ?_
    refine gf_X10_48 C mk dX10_count_106 ?_
    refine w_if_eq (tgt := 122) C dX10_count_109 (by rfl) (fun c_109 => ?_) (fun c_109 => ?_)
    · exact absurd (bi_eq0.mp c_109) (by rw [c_85]; decide)
    · try simp only [cg_ge, cg_gt, cl_gt, cl_le, cl_eq, cl_lt, cl_ge, bi_eq0, bi_ne0, bI_eq0, Decidable.not_not, Bool.not_eq_false] at c_109
      first | refine w_aload_n C dX10_count_112 (by rfl) ?_ | refine w_aload_nN C dX10_count_112 (by rfl) ?_
      refine gf_X10_28 C mm dX10_count_113 ?_
      refine gf_X10_198 C mk dX10_count_116 ?_
      refine w_goto (tgt := 123) C dX10_count_119 (by rfl) ?_
      refine w_iastn (j := 4) C f_q (by decide) (by decide) dX10_count_123 (fun h123 u123 => ?_)
      have f_q := u123.self
      have fr := fr.itn nq u123
      have YY := YY0.fr0 fr
      obtain ⟨mm, mL, mk, mw, mCl, mGl, mPt, mOr, mRm, mn1, mn2, mn3⟩ := id YY
      refine w_dup C dX10_count_124 (by rfl) ?_
      refine w_iconst (v := 5) C dX10_count_125 (by rfl) ?_
      first | refine w_aload_n C dX10_count_126 (by rfl) ?_ | refine w_aload_nN C dX10_count_126 (by rfl) ?_
      refine gf_X10_28 C mm dX10_count_127 ?_
      refine gf_X10_186 C mk dX10_count_130 ?_
      refine cl_X10_40 C (m_Jx4a65c_size_8abf5 hl YY.lr) YY.lr (by rfl) (by rfl) ⟨by decide, by decide⟩ (by rfl) dX10_count_133 (fun z10 h10 p10 => ?_)
      obtain ⟨rfl, rfl⟩ := p10
      refine w_iastn (j := 5) C f_q (by decide) (by decide) dX10_count_136 (fun h136 u136 => ?_)
      have f_q := u136.self
      have fr := fr.itn nq u136
      have YY := YY0.fr0 fr
      obtain ⟨mm, mL, mk, mw, mCl, mGl, mPt, mOr, mRm, mn1, mn2, mn3⟩ := id YY
      refine w_dup C dX10_count_137 (by rfl) ?_
      refine w_bipush (v := (6)) C dX10_count_138 (by rfl) ?_
      first | refine w_aload_n C dX10_count_140 (by rfl) ?_ | refine w_aload_nN C dX10_count_140 (by rfl) ?_
      refine gf_X10_19 C mm dX10_count_141 ?_
      refine cl_X10_40 C (m_Jx4a65c_size_8abf5 hl YY.lp) YY.lp (by rfl) (by rfl) ⟨by decide, by decide⟩ (by rfl) dX10_count_144 (fun z11 h11 p11 => ?_)
      obtain ⟨rfl, rfl⟩ := p11
      refine w_iastn (j := 6) C f_q (by decide) (by decide) dX10_count_147 (fun h147 u147 => ?_)
      have f_q := u147.self
      have fr := fr.itn nq u147
      have YY := YY0.fr0 fr
      obtain ⟨mm, mL, mk, mw, mCl, mGl, mPt, mOr, mRm, mn1, mn2, mn3⟩ := id YY
      refine w_dup C dX10_count_148 (by rfl) ?_
      refine w_bipush (v := (7)) C dX10_count_149 (by rfl) ?_
      first | refine w_aload_n C dX10_count_151 (by rfl) ?_ | refine w_aload_nN C dX10_count_151 (by rfl) ?_
      refine w_iconst (v := 4) C dX10_count_152 (by rfl) ?_
      refine cl_X10_137 C (m_X10_manyIn hl YY hn) mm (by rfl) (by rfl) ⟨by decide, by decide⟩ (by rfl) dX10_count_153 (fun z12 h12 p12 => ?_)
      obtain ⟨rfl, fr9⟩ := p12
      rw [cnt_14 hn]
      have f_q := fr9 _ _ List.not_mem_nil f_q
      have fr := fr.tr fr9
      have YY := YY0.fr0 fr
      obtain ⟨mm, mL, mk, mw, mCl, mGl, mPt, mOr, mRm, mn1, mn2, mn3⟩ := id YY
      refine w_iastn (j := 7) C f_q (by decide) (by decide) dX10_count_156 (fun h156 u156 => ?_)
      have f_q := u156.self
      have fr := fr.itn nq u156
      have YY := YY0.fr0 fr
      obtain ⟨mm, mL, mk, mw, mCl, mGl, mPt, mOr, mRm, mn1, mn2, mn3⟩ := id YY
      refine w_dup C dX10_count_157 (by rfl) ?_
      refine w_bipush (v := (8)) C dX10_count_158 (by rfl) ?_
      first | refine w_aload_n C dX10_count_160 (by rfl) ?_ | refine w_aload_nN C dX10_count_160 (by rfl) ?_
      refine w_iconst (v := 5) C dX10_count_161 (by rfl) ?_
      refine cl_X10_137 C (m_X10_manyIn hl YY hn) mm (by rfl) (by rfl) ⟨by decide, by decide⟩ (by rfl) dX10_count_162 (fun z13 h13 p13 => ?_)
      obtain ⟨rfl, fr9⟩ := p13
      rw [cnt_14 hn]
      have f_q := fr9 _ _ List.not_mem_nil f_q
      have fr := fr.tr fr9
      have YY := YY0.fr0 fr
      obtain ⟨mm, mL, mk, mw, mCl, mGl, mPt, mOr, mRm, mn1, mn2, mn3⟩ := id YY
      refine w_iastn (j := 8) C f_q (by decide) (by decide) dX10_count_165 (fun h165 u165 => ?_)
      have f_q := u165.self
      have fr := fr.itn nq u165
      have YY := YY0.fr0 fr
      obtain ⟨mm, mL, mk, mw, mCl, mGl, mPt, mOr, mRm, mn1, mn2, mn3⟩ := id YY
      refine w_dup C dX10_count_166 (by rfl) ?_
      refine w_bipush (v := (9)) C dX10_count_167 (by rfl) ?_
      first | refine w_aload_n C dX10_count_169 (by rfl) ?_ | refine w_aload_nN C dX10_count_169 (by rfl) ?_
      refine w_bipush (v := (6)) C dX10_count_170 (by rfl) ?_
      refine cl_X10_137 C (m_X10_manyIn hl YY hn) mm (by rfl) (by rfl) ⟨by decide, by decide⟩ (by rfl) dX10_count_172 (fun z14 h14 p14 => ?_)
      obtain ⟨rfl, fr9⟩ := p14
      rw [cnt_14 hn]
      have f_q := fr9 _ _ List.not_mem_nil f_q
      have fr := fr.tr fr9
      have YY := YY0.fr0 fr
      obtain ⟨mm, mL, mk, mw, mCl, mGl, mPt, mOr, mRm, mn1, mn2, mn3⟩ := id YY
      refine w_iastn (j := 9) C f_q (by decide) (by decide) dX10_count_175 (fun h175 u175 => ?_)
      have f_q := u175.self
      have fr := fr.itn nq u175
      have YY := YY0.fr0 fr
      obtain ⟨mm, mL, mk, mw, mCl, mGl, mPt, mOr, mRm, mn1, mn2, mn3⟩ := id YY
      refine w_dup C dX10_count_176 (by rfl) ?_
      refine w_bipush (v := (10)) C dX10_count_177 (by rfl) ?_
      first | refine w_aload_n C dX10_count_179 (by rfl) ?_ | refine w_aload_nN C dX10_count_179 (by rfl) ?_
      refine gf_X10_28 C mm dX10_count_180 ?_
      refine gf_X10_292 C mk dX10_count_183 ?_
      refine w_iastn (j := 10) C f_q (by decide) (by decide) dX10_count_186 (fun h186 u186 => ?_)
      have f_q := u186.self
      have fr := fr.itn nq u186
      have YY := YY0.fr0 fr
      obtain ⟨mm, mL, mk, mw, mCl, mGl, mPt, mOr, mRm, mn1, mn2, mn3⟩ := id YY
      refine w_dup C dX10_count_187 (by rfl) ?_
      refine w_bipush (v := (11)) C dX10_count_188 (by rfl) ?_
      first | refine w_aload_n C dX10_count_190 (by rfl) ?_ | refine w_aload_nN C dX10_count_190 (by rfl) ?_
      refine gf_X10_28 C mm dX10_count_191 ?_
      refine gf_X10_295 C mk dX10_count_194 ?_
      refine w_iastn (j := 11) C f_q (by decide) (by decide) dX10_count_197 (fun h197 u197 => ?_)
      have f_q := u197.self
      have fr := fr.itn nq u197
      have YY := YY0.fr0 fr
      obtain ⟨mm, mL, mk, mw, mCl, mGl, mPt, mOr, mRm, mn1, mn2, mn3⟩ := id YY
      refine w_dup C dX10_count_198 (by rfl) ?_
      refine w_bipush (v := (12)) C dX10_count_199 (by rfl) ?_
      first | refine w_aload_n C dX10_count_201 (by rfl) ?_ | refine w_aload_nN C dX10_count_201 (by rfl) ?_
      refine gf_X10_264 C mm dX10_count_202 ?_
      refine w_iastn (j := 12) C f_q (by decide) (by decide) dX10_count_205 (fun h205 u205 => ?_)
      have f_q := u205.self
      have fr := fr.itn nq u205
      have YY := YY0.fr0 fr
      obtain ⟨mm, mL, mk, mw, mCl, mGl, mPt, mOr, mRm, mn1, mn2, mn3⟩ := id YY
      refine w_dup C dX10_count_206 (by rfl) ?_
      refine w_bipush (v := (13)) C dX10_count_207 (by rfl) ?_
      refine w_iload_n C dX10_count_209 (by rfl) ?_
      refine w_iastn (j := 13) C f_q (by decide) (by decide) dX10_count_210 (fun h210 u210 => ?_)
      have f_q := u210.self
      have fr := fr.itn nq u210
      have YY := YY0.fr0 fr
      obtain ⟨mm, mL, mk, mw, mCl, mGl, mPt, mOr, mRm, mn1, mn2, mn3⟩ := id YY
      refine w_dup C dX10_count_211 (by rfl) ?_
      refine w_bipush (v := (14)) C dX10_count_212 (by rfl) ?_
      first | refine w_aload_n C dX10_count_214 (by rfl) ?_ | refine w_aload_nN C dX10_count_214 (by rfl) ?_
      refine gf_X10_221 C mm dX10_count_215 ?_
      refine w_iastn (j := 14) C f_q (by decide) (by decide) dX10_count_218 (fun h218 u218 => ?_)
      have f_q := u218.self
      have fr := fr.itn nq u218
      have YY := YY0.fr0 fr
      obtain ⟨mm, mL, mk, mw, mCl, mGl, mPt, mOr, mRm, mn1, mn2, mn3⟩ := id YY
      refine w_dup C dX10_count_219 (by rfl) ?_
      refine w_bipush (v := (15)) C dX10_count_220 (by rfl) ?_
      first | refine w_aload_n C dX10_count_222 (by rfl) ?_ | refine w_aload_nN C dX10_count_222 (by rfl) ?_
      refine gf_X10_28 C mm dX10_count_223 ?_
      refine gf_X10_218 C mk dX10_count_226 ?_
      refine cl_X10_127 C (m_X10_one hl) (by rfl) (by rfl) ⟨by decide, by decide⟩ (by rfl) dX10_count_229 (fun z15 h15 p15 => ?_)
      obtain ⟨rfl, rfl⟩ := p15
      rw [one_bi]
      refine w_iastn (j := 15) C f_q (by decide) (by decide) dX10_count_232 (fun h232 u232 => ?_)
      have f_q := u232.self
      have fr := fr.itn nq u232
      have YY := YY0.fr0 fr
      obtain ⟨mm, mL, mk, mw, mCl, mGl, mPt, mOr, mRm, mn1, mn2, mn3⟩ := id YY
      first | refine w_astore_3 C dX10_count_233 (by first | trivial | rfl) ?_ | refine w_astore_3N C dX10_count_233 (by first | trivial | rfl) ?_
      first | refine w_aload_n C dX10_count_234 (by rfl) ?_ | refine w_aload_nN C dX10_count_234 (by rfl) ?_
      refine w_iload_n C dX10_count_235 (by rfl) ?_
      refine w_ialdn C f_q hw (by decide) dX10_count_236 ?_
      refine w_iret C M dX10_count_237 ⟨by decide, by decide⟩ ⟨_, rfl, ?_⟩
      refine ⟨?_, fr⟩
      rcases w with _ | _ | _ | _ | _ | _ | _ | _ | _ | _ | _ | _ | _ | _ | _ | _ | w
      · rfl
      · rfl
      · rfl
      · show _ = if kL k = true then nI (kA k) else -1
        rw [c_85]; rfl
      · show _ = if kL k = true then kE k else 0
        rw [c_109]; rfl
      · rfl
      · rfl
      · rfl
      · rfl
      · rfl
      · rfl
      · rfl
      · rfl
      · show sp_cnt _ nO = sp_cnt _ 6
        exact cnt_6 hO
      · rfl
      · rfl
      · omega

set_option maxHeartbeats 4000000 in
set_option maxRecDepth 100000 in
theorem m_X10_many {l : Launch} {D : va_G} {tc : Nat → ClassId} (hl : l.stackTraces = false) {h : HM} {m0 kl wk : Nat} {L : Nat → Nat} {E : Nat → Nat} {M : Nat → Int32} {ca : Nat → Nat} {ga : Nat → Nat} {pa : Nat → Nat} {oa : Nat → Nat} {ra : Nat → Nat} {th : Int32} {nC : Nat} {cs : Nat → Int32 × Int32} {nG : Nat} {gs : Nat → GT} {nP : Nat} {ps : Nat → PT} {nO : Nat} {os : Nat → OT} {nR : Nat} {rs : Nat → RT} {k : KT} {dmp : Int32} {day : Int32} {pur : Int32} {rf : Int32} (YY : Mh tc m0 kl wk L E M ca ga pa oa ra th nC cs nG gs nP ps nO os nR rs k dmp day pur rf h) (hn : nP ≤ 14) (hO : nO ≤ 6) {what : Int32} :
    CT l D tc yX10_many cX10_many 2 (some FieldType.int) rm_X10_many [.ref m0, .int what] h (rI (fun z h' => (¬ (0 ≤ what ∧ what ≤ 15) ∧ z = 0 ∧ MhE tc m0 kl wk 1 nC cs nG gs nP ps nO os nR rs k dmp day pur rf h') ∨ ((0 ≤ what ∧ what ≤ 15) ∧ z = sp_many nP ps nO os nR k day pur rf what ∧ MhE tc m0 kl wk 0 nC cs nG gs nP ps nO os nR rs k dmp day pur rf h'))) := by
  refine CT.start [some (.ref m0), some (.int what)] (by decide) hl rfl rfl (fun K C M => ?_)
  obtain ⟨rfl, rfl, rfl, -⟩ := id M
  have C : CX K RX10 cX10_many 2 rm_X10_many := C
  obtain ⟨mm, mL, mk, mw, mCl, mGl, mPt, mOr, mRm, mn1, mn2, mn3⟩ := id YY
  first | refine w_aload_n C dX10_many_0 (by rfl) ?_ | refine w_aload_nN C dX10_many_0 (by rfl) ?_
  refine w_iload_n C dX10_many_1 (by rfl) ?_
  refine w_iconst (v := 0) C dX10_many_2 (by rfl) ?_
  refine w_bipush (v := (15)) C dX10_many_3 (by rfl) ?_
  refine cl_X10_44 C (m_X10_isIn hl) (by rfl) (by rfl) ⟨by decide, by decide⟩ (by rfl) dX10_many_5 (fun z1 h1 p1 => ?_)
  obtain ⟨rfl, rfl⟩ := p1
  refine w_if_ne (tgt := 15) C dX10_many_8 (by rfl) (fun c_8 => ?_) (fun c_8 => ?_)
  · try simp only [cg_ge, cg_gt, cl_gt, cl_le, cl_eq, cl_lt, cl_ge, bi_eq0, bi_ne0, bI_eq0, Decidable.not_not, Bool.not_eq_false] at c_8
    refine w_iconst (v := 0) C dX10_many_15 (by rfl) ?_
    refine w_iconst (v := 1) C dX10_many_16 (by rfl) ?_
    refine cl_X10_88 C (m_X10_startF hl mm) mm (by rfl) (by rfl) ⟨by decide, by decide⟩ (by rfl) dX10_many_17 (fun z2 h2 p2 => ?_)
    obtain ⟨rfl, p2⟩ := p2
    have YY := YY.me (th2 := 0) (day2 := day) (dmp2 := dmp) (pur2 := pur) (rf2 := rf) p2
    obtain ⟨mm, mL, mk, mw, mCl, mGl, mPt, mOr, mRm, mn1, mn2, mn3⟩ := id YY
    refine w_if_eq (tgt := 27) C dX10_many_20 (by rfl) (fun c_20 => ?_) (fun c_20 => ?_)
    · try simp only [cg_ge, cg_gt, cl_gt, cl_le, cl_eq, cl_lt, cl_ge, bi_eq0, bi_ne0, bI_eq0, Decidable.not_not, Bool.not_eq_false] at c_20
      have c_8b := c_8
      obtain ⟨w, hw, rfl⟩ := rng9 (n := 15) (by decide) c_8
      first | refine w_aload_n C dX10_many_27 (by rfl) ?_ | refine w_aload_nN C dX10_many_27 (by rfl) ?_
      refine w_iload_n C dX10_many_28 (by rfl) ?_
      refine cl_X10_298 C (m_X10_count hl YY hn hO hw) mm (by rfl) (by rfl) ⟨by decide, by decide⟩ (by rfl) dX10_many_29 (fun z3 h3 p3 => ?_)
      obtain ⟨rfl, fr9⟩ := p3
      have YY := YY.fr0 fr9
      refine w_iret C M dX10_many_32 ⟨by decide, by decide⟩ ⟨_, rfl, ?_⟩
      exact Or.inr ⟨c_8b, rfl, YY.ex⟩
    · exact absurd c_20 (by decide)
  · try simp only [cg_ge, cg_gt, cl_gt, cl_le, cl_eq, cl_lt, cl_ge, bi_eq0, bi_ne0, bI_eq0, Decidable.not_not, Bool.not_eq_false] at c_8
    refine w_iconst (v := 1) C dX10_many_11 (by rfl) ?_
    refine w_goto (tgt := 16) C dX10_many_12 (by rfl) ?_
    refine w_iconst (v := 1) C dX10_many_16 (by rfl) ?_
    refine cl_X10_88 C (m_X10_startT hl mm (by decide)) mm (by rfl) (by rfl) ⟨by decide, by decide⟩ (by rfl) dX10_many_17 (fun z4 h4 p4 => ?_)
    obtain ⟨rfl, p4⟩ := p4
    have YY := YY.me (th2 := 1) (day2 := day) (dmp2 := dmp) (pur2 := pur) (rf2 := rf) p4
    obtain ⟨mm, mL, mk, mw, mCl, mGl, mPt, mOr, mRm, mn1, mn2, mn3⟩ := id YY
    refine w_if_eq (tgt := 27) C dX10_many_20 (by rfl) (fun c_20 => ?_) (fun c_20 => ?_)
    · exact absurd c_20 (by decide)
    · try simp only [cg_ge, cg_gt, cl_gt, cl_le, cl_eq, cl_lt, cl_ge, bi_eq0, bi_ne0, bI_eq0, Decidable.not_not, Bool.not_eq_false] at c_20
      refine w_iconst (v := 0) C dX10_many_23 (by rfl) ?_
      refine w_goto (tgt := 32) C dX10_many_24 (by rfl) ?_
      refine w_iret C M dX10_many_32 ⟨by decide, by decide⟩ ⟨_, rfl, ?_⟩
      exact Or.inl ⟨c_8, rfl, YY.ex⟩
