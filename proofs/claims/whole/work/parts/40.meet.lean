/-! MEET AND LIGHT -/
abbrev sp_metd (o : OT) : OT := (o.1, o.2.1, o.2.2.1, o.2.2.2.1, true)
abbrev sp_soldp (p : PT) : PT := (p.1, p.2.1, (qWd p.2.2, qHg p.2.2, qWl p.2.2, 6, qWa p.2.2, qCv p.2.2, qSm p.2.2, qMk p.2.2, qSh p.2.2, qCe p.2.2))
def sp_meetok (gs : Nat → GT) (o : OT) (p : PT) : Prop := o.2.2.2.2 = false ∧ qSt p.2.2 = 4 ∧ sp_gn p = nI o.1 ∧ sp_col gs p = o.2.1
def sp_worth (day : Int32) (o : OT) (q : QT) : Int32 := if (0 : Int32) < (if qMk q = 0 then o.2.2.2.1 else o.2.2.2.1 / 2) - (if (0 : Int32) < day - o.2.2.1 then day - o.2.2.1 else 0) then (if qMk q = 0 then o.2.2.2.1 else o.2.2.2.1 / 2) - (if (0 : Int32) < day - o.2.2.1 then day - o.2.2.1 else 0) else 0
/-- the pots on the first j shelves -/
def sp_on (nP : Nat) (ps : Nat → PT) : Nat → Int32
  | 0 => 0
  | j + 1 => sp_on nP ps j + sp_cnt (fun i => decide (i < nP ∧ qSh (ps i).2.2 = nI j)) 14
abbrev sp_kndl (k : KT) : KT := (kH k, kP k, kO k, true, 0, 0, kC k, kF k, kS k, kW k)

set_option maxHeartbeats 4000000 in
set_option maxRecDepth 100000 in
theorem m_X7_meet {l : Launch} {D : va_G} {tc : Nat → ClassId} (hl : l.stackTraces = false) {h : HM} {y0 cA gA pA oA pr ra re rw tr tw : Nat} {ca ga pa oa : Nat → Nat} {f : Nat → Option Nat} {hb : UInt64} {hbt : UInt64} {dmt : Int32} {kt : KT} {nC : Nat} {cs : Nat → Int32 × Int32} {nG : Nat} {gs : Nat → GT} {nP : Nat} {ps : Nat → PT} {nO : Nat} {os : Nat → OT} {nR : Nat} {rs : Nat → RT} {k : KT} {dmp : Int32} {day : Int32} {pur : Int32} {rf : Int32} (Y : Yh tc y0 cA gA pA oA pr ra re rw tr tw ca ga pa oa f hb hbt dmt kt nC cs nG gs nP ps nO os nR rs k dmp day pur rf h) (bO : nO ≤ 6) (bP : nP ≤ 14) (hPG : ∀ i, i < nP → ∀ g, (ps i).2.1 = some g → g < nG) {i pt : Int32} :
    CTX l D tc yX7_meet cX7_meet 6 (some FieldType.int) rm_X7_meet [.ref y0, .int i, .int pt] h (rI (fun z h' => ∃ ow j, ow < nO ∧ i = nI ow ∧ j < nP ∧ pt = nI j ∧ sp_meetok gs (os ow) (ps j) ∧ z = sp_worth day (os ow) (ps j).2.2 ∧ Yh tc y0 cA gA pA oA pr ra re rw tr tw ca ga pa oa f hb hbt dmt kt nC cs nG gs nP (vf_upd ps j (sp_soldp (ps j))) nO (vf_upd os ow (sp_metd (os ow))) nR rs k dmp day (pur + sp_worth day (os ow) (ps j).2.2) rf h')) (fun E h' => (E = "java/lang/IndexOutOfBoundsException" ∧ h' = h ∧ (out9 i nO ∨ out9 pt nP)) ∨ (E = "java/lang/IllegalStateException" ∧ h' = h ∧ ∃ ow j, ow < nO ∧ i = nI ow ∧ j < nP ∧ pt = nI j ∧ ¬ sp_meetok gs (os ow) (ps j))) := by
  refine CTX.start [some (.ref y0), some (.int i), some (.int pt), none, none, none] (by decide) hl rfl rfl (fun K C M X => ?_)
  obtain ⟨rfl, rfl, rfl, -⟩ := id M
  have C : CX K RX7 cX7_meet 6 rm_X7_meet := C
  obtain ⟨yy, yc, yg, yp, yo, ypr, yra, yre, yrw, ytr, ytw, yC, yG, yP, yO, yR, yn1, yn2, yn3, yn4⟩ := id Y
  first | refine w_aload_n C dX7_meet_0 (by rfl) ?_ | refine w_aload_nN C dX7_meet_0 (by rfl) ?_
  refine w_iload_n C dX7_meet_1 (by rfl) ?_
  refine cx_X7_269 C (m_X7_orderAt hl Y bO i) yy (by rfl) (by rfl) ⟨by decide, by decide⟩ (by rfl) dX7_meet_2 (fun z1 h1 p1 => ?_) (fun E hx px => w_prop X ⟨by decide, by decide⟩ (Or.inl ⟨px.1, px.2.1, Or.inl px.2.2⟩))
  obtain ⟨rfl, ow, hw, rfl, rfl⟩ := p1
  have hoo := yO ow hw
  first | refine w_astore_3 C dX7_meet_5 (by first | trivial | rfl) ?_ | refine w_astore_3N C dX7_meet_5 (by first | trivial | rfl) ?_
  first | refine w_aload_n C dX7_meet_6 (by rfl) ?_ | refine w_aload_nN C dX7_meet_6 (by rfl) ?_
  refine w_iload_n C dX7_meet_7 (by rfl) ?_
  refine cx_X7_117 C (m_X7_potAt hl Y bP pt) yy (by rfl) (by rfl) ⟨by decide, by decide⟩ (by rfl) dX7_meet_8 (fun z2 h2 p2 => ?_) (fun E hx px => w_prop X ⟨by decide, by decide⟩ (Or.inl ⟨px.1, px.2.1, Or.inr px.2.2⟩))
  obtain ⟨rfl, j, hj, rfl, rfl⟩ := p2
  have hpj := yP j hj
  first | refine w_astore_4 C dX7_meet_11 (by first | trivial | rfl) ?_ | refine w_astore_4N C dX7_meet_11 (by first | trivial | rfl) ?_
  first | refine w_aload_n C dX7_meet_13 (by rfl) ?_ | refine w_aload_nN C dX7_meet_13 (by rfl) ?_
  refine gf_X7_273 C hoo dX7_meet_14 ?_
  refine w_if_ne (tgt := 29) C dX7_meet_17 (by rfl) (fun c_17 => ?_) (fun c_17 => ?_)
  · try simp only [cg_ge, cg_gt, cl_gt, cl_le, cl_eq, cl_lt, cl_ge, bi_eq0, bi_ne0, bI_eq0, Decidable.not_not, Bool.not_eq_false] at c_17
    exact th_X7_85_276_89 C X (by rfl) (by rfl) (by rfl) (by decide) (by decide) (by decide) (by decide) (Or.inr ⟨rfl, rfl, ow, j, hw, rfl, hj, rfl, by first | exact fun w => c_26 w.2.1 | exact fun w => Bool.noConfusion (w.1.symm.trans c_17)⟩) dX7_meet_29 dX7_meet_32 dX7_meet_33 dX7_meet_36 dX7_meet_39
  · try simp only [cg_ge, cg_gt, cl_gt, cl_le, cl_eq, cl_lt, cl_ge, bi_eq0, bi_ne0, bI_eq0, Decidable.not_not, Bool.not_eq_false] at c_17
    first | refine w_aload C dX7_meet_20 (by rfl) ?_ | refine w_aloadN C dX7_meet_20 (by rfl) ?_
    refine gf_X7_141 C hpj dX7_meet_22 ?_
    refine w_iconst (v := 4) C dX7_meet_25 (by rfl) ?_
    refine w_icmp_eq (tgt := 40) C dX7_meet_26 (by rfl) (fun c_26 => ?_) (fun c_26 => ?_)
    · first | refine w_aload C dX7_meet_40 (by rfl) ?_ | refine w_aloadN C dX7_meet_40 (by rfl) ?_
      refine cl_X7_278 C (m_pot_gn hl (gs := gs) hpj (fun g e => yG g (hPG j hj g e))) hpj (by rfl) (by rfl) ⟨by decide, by decide⟩ (by rfl) dX7_meet_42 (fun z3 h3 p3 => ?_)
      obtain ⟨rfl, rfl⟩ := p3
      first | refine w_aload_n C dX7_meet_45 (by rfl) ?_ | refine w_aload_nN C dX7_meet_45 (by rfl) ?_
      refine gf_X7_282 C hoo dX7_meet_46 ?_
      refine w_icmp_ne (tgt := 64) C dX7_meet_49 (by rfl) (fun c_49 => ?_) (fun c_49 => ?_)
      · exact th_X7_85_289_89 C X (by rfl) (by rfl) (by rfl) (by decide) (by decide) (by decide) (by decide) (Or.inr ⟨rfl, rfl, ow, j, hw, rfl, hj, rfl, by first | exact fun w => c_49 w.2.2.1 | exact fun w => c_61 w.2.2.2⟩) dX7_meet_64 dX7_meet_67 dX7_meet_68 dX7_meet_71 dX7_meet_74
      · first | refine w_aload C dX7_meet_52 (by rfl) ?_ | refine w_aloadN C dX7_meet_52 (by rfl) ?_
        refine cl_X7_284 C (m_pot_col hl (gs := gs) hpj (fun g e => yG g (hPG j hj g e))) hpj (by rfl) (by rfl) ⟨by decide, by decide⟩ (by rfl) dX7_meet_54 (fun z4 h4 p4 => ?_)
        obtain ⟨rfl, rfl⟩ := p4
        first | refine w_aload_n C dX7_meet_57 (by rfl) ?_ | refine w_aload_nN C dX7_meet_57 (by rfl) ?_
        refine gf_X7_287 C hoo dX7_meet_58 ?_
        refine w_icmp_eq (tgt := 75) C dX7_meet_61 (by rfl) (fun c_61 => ?_) (fun c_61 => ?_)
        · first | refine w_aload_n C dX7_meet_75 (by rfl) ?_ | refine w_aload_nN C dX7_meet_75 (by rfl) ?_
          first | refine w_aload C dX7_meet_76 (by rfl) ?_ | refine w_aloadN C dX7_meet_76 (by rfl) ?_
          first | refine w_aload_n C dX7_meet_78 (by rfl) ?_ | refine w_aload_nN C dX7_meet_78 (by rfl) ?_
          refine gf_X7_65 C yy dX7_meet_79 ?_
          refine cl_X7_291 C (m_X3_worthOf hl hoo hpj) hoo (by rfl) (by rfl) ⟨by decide, by decide⟩ (by rfl) dX7_meet_82 (fun z5 h5 p5 => ?_)
          obtain ⟨rfl, rfl⟩ := p5
          refine w_istore_5 C dX7_meet_85 (by first | trivial | rfl) ?_
          first | refine w_aload_n C dX7_meet_87 (by rfl) ?_ | refine w_aload_nN C dX7_meet_87 (by rfl) ?_
          refine w_iconst (v := 1) C dX7_meet_88 (by rfl) ?_
          refine pf_X7_273 C hoo (by first | exact Or.inl rfl | exact Or.inr rfl | assumption | exact bI_01 _ | exact bi_01 _) dX7_meet_89 (fun h6 u6 => ?_)
          have hpj := u6.oth hpj hoo (by intro q; simp at q)
          have yy := u6.oth yy hoo (by intro q; simp at q)
          have hoo := u6.self
          have Y1 := Yh.met Y hw (o := sp_metd (os ow)) u6
          first | refine w_aload C dX7_meet_92 (by rfl) ?_ | refine w_aloadN C dX7_meet_92 (by rfl) ?_
          refine w_bipush (v := (6)) C dX7_meet_94 (by rfl) ?_
          refine pf_X7_141 C hpj dX7_meet_96 (fun h7 u7 => ?_)
          have hoo := u7.oth hoo hpj (by intro q; simp at q)
          have yy := u7.oth yy hpj (by intro q; simp at q)
          have hpj := u7.self
          have Y2 := Yh.pot Y1 hj (p := sp_soldp (ps j)) u7
          first | refine w_aload_n C dX7_meet_99 (by rfl) ?_ | refine w_aload_nN C dX7_meet_99 (by rfl) ?_
          refine w_dup C dX7_meet_100 (by rfl) ?_
          refine gf_X7_68 C yy dX7_meet_101 ?_
          refine w_iload C dX7_meet_104 (by rfl) ?_
          refine w_iadd C dX7_meet_106 ?_
          refine pf_X7_68 C yy dX7_meet_107 (fun h8 u8 => ?_)
          have hpj := u8.oth hpj yy (by intro q; simp at q)
          have hoo := u8.oth hoo yy (by intro q; simp at q)
          have yy := u8.self
          have Y3 := Yh.me Y2 (day2 := day) (pur2 := pur + sp_worth day (os ow) (ps j).2.2) (rf2 := rf) u8
          refine w_iload C dX7_meet_110 (by rfl) ?_
          refine w_iret C M dX7_meet_112 ⟨by decide, by decide⟩ ⟨_, rfl, ?_⟩
          exact ⟨ow, j, hw, rfl, hj, rfl, ⟨c_17, c_26, c_49, c_61⟩, rfl, Y3⟩
        · exact th_X7_85_289_89 C X (by rfl) (by rfl) (by rfl) (by decide) (by decide) (by decide) (by decide) (Or.inr ⟨rfl, rfl, ow, j, hw, rfl, hj, rfl, by first | exact fun w => c_49 w.2.2.1 | exact fun w => c_61 w.2.2.2⟩) dX7_meet_64 dX7_meet_67 dX7_meet_68 dX7_meet_71 dX7_meet_74
    · exact th_X7_85_276_89 C X (by rfl) (by rfl) (by rfl) (by decide) (by decide) (by decide) (by decide) (Or.inr ⟨rfl, rfl, ow, j, hw, rfl, hj, rfl, by first | exact fun w => c_26 w.2.1 | exact fun w => Bool.noConfusion (w.1.symm.trans c_17)⟩) dX7_meet_29 dX7_meet_32 dX7_meet_33 dX7_meet_36 dX7_meet_39

set_option maxHeartbeats 4000000 in
set_option maxRecDepth 100000 in
theorem lp_X7_light {K : KC} (C : CX K RX7 cX7_light 3 rm_X7_light) (hl : (Kl K).stackTraces = false) {y0 cA gA pA oA pr ra re rw tr tw : Nat} {ca ga pa oa : Nat → Nat} {f : Nat → Option Nat} {hb : UInt64} {hbt : UInt64} {dmt : Int32} {kt : KT} {nC : Nat} {cs : Nat → Int32 × Int32} {nG : Nat} {gs : Nat → GT} {nP : Nat} {ps : Nat → PT} {nO : Nat} {os : Nat → OT} {nR : Nat} {rs : Nat → RT} {k : KT} {dmp : Int32} {day : Int32} {pur : Int32} {rf : Int32} {h : HM} (u : Yh (Kt K) y0 cA gA pA oA pr ra re rw tr tw ca ga pa oa f hb hbt dmt kt nC cs nG gs nP ps nO os nR rs k dmp day pur rf h)
    (kk : WW K (0, 0) 60 [some (.ref y0), some (.int (sp_on nP ps 3)), some (.int (nI 3))] [] h)
    : ∀ j : Nat, j ≤ 3 → WW K (0, 0) 41 [some (.ref y0), some (.int (sp_on nP ps j)), some (.int (nI j))] [] h := by
  refine up_ind ?_
  intro j hj ih  
  refine w_iload_n C dX7_light_41 (by rfl) ?_
  refine w_iconst (v := 3) C dX7_light_42 (by rfl) ?_
  refine w_icmp_ge (tgt := 60) C dX7_light_43 (by rfl) (fun c_43 => ?_) (fun c_43 => ?_)
  · have e3 : ¬ j < 3 := fun q => nI_ge q (show 3 < 2 ^ 31 by decide) c_43
    obtain rfl : j = 3 := by omega
    exact kk
  · have hj3 : j < 3 := Nat.not_le.mp (fun q => c_43 (nI_le (a := 3) q (by omega)))
    refine w_iload_n C dX7_light_46 (by rfl) ?_
    first | refine w_aload_n C dX7_light_47 (by rfl) ?_ | refine w_aload_nN C dX7_light_47 (by rfl) ?_
    refine w_iload_n C dX7_light_48 (by rfl) ?_
    refine cl_X7_228 C (m_X7_potsOn hl u (nI j)) u.1 (by rfl) (by rfl) ⟨by decide, by decide⟩ (by rfl) dX7_light_49 (fun z1 h1 p1 => ?_)
    obtain ⟨rfl, rfl⟩ := p1
    refine w_iadd C dX7_light_52 ?_
    refine w_istore_1 C dX7_light_53 (by first | trivial | rfl) ?_
    refine w_iinc_2 (v := _ + (1)) C dX7_light_54 (by rfl) (by first | trivial | rfl) ?_
    refine w_goto (tgt := 41) C dX7_light_57 (by rfl) ?_
    rw [nI_1 j]
    exact w_sub (ih hj3) (by repeat' first | exact trivial | rfl | constructor)

set_option maxHeartbeats 4000000 in
set_option maxRecDepth 100000 in
theorem m_X7_light {l : Launch} {D : va_G} {tc : Nat → ClassId} (hl : l.stackTraces = false) {h : HM} {y0 cA gA pA oA pr ra re rw tr tw : Nat} {ca ga pa oa : Nat → Nat} {f : Nat → Option Nat} {hb : UInt64} {hbt : UInt64} {dmt : Int32} {kt : KT} {nC : Nat} {cs : Nat → Int32 × Int32} {nG : Nat} {gs : Nat → GT} {nP : Nat} {ps : Nat → PT} {nO : Nat} {os : Nat → OT} {nR : Nat} {rs : Nat → RT} {k : KT} {dmp : Int32} {day : Int32} {pur : Int32} {rf : Int32} (Y : Yh tc y0 cA gA pA oA pr ra re rw tr tw ca ga pa oa f hb hbt dmt kt nC cs nG gs nP ps nO os nR rs k dmp day pur rf h) (bR : nR ≤ 5) :
    CTX l D tc yX7_light cX7_light 3 (some FieldType.int) rm_X7_light [.ref y0] h (rI (fun z h' => kL k = false ∧ ¬ nR = 0 ∧ z = sp_on nP ps 3 ∧ Yh tc y0 cA gA pA oA pr ra re rw tr tw ca ga pa oa f hb hbt dmt kt nC cs nG gs nP ps nO os nR rs (sp_kndl k) dmp day pur rf h')) (fun E h' => E = "java/lang/IllegalStateException" ∧ h' = h ∧ (kL k = true ∨ nR = 0)) := by
  refine CTX.start [some (.ref y0), none, none] (by decide) hl rfl rfl (fun K C M X => ?_)
  obtain ⟨rfl, rfl, rfl, -⟩ := id M
  have C : CX K RX7 cX7_light 3 rm_X7_light := C
  obtain ⟨yy, yc, yg, yp, yo, ypr, yra, yre, yrw, ytr, ytw, yC, yG, yP, yO, yR, yn1, yn2, yn3, yn4⟩ := id Y
  first | refine w_aload_n C dX7_light_0 (by rfl) ?_ | refine w_aload_nN C dX7_light_0 (by rfl) ?_
  refine gf_X7_58 C yy dX7_light_1 ?_
  refine gf_X7_204 C yre dX7_light_4 ?_
  refine w_if_ne (tgt := 20) C dX7_light_7 (by rfl) (fun c_7 => ?_) (fun c_7 => ?_)
  · try simp only [cg_ge, cg_gt, cl_gt, cl_le, cl_eq, cl_lt, cl_ge, bi_eq0, bi_ne0, bI_eq0, Decidable.not_not, Bool.not_eq_false] at c_7
    exact th_X7_85_223_89 C X (by rfl) (by rfl) (by rfl) (by decide) (by decide) (by decide) (by decide) ⟨rfl, rfl, by first | exact Or.inl c_7 | exact Or.inr ((nI_is0 (by omega)).mp c_17)⟩ dX7_light_20 dX7_light_23 dX7_light_24 dX7_light_26 dX7_light_29
  · try simp only [cg_ge, cg_gt, cl_gt, cl_le, cl_eq, cl_lt, cl_ge, bi_eq0, bi_ne0, bI_eq0, Decidable.not_not, Bool.not_eq_false] at c_7
    first | refine w_aload_n C dX7_light_10 (by rfl) ?_ | refine w_aload_nN C dX7_light_10 (by rfl) ?_
    refine gf_X7_49 C yy dX7_light_11 ?_
    refine gf_X7_207 C ypr dX7_light_14 ?_
    refine w_if_ne (tgt := 30) C dX7_light_17 (by rfl) (fun c_17 => ?_) (fun c_17 => ?_)
    · try simp only [cg_ge, cg_gt, cl_gt, cl_le, cl_eq, cl_lt, cl_ge, bi_eq0, bi_ne0, bI_eq0, Decidable.not_not, Bool.not_eq_false] at c_17
      have n0 : ¬ nR = 0 := fun w => c_17 ((nI_is0 (by omega)).mpr w)
      first | refine w_aload_n C dX7_light_30 (by rfl) ?_ | refine w_aload_nN C dX7_light_30 (by rfl) ?_
      refine gf_X7_58 C yy dX7_light_31 ?_
      refine cl_X7_225 C (m_X2_kindle hl yre) yre (by rfl) (by rfl) ⟨by decide, by decide⟩ (by rfl) dX7_light_34 (fun h1 p1 => ?_)
      have Y9 := Yh.kiln Y (k2 := sp_kndl k) p1 rfl
      refine w_iconst (v := 0) C dX7_light_37 (by rfl) ?_
      refine w_istore_1 C dX7_light_38 (by first | trivial | rfl) ?_
      refine w_iconst (v := 0) C dX7_light_39 (by rfl) ?_
      refine w_istore_2 C dX7_light_40 (by first | trivial | rfl) ?_
      refine lp_X7_light C hl Y9 ?_ 0 (by decide)
      refine w_iload_n C dX7_light_60 (by rfl) ?_
      refine w_iret C M dX7_light_61 ⟨by decide, by decide⟩ ⟨_, rfl, ?_⟩
      exact ⟨c_7, n0, rfl, Y9⟩
    · try simp only [cg_ge, cg_gt, cl_gt, cl_le, cl_eq, cl_lt, cl_ge, bi_eq0, bi_ne0, bI_eq0, Decidable.not_not, Bool.not_eq_false] at c_17
      exact th_X7_85_223_89 C X (by rfl) (by rfl) (by rfl) (by decide) (by decide) (by decide) (by decide) ⟨rfl, rfl, by first | exact Or.inl c_7 | exact Or.inr ((nI_is0 (by omega)).mp c_17)⟩ dX7_light_20 dX7_light_23 dX7_light_24 dX7_light_26 dX7_light_29
