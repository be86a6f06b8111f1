/-! THE REFERENCE: TAKE, LIGHT, DRY, BURN -/
/-- where a pot can stand -/
def okSh (q : QT) : Prop := qSh q = -1 ∨ ∃ s, s < 3 ∧ qSh q = nI s
theorem cnt_sum {p a b c : Nat → Bool} (h : ∀ i, bi (p i) = bi (a i) + bi (b i) + bi (c i)) : ∀ j, sp_cnt p j = sp_cnt a j + sp_cnt b j + sp_cnt c j
  | 0 => rfl
  | j + 1 => by
    show sp_cnt p j + bi (p j) = (sp_cnt a j + bi (a j)) + (sp_cnt b j + bi (b j)) + (sp_cnt c j + bi (c j))
    rw [cnt_sum h j, h j]
    ac_rfl
theorem cnt_on {nP : Nat} {ps : Nat → PT} (hS : ∀ i, i < nP → okSh (ps i).2.2) (j : Nat) : sp_cnt (fun i => decide (i < nP ∧ (if (-1 : Int32) = -1 then ¬ qSh (ps i).2.2 = -1 else qSh (ps i).2.2 = -1))) j = sp_cnt (fun i => decide (i < nP ∧ qSh (ps i).2.2 = nI 0)) j + sp_cnt (fun i => decide (i < nP ∧ qSh (ps i).2.2 = nI 1)) j + sp_cnt (fun i => decide (i < nP ∧ qSh (ps i).2.2 = nI 2)) j := by
  refine cnt_sum (fun i => ?_) j
  by_cases hj : i < nP
  · rcases hS i hj with e | ⟨s, hs, e⟩
    · rw [e]; simp only [hj, true_and]; decide
    · rw [e]; simp only [hj, true_and]
      rcases s with _ | _ | _ | s
      · decide
      · decide
      · decide
      · omega
  · simp only [hj, false_and]; decide
theorem on_eq {nP : Nat} {ps : Nat → PT} (hn : nP ≤ 14) (hS : ∀ i, i < nP → okSh (ps i).2.2) : sp_cnt (fun i => decide (i < nP ∧ (if (-1 : Int32) = -1 then ¬ qSh (ps i).2.2 = -1 else qSh (ps i).2.2 = -1))) nP = sp_on nP ps 3 := by
  rw [cnt_14 hn, cnt_on hS]
  simp only [sp_on]
  rw [Int32.zero_add]
theorem dps_okq {air : Int32} (ha : 1 ≤ air ∧ air ≤ 8) {nP : Nat} {ps : Nat → PT} (hq : ∀ i, i < nP → okq (ps i).2.2) : ∀ j i, i < nP → okq (sp_dps air nP ps j i).2.2
  | 0, i, hi => hq i hi
  | j + 1, i, hi => by
    show okq (sp_each nP (sp_dryp air) (sp_dps air nP ps j) 14 i).2.2
    unfold sp_each
    split
    · exact (lose_okq ha (dps_okq ha hq j i hi)).2.1
    · exact dps_okq ha hq j i hi
theorem hot_iff {k : KT} (hH : Ht (kH k)) : (kL k = true ∨ dge (kH k) 4636737291354636288) ↔ ¬ (kL k = false ∧ dlt (kH k) 4636737291354636288) := by
  have d : dN 4636737291354636288 := (df_whole (show FP.i2d 100 = 4636737291354636288 from by decide +kernel)).n
  rw [tri0 hH.1 d]
  cases kL k <;> simp
theorem each_nn {nP : Nat} {g : PT → PT} {ps : Nat → PT} {j : Nat} (h : g (ps j) = ps j) : sp_each nP g ps j = sp_each nP g ps (j + 1) := each_n g ps (Or.inr h)

set_option maxHeartbeats 4000000 in
set_option maxRecDepth 100000 in
theorem m_X10_leave {l : Launch} {D : va_G} {tc : Nat → ClassId} (hl : l.stackTraces = false) {h : HM} {a : Nat} {cl gl : Int32} {q : QT} (hf : h a = some (mPc cl gl q)) :
    CT l D tc yX10_leave cX10_leave 1 none rm_X10_leave [.ref a] h (rV (fun h' => Up h a (mPc cl gl (qWd q, qHg q, qWl q, qSt q, qWa q, qCv q, qSm q, qMk q, -1, -1)) h')) := by
  refine CT.start [some (.ref a)] (by decide) hl rfl rfl (fun K C M => ?_)
  obtain ⟨rfl, rfl, rfl, -⟩ := id M
  have C : CX K RX10 cX10_leave 1 rm_X10_leave := C
  first | refine w_aload_n C dX10_leave_0 (by rfl) ?_ | refine w_aload_nN C dX10_leave_0 (by rfl) ?_
  refine w_iconst (v := (-1)) C dX10_leave_1 (by rfl) ?_
  refine pf_X10_150 C hf dX10_leave_2 (fun h1 u1 => ?_)
  have hf := u1.self
  first | refine w_aload_n C dX10_leave_5 (by rfl) ?_ | refine w_aload_nN C dX10_leave_5 (by rfl) ?_
  refine w_iconst (v := (-1)) C dX10_leave_6 (by rfl) ?_
  refine pf_X10_153 C hf dX10_leave_7 (fun h2 u2 => ?_)
  have hf := u2.self
  refine w_vret C M dX10_leave_10 ⟨by decide, by decide⟩ ⟨rfl, ?_⟩
  exact (u1.tr u2)

set_option maxHeartbeats 4000000 in
set_option maxRecDepth 100000 in
theorem m_X10_take {l : Launch} {D : va_G} {tc : Nat → ClassId} (hl : l.stackTraces = false) {h : HM} {m0 kl wk : Nat} {L : Nat → Nat} {E : Nat → Nat} {M : Nat → Int32} {ca : Nat → Nat} {ga : Nat → Nat} {pa : Nat → Nat} {oa : Nat → Nat} {ra : Nat → Nat} {th : Int32} {nC : Nat} {cs : Nat → Int32 × Int32} {nG : Nat} {gs : Nat → GT} {nP : Nat} {ps : Nat → PT} {nO : Nat} {os : Nat → OT} {nR : Nat} {rs : Nat → RT} {k : KT} {dmp : Int32} {day : Int32} {pur : Int32} {rf : Int32} (YY : Mh tc m0 kl wk L E M ca ga pa oa ra th nC cs nG gs nP ps nO os nR rs k dmp day pur rf h) (hn : nP ≤ 14) {i : Int32} :
    CT l D tc yX10_take cX10_take 3 (some FieldType.int) rm_X10_take [.ref m0, .int i] h (rI (fun z h' => (out9 i nP ∧ z = 0 ∧ MhE tc m0 kl wk 1 nC cs nG gs nP ps nO os nR rs k dmp day pur rf h') ∨ (∃ j, j < nP ∧ i = nI j ∧ ((((kL k = true ∨ dge (kH k) 4636737291354636288) ∨ qSh (ps j).2.2 = -1) ∧ z = 0 ∧ MhE tc m0 kl wk 2 nC cs nG gs nP ps nO os nR rs k dmp day pur rf h') ∨ (¬ (kL k = true ∨ dge (kH k) 4636737291354636288) ∧ ¬ qSh (ps j).2.2 = -1 ∧ z = qSh (ps j).2.2 ∧ MhE tc m0 kl wk 0 nC cs nG gs nP (vf_upd ps j (sp_lvd (ps j))) nO os nR rs k dmp day pur rf h'))))) := by
  refine CT.start [some (.ref m0), some (.int i), none] (by decide) hl rfl rfl (fun K C M => ?_)
  obtain ⟨rfl, rfl, rfl, -⟩ := id M
  have C : CX K RX10 cX10_take 3 rm_X10_take := C
  obtain ⟨mm, mL, mk, mw, mCl, mGl, mPt, mOr, mRm, mn1, mn2, mn3⟩ := id YY
  first | refine w_aload_n C dX10_take_0 (by rfl) ?_ | refine w_aload_nN C dX10_take_0 (by rfl) ?_
  first | refine w_aload_n C dX10_take_1 (by rfl) ?_ | refine w_aload_nN C dX10_take_1 (by rfl) ?_
  refine w_iload_n C dX10_take_2 (by rfl) ?_
  refine cl_X10_104 C (m_X10_isNoPot hl YY (by omega)) mm (by rfl) (by rfl) ⟨by decide, by decide⟩ (by rfl) dX10_take_3 (fun z1 h1 p1 => ?_)
  obtain ⟨rfl, p_3⟩ := p1
  rcases p_3 with ⟨rfl, c_3⟩ | ⟨rfl, j, hj, rfl⟩
  · 
    refine w_iconst (v := 1) C dX10_take_6 (by rfl) ?_
    refine cl_X10_88 C (m_X10_startT hl mm (by decide)) mm (by rfl) (by rfl) ⟨by decide, by decide⟩ (by rfl) dX10_take_7 (fun z2 h2 p2 => ?_)
    obtain ⟨rfl, p2⟩ := p2
    have YY := YY.me (th2 := 1) (day2 := day) (dmp2 := dmp) (pur2 := pur) (rf2 := rf) p2
    obtain ⟨mm, mL, mk, mw, mCl, mGl, mPt, mOr, mRm, mn1, mn2, mn3⟩ := id YY
    refine w_if_ne (tgt := 51) C dX10_take_10 (by rfl) (fun c_10 => ?_) (fun c_10 => ?_)
    · try simp only [cg_ge, cg_gt, cl_gt, cl_le, cl_eq, cl_lt, cl_ge, bi_eq0, bi_ne0, bI_eq0, Decidable.not_not, Bool.not_eq_false] at c_10
      refine w_iconst (v := 0) C dX10_take_51 (by rfl) ?_
      refine w_iret C M dX10_take_52 ⟨by decide, by decide⟩ ⟨_, rfl, ?_⟩
      exact Or.inl ⟨c_3, rfl, YY.ex⟩
    · exact absurd c_10 (by decide)
  · 
    refine w_iconst (v := 1) C dX10_take_6 (by rfl) ?_
    refine cl_X10_88 C (m_X10_startF hl mm) mm (by rfl) (by rfl) ⟨by decide, by decide⟩ (by rfl) dX10_take_7 (fun z3 h3 p3 => ?_)
    obtain ⟨rfl, p3⟩ := p3
    have YY := YY.me (th2 := 0) (day2 := day) (dmp2 := dmp) (pur2 := pur) (rf2 := rf) p3
    obtain ⟨mm, mL, mk, mw, mCl, mGl, mPt, mOr, mRm, mn1, mn2, mn3⟩ := id YY
    refine w_if_ne (tgt := 51) C dX10_take_10 (by rfl) (fun c_10 => ?_) (fun c_10 => ?_)
    · exact absurd c_10 (by decide)
    · try simp only [cg_ge, cg_gt, cl_gt, cl_le, cl_eq, cl_lt, cl_ge, bi_eq0, bi_ne0, bI_eq0, Decidable.not_not, Bool.not_eq_false] at c_10
      first | refine w_aload_n C dX10_take_13 (by rfl) ?_ | refine w_aload_nN C dX10_take_13 (by rfl) ?_
      first | refine w_aload_n C dX10_take_14 (by rfl) ?_ | refine w_aload_nN C dX10_take_14 (by rfl) ?_
      refine cl_X10_170 C (m_X10_isHot hl YY) mm (by rfl) (by rfl) ⟨by decide, by decide⟩ (by rfl) dX10_take_15 (fun z4 h4 p4 => ?_)
      obtain ⟨rfl, rfl⟩ := p4
      have hpj := mPt j hj
      refine w_if_ne (tgt := 39) C dX10_take_18 (by rfl) (fun c_18 => ?_) (fun c_18 => ?_)
      · try simp only [cg_ge, cg_gt, cl_gt, cl_le, cl_eq, cl_lt, cl_ge, bi_eq0, bi_ne0, bI_eq0, Decidable.not_not, Bool.not_eq_false] at c_18
        refine w_iconst (v := 1) C dX10_take_39 (by rfl) ?_
        refine w_goto (tgt := 44) C dX10_take_40 (by rfl) ?_
        refine w_iconst (v := 2) C dX10_take_44 (by rfl) ?_
        refine cl_X10_36 C (m_X10_refuseT hl mm (by decide)) mm (by rfl) (by rfl) ⟨by decide, by decide⟩ (by rfl) dX10_take_45 (fun z5 h5 p5 => ?_)
        obtain ⟨rfl, p5⟩ := p5
        have YY := YY.me (th2 := 2) (day2 := day) (dmp2 := dmp) (pur2 := pur) (rf2 := rf) p5
        obtain ⟨mm, mL, mk, mw, mCl, mGl, mPt, mOr, mRm, mn1, mn2, mn3⟩ := id YY
        refine w_if_eq (tgt := 53) C dX10_take_48 (by rfl) (fun c_48 => ?_) (fun c_48 => ?_)
        · exact absurd c_48 (by decide)
        · try simp only [cg_ge, cg_gt, cl_gt, cl_le, cl_eq, cl_lt, cl_ge, bi_eq0, bi_ne0, bI_eq0, Decidable.not_not, Bool.not_eq_false] at c_48
          refine w_iconst (v := 0) C dX10_take_51 (by rfl) ?_
          refine w_iret C M dX10_take_52 ⟨by decide, by decide⟩ ⟨_, rfl, ?_⟩
          exact Or.inr ⟨j, hj, rfl, Or.inl ⟨Or.inl c_18, rfl, YY.ex⟩⟩
      · try simp only [cg_ge, cg_gt, cl_gt, cl_le, cl_eq, cl_lt, cl_ge, bi_eq0, bi_ne0, bI_eq0, Decidable.not_not, Bool.not_eq_false] at c_18
        first | refine w_aload_n C dX10_take_21 (by rfl) ?_ | refine w_aload_nN C dX10_take_21 (by rfl) ?_
        refine gf_X10_19 C mm dX10_take_22 ?_
        refine w_iload_n C dX10_take_25 (by rfl) ?_
        refine cl_X10_58 C (m_get hl YY.lp YY.ap hj) YY.lp (by rfl) (by rfl) ⟨by decide, by decide⟩ (by rfl) dX10_take_26 (fun z6 h6 p6 => ?_)
        obtain ⟨rfl, rfl⟩ := p6
        refine w_castS C hpj (r := (RX9, TX9, 12)) rfl gw_1152 dX10_take_29 ?_
        refine gf_X10_150 C hpj dX10_take_32 ?_
        refine w_iconst (v := (-1)) C dX10_take_35 (by rfl) ?_
        refine w_icmp_ne (tgt := 43) C dX10_take_36 (by rfl) (fun c_36 => ?_) (fun c_36 => ?_)
        · refine w_iconst (v := 0) C dX10_take_43 (by rfl) ?_
          refine w_iconst (v := 2) C dX10_take_44 (by rfl) ?_
          refine cl_X10_36 C (m_X10_refuseF hl mm) mm (by rfl) (by rfl) ⟨by decide, by decide⟩ (by rfl) dX10_take_45 (fun z7 h7 p7 => ?_)
          obtain ⟨rfl, rfl⟩ := p7
          refine w_if_eq (tgt := 53) C dX10_take_48 (by rfl) (fun c_48 => ?_) (fun c_48 => ?_)
          · try simp only [cg_ge, cg_gt, cl_gt, cl_le, cl_eq, cl_lt, cl_ge, bi_eq0, bi_ne0, bI_eq0, Decidable.not_not, Bool.not_eq_false] at c_48
            have hpj := mPt j hj
            first | refine w_aload_n C dX10_take_53 (by rfl) ?_ | refine w_aload_nN C dX10_take_53 (by rfl) ?_
            refine gf_X10_19 C mm dX10_take_54 ?_
            refine w_iload_n C dX10_take_57 (by rfl) ?_
            refine cl_X10_58 C (m_get hl YY.lp YY.ap hj) YY.lp (by rfl) (by rfl) ⟨by decide, by decide⟩ (by rfl) dX10_take_58 (fun z8 h8 p8 => ?_)
            obtain ⟨rfl, rfl⟩ := p8
            refine w_castS C hpj (r := (RX9, TX9, 12)) rfl gw_1152 dX10_take_61 ?_
            refine gf_X10_150 C hpj dX10_take_64 ?_
            refine w_istore_2 C dX10_take_67 (by first | trivial | rfl) ?_
            first | refine w_aload_n C dX10_take_68 (by rfl) ?_ | refine w_aload_nN C dX10_take_68 (by rfl) ?_
            refine gf_X10_19 C mm dX10_take_69 ?_
            refine w_iload_n C dX10_take_72 (by rfl) ?_
            refine cl_X10_58 C (m_get hl YY.lp YY.ap hj) YY.lp (by rfl) (by rfl) ⟨by decide, by decide⟩ (by rfl) dX10_take_73 (fun z9 h9 p9 => ?_)
            obtain ⟨rfl, rfl⟩ := p9
            refine w_castS C hpj (r := (RX9, TX9, 12)) rfl gw_1152 dX10_take_76 ?_
            refine cl_X10_182 C (m_X10_leave hl hpj) (by rfl) (by rfl) ⟨by decide, by decide⟩ (by rfl) dX10_take_79 (fun h10 p10 => ?_)
            have YY := YY.pot hj (p := sp_lvd (ps j)) p10
            refine w_iload_n C dX10_take_82 (by rfl) ?_
            refine w_iret C M dX10_take_83 ⟨by decide, by decide⟩ ⟨_, rfl, ?_⟩
            exact Or.inr ⟨j, hj, rfl, Or.inr ⟨c_18, c_36, rfl, YY.ex⟩⟩
          · exact absurd c_48 (by decide)
        · refine w_iconst (v := 1) C dX10_take_39 (by rfl) ?_
          refine w_goto (tgt := 44) C dX10_take_40 (by rfl) ?_
          refine w_iconst (v := 2) C dX10_take_44 (by rfl) ?_
          refine cl_X10_36 C (m_X10_refuseT hl mm (by decide)) mm (by rfl) (by rfl) ⟨by decide, by decide⟩ (by rfl) dX10_take_45 (fun z11 h11 p11 => ?_)
          obtain ⟨rfl, p11⟩ := p11
          have YY := YY.me (th2 := 2) (day2 := day) (dmp2 := dmp) (pur2 := pur) (rf2 := rf) p11
          obtain ⟨mm, mL, mk, mw, mCl, mGl, mPt, mOr, mRm, mn1, mn2, mn3⟩ := id YY
          refine w_if_eq (tgt := 53) C dX10_take_48 (by rfl) (fun c_48 => ?_) (fun c_48 => ?_)
          · exact absurd c_48 (by decide)
          · try simp only [cg_ge, cg_gt, cl_gt, cl_le, cl_eq, cl_lt, cl_ge, bi_eq0, bi_ne0, bI_eq0, Decidable.not_not, Bool.not_eq_false] at c_48
            refine w_iconst (v := 0) C dX10_take_51 (by rfl) ?_
            refine w_iret C M dX10_take_52 ⟨by decide, by decide⟩ ⟨_, rfl, ?_⟩
            exact Or.inr ⟨j, hj, rfl, Or.inl ⟨Or.inr c_36, rfl, YY.ex⟩⟩

set_option maxHeartbeats 4000000 in
set_option maxRecDepth 100000 in
theorem m_X10_light {l : Launch} {D : va_G} {tc : Nat → ClassId} (hl : l.stackTraces = false) {h : HM} {m0 kl wk : Nat} {L : Nat → Nat} {E : Nat → Nat} {M : Nat → Int32} {ca : Nat → Nat} {ga : Nat → Nat} {pa : Nat → Nat} {oa : Nat → Nat} {ra : Nat → Nat} {th : Int32} {nC : Nat} {cs : Nat → Int32 × Int32} {nG : Nat} {gs : Nat → GT} {nP : Nat} {ps : Nat → PT} {nO : Nat} {os : Nat → OT} {nR : Nat} {rs : Nat → RT} {k : KT} {dmp : Int32} {day : Int32} {pur : Int32} {rf : Int32} (YY : Mh tc m0 kl wk L E M ca ga pa oa ra th nC cs nG gs nP ps nO os nR rs k dmp day pur rf h) (hn : nP ≤ 14) (hR : nR ≤ 5) (hS : ∀ i, i < nP → okSh (ps i).2.2) :
    CT l D tc yX10_light cX10_light 1 (some FieldType.int) rm_X10_light [.ref m0] h (rI (fun z h' => ((kL k = true ∨ nR = 0) ∧ z = 0 ∧ MhE tc m0 kl wk 1 nC cs nG gs nP ps nO os nR rs k dmp day pur rf h') ∨ (kL k = false ∧ ¬ nR = 0 ∧ z = sp_on nP ps 3 ∧ MhE tc m0 kl wk 0 nC cs nG gs nP ps nO os nR rs (sp_kndl k) dmp day pur rf h'))) := by
  refine CT.start [some (.ref m0)] (by decide) hl rfl rfl (fun K C M => ?_)
  obtain ⟨rfl, rfl, rfl, -⟩ := id M
  have C : CX K RX10 cX10_light 1 rm_X10_light := C
  obtain ⟨mm, mL, mk, mw, mCl, mGl, mPt, mOr, mRm, mn1, mn2, mn3⟩ := id YY
  first | refine w_aload_n C dX10_light_0 (by rfl) ?_ | refine w_aload_nN C dX10_light_0 (by rfl) ?_
  first | refine w_aload_n C dX10_light_1 (by rfl) ?_ | refine w_aload_nN C dX10_light_1 (by rfl) ?_
  refine gf_X10_28 C mm dX10_light_2 ?_
  refine gf_X10_48 C mk dX10_light_5 ?_
  refine w_if_ne (tgt := 24) C dX10_light_8 (by rfl) (fun c_8 => ?_) (fun c_8 => ?_)
  · try simp only [cg_ge, cg_gt, cl_gt, cl_le, cl_eq, cl_lt, cl_ge, bi_eq0, bi_ne0, bI_eq0, Decidable.not_not, Bool.not_eq_false] at c_8
    refine w_iconst (v := 1) C dX10_light_24 (by rfl) ?_
    refine w_goto (tgt := 29) C dX10_light_25 (by rfl) ?_
    refine w_iconst (v := 1) C dX10_light_29 (by rfl) ?_
    refine cl_X10_88 C (m_X10_startT hl mm (by decide)) mm (by rfl) (by rfl) ⟨by decide, by decide⟩ (by rfl) dX10_light_30 (fun z1 h1 p1 => ?_)
    obtain ⟨rfl, p1⟩ := p1
    have YY := YY.me (th2 := 1) (day2 := day) (dmp2 := dmp) (pur2 := pur) (rf2 := rf) p1
    obtain ⟨mm, mL, mk, mw, mCl, mGl, mPt, mOr, mRm, mn1, mn2, mn3⟩ := id YY
    refine w_if_eq (tgt := 38) C dX10_light_33 (by rfl) (fun c_33 => ?_) (fun c_33 => ?_)
    · exact absurd c_33 (by decide)
    · try simp only [cg_ge, cg_gt, cl_gt, cl_le, cl_eq, cl_lt, cl_ge, bi_eq0, bi_ne0, bI_eq0, Decidable.not_not, Bool.not_eq_false] at c_33
      refine w_iconst (v := 0) C dX10_light_36 (by rfl) ?_
      refine w_iret C M dX10_light_37 ⟨by decide, by decide⟩ ⟨_, rfl, ?_⟩
      exact Or.inl ⟨Or.inl c_8, rfl, YY.ex⟩
  · try simp only [cg_ge, cg_gt, cl_gt, cl_le, cl_eq, cl_lt, cl_ge, bi_eq0, bi_ne0, bI_eq0, Decidable.not_not, Bool.not_eq_false] at c_8
    first | refine w_aload_n C dX10_light_11 (by rfl) ?_ | refine w_aload_nN C dX10_light_11 (by rfl) ?_
    refine gf_X10_28 C mm dX10_light_12 ?_
    refine gf_X10_186 C mk dX10_light_15 ?_
    refine cl_X10_192 C (m_Jx4a65c_isEmpty_aae02 hl YY.lr (by omega)) YY.lr (by rfl) (by rfl) ⟨by decide, by decide⟩ (by rfl) dX10_light_18 (fun z2 h2 p2 => ?_)
    obtain ⟨rfl, rfl⟩ := p2
    refine w_if_eq (tgt := 28) C dX10_light_21 (by rfl) (fun c_21 => ?_) (fun c_21 => ?_)
    · try simp only [cg_ge, cg_gt, cl_gt, cl_le, cl_eq, cl_lt, cl_ge, bi_eq0, bi_ne0, bI_eq0, Decidable.not_not, Bool.not_eq_false] at c_21
      refine w_iconst (v := 0) C dX10_light_28 (by rfl) ?_
      refine w_iconst (v := 1) C dX10_light_29 (by rfl) ?_
      refine cl_X10_88 C (m_X10_startF hl mm) mm (by rfl) (by rfl) ⟨by decide, by decide⟩ (by rfl) dX10_light_30 (fun z3 h3 p3 => ?_)
      obtain ⟨rfl, p3⟩ := p3
      have YY := YY.me (th2 := 0) (day2 := day) (dmp2 := dmp) (pur2 := pur) (rf2 := rf) p3
      obtain ⟨mm, mL, mk, mw, mCl, mGl, mPt, mOr, mRm, mn1, mn2, mn3⟩ := id YY
      refine w_if_eq (tgt := 38) C dX10_light_33 (by rfl) (fun c_33 => ?_) (fun c_33 => ?_)
      · try simp only [cg_ge, cg_gt, cl_gt, cl_le, cl_eq, cl_lt, cl_ge, bi_eq0, bi_ne0, bI_eq0, Decidable.not_not, Bool.not_eq_false] at c_33
        first | refine w_aload_n C dX10_light_38 (by rfl) ?_ | refine w_aload_nN C dX10_light_38 (by rfl) ?_
        refine gf_X10_28 C mm dX10_light_39 ?_
        refine w_iconst (v := 1) C dX10_light_42 (by rfl) ?_
        refine pf_X10_48 C mk (by first | exact Or.inl rfl | exact Or.inr rfl | assumption | exact bI_01 _ | exact bi_01 _) dX10_light_43 (fun h4 u4 => ?_)
        have mk := u4.self
        have YY := YY.kiln1 (k2 := (kH k, kP k, kO k, true, kA k, kE k, kC k, kF k, kS k, kW k)) u4 rfl
        obtain ⟨mm, mL, mk, mw, mCl, mGl, mPt, mOr, mRm, mn1, mn2, mn3⟩ := id YY
        first | refine w_aload_n C dX10_light_46 (by rfl) ?_ | refine w_aload_nN C dX10_light_46 (by rfl) ?_
        refine gf_X10_28 C mm dX10_light_47 ?_
        refine w_iconst (v := 0) C dX10_light_50 (by rfl) ?_
        refine pf_X10_195 C mk dX10_light_51 (fun h5 u5 => ?_)
        have mk := u5.self
        have YY := YY.kiln1 (k2 := (kH k, kP k, kO k, true, 0, kE k, kC k, kF k, kS k, kW k)) u5 rfl
        obtain ⟨mm, mL, mk, mw, mCl, mGl, mPt, mOr, mRm, mn1, mn2, mn3⟩ := id YY
        first | refine w_aload_n C dX10_light_54 (by rfl) ?_ | refine w_aload_nN C dX10_light_54 (by rfl) ?_
        refine gf_X10_28 C mm dX10_light_55 ?_
        refine w_iconst (v := 0) C dX10_light_58 (by rfl) ?_
        refine pf_X10_198 C mk dX10_light_59 (fun h6 u6 => ?_)
        have mk := u6.self
        have YY := YY.kiln1 (k2 := sp_kndl k) u6 rfl
        obtain ⟨mm, mL, mk, mw, mCl, mGl, mPt, mOr, mRm, mn1, mn2, mn3⟩ := id YY
        first | refine w_aload_n C dX10_light_62 (by rfl) ?_ | refine w_aload_nN C dX10_light_62 (by rfl) ?_
        refine w_iconst (v := (-1)) C dX10_light_63 (by rfl) ?_
        refine cl_X10_201 C (m_X10_placed hl YY hn) mm (by rfl) (by rfl) ⟨by decide, by decide⟩ (by rfl) dX10_light_64 (fun z7 h7 p7 => ?_)
        obtain ⟨rfl, fr9⟩ := p7
        have YY := YY.fr0 fr9
        rw [on_eq hn hS]
        refine w_iret C M dX10_light_67 ⟨by decide, by decide⟩ ⟨_, rfl, ?_⟩
        exact Or.inr ⟨c_8, c_21, rfl, YY.ex⟩
      · exact absurd c_33 (by decide)
    · try simp only [cg_ge, cg_gt, cl_gt, cl_le, cl_eq, cl_lt, cl_ge, bi_eq0, bi_ne0, bI_eq0, Decidable.not_not, Bool.not_eq_false] at c_21
      refine w_iconst (v := 1) C dX10_light_24 (by rfl) ?_
      refine w_goto (tgt := 29) C dX10_light_25 (by rfl) ?_
      refine w_iconst (v := 1) C dX10_light_29 (by rfl) ?_
      refine cl_X10_88 C (m_X10_startT hl mm (by decide)) mm (by rfl) (by rfl) ⟨by decide, by decide⟩ (by rfl) dX10_light_30 (fun z8 h8 p8 => ?_)
      obtain ⟨rfl, p8⟩ := p8
      have YY := YY.me (th2 := 1) (day2 := day) (dmp2 := dmp) (pur2 := pur) (rf2 := rf) p8
      obtain ⟨mm, mL, mk, mw, mCl, mGl, mPt, mOr, mRm, mn1, mn2, mn3⟩ := id YY
      refine w_if_eq (tgt := 38) C dX10_light_33 (by rfl) (fun c_33 => ?_) (fun c_33 => ?_)
      · exact absurd c_33 (by decide)
      · try simp only [cg_ge, cg_gt, cl_gt, cl_le, cl_eq, cl_lt, cl_ge, bi_eq0, bi_ne0, bI_eq0, Decidable.not_not, Bool.not_eq_false] at c_33
        refine w_iconst (v := 0) C dX10_light_36 (by rfl) ?_
        refine w_iret C M dX10_light_37 ⟨by decide, by decide⟩ ⟨_, rfl, ?_⟩
        exact Or.inl ⟨Or.inr c_21, rfl, YY.ex⟩

set_option maxHeartbeats 4000000 in
set_option maxRecDepth 100000 in
theorem lp_X10_dry_in {K : KC} (C : CX K RX10 cX10_dry 6 rm_X10_dry) (hl : (Kl K).stackTraces = false) {q d m : Nat} {air : Int32} {m0 kl wk : Nat} {L : Nat → Nat} {E : Nat → Nat} {M : Nat → Int32} {ca : Nat → Nat} {ga : Nat → Nat} {pa : Nat → Nat} {oa : Nat → Nat} {ra : Nat → Nat} {th : Int32} {nC : Nat} {cs : Nat → Int32 × Int32} {nG : Nat} {gs : Nat → GT} {nP : Nat} {ps : Nat → PT} {nO : Nat} {os : Nat → OT} {nR : Nat} {rs : Nat → RT} {k : KT} {dmp : Int32} {day : Int32} {pur : Int32} {rf : Int32} (ha : 1 ≤ air ∧ air ≤ 8) (hn : nP ≤ 14) (hq : ∀ i, i < nP → okq (sp_dps air nP ps d i).2.2) (hd : d < 20)
    (kk : ∀ h', Mh (Kt K) m0 kl wk L E M ca ga pa oa ra th nC cs nG gs nP ((sp_each nP (sp_dryp air) (sp_dps air nP ps d) nP)) nO os nR rs k dmp day pur rf h' → WW K (d + 1, 4 * d + 4) 107 [some (.ref m0), some (.int (nI m)), some (.int air), some (.int (nI d)), some (.ref q), none] [] h')
    : ∀ j : Nat, j ≤ nP → ∀ {h : HM} {lr : Int32},  (YY : Mh (Kt K) m0 kl wk L E M ca ga pa oa ra th nC cs nG gs nP ((sp_each nP (sp_dryp air) (sp_dps air nP ps d) j)) nO os nR rs k dmp day pur rf h) → (hI : h q = some (itC j lr (M 2) (L 2))) → WW K (d + 1, 4 * d + 4) 76 [some (.ref m0), some (.int (nI m)), some (.int air), some (.int (nI d)), some (.ref q), none] [] h := by
  refine up_ind ?_
  intro j hj ih h lr YY hI
  obtain ⟨mm, mL, mk, mw, mCl, mGl, mPt, mOr, mRm, mn1, mn2, mn3⟩ := id YY
  first | refine w_aload C dX10_dry_76 (by rfl) ?_ | refine w_aloadN C dX10_dry_76 (by rfl) ?_
  refine w_hasN C hl YY.lp hI hj (by omega) gw_1257 (by rfl) (by rfl) ⟨show d + 1 ≤ 21 by omega, show 4 * d + 4 ≤ 84 by omega⟩ (by rfl) dX10_dry_78 ?_
  refine w_if_eq (tgt := 107) C dX10_dry_83 (by rfl) (fun c_83 => ?_) (fun c_83 => ?_)
  · try simp only [cg_ge, cg_gt, cl_gt, cl_le, cl_eq, cl_lt, cl_ge, bi_eq0, bi_ne0, bI_eq0, Decidable.not_not, Bool.not_eq_false] at c_83
    obtain rfl : j = nP := by omega
    exact kk _ YY
  · try simp only [cg_ge, cg_gt, cl_gt, cl_le, cl_eq, cl_lt, cl_ge, bi_eq0, bi_ne0, bI_eq0, Decidable.not_not, Bool.not_eq_false] at c_83
    have hj3 : j < nP := by assumption
    obtain ⟨cap, hE, hcn, hcap⟩ := YY.ap.get hj3
    first | refine w_aload C dX10_dry_86 (by rfl) ?_ | refine w_aloadN C dX10_dry_86 (by rfl) ?_
    refine w_next C hl YY.lp hI hE hj3 hcn hcap (row9_i hj3) gw_1267 (by rfl) (by rfl) ⟨show d + 1 ≤ 21 by omega, show 4 * d + 4 ≤ 84 by omega⟩ (by rfl) dX10_dry_88 (fun h9 u9 => ?_)
    have YY := YY.it hI u9
    have hI := u9.self
    obtain ⟨mm, mL, mk, mw, mCl, mGl, mPt, mOr, mRm, mn1, mn2, mn3⟩ := id YY
    have hpj := mPt j hj3
    rw [each_at] at hpj
    refine w_castS C hpj (r := (RX9, TX9, 12)) rfl gw_1152 dX10_dry_93 ?_
    first | refine w_astore_5 C dX10_dry_96 (by first | trivial | rfl) ?_ | refine w_astore_5N C dX10_dry_96 (by first | trivial | rfl) ?_
    first | refine w_aload C dX10_dry_98 (by rfl) ?_ | refine w_aloadN C dX10_dry_98 (by rfl) ?_
    refine w_iload_n C dX10_dry_100 (by rfl) ?_
    refine cl_X10_134 C (m_X9_day hl hpj ha (hq j hj3)) hpj (by rfl) (by rfl) ⟨show d + 1 + 0 ≤ 21 by omega, show 4 * d + 4 + 0 ≤ 84 by omega⟩ (by rfl) dX10_dry_101 (fun h1 p1 => ?_)
    have hI := p1.oth hI hpj (by intro v; simp at v)
    have YY := YY.pot hj3 (p := sp_dryp air (sp_dps air nP ps d j)) p1
    rw [each_s _ _ hj3] at YY
    refine w_goto (tgt := 76) C dX10_dry_104 (by rfl) ?_
    exact w_sub (ih hj3 YY hI) (by repeat' first | exact trivial | rfl | constructor)

set_option maxHeartbeats 4000000 in
set_option maxRecDepth 100000 in
theorem lp_X10_dry {K : KC} (C : CX K RX10 cX10_dry 6 rm_X10_dry) (hl : (Kl K).stackTraces = false) {m : Nat} {air : Int32} {m0 kl wk : Nat} {L : Nat → Nat} {E : Nat → Nat} {M : Nat → Int32} {ca : Nat → Nat} {ga : Nat → Nat} {pa : Nat → Nat} {oa : Nat → Nat} {ra : Nat → Nat} {th : Int32} {nC : Nat} {cs : Nat → Int32 × Int32} {nG : Nat} {gs : Nat → GT} {nP : Nat} {ps : Nat → PT} {nO : Nat} {os : Nat → OT} {nR : Nat} {rs : Nat → RT} {k : KT} {dmp : Int32} {day : Int32} {pur : Int32} {rf : Int32} (ha : 1 ≤ air ∧ air ≤ 8) (hn : nP ≤ 14) (hq : ∀ i, i < nP → okq (ps i).2.2) (hm : m ≤ 20)
    (kk : ∀ h', Mh (Kt K) m0 kl wk L E M ca ga pa oa ra th nC cs nG gs nP (sp_dps air nP ps m) nO os nR rs k dmp day pur rf h' → WW K (20, 80) 113 [some (.ref m0), some (.int (nI m)), some (.int air), some (.int (nI m)), none, none] [] h')
    : ∀ j : Nat, j ≤ m → ∀ {h : HM},  (YY : Mh (Kt K) m0 kl wk L E M ca ga pa oa ra th nC cs nG gs nP (sp_dps air nP ps j) nO os nR rs k dmp day pur rf h) → WW K (j, 4 * j) 62 [some (.ref m0), some (.int (nI m)), some (.int air), some (.int (nI j)), none, none] [] h := by
  refine up_ind ?_
  intro j hj ih h YY
  obtain ⟨mm, mL, mk, mw, mCl, mGl, mPt, mOr, mRm, mn1, mn2, mn3⟩ := id YY
  refine w_iload_n C dX10_dry_62 (by rfl) ?_
  refine w_iload_n C dX10_dry_63 (by rfl) ?_
  refine w_icmp_ge (tgt := 113) C dX10_dry_64 (by rfl) (fun c_64 => ?_) (fun c_64 => ?_)
  · have e3 : ¬ j < m := fun q => nI_ge q (by omega) c_64
    obtain rfl : j = m := by omega
    refine w_widen (kk _ YY) (by show j ≤ 20; omega) (by show 4 * j ≤ 80; omega)
  · have hj3 : j < m := Nat.not_le.mp (fun q => c_64 (nI_le (a := m) q (by omega)))
    first | refine w_aload_n C dX10_dry_67 (by rfl) ?_ | refine w_aload_nN C dX10_dry_67 (by rfl) ?_
    refine gf_X10_19 C mm dX10_dry_68 ?_
    refine cl_X10_110 C (m_Jx4a65c_iterator_32c93 hl YY.lp) YY.lp (by rfl) (by rfl) ⟨show j + 1 ≤ 21 by omega, show 4 * j + 4 ≤ 84 by omega⟩ (by rfl) dX10_dry_71 (fun z1 h1 p1 => ?_)
    obtain ⟨q, rfl, nq, uq⟩ := p1
    first | refine w_astore_4 C dX10_dry_74 (by first | trivial | rfl) ?_ | refine w_astore_4N C dX10_dry_74 (by first | trivial | rfl) ?_
    refine lp_X10_dry_in C hl ha hn (dps_okq ha hq j) (by omega) (fun h8 YY8 => ?_) 0 (by omega) (lr := -1) (by rw [each_0]; exact YY.fr0 (uq.frN nq)) uq.self
    have YY9 : Mh (Kt K) m0 kl wk L E M ca ga pa oa ra th nC cs nG gs nP (sp_dps air nP ps (j + 1)) nO os nR rs k dmp day pur rf h8 := by rw [each_14 _ _ hn] at YY8; exact YY8
    refine w_iinc_3 (v := _ + (1)) C dX10_dry_107 (by rfl) (by first | trivial | rfl) ?_
    refine w_goto (tgt := 62) C dX10_dry_110 (by rfl) ?_
    rw [nI_1 j]
    exact w_sub (ih hj3 YY9) (by repeat' first | exact trivial | rfl | constructor)

set_option maxHeartbeats 4000000 in
set_option maxRecDepth 100000 in
theorem m_X10_dry {l : Launch} {D : va_G} {tc : Nat → ClassId} (hl : l.stackTraces = false) {h : HM} {m0 kl wk : Nat} {L : Nat → Nat} {E : Nat → Nat} {M : Nat → Int32} {ca : Nat → Nat} {ga : Nat → Nat} {pa : Nat → Nat} {oa : Nat → Nat} {ra : Nat → Nat} {th : Int32} {nC : Nat} {cs : Nat → Int32 × Int32} {nG : Nat} {gs : Nat → GT} {nP : Nat} {ps : Nat → PT} {nO : Nat} {os : Nat → OT} {nR : Nat} {rs : Nat → RT} {k : KT} {dmp : Int32} {day : Int32} {pur : Int32} {rf : Int32} (YY : Mh tc m0 kl wk L E M ca ga pa oa ra th nC cs nG gs nP ps nO os nR rs k dmp day pur rf h) (hn : nP ≤ 14) (hq : ∀ i, i < nP → okq (ps i).2.2) {ds air : Int32} :
    CT l D tc yX10_dry cX10_dry 6 (some FieldType.int) rm_X10_dry [.ref m0, .int ds, .int air] h (rI (fun z h' => (¬ ((1 ≤ ds ∧ ds ≤ 20) ∧ 1 ≤ air ∧ air ≤ 8) ∧ z = 0 ∧ MhE tc m0 kl wk 1 nC cs nG gs nP ps nO os nR rs k dmp day pur rf h') ∨ (((1 ≤ ds ∧ ds ≤ 20) ∧ 1 ≤ air ∧ air ≤ 8) ∧ 200 < day + ds ∧ z = 0 ∧ MhE tc m0 kl wk 2 nC cs nG gs nP ps nO os nR rs k dmp day pur rf h') ∨ (((1 ≤ ds ∧ ds ≤ 20) ∧ 1 ≤ air ∧ air ≤ 8) ∧ ¬ 200 < day + ds ∧ ∃ m, (1 ≤ m ∧ m ≤ 20) ∧ ds = nI m ∧ z = sp_cnt (fun i => decide (i < nP ∧ qSt (sp_dps air nP ps m i).2.2 = 1)) 14 ∧ MhE tc m0 kl wk 0 nC cs nG gs nP (sp_dps air nP ps m) nO os nR rs k dmp (day + ds) pur rf h'))) := by
  refine CT.start [some (.ref m0), some (.int ds), some (.int air), none, none, none] (by decide) hl rfl rfl (fun K C M => ?_)
  obtain ⟨rfl, rfl, rfl, -⟩ := id M
  have C : CX K RX10 cX10_dry 6 rm_X10_dry := C
  obtain ⟨mm, mL, mk, mw, mCl, mGl, mPt, mOr, mRm, mn1, mn2, mn3⟩ := id YY
  first | refine w_aload_n C dX10_dry_0 (by rfl) ?_ | refine w_aload_nN C dX10_dry_0 (by rfl) ?_
  refine w_iload_n C dX10_dry_1 (by rfl) ?_
  refine w_iconst (v := 1) C dX10_dry_2 (by rfl) ?_
  refine w_bipush (v := (20)) C dX10_dry_3 (by rfl) ?_
  refine cl_X10_44 C (m_X10_isIn hl) (by rfl) (by rfl) ⟨by decide, by decide⟩ (by rfl) dX10_dry_5 (fun z1 h1 p1 => ?_)
  obtain ⟨rfl, rfl⟩ := p1
  refine w_if_eq (tgt := 21) C dX10_dry_8 (by rfl) (fun c_8 => ?_) (fun c_8 => ?_)
  · try simp only [cg_ge, cg_gt, cl_gt, cl_le, cl_eq, cl_lt, cl_ge, bi_eq0, bi_ne0, bI_eq0, Decidable.not_not, Bool.not_eq_false] at c_8
    refine w_iconst (v := 1) C dX10_dry_21 (by rfl) ?_
    refine w_goto (tgt := 26) C dX10_dry_22 (by rfl) ?_
    refine w_iconst (v := 1) C dX10_dry_26 (by rfl) ?_
    refine cl_X10_88 C (m_X10_startT hl mm (by decide)) mm (by rfl) (by rfl) ⟨by decide, by decide⟩ (by rfl) dX10_dry_27 (fun z2 h2 p2 => ?_)
    obtain ⟨rfl, p2⟩ := p2
    have YY := YY.me (th2 := 1) (day2 := day) (dmp2 := dmp) (pur2 := pur) (rf2 := rf) p2
    obtain ⟨mm, mL, mk, mw, mCl, mGl, mPt, mOr, mRm, mn1, mn2, mn3⟩ := id YY
    refine w_if_ne (tgt := 58) C dX10_dry_30 (by rfl) (fun c_30 => ?_) (fun c_30 => ?_)
    · try simp only [cg_ge, cg_gt, cl_gt, cl_le, cl_eq, cl_lt, cl_ge, bi_eq0, bi_ne0, bI_eq0, Decidable.not_not, Bool.not_eq_false] at c_30
      refine w_iconst (v := 0) C dX10_dry_58 (by rfl) ?_
      refine w_iret C M dX10_dry_59 ⟨by decide, by decide⟩ ⟨_, rfl, ?_⟩
      exact Or.inl ⟨fun w => c_8 w.1, rfl, YY.ex⟩
    · exact absurd c_30 (by decide)
  · try simp only [cg_ge, cg_gt, cl_gt, cl_le, cl_eq, cl_lt, cl_ge, bi_eq0, bi_ne0, bI_eq0, Decidable.not_not, Bool.not_eq_false] at c_8
    refine w_iload_n C dX10_dry_11 (by rfl) ?_
    refine w_iconst (v := 1) C dX10_dry_12 (by rfl) ?_
    refine w_bipush (v := (8)) C dX10_dry_13 (by rfl) ?_
    refine cl_X10_44 C (m_X10_isIn hl) (by rfl) (by rfl) ⟨by decide, by decide⟩ (by rfl) dX10_dry_15 (fun z3 h3 p3 => ?_)
    obtain ⟨rfl, rfl⟩ := p3
    refine w_if_ne (tgt := 25) C dX10_dry_18 (by rfl) (fun c_18 => ?_) (fun c_18 => ?_)
    · try simp only [cg_ge, cg_gt, cl_gt, cl_le, cl_eq, cl_lt, cl_ge, bi_eq0, bi_ne0, bI_eq0, Decidable.not_not, Bool.not_eq_false] at c_18
      refine w_iconst (v := 0) C dX10_dry_25 (by rfl) ?_
      refine w_iconst (v := 1) C dX10_dry_26 (by rfl) ?_
      refine cl_X10_88 C (m_X10_startF hl mm) mm (by rfl) (by rfl) ⟨by decide, by decide⟩ (by rfl) dX10_dry_27 (fun z4 h4 p4 => ?_)
      obtain ⟨rfl, p4⟩ := p4
      have YY := YY.me (th2 := 0) (day2 := day) (dmp2 := dmp) (pur2 := pur) (rf2 := rf) p4
      obtain ⟨mm, mL, mk, mw, mCl, mGl, mPt, mOr, mRm, mn1, mn2, mn3⟩ := id YY
      refine w_if_ne (tgt := 58) C dX10_dry_30 (by rfl) (fun c_30 => ?_) (fun c_30 => ?_)
      · exact absurd c_30 (by decide)
      · try simp only [cg_ge, cg_gt, cl_gt, cl_le, cl_eq, cl_lt, cl_ge, bi_eq0, bi_ne0, bI_eq0, Decidable.not_not, Bool.not_eq_false] at c_30
        first | refine w_aload_n C dX10_dry_33 (by rfl) ?_ | refine w_aload_nN C dX10_dry_33 (by rfl) ?_
        first | refine w_aload_n C dX10_dry_34 (by rfl) ?_ | refine w_aload_nN C dX10_dry_34 (by rfl) ?_
        refine gf_X10_131 C mm dX10_dry_35 ?_
        refine w_iload_n C dX10_dry_38 (by rfl) ?_
        refine w_iadd C dX10_dry_39 ?_
        refine w_sipush (v := (200)) C dX10_dry_40 (by rfl) ?_
        refine w_icmp_le (tgt := 50) C dX10_dry_43 (by rfl) (fun c_43 => ?_) (fun c_43 => ?_)
        · have c_43 : ¬ 200 < day + ds := Int32.not_lt.mpr c_43
          refine w_iconst (v := 0) C dX10_dry_50 (by rfl) ?_
          refine w_iconst (v := 2) C dX10_dry_51 (by rfl) ?_
          refine cl_X10_36 C (m_X10_refuseF hl mm) mm (by rfl) (by rfl) ⟨by decide, by decide⟩ (by rfl) dX10_dry_52 (fun z5 h5 p5 => ?_)
          obtain ⟨rfl, rfl⟩ := p5
          refine w_if_eq (tgt := 60) C dX10_dry_55 (by rfl) (fun c_55 => ?_) (fun c_55 => ?_)
          · try simp only [cg_ge, cg_gt, cl_gt, cl_le, cl_eq, cl_lt, cl_ge, bi_eq0, bi_ne0, bI_eq0, Decidable.not_not, Bool.not_eq_false] at c_55
            refine w_iconst (v := 0) C dX10_dry_60 (by rfl) ?_
            refine w_istore_3 C dX10_dry_61 (by first | trivial | rfl) ?_
            obtain ⟨m, hm, rfl⟩ : ∃ m : Nat, (1 ≤ m ∧ m ≤ 20) ∧ ds = nI m := by
              have h1 := Int32.le_iff_toInt_le.mp c_8.1
              have h2 := Int32.le_iff_toInt_le.mp c_8.2
              have e1 : (1 : Int32).toInt = 1 := by decide
              have e20 : (20 : Int32).toInt = 20 := by decide
              obtain ⟨m, hm, rfl⟩ := nI_i (x := ds) (N := 21) (by omega) (by omega)
              rw [nI_toInt (by omega)] at h1 h2
              exact ⟨m, ⟨by omega, by omega⟩, rfl⟩
            refine lp_X10_dry C hl c_18 hn hq hm.2 (fun h8 YY8 => ?_) 0 (by omega) YY
            have YY := YY8
            obtain ⟨mm, mL, mk, mw, mCl, mGl, mPt, mOr, mRm, mn1, mn2, mn3⟩ := id YY
            first | refine w_aload_n C dX10_dry_113 (by rfl) ?_ | refine w_aload_nN C dX10_dry_113 (by rfl) ?_
            refine w_dup C dX10_dry_114 (by rfl) ?_
            refine gf_X10_131 C mm dX10_dry_115 ?_
            refine w_iload_n C dX10_dry_118 (by rfl) ?_
            refine w_iadd C dX10_dry_119 ?_
            refine pf_X10_131 C mm dX10_dry_120 (fun h6 u6 => ?_)
            have mm := u6.self
            have YY := YY.me (th2 := 0) (day2 := day + nI m) (dmp2 := dmp) (pur2 := pur) (rf2 := rf) u6
            obtain ⟨mm, mL, mk, mw, mCl, mGl, mPt, mOr, mRm, mn1, mn2, mn3⟩ := id YY
            first | refine w_aload_n C dX10_dry_123 (by rfl) ?_ | refine w_aload_nN C dX10_dry_123 (by rfl) ?_
            refine w_iconst (v := 1) C dX10_dry_124 (by rfl) ?_
            refine cl_X10_137 C (m_X10_manyIn hl YY hn) mm (by rfl) (by rfl) ⟨by decide, by decide⟩ (by rfl) dX10_dry_125 (fun z7 h7 p7 => ?_)
            obtain ⟨rfl, fr9⟩ := p7
            have YY := YY.fr0 fr9
            rw [cnt_14 hn]
            refine w_iret C M dX10_dry_128 ⟨by decide, by decide⟩ ⟨_, rfl, ?_⟩
            exact Or.inr (Or.inr ⟨⟨c_8, c_18⟩, c_43, m, hm, rfl, rfl, YY.ex⟩)
          · exact absurd c_55 (by decide)
        · have c_43 : 200 < day + ds := Int32.not_le.mp c_43
          refine w_iconst (v := 1) C dX10_dry_46 (by rfl) ?_
          refine w_goto (tgt := 51) C dX10_dry_47 (by rfl) ?_
          refine w_iconst (v := 2) C dX10_dry_51 (by rfl) ?_
          refine cl_X10_36 C (m_X10_refuseT hl mm (by decide)) mm (by rfl) (by rfl) ⟨by decide, by decide⟩ (by rfl) dX10_dry_52 (fun z8 h8 p8 => ?_)
          obtain ⟨rfl, p8⟩ := p8
          have YY := YY.me (th2 := 2) (day2 := day) (dmp2 := dmp) (pur2 := pur) (rf2 := rf) p8
          obtain ⟨mm, mL, mk, mw, mCl, mGl, mPt, mOr, mRm, mn1, mn2, mn3⟩ := id YY
          refine w_if_eq (tgt := 60) C dX10_dry_55 (by rfl) (fun c_55 => ?_) (fun c_55 => ?_)
          · exact absurd c_55 (by decide)
          · try simp only [cg_ge, cg_gt, cl_gt, cl_le, cl_eq, cl_lt, cl_ge, bi_eq0, bi_ne0, bI_eq0, Decidable.not_not, Bool.not_eq_false] at c_55
            refine w_iconst (v := 0) C dX10_dry_58 (by rfl) ?_
            refine w_iret C M dX10_dry_59 ⟨by decide, by decide⟩ ⟨_, rfl, ?_⟩
            exact Or.inr (Or.inl ⟨⟨c_8, c_18⟩, c_43, rfl, YY.ex⟩)
    · try simp only [cg_ge, cg_gt, cl_gt, cl_le, cl_eq, cl_lt, cl_ge, bi_eq0, bi_ne0, bI_eq0, Decidable.not_not, Bool.not_eq_false] at c_18
      refine w_iconst (v := 1) C dX10_dry_21 (by rfl) ?_
      refine w_goto (tgt := 26) C dX10_dry_22 (by rfl) ?_
      refine w_iconst (v := 1) C dX10_dry_26 (by rfl) ?_
      refine cl_X10_88 C (m_X10_startT hl mm (by decide)) mm (by rfl) (by rfl) ⟨by decide, by decide⟩ (by rfl) dX10_dry_27 (fun z9 h9 p9 => ?_)
      obtain ⟨rfl, p9⟩ := p9
      have YY := YY.me (th2 := 1) (day2 := day) (dmp2 := dmp) (pur2 := pur) (rf2 := rf) p9
      obtain ⟨mm, mL, mk, mw, mCl, mGl, mPt, mOr, mRm, mn1, mn2, mn3⟩ := id YY
      refine w_if_ne (tgt := 58) C dX10_dry_30 (by rfl) (fun c_30 => ?_) (fun c_30 => ?_)
      · try simp only [cg_ge, cg_gt, cl_gt, cl_le, cl_eq, cl_lt, cl_ge, bi_eq0, bi_ne0, bI_eq0, Decidable.not_not, Bool.not_eq_false] at c_30
        refine w_iconst (v := 0) C dX10_dry_58 (by rfl) ?_
        refine w_iret C M dX10_dry_59 ⟨by decide, by decide⟩ ⟨_, rfl, ?_⟩
        exact Or.inl ⟨fun w => c_18 w.2, rfl, YY.ex⟩
      · exact absurd c_30 (by decide)
