/-! THE REFERENCE: BURN, SET -/

set_option maxHeartbeats 4000000 in
set_option maxRecDepth 100000 in
theorem lp_X10_burn_in {K : KC} (C : CX K RX10 cX10_burn 7 rm_X10_burn) (hl : (Kl K).stackTraces = false) {q d m : Nat} {m0 kl wk : Nat} {L : Nat → Nat} {E : Nat → Nat} {M : Nat → Int32} {ca : Nat → Nat} {ga : Nat → Nat} {pa : Nat → Nat} {oa : Nat → Nat} {ra : Nat → Nat} {th : Int32} {nC : Nat} {cs : Nat → Int32 × Int32} {nG : Nat} {gs : Nat → GT} {nP : Nat} {pd : Nat → PT} {nO : Nat} {os : Nat → OT} {nR : Nat} {rs : Nat → RT} {k8 k9 : KT} {dmp : Int32} {day : Int32} {pur : Int32} {rf : Int32} (hn : nP ≤ 14) (H8 : Ht (kH k8)) (H9 : Ht (kH k9)) (hS : ∀ i, i < nP → okSh (pd i).2.2) (hW : ∀ i, i < nP → dN (FP.ddiv 4638707616191610880 (FP.i2d (qWl (pd i).2.2)))) (hd : d < 60)
    (kk : ∀ h', Mh (Kt K) m0 kl wk L E M ca ga pa oa ra th nC cs nG gs nP ((sp_each nP (sp_heatp dmp (kH k8) (kH k9)) pd nP)) nO os nR rs k9 dmp day pur rf h' → WW K (d + 1, 4 * d + 4) 127 [some (.ref m0), some (.int (nI m)), some (.int (nI d)), some (.double (kH k8)), none, some (.ref q), none] [] h')
    : ∀ j : Nat, j ≤ nP → ∀ {h : HM} {lr : Int32},  (YY : Mh (Kt K) m0 kl wk L E M ca ga pa oa ra th nC cs nG gs nP ((sp_each nP (sp_heatp dmp (kH k8) (kH k9)) pd j)) nO os nR rs k9 dmp day pur rf h) → (hI : h q = some (itC j lr (M 2) (L 2))) → WW K (d + 1, 4 * d + 4) 56 [some (.ref m0), some (.int (nI m)), some (.int (nI d)), some (.double (kH k8)), none, some (.ref q), none] [] h := by
  refine up_ind ?_
  intro j hj ih h lr YY hI
  obtain ⟨mm, mL, mk, mw, mCl, mGl, mPt, mOr, mRm, mn1, mn2, mn3⟩ := id YY
  first | refine w_aload C dX10_burn_56 (by rfl) ?_ | refine w_aloadN C dX10_burn_56 (by rfl) ?_
  refine w_hasN C hl YY.lp hI hj (by omega) gw_1257 (by rfl) (by rfl) ⟨show d + 1 ≤ 60 by omega, show 4 * d + 4 ≤ 240 by omega⟩ (by rfl) dX10_burn_58 ?_
  refine w_if_eq (tgt := 127) C dX10_burn_63 (by rfl) (fun c_63 => ?_) (fun c_63 => ?_)
  · try simp only [cg_ge, cg_gt, cl_gt, cl_le, cl_eq, cl_lt, cl_ge, bi_eq0, bi_ne0, bI_eq0, Decidable.not_not, Bool.not_eq_false] at c_63
    obtain rfl : j = nP := by omega
    exact kk _ YY
  · try simp only [cg_ge, cg_gt, cl_gt, cl_le, cl_eq, cl_lt, cl_ge, bi_eq0, bi_ne0, bI_eq0, Decidable.not_not, Bool.not_eq_false] at c_63
    have hj3 : j < nP := by assumption
    obtain ⟨cap, hE, hcn, hcap⟩ := YY.ap.get hj3
    first | refine w_aload C dX10_burn_66 (by rfl) ?_ | refine w_aloadN C dX10_burn_66 (by rfl) ?_
    refine w_next C hl YY.lp hI hE hj3 hcn hcap (row9_i hj3) gw_1267 (by rfl) (by rfl) ⟨show d + 1 ≤ 60 by omega, show 4 * d + 4 ≤ 240 by omega⟩ (by rfl) dX10_burn_68 (fun h9 u9 => ?_)
    have YY := YY.it hI u9
    have hI := u9.self
    obtain ⟨mm, mL, mk, mw, mCl, mGl, mPt, mOr, mRm, mn1, mn2, mn3⟩ := id YY
    have hpj := mPt j hj3
    rw [each_at] at hpj
    refine w_castS C hpj (r := (RX9, TX9, 12)) rfl gw_1152 dX10_burn_73 ?_
    first | refine w_astore_6 C dX10_burn_76 (by first | trivial | rfl) ?_ | refine w_astore_6N C dX10_burn_76 (by first | trivial | rfl) ?_
    first | refine w_aload C dX10_burn_78 (by rfl) ?_ | refine w_aloadN C dX10_burn_78 (by rfl) ?_
    refine gf_X10_150 C hpj dX10_burn_80 ?_
    refine w_iconst (v := (-1)) C dX10_burn_83 (by rfl) ?_
    refine w_icmp_eq (tgt := 124) C dX10_burn_84 (by rfl) (fun c_84 => ?_) (fun c_84 => ?_)
    · have YY9 := YY
      rw [each_nn (g := sp_heatp dmp (kH k8) (kH k9)) (if_pos c_84)] at YY9
      refine w_goto (tgt := 56) C dX10_burn_124 (by rfl) ?_
      exact w_sub (ih hj3 YY9 hI) (by repeat' first | exact trivial | rfl | constructor)
    · obtain ⟨s, hs, es⟩ := (hS j hj3).resolve_left c_84
      have e8 : sp_heatp dmp (kH k8) (kH k9) (pd j) = ((pd j).1, (pd j).2.1, sp_feel (sp_hot s (kH k8)) (sp_hot s (kH k9)) (decide (3 ≤ dmp)) (pd j).2.2) := by
        unfold sp_heatp
        rw [if_neg c_84, es, nI_clamp (by omega)]
      first | refine w_aload C dX10_burn_87 (by rfl) ?_ | refine w_aloadN C dX10_burn_87 (by rfl) ?_
      refine w_dload_n C dX10_burn_89 (by rfl) ?_
      refine w_gets C (cx_sw C).2.2.1.1 gw_1430 dX10_burn_90 ?_
      first | refine w_aload C dX10_burn_93 (by rfl) ?_ | refine w_aloadN C dX10_burn_93 (by rfl) ?_
      refine gf_X10_150 C hpj dX10_burn_95 ?_
      rw [es]
      refine w_tdaldn C (cx_sw C).2.2.1.2 hs (by decide) dX10_burn_98 ?_
      refine w_dadd C dX10_burn_99 (by rw [hot_near H8 hs]; exact nn_of (hot_ok H8 s).1.n) ?_
      rw [hot_near H8 hs]
      first | refine w_aload_n C dX10_burn_100 (by rfl) ?_ | refine w_aload_nN C dX10_burn_100 (by rfl) ?_
      refine gf_X10_28 C mm dX10_burn_101 ?_
      refine gf_X10_52 C mk dX10_burn_104 ?_
      refine w_gets C (cx_sw C).2.2.1.1 gw_1430 dX10_burn_107 ?_
      first | refine w_aload C dX10_burn_110 (by rfl) ?_ | refine w_aloadN C dX10_burn_110 (by rfl) ?_
      refine gf_X10_150 C hpj dX10_burn_112 ?_
      rw [es]
      refine w_tdaldn C (cx_sw C).2.2.1.2 hs (by decide) dX10_burn_115 ?_
      refine w_dadd C dX10_burn_116 (by rw [hot_near H9 hs]; exact nn_of (hot_ok H9 s).1.n) ?_
      rw [hot_near H9 hs]
      first | refine w_aload_n C dX10_burn_117 (by rfl) ?_ | refine w_aload_nN C dX10_burn_117 (by rfl) ?_
      refine gf_X10_211 C mm dX10_burn_118 ?_
      refine cl_X10_214 C (m_X9_burn hl hpj (hot_ok H8 s).1 (hot_ok H9 s).1 (hW j hj3)) hpj (by rfl) (by rfl) ⟨show d + 1 + 0 ≤ 60 by omega, show 4 * d + 4 + 0 ≤ 240 by omega⟩ (by rfl) dX10_burn_121 (fun h1 p1 => ?_)
      have hI := p1.oth hI hpj (by intro v; simp at v)
      have YY9 := YY.pot hj3 (p := sp_heatp dmp (kH k8) (kH k9) (pd j)) (p1.to (by rw [e8]; rfl))
      rw [each_s _ _ hj3] at YY9
      refine w_goto (tgt := 56) C dX10_burn_124 (by rfl) ?_
      exact w_sub (ih hj3 YY9 hI) (by repeat' first | exact trivial | rfl | constructor)

set_option maxHeartbeats 4000000 in
set_option maxRecDepth 100000 in
theorem lp_X10_burn {K : KC} (C : CX K RX10 cX10_burn 7 rm_X10_burn) (hl : (Kl K).stackTraces = false) {m : Nat} {m0 kl wk : Nat} {L : Nat → Nat} {E : Nat → Nat} {M : Nat → Int32} {ca : Nat → Nat} {ga : Nat → Nat} {pa : Nat → Nat} {oa : Nat → Nat} {ra : Nat → Nat} {th : Int32} {nC : Nat} {cs : Nat → Int32 × Int32} {nG : Nat} {gs : Nat → GT} {nP : Nat} {ps : Nat → PT} {nO : Nat} {os : Nat → OT} {nR : Nat} {rs : Nat → RT} {k : KT} {dmp : Int32} {day : Int32} {pur : Int32} {rf : Int32} (hn : nP ≤ 14) (hk : okk k) (hL : okL nR k) (hRr : okR9 nR rs) (hS : ∀ i, i < nP → okSh (ps i).2.2) (hW : ∀ i, i < nP → dN (FP.ddiv 4638707616191610880 (FP.i2d (qWl (ps i).2.2)))) (hm : m ≤ 60)
    (kk : ∀ h', Mh (Kt K) m0 kl wk L E M ca ga pa oa ra th nC cs nG gs nP (sp_bps nR rs k dmp nP ps m) nO os nR rs (sp_run nR rs k m) dmp day pur rf h' → WW K (60, 240) 133 [some (.ref m0), some (.int (nI m)), some (.int (nI m)), none, none, none, none] [] h')
    : ∀ j : Nat, j ≤ m → ∀ {h : HM},  (YY : Mh (Kt K) m0 kl wk L E M ca ga pa oa ra th nC cs nG gs nP (sp_bps nR rs k dmp nP ps j) nO os nR rs (sp_run nR rs k j) dmp day pur rf h) → WW K (j, 4 * j) 27 [some (.ref m0), some (.int (nI m)), some (.int (nI j)), none, none, none, none] [] h := by
  refine up_ind ?_
  intro j hj ih h YY
  obtain ⟨mm, mL, mk, mw, mCl, mGl, mPt, mOr, mRm, mn1, mn2, mn3⟩ := id YY
  refine w_iload_n C dX10_burn_27 (by rfl) ?_
  refine w_iload_n C dX10_burn_28 (by rfl) ?_
  refine w_icmp_ge (tgt := 133) C dX10_burn_29 (by rfl) (fun c_29 => ?_) (fun c_29 => ?_)
  · have e3 : ¬ j < m := fun q => nI_ge q (by omega) c_29
    obtain rfl : j = m := by omega
    refine w_widen (kk _ YY) (by show j ≤ 60; omega) (by show 4 * j ≤ 240; omega)
  · have hj3 : j < m := Nat.not_le.mp (fun q => c_29 (nI_le (a := m) q (by omega)))
    obtain ⟨hk9, hL9⟩ := run_ok hk hL hRr j
    have hk8 := (run_ok hk hL hRr (j + 1)).1
    first | refine w_aload_n C dX10_burn_32 (by rfl) ?_ | refine w_aload_nN C dX10_burn_32 (by rfl) ?_
    refine gf_X10_28 C mm dX10_burn_33 ?_
    refine gf_X10_52 C mk dX10_burn_36 ?_
    refine w_dstore_3 C dX10_burn_39 (by first | trivial | rfl) ?_
    first | refine w_aload_n C dX10_burn_40 (by rfl) ?_ | refine w_aload_nN C dX10_burn_40 (by rfl) ?_
    refine gf_X10_28 C mm dX10_burn_41 ?_
    refine cl_X10_204 C (m_X8_step hl mk YY.lr YY.ar mRm hRr.1 hL9 mw hk9 hRr) mk (by rfl) (by rfl) ⟨show j + 0 ≤ 60 by omega, show 4 * j + 0 ≤ 240 by omega⟩ (by rfl) dX10_burn_44 (fun h1 p1 => ?_)
    obtain ⟨g1, g2, fr1⟩ := p1
    have YY := YY.kiln (k2 := sp_run nR rs k (j + 1)) g1 g2 fr1
    obtain ⟨mm, mL, mk, mw, mCl, mGl, mPt, mOr, mRm, mn1, mn2, mn3⟩ := id YY
    first | refine w_aload_n C dX10_burn_47 (by rfl) ?_ | refine w_aload_nN C dX10_burn_47 (by rfl) ?_
    refine gf_X10_19 C mm dX10_burn_48 ?_
    refine cl_X10_110 C (m_Jx4a65c_iterator_32c93 hl YY.lp) YY.lp (by rfl) (by rfl) ⟨show j + 0 + 1 ≤ 60 by omega, show 4 * j + 0 + 4 ≤ 240 by omega⟩ (by rfl) dX10_burn_51 (fun z2 h2 p2 => ?_)
    obtain ⟨q, rfl, nq, uq⟩ := p2
    first | refine w_astore_5 C dX10_burn_54 (by first | trivial | rfl) ?_ | refine w_astore_5N C dX10_burn_54 (by first | trivial | rfl) ?_
    refine lp_X10_burn_in (d := j) C hl hn hk9.1 hk8.1 (fun i hi => by have := (bps_sh nR rs k dmp nP ps i j).1; unfold okSh; rw [this]; exact hS i hi) (fun i hi => by rw [(bps_sh nR rs k dmp nP ps i j).2]; exact hW i hi) (by omega) (fun h8 YY8 => ?_) 0 (by omega) (lr := -1) (by rw [each_0]; exact YY.fr0 (uq.frN nq)) uq.self
    have YY9 : Mh (Kt K) m0 kl wk L E M ca ga pa oa ra th nC cs nG gs nP (sp_bps nR rs k dmp nP ps (j + 1)) nO os nR rs (sp_run nR rs k (j + 1)) dmp day pur rf h8 := by rw [each_14 _ _ hn] at YY8; exact YY8
    refine w_iinc_2 (v := _ + (1)) C dX10_burn_127 (by rfl) (by first | trivial | rfl) ?_
    refine w_goto (tgt := 27) C dX10_burn_130 (by rfl) ?_
    rw [nI_1 j]
    exact w_sub (ih hj3 YY9) (by repeat' first | exact trivial | rfl | constructor)

set_option maxHeartbeats 4000000 in
set_option maxRecDepth 100000 in
theorem m_X10_burn {l : Launch} {D : va_G} {tc : Nat → ClassId} (hl : l.stackTraces = false) {h : HM} {m0 kl wk : Nat} {L : Nat → Nat} {E : Nat → Nat} {M : Nat → Int32} {ca : Nat → Nat} {ga : Nat → Nat} {pa : Nat → Nat} {oa : Nat → Nat} {ra : Nat → Nat} {th : Int32} {nC : Nat} {cs : Nat → Int32 × Int32} {nG : Nat} {gs : Nat → GT} {nP : Nat} {ps : Nat → PT} {nO : Nat} {os : Nat → OT} {nR : Nat} {rs : Nat → RT} {k : KT} {dmp : Int32} {day : Int32} {pur : Int32} {rf : Int32} (YY : Mh tc m0 kl wk L E M ca ga pa oa ra th nC cs nG gs nP ps nO os nR rs k dmp day pur rf h) (hn : nP ≤ 14) (hk : okk k) (hL : okL nR k) (hRr : okR9 nR rs) (hS : ∀ i, i < nP → okSh (ps i).2.2) (hW : ∀ i, i < nP → dN (FP.ddiv 4638707616191610880 (FP.i2d (qWl (ps i).2.2)))) {st : Int32} :
    CT l D tc yX10_burn cX10_burn 7 (some FieldType.boolean) rm_X10_burn [.ref m0, .int st] h (rI (fun z h' => (¬ (1 ≤ st ∧ st ≤ 60) ∧ z = 0 ∧ MhE tc m0 kl wk 1 nC cs nG gs nP ps nO os nR rs k dmp day pur rf h') ∨ (∃ m, (1 ≤ m ∧ m ≤ 60) ∧ st = nI m ∧ z = bi (kL (sp_run nR rs k m)) ∧ MhE tc m0 kl wk 0 nC cs nG gs nP (sp_bps nR rs k dmp nP ps m) nO os nR rs (sp_run nR rs k m) dmp day pur rf h'))) := by
  refine CT.start [some (.ref m0), some (.int st), none, none, none, none, none] (by decide) hl rfl rfl (fun K C M => ?_)
  obtain ⟨rfl, rfl, rfl, -⟩ := id M
  have C : CX K RX10 cX10_burn 7 rm_X10_burn := C
  obtain ⟨mm, mL, mk, mw, mCl, mGl, mPt, mOr, mRm, mn1, mn2, mn3⟩ := id YY
  first | refine w_aload_n C dX10_burn_0 (by rfl) ?_ | refine w_aload_nN C dX10_burn_0 (by rfl) ?_
  refine w_iload_n C dX10_burn_1 (by rfl) ?_
  refine w_iconst (v := 1) C dX10_burn_2 (by rfl) ?_
  refine w_bipush (v := (60)) C dX10_burn_3 (by rfl) ?_
  refine cl_X10_44 C (m_X10_isIn hl) (by rfl) (by rfl) ⟨by decide, by decide⟩ (by rfl) dX10_burn_5 (fun z1 h1 p1 => ?_)
  obtain ⟨rfl, rfl⟩ := p1
  refine w_if_ne (tgt := 15) C dX10_burn_8 (by rfl) (fun c_8 => ?_) (fun c_8 => ?_)
  · try simp only [cg_ge, cg_gt, cl_gt, cl_le, cl_eq, cl_lt, cl_ge, bi_eq0, bi_ne0, bI_eq0, Decidable.not_not, Bool.not_eq_false] at c_8
    refine w_iconst (v := 0) C dX10_burn_15 (by rfl) ?_
    refine w_iconst (v := 1) C dX10_burn_16 (by rfl) ?_
    refine cl_X10_88 C (m_X10_startF hl mm) mm (by rfl) (by rfl) ⟨by decide, by decide⟩ (by rfl) dX10_burn_17 (fun z2 h2 p2 => ?_)
    obtain ⟨rfl, p2⟩ := p2
    have YY := YY.me (th2 := 0) (day2 := day) (dmp2 := dmp) (pur2 := pur) (rf2 := rf) p2
    obtain ⟨mm, mL, mk, mw, mCl, mGl, mPt, mOr, mRm, mn1, mn2, mn3⟩ := id YY
    refine w_if_eq (tgt := 25) C dX10_burn_20 (by rfl) (fun c_20 => ?_) (fun c_20 => ?_)
    · try simp only [cg_ge, cg_gt, cl_gt, cl_le, cl_eq, cl_lt, cl_ge, bi_eq0, bi_ne0, bI_eq0, Decidable.not_not, Bool.not_eq_false] at c_20
      refine w_iconst (v := 0) C dX10_burn_25 (by rfl) ?_
      refine w_istore_2 C dX10_burn_26 (by first | trivial | rfl) ?_
      obtain ⟨m, hm, rfl⟩ : ∃ m : Nat, (1 ≤ m ∧ m ≤ 60) ∧ st = nI m := by
        have h1 := Int32.le_iff_toInt_le.mp c_8.1
        have h2 := Int32.le_iff_toInt_le.mp c_8.2
        have e1 : (1 : Int32).toInt = 1 := by decide
        have e60 : (60 : Int32).toInt = 60 := by decide
        obtain ⟨m, hm, rfl⟩ := nI_i (x := st) (N := 61) (by omega) (by omega)
        rw [nI_toInt (by omega)] at h1 h2
        exact ⟨m, ⟨by omega, by omega⟩, rfl⟩
      refine lp_X10_burn C hl hn hk hL hRr hS hW hm.2 (fun h8 YY8 => ?_) 0 (by omega) YY
      have YY := YY8
      obtain ⟨mm, mL, mk, mw, mCl, mGl, mPt, mOr, mRm, mn1, mn2, mn3⟩ := id YY
      first | refine w_aload_n C dX10_burn_133 (by rfl) ?_ | refine w_aload_nN C dX10_burn_133 (by rfl) ?_
      refine gf_X10_28 C mm dX10_burn_134 ?_
      refine gf_X10_48 C mk dX10_burn_137 ?_
      refine w_zret C M dX10_burn_140 ⟨by decide, by decide⟩ (nar01 (bi_01 _)) ⟨_, rfl, ?_⟩
      exact Or.inr ⟨m, hm, rfl, rfl, YY.ex⟩
    · exact absurd c_20 (by decide)
  · try simp only [cg_ge, cg_gt, cl_gt, cl_le, cl_eq, cl_lt, cl_ge, bi_eq0, bi_ne0, bI_eq0, Decidable.not_not, Bool.not_eq_false] at c_8
    refine w_iconst (v := 1) C dX10_burn_11 (by rfl) ?_
    refine w_goto (tgt := 16) C dX10_burn_12 (by rfl) ?_
    refine w_iconst (v := 1) C dX10_burn_16 (by rfl) ?_
    refine cl_X10_88 C (m_X10_startT hl mm (by decide)) mm (by rfl) (by rfl) ⟨by decide, by decide⟩ (by rfl) dX10_burn_17 (fun z3 h3 p3 => ?_)
    obtain ⟨rfl, p3⟩ := p3
    have YY := YY.me (th2 := 1) (day2 := day) (dmp2 := dmp) (pur2 := pur) (rf2 := rf) p3
    obtain ⟨mm, mL, mk, mw, mCl, mGl, mPt, mOr, mRm, mn1, mn2, mn3⟩ := id YY
    refine w_if_eq (tgt := 25) C dX10_burn_20 (by rfl) (fun c_20 => ?_) (fun c_20 => ?_)
    · exact absurd c_20 (by decide)
    · try simp only [cg_ge, cg_gt, cl_gt, cl_le, cl_eq, cl_lt, cl_ge, bi_eq0, bi_ne0, bI_eq0, Decidable.not_not, Bool.not_eq_false] at c_20
      refine w_iconst (v := 0) C dX10_burn_23 (by rfl) ?_
      refine w_zret C M dX10_burn_24 ⟨by decide, by decide⟩ (nar01 (Or.inl rfl)) ⟨_, rfl, ?_⟩
      exact Or.inl ⟨c_8, rfl, YY.ex⟩

/-- a cell of those that a pot would take is taken, or it was bad before -/
def sp_sb (b0 : Bool) (nP : Nat) (ps : Nat → PT) (s ce : Int32) : Nat → Bool
  | 0 => b0
  | j + 1 => sp_sb b0 nP ps s ce j || sp_any nP ps s (ce + nI j) nP
theorem sb_mono {b0 : Bool} {nP : Nat} {ps : Nat → PT} {s ce : Int32} {j : Nat} (h : sp_sb b0 nP ps s ce j = true) : ∀ d, sp_sb b0 nP ps s ce (j + d) = true
  | 0 => h
  | d + 1 => by show (sp_sb b0 nP ps s ce (j + d) || _) = true; rw [sb_mono h d, Bool.true_or]
theorem sb_t {nP : Nat} {ps : Nat → PT} {s ce : Int32} {j : Nat} : sp_sb true nP ps s ce j = true := by
  have := sb_mono (b0 := true) (nP := nP) (ps := ps) (s := s) (ce := ce) (j := 0) rfl j
  rwa [Nat.zero_add] at this
theorem sb_n {b0 : Bool} {nP : Nat} {ps : Nat → PT} {s ce : Int32} {j : Nat} (h : sp_sb b0 nP ps s ce j = false) : sp_any nP ps s (ce + nI j) nP = sp_sb b0 nP ps s ce (j + 1) := by
  show _ = (sp_sb b0 nP ps s ce j || _)
  rw [h, Bool.false_or]
/-- what lets a pot be set, its cells aside -/
def sp_pre (k : KT) (s ce : Int32) (q : QT) : Prop := ¬ (kL k = true ∨ dge (kH k) 4636737291354636288) ∧ (qSt q = 0 ∨ qSt q = 1 ∨ qSt q = 3) ∧ qSh q = -1 ∧ qHg q ≤ (if s = 2 then 2 else 3) ∧ ce + qWd q ≤ 10

set_option maxHeartbeats 4000000 in
set_option maxRecDepth 100000 in
theorem lp_X10_set {K : KC} (C : CX K RX10 cX10_set 7 rm_X10_set) (hl : (Kl K).stackTraces = false) {h0 : HM} {m0 kl wk : Nat} {L : Nat → Nat} {E : Nat → Nat} {M : Nat → Int32} {ca : Nat → Nat} {ga : Nat → Nat} {pa : Nat → Nat} {oa : Nat → Nat} {ra : Nat → Nat} {th : Int32} {nC : Nat} {cs : Nat → Int32 × Int32} {nG : Nat} {gs : Nat → GT} {nP : Nat} {ps : Nat → PT} {nO : Nat} {os : Nat → OT} {nR : Nat} {rs : Nat → RT} {k : KT} {dmp : Int32} {day : Int32} {pur : Int32} {rf : Int32} {b0 : Bool} {j0 w : Nat} {s ce i : Int32} (YY0 : Mh (Kt K) m0 kl wk L E M ca ga pa oa ra th nC cs nG gs nP ps nO os nR rs k dmp day pur rf h0) (hn : nP ≤ 14) (hj0 : j0 < nP) (hw : qWd (ps j0).2.2 = nI w) (hw5 : w ≤ 5)
    (kk : ∀ h' jj, Fr [] h0 h' → WW K (5, 20) 161 [some (.ref m0), some (.int i), some (.int s), some (.int ce), some (.ref (pa j0)), some (.int (bi (sp_sb b0 nP ps s ce w))), some (.int (nI jj))] [] h')
    : ∀ j : Nat, j ≤ w → ∀ {h : HM},  (fr : Fr [] h0 h) → WW K (j, 4 * j) 129 [some (.ref m0), some (.int i), some (.int s), some (.int ce), some (.ref (pa j0)), some (.int (bi (sp_sb b0 nP ps s ce j))), some (.int (nI j))] [] h := by
  refine up_ind ?_
  intro j hj ih h fr
  have YY := YY0.fr0 fr
  obtain ⟨mm, mL, mk, mw, mCl, mGl, mPt, mOr, mRm, mn1, mn2, mn3⟩ := id YY
  have hpj := mPt j0 hj0
  refine w_iload C dX10_set_129 (by rfl) ?_
  first | refine w_aload C dX10_set_131 (by rfl) ?_ | refine w_aloadN C dX10_set_131 (by rfl) ?_
  refine gf_X10_156 C hpj dX10_set_133 ?_
  rw [hw]
  refine w_icmp_ge (tgt := 161) C dX10_set_136 (by rfl) (fun c_136 => ?_) (fun c_136 => ?_)
  · have e3 : ¬ j < w := fun q => nI_ge q (by omega) c_136
    obtain rfl : j = w := by omega
    have fin : sp_sb b0 nP ps s ce j = sp_sb b0 nP ps s ce j := rfl
    rw [fin]
    refine w_widen (kk _ _ fr) (by show j ≤ 5; omega) (by show 4 * j ≤ 20; omega)
  · have hj3 : j < w := Nat.not_le.mp (fun q => c_136 (nI_le (a := w) q (by omega)))
    refine w_iload C dX10_set_139 (by rfl) ?_
    refine w_if_ne (tgt := 161) C dX10_set_141 (by rfl) (fun c_141 => ?_) (fun c_141 => ?_)
    · try simp only [cg_ge, cg_gt, cl_gt, cl_le, cl_eq, cl_lt, cl_ge, bi_eq0, bi_ne0, bI_eq0, Decidable.not_not, Bool.not_eq_false] at c_141
      have fin : sp_sb b0 nP ps s ce j = sp_sb b0 nP ps s ce w := by
        have := sb_mono c_141 (w - j)
        rw [show j + (w - j) = w by omega] at this
        rw [c_141, this]
      rw [fin]
      refine w_widen (kk _ _ fr) (by show j ≤ 5; omega) (by show 4 * j ≤ 20; omega)
    · try simp only [cg_ge, cg_gt, cl_gt, cl_le, cl_eq, cl_lt, cl_ge, bi_eq0, bi_ne0, bI_eq0, Decidable.not_not, Bool.not_eq_false] at c_141
      first | refine w_aload_n C dX10_set_144 (by rfl) ?_ | refine w_aload_nN C dX10_set_144 (by rfl) ?_
      refine w_iload_n C dX10_set_145 (by rfl) ?_
      refine w_iload_n C dX10_set_146 (by rfl) ?_
      refine w_iload C dX10_set_147 (by rfl) ?_
      refine w_iadd C dX10_set_149 ?_
      refine cl_X10_159 C (m_X10_isTaken hl YY hn) mm (by rfl) (by rfl) ⟨show j + 1 ≤ 15 by omega, show 4 * j + 4 ≤ 60 by omega⟩ (by rfl) dX10_set_150 (fun z1 h1 p1 => ?_)
      obtain ⟨rfl, fr9⟩ := p1
      have fr := fr.tr fr9
      rw [sb_n c_141]
      refine w_istore_5 C dX10_set_153 (by first | trivial | rfl) ?_
      refine w_iinc_6 (v := _ + (1)) C dX10_set_155 (by rfl) (by first | trivial | rfl) ?_
      refine w_goto (tgt := 129) C dX10_set_158 (by rfl) ?_
      rw [nI_1 j]
      refine w_widen (n' := (j + 1, 4 * (j + 1))) ?_ (show j + 1 ≤ j + 1 by omega) (show 4 * j + 4 ≤ 4 * (j + 1) by omega)
      exact w_sub (ih hj3 fr) (by repeat' first | exact trivial | rfl | constructor)

set_option maxHeartbeats 4000000 in
set_option maxRecDepth 100000 in
theorem sg_X10_set {K : KC} (C : CX K RX10 cX10_set 7 rm_X10_set) (hl : (Kl K).stackTraces = false) {h : HM} {m0 kl wk : Nat} {L : Nat → Nat} {E : Nat → Nat} {M : Nat → Int32} {ca : Nat → Nat} {ga : Nat → Nat} {pa : Nat → Nat} {oa : Nat → Nat} {ra : Nat → Nat} {th : Int32} {nC : Nat} {cs : Nat → Int32 × Int32} {nG : Nat} {gs : Nat → GT} {nP : Nat} {ps : Nat → PT} {nO : Nat} {os : Nat → OT} {nR : Nat} {rs : Nat → RT} {k : KT} {dmp : Int32} {day : Int32} {pur : Int32} {rf : Int32} {b0 : Bool} {j0 w : Nat} {s ce i : Int32} (YY : Mh (Kt K) m0 kl wk L E M ca ga pa oa ra 0 nC cs nG gs nP ps nO os nR rs k dmp day pur rf h) (hn : nP ≤ 14) (hj0 : j0 < nP) (hw : qWd (ps j0).2.2 = nI w) (hw5 : w ≤ 5) {h9 : HM} {P : Int32 → HM → Prop} (M9 : MX K (KD K) (Kt K) (Kl K) rm_X10_set (some FieldType.int) h9 (rI P) yX10_set.name) (f1 : sp_sb b0 nP ps s ce w = true → ∀ h', MhE (Kt K) m0 kl wk 2 nC cs nG gs nP ps nO os nR rs k dmp day pur rf h' → P 0 h') (f2 : sp_sb b0 nP ps s ce w = false → ∀ h', MhE (Kt K) m0 kl wk 0 nC cs nG gs nP ((vf_upd ps j0 (sp_setp s ce (ps j0)))) nO os nR rs k dmp day pur rf h' → P (sp_cnt (fun x => !sp_any nP (vf_upd ps j0 (sp_setp s ce (ps j0))) s (nI x) nP) 10) h') : WW K (0, 0) 126 [some (.ref m0), some (.int i), some (.int s), some (.int ce), some (.ref (pa j0)), some (.int (bi b0)), none] [] h := by
  refine w_iconst (v := 0) C dX10_set_126 (by rfl) ?_
  refine w_istore_6 C dX10_set_127 (by first | trivial | rfl) ?_
  refine lp_X10_set C hl YY hn hj0 hw hw5 (fun h8 jj fr8 => ?_) 0 (by omega) Fr.rfl9
  have YY := YY.fr0 fr8
  obtain ⟨mm, mL, mk, mw, mCl, mGl, mPt, mOr, mRm, mn1, mn2, mn3⟩ := id YY
  have M := M9
  have hpj := mPt j0 hj0
  first | refine w_aload_n C dX10_set_161 (by rfl) ?_ | refine w_aload_nN C dX10_set_161 (by rfl) ?_
  refine w_iload C dX10_set_162 (by rfl) ?_
  refine w_iconst (v := 2) C dX10_set_164 (by rfl) ?_
  cases hb5 : sp_sb b0 nP ps s ce w
  · rw [bi_f]
    refine cl_X10_36 C (m_X10_refuseF hl mm) mm (by rfl) (by rfl) ⟨by decide, by decide⟩ (by rfl) dX10_set_165 (fun z1 h1 p1 => ?_)
    obtain ⟨rfl, rfl⟩ := p1
    refine w_if_eq (tgt := 173) C dX10_set_168 (by rfl) (fun c_168 => ?_) (fun c_168 => ?_)
    · try simp only [cg_ge, cg_gt, cl_gt, cl_le, cl_eq, cl_lt, cl_ge, bi_eq0, bi_ne0, bI_eq0, Decidable.not_not, Bool.not_eq_false] at c_168
      have hpj := mPt j0 hj0
      have hpq := hpj
      first | refine w_aload C dX10_set_173 (by rfl) ?_ | refine w_aloadN C dX10_set_173 (by rfl) ?_
      refine w_iload_n C dX10_set_175 (by rfl) ?_
      refine pf_X10_150 C hpj dX10_set_176 (fun h2 u2 => ?_)
      have hpj := u2.self
      have u176 := u2
      first | refine w_aload C dX10_set_179 (by rfl) ?_ | refine w_aloadN C dX10_set_179 (by rfl) ?_
      refine w_iload_n C dX10_set_181 (by rfl) ?_
      refine pf_X10_153 C hpj dX10_set_182 (fun h3 u3 => ?_)
      have hpj := u3.self
      have YY := YY.pot hj0 (p := sp_setp s ce (ps j0)) (u176.tr u3)
      obtain ⟨mm, mL, mk, mw, mCl, mGl, mPt, mOr, mRm, mn1, mn2, mn3⟩ := id YY
      first | refine w_aload_n C dX10_set_185 (by rfl) ?_ | refine w_aload_nN C dX10_set_185 (by rfl) ?_
      refine w_iload_n C dX10_set_186 (by rfl) ?_
      refine cl_X10_179 C (m_X10_free hl YY hn) mm (by rfl) (by rfl) ⟨by decide, by decide⟩ (by rfl) dX10_set_187 (fun z4 h4 p4 => ?_)
      obtain ⟨rfl, fr9⟩ := p4
      have YY := YY.fr0 fr9
      refine w_iret C M dX10_set_190 ⟨by decide, by decide⟩ ⟨_, rfl, ?_⟩
      exact f2 hb5 _ YY.ex
    · exact absurd c_168 (by decide)
  · rw [bi_t]
    refine cl_X10_36 C (m_X10_refuseT hl mm (by decide)) mm (by rfl) (by rfl) ⟨by decide, by decide⟩ (by rfl) dX10_set_165 (fun z5 h5 p5 => ?_)
    obtain ⟨rfl, p5⟩ := p5
    have YY := YY.me (th2 := 2) (day2 := day) (dmp2 := dmp) (pur2 := pur) (rf2 := rf) p5
    obtain ⟨mm, mL, mk, mw, mCl, mGl, mPt, mOr, mRm, mn1, mn2, mn3⟩ := id YY
    refine w_if_eq (tgt := 173) C dX10_set_168 (by rfl) (fun c_168 => ?_) (fun c_168 => ?_)
    · exact absurd c_168 (by decide)
    · try simp only [cg_ge, cg_gt, cl_gt, cl_le, cl_eq, cl_lt, cl_ge, bi_eq0, bi_ne0, bI_eq0, Decidable.not_not, Bool.not_eq_false] at c_168
      refine w_iconst (v := 0) C dX10_set_171 (by rfl) ?_
      refine w_iret C M dX10_set_172 ⟨by decide, by decide⟩ ⟨_, rfl, ?_⟩
      exact f1 hb5 _ YY.ex
