/-! THE REFERENCE: BEST, DIGEST -/
theorem best_4 {gs : Nat → GT} {kg : UInt64} {cone : Int32} {nG : Nat} (h : nG ≤ 4) : sp_best gs kg cone nG nG = sp_best gs kg cone nG 4 := by
  have : ∀ d, sp_best gs kg cone nG (nG + d) = sp_best gs kg cone nG nG := by
    intro d
    induction d with
    | zero => rfl
    | succ d ih => exact (best_no (fun w => absurd w.1 (Nat.not_lt.mpr (Nat.le_add_right nG d)))).trans ih
  have := this (4 - nG)
  rw [show nG + (4 - nG) = 4 by omega] at this
  exact this.symm
theorem d2l_i2d (a : Int32) : FP.d2l (FP.i2d a) = a.toInt64 := FP.Core.d2l_int (a := a.toInt64) (by rw [Int32.toInt_toInt64]; exact FP.Core.i2d_int a)
theorem f64_n {p : UInt32} (h : FP.Core.FFin p) : vf_n32 (FP.fmul 1115684864 p) := fnn_of (fN_of (FP.Core.fmul_out ((FP.Core.fin_bits32 _).mpr (by decide)) h))
theorem wat_l {q : QT} (h : okq q) : FP.Core.FFin (qWa q) ∧ FP.f2l (FP.fmul 1115684864 (qWa q)) = FP.d2l (FP.dmul 4634204016564240384 (FP.f2d (qWa q))) := by
  obtain ⟨⟨n, hn, e⟩, -⟩ := h
  rw [e]
  exact ⟨wt_n hn, (wt_cmp ⟨n, by omega⟩).2.2.2⟩

set_option maxHeartbeats 4000000 in
set_option maxRecDepth 100000 in
theorem m_X10_best {l : Launch} {D : va_G} {tc : Nat → ClassId} (hl : l.stackTraces = false) {h : HM} {m0 kl wk : Nat} {L : Nat → Nat} {E : Nat → Nat} {M : Nat → Int32} {ca : Nat → Nat} {ga : Nat → Nat} {pa : Nat → Nat} {oa : Nat → Nat} {ra : Nat → Nat} {th : Int32} {nC : Nat} {cs : Nat → Int32 × Int32} {nG : Nat} {gs : Nat → GT} {nP : Nat} {ps : Nat → PT} {nO : Nat} {os : Nat → OT} {nR : Nat} {rs : Nat → RT} {k : KT} {dmp : Int32} {day : Int32} {pur : Int32} {rf : Int32} (YY : Mh tc m0 kl wk L E M ca ga pa oa ra th nC cs nG gs nP ps nO os nR rs k dmp day pur rf h) (bC : nC ≤ 3) (bG : nG ≤ 4) (hcl : okCl nC cs) (hgz : ∀ i, i < nG → glzOk (gs i)) {cl cone : Int32} :
    CT l D tc yX10_best cX10_best 7 (some FieldType.int) rm_X10_best [.ref m0, .int cl, .int cone] h (rI (fun z h' => (out9 cl nC ∧ z = 0 ∧ MhE tc m0 kl wk 1 nC cs nG gs nP ps nO os nR rs k dmp day pur rf h') ∨ (∃ c, c < nC ∧ cl = nI c ∧ ((¬ (1 ≤ cone ∧ cone ≤ 12) ∧ z = 0 ∧ MhE tc m0 kl wk 2 nC cs nG gs nP ps nO os nR rs k dmp day pur rf h') ∨ ((1 ≤ cone ∧ cone ≤ 12) ∧ z = bestI (sp_best gs (sp_cg (cs c).2) cone nG 4) ∧ MhE tc m0 kl wk 0 nC cs nG gs nP ps nO os nR rs k dmp day pur rf h'))))) := by
  refine CT.start [some (.ref m0), some (.int cl), some (.int cone), none, none, none, none] (by decide) hl rfl rfl (fun K C M => ?_)
  obtain ⟨rfl, rfl, rfl, -⟩ := id M
  have C : CX K RX10 cX10_best 7 rm_X10_best := C
  obtain ⟨mm, mL, mk, mw, mCl, mGl, mPt, mOr, mRm, mn1, mn2, mn3⟩ := id YY
  first | refine w_aload_n C dX10_best_0 (by rfl) ?_ | refine w_aload_nN C dX10_best_0 (by rfl) ?_
  first | refine w_aload_n C dX10_best_1 (by rfl) ?_ | refine w_aload_nN C dX10_best_1 (by rfl) ?_
  refine w_iload_n C dX10_best_2 (by rfl) ?_
  refine cl_X10_95 C (m_X10_isNoClay hl YY (by omega)) mm (by rfl) (by rfl) ⟨by decide, by decide⟩ (by rfl) dX10_best_3 (fun z1 h1 p1 => ?_)
  obtain ⟨rfl, p_3⟩ := p1
  rcases p_3 with ⟨rfl, c_3⟩ | ⟨rfl, c, hc, rfl⟩
  · 
    refine w_iconst (v := 1) C dX10_best_6 (by rfl) ?_
    refine cl_X10_88 C (m_X10_startT hl mm (by decide)) mm (by rfl) (by rfl) ⟨by decide, by decide⟩ (by rfl) dX10_best_7 (fun z2 h2 p2 => ?_)
    obtain ⟨rfl, p2⟩ := p2
    have YY := YY.me (th2 := 1) (day2 := day) (dmp2 := dmp) (pur2 := pur) (rf2 := rf) p2
    obtain ⟨mm, mL, mk, mw, mCl, mGl, mPt, mOr, mRm, mn1, mn2, mn3⟩ := id YY
    refine w_if_ne (tgt := 36) C dX10_best_10 (by rfl) (fun c_10 => ?_) (fun c_10 => ?_)
    · try simp only [cg_ge, cg_gt, cl_gt, cl_le, cl_eq, cl_lt, cl_ge, bi_eq0, bi_ne0, bI_eq0, Decidable.not_not, Bool.not_eq_false] at c_10
      refine w_iconst (v := 0) C dX10_best_36 (by rfl) ?_
      refine w_iret C M dX10_best_37 ⟨by decide, by decide⟩ ⟨_, rfl, ?_⟩
      exact Or.inl ⟨c_3, rfl, YY.ex⟩
    · exact absurd c_10 (by decide)
  · 
    refine w_iconst (v := 1) C dX10_best_6 (by rfl) ?_
    refine cl_X10_88 C (m_X10_startF hl mm) mm (by rfl) (by rfl) ⟨by decide, by decide⟩ (by rfl) dX10_best_7 (fun z3 h3 p3 => ?_)
    obtain ⟨rfl, p3⟩ := p3
    have YY := YY.me (th2 := 0) (day2 := day) (dmp2 := dmp) (pur2 := pur) (rf2 := rf) p3
    obtain ⟨mm, mL, mk, mw, mCl, mGl, mPt, mOr, mRm, mn1, mn2, mn3⟩ := id YY
    refine w_if_ne (tgt := 36) C dX10_best_10 (by rfl) (fun c_10 => ?_) (fun c_10 => ?_)
    · exact absurd c_10 (by decide)
    · try simp only [cg_ge, cg_gt, cl_gt, cl_le, cl_eq, cl_lt, cl_ge, bi_eq0, bi_ne0, bI_eq0, Decidable.not_not, Bool.not_eq_false] at c_10
      first | refine w_aload_n C dX10_best_13 (by rfl) ?_ | refine w_aload_nN C dX10_best_13 (by rfl) ?_
      refine w_iload_n C dX10_best_14 (by rfl) ?_
      refine w_iconst (v := 1) C dX10_best_15 (by rfl) ?_
      refine w_bipush (v := (12)) C dX10_best_16 (by rfl) ?_
      refine cl_X10_44 C (m_X10_isIn hl) (by rfl) (by rfl) ⟨by decide, by decide⟩ (by rfl) dX10_best_18 (fun z4 h4 p4 => ?_)
      obtain ⟨rfl, rfl⟩ := p4
      refine w_if_ne (tgt := 28) C dX10_best_21 (by rfl) (fun c_21 => ?_) (fun c_21 => ?_)
      · try simp only [cg_ge, cg_gt, cl_gt, cl_le, cl_eq, cl_lt, cl_ge, bi_eq0, bi_ne0, bI_eq0, Decidable.not_not, Bool.not_eq_false] at c_21
        refine w_iconst (v := 0) C dX10_best_28 (by rfl) ?_
        refine w_iconst (v := 2) C dX10_best_29 (by rfl) ?_
        refine cl_X10_36 C (m_X10_refuseF hl mm) mm (by rfl) (by rfl) ⟨by decide, by decide⟩ (by rfl) dX10_best_30 (fun z5 h5 p5 => ?_)
        obtain ⟨rfl, rfl⟩ := p5
        refine w_if_eq (tgt := 38) C dX10_best_33 (by rfl) (fun c_33 => ?_) (fun c_33 => ?_)
        · try simp only [cg_ge, cg_gt, cl_gt, cl_le, cl_eq, cl_lt, cl_ge, bi_eq0, bi_ne0, bI_eq0, Decidable.not_not, Bool.not_eq_false] at c_33
          refine w_iconst (v := (-1)) C dX10_best_38 (by rfl) ?_
          refine w_istore_3 C dX10_best_39 (by first | trivial | rfl) ?_
          refine w_iconst (v := 0) C dX10_best_40 (by rfl) ?_
          refine w_istore_4 C dX10_best_41 (by first | trivial | rfl) ?_
          refine lp_X10_best C hl YY bG hc (hcl c hc).2 hgz ?_ 0 (by omega)
          refine w_iload_n C dX10_best_140 (by rfl) ?_
          refine w_iret C M dX10_best_141 ⟨by decide, by decide⟩ ⟨_, rfl, ?_⟩
          exact Or.inr ⟨c, hc, rfl, Or.inr ⟨c_21, by rw [best_4 bG], YY.ex⟩⟩
        · exact absurd c_33 (by decide)
      · try simp only [cg_ge, cg_gt, cl_gt, cl_le, cl_eq, cl_lt, cl_ge, bi_eq0, bi_ne0, bI_eq0, Decidable.not_not, Bool.not_eq_false] at c_21
        refine w_iconst (v := 1) C dX10_best_24 (by rfl) ?_
        refine w_goto (tgt := 29) C dX10_best_25 (by rfl) ?_
        refine w_iconst (v := 2) C dX10_best_29 (by rfl) ?_
        refine cl_X10_36 C (m_X10_refuseT hl mm (by decide)) mm (by rfl) (by rfl) ⟨by decide, by decide⟩ (by rfl) dX10_best_30 (fun z6 h6 p6 => ?_)
        obtain ⟨rfl, p6⟩ := p6
        have YY := YY.me (th2 := 2) (day2 := day) (dmp2 := dmp) (pur2 := pur) (rf2 := rf) p6
        obtain ⟨mm, mL, mk, mw, mCl, mGl, mPt, mOr, mRm, mn1, mn2, mn3⟩ := id YY
        refine w_if_eq (tgt := 38) C dX10_best_33 (by rfl) (fun c_33 => ?_) (fun c_33 => ?_)
        · exact absurd c_33 (by decide)
        · try simp only [cg_ge, cg_gt, cl_gt, cl_le, cl_eq, cl_lt, cl_ge, bi_eq0, bi_ne0, bI_eq0, Decidable.not_not, Bool.not_eq_false] at c_33
          refine w_iconst (v := 0) C dX10_best_36 (by rfl) ?_
          refine w_iret C M dX10_best_37 ⟨by decide, by decide⟩ ⟨_, rfl, ?_⟩
          exact Or.inr ⟨c, hc, rfl, Or.inl ⟨c_21, rfl, YY.ex⟩⟩

set_option maxHeartbeats 4000000 in
set_option maxRecDepth 100000 in
theorem lp_X10_dig1 {K : KC} (C : CX K RX10 cX10_digest 5 rm_X10_digest) (hl : (Kl K).stackTraces = false) {h0 : HM} {m0 kl wk : Nat} {L : Nat → Nat} {E : Nat → Nat} {M : Nat → Int32} {ca : Nat → Nat} {ga : Nat → Nat} {pa : Nat → Nat} {oa : Nat → Nat} {ra : Nat → Nat} {th : Int32} {nC : Nat} {cs : Nat → Int32 × Int32} {nG : Nat} {gs : Nat → GT} {nP : Nat} {ps : Nat → PT} {nO : Nat} {os : Nat → OT} {nR : Nat} {rs : Nat → RT} {k : KT} {dmp : Int32} {day : Int32} {pur : Int32} {rf : Int32} (YY0 : Mh (Kt K) m0 kl wk L E M ca ga pa oa ra th nC cs nG gs nP ps nO os nR rs k dmp day pur rf h0) (hn : nP ≤ 14) (hO : nO ≤ 6)
    (kk : ∀ h', Fr [] h0 h' → WW K (80, 512) 34 [some (.ref m0), some (.long (sp_it (fun d j => sp_add d (sp_many nP ps nO os nR k day pur rf (nI j)).toInt64) 58303 16)), none, some (.int (nI 16)), none] [] h')
    : ∀ j : Nat, j ≤ 16 → ∀ {h : HM},  (fr : Fr [] h0 h) → WW K (5 * j, 32 * j) 11 [some (.ref m0), some (.long (sp_it (fun d j => sp_add d (sp_many nP ps nO os nR k day pur rf (nI j)).toInt64) 58303 j)), none, some (.int (nI j)), none] [] h := by
  refine up_ind ?_
  intro j hj ih h fr
  have YY := YY0.fr0 fr
  obtain ⟨mm, mL, mk, mw, mCl, mGl, mPt, mOr, mRm, mn1, mn2, mn3⟩ := id YY
  refine w_iload_n C dX10_digest_11 (by rfl) ?_
  refine w_bipush (v := (16)) C dX10_digest_12 (by rfl) ?_
  refine w_icmp_ge (tgt := 34) C dX10_digest_14 (by rfl) (fun c_14 => ?_) (fun c_14 => ?_)
  · have e3 : ¬ j < 16 := fun q => nI_ge q (by omega) c_14
    obtain rfl : j = 16 := by omega
    exact kk _ fr
  · have hj3 : j < 16 := Nat.not_le.mp (fun q => c_14 (nI_le (a := 16) q (by omega)))
    refine w_lload_n C dX10_digest_17 (by rfl) ?_
    first | refine w_aload_n C dX10_digest_18 (by rfl) ?_ | refine w_aload_nN C dX10_digest_18 (by rfl) ?_
    refine w_iload_n C dX10_digest_19 (by rfl) ?_
    refine cl_X10_298 C (m_X10_count hl YY hn hO hj3) mm (by rfl) (by rfl) ⟨show 5 * j + 5 ≤ 509 by omega, show 32 * j + 32 ≤ 2784 by omega⟩ (by rfl) dX10_digest_20 (fun z1 h1 p1 => ?_)
    obtain ⟨rfl, fr9⟩ := p1
    have fr := fr.tr fr9
    have YY := YY0.fr0 fr
    obtain ⟨mm, mL, mk, mw, mCl, mGl, mPt, mOr, mRm, mn1, mn2, mn3⟩ := id YY
    refine w_i2l C dX10_digest_23 ?_
    refine cl_X10_321 C (m_X10_add hl) (by rfl) (by rfl) ⟨show 5 * j + 5 + 0 ≤ 509 by omega, show 32 * j + 32 + 0 ≤ 2784 by omega⟩ (by rfl) dX10_digest_24 (fun z2 h2 p2 => ?_)
    obtain ⟨rfl, rfl⟩ := p2
    refine w_lstore_1 C dX10_digest_27 (by first | trivial | rfl) ?_
    refine w_iinc_3 (v := _ + (1)) C dX10_digest_28 (by rfl) (by first | trivial | rfl) ?_
    refine w_goto (tgt := 11) C dX10_digest_31 (by rfl) ?_
    rw [nI_1 j]
    refine w_widen (n' := (5 * (j + 1), 32 * (j + 1))) ?_ (show 5 * j + 5 + 0 ≤ 5 * (j + 1) by omega) (show 32 * j + 32 + 0 ≤ 32 * (j + 1) by omega)
    exact w_sub (ih hj3 fr) (by repeat' first | exact trivial | rfl | constructor)

set_option maxHeartbeats 4000000 in
set_option maxRecDepth 100000 in
theorem lp_X10_dig2i {K : KC} (C : CX K RX10 cX10_digest 5 rm_X10_digest) (hl : (Kl K).stackTraces = false) {h0 : HM} {m0 kl wk : Nat} {L : Nat → Nat} {E : Nat → Nat} {M : Nat → Int32} {ca : Nat → Nat} {ga : Nat → Nat} {pa : Nat → Nat} {oa : Nat → Nat} {ra : Nat → Nat} {th : Int32} {nC : Nat} {cs : Nat → Int32 × Int32} {nG : Nat} {gs : Nat → GT} {nP : Nat} {ps : Nat → PT} {nO : Nat} {os : Nat → OT} {nR : Nat} {rs : Nat → RT} {k : KT} {dmp : Int32} {day : Int32} {pur : Int32} {rf : Int32} (YY0 : Mh (Kt K) m0 kl wk L E M ca ga pa oa ra th nC cs nG gs nP ps nO os nR rs k dmp day pur rf h0) {i : Nat} {d : Int64} (hn : nP ≤ 14) (hi : i < nP) (hg : okGl nG (ps i))
    (kk : ∀ h', Fr [] h0 h' → WW K (80 + 8 * (i + 1), 512 + 64 * (i + 1)) 76 [some (.ref m0), some (.long (sp_it (fun d j => sp_add d (sp_ofPot gs (ps i) (nI j)).toInt64) d 8)), none, some (.int (nI i)), some (.int (nI 8))] [] h')
    : ∀ j : Nat, j ≤ 8 → ∀ {h : HM},  (fr : Fr [] h0 h) → WW K (80 + 8 * i + j, 512 + 64 * i + 8 * j) 50 [some (.ref m0), some (.long (sp_it (fun d j => sp_add d (sp_ofPot gs (ps i) (nI j)).toInt64) d j)), none, some (.int (nI i)), some (.int (nI j))] [] h := by
  refine up_ind ?_
  intro j hj ih h fr
  have YY := YY0.fr0 fr
  obtain ⟨mm, mL, mk, mw, mCl, mGl, mPt, mOr, mRm, mn1, mn2, mn3⟩ := id YY
  refine w_iload C dX10_digest_50 (by rfl) ?_
  refine w_bipush (v := (8)) C dX10_digest_52 (by rfl) ?_
  refine w_icmp_ge (tgt := 76) C dX10_digest_54 (by rfl) (fun c_54 => ?_) (fun c_54 => ?_)
  · have e3 : ¬ j < 8 := fun q => nI_ge q (by omega) c_54
    obtain rfl : j = 8 := by omega
    refine w_widen (kk _ fr) (show 80 + 8 * i + 8 ≤ 80 + 8 * (i + 1) by omega) (show 512 + 64 * i + 8 * 8 ≤ 512 + 64 * (i + 1) by omega)
  · have hj3 : j < 8 := Nat.not_le.mp (fun q => c_54 (nI_le (a := 8) q (by omega)))
    refine w_lload_n C dX10_digest_57 (by rfl) ?_
    first | refine w_aload_n C dX10_digest_58 (by rfl) ?_ | refine w_aload_nN C dX10_digest_58 (by rfl) ?_
    refine w_iload_n C dX10_digest_59 (by rfl) ?_
    refine w_iload C dX10_digest_60 (by rfl) ?_
    refine cl_X10_267 C (m_X10_toldOfPot hl YY hi hj3 hg) mm (by rfl) (by rfl) ⟨show 80 + 8 * i + j + 1 ≤ 509 by omega, show 512 + 64 * i + 8 * j + 8 ≤ 2784 by omega⟩ (by rfl) dX10_digest_62 (fun z1 h1 p1 => ?_)
    obtain ⟨rfl, fr9⟩ := p1
    have fr := fr.tr fr9
    have YY := YY0.fr0 fr
    obtain ⟨mm, mL, mk, mw, mCl, mGl, mPt, mOr, mRm, mn1, mn2, mn3⟩ := id YY
    refine w_i2l C dX10_digest_65 ?_
    refine cl_X10_321 C (m_X10_add hl) (by rfl) (by rfl) ⟨show 80 + 8 * i + j + 1 + 0 ≤ 509 by omega, show 512 + 64 * i + 8 * j + 8 + 0 ≤ 2784 by omega⟩ (by rfl) dX10_digest_66 (fun z2 h2 p2 => ?_)
    obtain ⟨rfl, rfl⟩ := p2
    refine w_lstore_1 C dX10_digest_69 (by first | trivial | rfl) ?_
    refine w_iinc_4 (v := _ + (1)) C dX10_digest_70 (by rfl) (by first | trivial | rfl) ?_
    refine w_goto (tgt := 50) C dX10_digest_73 (by rfl) ?_
    rw [nI_1 j]
    refine w_widen (n' := (80 + 8 * i + (j + 1), 512 + 64 * i + 8 * (j + 1))) ?_ (show 80 + 8 * i + j + 1 + 0 ≤ 80 + 8 * i + (j + 1) by omega) (show 512 + 64 * i + 8 * j + 8 + 0 ≤ 512 + 64 * i + 8 * (j + 1) by omega)
    exact w_sub (ih hj3 fr) (by repeat' first | exact trivial | rfl | constructor)

set_option maxHeartbeats 4000000 in
set_option maxRecDepth 100000 in
theorem lp_X10_dig2 {K : KC} (C : CX K RX10 cX10_digest 5 rm_X10_digest) (hl : (Kl K).stackTraces = false) {h0 : HM} {m0 kl wk : Nat} {L : Nat → Nat} {E : Nat → Nat} {M : Nat → Int32} {ca : Nat → Nat} {ga : Nat → Nat} {pa : Nat → Nat} {oa : Nat → Nat} {ra : Nat → Nat} {th : Int32} {nC : Nat} {cs : Nat → Int32 × Int32} {nG : Nat} {gs : Nat → GT} {nP : Nat} {ps : Nat → PT} {nO : Nat} {os : Nat → OT} {nR : Nat} {rs : Nat → RT} {k : KT} {dmp : Int32} {day : Int32} {pur : Int32} {rf : Int32} (YY0 : Mh (Kt K) m0 kl wk L E M ca ga pa oa ra th nC cs nG gs nP ps nO os nR rs k dmp day pur rf h0) {d : Int64} (hn : nP ≤ 14) (hg : ∀ i, i < nP → okGl nG (ps i)) (hq : ∀ i, i < nP → okq (ps i).2.2)
    (kk : ∀ h', Fr [] h0 h' → WW K (192, 1408) 106 [some (.ref m0), some (.long (sp_it (sp_dpot gs ps) d nP)), none, some (.int (nI nP)), none] [] h')
    : ∀ j : Nat, j ≤ nP → ∀ {h : HM},  (fr : Fr [] h0 h) → WW K (80 + 8 * j, 512 + 64 * j) 36 [some (.ref m0), some (.long (sp_it (sp_dpot gs ps) d j)), none, some (.int (nI j)), none] [] h := by
  refine up_ind ?_
  intro j hj ih h fr
  have YY := YY0.fr0 fr
  obtain ⟨mm, mL, mk, mw, mCl, mGl, mPt, mOr, mRm, mn1, mn2, mn3⟩ := id YY
  refine w_iload_n C dX10_digest_36 (by rfl) ?_
  first | refine w_aload_n C dX10_digest_37 (by rfl) ?_ | refine w_aload_nN C dX10_digest_37 (by rfl) ?_
  refine gf_X10_19 C mm dX10_digest_38 ?_
  refine cl_X10_40 C (m_Jx4a65c_size_8abf5 hl YY.lp) YY.lp (by rfl) (by rfl) ⟨show 80 + 8 * j + 0 ≤ 509 by omega, show 512 + 64 * j + 0 ≤ 2784 by omega⟩ (by rfl) dX10_digest_41 (fun z1 h1 p1 => ?_)
  obtain ⟨rfl, rfl⟩ := p1
  refine w_icmp_ge (tgt := 106) C dX10_digest_44 (by rfl) (fun c_44 => ?_) (fun c_44 => ?_)
  · have e3 : ¬ j < nP := fun q => nI_ge q (by omega) c_44
    obtain rfl : j = nP := by omega
    refine w_widen (kk _ fr) (show 80 + 8 * j + 0 ≤ 192 by omega) (show 512 + 64 * j + 0 ≤ 1408 by omega)
  · have hj3 : j < nP := Nat.not_le.mp (fun q => c_44 (nI_le (a := nP) q (by omega)))
    refine w_iconst (v := 0) C dX10_digest_47 (by rfl) ?_
    refine w_istore_4 C dX10_digest_48 (by first | trivial | rfl) ?_
    refine lp_X10_dig2i C hl YY0 hn hj3 (hg j hj3) (fun h7 fr7 => ?_) 0 (by omega) fr
    have fr := fr7
    have YY := YY0.fr0 fr
    obtain ⟨mm, mL, mk, mw, mCl, mGl, mPt, mOr, mRm, mn1, mn2, mn3⟩ := id YY
    have hpj := mPt j hj3
    obtain ⟨wf, wl⟩ := wat_l (hq j hj3)
    refine w_lload_n C dX10_digest_76 (by rfl) ?_
    refine w_ldcwf C gw_1605 dX10_digest_77 ?_
    first | refine w_aload_n C dX10_digest_80 (by rfl) ?_ | refine w_aload_nN C dX10_digest_80 (by rfl) ?_
    refine gf_X10_19 C mm dX10_digest_81 ?_
    refine w_iload_n C dX10_digest_84 (by rfl) ?_
    refine cl_X10_58 C (m_get hl YY.lp YY.ap hj3) YY.lp (by rfl) (by rfl) ⟨show 80 + 8 * (j + 1) + 0 ≤ 509 by omega, show 512 + 64 * (j + 1) + 0 ≤ 2784 by omega⟩ (by rfl) dX10_digest_85 (fun z2 h2 p2 => ?_)
    obtain ⟨rfl, rfl⟩ := p2
    refine w_castS C hpj (r := (RX9, TX9, 12)) rfl gw_1152 dX10_digest_88 ?_
    refine gf_X10_270 C hpj dX10_digest_91 ?_
    refine w_fmul C dX10_digest_94 (f64_n wf) ?_
    refine w_f2l C dX10_digest_95 ?_
    rw [wl]
    refine cl_X10_321 C (m_X10_add hl) (by rfl) (by rfl) ⟨show 80 + 8 * (j + 1) + 0 + 0 ≤ 509 by omega, show 512 + 64 * (j + 1) + 0 + 0 ≤ 2784 by omega⟩ (by rfl) dX10_digest_96 (fun z3 h3 p3 => ?_)
    obtain ⟨rfl, rfl⟩ := p3
    refine w_lstore_1 C dX10_digest_99 (by first | trivial | rfl) ?_
    refine w_iinc_3 (v := _ + (1)) C dX10_digest_100 (by rfl) (by first | trivial | rfl) ?_
    refine w_goto (tgt := 36) C dX10_digest_103 (by rfl) ?_
    rw [nI_1 j]
    refine w_widen (n' := (80 + 8 * (j + 1), 512 + 64 * (j + 1))) ?_ (show 80 + 8 * (j + 1) + 0 + 0 ≤ 80 + 8 * (j + 1) by omega) (show 512 + 64 * (j + 1) + 0 + 0 ≤ 512 + 64 * (j + 1) by omega)
    exact w_sub (ih hj3 fr) (by repeat' first | exact trivial | rfl | constructor)

set_option maxHeartbeats 4000000 in
set_option maxRecDepth 100000 in
theorem lp_X10_dig3 {K : KC} (C : CX K RX10 cX10_digest 5 rm_X10_digest) (hl : (Kl K).stackTraces = false) {h0 : HM} {m0 kl wk : Nat} {L : Nat → Nat} {E : Nat → Nat} {M : Nat → Int32} {ca : Nat → Nat} {ga : Nat → Nat} {pa : Nat → Nat} {oa : Nat → Nat} {ra : Nat → Nat} {th : Int32} {nC : Nat} {cs : Nat → Int32 × Int32} {nG : Nat} {gs : Nat → GT} {nP : Nat} {ps : Nat → PT} {nO : Nat} {os : Nat → OT} {nR : Nat} {rs : Nat → RT} {k : KT} {dmp : Int32} {day : Int32} {pur : Int32} {rf : Int32} (YY0 : Mh (Kt K) m0 kl wk L E M ca ga pa oa ra th nC cs nG gs nP ps nO os nR rs k dmp day pur rf h0) {d : Int64} (bG : nG ≤ 4) (hgz : ∀ i, i < nG → glzOk (gs i))
    (kk : ∀ h', Fr [] h0 h' → WW K (192, 1408) 149 [some (.ref m0), some (.long (sp_it (sp_dglz gs) d nG)), none, some (.int (nI nG)), none] [] h')
    : ∀ j : Nat, j ≤ nG → ∀ {h : HM},  (fr : Fr [] h0 h) → WW K (192, 1408) 108 [some (.ref m0), some (.long (sp_it (sp_dglz gs) d j)), none, some (.int (nI j)), none] [] h := by
  refine up_ind ?_
  intro j hj ih h fr
  have YY := YY0.fr0 fr
  obtain ⟨mm, mL, mk, mw, mCl, mGl, mPt, mOr, mRm, mn1, mn2, mn3⟩ := id YY
  refine w_iload_n C dX10_digest_108 (by rfl) ?_
  first | refine w_aload_n C dX10_digest_109 (by rfl) ?_ | refine w_aload_nN C dX10_digest_109 (by rfl) ?_
  refine gf_X10_16 C mm dX10_digest_110 ?_
  refine cl_X10_40 C (m_Jx4a65c_size_8abf5 hl YY.lg) YY.lg (by rfl) (by rfl) ⟨by decide, by decide⟩ (by rfl) dX10_digest_113 (fun z1 h1 p1 => ?_)
  obtain ⟨rfl, rfl⟩ := p1
  refine w_icmp_ge (tgt := 149) C dX10_digest_116 (by rfl) (fun c_116 => ?_) (fun c_116 => ?_)
  · have e3 : ¬ j < nG := fun q => nI_ge q (by omega) c_116
    obtain rfl : j = nG := by omega
    exact kk _ fr
  · have hj3 : j < nG := Nat.not_le.mp (fun q => c_116 (nI_le (a := nG) q (by omega)))
    obtain ⟨gN, gF, -, -⟩ := glz_all (hgz j hj3)
    refine w_lload_n C dX10_digest_119 (by rfl) ?_
    refine lc_X10_325 C dX10_digest_120 ?_
    first | refine w_aload_n C dX10_digest_123 (by rfl) ?_ | refine w_aload_nN C dX10_digest_123 (by rfl) ?_
    refine w_iload_n C dX10_digest_124 (by rfl) ?_
    refine cl_X10_230 C (m_X10_growth hl YY hj3 gN) mm (by rfl) (by rfl) ⟨by decide, by decide⟩ (by rfl) dX10_digest_125 (fun z2 h2 p2 => ?_)
    obtain ⟨rfl, rfl⟩ := p2
    refine w_dmul C dX10_digest_128 (nn_of (dmul_n (df_whole w64) gF)) ?_
    refine w_d2l C dX10_digest_129 ?_
    refine cl_X10_321 C (m_X10_add hl) (by rfl) (by rfl) ⟨by decide, by decide⟩ (by rfl) dX10_digest_130 (fun z3 h3 p3 => ?_)
    obtain ⟨rfl, rfl⟩ := p3
    first | refine w_aload_n C dX10_digest_133 (by rfl) ?_ | refine w_aload_nN C dX10_digest_133 (by rfl) ?_
    refine w_iload_n C dX10_digest_134 (by rfl) ?_
    refine cl_X10_147 C (m_X10_melts hl YY hj3 (hgz j hj3)) mm (by rfl) (by rfl) ⟨by decide, by decide⟩ (by rfl) dX10_digest_135 (fun z4 h4 p4 => ?_)
    obtain ⟨rfl, rfl⟩ := p4
    refine w_i2l C dX10_digest_138 ?_
    rw [← d2l_i2d]
    refine cl_X10_321 C (m_X10_add hl) (by rfl) (by rfl) ⟨by decide, by decide⟩ (by rfl) dX10_digest_139 (fun z5 h5 p5 => ?_)
    obtain ⟨rfl, rfl⟩ := p5
    refine w_lstore_1 C dX10_digest_142 (by first | trivial | rfl) ?_
    refine w_iinc_3 (v := _ + (1)) C dX10_digest_143 (by rfl) (by first | trivial | rfl) ?_
    refine w_goto (tgt := 108) C dX10_digest_146 (by rfl) ?_
    rw [nI_1 j]
    exact w_sub (ih hj3 fr) (by repeat' first | exact trivial | rfl | constructor)

set_option maxHeartbeats 4000000 in
set_option maxRecDepth 100000 in
theorem lp_X10_dig4i {K : KC} (C : CX K RX10 cX10_digest 5 rm_X10_digest) (hl : (Kl K).stackTraces = false) {h0 : HM} {m0 kl wk : Nat} {L : Nat → Nat} {E : Nat → Nat} {M : Nat → Int32} {ca : Nat → Nat} {ga : Nat → Nat} {pa : Nat → Nat} {oa : Nat → Nat} {ra : Nat → Nat} {th : Int32} {nC : Nat} {cs : Nat → Int32 × Int32} {nG : Nat} {gs : Nat → GT} {nP : Nat} {ps : Nat → PT} {nO : Nat} {os : Nat → OT} {nR : Nat} {rs : Nat → RT} {k : KT} {dmp : Int32} {day : Int32} {pur : Int32} {rf : Int32} (YY0 : Mh (Kt K) m0 kl wk L E M ca ga pa oa ra th nC cs nG gs nP ps nO os nR rs k dmp day pur rf h0) {s : Nat} {d : Int64} (hn : nP ≤ 14) (hs : s < 3) (hC : ∀ i, i < nP → okCe (ps i).2.2)
    (kk : ∀ h', Fr [] h0 h' → WW K (192 + 104 * s + 88, 1408 + 443 * s + 352) 184 [some (.ref m0), some (.long (sp_it (fun d j => sp_add d (sp_shelf k nP ps s (nI j)).toInt64) d 4)), none, some (.int (nI s)), some (.int (nI 4))] [] h')
    : ∀ j : Nat, j ≤ 4 → ∀ {h : HM},  (fr : Fr [] h0 h) → WW K (192 + 104 * s + 22 * j, 1408 + 443 * s + 88 * j) 159 [some (.ref m0), some (.long (sp_it (fun d j => sp_add d (sp_shelf k nP ps s (nI j)).toInt64) d j)), none, some (.int (nI s)), some (.int (nI j))] [] h := by
  refine up_ind ?_
  intro j hj ih h fr
  have YY := YY0.fr0 fr
  obtain ⟨mm, mL, mk, mw, mCl, mGl, mPt, mOr, mRm, mn1, mn2, mn3⟩ := id YY
  refine w_iload C dX10_digest_159 (by rfl) ?_
  refine w_iconst (v := 4) C dX10_digest_161 (by rfl) ?_
  refine w_icmp_ge (tgt := 184) C dX10_digest_162 (by rfl) (fun c_162 => ?_) (fun c_162 => ?_)
  · have e3 : ¬ j < 4 := fun q => nI_ge q (by omega) c_162
    obtain rfl : j = 4 := by omega
    exact kk _ fr
  · have hj3 : j < 4 := Nat.not_le.mp (fun q => c_162 (nI_le (a := 4) q (by omega)))
    refine w_lload_n C dX10_digest_165 (by rfl) ?_
    first | refine w_aload_n C dX10_digest_166 (by rfl) ?_ | refine w_aload_nN C dX10_digest_166 (by rfl) ?_
    refine w_iload_n C dX10_digest_167 (by rfl) ?_
    refine w_iload C dX10_digest_168 (by rfl) ?_
    refine cl_X10_286 C (m_X10_toldOfShelf hl YY hn hC hs hj3) mm (by rfl) (by rfl) ⟨show 192 + 104 * s + 22 * j + 22 ≤ 509 by omega, show 1408 + 443 * s + 88 * j + 88 ≤ 2784 by omega⟩ (by rfl) dX10_digest_170 (fun z1 h1 p1 => ?_)
    obtain ⟨rfl, fr9⟩ := p1
    have fr := fr.tr fr9
    have YY := YY0.fr0 fr
    obtain ⟨mm, mL, mk, mw, mCl, mGl, mPt, mOr, mRm, mn1, mn2, mn3⟩ := id YY
    refine w_i2l C dX10_digest_173 ?_
    refine cl_X10_321 C (m_X10_add hl) (by rfl) (by rfl) ⟨show 192 + 104 * s + 22 * j + 22 + 0 ≤ 509 by omega, show 1408 + 443 * s + 88 * j + 88 + 0 ≤ 2784 by omega⟩ (by rfl) dX10_digest_174 (fun z2 h2 p2 => ?_)
    obtain ⟨rfl, rfl⟩ := p2
    refine w_lstore_1 C dX10_digest_177 (by first | trivial | rfl) ?_
    refine w_iinc_4 (v := _ + (1)) C dX10_digest_178 (by rfl) (by first | trivial | rfl) ?_
    refine w_goto (tgt := 159) C dX10_digest_181 (by rfl) ?_
    rw [nI_1 j]
    refine w_widen (n' := (192 + 104 * s + 22 * (j + 1), 1408 + 443 * s + 88 * (j + 1))) ?_ (show 192 + 104 * s + 22 * j + 22 + 0 ≤ 192 + 104 * s + 22 * (j + 1) by omega) (show 1408 + 443 * s + 88 * j + 88 + 0 ≤ 1408 + 443 * s + 88 * (j + 1) by omega)
    exact w_sub (ih hj3 fr) (by repeat' first | exact trivial | rfl | constructor)
