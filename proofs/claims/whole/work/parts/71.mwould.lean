/-! THE REFERENCE: WHAT WOULD BE -/
theorem sim_cpk (k : KT) : simk (cpk k) k := ⟨rfl, rfl, rfl, rfl, rfl, rfl, fun j hj => if_pos hj⟩
theorem okk_cpk {k : KT} (h : okk k) : okk (cpk k) := ⟨h.1, h.2.1, fun j hj => by rw [show kW (cpk k) j = kW k j from if_pos hj]; exact h.2.2 j hj⟩
theorem rng1 {x : Int32} {n : Nat} (hn : n < 2 ^ 30) (h : 1 ≤ x ∧ x ≤ nI n) : ∃ m : Nat, (1 ≤ m ∧ m ≤ n) ∧ x = nI m := by
  have h1 := Int32.le_iff_toInt_le.mp h.1
  have h2 := Int32.le_iff_toInt_le.mp h.2
  rw [nI_toInt (by omega)] at h2
  have e1 : (1 : Int32).toInt = 1 := by decide
  obtain ⟨m, hm, rfl⟩ := nI_i (x := x) (N := n + 1) (by omega) (by omega)
  rw [nI_toInt (by omega)] at h1
  exact ⟨m, ⟨by omega, by omega⟩, rfl⟩
/-- a copy of the kiln that went on -/
def CKh (tc : Nat → ClassId) (q rq w el nR : Nat) (ra : Nat → Nat) (rs : Nat → RT) (k : KT) (h : HM) : Prop := h q = some (mK rq w k) ∧ h rq = some (lC 1 el nR) ∧ LA tc el nR ra h ∧ h w = some (wCell tc (kW k)) ∧ (∀ i, i < nR → h (ra i) = some (iC (tc 0) 3 (rJ (rs i))))
theorem CKh.go {tc : Nat → ClassId} {q rq w el nR : Nat} {ra : Nat → Nat} {rs : Nat → RT} {k k2 : KT} {h h' : HM} (c : CKh tc q rq w el nR ra rs k h) (g1 : h' q = some (mK rq w k2)) (g2 : h' w = some (wCell tc (kW k2))) (fr : Fr [q, w] h h') : CKh tc q rq w el nR ra rs k2 h' := by
  obtain ⟨a1, a2, a3, a4, a5⟩ := c
  have N : ∀ {b : Nat} {z : va_E}, h b = some z → z ≠ mK rq w k → z ≠ wCell tc (kW k) → h' b = some z := fun hb1 n1 n2 => fr _ _ (not2 (ne_of hb1 a1 n1) (ne_of hb1 a4 n2)) hb1
  exact ⟨g1, N a2 (by intro v; simp at v) (by intro v; simp at v), a3.fr (fun cap f hb => N hb (by intro v; simp at v) (by intro v; simp at v)), g2, fun i hi => N (a5 i hi) (by intro v; simp at v) (by intro v; simp at v)⟩

set_option maxHeartbeats 4000000 in
set_option maxRecDepth 100000 in
theorem lp_X10_coneBy {K : KC} (C : CX K RX10 cX10_coneBy 5 rm_X10_coneBy) (hl : (Kl K).stackTraces = false) {h0 : HM} {q rq w el nR : Nat} {ra : Nat → Nat} {rs : Nat → RT} {k : KT} (hk : okk k) (hL : okL nR k) (hRr : okR9 nR rs) {m0 m : Nat} {si : Int32} (hm : m ≤ 60)
    (kk : ∀ h', CKh (Kt K) q rq w el nR ra rs (sp_run nR rs (cpk k) m) h' → Fr [q, w] h0 h' → WW K (5, 47) 27 [some (.ref m0), some (.int si), some (.int (nI m)), some (.ref q), some (.int (nI m))] [] h')
    : ∀ j : Nat, j ≤ m → ∀ {h : HM},  (cc : CKh (Kt K) q rq w el nR ra rs (sp_run nR rs (cpk k) j) h) → (fr : Fr [q, w] h0 h) → WW K (5, 47) 11 [some (.ref m0), some (.int si), some (.int (nI m)), some (.ref q), some (.int (nI j))] [] h := by
  refine up_ind ?_
  intro j hj ih h cc fr
  obtain ⟨hk9, hL9⟩ := run_ok (okk_cpk hk) (show okL nR (cpk k) from hL) hRr j
  
  refine w_iload C dX10_coneBy_11 (by rfl) ?_
  refine w_iload_n C dX10_coneBy_13 (by rfl) ?_
  refine w_icmp_ge (tgt := 27) C dX10_coneBy_14 (by rfl) (fun c_14 => ?_) (fun c_14 => ?_)
  · have e3 : ¬ j < m := fun q => nI_ge q (by omega) c_14
    obtain rfl : j = m := by omega
    exact kk _ cc fr
  · have hj3 : j < m := Nat.not_le.mp (fun q => c_14 (nI_le (a := m) q (by omega)))
    first | refine w_aload_n C dX10_coneBy_17 (by rfl) ?_ | refine w_aload_nN C dX10_coneBy_17 (by rfl) ?_
    refine cl_X10_204 C (m_X8_step hl cc.1 cc.2.1 cc.2.2.1 cc.2.2.2.2 hRr.1 hL9 cc.2.2.2.1 hk9 hRr) cc.1 (by rfl) (by rfl) ⟨by decide, by decide⟩ (by rfl) dX10_coneBy_18 (fun h1 p1 => ?_)
    obtain ⟨g1, g2, fr1⟩ := p1
    have cc := cc.go (k2 := sp_run nR rs (cpk k) (j + 1)) g1 g2 fr1
    have fr := fr.tr (fr1.sub (by simp))
    refine w_iinc_4 (v := _ + (1)) C dX10_coneBy_21 (by rfl) (by first | trivial | rfl) ?_
    refine w_goto (tgt := 11) C dX10_coneBy_24 (by rfl) ?_
    rw [nI_1 j]
    exact w_sub (ih hj3 cc fr) (by repeat' first | exact trivial | rfl | constructor)

set_option maxHeartbeats 4000000 in
set_option maxRecDepth 100000 in
theorem m_X10_coneBy {l : Launch} {D : va_G} {tc : Nat → ClassId} (hl : l.stackTraces = false) {h : HM} {m0 kl wk : Nat} {L : Nat → Nat} {E : Nat → Nat} {M : Nat → Int32} {ca : Nat → Nat} {ga : Nat → Nat} {pa : Nat → Nat} {oa : Nat → Nat} {ra : Nat → Nat} {th : Int32} {nC : Nat} {cs : Nat → Int32 × Int32} {nG : Nat} {gs : Nat → GT} {nP : Nat} {ps : Nat → PT} {nO : Nat} {os : Nat → OT} {nR : Nat} {rs : Nat → RT} {k : KT} {dmp : Int32} {day : Int32} {pur : Int32} {rf : Int32} (YY : Mh tc m0 kl wk L E M ca ga pa oa ra th nC cs nG gs nP ps nO os nR rs k dmp day pur rf h) (hk : okk k) (hL : okL nR k) (hRr : okR9 nR rs) {s m : Nat} (hs : s < 3) (hm : m ≤ 60) :
    CT l D tc yX10_coneBy cX10_coneBy 5 (some FieldType.int) rm_X10_coneBy [.ref m0, .int (nI s), .int (nI m)] h (rI (fun z h' => z = sp_wc nR rs k s m ∧ Fr [] h h')) := by
  refine CT.start [some (.ref m0), some (.int (nI s)), some (.int (nI m)), none, none] (by decide) hl rfl rfl (fun K C M => ?_)
  obtain ⟨rfl, rfl, rfl, -⟩ := id M
  have C : CX K RX10 cX10_coneBy 5 rm_X10_coneBy := C
  obtain ⟨mm, mL, mk, mw, mCl, mGl, mPt, mOr, mRm, mn1, mn2, mn3⟩ := id YY
  have hR5 := hRr.1
  first | refine w_aload_n C dX10_coneBy_0 (by rfl) ?_ | refine w_aload_nN C dX10_coneBy_0 (by rfl) ?_
  refine gf_X10_28 C mm dX10_coneBy_1 ?_
  refine cl_X10_301 C (m_X8_copy hl mk mw YY.lr YY.ar (fun i hi => Or.inl ⟨_, _, mRm i hi⟩) (by omega)) mk (by rfl) (by rfl) ⟨by decide, by decide⟩ (by rfl) dX10_coneBy_4 (fun z1 h1 p1 => ?_)
  obtain ⟨q, rq, w, el', rfl, nq, nrq, nw, hel, g1, g2, g3, g4, fr⟩ := p1
  have cc := (⟨g1, g2, g3, g4, fun i hi => fr _ _ List.not_mem_nil (mRm i hi)⟩ : CKh (Kt K) q rq w el' nR ra rs (cpk k) _)
  first | refine w_astore_3 C dX10_coneBy_7 (by first | trivial | rfl) ?_ | refine w_astore_3N C dX10_coneBy_7 (by first | trivial | rfl) ?_
  refine w_iconst (v := 0) C dX10_coneBy_8 (by rfl) ?_
  refine w_istore_4 C dX10_coneBy_9 (by first | trivial | rfl) ?_
  have fr0 := fr
  refine lp_X10_coneBy C hl hk hL hRr hm (fun h9 cc9 fr9 => ?_) 0 (by omega) cc (h0 := h) ((fr0.sub (by simp)))
  first | refine w_aload_n C dX10_coneBy_27 (by rfl) ?_ | refine w_aload_nN C dX10_coneBy_27 (by rfl) ?_
  refine w_iload_n C dX10_coneBy_28 (by rfl) ?_
  refine cl_X10_242 C (m_X8_cone hl cc9.1 cc9.2.2.2.1 hs) cc9.1 (by rfl) (by rfl) ⟨by decide, by decide⟩ (by rfl) dX10_coneBy_29 (fun z2 h2 p2 => ?_)
  obtain ⟨rfl, rfl⟩ := p2
  refine w_iret C M dX10_coneBy_32 ⟨by decide, by decide⟩ ⟨_, rfl, ?_⟩
  refine ⟨?_, fr9.fresh (by intro b m9; simp at m9; rcases m9 with m9 | m9 <;> rw [m9] <;> assumption)⟩
  unfold sp_wc
  rw [(run_sim (sim_cpk k) m).2.2.2.2.2.2 s hs]

set_option maxHeartbeats 4000000 in
set_option maxRecDepth 100000 in
theorem m_X10_wouldCone {l : Launch} {D : va_G} {tc : Nat → ClassId} (hl : l.stackTraces = false) {h : HM} {m0 kl wk : Nat} {L : Nat → Nat} {E : Nat → Nat} {M : Nat → Int32} {ca : Nat → Nat} {ga : Nat → Nat} {pa : Nat → Nat} {oa : Nat → Nat} {ra : Nat → Nat} {th : Int32} {nC : Nat} {cs : Nat → Int32 × Int32} {nG : Nat} {gs : Nat → GT} {nP : Nat} {ps : Nat → PT} {nO : Nat} {os : Nat → OT} {nR : Nat} {rs : Nat → RT} {k : KT} {dmp : Int32} {day : Int32} {pur : Int32} {rf : Int32} (YY : Mh tc m0 kl wk L E M ca ga pa oa ra th nC cs nG gs nP ps nO os nR rs k dmp day pur rf h) (hk : okk k) (hL : okL nR k) (hRr : okR9 nR rs) {i st : Int32} :
    CT l D tc yX10_wouldCone cX10_wouldCone 3 (some FieldType.int) rm_X10_wouldCone [.ref m0, .int i, .int st] h (rI (fun z h' => (out9 i 3 ∧ z = 0 ∧ MhE tc m0 kl wk 1 nC cs nG gs nP ps nO os nR rs k dmp day pur rf h') ∨ (∃ s, s < 3 ∧ i = nI s ∧ ((¬ (1 ≤ st ∧ st ≤ 60) ∧ z = 0 ∧ MhE tc m0 kl wk 2 nC cs nG gs nP ps nO os nR rs k dmp day pur rf h') ∨ (∃ m, (1 ≤ m ∧ m ≤ 60) ∧ st = nI m ∧ z = sp_wc nR rs k s m ∧ MhE tc m0 kl wk 0 nC cs nG gs nP ps nO os nR rs k dmp day pur rf h'))))) := by
  refine CT.start [some (.ref m0), some (.int i), some (.int st)] (by decide) hl rfl rfl (fun K C M => ?_)
  obtain ⟨rfl, rfl, rfl, -⟩ := id M
  have C : CX K RX10 cX10_wouldCone 3 rm_X10_wouldCone := C
  obtain ⟨mm, mL, mk, mw, mCl, mGl, mPt, mOr, mRm, mn1, mn2, mn3⟩ := id YY
  first | refine w_aload_n C dX10_wouldCone_0 (by rfl) ?_ | refine w_aload_nN C dX10_wouldCone_0 (by rfl) ?_
  refine w_iload_n C dX10_wouldCone_1 (by rfl) ?_
  refine cl_X10_167 C (m_X10_isNoShelf hl) (by rfl) (by rfl) ⟨by decide, by decide⟩ (by rfl) dX10_wouldCone_2 (fun z1 h1 p1 => ?_)
  obtain ⟨rfl, p_3⟩ := p1
  rcases p_3 with ⟨rfl, c_3⟩ | ⟨rfl, s, hs, rfl⟩
  · 
    refine w_iconst (v := 1) C dX10_wouldCone_5 (by rfl) ?_
    refine cl_X10_88 C (m_X10_startT hl mm (by decide)) mm (by rfl) (by rfl) ⟨by decide, by decide⟩ (by rfl) dX10_wouldCone_6 (fun z2 h2 p2 => ?_)
    obtain ⟨rfl, p2⟩ := p2
    have YY := YY.me (th2 := 1) (day2 := day) (dmp2 := dmp) (pur2 := pur) (rf2 := rf) p2
    obtain ⟨mm, mL, mk, mw, mCl, mGl, mPt, mOr, mRm, mn1, mn2, mn3⟩ := id YY
    refine w_if_ne (tgt := 35) C dX10_wouldCone_9 (by rfl) (fun c_9 => ?_) (fun c_9 => ?_)
    · try simp only [cg_ge, cg_gt, cl_gt, cl_le, cl_eq, cl_lt, cl_ge, bi_eq0, bi_ne0, bI_eq0, Decidable.not_not, Bool.not_eq_false] at c_9
      refine w_iconst (v := 0) C dX10_wouldCone_35 (by rfl) ?_
      refine w_goto (tgt := 45) C dX10_wouldCone_36 (by rfl) ?_
      refine w_iret C M dX10_wouldCone_45 ⟨by decide, by decide⟩ ⟨_, rfl, ?_⟩
      exact Or.inl ⟨c_3, rfl, YY.ex⟩
    · exact absurd c_9 (by decide)
  · 
    refine w_iconst (v := 1) C dX10_wouldCone_5 (by rfl) ?_
    refine cl_X10_88 C (m_X10_startF hl mm) mm (by rfl) (by rfl) ⟨by decide, by decide⟩ (by rfl) dX10_wouldCone_6 (fun z3 h3 p3 => ?_)
    obtain ⟨rfl, p3⟩ := p3
    have YY := YY.me (th2 := 0) (day2 := day) (dmp2 := dmp) (pur2 := pur) (rf2 := rf) p3
    obtain ⟨mm, mL, mk, mw, mCl, mGl, mPt, mOr, mRm, mn1, mn2, mn3⟩ := id YY
    refine w_if_ne (tgt := 35) C dX10_wouldCone_9 (by rfl) (fun c_9 => ?_) (fun c_9 => ?_)
    · exact absurd c_9 (by decide)
    · try simp only [cg_ge, cg_gt, cl_gt, cl_le, cl_eq, cl_lt, cl_ge, bi_eq0, bi_ne0, bI_eq0, Decidable.not_not, Bool.not_eq_false] at c_9
      first | refine w_aload_n C dX10_wouldCone_12 (by rfl) ?_ | refine w_aload_nN C dX10_wouldCone_12 (by rfl) ?_
      refine w_iload_n C dX10_wouldCone_13 (by rfl) ?_
      refine w_iconst (v := 1) C dX10_wouldCone_14 (by rfl) ?_
      refine w_bipush (v := (60)) C dX10_wouldCone_15 (by rfl) ?_
      refine cl_X10_44 C (m_X10_isIn hl) (by rfl) (by rfl) ⟨by decide, by decide⟩ (by rfl) dX10_wouldCone_17 (fun z4 h4 p4 => ?_)
      obtain ⟨rfl, rfl⟩ := p4
      refine w_if_ne (tgt := 27) C dX10_wouldCone_20 (by rfl) (fun c_20 => ?_) (fun c_20 => ?_)
      · try simp only [cg_ge, cg_gt, cl_gt, cl_le, cl_eq, cl_lt, cl_ge, bi_eq0, bi_ne0, bI_eq0, Decidable.not_not, Bool.not_eq_false] at c_20
        refine w_iconst (v := 0) C dX10_wouldCone_27 (by rfl) ?_
        refine w_iconst (v := 2) C dX10_wouldCone_28 (by rfl) ?_
        refine cl_X10_36 C (m_X10_refuseF hl mm) mm (by rfl) (by rfl) ⟨by decide, by decide⟩ (by rfl) dX10_wouldCone_29 (fun z5 h5 p5 => ?_)
        obtain ⟨rfl, rfl⟩ := p5
        refine w_if_eq (tgt := 39) C dX10_wouldCone_32 (by rfl) (fun c_32 => ?_) (fun c_32 => ?_)
        · try simp only [cg_ge, cg_gt, cl_gt, cl_le, cl_eq, cl_lt, cl_ge, bi_eq0, bi_ne0, bI_eq0, Decidable.not_not, Bool.not_eq_false] at c_32
          obtain ⟨m, hm, rfl⟩ := rng1 (n := 60) (by decide) c_20
          first | refine w_aload_n C dX10_wouldCone_39 (by rfl) ?_ | refine w_aload_nN C dX10_wouldCone_39 (by rfl) ?_
          refine w_iload_n C dX10_wouldCone_40 (by rfl) ?_
          refine w_iload_n C dX10_wouldCone_41 (by rfl) ?_
          refine cl_X10_305 C (m_X10_coneBy hl YY hk hL hRr hs hm.2) mm (by rfl) (by rfl) ⟨by decide, by decide⟩ (by rfl) dX10_wouldCone_42 (fun z6 h6 p6 => ?_)
          obtain ⟨rfl, fr9⟩ := p6
          have YY := YY.fr0 fr9
          refine w_iret C M dX10_wouldCone_45 ⟨by decide, by decide⟩ ⟨_, rfl, ?_⟩
          exact Or.inr ⟨s, hs, rfl, Or.inr ⟨m, hm, rfl, rfl, YY.ex⟩⟩
        · exact absurd c_32 (by decide)
      · try simp only [cg_ge, cg_gt, cl_gt, cl_le, cl_eq, cl_lt, cl_ge, bi_eq0, bi_ne0, bI_eq0, Decidable.not_not, Bool.not_eq_false] at c_20
        refine w_iconst (v := 1) C dX10_wouldCone_23 (by rfl) ?_
        refine w_goto (tgt := 28) C dX10_wouldCone_24 (by rfl) ?_
        refine w_iconst (v := 2) C dX10_wouldCone_28 (by rfl) ?_
        refine cl_X10_36 C (m_X10_refuseT hl mm (by decide)) mm (by rfl) (by rfl) ⟨by decide, by decide⟩ (by rfl) dX10_wouldCone_29 (fun z7 h7 p7 => ?_)
        obtain ⟨rfl, p7⟩ := p7
        have YY := YY.me (th2 := 2) (day2 := day) (dmp2 := dmp) (pur2 := pur) (rf2 := rf) p7
        obtain ⟨mm, mL, mk, mw, mCl, mGl, mPt, mOr, mRm, mn1, mn2, mn3⟩ := id YY
        refine w_if_eq (tgt := 39) C dX10_wouldCone_32 (by rfl) (fun c_32 => ?_) (fun c_32 => ?_)
        · exact absurd c_32 (by decide)
        · try simp only [cg_ge, cg_gt, cl_gt, cl_le, cl_eq, cl_lt, cl_ge, bi_eq0, bi_ne0, bI_eq0, Decidable.not_not, Bool.not_eq_false] at c_32
          refine w_iconst (v := 0) C dX10_wouldCone_35 (by rfl) ?_
          refine w_goto (tgt := 45) C dX10_wouldCone_36 (by rfl) ?_
          refine w_iret C M dX10_wouldCone_45 ⟨by decide, by decide⟩ ⟨_, rfl, ?_⟩
          exact Or.inr ⟨s, hs, rfl, Or.inl ⟨c_20, rfl, YY.ex⟩⟩

set_option maxHeartbeats 4000000 in
set_option maxRecDepth 100000 in
theorem lp_X10_ending {K : KC} (C : CX K RX10 cX10_ending 3 rm_X10_ending) (hl : (Kl K).stackTraces = false) {h0 : HM} {q rq w el nR : Nat} {ra : Nat → Nat} {rs : Nat → RT} {k : KT} (hk : okk k) (hL : okL nR k) (hRr : okR9 nR rs) {m0 : Nat} {h9 : HM} {P : Int32 → HM → Prop} (M9 : MX K (KD K) (Kt K) (Kl K) rm_X10_ending (some FieldType.int) h9 (rI P) yX10_ending.name) (fin : ∀ h' z, z = sp_end nR rs (cpk k) 300 0 → Fr [q, w] h0 h' → P z h')
    : ∀ j : Nat, j ≤ 301 → ∀ {h : HM},  (cc : CKh (Kt K) q rq w el nR ra rs (sp_run nR rs (cpk k) j) h) → (fr : Fr [q, w] h0 h) → (he : sp_end nR rs (cpk k) 300 0 = if j ≤ 300 then sp_end nR rs (cpk k) (300 - j) j else -1) → WW K (5, 47) 10 [some (.ref m0), some (.ref q), some (.int (nI j))] [] h := by
  refine up_ind ?_
  intro j hj ih h cc fr he
  obtain ⟨hk9, hL9⟩ := run_ok (okk_cpk hk) (show okL nR (cpk k) from hL) hRr j
  have M := M9
  refine w_iload_n C dX10_ending_10 (by rfl) ?_
  refine w_sipush (v := (300)) C dX10_ending_11 (by rfl) ?_
  refine w_icmp_gt (tgt := 36) C dX10_ending_14 (by rfl) (fun c_14 => ?_) (fun c_14 => ?_)
  · have e3 : ¬ j ≤ 300 := fun q => absurd c_14 (nI_nlt q (by decide))
    rw [if_neg e3] at he
    refine w_iconst (v := (-1)) C dX10_ending_36 (by rfl) ?_
    refine w_iret C M dX10_ending_37 ⟨by decide, by decide⟩ ⟨_, rfl, ?_⟩
    exact fin _ _ he.symm fr
  · have hj3 : j ≤ 300 := Nat.not_lt.mp (fun q => c_14 (nI_lt (a := 300) q (by omega)))
    rw [if_pos hj3] at he
    first | refine w_aload_n C dX10_ending_17 (by rfl) ?_ | refine w_aload_nN C dX10_ending_17 (by rfl) ?_
    refine gf_X10_48 C cc.1 dX10_ending_18 ?_
    refine w_if_ne (tgt := 26) C dX10_ending_21 (by rfl) (fun c_21 => ?_) (fun c_21 => ?_)
    · try simp only [cg_ge, cg_gt, cl_gt, cl_le, cl_eq, cl_lt, cl_ge, bi_eq0, bi_ne0, bI_eq0, Decidable.not_not, Bool.not_eq_false] at c_21
      first | refine w_aload_n C dX10_ending_26 (by rfl) ?_ | refine w_aload_nN C dX10_ending_26 (by rfl) ?_
      refine cl_X10_204 C (m_X8_step hl cc.1 cc.2.1 cc.2.2.1 cc.2.2.2.2 hRr.1 hL9 cc.2.2.2.1 hk9 hRr) cc.1 (by rfl) (by rfl) ⟨by decide, by decide⟩ (by rfl) dX10_ending_27 (fun h1 p1 => ?_)
      obtain ⟨g1, g2, fr1⟩ := p1
      have cc := cc.go (k2 := sp_run nR rs (cpk k) (j + 1)) g1 g2 fr1
      have fr := fr.tr (fr1.sub (by simp))
      refine w_iinc_2 (v := _ + (1)) C dX10_ending_30 (by rfl) (by first | trivial | rfl) ?_
      refine w_goto (tgt := 10) C dX10_ending_33 (by rfl) ?_
      rw [nI_1 j]
      have he : sp_end nR rs (cpk k) 300 0 = if j + 1 ≤ 300 then sp_end nR rs (cpk k) (300 - (j + 1)) (j + 1) else -1 := by
        rw [he]
        by_cases e : j = 300
        · subst e
          rw [if_neg (by decide), show 300 - 300 = 0 from rfl, end_lit0 c_21]
        · rw [if_pos (by omega), show 300 - j = (300 - (j + 1)) + 1 by omega, end_lit c_21]
      exact w_sub (ih (by omega) cc fr he) (by repeat' first | exact trivial | rfl | constructor)
    · try simp only [cg_ge, cg_gt, cl_gt, cl_le, cl_eq, cl_lt, cl_ge, bi_eq0, bi_ne0, bI_eq0, Decidable.not_not, Bool.not_eq_false] at c_21
      refine w_iload_n C dX10_ending_24 (by rfl) ?_
      refine w_iret C M dX10_ending_25 ⟨by decide, by decide⟩ ⟨_, rfl, ?_⟩
      exact fin _ _ (by rw [he, end_out c_21]) fr

set_option maxHeartbeats 4000000 in
set_option maxRecDepth 100000 in
theorem m_X10_ending {l : Launch} {D : va_G} {tc : Nat → ClassId} (hl : l.stackTraces = false) {h : HM} {m0 kl wk : Nat} {L : Nat → Nat} {E : Nat → Nat} {M : Nat → Int32} {ca : Nat → Nat} {ga : Nat → Nat} {pa : Nat → Nat} {oa : Nat → Nat} {ra : Nat → Nat} {th : Int32} {nC : Nat} {cs : Nat → Int32 × Int32} {nG : Nat} {gs : Nat → GT} {nP : Nat} {ps : Nat → PT} {nO : Nat} {os : Nat → OT} {nR : Nat} {rs : Nat → RT} {k : KT} {dmp : Int32} {day : Int32} {pur : Int32} {rf : Int32} (YY : Mh tc m0 kl wk L E M ca ga pa oa ra th nC cs nG gs nP ps nO os nR rs k dmp day pur rf h) (hk : okk k) (hL : okL nR k) (hRr : okR9 nR rs) :
    CT l D tc yX10_ending cX10_ending 3 (some FieldType.int) rm_X10_ending [.ref m0] h (rI (fun z h' => z = sp_end nR rs k 300 0 ∧ Fr [] h h')) := by
  refine CT.start [some (.ref m0), none, none] (by decide) hl rfl rfl (fun K C M => ?_)
  obtain ⟨rfl, rfl, rfl, -⟩ := id M
  have C : CX K RX10 cX10_ending 3 rm_X10_ending := C
  obtain ⟨mm, mL, mk, mw, mCl, mGl, mPt, mOr, mRm, mn1, mn2, mn3⟩ := id YY
  have hR5 := hRr.1
  first | refine w_aload_n C dX10_ending_0 (by rfl) ?_ | refine w_aload_nN C dX10_ending_0 (by rfl) ?_
  refine gf_X10_28 C mm dX10_ending_1 ?_
  refine cl_X10_301 C (m_X8_copy hl mk mw YY.lr YY.ar (fun i hi => Or.inl ⟨_, _, mRm i hi⟩) (by omega)) mk (by rfl) (by rfl) ⟨by decide, by decide⟩ (by rfl) dX10_ending_4 (fun z1 h1 p1 => ?_)
  obtain ⟨q, rq, w, el', rfl, nq, nrq, nw, hel, g1, g2, g3, g4, fr⟩ := p1
  have cc := (⟨g1, g2, g3, g4, fun i hi => fr _ _ List.not_mem_nil (mRm i hi)⟩ : CKh (Kt K) q rq w el' nR ra rs (cpk k) _)
  first | refine w_astore_1 C dX10_ending_7 (by first | trivial | rfl) ?_ | refine w_astore_1N C dX10_ending_7 (by first | trivial | rfl) ?_
  refine w_iconst (v := 0) C dX10_ending_8 (by rfl) ?_
  refine w_istore_2 C dX10_ending_9 (by first | trivial | rfl) ?_
  exact lp_X10_ending C hl hk hL hRr M (fun h9 z9 e9 fr9 => ⟨e9.trans (end_sim (sim_cpk k) 300 0), fr9.fresh (by intro b m9; simp at m9; rcases m9 with m9 | m9 <;> rw [m9] <;> assumption)⟩) 0 (by omega) cc (fr.sub (by simp)) rfl

set_option maxHeartbeats 4000000 in
set_option maxRecDepth 100000 in
theorem m_X10_wouldEnd {l : Launch} {D : va_G} {tc : Nat → ClassId} (hl : l.stackTraces = false) {h : HM} {m0 kl wk : Nat} {L : Nat → Nat} {E : Nat → Nat} {M : Nat → Int32} {ca : Nat → Nat} {ga : Nat → Nat} {pa : Nat → Nat} {oa : Nat → Nat} {ra : Nat → Nat} {th : Int32} {nC : Nat} {cs : Nat → Int32 × Int32} {nG : Nat} {gs : Nat → GT} {nP : Nat} {ps : Nat → PT} {nO : Nat} {os : Nat → OT} {nR : Nat} {rs : Nat → RT} {k : KT} {dmp : Int32} {day : Int32} {pur : Int32} {rf : Int32} (YY : Mh tc m0 kl wk L E M ca ga pa oa ra th nC cs nG gs nP ps nO os nR rs k dmp day pur rf h) (hk : okk k) (hL : okL nR k) (hRr : okR9 nR rs) :
    CT l D tc yX10_wouldEnd cX10_wouldEnd 1 (some FieldType.int) rm_X10_wouldEnd [.ref m0] h (rI (fun z h' => z = sp_end nR rs k 300 0 ∧ MhE tc m0 kl wk 0 nC cs nG gs nP ps nO os nR rs k dmp day pur rf h')) := by
  refine CT.start [some (.ref m0)] (by decide) hl rfl rfl (fun K C M => ?_)
  obtain ⟨rfl, rfl, rfl, -⟩ := id M
  have C : CX K RX10 cX10_wouldEnd 1 rm_X10_wouldEnd := C
  obtain ⟨mm, mL, mk, mw, mCl, mGl, mPt, mOr, mRm, mn1, mn2, mn3⟩ := id YY
  first | refine w_aload_n C dX10_wouldEnd_0 (by rfl) ?_ | refine w_aload_nN C dX10_wouldEnd_0 (by rfl) ?_
  refine w_iconst (v := 0) C dX10_wouldEnd_1 (by rfl) ?_
  refine pf_X10_32 C mm dX10_wouldEnd_2 (fun h1 u1 => ?_)
  have mm := u1.self
  have YY := YY.me (th2 := 0) (day2 := day) (dmp2 := dmp) (pur2 := pur) (rf2 := rf) u1
  obtain ⟨mm, mL, mk, mw, mCl, mGl, mPt, mOr, mRm, mn1, mn2, mn3⟩ := id YY
  first | refine w_aload_n C dX10_wouldEnd_5 (by rfl) ?_ | refine w_aload_nN C dX10_wouldEnd_5 (by rfl) ?_
  refine cl_X10_308 C (m_X10_ending hl YY hk hL hRr) mm (by rfl) (by rfl) ⟨by decide, by decide⟩ (by rfl) dX10_wouldEnd_6 (fun z2 h2 p2 => ?_)
  obtain ⟨rfl, fr9⟩ := p2
  have YY := YY.fr0 fr9
  refine w_iret C M dX10_wouldEnd_9 ⟨by decide, by decide⟩ ⟨_, rfl, ?_⟩
  exact ⟨rfl, YY.ex⟩

theorem msk_tbl : ∀ r : Fin 11, ((2 : Int32) <<< (nI r.1 &&& 31)) - 1 = nI (2 ^ (r.1 + 1) - 1) := by decide +kernel
theorem msk {r : Nat} (h : r ≤ 10) : ((2 : Int32) <<< (nI r &&& 31)) - 1 = nI (2 ^ (r + 1) - 1) := msk_tbl ⟨r, by omega⟩
theorem nI_dc9 (n : Nat) : nI (n + 1) + (-1) = nI n := by rw [← nI_1, Int32.add_assoc, show (1 : Int32) + (-1) = 0 from by decide, Int32.add_zero]
theorem sr_14 {nP : Nat} {ps : Nat → PT} {hi : Int32} {r : Nat} (h : nP ≤ 14) : sp_sr nP ps hi r nP = sp_sr nP ps hi r 14 := by
  have : ∀ d, sp_sr nP ps hi r (nP + d) = sp_sr nP ps hi r nP := by
    intro d
    induction d with
    | zero => rfl
    | succ d ih => exact (if_neg (fun a => absurd a.1 (Nat.not_lt.mpr (Nat.le_add_right nP d)))).trans ih
  have := this (14 - nP)
  rw [show nP + (14 - nP) = 14 by omega] at this
  exact this.symm
theorem sr_t {nP : Nat} {ps : Nat → PT} {hi : Int32} {r j : Nat} (h : j < nP) (g : qSh (ps j).2.2 = -1 ∧ (qSt (ps j).2.2 = 1 ∨ qSt (ps j).2.2 = 3)) (f : qHg (ps j).2.2 ≤ hi) : sp_sr nP ps hi r j ||| ((sp_sr nP ps hi r j <<< (qWd (ps j).2.2 &&& 31)) &&& nI (2 ^ (r + 1) - 1)) = sp_sr nP ps hi r (j + 1) := (if_pos ⟨h, g, f⟩).symm
theorem sr_f {nP : Nat} {ps : Nat → PT} {hi : Int32} {r j : Nat} (h : ¬ (j < nP ∧ (qSh (ps j).2.2 = -1 ∧ (qSt (ps j).2.2 = 1 ∨ qSt (ps j).2.2 = 3)) ∧ qHg (ps j).2.2 ≤ hi)) : sp_sr nP ps hi r j = sp_sr nP ps hi r (j + 1) := (if_neg h).symm

set_option maxHeartbeats 4000000 in
set_option maxRecDepth 100000 in
theorem lp_X10_holding {K : KC} (C : CX K RX10 cX10_holding 6 rm_X10_holding) (hl : (Kl K).stackTraces = false) {h0 : HM} {m0 kl wk : Nat} {L : Nat → Nat} {E : Nat → Nat} {M : Nat → Int32} {ca : Nat → Nat} {ga : Nat → Nat} {pa : Nat → Nat} {oa : Nat → Nat} {ra : Nat → Nat} {th : Int32} {nC : Nat} {cs : Nat → Int32 × Int32} {nG : Nat} {gs : Nat → GT} {nP : Nat} {ps : Nat → PT} {nO : Nat} {os : Nat → OT} {nR : Nat} {rs : Nat → RT} {k : KT} {dmp : Int32} {day : Int32} {pur : Int32} {rf : Int32} (YY0 : Mh (Kt K) m0 kl wk L E M ca ga pa oa ra th nC cs nG gs nP ps nO os nR rs k dmp day pur rf h0) (hn : nP ≤ 14) (hW : ∀ i, i < nP → okSum (ps i).2.2) {q s r : Nat} (nq : h0 q = none) (hr : r ≤ 10)
    (kk : ∀ h', Fr [] h0 h' → WW K (11, 44) 97 [some (.ref m0), some (.int (nI s)), some (.int (nI r)), some (.int (sp_sr nP ps (if nI s = 2 then 2 else 3) r nP)), some (.ref q), none] [] h')
    : ∀ j : Nat, j ≤ nP → ∀ {h : HM} {lr : Int32},  (fr : Fr [] h0 h) → (hI : h q = some (itC j lr (M 2) (L 2))) → WW K (11, 44) 17 [some (.ref m0), some (.int (nI s)), some (.int (nI r)), some (.int (sp_sr nP ps (if nI s = 2 then 2 else 3) r j)), some (.ref q), none] [] h := by
  refine up_ind ?_
  intro j hj ih h lr fr hI
  have YY := YY0.fr0 fr
  obtain ⟨mm, mL, mk, mw, mCl, mGl, mPt, mOr, mRm, mn1, mn2, mn3⟩ := id YY
  first | refine w_aload C dX10_holding_17 (by rfl) ?_ | refine w_aloadN C dX10_holding_17 (by rfl) ?_
  refine w_hasN C hl YY.lp hI hj (by omega) gw_1257 (by rfl) (by rfl) ⟨by decide, by decide⟩ (by rfl) dX10_holding_19 ?_
  refine w_if_eq (tgt := 97) C dX10_holding_24 (by rfl) (fun c_24 => ?_) (fun c_24 => ?_)
  · try simp only [cg_ge, cg_gt, cl_gt, cl_le, cl_eq, cl_lt, cl_ge, bi_eq0, bi_ne0, bI_eq0, Decidable.not_not, Bool.not_eq_false] at c_24
    obtain rfl : j = nP := by omega
    exact kk _ fr
  · try simp only [cg_ge, cg_gt, cl_gt, cl_le, cl_eq, cl_lt, cl_ge, bi_eq0, bi_ne0, bI_eq0, Decidable.not_not, Bool.not_eq_false] at c_24
    have hj3 : j < nP := by assumption
    obtain ⟨cap, hE, hcn, hcap⟩ := YY.ap.get hj3
    first | refine w_aload C dX10_holding_27 (by rfl) ?_ | refine w_aloadN C dX10_holding_27 (by rfl) ?_
    refine w_next C hl YY.lp hI hE hj3 hcn hcap (row9_i hj3) gw_1267 (by rfl) (by rfl) ⟨by decide, by decide⟩ (by rfl) dX10_holding_29 (fun h9 u9 => ?_)
    have fr := fr.itn nq u9
    have YY := YY0.fr0 fr
    have hI := u9.self
    obtain ⟨mm, mL, mk, mw, mCl, mGl, mPt, mOr, mRm, mn1, mn2, mn3⟩ := id YY
    have hpj := mPt j hj3
    refine w_castS C hpj (r := (RX9, TX9, 12)) rfl gw_1152 dX10_holding_34 ?_
    first | refine w_astore_5 C dX10_holding_37 (by first | trivial | rfl) ?_ | refine w_astore_5N C dX10_holding_37 (by first | trivial | rfl) ?_
    first | refine w_aload C dX10_holding_39 (by rfl) ?_ | refine w_aloadN C dX10_holding_39 (by rfl) ?_
    refine gf_X10_124 C hpj dX10_holding_41 ?_
    refine w_iconst (v := 1) C dX10_holding_44 (by rfl) ?_
    refine w_icmp_eq (tgt := 57) C dX10_holding_45 (by rfl) (fun c_45 => ?_) (fun c_45 => ?_)
    · first | refine w_aload C dX10_holding_57 (by rfl) ?_ | refine w_aloadN C dX10_holding_57 (by rfl) ?_
      refine gf_X10_150 C hpj dX10_holding_59 ?_
      refine w_iconst (v := (-1)) C dX10_holding_62 (by rfl) ?_
      refine w_icmp_ne (tgt := 94) C dX10_holding_63 (by rfl) (fun c_63 => ?_) (fun c_63 => ?_)
      · have g9 := sr_f (nP := nP) (ps := ps) (hi := (if nI s = 2 then 2 else 3)) (r := r) (j := j) (fun w => c_63 w.2.1.1)
        refine w_goto (tgt := 17) C dX10_holding_94 (by rfl) ?_
        first
          | rw [g9]
          | skip
        exact w_sub (ih hj3 fr hI) (by repeat' first | exact trivial | rfl | constructor)
      · first | refine w_aload C dX10_holding_66 (by rfl) ?_ | refine w_aloadN C dX10_holding_66 (by rfl) ?_
        refine gf_X10_173 C hpj dX10_holding_68 ?_
        refine w_iload_n C dX10_holding_71 (by rfl) ?_
        refine cl_X10_176 C (m_X10_high hl) (by rfl) (by rfl) ⟨by decide, by decide⟩ (by rfl) dX10_holding_72 (fun z1 h1 p1 => ?_)
        obtain ⟨rfl, rfl⟩ := p1
        refine w_icmp_gt (tgt := 94) C dX10_holding_75 (by rfl) (fun c_75 => ?_) (fun c_75 => ?_)
        · have g9 := sr_f (nP := nP) (ps := ps) (hi := (if nI s = 2 then 2 else 3)) (r := r) (j := j) (fun w => absurd w.2.2 (Int32.not_le.mpr c_75))
          refine w_goto (tgt := 17) C dX10_holding_94 (by rfl) ?_
          first
            | rw [g9]
            | skip
          exact w_sub (ih hj3 fr hI) (by repeat' first | exact trivial | rfl | constructor)
        · have c_75 : qHg (ps j).2.2 ≤ (if nI s = 2 then 2 else 3) := Int32.not_lt.mp c_75
          refine w_iload_n C dX10_holding_78 (by rfl) ?_
          refine w_iload_n C dX10_holding_79 (by rfl) ?_
          first | refine w_aload C dX10_holding_80 (by rfl) ?_ | refine w_aloadN C dX10_holding_80 (by rfl) ?_
          refine gf_X10_156 C hpj dX10_holding_82 ?_
          refine w_ishl C dX10_holding_85 ?_
          refine w_iconst (v := 2) C dX10_holding_86 (by rfl) ?_
          refine w_iload_n C dX10_holding_87 (by rfl) ?_
          refine w_ishl C dX10_holding_88 ?_
          refine w_iconst (v := 1) C dX10_holding_89 (by rfl) ?_
          refine w_isub C dX10_holding_90 ?_
          rw [msk hr]
          refine w_iand C dX10_holding_91 ?_
          refine w_ior C dX10_holding_92 ?_
          have g9 := sr_t (r := r) hj3 ⟨c_63, Or.inl c_45⟩ c_75
          refine w_istore_3 C dX10_holding_93 (by first | trivial | rfl) ?_
          refine w_goto (tgt := 17) C dX10_holding_94 (by rfl) ?_
          first
            | rw [g9]
            | skip
          exact w_sub (ih hj3 fr hI) (by repeat' first | exact trivial | rfl | constructor)
    · first | refine w_aload C dX10_holding_48 (by rfl) ?_ | refine w_aloadN C dX10_holding_48 (by rfl) ?_
      refine gf_X10_124 C hpj dX10_holding_50 ?_
      refine w_iconst (v := 3) C dX10_holding_53 (by rfl) ?_
      refine w_icmp_ne (tgt := 94) C dX10_holding_54 (by rfl) (fun c_54 => ?_) (fun c_54 => ?_)
      · have g9 := sr_f (nP := nP) (ps := ps) (hi := (if nI s = 2 then 2 else 3)) (r := r) (j := j) (fun w => by rcases w.2.1.2 with v | v; exact c_45 v; exact c_54 v)
        refine w_goto (tgt := 17) C dX10_holding_94 (by rfl) ?_
        first
          | rw [g9]
          | skip
        exact w_sub (ih hj3 fr hI) (by repeat' first | exact trivial | rfl | constructor)
      · first | refine w_aload C dX10_holding_57 (by rfl) ?_ | refine w_aloadN C dX10_holding_57 (by rfl) ?_
        refine gf_X10_150 C hpj dX10_holding_59 ?_
        refine w_iconst (v := (-1)) C dX10_holding_62 (by rfl) ?_
        refine w_icmp_ne (tgt := 94) C dX10_holding_63 (by rfl) (fun c_63 => ?_) (fun c_63 => ?_)
        · have g9 := sr_f (nP := nP) (ps := ps) (hi := (if nI s = 2 then 2 else 3)) (r := r) (j := j) (fun w => c_63 w.2.1.1)
          refine w_goto (tgt := 17) C dX10_holding_94 (by rfl) ?_
          first
            | rw [g9]
            | skip
          exact w_sub (ih hj3 fr hI) (by repeat' first | exact trivial | rfl | constructor)
        · first | refine w_aload C dX10_holding_66 (by rfl) ?_ | refine w_aloadN C dX10_holding_66 (by rfl) ?_
          refine gf_X10_173 C hpj dX10_holding_68 ?_
          refine w_iload_n C dX10_holding_71 (by rfl) ?_
          refine cl_X10_176 C (m_X10_high hl) (by rfl) (by rfl) ⟨by decide, by decide⟩ (by rfl) dX10_holding_72 (fun z2 h2 p2 => ?_)
          obtain ⟨rfl, rfl⟩ := p2
          refine w_icmp_gt (tgt := 94) C dX10_holding_75 (by rfl) (fun c_75 => ?_) (fun c_75 => ?_)
          · have g9 := sr_f (nP := nP) (ps := ps) (hi := (if nI s = 2 then 2 else 3)) (r := r) (j := j) (fun w => absurd w.2.2 (Int32.not_le.mpr c_75))
            refine w_goto (tgt := 17) C dX10_holding_94 (by rfl) ?_
            first
              | rw [g9]
              | skip
            exact w_sub (ih hj3 fr hI) (by repeat' first | exact trivial | rfl | constructor)
          · have c_75 : qHg (ps j).2.2 ≤ (if nI s = 2 then 2 else 3) := Int32.not_lt.mp c_75
            refine w_iload_n C dX10_holding_78 (by rfl) ?_
            refine w_iload_n C dX10_holding_79 (by rfl) ?_
            first | refine w_aload C dX10_holding_80 (by rfl) ?_ | refine w_aloadN C dX10_holding_80 (by rfl) ?_
            refine gf_X10_156 C hpj dX10_holding_82 ?_
            refine w_ishl C dX10_holding_85 ?_
            refine w_iconst (v := 2) C dX10_holding_86 (by rfl) ?_
            refine w_iload_n C dX10_holding_87 (by rfl) ?_
            refine w_ishl C dX10_holding_88 ?_
            refine w_iconst (v := 1) C dX10_holding_89 (by rfl) ?_
            refine w_isub C dX10_holding_90 ?_
            rw [msk hr]
            refine w_iand C dX10_holding_91 ?_
            refine w_ior C dX10_holding_92 ?_
            have g9 := sr_t (r := r) hj3 ⟨c_63, Or.inr c_54⟩ c_75
            refine w_istore_3 C dX10_holding_93 (by first | trivial | rfl) ?_
            refine w_goto (tgt := 17) C dX10_holding_94 (by rfl) ?_
            first
              | rw [g9]
              | skip
            exact w_sub (ih hj3 fr hI) (by repeat' first | exact trivial | rfl | constructor)

set_option maxHeartbeats 4000000 in
set_option maxRecDepth 100000 in
theorem lp_X10_hold2 {K : KC} (C : CX K RX10 cX10_holding 6 rm_X10_holding) (hl : (Kl K).stackTraces = false) {m0 nP : Nat} {ps : Nat → PT} {h : HM} (hW : ∀ i, i < nP → okSum (ps i).2.2) {s r : Nat} (hr : r ≤ 10)
    (kk : ∀ z, z = sp_wh (sp_sm nP ps (if nI s = 2 then 2 else 3) 14) r → WW K (11, 44) 115 [some (.ref m0), some (.int (nI s)), some (.int (nI r)), some (.int (sp_sr nP ps (if nI s = 2 then 2 else 3) r 14)), some (.int z), none] [] h)
    : ∀ j : Nat, j ≤ r →  (hs : sp_wh (sp_sm nP ps (if nI s = 2 then 2 else 3) 14) r = sp_wh (sp_sm nP ps (if nI s = 2 then 2 else 3) 14) (r - j)) → WW K (11, 44) 100 [some (.ref m0), some (.int (nI s)), some (.int (nI r)), some (.int (sp_sr nP ps (if nI s = 2 then 2 else 3) r 14)), some (.int (nI (r - j))), none] [] h := by
  refine up_ind ?_
  intro j hj ih  hs
  refine w_iload_n C dX10_holding_100 (by rfl) ?_
  refine w_iload C dX10_holding_101 (by rfl) ?_
  refine w_ishr C dX10_holding_103 ?_
  refine w_iconst (v := 1) C dX10_holding_104 (by rfl) ?_
  refine w_iand C dX10_holding_105 ?_
  refine w_if_ne (tgt := 115) C dX10_holding_106 (by rfl) (fun c_106 => ?_) (fun c_106 => ?_)
  · try simp only [cg_ge, cg_gt, cl_gt, cl_le, cl_eq, cl_lt, cl_ge, bi_eq0, bi_ne0, bI_eq0, Decidable.not_not, Bool.not_eq_false] at c_106
    have hb : ¬ ((sp_sm nP ps (if nI s = 2 then 2 else 3) 14) >>> (nI (r - j) &&& 31)) &&& 1 = 0 := fun w => c_106 ((sm_sr hr hW (by omega)).mp w)
    have ez : nI (r - j) = sp_wh (sp_sm nP ps (if nI s = 2 then 2 else 3) 14) r := by
      rw [hs]
      cases e : r - j with
      | zero => rfl
      | succ i => rw [e] at hb; exact (if_neg hb).symm
    rw [ez]
    exact kk _ rfl
  · try simp only [cg_ge, cg_gt, cl_gt, cl_le, cl_eq, cl_lt, cl_ge, bi_eq0, bi_ne0, bI_eq0, Decidable.not_not, Bool.not_eq_false] at c_106
    have hb : ((sp_sm nP ps (if nI s = 2 then 2 else 3) 14) >>> (nI (r - j) &&& 31)) &&& 1 = 0 := (sm_sr hr hW (by omega)).mpr c_106
    have hj3 : j < r := by
      rcases Nat.lt_or_ge j r with w | w
      · exact w
      · rw [show r - j = 0 by omega] at c_106
        exact absurd c_106 (sr_bit0 hr hW 14)
    have hs2 : sp_wh (sp_sm nP ps (if nI s = 2 then 2 else 3) 14) r = sp_wh (sp_sm nP ps (if nI s = 2 then 2 else 3) 14) (r - (j + 1)) := by
      rw [hs, show r - j = (r - (j + 1)) + 1 by omega]
      exact if_pos (by rw [← show r - j = (r - (j + 1)) + 1 by omega]; exact hb)
    refine w_iinc_4 (v := _ + (-1)) C dX10_holding_109 (by rfl) (by first | trivial | rfl) ?_
    refine w_goto (tgt := 100) C dX10_holding_112 (by rfl) ?_
    rw [show nI (r - j) + (-1) = nI (r - (j + 1)) from by rw [show r - j = (r - (j + 1)) + 1 by omega]; exact nI_dc9 _]
    exact w_sub (ih hj3 hs2) (by repeat' first | exact trivial | rfl | constructor)

set_option maxHeartbeats 4000000 in
set_option maxRecDepth 100000 in
theorem m_X10_holding {l : Launch} {D : va_G} {tc : Nat → ClassId} (hl : l.stackTraces = false) {h : HM} {m0 kl wk : Nat} {L : Nat → Nat} {E : Nat → Nat} {M : Nat → Int32} {ca : Nat → Nat} {ga : Nat → Nat} {pa : Nat → Nat} {oa : Nat → Nat} {ra : Nat → Nat} {th : Int32} {nC : Nat} {cs : Nat → Int32 × Int32} {nG : Nat} {gs : Nat → GT} {nP : Nat} {ps : Nat → PT} {nO : Nat} {os : Nat → OT} {nR : Nat} {rs : Nat → RT} {k : KT} {dmp : Int32} {day : Int32} {pur : Int32} {rf : Int32} (YY : Mh tc m0 kl wk L E M ca ga pa oa ra th nC cs nG gs nP ps nO os nR rs k dmp day pur rf h) (hn : nP ≤ 14) (hC : ∀ i, i < nP → okCe (ps i).2.2) (hW : ∀ i, i < nP → okSum (ps i).2.2) {s : Nat} (hs : s < 3) :
    CT l D tc yX10_holding cX10_holding 6 (some FieldType.int) rm_X10_holding [.ref m0, .int (nI s)] h (rI (fun z h' => z = sp_hold nP ps s ∧ Fr [] h h')) := by
  refine CT.start [some (.ref m0), some (.int (nI s)), none, none, none, none] (by decide) hl rfl rfl (fun K C M => ?_)
  obtain ⟨rfl, rfl, rfl, -⟩ := id M
  have C : CX K RX10 cX10_holding 6 rm_X10_holding := C
  obtain ⟨mm, mL, mk, mw, mCl, mGl, mPt, mOr, mRm, mn1, mn2, mn3⟩ := id YY
  have hs1 := nI_m1n hs
  obtain ⟨r, b9, hr, -, er⟩ := lr_nat (sp_tk nP ps (nI s) 14) 10 (by decide)
  have er1 : (sp_lr (sp_tk nP ps (nI s) 14) 10).1 = nI r := by rw [er]
  first | refine w_aload_n C dX10_holding_0 (by rfl) ?_ | refine w_aload_nN C dX10_holding_0 (by rfl) ?_
  refine w_iload_n C dX10_holding_1 (by rfl) ?_
  refine cl_X10_283 C (m_X10_row hl YY hn) mm (by rfl) (by rfl) ⟨by decide, by decide⟩ (by rfl) dX10_holding_2 (fun z1 h1 p1 => ?_)
  obtain ⟨rfl, fr9⟩ := p1
  rw [row_eq hn hs1 hC 10 (by decide), er1]
  have YY1 := YY.fr0 fr9
  have frA := fr9
  have YY := YY1
  obtain ⟨mm, mL, mk, mw, mCl, mGl, mPt, mOr, mRm, mn1, mn2, mn3⟩ := id YY
  refine w_istore_2 C dX10_holding_5 (by first | trivial | rfl) ?_
  refine w_iconst (v := 1) C dX10_holding_6 (by rfl) ?_
  refine w_istore_3 C dX10_holding_7 (by first | trivial | rfl) ?_
  first | refine w_aload_n C dX10_holding_8 (by rfl) ?_ | refine w_aload_nN C dX10_holding_8 (by rfl) ?_
  refine gf_X10_19 C mm dX10_holding_9 ?_
  refine cl_X10_110 C (m_Jx4a65c_iterator_32c93 hl YY.lp) YY.lp (by rfl) (by rfl) ⟨by decide, by decide⟩ (by rfl) dX10_holding_12 (fun z2 h2 p2 => ?_)
  obtain ⟨q, rfl, nq, uq⟩ := p2
  first | refine w_astore_4 C dX10_holding_15 (by first | trivial | rfl) ?_ | refine w_astore_4N C dX10_holding_15 (by first | trivial | rfl) ?_
  refine lp_X10_holding C hl YY hn hW nq hr (fun h8 frB => ?_) 0 (by omega) (uq.frN nq) uq.self
  rw [sr_14 hn]
  refine w_iload_n C dX10_holding_97 (by rfl) ?_
  refine w_istore_4 C dX10_holding_98 (by first | trivial | rfl) ?_
  refine lp_X10_hold2 C hl hW hr (fun z9 e9 => ?_) 0 (by omega) rfl
  refine w_iload C dX10_holding_115 (by rfl) ?_
  refine w_iret C M dX10_holding_117 ⟨by decide, by decide⟩ ⟨_, rfl, ?_⟩
  exact ⟨(e9.trans (hold_at er1 hr)), frA.tr frB⟩

set_option maxHeartbeats 4000000 in
set_option maxRecDepth 100000 in
theorem m_X10_wouldHold {l : Launch} {D : va_G} {tc : Nat → ClassId} (hl : l.stackTraces = false) {h : HM} {m0 kl wk : Nat} {L : Nat → Nat} {E : Nat → Nat} {M : Nat → Int32} {ca : Nat → Nat} {ga : Nat → Nat} {pa : Nat → Nat} {oa : Nat → Nat} {ra : Nat → Nat} {th : Int32} {nC : Nat} {cs : Nat → Int32 × Int32} {nG : Nat} {gs : Nat → GT} {nP : Nat} {ps : Nat → PT} {nO : Nat} {os : Nat → OT} {nR : Nat} {rs : Nat → RT} {k : KT} {dmp : Int32} {day : Int32} {pur : Int32} {rf : Int32} (YY : Mh tc m0 kl wk L E M ca ga pa oa ra th nC cs nG gs nP ps nO os nR rs k dmp day pur rf h) (hn : nP ≤ 14) (hC : ∀ i, i < nP → okCe (ps i).2.2) (hW : ∀ i, i < nP → okSum (ps i).2.2) {i : Int32} :
    CT l D tc yX10_wouldHold cX10_wouldHold 2 (some FieldType.int) rm_X10_wouldHold [.ref m0, .int i] h (rI (fun z h' => (out9 i 3 ∧ z = 0 ∧ MhE tc m0 kl wk 1 nC cs nG gs nP ps nO os nR rs k dmp day pur rf h') ∨ (∃ s, s < 3 ∧ i = nI s ∧ z = sp_hold nP ps s ∧ MhE tc m0 kl wk 0 nC cs nG gs nP ps nO os nR rs k dmp day pur rf h'))) := by
  refine CT.start [some (.ref m0), some (.int i)] (by decide) hl rfl rfl (fun K C M => ?_)
  obtain ⟨rfl, rfl, rfl, -⟩ := id M
  have C : CX K RX10 cX10_wouldHold 2 rm_X10_wouldHold := C
  obtain ⟨mm, mL, mk, mw, mCl, mGl, mPt, mOr, mRm, mn1, mn2, mn3⟩ := id YY
  first | refine w_aload_n C dX10_wouldHold_0 (by rfl) ?_ | refine w_aload_nN C dX10_wouldHold_0 (by rfl) ?_
  refine w_iload_n C dX10_wouldHold_1 (by rfl) ?_
  refine cl_X10_167 C (m_X10_isNoShelf hl) (by rfl) (by rfl) ⟨by decide, by decide⟩ (by rfl) dX10_wouldHold_2 (fun z1 h1 p1 => ?_)
  obtain ⟨rfl, p_3⟩ := p1
  rcases p_3 with ⟨rfl, c_3⟩ | ⟨rfl, s, hs, rfl⟩
  · 
    refine w_iconst (v := 1) C dX10_wouldHold_5 (by rfl) ?_
    refine cl_X10_88 C (m_X10_startT hl mm (by decide)) mm (by rfl) (by rfl) ⟨by decide, by decide⟩ (by rfl) dX10_wouldHold_6 (fun z2 h2 p2 => ?_)
    obtain ⟨rfl, p2⟩ := p2
    have YY := YY.me (th2 := 1) (day2 := day) (dmp2 := dmp) (pur2 := pur) (rf2 := rf) p2
    obtain ⟨mm, mL, mk, mw, mCl, mGl, mPt, mOr, mRm, mn1, mn2, mn3⟩ := id YY
    refine w_if_eq (tgt := 16) C dX10_wouldHold_9 (by rfl) (fun c_9 => ?_) (fun c_9 => ?_)
    · exact absurd c_9 (by decide)
    · try simp only [cg_ge, cg_gt, cl_gt, cl_le, cl_eq, cl_lt, cl_ge, bi_eq0, bi_ne0, bI_eq0, Decidable.not_not, Bool.not_eq_false] at c_9
      refine w_iconst (v := 0) C dX10_wouldHold_12 (by rfl) ?_
      refine w_goto (tgt := 21) C dX10_wouldHold_13 (by rfl) ?_
      refine w_iret C M dX10_wouldHold_21 ⟨by decide, by decide⟩ ⟨_, rfl, ?_⟩
      exact Or.inl ⟨c_3, rfl, YY.ex⟩
  · 
    refine w_iconst (v := 1) C dX10_wouldHold_5 (by rfl) ?_
    refine cl_X10_88 C (m_X10_startF hl mm) mm (by rfl) (by rfl) ⟨by decide, by decide⟩ (by rfl) dX10_wouldHold_6 (fun z3 h3 p3 => ?_)
    obtain ⟨rfl, p3⟩ := p3
    have YY := YY.me (th2 := 0) (day2 := day) (dmp2 := dmp) (pur2 := pur) (rf2 := rf) p3
    obtain ⟨mm, mL, mk, mw, mCl, mGl, mPt, mOr, mRm, mn1, mn2, mn3⟩ := id YY
    refine w_if_eq (tgt := 16) C dX10_wouldHold_9 (by rfl) (fun c_9 => ?_) (fun c_9 => ?_)
    · try simp only [cg_ge, cg_gt, cl_gt, cl_le, cl_eq, cl_lt, cl_ge, bi_eq0, bi_ne0, bI_eq0, Decidable.not_not, Bool.not_eq_false] at c_9
      first | refine w_aload_n C dX10_wouldHold_16 (by rfl) ?_ | refine w_aload_nN C dX10_wouldHold_16 (by rfl) ?_
      refine w_iload_n C dX10_wouldHold_17 (by rfl) ?_
      refine cl_X10_314 C (m_X10_holding hl YY hn hC hW hs) mm (by rfl) (by rfl) ⟨by decide, by decide⟩ (by rfl) dX10_wouldHold_18 (fun z4 h4 p4 => ?_)
      obtain ⟨rfl, fr9⟩ := p4
      have YY := YY.fr0 fr9
      refine w_iret C M dX10_wouldHold_21 ⟨by decide, by decide⟩ ⟨_, rfl, ?_⟩
      exact Or.inr ⟨s, hs, rfl, rfl, YY.ex⟩
    · exact absurd c_9 (by decide)

set_option maxHeartbeats 4000000 in
set_option maxRecDepth 100000 in
theorem m_X10_add {l : Launch} {D : va_G} {tc : Nat → ClassId} (hl : l.stackTraces = false) {h : HM} {a b : Int64} :
    CT l D tc yX10_add cX10_add 4 (some FieldType.long) rm_X10_add [.long a, .long b] h (rL (fun z h' => h' = h ∧ z = sp_add a b)) := by
  refine CT.start [some (.long a), none, some (.long b), none] (by decide) hl rfl rfl (fun K C M => ?_)
  obtain ⟨rfl, rfl, rfl, -⟩ := id M
  have C : CX K RX10 cX10_add 4 rm_X10_add := C
  refine w_lload_n C dX10_add_0 (by rfl) ?_
  refine lc_X10_317 C dX10_add_1 ?_
  refine w_lmul C dX10_add_4 ?_
  refine w_lload_n C dX10_add_5 (by rfl) ?_
  refine w_ladd C dX10_add_6 ?_
  refine w_lret C M dX10_add_7 ⟨by decide, by decide⟩ ⟨_, rfl, ?_⟩
  exact ⟨rfl, rfl⟩
