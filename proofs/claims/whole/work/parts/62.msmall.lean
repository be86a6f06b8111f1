/-! THE REFERENCE: WHAT IT REFUSES; ITS SMALLEST CALLS -/
theorem w_castS {K : KC} {n : Nat × Nat} {pc : Nat} {lv : List (Option Value)} {st : List Value} {h : HM} {own : String} {cc : ByteArray} {nL : Nat} {R : Room} (C : CX K own cc nL R) {a ci idx : Nat} {fs : List Value} {r : vw_C} (ha : h a = some (.inr (ci, fs))) (hcl : vwCl[ci]? = some r) (w1 : Cond.classLink own idx r.1 ∈ lw_G) (hd : decode cc pc = .ok (.checkcast idx, 3)) (k : WW K n (pc + 3) lv (.ref a :: st) h) : WW K n pc lv (.ref a :: st) h :=
  fun H locs ls hP hS hl => va_castE C.1 C.2.1 C.2.2.2.1 (cx_w C w1) (h_recv C hP ha hcl) hd (k H locs ls hP hS hl)
/-- the reference's yard, wherever its lists lie -/
def MhE (tc : Nat → ClassId) (m0 kl wk : Nat) (th : Int32) (nC : Nat) (cs : Nat → Int32 × Int32) (nG : Nat) (gs : Nat → GT) (nP : Nat) (ps : Nat → PT) (nO : Nat) (os : Nat → OT) (nR : Nat) (rs : Nat → RT) (k : KT) (dmp : Int32) (day : Int32) (pur : Int32) (rf : Int32) (h : HM) : Prop := ∃ L E M ca ga pa oa ra, Mh tc m0 kl wk L E M ca ga pa oa ra th nC cs nG gs nP ps nO os nR rs k dmp day pur rf h
theorem Mh.ex {tc : Nat → ClassId} {h : HM} {m0 kl wk : Nat} {L : Nat → Nat} {E : Nat → Nat} {M : Nat → Int32} {ca : Nat → Nat} {ga : Nat → Nat} {pa : Nat → Nat} {oa : Nat → Nat} {ra : Nat → Nat} {th : Int32} {nC : Nat} {cs : Nat → Int32 × Int32} {nG : Nat} {gs : Nat → GT} {nP : Nat} {ps : Nat → PT} {nO : Nat} {os : Nat → OT} {nR : Nat} {rs : Nat → RT} {k : KT} {dmp : Int32} {day : Int32} {pur : Int32} {rf : Int32} (YY : Mh tc m0 kl wk L E M ca ga pa oa ra th nC cs nG gs nP ps nO os nR rs k dmp day pur rf h) : MhE tc m0 kl wk th nC cs nG gs nP ps nO os nR rs k dmp day pur rf h := ⟨L, E, M, ca, ga, pa, oa, ra, YY⟩
theorem LCh.of {tc : Nat → ClassId} {l e el' n : Nat} {F : Nat → Nat} {h h3 h' : HM} (A : LA tc e n F h) (fr : Fr [] h h3) (ne : el' ≠ tc 13) (d : (el' = e ∧ Fr [l, e] h3 h' ∧ ∃ cap f, h3 e = some (qCell (tc 8) cap f)) ∨ (h3 el' = none ∧ Fr [l] h3 h')) : LCh tc l e el' h h' := by
  rcases d with ⟨e1, e2, -⟩ | ⟨e1, e2⟩
  · rcases A with ⟨a1, -⟩ | ⟨cap, a1, -, -, a4⟩
    · exact absurd (e1.trans a1) ne
    · exact Or.inl ⟨e1, (fr.sub (by simp)).tr e2, ⟨_, _, a1⟩, a4⟩
  · exact Or.inr (Or.inl ⟨fr.nil9 List.not_mem_nil e1, (fr.sub (by simp)).tr e2⟩)
theorem nI_m1 {n : Nat} (h : n < 2 ^ 31) : (nI n - 1).toInt = (n : Int) - 1 := by
  rcases n with _ | n
  · decide
  · rw [← nI_1, Int32.add_sub_cancel, nI_toInt (by omega)]; omega
theorem nI_s1 (n : Nat) : nI (n + 1) - 1 = nI n := by rw [← nI_1, Int32.add_sub_cancel]
theorem in_n {i : Int32} {n : Nat} (hn : n < 2 ^ 31) : (0 ≤ i ∧ i ≤ nI n - 1) ↔ ¬ out9 i n := by
  unfold out9
  rw [Decidable.not_not, Int32.le_iff_toInt_le, Int32.le_iff_toInt_le, nI_m1 hn]
  show (0 ≤ i.toInt ∧ _) ↔ _
  omega
theorem of_in {i : Int32} {n : Nat} (h : ¬ out9 i n) : ∃ j, j < n ∧ i = nI j := by
  unfold out9 at h
  rw [Decidable.not_not] at h
  exact nI_i h.1 h.2
theorem tri0 {a b : UInt64} (ha : dN a) (hb : dN b) : dge a b ↔ ¬ dlt a b := by
  rcases tri9 ha hb with w | w | w
  · exact ⟨fun v => by rcases v with v | v <;> exact absurd (w.symm.trans v) (by decide), fun v => absurd w v⟩
  · exact ⟨fun _ v => absurd (w.symm.trans v) (by decide), fun _ => Or.inl w⟩
  · exact ⟨fun _ v => absurd (w.symm.trans v) (by decide), fun _ => Or.inr w⟩

set_option maxHeartbeats 4000000 in
set_option maxRecDepth 100000 in
theorem m_X10_refuseT {l : Launch} {D : va_G} {tc : Nat → ClassId} (hl : l.stackTraces = false) {h : HM} {m0 cL gL pL oL kl : Nat} {day dmp pur rf : Int32} (hf : h m0 = some (mC cL gL pL oL kl 0 day dmp pur rf)) {t : Int32} (ht : 0 < t) :
    CT l D tc yX10_refuse cX10_refuse 3 (some FieldType.boolean) rm_X10_refuse [.ref m0, .int 1, .int t] h (rI (fun z h' => z = 1 ∧ Up h m0 (mC cL gL pL oL kl t day dmp pur rf) h')) := by
  refine CT.start [some (.ref m0), some (.int 1), some (.int t)] (by decide) hl rfl rfl (fun K C M => ?_)
  obtain ⟨rfl, rfl, rfl, -⟩ := id M
  have C : CX K RX10 cX10_refuse 3 rm_X10_refuse := C
  refine w_iload_n C dX10_refuse_0 (by rfl) ?_
  refine w_if_eq (tgt := 16) C dX10_refuse_1 (by rfl) (fun c_1 => ?_) (fun c_1 => ?_)
  · exact absurd c_1 (by decide)
  · try simp only [cg_ge, cg_gt, cl_gt, cl_le, cl_eq, cl_lt, cl_ge, bi_eq0, bi_ne0, bI_eq0, Decidable.not_not, Bool.not_eq_false] at c_1
    first | refine w_aload_n C dX10_refuse_4 (by rfl) ?_ | refine w_aload_nN C dX10_refuse_4 (by rfl) ?_
    refine gf_X10_32 C hf dX10_refuse_5 ?_
    refine w_if_ne (tgt := 16) C dX10_refuse_8 (by rfl) (fun c_8 => ?_) (fun c_8 => ?_)
    · exact absurd rfl c_8
    · try simp only [cg_ge, cg_gt, cl_gt, cl_le, cl_eq, cl_lt, cl_ge, bi_eq0, bi_ne0, bI_eq0, Decidable.not_not, Bool.not_eq_false] at c_8
      first | refine w_aload_n C dX10_refuse_11 (by rfl) ?_ | refine w_aload_nN C dX10_refuse_11 (by rfl) ?_
      refine w_iload_n C dX10_refuse_12 (by rfl) ?_
      refine pf_X10_32 C hf dX10_refuse_13 (fun h1 u1 => ?_)
      have hf := u1.self
      first | refine w_aload_n C dX10_refuse_16 (by rfl) ?_ | refine w_aload_nN C dX10_refuse_16 (by rfl) ?_
      refine gf_X10_32 C hf dX10_refuse_17 ?_
      refine w_if_le (tgt := 27) C dX10_refuse_20 (by rfl) (fun c_20 => ?_) (fun c_20 => ?_)
      · exact absurd ht (Int32.not_lt.mpr c_20)
      · try simp only [cg_ge, cg_gt, cl_gt, cl_le, cl_eq, cl_lt, cl_ge, bi_eq0, bi_ne0, bI_eq0, Decidable.not_not, Bool.not_eq_false] at c_20
        refine w_iconst (v := 1) C dX10_refuse_23 (by rfl) ?_
        refine w_goto (tgt := 28) C dX10_refuse_24 (by rfl) ?_
        refine w_zret C M dX10_refuse_28 ⟨by decide, by decide⟩ (by rfl) ⟨_, rfl, ?_⟩
        exact ⟨rfl, u1⟩

set_option maxHeartbeats 4000000 in
set_option maxRecDepth 100000 in
theorem m_X10_refuseF {l : Launch} {D : va_G} {tc : Nat → ClassId} (hl : l.stackTraces = false) {h : HM} {m0 cL gL pL oL kl : Nat} {day dmp pur rf : Int32} (hf : h m0 = some (mC cL gL pL oL kl 0 day dmp pur rf)) {t : Int32} :
    CT l D tc yX10_refuse cX10_refuse 3 (some FieldType.boolean) rm_X10_refuse [.ref m0, .int 0, .int t] h (rI (fun z h' => z = 0 ∧ h' = h)) := by
  refine CT.start [some (.ref m0), some (.int 0), some (.int t)] (by decide) hl rfl rfl (fun K C M => ?_)
  obtain ⟨rfl, rfl, rfl, -⟩ := id M
  have C : CX K RX10 cX10_refuse 3 rm_X10_refuse := C
  refine w_iload_n C dX10_refuse_0 (by rfl) ?_
  refine w_if_eq (tgt := 16) C dX10_refuse_1 (by rfl) (fun c_1 => ?_) (fun c_1 => ?_)
  · try simp only [cg_ge, cg_gt, cl_gt, cl_le, cl_eq, cl_lt, cl_ge, bi_eq0, bi_ne0, bI_eq0, Decidable.not_not, Bool.not_eq_false] at c_1
    first | refine w_aload_n C dX10_refuse_16 (by rfl) ?_ | refine w_aload_nN C dX10_refuse_16 (by rfl) ?_
    refine gf_X10_32 C hf dX10_refuse_17 ?_
    refine w_if_le (tgt := 27) C dX10_refuse_20 (by rfl) (fun c_20 => ?_) (fun c_20 => ?_)
    · try simp only [cg_ge, cg_gt, cl_gt, cl_le, cl_eq, cl_lt, cl_ge, bi_eq0, bi_ne0, bI_eq0, Decidable.not_not, Bool.not_eq_false] at c_20
      refine w_iconst (v := 0) C dX10_refuse_27 (by rfl) ?_
      refine w_zret C M dX10_refuse_28 ⟨by decide, by decide⟩ (by rfl) ⟨_, rfl, ?_⟩
      exact ⟨rfl, rfl⟩
    · exact absurd (by decide) c_20
  · exact absurd rfl c_1

set_option maxHeartbeats 4000000 in
set_option maxRecDepth 100000 in
theorem m_X10_startT {l : Launch} {D : va_G} {tc : Nat → ClassId} (hl : l.stackTraces = false) {h : HM} {m0 cL gL pL oL kl : Nat} {th day dmp pur rf : Int32} (hf : h m0 = some (mC cL gL pL oL kl th day dmp pur rf)) {t : Int32} (ht : 0 < t) :
    CT l D tc yX10_start cX10_start 3 (some FieldType.boolean) rm_X10_start [.ref m0, .int 1, .int t] h (rI (fun z h' => z = 1 ∧ Up h m0 (mC cL gL pL oL kl t day dmp pur rf) h')) := by
  refine CT.start [some (.ref m0), some (.int 1), some (.int t)] (by decide) hl rfl rfl (fun K C M => ?_)
  obtain ⟨rfl, rfl, rfl, -⟩ := id M
  have C : CX K RX10 cX10_start 3 rm_X10_start := C
  first | refine w_aload_n C dX10_start_0 (by rfl) ?_ | refine w_aload_nN C dX10_start_0 (by rfl) ?_
  refine w_iconst (v := 0) C dX10_start_1 (by rfl) ?_
  refine pf_X10_32 C hf dX10_start_2 (fun h1 u1 => ?_)
  have hf := u1.self
  first | refine w_aload_n C dX10_start_5 (by rfl) ?_ | refine w_aload_nN C dX10_start_5 (by rfl) ?_
  refine w_iload_n C dX10_start_6 (by rfl) ?_
  refine w_iload_n C dX10_start_7 (by rfl) ?_
  refine cl_X10_36 C (m_X10_refuseT hl hf ht) hf (by rfl) (by rfl) ⟨by decide, by decide⟩ (by rfl) dX10_start_8 (fun z1 h2 p2 => ?_)
  obtain ⟨rfl, p2⟩ := p2
  have hf := p2.self
  refine w_zret C M dX10_start_11 ⟨by decide, by decide⟩ (by rfl) ⟨_, rfl, ?_⟩
  exact ⟨rfl, (u1.tr p2)⟩

set_option maxHeartbeats 4000000 in
set_option maxRecDepth 100000 in
theorem m_X10_startF {l : Launch} {D : va_G} {tc : Nat → ClassId} (hl : l.stackTraces = false) {h : HM} {m0 cL gL pL oL kl : Nat} {th day dmp pur rf : Int32} (hf : h m0 = some (mC cL gL pL oL kl th day dmp pur rf)) {t : Int32} :
    CT l D tc yX10_start cX10_start 3 (some FieldType.boolean) rm_X10_start [.ref m0, .int 0, .int t] h (rI (fun z h' => z = 0 ∧ Up h m0 (mC cL gL pL oL kl 0 day dmp pur rf) h')) := by
  refine CT.start [some (.ref m0), some (.int 0), some (.int t)] (by decide) hl rfl rfl (fun K C M => ?_)
  obtain ⟨rfl, rfl, rfl, -⟩ := id M
  have C : CX K RX10 cX10_start 3 rm_X10_start := C
  first | refine w_aload_n C dX10_start_0 (by rfl) ?_ | refine w_aload_nN C dX10_start_0 (by rfl) ?_
  refine w_iconst (v := 0) C dX10_start_1 (by rfl) ?_
  refine pf_X10_32 C hf dX10_start_2 (fun h1 u1 => ?_)
  have hf := u1.self
  first | refine w_aload_n C dX10_start_5 (by rfl) ?_ | refine w_aload_nN C dX10_start_5 (by rfl) ?_
  refine w_iload_n C dX10_start_6 (by rfl) ?_
  refine w_iload_n C dX10_start_7 (by rfl) ?_
  refine cl_X10_36 C (m_X10_refuseF hl hf) hf (by rfl) (by rfl) ⟨by decide, by decide⟩ (by rfl) dX10_start_8 (fun z1 h2 p2 => ?_)
  obtain ⟨rfl, rfl⟩ := p2
  refine w_zret C M dX10_start_11 ⟨by decide, by decide⟩ (by rfl) ⟨_, rfl, ?_⟩
  exact ⟨rfl, u1⟩

set_option maxHeartbeats 4000000 in
set_option maxRecDepth 100000 in
theorem m_X10_thrown {l : Launch} {D : va_G} {tc : Nat → ClassId} (hl : l.stackTraces = false) {h : HM} {m0 cL gL pL oL kl : Nat} {th day dmp pur rf : Int32} (hf : h m0 = some (mC cL gL pL oL kl th day dmp pur rf)) :
    CT l D tc yX10_thrown cX10_thrown 1 (some FieldType.int) rm_X10_thrown [.ref m0] h (rI (fun z h' => h' = h ∧ z = th)) := by
  refine CT.start [some (.ref m0)] (by decide) hl rfl rfl (fun K C M => ?_)
  obtain ⟨rfl, rfl, rfl, -⟩ := id M
  have C : CX K RX10 cX10_thrown 1 rm_X10_thrown := C
  first | refine w_aload_n C dX10_thrown_0 (by rfl) ?_ | refine w_aload_nN C dX10_thrown_0 (by rfl) ?_
  refine gf_X10_32 C hf dX10_thrown_1 ?_
  refine w_iret C M dX10_thrown_4 ⟨by decide, by decide⟩ ⟨_, rfl, ?_⟩
  exact ⟨rfl, rfl⟩

set_option maxHeartbeats 4000000 in
set_option maxRecDepth 100000 in
theorem m_X10_isNoClay {l : Launch} {D : va_G} {tc : Nat → ClassId} (hl : l.stackTraces = false) {h : HM} {m0 kl wk : Nat} {L : Nat → Nat} {E : Nat → Nat} {M : Nat → Int32} {ca : Nat → Nat} {ga : Nat → Nat} {pa : Nat → Nat} {oa : Nat → Nat} {ra : Nat → Nat} {th : Int32} {nC : Nat} {cs : Nat → Int32 × Int32} {nG : Nat} {gs : Nat → GT} {nP : Nat} {ps : Nat → PT} {nO : Nat} {os : Nat → OT} {nR : Nat} {rs : Nat → RT} {k : KT} {dmp : Int32} {day : Int32} {pur : Int32} {rf : Int32} (YY : Mh tc m0 kl wk L E M ca ga pa oa ra th nC cs nG gs nP ps nO os nR rs k dmp day pur rf h) (hn : nC < 2 ^ 31) {i : Int32} :
    CT l D tc yX10_isNoClay cX10_isNoClay 2 (some FieldType.boolean) rm_X10_isNoClay [.ref m0, .int i] h (rI (fun z h' => h' = h ∧ ((z = 1 ∧ out9 i nC) ∨ (z = 0 ∧ ∃ j, j < nC ∧ i = nI j)))) := by
  refine CT.start [some (.ref m0), some (.int i)] (by decide) hl rfl rfl (fun K C M => ?_)
  obtain ⟨rfl, rfl, rfl, -⟩ := id M
  have C : CX K RX10 cX10_isNoClay 2 rm_X10_isNoClay := C
  obtain ⟨mm, mL, mk, mw, mCl, mGl, mPt, mOr, mRm, mn1, mn2, mn3⟩ := id YY
  refine w_iload_n C dX10_isNoClay_0 (by rfl) ?_
  refine w_iconst (v := 0) C dX10_isNoClay_1 (by rfl) ?_
  first | refine w_aload_n C dX10_isNoClay_2 (by rfl) ?_ | refine w_aload_nN C dX10_isNoClay_2 (by rfl) ?_
  refine gf_X10_10 C mm dX10_isNoClay_3 ?_
  refine cl_X10_40 C (m_Jx4a65c_size_8abf5 hl YY.lc) YY.lc (by rfl) (by rfl) ⟨by decide, by decide⟩ (by rfl) dX10_isNoClay_6 (fun z1 h1 p1 => ?_)
  obtain ⟨rfl, rfl⟩ := p1
  refine w_iconst (v := 1) C dX10_isNoClay_9 (by rfl) ?_
  refine w_isub C dX10_isNoClay_10 ?_
  refine cl_X10_44 C (m_X10_isIn hl) (by rfl) (by rfl) ⟨by decide, by decide⟩ (by rfl) dX10_isNoClay_11 (fun z2 h2 p2 => ?_)
  obtain ⟨rfl, rfl⟩ := p2
  refine w_if_ne (tgt := 21) C dX10_isNoClay_14 (by rfl) (fun c_14 => ?_) (fun c_14 => ?_)
  · try simp only [cg_ge, cg_gt, cl_gt, cl_le, cl_eq, cl_lt, cl_ge, bi_eq0, bi_ne0, bI_eq0, Decidable.not_not, Bool.not_eq_false] at c_14
    rw [in_n hn] at c_14
    refine w_iconst (v := 0) C dX10_isNoClay_21 (by rfl) ?_
    refine w_zret C M dX10_isNoClay_22 ⟨by decide, by decide⟩ (by rfl) ⟨_, rfl, ?_⟩
    exact ⟨rfl, Or.inr ⟨rfl, of_in c_14⟩⟩
  · try simp only [cg_ge, cg_gt, cl_gt, cl_le, cl_eq, cl_lt, cl_ge, bi_eq0, bi_ne0, bI_eq0, Decidable.not_not, Bool.not_eq_false] at c_14
    rw [in_n hn] at c_14
    have c_14 := Classical.not_not.mp c_14
    refine w_iconst (v := 1) C dX10_isNoClay_17 (by rfl) ?_
    refine w_goto (tgt := 22) C dX10_isNoClay_18 (by rfl) ?_
    refine w_zret C M dX10_isNoClay_22 ⟨by decide, by decide⟩ (by rfl) ⟨_, rfl, ?_⟩
    exact ⟨rfl, Or.inl ⟨rfl, c_14⟩⟩

set_option maxHeartbeats 4000000 in
set_option maxRecDepth 100000 in
theorem m_X10_isNoGlaze {l : Launch} {D : va_G} {tc : Nat → ClassId} (hl : l.stackTraces = false) {h : HM} {m0 kl wk : Nat} {L : Nat → Nat} {E : Nat → Nat} {M : Nat → Int32} {ca : Nat → Nat} {ga : Nat → Nat} {pa : Nat → Nat} {oa : Nat → Nat} {ra : Nat → Nat} {th : Int32} {nC : Nat} {cs : Nat → Int32 × Int32} {nG : Nat} {gs : Nat → GT} {nP : Nat} {ps : Nat → PT} {nO : Nat} {os : Nat → OT} {nR : Nat} {rs : Nat → RT} {k : KT} {dmp : Int32} {day : Int32} {pur : Int32} {rf : Int32} (YY : Mh tc m0 kl wk L E M ca ga pa oa ra th nC cs nG gs nP ps nO os nR rs k dmp day pur rf h) (hn : nG < 2 ^ 31) {i : Int32} :
    CT l D tc yX10_isNoGlaze cX10_isNoGlaze 2 (some FieldType.boolean) rm_X10_isNoGlaze [.ref m0, .int i] h (rI (fun z h' => h' = h ∧ ((z = 1 ∧ out9 i nG) ∨ (z = 0 ∧ ∃ j, j < nG ∧ i = nI j)))) := by
  refine CT.start [some (.ref m0), some (.int i)] (by decide) hl rfl rfl (fun K C M => ?_)
  obtain ⟨rfl, rfl, rfl, -⟩ := id M
  have C : CX K RX10 cX10_isNoGlaze 2 rm_X10_isNoGlaze := C
  obtain ⟨mm, mL, mk, mw, mCl, mGl, mPt, mOr, mRm, mn1, mn2, mn3⟩ := id YY
  refine w_iload_n C dX10_isNoGlaze_0 (by rfl) ?_
  refine w_iconst (v := 0) C dX10_isNoGlaze_1 (by rfl) ?_
  first | refine w_aload_n C dX10_isNoGlaze_2 (by rfl) ?_ | refine w_aload_nN C dX10_isNoGlaze_2 (by rfl) ?_
  refine gf_X10_16 C mm dX10_isNoGlaze_3 ?_
  refine cl_X10_40 C (m_Jx4a65c_size_8abf5 hl YY.lg) YY.lg (by rfl) (by rfl) ⟨by decide, by decide⟩ (by rfl) dX10_isNoGlaze_6 (fun z1 h1 p1 => ?_)
  obtain ⟨rfl, rfl⟩ := p1
  refine w_iconst (v := 1) C dX10_isNoGlaze_9 (by rfl) ?_
  refine w_isub C dX10_isNoGlaze_10 ?_
  refine cl_X10_44 C (m_X10_isIn hl) (by rfl) (by rfl) ⟨by decide, by decide⟩ (by rfl) dX10_isNoGlaze_11 (fun z2 h2 p2 => ?_)
  obtain ⟨rfl, rfl⟩ := p2
  refine w_if_ne (tgt := 21) C dX10_isNoGlaze_14 (by rfl) (fun c_14 => ?_) (fun c_14 => ?_)
  · try simp only [cg_ge, cg_gt, cl_gt, cl_le, cl_eq, cl_lt, cl_ge, bi_eq0, bi_ne0, bI_eq0, Decidable.not_not, Bool.not_eq_false] at c_14
    rw [in_n hn] at c_14
    refine w_iconst (v := 0) C dX10_isNoGlaze_21 (by rfl) ?_
    refine w_zret C M dX10_isNoGlaze_22 ⟨by decide, by decide⟩ (by rfl) ⟨_, rfl, ?_⟩
    exact ⟨rfl, Or.inr ⟨rfl, of_in c_14⟩⟩
  · try simp only [cg_ge, cg_gt, cl_gt, cl_le, cl_eq, cl_lt, cl_ge, bi_eq0, bi_ne0, bI_eq0, Decidable.not_not, Bool.not_eq_false] at c_14
    rw [in_n hn] at c_14
    have c_14 := Classical.not_not.mp c_14
    refine w_iconst (v := 1) C dX10_isNoGlaze_17 (by rfl) ?_
    refine w_goto (tgt := 22) C dX10_isNoGlaze_18 (by rfl) ?_
    refine w_zret C M dX10_isNoGlaze_22 ⟨by decide, by decide⟩ (by rfl) ⟨_, rfl, ?_⟩
    exact ⟨rfl, Or.inl ⟨rfl, c_14⟩⟩

set_option maxHeartbeats 4000000 in
set_option maxRecDepth 100000 in
theorem m_X10_isNoPot {l : Launch} {D : va_G} {tc : Nat → ClassId} (hl : l.stackTraces = false) {h : HM} {m0 kl wk : Nat} {L : Nat → Nat} {E : Nat → Nat} {M : Nat → Int32} {ca : Nat → Nat} {ga : Nat → Nat} {pa : Nat → Nat} {oa : Nat → Nat} {ra : Nat → Nat} {th : Int32} {nC : Nat} {cs : Nat → Int32 × Int32} {nG : Nat} {gs : Nat → GT} {nP : Nat} {ps : Nat → PT} {nO : Nat} {os : Nat → OT} {nR : Nat} {rs : Nat → RT} {k : KT} {dmp : Int32} {day : Int32} {pur : Int32} {rf : Int32} (YY : Mh tc m0 kl wk L E M ca ga pa oa ra th nC cs nG gs nP ps nO os nR rs k dmp day pur rf h) (hn : nP < 2 ^ 31) {i : Int32} :
    CT l D tc yX10_isNoPot cX10_isNoPot 2 (some FieldType.boolean) rm_X10_isNoPot [.ref m0, .int i] h (rI (fun z h' => h' = h ∧ ((z = 1 ∧ out9 i nP) ∨ (z = 0 ∧ ∃ j, j < nP ∧ i = nI j)))) := by
  refine CT.start [some (.ref m0), some (.int i)] (by decide) hl rfl rfl (fun K C M => ?_)
  obtain ⟨rfl, rfl, rfl, -⟩ := id M
  have C : CX K RX10 cX10_isNoPot 2 rm_X10_isNoPot := C
  obtain ⟨mm, mL, mk, mw, mCl, mGl, mPt, mOr, mRm, mn1, mn2, mn3⟩ := id YY
  refine w_iload_n C dX10_isNoPot_0 (by rfl) ?_
  refine w_iconst (v := 0) C dX10_isNoPot_1 (by rfl) ?_
  first | refine w_aload_n C dX10_isNoPot_2 (by rfl) ?_ | refine w_aload_nN C dX10_isNoPot_2 (by rfl) ?_
  refine gf_X10_19 C mm dX10_isNoPot_3 ?_
  refine cl_X10_40 C (m_Jx4a65c_size_8abf5 hl YY.lp) YY.lp (by rfl) (by rfl) ⟨by decide, by decide⟩ (by rfl) dX10_isNoPot_6 (fun z1 h1 p1 => ?_)
  obtain ⟨rfl, rfl⟩ := p1
  refine w_iconst (v := 1) C dX10_isNoPot_9 (by rfl) ?_
  refine w_isub C dX10_isNoPot_10 ?_
  refine cl_X10_44 C (m_X10_isIn hl) (by rfl) (by rfl) ⟨by decide, by decide⟩ (by rfl) dX10_isNoPot_11 (fun z2 h2 p2 => ?_)
  obtain ⟨rfl, rfl⟩ := p2
  refine w_if_ne (tgt := 21) C dX10_isNoPot_14 (by rfl) (fun c_14 => ?_) (fun c_14 => ?_)
  · try simp only [cg_ge, cg_gt, cl_gt, cl_le, cl_eq, cl_lt, cl_ge, bi_eq0, bi_ne0, bI_eq0, Decidable.not_not, Bool.not_eq_false] at c_14
    rw [in_n hn] at c_14
    refine w_iconst (v := 0) C dX10_isNoPot_21 (by rfl) ?_
    refine w_zret C M dX10_isNoPot_22 ⟨by decide, by decide⟩ (by rfl) ⟨_, rfl, ?_⟩
    exact ⟨rfl, Or.inr ⟨rfl, of_in c_14⟩⟩
  · try simp only [cg_ge, cg_gt, cl_gt, cl_le, cl_eq, cl_lt, cl_ge, bi_eq0, bi_ne0, bI_eq0, Decidable.not_not, Bool.not_eq_false] at c_14
    rw [in_n hn] at c_14
    have c_14 := Classical.not_not.mp c_14
    refine w_iconst (v := 1) C dX10_isNoPot_17 (by rfl) ?_
    refine w_goto (tgt := 22) C dX10_isNoPot_18 (by rfl) ?_
    refine w_zret C M dX10_isNoPot_22 ⟨by decide, by decide⟩ (by rfl) ⟨_, rfl, ?_⟩
    exact ⟨rfl, Or.inl ⟨rfl, c_14⟩⟩

set_option maxHeartbeats 4000000 in
set_option maxRecDepth 100000 in
theorem m_X10_isNoShelf {l : Launch} {D : va_G} {tc : Nat → ClassId} (hl : l.stackTraces = false) {h : HM} {i : Int32} :
    CT l D tc yX10_isNoShelf cX10_isNoShelf 1 (some FieldType.boolean) rm_X10_isNoShelf [.int i] h (rI (fun z h' => h' = h ∧ ((z = 1 ∧ out9 i 3) ∨ (z = 0 ∧ ∃ j, j < 3 ∧ i = nI j)))) := by
  refine CT.start [some (.int i)] (by decide) hl rfl rfl (fun K C M => ?_)
  obtain ⟨rfl, rfl, rfl, -⟩ := id M
  have C : CX K RX10 cX10_isNoShelf 1 rm_X10_isNoShelf := C
  refine w_iload_n C dX10_isNoShelf_0 (by rfl) ?_
  refine w_iconst (v := 0) C dX10_isNoShelf_1 (by rfl) ?_
  refine w_iconst (v := 2) C dX10_isNoShelf_2 (by rfl) ?_
  refine cl_X10_44 C (m_X10_isIn hl) (by rfl) (by rfl) ⟨by decide, by decide⟩ (by rfl) dX10_isNoShelf_3 (fun z1 h1 p1 => ?_)
  obtain ⟨rfl, rfl⟩ := p1
  rw [show (2 : Int32) = nI 3 - 1 from by decide]
  refine w_if_ne (tgt := 13) C dX10_isNoShelf_6 (by rfl) (fun c_6 => ?_) (fun c_6 => ?_)
  · try simp only [cg_ge, cg_gt, cl_gt, cl_le, cl_eq, cl_lt, cl_ge, bi_eq0, bi_ne0, bI_eq0, Decidable.not_not, Bool.not_eq_false] at c_6
    rw [in_n (by decide)] at c_6
    refine w_iconst (v := 0) C dX10_isNoShelf_13 (by rfl) ?_
    refine w_zret C M dX10_isNoShelf_14 ⟨by decide, by decide⟩ (by rfl) ⟨_, rfl, ?_⟩
    exact ⟨rfl, Or.inr ⟨rfl, of_in c_6⟩⟩
  · try simp only [cg_ge, cg_gt, cl_gt, cl_le, cl_eq, cl_lt, cl_ge, bi_eq0, bi_ne0, bI_eq0, Decidable.not_not, Bool.not_eq_false] at c_6
    rw [in_n (by decide)] at c_6
    have c_6 := Classical.not_not.mp c_6
    refine w_iconst (v := 1) C dX10_isNoShelf_9 (by rfl) ?_
    refine w_goto (tgt := 14) C dX10_isNoShelf_10 (by rfl) ?_
    refine w_zret C M dX10_isNoShelf_14 ⟨by decide, by decide⟩ (by rfl) ⟨_, rfl, ?_⟩
    exact ⟨rfl, Or.inl ⟨rfl, c_6⟩⟩

set_option maxHeartbeats 4000000 in
set_option maxRecDepth 100000 in
theorem m_X10_isHot {l : Launch} {D : va_G} {tc : Nat → ClassId} (hl : l.stackTraces = false) {h : HM} {m0 kl wk : Nat} {L : Nat → Nat} {E : Nat → Nat} {M : Nat → Int32} {ca : Nat → Nat} {ga : Nat → Nat} {pa : Nat → Nat} {oa : Nat → Nat} {ra : Nat → Nat} {th : Int32} {nC : Nat} {cs : Nat → Int32 × Int32} {nG : Nat} {gs : Nat → GT} {nP : Nat} {ps : Nat → PT} {nO : Nat} {os : Nat → OT} {nR : Nat} {rs : Nat → RT} {k : KT} {dmp : Int32} {day : Int32} {pur : Int32} {rf : Int32} (YY : Mh tc m0 kl wk L E M ca ga pa oa ra th nC cs nG gs nP ps nO os nR rs k dmp day pur rf h) :
    CT l D tc yX10_isHot cX10_isHot 1 (some FieldType.boolean) rm_X10_isHot [.ref m0] h (rI (fun z h' => h' = h ∧ z = bI (kL k = true ∨ dge (kH k) 4636737291354636288))) := by
  refine CT.start [some (.ref m0)] (by decide) hl rfl rfl (fun K C M => ?_)
  obtain ⟨rfl, rfl, rfl, -⟩ := id M
  have C : CX K RX10 cX10_isHot 1 rm_X10_isHot := C
  obtain ⟨mm, mL, mk, mw, mCl, mGl, mPt, mOr, mRm, mn1, mn2, mn3⟩ := id YY
  first | refine w_aload_n C dX10_isHot_0 (by rfl) ?_ | refine w_aload_nN C dX10_isHot_0 (by rfl) ?_
  refine gf_X10_28 C mm dX10_isHot_1 ?_
  refine gf_X10_48 C mk dX10_isHot_4 ?_
  refine w_if_ne (tgt := 24) C dX10_isHot_7 (by rfl) (fun c_7 => ?_) (fun c_7 => ?_)
  · try simp only [cg_ge, cg_gt, cl_gt, cl_le, cl_eq, cl_lt, cl_ge, bi_eq0, bi_ne0, bI_eq0, Decidable.not_not, Bool.not_eq_false] at c_7
    refine w_iconst (v := 1) C dX10_isHot_24 (by rfl) ?_
    refine w_goto (tgt := 29) C dX10_isHot_25 (by rfl) ?_
    refine w_zret C M dX10_isHot_29 ⟨by decide, by decide⟩ (by rfl) ⟨_, rfl, ?_⟩
    exact ⟨rfl, by simp [bI, dlt, dgt, deq, dge, dle, kH, kP, kO, kL, kA, kE, kC, kF, kS, kW, c_7]⟩
  · try simp only [cg_ge, cg_gt, cl_gt, cl_le, cl_eq, cl_lt, cl_ge, bi_eq0, bi_ne0, bI_eq0, Decidable.not_not, Bool.not_eq_false] at c_7
    first | refine w_aload_n C dX10_isHot_10 (by rfl) ?_ | refine w_aload_nN C dX10_isHot_10 (by rfl) ?_
    refine gf_X10_28 C mm dX10_isHot_11 ?_
    refine gf_X10_52 C mk dX10_isHot_14 ?_
    refine lc_X10_56 C dX10_isHot_17 ?_
    refine w_dcmp C dX10_isHot_20 ?_
    refine w_if_lt (tgt := 28) C dX10_isHot_21 (by rfl) (fun c_21 => ?_) (fun c_21 => ?_)
    · try simp only [cg_ge, cg_gt, cl_gt, cl_le, cl_eq, cl_lt, cl_ge, bi_eq0, bi_ne0, bI_eq0, Decidable.not_not, Bool.not_eq_false] at c_21
      refine w_iconst (v := 0) C dX10_isHot_28 (by rfl) ?_
      refine w_zret C M dX10_isHot_29 ⟨by decide, by decide⟩ (by rfl) ⟨_, rfl, ?_⟩
      exact ⟨rfl, by simp [bI, dlt, dgt, deq, dge, dle, kH, kP, kO, kL, kA, kE, kC, kF, kS, kW, c_7, c_21]⟩
    · try simp only [cg_ge, cg_gt, cl_gt, cl_le, cl_eq, cl_lt, cl_ge, bi_eq0, bi_ne0, bI_eq0, Decidable.not_not, Bool.not_eq_false] at c_21
      refine w_iconst (v := 1) C dX10_isHot_24 (by rfl) ?_
      refine w_goto (tgt := 29) C dX10_isHot_25 (by rfl) ?_
      refine w_zret C M dX10_isHot_29 ⟨by decide, by decide⟩ (by rfl) ⟨_, rfl, ?_⟩
      exact ⟨rfl, by simp [bI, dlt, dgt, deq, dge, dle, kH, kP, kO, kL, kA, kE, kC, kF, kS, kW, c_7, c_21]⟩

set_option maxHeartbeats 4000000 in
set_option maxRecDepth 100000 in
theorem m_X10_bell {l : Launch} {D : va_G} {tc : Nat → ClassId} (hl : l.stackTraces = false) {h : HM} {m0 kl wk : Nat} {L : Nat → Nat} {E : Nat → Nat} {M : Nat → Int32} {ca : Nat → Nat} {ga : Nat → Nat} {pa : Nat → Nat} {oa : Nat → Nat} {ra : Nat → Nat} {th : Int32} {nC : Nat} {cs : Nat → Int32 × Int32} {nG : Nat} {gs : Nat → GT} {nP : Nat} {ps : Nat → PT} {nO : Nat} {os : Nat → OT} {nR : Nat} {rs : Nat → RT} {k : KT} {dmp : Int32} {day : Int32} {pur : Int32} {rf : Int32} (YY : Mh tc m0 kl wk L E M ca ga pa oa ra th nC cs nG gs nP ps nO os nR rs k dmp day pur rf h) :
    CT l D tc yX10_bell cX10_bell 1 (some FieldType.int) rm_X10_bell [.ref m0] h (rI (fun z h' => z = rf + 1 ∧ MhE tc m0 kl wk 0 nC cs nG gs nP ps nO os nR rs k dmp day pur (rf + 1) h')) := by
  refine CT.start [some (.ref m0)] (by decide) hl rfl rfl (fun K C M => ?_)
  obtain ⟨rfl, rfl, rfl, -⟩ := id M
  have C : CX K RX10 cX10_bell 1 rm_X10_bell := C
  obtain ⟨mm, mL, mk, mw, mCl, mGl, mPt, mOr, mRm, mn1, mn2, mn3⟩ := id YY
  first | refine w_aload_n C dX10_bell_0 (by rfl) ?_ | refine w_aload_nN C dX10_bell_0 (by rfl) ?_
  refine w_iconst (v := 0) C dX10_bell_1 (by rfl) ?_
  refine pf_X10_32 C mm dX10_bell_2 (fun h1 u1 => ?_)
  have mm := u1.self
  first | refine w_aload_n C dX10_bell_5 (by rfl) ?_ | refine w_aload_nN C dX10_bell_5 (by rfl) ?_
  refine w_dup C dX10_bell_6 (by rfl) ?_
  refine gf_X10_221 C mm dX10_bell_7 ?_
  refine w_iconst (v := 1) C dX10_bell_10 (by rfl) ?_
  refine w_iadd C dX10_bell_11 ?_
  refine pf_X10_221 C mm dX10_bell_12 (fun h2 u2 => ?_)
  have mm := u2.self
  first | refine w_aload_n C dX10_bell_15 (by rfl) ?_ | refine w_aload_nN C dX10_bell_15 (by rfl) ?_
  refine gf_X10_221 C mm dX10_bell_16 ?_
  refine w_iret C M dX10_bell_19 ⟨by decide, by decide⟩ ⟨_, rfl, ?_⟩
  exact ⟨rfl, (YY.me (th2 := 0) (day2 := day) (dmp2 := dmp) (pur2 := pur) (rf2 := rf + 1) (u1.tr u2)).ex⟩

theorem Mh.kiln1 {tc : Nat → ClassId} {h h' : HM} {m0 kl wk : Nat} {L : Nat → Nat} {E : Nat → Nat} {M : Nat → Int32} {ca : Nat → Nat} {ga : Nat → Nat} {pa : Nat → Nat} {oa : Nat → Nat} {ra : Nat → Nat} {th : Int32} {nC : Nat} {cs : Nat → Int32 × Int32} {nG : Nat} {gs : Nat → GT} {nP : Nat} {ps : Nat → PT} {nO : Nat} {os : Nat → OT} {nR : Nat} {rs : Nat → RT} {k : KT} {dmp : Int32} {day : Int32} {pur : Int32} {rf : Int32} (YY : Mh tc m0 kl wk L E M ca ga pa oa ra th nC cs nG gs nP ps nO os nR rs k dmp day pur rf h) {k2 : KT} (u : Up h kl (mK (L 4) wk k2) h') (hw : kW k2 = kW k) : Mh tc m0 kl wk L E M ca ga pa oa ra th nC cs nG gs nP ps nO os nR rs k2 dmp day pur rf h' :=
  YY.kiln (k2 := k2) u.self (by rw [hw]; exact u.oth YY.2.2.2.1 YY.2.2.1 (by intro q; simp at q)) (u.fr.sub (by simp))

set_option maxHeartbeats 4000000 in
set_option maxRecDepth 100000 in
theorem m_X10_door {l : Launch} {D : va_G} {tc : Nat → ClassId} (hl : l.stackTraces = false) {h : HM} {m0 kl wk : Nat} {L : Nat → Nat} {E : Nat → Nat} {M : Nat → Int32} {ca : Nat → Nat} {ga : Nat → Nat} {pa : Nat → Nat} {oa : Nat → Nat} {ra : Nat → Nat} {th : Int32} {nC : Nat} {cs : Nat → Int32 × Int32} {nG : Nat} {gs : Nat → GT} {nP : Nat} {ps : Nat → PT} {nO : Nat} {os : Nat → OT} {nR : Nat} {rs : Nat → RT} {k : KT} {dmp : Int32} {day : Int32} {pur : Int32} {rf : Int32} (YY : Mh tc m0 kl wk L E M ca ga pa oa ra th nC cs nG gs nP ps nO os nR rs k dmp day pur rf h) {b : Bool} :
    CT l D tc yX10_door cX10_door 3 (some FieldType.boolean) rm_X10_door [.ref m0, .int (bi b)] h (rI (fun z h' => z = bi (kO k) ∧ MhE tc m0 kl wk 0 nC cs nG gs nP ps nO os nR rs ((kH k, kP k, b, kL k, kA k, kE k, kC k, kF k, kS k, kW k)) dmp day pur rf h')) := by
  refine CT.start [some (.ref m0), some (.int (bi b)), none] (by decide) hl rfl rfl (fun K C M => ?_)
  obtain ⟨rfl, rfl, rfl, -⟩ := id M
  have C : CX K RX10 cX10_door 3 rm_X10_door := C
  obtain ⟨mm, mL, mk, mw, mCl, mGl, mPt, mOr, mRm, mn1, mn2, mn3⟩ := id YY
  first | refine w_aload_n C dX10_door_0 (by rfl) ?_ | refine w_aload_nN C dX10_door_0 (by rfl) ?_
  refine w_iconst (v := 0) C dX10_door_1 (by rfl) ?_
  refine pf_X10_32 C mm dX10_door_2 (fun h1 u1 => ?_)
  have mk := u1.oth mk mm (by intro q; simp at q)
  have mm := u1.self
  have YY := YY.me (th2 := 0) (day2 := day) (dmp2 := dmp) (pur2 := pur) (rf2 := rf) u1
  obtain ⟨mm, mL, mk, mw, mCl, mGl, mPt, mOr, mRm, mn1, mn2, mn3⟩ := id YY
  first | refine w_aload_n C dX10_door_5 (by rfl) ?_ | refine w_aload_nN C dX10_door_5 (by rfl) ?_
  refine gf_X10_28 C mm dX10_door_6 ?_
  refine gf_X10_218 C mk dX10_door_9 ?_
  refine w_istore_2 C dX10_door_12 (by first | trivial | rfl) ?_
  first | refine w_aload_n C dX10_door_13 (by rfl) ?_ | refine w_aload_nN C dX10_door_13 (by rfl) ?_
  refine gf_X10_28 C mm dX10_door_14 ?_
  refine w_iload_n C dX10_door_17 (by rfl) ?_
  refine pf_X10_218 C mk (bi_01 _) dX10_door_18 (fun h2 u2 => ?_)
  have mm := u2.oth mm mk (by intro q; simp at q)
  have mk := u2.self
  have YY := YY.kiln1 (k2 := (kH k, kP k, b, kL k, kA k, kE k, kC k, kF k, kS k, kW k)) u2 rfl
  refine w_iload_n C dX10_door_21 (by rfl) ?_
  refine w_zret C M dX10_door_22 ⟨by decide, by decide⟩ (nar01 (bi_01 _)) ⟨_, rfl, ?_⟩
  exact ⟨rfl, YY.ex⟩

set_option maxHeartbeats 4000000 in
set_option maxRecDepth 100000 in
theorem m_X10_damper {l : Launch} {D : va_G} {tc : Nat → ClassId} (hl : l.stackTraces = false) {h : HM} {m0 kl wk : Nat} {L : Nat → Nat} {E : Nat → Nat} {M : Nat → Int32} {ca : Nat → Nat} {ga : Nat → Nat} {pa : Nat → Nat} {oa : Nat → Nat} {ra : Nat → Nat} {th : Int32} {nC : Nat} {cs : Nat → Int32 × Int32} {nG : Nat} {gs : Nat → GT} {nP : Nat} {ps : Nat → PT} {nO : Nat} {os : Nat → OT} {nR : Nat} {rs : Nat → RT} {k : KT} {dmp : Int32} {day : Int32} {pur : Int32} {rf : Int32} (YY : Mh tc m0 kl wk L E M ca ga pa oa ra th nC cs nG gs nP ps nO os nR rs k dmp day pur rf h) {d : Int32} :
    CT l D tc yX10_damper cX10_damper 3 (some FieldType.int) rm_X10_damper [.ref m0, .int d] h (rI (fun z h' => (¬ (0 ≤ d ∧ d ≤ 4) ∧ z = 0 ∧ MhE tc m0 kl wk 1 nC cs nG gs nP ps nO os nR rs k dmp day pur rf h') ∨ ((0 ≤ d ∧ d ≤ 4) ∧ z = dmp ∧ MhE tc m0 kl wk 0 nC cs nG gs nP ps nO os nR rs k d day pur rf h'))) := by
  refine CT.start [some (.ref m0), some (.int d), none] (by decide) hl rfl rfl (fun K C M => ?_)
  obtain ⟨rfl, rfl, rfl, -⟩ := id M
  have C : CX K RX10 cX10_damper 3 rm_X10_damper := C
  obtain ⟨mm, mL, mk, mw, mCl, mGl, mPt, mOr, mRm, mn1, mn2, mn3⟩ := id YY
  first | refine w_aload_n C dX10_damper_0 (by rfl) ?_ | refine w_aload_nN C dX10_damper_0 (by rfl) ?_
  refine w_iload_n C dX10_damper_1 (by rfl) ?_
  refine w_iconst (v := 0) C dX10_damper_2 (by rfl) ?_
  refine w_iconst (v := 4) C dX10_damper_3 (by rfl) ?_
  refine cl_X10_44 C (m_X10_isIn hl) (by rfl) (by rfl) ⟨by decide, by decide⟩ (by rfl) dX10_damper_4 (fun z1 h1 p1 => ?_)
  obtain ⟨rfl, rfl⟩ := p1
  refine w_if_ne (tgt := 14) C dX10_damper_7 (by rfl) (fun c_7 => ?_) (fun c_7 => ?_)
  · try simp only [cg_ge, cg_gt, cl_gt, cl_le, cl_eq, cl_lt, cl_ge, bi_eq0, bi_ne0, bI_eq0, Decidable.not_not, Bool.not_eq_false] at c_7
    refine w_iconst (v := 0) C dX10_damper_14 (by rfl) ?_
    refine w_iconst (v := 1) C dX10_damper_15 (by rfl) ?_
    refine cl_X10_88 C (m_X10_startF hl mm) mm (by rfl) (by rfl) ⟨by decide, by decide⟩ (by rfl) dX10_damper_16 (fun z2 h2 p2 => ?_)
    obtain ⟨rfl, p2⟩ := p2
    have YY := YY.me (th2 := 0) (day2 := day) (dmp2 := dmp) (pur2 := pur) (rf2 := rf) p2
    obtain ⟨mm, mL, mk, mw, mCl, mGl, mPt, mOr, mRm, mn1, mn2, mn3⟩ := id YY
    refine w_if_eq (tgt := 24) C dX10_damper_19 (by rfl) (fun c_19 => ?_) (fun c_19 => ?_)
    · try simp only [cg_ge, cg_gt, cl_gt, cl_le, cl_eq, cl_lt, cl_ge, bi_eq0, bi_ne0, bI_eq0, Decidable.not_not, Bool.not_eq_false] at c_19
      first | refine w_aload_n C dX10_damper_24 (by rfl) ?_ | refine w_aload_nN C dX10_damper_24 (by rfl) ?_
      refine gf_X10_211 C mm dX10_damper_25 ?_
      refine w_istore_2 C dX10_damper_28 (by first | trivial | rfl) ?_
      first | refine w_aload_n C dX10_damper_29 (by rfl) ?_ | refine w_aload_nN C dX10_damper_29 (by rfl) ?_
      refine w_iload_n C dX10_damper_30 (by rfl) ?_
      refine pf_X10_211 C mm dX10_damper_31 (fun h3 u3 => ?_)
      have mm := u3.self
      have YY := YY.me (th2 := 0) (day2 := day) (dmp2 := d) (pur2 := pur) (rf2 := rf) u3
      refine w_iload_n C dX10_damper_34 (by rfl) ?_
      refine w_iret C M dX10_damper_35 ⟨by decide, by decide⟩ ⟨_, rfl, ?_⟩
      exact Or.inr ⟨c_7, rfl, YY.ex⟩
    · exact absurd c_19 (by decide)
  · try simp only [cg_ge, cg_gt, cl_gt, cl_le, cl_eq, cl_lt, cl_ge, bi_eq0, bi_ne0, bI_eq0, Decidable.not_not, Bool.not_eq_false] at c_7
    refine w_iconst (v := 1) C dX10_damper_10 (by rfl) ?_
    refine w_goto (tgt := 15) C dX10_damper_11 (by rfl) ?_
    refine w_iconst (v := 1) C dX10_damper_15 (by rfl) ?_
    refine cl_X10_88 C (m_X10_startT hl mm (by decide)) mm (by rfl) (by rfl) ⟨by decide, by decide⟩ (by rfl) dX10_damper_16 (fun z4 h4 p4 => ?_)
    obtain ⟨rfl, p4⟩ := p4
    have YY := YY.me (th2 := 1) (day2 := day) (dmp2 := dmp) (pur2 := pur) (rf2 := rf) p4
    obtain ⟨mm, mL, mk, mw, mCl, mGl, mPt, mOr, mRm, mn1, mn2, mn3⟩ := id YY
    refine w_if_eq (tgt := 24) C dX10_damper_19 (by rfl) (fun c_19 => ?_) (fun c_19 => ?_)
    · exact absurd c_19 (by decide)
    · try simp only [cg_ge, cg_gt, cl_gt, cl_le, cl_eq, cl_lt, cl_ge, bi_eq0, bi_ne0, bI_eq0, Decidable.not_not, Bool.not_eq_false] at c_19
      refine w_iconst (v := 0) C dX10_damper_22 (by rfl) ?_
      refine w_iret C M dX10_damper_23 ⟨by decide, by decide⟩ ⟨_, rfl, ?_⟩
      exact Or.inl ⟨c_7, rfl, YY.ex⟩

set_option maxHeartbeats 4000000 in
set_option maxRecDepth 100000 in
theorem m_X10_cover {l : Launch} {D : va_G} {tc : Nat → ClassId} (hl : l.stackTraces = false) {h : HM} {m0 kl wk : Nat} {L : Nat → Nat} {E : Nat → Nat} {M : Nat → Int32} {ca : Nat → Nat} {ga : Nat → Nat} {pa : Nat → Nat} {oa : Nat → Nat} {ra : Nat → Nat} {th : Int32} {nC : Nat} {cs : Nat → Int32 × Int32} {nG : Nat} {gs : Nat → GT} {nP : Nat} {ps : Nat → PT} {nO : Nat} {os : Nat → OT} {nR : Nat} {rs : Nat → RT} {k : KT} {dmp : Int32} {day : Int32} {pur : Int32} {rf : Int32} (YY : Mh tc m0 kl wk L E M ca ga pa oa ra th nC cs nG gs nP ps nO os nR rs k dmp day pur rf h) (hn : nP ≤ 14) {i : Int32} {b : Bool} :
    CT l D tc yX10_cover cX10_cover 4 (some FieldType.boolean) rm_X10_cover [.ref m0, .int i, .int (bi b)] h (rI (fun z h' => (out9 i nP ∧ z = 0 ∧ MhE tc m0 kl wk 1 nC cs nG gs nP ps nO os nR rs k dmp day pur rf h') ∨ (∃ j, j < nP ∧ i = nI j ∧ z = bi (qCv (ps j).2.2) ∧ MhE tc m0 kl wk 0 nC cs nG gs nP (vf_upd ps j (sp_cvr b (ps j))) nO os nR rs k dmp day pur rf h'))) := by
  refine CT.start [some (.ref m0), some (.int i), some (.int (bi b)), none] (by decide) hl rfl rfl (fun K C M => ?_)
  obtain ⟨rfl, rfl, rfl, -⟩ := id M
  have C : CX K RX10 cX10_cover 4 rm_X10_cover := C
  obtain ⟨mm, mL, mk, mw, mCl, mGl, mPt, mOr, mRm, mn1, mn2, mn3⟩ := id YY
  first | refine w_aload_n C dX10_cover_0 (by rfl) ?_ | refine w_aload_nN C dX10_cover_0 (by rfl) ?_
  first | refine w_aload_n C dX10_cover_1 (by rfl) ?_ | refine w_aload_nN C dX10_cover_1 (by rfl) ?_
  refine w_iload_n C dX10_cover_2 (by rfl) ?_
  refine cl_X10_104 C (m_X10_isNoPot hl YY (by omega)) mm (by rfl) (by rfl) ⟨by decide, by decide⟩ (by rfl) dX10_cover_3 (fun z1 h1 p1 => ?_)
  obtain ⟨rfl, p_3⟩ := p1
  rcases p_3 with ⟨rfl, c_3⟩ | ⟨rfl, j, hj, rfl⟩
  · 
    refine w_iconst (v := 1) C dX10_cover_6 (by rfl) ?_
    refine cl_X10_88 C (m_X10_startT hl mm (by decide)) mm (by rfl) (by rfl) ⟨by decide, by decide⟩ (by rfl) dX10_cover_7 (fun z2 h2 p2 => ?_)
    obtain ⟨rfl, p2⟩ := p2
    have YY := YY.me (th2 := 1) (day2 := day) (dmp2 := dmp) (pur2 := pur) (rf2 := rf) p2
    obtain ⟨mm, mL, mk, mw, mCl, mGl, mPt, mOr, mRm, mn1, mn2, mn3⟩ := id YY
    refine w_if_eq (tgt := 15) C dX10_cover_10 (by rfl) (fun c_10 => ?_) (fun c_10 => ?_)
    · exact absurd c_10 (by decide)
    · try simp only [cg_ge, cg_gt, cl_gt, cl_le, cl_eq, cl_lt, cl_ge, bi_eq0, bi_ne0, bI_eq0, Decidable.not_not, Bool.not_eq_false] at c_10
      refine w_iconst (v := 0) C dX10_cover_13 (by rfl) ?_
      refine w_zret C M dX10_cover_14 ⟨by decide, by decide⟩ (nar01 (Or.inl rfl)) ⟨_, rfl, ?_⟩
      exact Or.inl ⟨c_3, rfl, YY.ex⟩
  · 
    refine w_iconst (v := 1) C dX10_cover_6 (by rfl) ?_
    refine cl_X10_88 C (m_X10_startF hl mm) mm (by rfl) (by rfl) ⟨by decide, by decide⟩ (by rfl) dX10_cover_7 (fun z3 h3 p3 => ?_)
    obtain ⟨rfl, p3⟩ := p3
    have YY := YY.me (th2 := 0) (day2 := day) (dmp2 := dmp) (pur2 := pur) (rf2 := rf) p3
    obtain ⟨mm, mL, mk, mw, mCl, mGl, mPt, mOr, mRm, mn1, mn2, mn3⟩ := id YY
    refine w_if_eq (tgt := 15) C dX10_cover_10 (by rfl) (fun c_10 => ?_) (fun c_10 => ?_)
    · try simp only [cg_ge, cg_gt, cl_gt, cl_le, cl_eq, cl_lt, cl_ge, bi_eq0, bi_ne0, bI_eq0, Decidable.not_not, Bool.not_eq_false] at c_10
      have hpj := mPt j hj
      first | refine w_aload_n C dX10_cover_15 (by rfl) ?_ | refine w_aload_nN C dX10_cover_15 (by rfl) ?_
      refine gf_X10_19 C mm dX10_cover_16 ?_
      refine w_iload_n C dX10_cover_19 (by rfl) ?_
      refine cl_X10_58 C (m_get hl YY.lp YY.ap hj) YY.lp (by rfl) (by rfl) ⟨by decide, by decide⟩ (by rfl) dX10_cover_20 (fun z4 h4 p4 => ?_)
      obtain ⟨rfl, rfl⟩ := p4
      refine w_castS C hpj (r := (RX9, TX9, 12)) rfl gw_1152 dX10_cover_23 ?_
      refine gf_X10_107 C hpj dX10_cover_26 ?_
      refine w_istore_3 C dX10_cover_29 (by first | trivial | rfl) ?_
      first | refine w_aload_n C dX10_cover_30 (by rfl) ?_ | refine w_aload_nN C dX10_cover_30 (by rfl) ?_
      refine gf_X10_19 C mm dX10_cover_31 ?_
      refine w_iload_n C dX10_cover_34 (by rfl) ?_
      refine cl_X10_58 C (m_get hl YY.lp YY.ap hj) YY.lp (by rfl) (by rfl) ⟨by decide, by decide⟩ (by rfl) dX10_cover_35 (fun z5 h5 p5 => ?_)
      obtain ⟨rfl, rfl⟩ := p5
      refine w_castS C hpj (r := (RX9, TX9, 12)) rfl gw_1152 dX10_cover_38 ?_
      refine w_iload_n C dX10_cover_41 (by rfl) ?_
      refine pf_X10_107 C hpj (bi_01 _) dX10_cover_42 (fun h6 u6 => ?_)
      have hpj := u6.self
      have YY := YY.pot hj (p := sp_cvr b (ps j)) u6
      refine w_iload_n C dX10_cover_45 (by rfl) ?_
      refine w_zret C M dX10_cover_46 ⟨by decide, by decide⟩ (nar01 (bi_01 _)) ⟨_, rfl, ?_⟩
      exact Or.inr ⟨j, hj, rfl, rfl, YY.ex⟩
    · exact absurd c_10 (by decide)
