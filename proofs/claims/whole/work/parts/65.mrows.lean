/-! THE REFERENCE: ROWS OVER ITS POTS -/
theorem Fr.itn {h0 h h9 : HM} {q : Nat} {x : va_E} (fr : Fr [] h0 h) (nq : h0 q = none) (u : Up h q x h9) : Fr [] h0 h9 := fun b z _ hb => by
  rw [u.ne (fun w => by rw [w, nq] at hb; cases hb)]
  exact fr b z List.not_mem_nil hb
theorem Mh.it {tc : Nat → ClassId} {h h' : HM} {m0 kl wk : Nat} {L : Nat → Nat} {E : Nat → Nat} {M : Nat → Int32} {ca : Nat → Nat} {ga : Nat → Nat} {pa : Nat → Nat} {oa : Nat → Nat} {ra : Nat → Nat} {th : Int32} {nC : Nat} {cs : Nat → Int32 × Int32} {nG : Nat} {gs : Nat → GT} {nP : Nat} {ps : Nat → PT} {nO : Nat} {os : Nat → OT} {nR : Nat} {rs : Nat → RT} {k : KT} {dmp : Int32} {day : Int32} {pur : Int32} {rf : Int32} (YY : Mh tc m0 kl wk L E M ca ga pa oa ra th nC cs nG gs nP ps nO os nR rs k dmp day pur rf h) {q cur a : Nat} {lr mc : Int32} {x : va_E} (hI : h q = some (itC cur lr mc a)) (u : Up h q x h') : Mh tc m0 kl wk L E M ca ga pa oa ra th nC cs nG gs nP ps nO os nR rs k dmp day pur rf h' := by
  obtain ⟨mm, mL, mk, mw, mCl, mGl, mPt, mOr, mRm, mn1, mn2, mn3⟩ := YY
  exact ⟨u.oth mm hI (by intro v; simp at v), mL.up u.fr (fun b m => by simp at m; subst m; exact ⟨_, hI, by intro _ _ _ v; simp at v, by intro _ _ _ v; simp at v⟩), u.oth mk hI (by intro v; simp at v), u.oth mw hI (by intro v; simp at v), fun j hj => u.oth (mCl j hj) hI (by intro v; simp at v), fun j hj => u.oth (mGl j hj) hI (by intro v; simp at v), fun j hj => u.oth (mPt j hj) hI (by intro v; simp at v), fun j hj => u.oth (mOr j hj) hI (by intro v; simp at v), fun j hj => u.oth (mRm j hj) hI (by intro v; simp at v), mn1, mn2, mn3⟩
theorem cnt_to {p : Nat → Bool} {n : Nat} (hp : ∀ i, n ≤ i → p i = false) : ∀ d, sp_cnt p (n + d) = sp_cnt p n
  | 0 => rfl
  | d + 1 => by
    show sp_cnt p (n + d) + bi (p (n + d)) = _
    rw [hp _ (by omega), cnt_to hp d, bi_f, Int32.add_zero]
theorem cnt_14 {nP : Nat} {Q : Nat → Prop} [∀ i, Decidable (Q i)] (h : nP ≤ 14) : sp_cnt (fun i => decide (i < nP ∧ Q i)) nP = sp_cnt (fun i => decide (i < nP ∧ Q i)) 14 := by
  have := cnt_to (p := fun i => decide (i < nP ∧ Q i)) (n := nP) (fun i hi => decide_eq_false (fun w => by omega)) (14 - nP)
  rw [show nP + (14 - nP) = 14 by omega] at this
  exact this.symm
theorem each_14 {nP : Nat} (g : PT → PT) (ps : Nat → PT) (h : nP ≤ 14) : sp_each nP g ps nP = sp_each nP g ps 14 := by
  funext i
  simp only [sp_each]
  by_cases e : i < nP
  · rw [if_pos ⟨e, e⟩, if_pos ⟨by omega, e⟩]
  · rw [if_neg (fun w => e w.1), if_neg (fun w => e w.2)]
/-- is a cell of a shelf taken by one of the first j pots -/
def sp_any (nP : Nat) (ps : Nat → PT) (s x : Int32) : Nat → Bool
  | 0 => false
  | j + 1 => sp_any nP ps s x j || decide (j < nP ∧ qSh (ps j).2.2 = s ∧ qCe (ps j).2.2 ≤ x ∧ x ≤ qCe (ps j).2.2 + qWd (ps j).2.2 - 1)
theorem any_t {nP : Nat} {ps : Nat → PT} {s x : Int32} {j : Nat} (h : j < nP ∧ qSh (ps j).2.2 = s ∧ qCe (ps j).2.2 ≤ x ∧ x ≤ qCe (ps j).2.2 + qWd (ps j).2.2 - 1) : ∀ d, sp_any nP ps s x (j + 1 + d) = true
  | 0 => by show (sp_any nP ps s x j || decide _) = true; rw [decide_eq_true h, Bool.or_true]
  | d + 1 => by show (sp_any nP ps s x (j + 1 + d) || decide _) = true; rw [any_t h d, Bool.true_or]
theorem any_f {nP : Nat} {ps : Nat → PT} {s x : Int32} {j : Nat} (h : ¬ (j < nP ∧ qSh (ps j).2.2 = s ∧ qCe (ps j).2.2 ≤ x ∧ x ≤ qCe (ps j).2.2 + qWd (ps j).2.2 - 1)) (h0 : sp_any nP ps s x j = false) : sp_any nP ps s x (j + 1) = false := by
  show (sp_any nP ps s x j || decide _) = false
  rw [decide_eq_false h, h0]; rfl
/-- the longest row and the row that stands, of cells by whether they are taken -/
def sp_lr9 (p : Nat → Bool) : Nat → Int32 × Int32
  | 0 => (0, 0)
  | j + 1 => (if (sp_lr9 p j).1 < (if p j then 0 else (sp_lr9 p j).2 + 1) then (if p j then 0 else (sp_lr9 p j).2 + 1) else (sp_lr9 p j).1, if p j then 0 else (sp_lr9 p j).2 + 1)

set_option maxHeartbeats 4000000 in
set_option maxRecDepth 100000 in
theorem lp_X10_manyIn {K : KC} (C : CX K RX10 cX10_manyIn 5 rm_X10_manyIn) (hl : (Kl K).stackTraces = false) {h0 : HM} {m0 kl wk : Nat} {L : Nat → Nat} {E : Nat → Nat} {M : Nat → Int32} {ca : Nat → Nat} {ga : Nat → Nat} {pa : Nat → Nat} {oa : Nat → Nat} {ra : Nat → Nat} {th : Int32} {nC : Nat} {cs : Nat → Int32 × Int32} {nG : Nat} {gs : Nat → GT} {nP : Nat} {ps : Nat → PT} {nO : Nat} {os : Nat → OT} {nR : Nat} {rs : Nat → RT} {k : KT} {dmp : Int32} {day : Int32} {pur : Int32} {rf : Int32} (YY0 : Mh (Kt K) m0 kl wk L E M ca ga pa oa ra th nC cs nG gs nP ps nO os nR rs k dmp day pur rf h0) (hn : nP ≤ 14) {q : Nat} (nq : h0 q = none) {s : Int32}
    (kk : ∀ h', Fr [] h0 h' → WW K (1, 4) 53 [some (.ref m0), some (.int s), some (.int (sp_cnt (fun i => decide (i < nP ∧ qSt (ps i).2.2 = s)) nP)), some (.ref q), none] [] h')
    : ∀ j : Nat, j ≤ nP → ∀ {h : HM} {lr : Int32},  (fr : Fr [] h0 h) → (hI : h q = some (itC j lr (M 2) (L 2))) → WW K (1, 4) 10 [some (.ref m0), some (.int s), some (.int (sp_cnt (fun i => decide (i < nP ∧ qSt (ps i).2.2 = s)) j)), some (.ref q), none] [] h := by
  refine up_ind ?_
  intro j hj ih h lr fr hI
  have YY := YY0.fr0 fr
  obtain ⟨mm, mL, mk, mw, mCl, mGl, mPt, mOr, mRm, mn1, mn2, mn3⟩ := id YY
  first | refine w_aload_n C dX10_manyIn_10 (by rfl) ?_ | refine w_aload_nN C dX10_manyIn_10 (by rfl) ?_
  refine w_hasN C hl YY.lp hI hj (by omega) gw_1257 (by rfl) (by rfl) ⟨by decide, by decide⟩ (by rfl) dX10_manyIn_11 ?_
  refine w_if_eq (tgt := 53) C dX10_manyIn_16 (by rfl) (fun c_16 => ?_) (fun c_16 => ?_)
  · try simp only [cg_ge, cg_gt, cl_gt, cl_le, cl_eq, cl_lt, cl_ge, bi_eq0, bi_ne0, bI_eq0, Decidable.not_not, Bool.not_eq_false] at c_16
    obtain rfl : j = nP := by omega
    exact kk _ fr
  · try simp only [cg_ge, cg_gt, cl_gt, cl_le, cl_eq, cl_lt, cl_ge, bi_eq0, bi_ne0, bI_eq0, Decidable.not_not, Bool.not_eq_false] at c_16
    have hj3 : j < nP := by assumption
    obtain ⟨cap, hE, hcn, hcap⟩ := YY.ap.get hj3
    first | refine w_aload_n C dX10_manyIn_19 (by rfl) ?_ | refine w_aload_nN C dX10_manyIn_19 (by rfl) ?_
    refine w_next C hl YY.lp hI hE hj3 hcn hcap (row9_i hj3) gw_1267 (by rfl) (by rfl) ⟨by decide, by decide⟩ (by rfl) dX10_manyIn_20 (fun h9 u9 => ?_)
    have fr := fr.itn nq u9
    have YY := YY0.fr0 fr
    have hI := u9.self
    obtain ⟨mm, mL, mk, mw, mCl, mGl, mPt, mOr, mRm, mn1, mn2, mn3⟩ := id YY
    have hpj := mPt j hj3
    refine w_castS C hpj (r := (RX9, TX9, 12)) rfl gw_1152 dX10_manyIn_25 ?_
    first | refine w_astore_4 C dX10_manyIn_28 (by first | trivial | rfl) ?_ | refine w_astore_4N C dX10_manyIn_28 (by first | trivial | rfl) ?_
    refine w_iload_n C dX10_manyIn_30 (by rfl) ?_
    first | refine w_aload C dX10_manyIn_31 (by rfl) ?_ | refine w_aloadN C dX10_manyIn_31 (by rfl) ?_
    refine gf_X10_124 C hpj dX10_manyIn_33 ?_
    refine w_iload_n C dX10_manyIn_36 (by rfl) ?_
    refine w_icmp_ne (tgt := 44) C dX10_manyIn_37 (by rfl) (fun c_37 => ?_) (fun c_37 => ?_)
    · refine w_iconst (v := 0) C dX10_manyIn_44 (by rfl) ?_
      refine cl_X10_127 C (m_X10_one hl) (by rfl) (by rfl) ⟨by decide, by decide⟩ (by rfl) dX10_manyIn_45 (fun z5 h1 p1 => ?_)
      obtain ⟨rfl, e9⟩ := p1
      obtain rfl : z5 = bi ((fun i => decide (i < nP ∧ qSt (ps i).2.2 = s)) j) := by
        rw [e9, show (fun i => decide (i < nP ∧ qSt (ps i).2.2 = s)) j = false from decide_eq_false (fun w => c_37 w.2)]
        rfl
      refine w_iadd C dX10_manyIn_48 ?_
      rw [show sp_cnt (fun i => decide (i < nP ∧ qSt (ps i).2.2 = s)) j + bi ((fun i => decide (i < nP ∧ qSt (ps i).2.2 = s)) j) = sp_cnt (fun i => decide (i < nP ∧ qSt (ps i).2.2 = s)) (j + 1) from rfl]
      refine w_istore_2 C dX10_manyIn_49 (by first | trivial | rfl) ?_
      refine w_goto (tgt := 10) C dX10_manyIn_50 (by rfl) ?_
      exact w_sub (ih hj3 fr hI) (by repeat' first | exact trivial | rfl | constructor)
    · refine w_iconst (v := 1) C dX10_manyIn_40 (by rfl) ?_
      refine w_goto (tgt := 45) C dX10_manyIn_41 (by rfl) ?_
      refine cl_X10_127 C (m_X10_one hl) (by rfl) (by rfl) ⟨by decide, by decide⟩ (by rfl) dX10_manyIn_45 (fun z5 h2 p2 => ?_)
      obtain ⟨rfl, e9⟩ := p2
      obtain rfl : z5 = bi ((fun i => decide (i < nP ∧ qSt (ps i).2.2 = s)) j) := by
        rw [e9, show (fun i => decide (i < nP ∧ qSt (ps i).2.2 = s)) j = true from decide_eq_true (⟨hj3, c_37⟩)]
        rfl
      refine w_iadd C dX10_manyIn_48 ?_
      rw [show sp_cnt (fun i => decide (i < nP ∧ qSt (ps i).2.2 = s)) j + bi ((fun i => decide (i < nP ∧ qSt (ps i).2.2 = s)) j) = sp_cnt (fun i => decide (i < nP ∧ qSt (ps i).2.2 = s)) (j + 1) from rfl]
      refine w_istore_2 C dX10_manyIn_49 (by first | trivial | rfl) ?_
      refine w_goto (tgt := 10) C dX10_manyIn_50 (by rfl) ?_
      exact w_sub (ih hj3 fr hI) (by repeat' first | exact trivial | rfl | constructor)

set_option maxHeartbeats 4000000 in
set_option maxRecDepth 100000 in
theorem m_X10_manyIn {l : Launch} {D : va_G} {tc : Nat → ClassId} (hl : l.stackTraces = false) {h : HM} {m0 kl wk : Nat} {L : Nat → Nat} {E : Nat → Nat} {M : Nat → Int32} {ca : Nat → Nat} {ga : Nat → Nat} {pa : Nat → Nat} {oa : Nat → Nat} {ra : Nat → Nat} {th : Int32} {nC : Nat} {cs : Nat → Int32 × Int32} {nG : Nat} {gs : Nat → GT} {nP : Nat} {ps : Nat → PT} {nO : Nat} {os : Nat → OT} {nR : Nat} {rs : Nat → RT} {k : KT} {dmp : Int32} {day : Int32} {pur : Int32} {rf : Int32} (YY : Mh tc m0 kl wk L E M ca ga pa oa ra th nC cs nG gs nP ps nO os nR rs k dmp day pur rf h) (hn : nP ≤ 14) {s : Int32} :
    CT l D tc yX10_manyIn cX10_manyIn 5 (some FieldType.int) rm_X10_manyIn [.ref m0, .int s] h (rI (fun z h' => z = sp_cnt (fun i => decide (i < nP ∧ qSt (ps i).2.2 = s)) nP ∧ Fr [] h h')) := by
  refine CT.start [some (.ref m0), some (.int s), none, none, none] (by decide) hl rfl rfl (fun K C M => ?_)
  obtain ⟨rfl, rfl, rfl, -⟩ := id M
  have C : CX K RX10 cX10_manyIn 5 rm_X10_manyIn := C
  obtain ⟨mm, mL, mk, mw, mCl, mGl, mPt, mOr, mRm, mn1, mn2, mn3⟩ := id YY
  refine w_iconst (v := 0) C dX10_manyIn_0 (by rfl) ?_
  refine w_istore_2 C dX10_manyIn_1 (by first | trivial | rfl) ?_
  first | refine w_aload_n C dX10_manyIn_2 (by rfl) ?_ | refine w_aload_nN C dX10_manyIn_2 (by rfl) ?_
  refine gf_X10_19 C mm dX10_manyIn_3 ?_
  refine cl_X10_110 C (m_Jx4a65c_iterator_32c93 hl YY.lp) YY.lp (by rfl) (by rfl) ⟨by decide, by decide⟩ (by rfl) dX10_manyIn_6 (fun z1 h1 p1 => ?_)
  obtain ⟨q, rfl, nq, uq⟩ := p1
  first | refine w_astore_3 C dX10_manyIn_9 (by first | trivial | rfl) ?_ | refine w_astore_3N C dX10_manyIn_9 (by first | trivial | rfl) ?_
  refine lp_X10_manyIn C hl YY hn nq (fun h9 fr9 => ?_) 0 (by omega) (uq.frN nq) uq.self
  refine w_iload_n C dX10_manyIn_53 (by rfl) ?_
  refine w_iret C M dX10_manyIn_54 ⟨by decide, by decide⟩ ⟨_, rfl, ?_⟩
  exact ⟨rfl, fr9⟩

set_option maxHeartbeats 4000000 in
set_option maxRecDepth 100000 in
theorem lp_X10_placed {K : KC} (C : CX K RX10 cX10_placed 5 rm_X10_placed) (hl : (Kl K).stackTraces = false) {h0 : HM} {m0 kl wk : Nat} {L : Nat → Nat} {E : Nat → Nat} {M : Nat → Int32} {ca : Nat → Nat} {ga : Nat → Nat} {pa : Nat → Nat} {oa : Nat → Nat} {ra : Nat → Nat} {th : Int32} {nC : Nat} {cs : Nat → Int32 × Int32} {nG : Nat} {gs : Nat → GT} {nP : Nat} {ps : Nat → PT} {nO : Nat} {os : Nat → OT} {nR : Nat} {rs : Nat → RT} {k : KT} {dmp : Int32} {day : Int32} {pur : Int32} {rf : Int32} (YY0 : Mh (Kt K) m0 kl wk L E M ca ga pa oa ra th nC cs nG gs nP ps nO os nR rs k dmp day pur rf h0) (hn : nP ≤ 14) {q : Nat} (nq : h0 q = none) {s : Int32}
    (kk : ∀ h', Fr [] h0 h' → WW K (1, 4) 75 [some (.ref m0), some (.int s), some (.int (sp_cnt (fun i => decide (i < nP ∧ (if s = -1 then ¬ qSh (ps i).2.2 = -1 else qSh (ps i).2.2 = s))) nP)), some (.ref q), none] [] h')
    : ∀ j : Nat, j ≤ nP → ∀ {h : HM} {lr : Int32},  (fr : Fr [] h0 h) → (hI : h q = some (itC j lr (M 2) (L 2))) → WW K (1, 4) 10 [some (.ref m0), some (.int s), some (.int (sp_cnt (fun i => decide (i < nP ∧ (if s = -1 then ¬ qSh (ps i).2.2 = -1 else qSh (ps i).2.2 = s))) j)), some (.ref q), none] [] h := by
  refine up_ind ?_
  intro j hj ih h lr fr hI
  have YY := YY0.fr0 fr
  obtain ⟨mm, mL, mk, mw, mCl, mGl, mPt, mOr, mRm, mn1, mn2, mn3⟩ := id YY
  first | refine w_aload_n C dX10_placed_10 (by rfl) ?_ | refine w_aload_nN C dX10_placed_10 (by rfl) ?_
  refine w_hasN C hl YY.lp hI hj (by omega) gw_1257 (by rfl) (by rfl) ⟨by decide, by decide⟩ (by rfl) dX10_placed_11 ?_
  refine w_if_eq (tgt := 75) C dX10_placed_16 (by rfl) (fun c_16 => ?_) (fun c_16 => ?_)
  · try simp only [cg_ge, cg_gt, cl_gt, cl_le, cl_eq, cl_lt, cl_ge, bi_eq0, bi_ne0, bI_eq0, Decidable.not_not, Bool.not_eq_false] at c_16
    obtain rfl : j = nP := by omega
    exact kk _ fr
  · try simp only [cg_ge, cg_gt, cl_gt, cl_le, cl_eq, cl_lt, cl_ge, bi_eq0, bi_ne0, bI_eq0, Decidable.not_not, Bool.not_eq_false] at c_16
    have hj3 : j < nP := by assumption
    obtain ⟨cap, hE, hcn, hcap⟩ := YY.ap.get hj3
    first | refine w_aload_n C dX10_placed_19 (by rfl) ?_ | refine w_aload_nN C dX10_placed_19 (by rfl) ?_
    refine w_next C hl YY.lp hI hE hj3 hcn hcap (row9_i hj3) gw_1267 (by rfl) (by rfl) ⟨by decide, by decide⟩ (by rfl) dX10_placed_20 (fun h9 u9 => ?_)
    have fr := fr.itn nq u9
    have YY := YY0.fr0 fr
    have hI := u9.self
    obtain ⟨mm, mL, mk, mw, mCl, mGl, mPt, mOr, mRm, mn1, mn2, mn3⟩ := id YY
    have hpj := mPt j hj3
    refine w_castS C hpj (r := (RX9, TX9, 12)) rfl gw_1152 dX10_placed_25 ?_
    first | refine w_astore_4 C dX10_placed_28 (by first | trivial | rfl) ?_ | refine w_astore_4N C dX10_placed_28 (by first | trivial | rfl) ?_
    refine w_iload_n C dX10_placed_30 (by rfl) ?_
    refine w_iload_n C dX10_placed_31 (by rfl) ?_
    refine w_iconst (v := (-1)) C dX10_placed_32 (by rfl) ?_
    refine w_icmp_ne (tgt := 53) C dX10_placed_33 (by rfl) (fun c_33 => ?_) (fun c_33 => ?_)
    · first | refine w_aload C dX10_placed_53 (by rfl) ?_ | refine w_aloadN C dX10_placed_53 (by rfl) ?_
      refine gf_X10_150 C hpj dX10_placed_55 ?_
      refine w_iload_n C dX10_placed_58 (by rfl) ?_
      refine w_icmp_ne (tgt := 66) C dX10_placed_59 (by rfl) (fun c_59 => ?_) (fun c_59 => ?_)
      · refine w_iconst (v := 0) C dX10_placed_66 (by rfl) ?_
        refine cl_X10_127 C (m_X10_one hl) (by rfl) (by rfl) ⟨by decide, by decide⟩ (by rfl) dX10_placed_67 (fun z5 h1 p1 => ?_)
        obtain ⟨rfl, e9⟩ := p1
        obtain rfl : z5 = bi ((fun i => decide (i < nP ∧ (if s = -1 then ¬ qSh (ps i).2.2 = -1 else qSh (ps i).2.2 = s))) j) := by
          rw [e9, show (fun i => decide (i < nP ∧ (if s = -1 then ¬ qSh (ps i).2.2 = -1 else qSh (ps i).2.2 = s))) j = false from decide_eq_false (fun w => by rw [if_neg c_33] at w; exact c_59 w.2)]
          rfl
        refine w_iadd C dX10_placed_70 ?_
        rw [show sp_cnt (fun i => decide (i < nP ∧ (if s = -1 then ¬ qSh (ps i).2.2 = -1 else qSh (ps i).2.2 = s))) j + bi ((fun i => decide (i < nP ∧ (if s = -1 then ¬ qSh (ps i).2.2 = -1 else qSh (ps i).2.2 = s))) j) = sp_cnt (fun i => decide (i < nP ∧ (if s = -1 then ¬ qSh (ps i).2.2 = -1 else qSh (ps i).2.2 = s))) (j + 1) from rfl]
        refine w_istore_2 C dX10_placed_71 (by first | trivial | rfl) ?_
        refine w_goto (tgt := 10) C dX10_placed_72 (by rfl) ?_
        exact w_sub (ih hj3 fr hI) (by repeat' first | exact trivial | rfl | constructor)
      · refine w_iconst (v := 1) C dX10_placed_62 (by rfl) ?_
        refine w_goto (tgt := 67) C dX10_placed_63 (by rfl) ?_
        refine cl_X10_127 C (m_X10_one hl) (by rfl) (by rfl) ⟨by decide, by decide⟩ (by rfl) dX10_placed_67 (fun z5 h2 p2 => ?_)
        obtain ⟨rfl, e9⟩ := p2
        obtain rfl : z5 = bi ((fun i => decide (i < nP ∧ (if s = -1 then ¬ qSh (ps i).2.2 = -1 else qSh (ps i).2.2 = s))) j) := by
          rw [e9, show (fun i => decide (i < nP ∧ (if s = -1 then ¬ qSh (ps i).2.2 = -1 else qSh (ps i).2.2 = s))) j = true from decide_eq_true (⟨hj3, by rw [if_neg c_33]; exact c_59⟩)]
          rfl
        refine w_iadd C dX10_placed_70 ?_
        rw [show sp_cnt (fun i => decide (i < nP ∧ (if s = -1 then ¬ qSh (ps i).2.2 = -1 else qSh (ps i).2.2 = s))) j + bi ((fun i => decide (i < nP ∧ (if s = -1 then ¬ qSh (ps i).2.2 = -1 else qSh (ps i).2.2 = s))) j) = sp_cnt (fun i => decide (i < nP ∧ (if s = -1 then ¬ qSh (ps i).2.2 = -1 else qSh (ps i).2.2 = s))) (j + 1) from rfl]
        refine w_istore_2 C dX10_placed_71 (by first | trivial | rfl) ?_
        refine w_goto (tgt := 10) C dX10_placed_72 (by rfl) ?_
        exact w_sub (ih hj3 fr hI) (by repeat' first | exact trivial | rfl | constructor)
    · first | refine w_aload C dX10_placed_36 (by rfl) ?_ | refine w_aloadN C dX10_placed_36 (by rfl) ?_
      refine gf_X10_150 C hpj dX10_placed_38 ?_
      refine w_iconst (v := (-1)) C dX10_placed_41 (by rfl) ?_
      refine w_icmp_eq (tgt := 49) C dX10_placed_42 (by rfl) (fun c_42 => ?_) (fun c_42 => ?_)
      · refine w_iconst (v := 0) C dX10_placed_49 (by rfl) ?_
        refine w_goto (tgt := 67) C dX10_placed_50 (by rfl) ?_
        refine cl_X10_127 C (m_X10_one hl) (by rfl) (by rfl) ⟨by decide, by decide⟩ (by rfl) dX10_placed_67 (fun z5 h3 p3 => ?_)
        obtain ⟨rfl, e9⟩ := p3
        obtain rfl : z5 = bi ((fun i => decide (i < nP ∧ (if s = -1 then ¬ qSh (ps i).2.2 = -1 else qSh (ps i).2.2 = s))) j) := by
          rw [e9, show (fun i => decide (i < nP ∧ (if s = -1 then ¬ qSh (ps i).2.2 = -1 else qSh (ps i).2.2 = s))) j = false from decide_eq_false (fun w => by rw [if_pos c_33] at w; exact w.2 c_42)]
          rfl
        refine w_iadd C dX10_placed_70 ?_
        rw [show sp_cnt (fun i => decide (i < nP ∧ (if s = -1 then ¬ qSh (ps i).2.2 = -1 else qSh (ps i).2.2 = s))) j + bi ((fun i => decide (i < nP ∧ (if s = -1 then ¬ qSh (ps i).2.2 = -1 else qSh (ps i).2.2 = s))) j) = sp_cnt (fun i => decide (i < nP ∧ (if s = -1 then ¬ qSh (ps i).2.2 = -1 else qSh (ps i).2.2 = s))) (j + 1) from rfl]
        refine w_istore_2 C dX10_placed_71 (by first | trivial | rfl) ?_
        refine w_goto (tgt := 10) C dX10_placed_72 (by rfl) ?_
        exact w_sub (ih hj3 fr hI) (by repeat' first | exact trivial | rfl | constructor)
      · refine w_iconst (v := 1) C dX10_placed_45 (by rfl) ?_
        refine w_goto (tgt := 67) C dX10_placed_46 (by rfl) ?_
        refine cl_X10_127 C (m_X10_one hl) (by rfl) (by rfl) ⟨by decide, by decide⟩ (by rfl) dX10_placed_67 (fun z5 h4 p4 => ?_)
        obtain ⟨rfl, e9⟩ := p4
        obtain rfl : z5 = bi ((fun i => decide (i < nP ∧ (if s = -1 then ¬ qSh (ps i).2.2 = -1 else qSh (ps i).2.2 = s))) j) := by
          rw [e9, show (fun i => decide (i < nP ∧ (if s = -1 then ¬ qSh (ps i).2.2 = -1 else qSh (ps i).2.2 = s))) j = true from decide_eq_true (⟨hj3, by rw [if_pos c_33]; exact c_42⟩)]
          rfl
        refine w_iadd C dX10_placed_70 ?_
        rw [show sp_cnt (fun i => decide (i < nP ∧ (if s = -1 then ¬ qSh (ps i).2.2 = -1 else qSh (ps i).2.2 = s))) j + bi ((fun i => decide (i < nP ∧ (if s = -1 then ¬ qSh (ps i).2.2 = -1 else qSh (ps i).2.2 = s))) j) = sp_cnt (fun i => decide (i < nP ∧ (if s = -1 then ¬ qSh (ps i).2.2 = -1 else qSh (ps i).2.2 = s))) (j + 1) from rfl]
        refine w_istore_2 C dX10_placed_71 (by first | trivial | rfl) ?_
        refine w_goto (tgt := 10) C dX10_placed_72 (by rfl) ?_
        exact w_sub (ih hj3 fr hI) (by repeat' first | exact trivial | rfl | constructor)

set_option maxHeartbeats 4000000 in
set_option maxRecDepth 100000 in
theorem m_X10_placed {l : Launch} {D : va_G} {tc : Nat → ClassId} (hl : l.stackTraces = false) {h : HM} {m0 kl wk : Nat} {L : Nat → Nat} {E : Nat → Nat} {M : Nat → Int32} {ca : Nat → Nat} {ga : Nat → Nat} {pa : Nat → Nat} {oa : Nat → Nat} {ra : Nat → Nat} {th : Int32} {nC : Nat} {cs : Nat → Int32 × Int32} {nG : Nat} {gs : Nat → GT} {nP : Nat} {ps : Nat → PT} {nO : Nat} {os : Nat → OT} {nR : Nat} {rs : Nat → RT} {k : KT} {dmp : Int32} {day : Int32} {pur : Int32} {rf : Int32} (YY : Mh tc m0 kl wk L E M ca ga pa oa ra th nC cs nG gs nP ps nO os nR rs k dmp day pur rf h) (hn : nP ≤ 14) {s : Int32} :
    CT l D tc yX10_placed cX10_placed 5 (some FieldType.int) rm_X10_placed [.ref m0, .int s] h (rI (fun z h' => z = sp_cnt (fun i => decide (i < nP ∧ (if s = -1 then ¬ qSh (ps i).2.2 = -1 else qSh (ps i).2.2 = s))) nP ∧ Fr [] h h')) := by
  refine CT.start [some (.ref m0), some (.int s), none, none, none] (by decide) hl rfl rfl (fun K C M => ?_)
  obtain ⟨rfl, rfl, rfl, -⟩ := id M
  have C : CX K RX10 cX10_placed 5 rm_X10_placed := C
  obtain ⟨mm, mL, mk, mw, mCl, mGl, mPt, mOr, mRm, mn1, mn2, mn3⟩ := id YY
  refine w_iconst (v := 0) C dX10_placed_0 (by rfl) ?_
  refine w_istore_2 C dX10_placed_1 (by first | trivial | rfl) ?_
  first | refine w_aload_n C dX10_placed_2 (by rfl) ?_ | refine w_aload_nN C dX10_placed_2 (by rfl) ?_
  refine gf_X10_19 C mm dX10_placed_3 ?_
  refine cl_X10_110 C (m_Jx4a65c_iterator_32c93 hl YY.lp) YY.lp (by rfl) (by rfl) ⟨by decide, by decide⟩ (by rfl) dX10_placed_6 (fun z1 h1 p1 => ?_)
  obtain ⟨q, rfl, nq, uq⟩ := p1
  first | refine w_astore_3 C dX10_placed_9 (by first | trivial | rfl) ?_ | refine w_astore_3N C dX10_placed_9 (by first | trivial | rfl) ?_
  refine lp_X10_placed C hl YY hn nq (fun h9 fr9 => ?_) 0 (by omega) (uq.frN nq) uq.self
  refine w_iload_n C dX10_placed_75 (by rfl) ?_
  refine w_iret C M dX10_placed_76 ⟨by decide, by decide⟩ ⟨_, rfl, ?_⟩
  exact ⟨rfl, fr9⟩

set_option maxHeartbeats 4000000 in
set_option maxRecDepth 100000 in
theorem lp_X10_isTaken {K : KC} (C : CX K RX10 cX10_isTaken 5 rm_X10_isTaken) (hl : (Kl K).stackTraces = false) {h0 : HM} {m0 kl wk : Nat} {L : Nat → Nat} {E : Nat → Nat} {M : Nat → Int32} {ca : Nat → Nat} {ga : Nat → Nat} {pa : Nat → Nat} {oa : Nat → Nat} {ra : Nat → Nat} {th : Int32} {nC : Nat} {cs : Nat → Int32 × Int32} {nG : Nat} {gs : Nat → GT} {nP : Nat} {ps : Nat → PT} {nO : Nat} {os : Nat → OT} {nR : Nat} {rs : Nat → RT} {k : KT} {dmp : Int32} {day : Int32} {pur : Int32} {rf : Int32} (YY0 : Mh (Kt K) m0 kl wk L E M ca ga pa oa ra th nC cs nG gs nP ps nO os nR rs k dmp day pur rf h0) (hn : nP ≤ 14) {q : Nat} (nq : h0 q = none) {s x : Int32} {h9 : HM} {P : Int32 → HM → Prop}
    (M9 : MX K (KD K) (Kt K) (Kl K) rm_X10_isTaken (some FieldType.boolean) h9 (rI P) yX10_isTaken.name)
    (fin : ∀ z h', z = bi (sp_any nP ps s x nP) → Fr [] h0 h' → P z h')
    : ∀ j : Nat, j ≤ nP → ∀ {h : HM} {lr : Int32},  (fr : Fr [] h0 h) → (hI : h q = some (itC j lr (M 2) (L 2))) → (hf9 : sp_any nP ps s x j = false) → WW K (1, 4) 8 [some (.ref m0), some (.int s), some (.int x), some (.ref q), none] [] h := by
  refine up_ind ?_
  intro j hj ih h lr fr hI hf9
  have YY := YY0.fr0 fr
  obtain ⟨mm, mL, mk, mw, mCl, mGl, mPt, mOr, mRm, mn1, mn2, mn3⟩ := id YY
  have M := M9
  first | refine w_aload_n C dX10_isTaken_8 (by rfl) ?_ | refine w_aload_nN C dX10_isTaken_8 (by rfl) ?_
  refine w_hasN C hl YY.lp hI hj (by omega) gw_1257 (by rfl) (by rfl) ⟨by decide, by decide⟩ (by rfl) dX10_isTaken_9 ?_
  refine w_if_eq (tgt := 67) C dX10_isTaken_14 (by rfl) (fun c_14 => ?_) (fun c_14 => ?_)
  · try simp only [cg_ge, cg_gt, cl_gt, cl_le, cl_eq, cl_lt, cl_ge, bi_eq0, bi_ne0, bI_eq0, Decidable.not_not, Bool.not_eq_false] at c_14
    obtain rfl : j = nP := by omega
    refine w_iconst (v := 0) C dX10_isTaken_67 (by rfl) ?_
    refine w_zret C M dX10_isTaken_68 ⟨by decide, by decide⟩ (by rfl) ⟨_, rfl, ?_⟩
    exact fin _ _ (by rw [hf9]; rfl) fr
  · try simp only [cg_ge, cg_gt, cl_gt, cl_le, cl_eq, cl_lt, cl_ge, bi_eq0, bi_ne0, bI_eq0, Decidable.not_not, Bool.not_eq_false] at c_14
    have hj3 : j < nP := by assumption
    obtain ⟨cap, hE, hcn, hcap⟩ := YY.ap.get hj3
    first | refine w_aload_n C dX10_isTaken_17 (by rfl) ?_ | refine w_aload_nN C dX10_isTaken_17 (by rfl) ?_
    refine w_next C hl YY.lp hI hE hj3 hcn hcap (row9_i hj3) gw_1267 (by rfl) (by rfl) ⟨by decide, by decide⟩ (by rfl) dX10_isTaken_18 (fun h9 u9 => ?_)
    have fr := fr.itn nq u9
    have YY := YY0.fr0 fr
    have hI := u9.self
    obtain ⟨mm, mL, mk, mw, mCl, mGl, mPt, mOr, mRm, mn1, mn2, mn3⟩ := id YY
    have hpj := mPt j hj3
    refine w_castS C hpj (r := (RX9, TX9, 12)) rfl gw_1152 dX10_isTaken_23 ?_
    first | refine w_astore_4 C dX10_isTaken_26 (by first | trivial | rfl) ?_ | refine w_astore_4N C dX10_isTaken_26 (by first | trivial | rfl) ?_
    first | refine w_aload C dX10_isTaken_28 (by rfl) ?_ | refine w_aloadN C dX10_isTaken_28 (by rfl) ?_
    refine gf_X10_150 C hpj dX10_isTaken_30 ?_
    refine w_iload_n C dX10_isTaken_33 (by rfl) ?_
    refine w_icmp_ne (tgt := 64) C dX10_isTaken_34 (by rfl) (fun c_34 => ?_) (fun c_34 => ?_)
    · have g9 := any_f (fun w => c_34 w.2.1) hf9
      refine w_goto (tgt := 8) C dX10_isTaken_64 (by rfl) ?_
      exact w_sub (ih hj3 fr hI g9) (by repeat' first | exact trivial | rfl | constructor)
    · refine w_iload_n C dX10_isTaken_37 (by rfl) ?_
      first | refine w_aload C dX10_isTaken_38 (by rfl) ?_ | refine w_aloadN C dX10_isTaken_38 (by rfl) ?_
      refine gf_X10_153 C hpj dX10_isTaken_40 ?_
      first | refine w_aload C dX10_isTaken_43 (by rfl) ?_ | refine w_aloadN C dX10_isTaken_43 (by rfl) ?_
      refine gf_X10_153 C hpj dX10_isTaken_45 ?_
      first | refine w_aload C dX10_isTaken_48 (by rfl) ?_ | refine w_aloadN C dX10_isTaken_48 (by rfl) ?_
      refine gf_X10_156 C hpj dX10_isTaken_50 ?_
      refine w_iadd C dX10_isTaken_53 ?_
      refine w_iconst (v := 1) C dX10_isTaken_54 (by rfl) ?_
      refine w_isub C dX10_isTaken_55 ?_
      refine cl_X10_44 C (m_X10_isIn hl) (by rfl) (by rfl) ⟨by decide, by decide⟩ (by rfl) dX10_isTaken_56 (fun z1 h1 p1 => ?_)
      obtain ⟨rfl, rfl⟩ := p1
      refine w_if_eq (tgt := 64) C dX10_isTaken_59 (by rfl) (fun c_59 => ?_) (fun c_59 => ?_)
      · try simp only [cg_ge, cg_gt, cl_gt, cl_le, cl_eq, cl_lt, cl_ge, bi_eq0, bi_ne0, bI_eq0, Decidable.not_not, Bool.not_eq_false] at c_59
        have g9 := any_f (fun w => c_59 w.2.2) hf9
        refine w_goto (tgt := 8) C dX10_isTaken_64 (by rfl) ?_
        exact w_sub (ih hj3 fr hI g9) (by repeat' first | exact trivial | rfl | constructor)
      · try simp only [cg_ge, cg_gt, cl_gt, cl_le, cl_eq, cl_lt, cl_ge, bi_eq0, bi_ne0, bI_eq0, Decidable.not_not, Bool.not_eq_false] at c_59
        refine w_iconst (v := 1) C dX10_isTaken_62 (by rfl) ?_
        refine w_zret C M dX10_isTaken_63 ⟨by decide, by decide⟩ (by rfl) ⟨_, rfl, ?_⟩
        refine fin _ _ ?_ fr
        have := any_t ⟨hj3, c_34, c_59⟩ (nP - (j + 1))
        rw [show j + 1 + (nP - (j + 1)) = nP by omega] at this
        rw [this]; rfl

set_option maxHeartbeats 4000000 in
set_option maxRecDepth 100000 in
theorem m_X10_isTaken {l : Launch} {D : va_G} {tc : Nat → ClassId} (hl : l.stackTraces = false) {h : HM} {m0 kl wk : Nat} {L : Nat → Nat} {E : Nat → Nat} {M : Nat → Int32} {ca : Nat → Nat} {ga : Nat → Nat} {pa : Nat → Nat} {oa : Nat → Nat} {ra : Nat → Nat} {th : Int32} {nC : Nat} {cs : Nat → Int32 × Int32} {nG : Nat} {gs : Nat → GT} {nP : Nat} {ps : Nat → PT} {nO : Nat} {os : Nat → OT} {nR : Nat} {rs : Nat → RT} {k : KT} {dmp : Int32} {day : Int32} {pur : Int32} {rf : Int32} (YY : Mh tc m0 kl wk L E M ca ga pa oa ra th nC cs nG gs nP ps nO os nR rs k dmp day pur rf h) (hn : nP ≤ 14) {s x : Int32} :
    CT l D tc yX10_isTaken cX10_isTaken 5 (some FieldType.boolean) rm_X10_isTaken [.ref m0, .int s, .int x] h (rI (fun z h' => z = bi (sp_any nP ps s x nP) ∧ Fr [] h h')) := by
  refine CT.start [some (.ref m0), some (.int s), some (.int x), none, none] (by decide) hl rfl rfl (fun K C M => ?_)
  obtain ⟨rfl, rfl, rfl, -⟩ := id M
  have C : CX K RX10 cX10_isTaken 5 rm_X10_isTaken := C
  obtain ⟨mm, mL, mk, mw, mCl, mGl, mPt, mOr, mRm, mn1, mn2, mn3⟩ := id YY
  first | refine w_aload_n C dX10_isTaken_0 (by rfl) ?_ | refine w_aload_nN C dX10_isTaken_0 (by rfl) ?_
  refine gf_X10_19 C mm dX10_isTaken_1 ?_
  refine cl_X10_110 C (m_Jx4a65c_iterator_32c93 hl YY.lp) YY.lp (by rfl) (by rfl) ⟨by decide, by decide⟩ (by rfl) dX10_isTaken_4 (fun z1 h1 p1 => ?_)
  obtain ⟨q, rfl, nq, uq⟩ := p1
  first | refine w_astore_3 C dX10_isTaken_7 (by first | trivial | rfl) ?_ | refine w_astore_3N C dX10_isTaken_7 (by first | trivial | rfl) ?_
  exact lp_X10_isTaken C hl YY hn nq M (fun z9 h9 e9 fr9 => ⟨e9, fr9⟩) 0 (by omega) (uq.frN nq) uq.self rfl

set_option maxHeartbeats 4000000 in
set_option maxRecDepth 100000 in
theorem lp_X10_free {K : KC} (C : CX K RX10 cX10_free 4 rm_X10_free) (hl : (Kl K).stackTraces = false) {h0 : HM} {m0 kl wk : Nat} {L : Nat → Nat} {E : Nat → Nat} {M : Nat → Int32} {ca : Nat → Nat} {ga : Nat → Nat} {pa : Nat → Nat} {oa : Nat → Nat} {ra : Nat → Nat} {th : Int32} {nC : Nat} {cs : Nat → Int32 × Int32} {nG : Nat} {gs : Nat → GT} {nP : Nat} {ps : Nat → PT} {nO : Nat} {os : Nat → OT} {nR : Nat} {rs : Nat → RT} {k : KT} {dmp : Int32} {day : Int32} {pur : Int32} {rf : Int32} (YY0 : Mh (Kt K) m0 kl wk L E M ca ga pa oa ra th nC cs nG gs nP ps nO os nR rs k dmp day pur rf h0) (hn : nP ≤ 14) {s : Int32}
    (kk : ∀ h', Fr [] h0 h' → WW K (10, 40) 36 [some (.ref m0), some (.int s), some (.int (sp_cnt (fun x => !sp_any nP ps s (nI x) nP) 10)), some (.int (nI 10))] [] h')
    : ∀ j : Nat, j ≤ 10 → ∀ {h : HM},  (fr : Fr [] h0 h) → WW K (j, 4 * j) 4 [some (.ref m0), some (.int s), some (.int (sp_cnt (fun x => !sp_any nP ps s (nI x) nP) j)), some (.int (nI j))] [] h := by
  refine up_ind ?_
  intro j hj ih h fr
  have YY := YY0.fr0 fr
  obtain ⟨mm, mL, mk, mw, mCl, mGl, mPt, mOr, mRm, mn1, mn2, mn3⟩ := id YY
  refine w_iload_n C dX10_free_4 (by rfl) ?_
  refine w_bipush (v := (10)) C dX10_free_5 (by rfl) ?_
  refine w_icmp_ge (tgt := 36) C dX10_free_7 (by rfl) (fun c_7 => ?_) (fun c_7 => ?_)
  · have e3 : ¬ j < 10 := fun q => nI_ge q (show 10 < 2 ^ 31 by decide) c_7
    obtain rfl : j = 10 := by omega
    exact kk _ fr
  · have hj3 : j < 10 := Nat.not_le.mp (fun q => c_7 (nI_le (a := 10) q (by omega)))
    refine w_iload_n C dX10_free_10 (by rfl) ?_
    first | refine w_aload_n C dX10_free_11 (by rfl) ?_ | refine w_aload_nN C dX10_free_11 (by rfl) ?_
    refine w_iload_n C dX10_free_12 (by rfl) ?_
    refine w_iload_n C dX10_free_13 (by rfl) ?_
    refine cl_X10_159 C (m_X10_isTaken hl YY hn) mm (by rfl) (by rfl) ⟨show j + 1 ≤ 10 by omega, show 4 * j + 4 ≤ 40 by omega⟩ (by rfl) dX10_free_14 (fun z1 h1 p1 => ?_)
    obtain ⟨rfl, fr9⟩ := p1
    have fr := fr.tr fr9
    have YY := YY0.fr0 fr
    obtain ⟨mm, mL, mk, mw, mCl, mGl, mPt, mOr, mRm, mn1, mn2, mn3⟩ := id YY
    refine w_if_ne (tgt := 24) C dX10_free_17 (by rfl) (fun c_17 => ?_) (fun c_17 => ?_)
    · try simp only [cg_ge, cg_gt, cl_gt, cl_le, cl_eq, cl_lt, cl_ge, bi_eq0, bi_ne0, bI_eq0, Decidable.not_not, Bool.not_eq_false] at c_17
      refine w_iconst (v := 0) C dX10_free_24 (by rfl) ?_
      refine cl_X10_127 C (m_X10_one hl) (by rfl) (by rfl) ⟨show j + 1 + 0 ≤ 10 by omega, show 4 * j + 4 + 0 ≤ 40 by omega⟩ (by rfl) dX10_free_25 (fun z5 h2 p2 => ?_)
      obtain ⟨rfl, e9⟩ := p2
      obtain rfl : z5 = bi ((fun x => !sp_any nP ps s (nI x) nP) j) := by
        rw [e9, show (fun x => !sp_any nP ps s (nI x) nP) j = false from by dsimp only; rw [c_17]; rfl]
        rfl
      refine w_iadd C dX10_free_28 ?_
      rw [show sp_cnt (fun x => !sp_any nP ps s (nI x) nP) j + bi ((fun x => !sp_any nP ps s (nI x) nP) j) = sp_cnt (fun x => !sp_any nP ps s (nI x) nP) (j + 1) from rfl]
      refine w_istore_2 C dX10_free_29 (by first | trivial | rfl) ?_
      refine w_iinc_3 (v := _ + (1)) C dX10_free_30 (by rfl) (by first | trivial | rfl) ?_
      refine w_goto (tgt := 4) C dX10_free_33 (by rfl) ?_
      rw [nI_1 j]
      refine w_widen (n' := (j + 1, 4 * (j + 1))) ?_ (show j + 1 + 0 ≤ j + 1 by omega) (show 4 * j + 4 + 0 ≤ 4 * (j + 1) by omega)
      exact w_sub (ih hj3 fr) (by repeat' first | exact trivial | rfl | constructor)
    · try simp only [cg_ge, cg_gt, cl_gt, cl_le, cl_eq, cl_lt, cl_ge, bi_eq0, bi_ne0, bI_eq0, Decidable.not_not, Bool.not_eq_false] at c_17
      refine w_iconst (v := 1) C dX10_free_20 (by rfl) ?_
      refine w_goto (tgt := 25) C dX10_free_21 (by rfl) ?_
      refine cl_X10_127 C (m_X10_one hl) (by rfl) (by rfl) ⟨show j + 1 + 0 ≤ 10 by omega, show 4 * j + 4 + 0 ≤ 40 by omega⟩ (by rfl) dX10_free_25 (fun z5 h3 p3 => ?_)
      obtain ⟨rfl, e9⟩ := p3
      obtain rfl : z5 = bi ((fun x => !sp_any nP ps s (nI x) nP) j) := by
        rw [e9, show (fun x => !sp_any nP ps s (nI x) nP) j = true from by dsimp only; rw [c_17]; rfl]
        rfl
      refine w_iadd C dX10_free_28 ?_
      rw [show sp_cnt (fun x => !sp_any nP ps s (nI x) nP) j + bi ((fun x => !sp_any nP ps s (nI x) nP) j) = sp_cnt (fun x => !sp_any nP ps s (nI x) nP) (j + 1) from rfl]
      refine w_istore_2 C dX10_free_29 (by first | trivial | rfl) ?_
      refine w_iinc_3 (v := _ + (1)) C dX10_free_30 (by rfl) (by first | trivial | rfl) ?_
      refine w_goto (tgt := 4) C dX10_free_33 (by rfl) ?_
      rw [nI_1 j]
      refine w_widen (n' := (j + 1, 4 * (j + 1))) ?_ (show j + 1 + 0 ≤ j + 1 by omega) (show 4 * j + 4 + 0 ≤ 4 * (j + 1) by omega)
      exact w_sub (ih hj3 fr) (by repeat' first | exact trivial | rfl | constructor)

set_option maxHeartbeats 4000000 in
set_option maxRecDepth 100000 in
theorem m_X10_free {l : Launch} {D : va_G} {tc : Nat → ClassId} (hl : l.stackTraces = false) {h : HM} {m0 kl wk : Nat} {L : Nat → Nat} {E : Nat → Nat} {M : Nat → Int32} {ca : Nat → Nat} {ga : Nat → Nat} {pa : Nat → Nat} {oa : Nat → Nat} {ra : Nat → Nat} {th : Int32} {nC : Nat} {cs : Nat → Int32 × Int32} {nG : Nat} {gs : Nat → GT} {nP : Nat} {ps : Nat → PT} {nO : Nat} {os : Nat → OT} {nR : Nat} {rs : Nat → RT} {k : KT} {dmp : Int32} {day : Int32} {pur : Int32} {rf : Int32} (YY : Mh tc m0 kl wk L E M ca ga pa oa ra th nC cs nG gs nP ps nO os nR rs k dmp day pur rf h) (hn : nP ≤ 14) {s : Int32} :
    CT l D tc yX10_free cX10_free 4 (some FieldType.int) rm_X10_free [.ref m0, .int s] h (rI (fun z h' => z = sp_cnt (fun x => !sp_any nP ps s (nI x) nP) 10 ∧ Fr [] h h')) := by
  refine CT.start [some (.ref m0), some (.int s), none, none] (by decide) hl rfl rfl (fun K C M => ?_)
  obtain ⟨rfl, rfl, rfl, -⟩ := id M
  have C : CX K RX10 cX10_free 4 rm_X10_free := C
  refine w_iconst (v := 0) C dX10_free_0 (by rfl) ?_
  refine w_istore_2 C dX10_free_1 (by first | trivial | rfl) ?_
  refine w_iconst (v := 0) C dX10_free_2 (by rfl) ?_
  refine w_istore_3 C dX10_free_3 (by first | trivial | rfl) ?_
  refine lp_X10_free C hl YY hn (fun h9 fr9 => ?_) 0 (by omega) Fr.rfl9
  refine w_iload_n C dX10_free_36 (by rfl) ?_
  refine w_iret C M dX10_free_37 ⟨by decide, by decide⟩ ⟨_, rfl, ?_⟩
  exact ⟨rfl, fr9⟩

set_option maxHeartbeats 4000000 in
set_option maxRecDepth 100000 in
theorem lp_X10_row {K : KC} (C : CX K RX10 cX10_row 5 rm_X10_row) (hl : (Kl K).stackTraces = false) {h0 : HM} {m0 kl wk : Nat} {L : Nat → Nat} {E : Nat → Nat} {M : Nat → Int32} {ca : Nat → Nat} {ga : Nat → Nat} {pa : Nat → Nat} {oa : Nat → Nat} {ra : Nat → Nat} {th : Int32} {nC : Nat} {cs : Nat → Int32 × Int32} {nG : Nat} {gs : Nat → GT} {nP : Nat} {ps : Nat → PT} {nO : Nat} {os : Nat → OT} {nR : Nat} {rs : Nat → RT} {k : KT} {dmp : Int32} {day : Int32} {pur : Int32} {rf : Int32} (YY0 : Mh (Kt K) m0 kl wk L E M ca ga pa oa ra th nC cs nG gs nP ps nO os nR rs k dmp day pur rf h0) (hn : nP ≤ 14) {s : Int32}
    (kk : ∀ h', Fr [] h0 h' → WW K (10, 40) 44 [some (.ref m0), some (.int s), some (.int (sp_lr9 (fun x => sp_any nP ps s (nI x) nP) 10).1), some (.int (sp_lr9 (fun x => sp_any nP ps s (nI x) nP) 10).2), some (.int (nI 10))] [] h')
    : ∀ j : Nat, j ≤ 10 → ∀ {h : HM},  (fr : Fr [] h0 h) → WW K (j, 4 * j) 7 [some (.ref m0), some (.int s), some (.int (sp_lr9 (fun x => sp_any nP ps s (nI x) nP) j).1), some (.int (sp_lr9 (fun x => sp_any nP ps s (nI x) nP) j).2), some (.int (nI j))] [] h := by
  refine up_ind ?_
  intro j hj ih h fr
  have YY := YY0.fr0 fr
  obtain ⟨mm, mL, mk, mw, mCl, mGl, mPt, mOr, mRm, mn1, mn2, mn3⟩ := id YY
  refine w_iload C dX10_row_7 (by rfl) ?_
  refine w_bipush (v := (10)) C dX10_row_9 (by rfl) ?_
  refine w_icmp_ge (tgt := 44) C dX10_row_11 (by rfl) (fun c_11 => ?_) (fun c_11 => ?_)
  · have e3 : ¬ j < 10 := fun q => nI_ge q (show 10 < 2 ^ 31 by decide) c_11
    obtain rfl : j = 10 := by omega
    exact kk _ fr
  · have hj3 : j < 10 := Nat.not_le.mp (fun q => c_11 (nI_le (a := 10) q (by omega)))
    first | refine w_aload_n C dX10_row_14 (by rfl) ?_ | refine w_aload_nN C dX10_row_14 (by rfl) ?_
    refine w_iload_n C dX10_row_15 (by rfl) ?_
    refine w_iload C dX10_row_16 (by rfl) ?_
    refine cl_X10_159 C (m_X10_isTaken hl YY hn) mm (by rfl) (by rfl) ⟨show j + 1 ≤ 10 by omega, show 4 * j + 4 ≤ 40 by omega⟩ (by rfl) dX10_row_18 (fun z1 h1 p1 => ?_)
    obtain ⟨rfl, fr9⟩ := p1
    have fr := fr.tr fr9
    have YY := YY0.fr0 fr
    obtain ⟨mm, mL, mk, mw, mCl, mGl, mPt, mOr, mRm, mn1, mn2, mn3⟩ := id YY
    refine w_if_eq (tgt := 28) C dX10_row_21 (by rfl) (fun c_21 => ?_) (fun c_21 => ?_)
    · try simp only [cg_ge, cg_gt, cl_gt, cl_le, cl_eq, cl_lt, cl_ge, bi_eq0, bi_ne0, bI_eq0, Decidable.not_not, Bool.not_eq_false] at c_21
      refine w_iload_n C dX10_row_28 (by rfl) ?_
      refine w_iconst (v := 1) C dX10_row_29 (by rfl) ?_
      refine w_iadd C dX10_row_30 ?_
      have e2 : (sp_lr9 (fun x => sp_any nP ps s (nI x) nP) (j + 1)).2 = (sp_lr9 (fun x => sp_any nP ps s (nI x) nP) j).2 + 1 := if_neg (by show ¬ sp_any nP ps s (nI j) nP = true; rw [c_21]; decide)
      rw [← e2]
      refine w_istore_3 C dX10_row_31 (by first | trivial | rfl) ?_
      refine w_iload_n C dX10_row_32 (by rfl) ?_
      refine w_iload_n C dX10_row_33 (by rfl) ?_
      refine w_imax C gw_1498 gw_480 gw_66 gw_481 (by rfl) (by rfl) (by rfl) ⟨show j + 1 ≤ 10 by omega, show 4 * j + 4 ≤ 40 by omega⟩ dX10_row_34 ?_
      rw [show (if (sp_lr9 (fun x => sp_any nP ps s (nI x) nP) j).1 < (sp_lr9 (fun x => sp_any nP ps s (nI x) nP) (j + 1)).2 then (sp_lr9 (fun x => sp_any nP ps s (nI x) nP) (j + 1)).2 else (sp_lr9 (fun x => sp_any nP ps s (nI x) nP) j).1) = (sp_lr9 (fun x => sp_any nP ps s (nI x) nP) (j + 1)).1 from rfl]
      refine w_istore_2 C dX10_row_37 (by first | trivial | rfl) ?_
      refine w_iinc_4 (v := _ + (1)) C dX10_row_38 (by rfl) (by first | trivial | rfl) ?_
      refine w_goto (tgt := 7) C dX10_row_41 (by rfl) ?_
      rw [nI_1 j]
      refine w_widen (n' := (j + 1, 4 * (j + 1))) ?_ (show j + 1 ≤ j + 1 by omega) (show 4 * j + 4 ≤ 4 * (j + 1) by omega)
      exact w_sub (ih hj3 fr) (by repeat' first | exact trivial | rfl | constructor)
    · try simp only [cg_ge, cg_gt, cl_gt, cl_le, cl_eq, cl_lt, cl_ge, bi_eq0, bi_ne0, bI_eq0, Decidable.not_not, Bool.not_eq_false] at c_21
      refine w_iconst (v := 0) C dX10_row_24 (by rfl) ?_
      refine w_goto (tgt := 31) C dX10_row_25 (by rfl) ?_
      have e2 : (sp_lr9 (fun x => sp_any nP ps s (nI x) nP) (j + 1)).2 = 0 := if_pos c_21
      rw [show Value.int 0 = .int (sp_lr9 (fun x => sp_any nP ps s (nI x) nP) (j + 1)).2 from congrArg Value.int e2.symm]
      refine w_istore_3 C dX10_row_31 (by first | trivial | rfl) ?_
      refine w_iload_n C dX10_row_32 (by rfl) ?_
      refine w_iload_n C dX10_row_33 (by rfl) ?_
      refine w_imax C gw_1498 gw_480 gw_66 gw_481 (by rfl) (by rfl) (by rfl) ⟨show j + 1 ≤ 10 by omega, show 4 * j + 4 ≤ 40 by omega⟩ dX10_row_34 ?_
      rw [show (if (sp_lr9 (fun x => sp_any nP ps s (nI x) nP) j).1 < (sp_lr9 (fun x => sp_any nP ps s (nI x) nP) (j + 1)).2 then (sp_lr9 (fun x => sp_any nP ps s (nI x) nP) (j + 1)).2 else (sp_lr9 (fun x => sp_any nP ps s (nI x) nP) j).1) = (sp_lr9 (fun x => sp_any nP ps s (nI x) nP) (j + 1)).1 from rfl]
      refine w_istore_2 C dX10_row_37 (by first | trivial | rfl) ?_
      refine w_iinc_4 (v := _ + (1)) C dX10_row_38 (by rfl) (by first | trivial | rfl) ?_
      refine w_goto (tgt := 7) C dX10_row_41 (by rfl) ?_
      rw [nI_1 j]
      refine w_widen (n' := (j + 1, 4 * (j + 1))) ?_ (show j + 1 ≤ j + 1 by omega) (show 4 * j + 4 ≤ 4 * (j + 1) by omega)
      exact w_sub (ih hj3 fr) (by repeat' first | exact trivial | rfl | constructor)

set_option maxHeartbeats 4000000 in
set_option maxRecDepth 100000 in
theorem m_X10_row {l : Launch} {D : va_G} {tc : Nat → ClassId} (hl : l.stackTraces = false) {h : HM} {m0 kl wk : Nat} {L : Nat → Nat} {E : Nat → Nat} {M : Nat → Int32} {ca : Nat → Nat} {ga : Nat → Nat} {pa : Nat → Nat} {oa : Nat → Nat} {ra : Nat → Nat} {th : Int32} {nC : Nat} {cs : Nat → Int32 × Int32} {nG : Nat} {gs : Nat → GT} {nP : Nat} {ps : Nat → PT} {nO : Nat} {os : Nat → OT} {nR : Nat} {rs : Nat → RT} {k : KT} {dmp : Int32} {day : Int32} {pur : Int32} {rf : Int32} (YY : Mh tc m0 kl wk L E M ca ga pa oa ra th nC cs nG gs nP ps nO os nR rs k dmp day pur rf h) (hn : nP ≤ 14) {s : Int32} :
    CT l D tc yX10_row cX10_row 5 (some FieldType.int) rm_X10_row [.ref m0, .int s] h (rI (fun z h' => z = (sp_lr9 (fun x => sp_any nP ps s (nI x) nP) 10).1 ∧ Fr [] h h')) := by
  refine CT.start [some (.ref m0), some (.int s), none, none, none] (by decide) hl rfl rfl (fun K C M => ?_)
  obtain ⟨rfl, rfl, rfl, -⟩ := id M
  have C : CX K RX10 cX10_row 5 rm_X10_row := C
  refine w_iconst (v := 0) C dX10_row_0 (by rfl) ?_
  refine w_istore_2 C dX10_row_1 (by first | trivial | rfl) ?_
  refine w_iconst (v := 0) C dX10_row_2 (by rfl) ?_
  refine w_istore_3 C dX10_row_3 (by first | trivial | rfl) ?_
  refine w_iconst (v := 0) C dX10_row_4 (by rfl) ?_
  refine w_istore_4 C dX10_row_5 (by first | trivial | rfl) ?_
  refine lp_X10_row C hl YY hn (fun h9 fr9 => ?_) 0 (by omega) Fr.rfl9
  refine w_iload_n C dX10_row_44 (by rfl) ?_
  refine w_iret C M dX10_row_45 ⟨by decide, by decide⟩ ⟨_, rfl, ?_⟩
  exact ⟨rfl, fr9⟩
