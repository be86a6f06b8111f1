/-! TAKE, FORGET, BURN, WHAT WOULD BE -/
abbrev sp_lvd (p : PT) : PT := (p.1, p.2.1, (qWd p.2.2, qHg p.2.2, qWl p.2.2, qSt p.2.2, qWa p.2.2, qCv p.2.2, qSm p.2.2, qMk p.2.2, -1, -1))
/-- a kiln after so many steps -/
def sp_run (nR : Nat) (rs : Nat → RT) (k : KT) : Nat → KT
  | 0 => k
  | j + 1 => sp_step nR rs (sp_run nR rs k j)
theorem run_ok {nR : Nat} {rs : Nat → RT} {k : KT} (hk : okk k) (hL : okL nR k) (hR : okR9 nR rs) : ∀ j, okk (sp_run nR rs k j) ∧ okL nR (sp_run nR rs k j)
  | 0 => ⟨hk, hL⟩
  | j + 1 => step_ok (run_ok hk hL hR j).1 (run_ok hk hL hR j).2 hR
/-- what the kiln for what would be takes over -/
abbrev sp_like (k kt : KT) : KT := (kH k, kP k, kO k, kL k, kA k, kE k, kC kt, kF kt, kS kt, sp_mix (kW k) (kW kt) 3)
theorem like_ok {k kt : KT} {nR : Nat} (hk : okk k) (hL : okL nR k) : okk (sp_like k kt) ∧ okL nR (sp_like k kt) := ⟨⟨hk.1, hk.2.1, fun j hj => by show okW (sp_mix (kW k) (kW kt) 3 j); unfold sp_mix; rw [if_pos hj]; exact hk.2.2 j hj⟩, hL⟩

theorem Yh.forget {tc : Nat → ClassId} {h h' : HM} {y0 cA gA pA oA pr ra re rw tr tw : Nat} {ca ga pa oa : Nat → Nat} {f : Nat → Option Nat} {hb : UInt64} {hbt : UInt64} {dmt : Int32} {kt : KT} {nC : Nat} {cs : Nat → Int32 × Int32} {nG : Nat} {gs : Nat → GT} {nP : Nat} {ps : Nat → PT} {nO : Nat} {os : Nat → OT} {nR : Nat} {rs : Nat → RT} {k : KT} {dmp : Int32} {day : Int32} {pur : Int32} {rf : Int32} (Y : Yh tc y0 cA gA pA oA pr ra re rw tr tw ca ga pa oa f hb hbt dmt kt nC cs nG gs nP ps nO os nR rs k dmp day pur rf h) (u : Up h pr (pCell ra 0) h') : Yh tc y0 cA gA pA oA pr ra re rw tr tw ca ga pa oa f hb hbt dmt kt nC cs nG gs nP ps nO os 0 rs k dmp day pur rf h' := by
  obtain ⟨yy, yc, yg, yp, yo, ypr, yra, yre, yrw, ytr, ytw, yC, yG, yP, yO, yR, yn1, yn2, yn3, yn4⟩ := Y
  exact ⟨u.oth yy ypr (by intro q; simp at q), u.oth yc ypr (by intro q; simp at q), u.oth yg ypr (by intro q; simp at q), u.oth yp ypr (by intro q; simp at q), u.oth yo ypr (by intro q; simp at q), u.self, u.oth yra ypr (by intro q; simp at q), u.oth yre ypr (by intro q; simp at q), u.oth yrw ypr (by intro q; simp at q), u.oth ytr ypr (by intro q; simp at q), u.oth ytw ypr (by intro q; simp at q), fun j hj => u.oth (yC j hj) ypr (by intro q; simp at q), fun j hj => u.oth (yG j hj) ypr (by intro q; simp at q), fun j hj => u.oth (yP j hj) ypr (by intro q; simp at q), fun j hj => u.oth (yO j hj) ypr (by intro q; simp at q), fun j hj => absurd hj (Nat.not_lt_zero j), yn1, yn2, yn3, yn4⟩

set_option maxHeartbeats 4000000 in
set_option maxRecDepth 100000 in
theorem m_X7_take {l : Launch} {D : va_G} {tc : Nat → ClassId} (hl : l.stackTraces = false) {h : HM} {y0 cA gA pA oA pr ra re rw tr tw : Nat} {ca ga pa oa : Nat → Nat} {f : Nat → Option Nat} {hb : UInt64} {hbt : UInt64} {dmt : Int32} {kt : KT} {nC : Nat} {cs : Nat → Int32 × Int32} {nG : Nat} {gs : Nat → GT} {nP : Nat} {ps : Nat → PT} {nO : Nat} {os : Nat → OT} {nR : Nat} {rs : Nat → RT} {k : KT} {dmp : Int32} {day : Int32} {pur : Int32} {rf : Int32} (Y : Yh tc y0 cA gA pA oA pr ra re rw tr tw ca ga pa oa f hb hbt dmt kt nC cs nG gs nP ps nO os nR rs k dmp day pur rf h) (bP : nP ≤ 14) {i : Int32} :
    CTX l D tc yX7_take cX7_take 4 (some FieldType.int) rm_X7_take [.ref y0, .int i] h (rI (fun z h' => ∃ j, j < nP ∧ i = nI j ∧ (kL k = false ∧ dlt (kH k) 4636737291354636288) ∧ ¬ qSh (ps j).2.2 = -1 ∧ z = qSh (ps j).2.2 ∧ Yh tc y0 cA gA pA oA pr ra re rw tr tw ca ga pa oa f hb hbt dmt kt nC cs nG gs nP (vf_upd ps j (sp_lvd (ps j))) nO os nR rs k dmp day pur rf h')) (fun E h' => (E = "java/lang/IndexOutOfBoundsException" ∧ h' = h ∧ out9 i nP) ∨ (E = "java/lang/IllegalStateException" ∧ h' = h ∧ ∃ j, j < nP ∧ i = nI j ∧ ¬ ((kL k = false ∧ dlt (kH k) 4636737291354636288) ∧ ¬ qSh (ps j).2.2 = -1))) := by
  refine CTX.start [some (.ref y0), some (.int i), none, none] (by decide) hl rfl rfl (fun K C M X => ?_)
  obtain ⟨rfl, rfl, rfl, -⟩ := id M
  have C : CX K RX7 cX7_take 4 rm_X7_take := C
  obtain ⟨yy, yc, yg, yp, yo, ypr, yra, yre, yrw, ytr, ytw, yC, yG, yP, yO, yR, yn1, yn2, yn3, yn4⟩ := id Y
  first | refine w_aload_n C dX7_take_0 (by rfl) ?_ | refine w_aload_nN C dX7_take_0 (by rfl) ?_
  refine w_iload_n C dX7_take_1 (by rfl) ?_
  refine cx_X7_117 C (m_X7_potAt hl Y bP i) yy (by rfl) (by rfl) ⟨by decide, by decide⟩ (by rfl) dX7_take_2 (fun z1 h1 p1 => ?_) (fun E hx px => w_prop X ⟨by decide, by decide⟩ (Or.inl px))
  obtain ⟨rfl, j, hj, rfl, rfl⟩ := p1
  have hpj := yP j hj
  first | refine w_astore_2 C dX7_take_5 (by first | trivial | rfl) ?_ | refine w_astore_2N C dX7_take_5 (by first | trivial | rfl) ?_
  first | refine w_aload_n C dX7_take_6 (by rfl) ?_ | refine w_aload_nN C dX7_take_6 (by rfl) ?_
  refine gf_X7_58 C yy dX7_take_7 ?_
  refine cl_X7_161 C (m_X2_isInReach hl yre) yre (by rfl) (by rfl) ⟨by decide, by decide⟩ (by rfl) dX7_take_10 (fun z2 h2 p2 => ?_)
  obtain ⟨rfl, rfl⟩ := p2
  refine w_if_eq (tgt := 24) C dX7_take_13 (by rfl) (fun c_13 => ?_) (fun c_13 => ?_)
  · try simp only [cg_ge, cg_gt, cl_gt, cl_le, cl_eq, cl_lt, cl_ge, bi_eq0, bi_ne0, bI_eq0, Decidable.not_not, Bool.not_eq_false] at c_13
    exact th_X7_85_197_89 C X (by rfl) (by rfl) (by rfl) (by decide) (by decide) (by decide) (by decide) (Or.inr ⟨rfl, rfl, j, hj, rfl, by first | exact fun w => c_13 w.1 | exact fun w => w.2 c_21⟩) dX7_take_24 dX7_take_27 dX7_take_28 dX7_take_30 dX7_take_33
  · try simp only [cg_ge, cg_gt, cl_gt, cl_le, cl_eq, cl_lt, cl_ge, bi_eq0, bi_ne0, bI_eq0, Decidable.not_not, Bool.not_eq_false] at c_13
    first | refine w_aload_n C dX7_take_16 (by rfl) ?_ | refine w_aload_nN C dX7_take_16 (by rfl) ?_
    refine gf_X7_188 C hpj dX7_take_17 ?_
    refine w_iconst (v := (-1)) C dX7_take_20 (by rfl) ?_
    refine w_icmp_ne (tgt := 34) C dX7_take_21 (by rfl) (fun c_21 => ?_) (fun c_21 => ?_)
    · first | refine w_aload_n C dX7_take_34 (by rfl) ?_ | refine w_aload_nN C dX7_take_34 (by rfl) ?_
      refine gf_X7_188 C hpj dX7_take_35 ?_
      refine w_istore_3 C dX7_take_38 (by first | trivial | rfl) ?_
      first | refine w_aload_n C dX7_take_39 (by rfl) ?_ | refine w_aload_nN C dX7_take_39 (by rfl) ?_
      refine cl_X7_199 C (m_X4_leaveShelf hl hpj) hpj (by rfl) (by rfl) ⟨by decide, by decide⟩ (by rfl) dX7_take_40 (fun h3 p3 => ?_)
      have uu := p3
      refine w_iload_n C dX7_take_43 (by rfl) ?_
      refine w_iret C M dX7_take_44 ⟨by decide, by decide⟩ ⟨_, rfl, ?_⟩
      exact ⟨j, hj, rfl, c_13, c_21, rfl, Yh.pot Y hj (p := sp_lvd (ps j)) uu⟩
    · exact th_X7_85_197_89 C X (by rfl) (by rfl) (by rfl) (by decide) (by decide) (by decide) (by decide) (Or.inr ⟨rfl, rfl, j, hj, rfl, by first | exact fun w => c_13 w.1 | exact fun w => w.2 c_21⟩) dX7_take_24 dX7_take_27 dX7_take_28 dX7_take_30 dX7_take_33

set_option maxHeartbeats 4000000 in
set_option maxRecDepth 100000 in
theorem m_X7_forget {l : Launch} {D : va_G} {tc : Nat → ClassId} (hl : l.stackTraces = false) {h : HM} {y0 cA gA pA oA pr ra re rw tr tw : Nat} {ca ga pa oa : Nat → Nat} {f : Nat → Option Nat} {hb : UInt64} {hbt : UInt64} {dmt : Int32} {kt : KT} {nC : Nat} {cs : Nat → Int32 × Int32} {nG : Nat} {gs : Nat → GT} {nP : Nat} {ps : Nat → PT} {nO : Nat} {os : Nat → OT} {nR : Nat} {rs : Nat → RT} {k : KT} {dmp : Int32} {day : Int32} {pur : Int32} {rf : Int32} (Y : Yh tc y0 cA gA pA oA pr ra re rw tr tw ca ga pa oa f hb hbt dmt kt nC cs nG gs nP ps nO os nR rs k dmp day pur rf h) :
    CTX l D tc yX7_forget cX7_forget 2 (some FieldType.int) rm_X7_forget [.ref y0] h (rI (fun z h' => kL k = false ∧ z = nI nR ∧ Yh tc y0 cA gA pA oA pr ra re rw tr tw ca ga pa oa f hb hbt dmt kt nC cs nG gs nP ps nO os 0 rs k dmp day pur rf h')) (fun E h' => E = "java/lang/IllegalStateException" ∧ h' = h ∧ kL k = true) := by
  refine CTX.start [some (.ref y0), none] (by decide) hl rfl rfl (fun K C M X => ?_)
  obtain ⟨rfl, rfl, rfl, -⟩ := id M
  have C : CX K RX7 cX7_forget 2 rm_X7_forget := C
  obtain ⟨yy, yc, yg, yp, yo, ypr, yra, yre, yrw, ytr, ytw, yC, yG, yP, yO, yR, yn1, yn2, yn3, yn4⟩ := id Y
  first | refine w_aload_n C dX7_forget_0 (by rfl) ?_ | refine w_aload_nN C dX7_forget_0 (by rfl) ?_
  refine gf_X7_58 C yy dX7_forget_1 ?_
  refine gf_X7_204 C yre dX7_forget_4 ?_
  refine w_if_eq (tgt := 20) C dX7_forget_7 (by rfl) (fun c_7 => ?_) (fun c_7 => ?_)
  · try simp only [cg_ge, cg_gt, cl_gt, cl_le, cl_eq, cl_lt, cl_ge, bi_eq0, bi_ne0, bI_eq0, Decidable.not_not, Bool.not_eq_false] at c_7
    first | refine w_aload_n C dX7_forget_20 (by rfl) ?_ | refine w_aload_nN C dX7_forget_20 (by rfl) ?_
    refine gf_X7_49 C yy dX7_forget_21 ?_
    refine gf_X7_207 C ypr dX7_forget_24 ?_
    refine w_istore_1 C dX7_forget_27 (by first | trivial | rfl) ?_
    first | refine w_aload_n C dX7_forget_28 (by rfl) ?_ | refine w_aload_nN C dX7_forget_28 (by rfl) ?_
    refine gf_X7_49 C yy dX7_forget_29 ?_
    refine w_iconst (v := 0) C dX7_forget_32 (by rfl) ?_
    refine pf_X7_207 C ypr dX7_forget_33 (fun h1 u1 => ?_)
    have ypr := u1.self
    refine w_iload_n C dX7_forget_36 (by rfl) ?_
    refine w_iret C M dX7_forget_37 ⟨by decide, by decide⟩ ⟨_, rfl, ?_⟩
    exact ⟨c_7, rfl, Yh.forget Y u1⟩
  · try simp only [cg_ge, cg_gt, cl_gt, cl_le, cl_eq, cl_lt, cl_ge, bi_eq0, bi_ne0, bI_eq0, Decidable.not_not, Bool.not_eq_false] at c_7
    exact th_X7_85_221_89 C X (by rfl) (by rfl) (by rfl) (by decide) (by decide) (by decide) (by decide) ⟨rfl, rfl, c_7⟩ dX7_forget_10 dX7_forget_13 dX7_forget_14 dX7_forget_16 dX7_forget_19

set_option maxHeartbeats 4000000 in
set_option maxRecDepth 100000 in
theorem lp_X7_wouldCone {K : KC} (C : CX K RX7 cX7_wouldCone 4 rm_X7_wouldCone) (hl : (Kl K).stackTraces = false) {y0 cA gA pA oA pr ra re rw tr tw : Nat} {ca ga pa oa : Nat → Nat} {f : Nat → Option Nat} {hb : UInt64} {hbt : UInt64} {dmt : Int32} {kt : KT} {nC : Nat} {cs : Nat → Int32 × Int32} {nG : Nat} {gs : Nat → GT} {nP : Nat} {ps : Nat → PT} {nO : Nat} {os : Nat → OT} {nR : Nat} {rs : Nat → RT} {k : KT} {dmp : Int32} {day : Int32} {pur : Int32} {rf : Int32} {K0 : KT} {si : Int32} {m : Nat} (hm : m ≤ 60) (hk : okk K0) (hL : okL nR K0) (hRr : okR9 nR rs)
    (kk : ∀ (h' : HM) (hb9 : UInt64), Yh (Kt K) y0 cA gA pA oA pr ra re rw tr tw ca ga pa oa f hb hb9 dmt (sp_run nR rs K0 m) nC cs nG gs nP ps nO os nR rs k dmp day pur rf h' → WW K (2, 12) 39 [some (.ref y0), some (.int si), some (.int (nI m)), some (.int (nI m))] [] h')
    : ∀ j : Nat, j ≤ m → ∀ {h : HM} {hbt : UInt64},  (u : Yh (Kt K) y0 cA gA pA oA pr ra re rw tr tw ca ga pa oa f hb hbt dmt (sp_run nR rs K0 j) nC cs nG gs nP ps nO os nR rs k dmp day pur rf h) → WW K (2, 12) 21 [some (.ref y0), some (.int si), some (.int (nI m)), some (.int (nI j))] [] h := by
  refine up_ind ?_
  intro j hj ih h hbt u
  obtain ⟨yy, yc, yg, yp, yo, ypr, yra, yre, yrw, ytr, ytw, yC, yG, yP, yO, yR, yn1, yn2, yn3, yn4⟩ := id u
  refine w_iload_n C dX7_wouldCone_21 (by rfl) ?_
  refine w_iload_n C dX7_wouldCone_22 (by rfl) ?_
  refine w_icmp_ge (tgt := 39) C dX7_wouldCone_23 (by rfl) (fun c_23 => ?_) (fun c_23 => ?_)
  · have e3 : ¬ j < m := fun q => nI_ge q (by omega) c_23
    obtain rfl : j = m := by omega
    exact kk _ _ u
  · have hj3 : j < m := Nat.not_le.mp (fun q => c_23 (nI_le (a := m) q (by omega)))
    first | refine w_aload_n C dX7_wouldCone_26 (by rfl) ?_ | refine w_aload_nN C dX7_wouldCone_26 (by rfl) ?_
    refine gf_X7_62 C yy dX7_wouldCone_27 ?_
    refine cl_X7_234 C (m_X2_step hl ytr ypr yra yR hRr.1 (run_ok hk hL hRr j).2 ytw (run_ok hk hL hRr j).1 hRr) ytr (by rfl) (by rfl) ⟨by decide, by decide⟩ (by rfl) dX7_wouldCone_30 (fun h1 p1 => ?_)
    have u := Yh.trial u p1.1 p1.2.1 p1.2.2
    refine w_iinc_3 (v := _ + (1)) C dX7_wouldCone_33 (by rfl) (by first | trivial | rfl) ?_
    refine w_goto (tgt := 21) C dX7_wouldCone_36 (by rfl) ?_
    rw [nI_1 j]
    exact w_sub (ih hj3 u) (by repeat' first | exact trivial | rfl | constructor)
