/-! WHAT WOULD BE; BURN; DRY -/
theorem i60 {x : Int32} (h1 : 1 ≤ x) (h2 : x ≤ 60) : ∃ m, (1 ≤ m ∧ m ≤ 60) ∧ x = nI m := by
  have a1 := Int32.le_iff_toInt_le.mp h1
  have a2 := Int32.le_iff_toInt_le.mp h2
  have e1 : (1 : Int32).toInt = 1 := rfl
  have e2 : (60 : Int32).toInt = 60 := rfl
  obtain ⟨m, hm, rfl⟩ := nI_i (N := 61) (x := x) (by omega) (by omega)
  rw [nI_toInt (by omega)] at a1
  exact ⟨m, ⟨by omega, by omega⟩, rfl⟩
/-- when the fire is out: from step j on, so many steps ahead at most -/
def sp_end (nR : Nat) (rs : Nat → RT) (K0 : KT) : Nat → Nat → Int32
  | 0, j => if kL (sp_run nR rs K0 j) then -1 else nI j
  | d + 1, j => if kL (sp_run nR rs K0 j) then sp_end nR rs K0 d (j + 1) else nI j
theorem end_out {nR : Nat} {rs : Nat → RT} {K0 : KT} {d j : Nat} (h : kL (sp_run nR rs K0 j) = false) : sp_end nR rs K0 d j = nI j := by
  cases d <;> unfold sp_end <;> rw [h] <;> rfl
theorem end_lit {nR : Nat} {rs : Nat → RT} {K0 : KT} {d j : Nat} (h : kL (sp_run nR rs K0 j) = true) : sp_end nR rs K0 (d + 1) j = sp_end nR rs K0 d (j + 1) := by
  conv => lhs; unfold sp_end
  rw [h]; rfl
theorem end_lit0 {nR : Nat} {rs : Nat → RT} {K0 : KT} {j : Nat} (h : kL (sp_run nR rs K0 j) = true) : sp_end nR rs K0 0 j = -1 := by
  unfold sp_end
  rw [h]; rfl
/-- the pots after so many steps -/
def sp_bps (nR : Nat) (rs : Nat → RT) (k : KT) (dmp : Int32) (nP : Nat) (ps : Nat → PT) : Nat → Nat → PT
  | 0 => ps
  | j + 1 => sp_each nP (sp_heatp dmp (kH (sp_run nR rs k j)) (kH (sp_run nR rs k (j + 1)))) (sp_bps nR rs k dmp nP ps j) 14
/-- the pots after so many days -/
def sp_dps (air : Int32) (nP : Nat) (ps : Nat → PT) : Nat → Nat → PT
  | 0 => ps
  | j + 1 => sp_each nP (sp_dryp air) (sp_dps air nP ps j) 14
theorem feel_sh (old hot : UInt64) (sm : Bool) (q : QT) : qSh (sp_feel old hot sm q) = qSh q ∧ qWl (sp_feel old hot sm q) = qWl q := by
  unfold sp_feel sp_feel1
  split
  · exact ⟨rfl, rfl⟩
  · split <;> exact ⟨rfl, rfl⟩
theorem heatp_sh (dmp : Int32) (hb t : UInt64) (p : PT) : qSh (sp_heatp dmp hb t p).2.2 = qSh p.2.2 ∧ qWl (sp_heatp dmp hb t p).2.2 = qWl p.2.2 := by
  unfold sp_heatp
  split
  · exact ⟨rfl, rfl⟩
  · exact feel_sh _ _ _ _
theorem bps_sh (nR : Nat) (rs : Nat → RT) (k : KT) (dmp : Int32) (nP : Nat) (ps : Nat → PT) (i : Nat) : ∀ j, qSh (sp_bps nR rs k dmp nP ps j i).2.2 = qSh (ps i).2.2 ∧ qWl (sp_bps nR rs k dmp nP ps j i).2.2 = qWl (ps i).2.2
  | 0 => ⟨rfl, rfl⟩
  | j + 1 => by
    have ih := bps_sh nR rs k dmp nP ps i j
    show qSh (sp_each nP _ _ 14 i).2.2 = _ ∧ qWl (sp_each nP _ _ 14 i).2.2 = _
    unfold sp_each
    split
    · have e := heatp_sh dmp (kH (sp_run nR rs k j)) (kH (sp_run nR rs k (j + 1))) (sp_bps nR rs k dmp nP ps j i)
      exact ⟨e.1.trans ih.1, e.2.trans ih.2⟩
    · exact ih

set_option maxHeartbeats 4000000 in
set_option maxRecDepth 100000 in
theorem m_X7_wouldCone {l : Launch} {D : va_G} {tc : Nat → ClassId} (hl : l.stackTraces = false) {h : HM} {y0 cA gA pA oA pr ra re rw tr tw : Nat} {ca ga pa oa : Nat → Nat} {f : Nat → Option Nat} {hb : UInt64} {hbt : UInt64} {dmt : Int32} {kt : KT} {nC : Nat} {cs : Nat → Int32 × Int32} {nG : Nat} {gs : Nat → GT} {nP : Nat} {ps : Nat → PT} {nO : Nat} {os : Nat → OT} {nR : Nat} {rs : Nat → RT} {k : KT} {dmp : Int32} {day : Int32} {pur : Int32} {rf : Int32} (Y : Yh tc y0 cA gA pA oA pr ra re rw tr tw ca ga pa oa f hb hbt dmt kt nC cs nG gs nP ps nO os nR rs k dmp day pur rf h) (hk : okk k) (hL : okL nR k) (hRr : okR9 nR rs) {i st : Int32} :
    CTX l D tc yX7_wouldCone cX7_wouldCone 4 (some FieldType.int) rm_X7_wouldCone [.ref y0, .int i, .int st] h (rI (fun z h' => ∃ s m, s < 3 ∧ i = nI s ∧ (1 ≤ m ∧ m ≤ 60) ∧ st = nI m ∧ z = sp_cone (kW (sp_run nR rs (sp_like k kt) m) s) 12 ∧ ∃ hb9 kt9, Yh tc y0 cA gA pA oA pr ra re rw tr tw ca ga pa oa f hb hb9 dmt kt9 nC cs nG gs nP ps nO os nR rs k dmp day pur rf h')) (fun E h' => (E = "java/lang/IndexOutOfBoundsException" ∧ h' = h ∧ out9 i 3) ∨ (E = "java/lang/IllegalArgumentException" ∧ h' = h ∧ ¬ out9 i 3 ∧ ¬ (1 ≤ st ∧ st ≤ 60))) := by
  refine CTX.start [some (.ref y0), some (.int i), some (.int st), none] (by decide) hl rfl rfl (fun K C M X => ?_)
  obtain ⟨rfl, rfl, rfl, -⟩ := id M
  have C : CX K RX7 cX7_wouldCone 4 rm_X7_wouldCone := C
  obtain ⟨yy, yc, yg, yp, yo, ypr, yra, yre, yrw, ytr, ytw, yC, yG, yP, yO, yR, yn1, yn2, yn3, yn4⟩ := id Y
  refine w_iload_n C dX7_wouldCone_0 (by rfl) ?_
  refine cx_X7_153 C (m_X7_testShelf hl i) (by rfl) (by rfl) ⟨by decide, by decide⟩ (by rfl) dX7_wouldCone_1 (fun h1 p1 => ?_) (fun E hx px => w_prop X ⟨by decide, by decide⟩ (Or.inl px))
  obtain ⟨rfl, w0, w1⟩ := p1
  obtain ⟨s, hs, rfl⟩ := nI_i (N := 3) w0 w1
  have no9 : ¬ out9 (nI s) 3 := fun w => w ⟨w0, w1⟩
  refine w_iload_n C dX7_wouldCone_4 (by rfl) ?_
  refine cx_X7_231 C (m_X7_testSteps hl st) (by rfl) (by rfl) ⟨by decide, by decide⟩ (by rfl) dX7_wouldCone_5 (fun h2 p2 => ?_) (fun E hx px => w_prop X ⟨by decide, by decide⟩ (Or.inr ⟨px.1, px.2.1, no9, px.2.2⟩))
  obtain ⟨rfl, w2, w3⟩ := p2
  obtain ⟨m, hm, rfl⟩ := i60 w2 w3
  first | refine w_aload_n C dX7_wouldCone_8 (by rfl) ?_ | refine w_aload_nN C dX7_wouldCone_8 (by rfl) ?_
  refine gf_X7_62 C yy dX7_wouldCone_9 ?_
  first | refine w_aload_n C dX7_wouldCone_12 (by rfl) ?_ | refine w_aload_nN C dX7_wouldCone_12 (by rfl) ?_
  refine gf_X7_58 C yy dX7_wouldCone_13 ?_
  refine cl_X7_357 C (m_X2_becomeLike hl ytr yre ytw yrw yn2 yn1) ytr (by rfl) (by rfl) ⟨by decide, by decide⟩ (by rfl) dX7_wouldCone_16 (fun h3 p3 => ?_)
  have Y := Yh.trial Y p3.1 p3.2.1 p3.2.2
  obtain ⟨yy, yc, yg, yp, yo, ypr, yra, yre, yrw, ytr, ytw, yC, yG, yP, yO, yR, yn1, yn2, yn3, yn4⟩ := id Y
  refine w_iconst (v := 0) C dX7_wouldCone_19 (by rfl) ?_
  refine w_istore_3 C dX7_wouldCone_20 (by first | trivial | rfl) ?_
  refine lp_X7_wouldCone C hl (hbt := hbt) (kt := kt) (K0 := sp_like k kt) hm.2 (like_ok hk hL).1 (like_ok hk hL).2 hRr (fun h9 hb9 Y9 => ?_) 0 (by omega) Y
  obtain ⟨yy, yc, yg, yp, yo, ypr, yra, yre, yrw, ytr, ytw, yC, yG, yP, yO, yR, yn1, yn2, yn3, yn4⟩ := id Y9
  first | refine w_aload_n C dX7_wouldCone_39 (by rfl) ?_ | refine w_aload_nN C dX7_wouldCone_39 (by rfl) ?_
  refine gf_X7_62 C yy dX7_wouldCone_40 ?_
  refine w_iload_n C dX7_wouldCone_43 (by rfl) ?_
  refine cl_X7_250 C (m_X2_coneOf hl ytr ytw hs) ytr (by rfl) (by rfl) ⟨by decide, by decide⟩ (by rfl) dX7_wouldCone_44 (fun z5 h4 p4 => ?_)
  obtain ⟨rfl, rfl⟩ := p4
  refine w_iret C M dX7_wouldCone_47 ⟨by decide, by decide⟩ ⟨_, rfl, ?_⟩
  exact ⟨s, m, hs, rfl, hm, rfl, rfl, hb9, _, Y9⟩

set_option maxHeartbeats 4000000 in
set_option maxRecDepth 100000 in
theorem lp_X7_wouldEnd {K : KC} (C : CX K RX7 cX7_wouldEnd 2 rm_X7_wouldEnd) (hl : (Kl K).stackTraces = false) {y0 cA gA pA oA pr ra re rw tr tw : Nat} {ca ga pa oa : Nat → Nat} {f : Nat → Option Nat} {hb : UInt64} {hbt : UInt64} {dmt : Int32} {kt : KT} {nC : Nat} {cs : Nat → Int32 × Int32} {nG : Nat} {gs : Nat → GT} {nP : Nat} {ps : Nat → PT} {nO : Nat} {os : Nat → OT} {nR : Nat} {rs : Nat → RT} {k : KT} {dmp : Int32} {day : Int32} {pur : Int32} {rf : Int32} {h9 : HM} {P : Int32 → HM → Prop} {Z : Int32} {K0 : KT} (hk : okk K0) (hL : okL nR K0) (hRr : okR9 nR rs)
    (M : MX K (KD K) (Kt K) (Kl K) rm_X7_wouldEnd (some FieldType.int) h9 (rI P) yX7_wouldEnd.name)
    (fin : ∀ (h' : HM) (hb9 : UInt64) (kt9 : KT), Yh (Kt K) y0 cA gA pA oA pr ra re rw tr tw ca ga pa oa f hb hb9 dmt kt9 nC cs nG gs nP ps nO os nR rs k dmp day pur rf h' → P Z h')
    : ∀ j : Nat, j ≤ 300 → ∀ {h : HM} {hbt : UInt64},  (u : Yh (Kt K) y0 cA gA pA oA pr ra re rw tr tw ca ga pa oa f hb hbt dmt (sp_run nR rs K0 j) nC cs nG gs nP ps nO os nR rs k dmp day pur rf h) → (hZ : sp_end nR rs K0 (300 - j) j = Z) → WW K (0, 0) 13 [some (.ref y0), some (.int (nI j))] [] h := by
  refine up_ind ?_
  intro j hj ih h hbt u hZ
  obtain ⟨yy, yc, yg, yp, yo, ypr, yra, yre, yrw, ytr, ytw, yC, yG, yP, yO, yR, yn1, yn2, yn3, yn4⟩ := id u
  refine w_iload_n C dX7_wouldEnd_13 (by rfl) ?_
  refine w_sipush (v := (300)) C dX7_wouldEnd_14 (by rfl) ?_
  refine w_icmp_ge (tgt := 45) C dX7_wouldEnd_17 (by rfl) (fun c_17 => ?_) (fun c_17 => ?_)
  · have e3 : ¬ j < 300 := fun q => nI_ge q (show 300 < 2 ^ 31 by decide) c_17
    obtain rfl : j = 300 := by omega
    first | refine w_aload_n C dX7_wouldEnd_45 (by rfl) ?_ | refine w_aload_nN C dX7_wouldEnd_45 (by rfl) ?_
    refine gf_X7_62 C yy dX7_wouldEnd_46 ?_
    refine gf_X7_204 C ytr dX7_wouldEnd_49 ?_
    refine w_if_eq (tgt := 59) C dX7_wouldEnd_52 (by rfl) (fun c_52 => ?_) (fun c_52 => ?_)
    · try simp only [cg_ge, cg_gt, cl_gt, cl_le, cl_eq, cl_lt, cl_ge, bi_eq0, bi_ne0, bI_eq0, Decidable.not_not, Bool.not_eq_false] at c_52
      refine w_sipush (v := (300)) C dX7_wouldEnd_59 (by rfl) ?_
      refine w_iret C M dX7_wouldEnd_62 ⟨by decide, by decide⟩ ⟨_, rfl, ?_⟩
      have hZ2 := (end_out (d := 0) c_52).symm.trans hZ
      rw [show (300 : Int32) = Z from hZ2]
      exact fin _ _ _ u
    · try simp only [cg_ge, cg_gt, cl_gt, cl_le, cl_eq, cl_lt, cl_ge, bi_eq0, bi_ne0, bI_eq0, Decidable.not_not, Bool.not_eq_false] at c_52
      refine w_iconst (v := (-1)) C dX7_wouldEnd_55 (by rfl) ?_
      refine w_goto (tgt := 62) C dX7_wouldEnd_56 (by rfl) ?_
      refine w_iret C M dX7_wouldEnd_62 ⟨by decide, by decide⟩ ⟨_, rfl, ?_⟩
      have hZ2 := (end_lit0 c_52).symm.trans hZ
      rw [show (-1 : Int32) = Z from hZ2]
      exact fin _ _ _ u
  · have hj3 : j < 300 := Nat.not_le.mp (fun q => c_17 (nI_le (a := 300) q (by omega)))
    rw [show 300 - j = (299 - j) + 1 by omega] at hZ
    first | refine w_aload_n C dX7_wouldEnd_20 (by rfl) ?_ | refine w_aload_nN C dX7_wouldEnd_20 (by rfl) ?_
    refine gf_X7_62 C yy dX7_wouldEnd_21 ?_
    refine gf_X7_204 C ytr dX7_wouldEnd_24 ?_
    refine w_if_ne (tgt := 32) C dX7_wouldEnd_27 (by rfl) (fun c_27 => ?_) (fun c_27 => ?_)
    · try simp only [cg_ge, cg_gt, cl_gt, cl_le, cl_eq, cl_lt, cl_ge, bi_eq0, bi_ne0, bI_eq0, Decidable.not_not, Bool.not_eq_false] at c_27
      first | refine w_aload_n C dX7_wouldEnd_32 (by rfl) ?_ | refine w_aload_nN C dX7_wouldEnd_32 (by rfl) ?_
      refine gf_X7_62 C yy dX7_wouldEnd_33 ?_
      refine cl_X7_234 C (m_X2_step hl ytr ypr yra yR hRr.1 (run_ok hk hL hRr j).2 ytw (run_ok hk hL hRr j).1 hRr) ytr (by rfl) (by rfl) ⟨by decide, by decide⟩ (by rfl) dX7_wouldEnd_36 (fun h1 p1 => ?_)
      have u := Yh.trial u p1.1 p1.2.1 p1.2.2
      rw [end_lit c_27] at hZ
      refine w_iinc_1 (v := _ + (1)) C dX7_wouldEnd_39 (by rfl) (by first | trivial | rfl) ?_
      refine w_goto (tgt := 13) C dX7_wouldEnd_42 (by rfl) ?_
      rw [nI_1 j]
      exact w_sub (ih hj3 u (by rw [show 300 - (j + 1) = 299 - j by omega]; exact hZ)) (by repeat' first | exact trivial | rfl | constructor)
    · try simp only [cg_ge, cg_gt, cl_gt, cl_le, cl_eq, cl_lt, cl_ge, bi_eq0, bi_ne0, bI_eq0, Decidable.not_not, Bool.not_eq_false] at c_27
      refine w_iload_n C dX7_wouldEnd_30 (by rfl) ?_
      refine w_iret C M dX7_wouldEnd_31 ⟨by decide, by decide⟩ ⟨_, rfl, ?_⟩
      rw [end_out c_27] at hZ
      rw [hZ]
      exact fin _ _ _ u

set_option maxHeartbeats 4000000 in
set_option maxRecDepth 100000 in
theorem m_X7_wouldEnd {l : Launch} {D : va_G} {tc : Nat → ClassId} (hl : l.stackTraces = false) {h : HM} {y0 cA gA pA oA pr ra re rw tr tw : Nat} {ca ga pa oa : Nat → Nat} {f : Nat → Option Nat} {hb : UInt64} {hbt : UInt64} {dmt : Int32} {kt : KT} {nC : Nat} {cs : Nat → Int32 × Int32} {nG : Nat} {gs : Nat → GT} {nP : Nat} {ps : Nat → PT} {nO : Nat} {os : Nat → OT} {nR : Nat} {rs : Nat → RT} {k : KT} {dmp : Int32} {day : Int32} {pur : Int32} {rf : Int32} (Y : Yh tc y0 cA gA pA oA pr ra re rw tr tw ca ga pa oa f hb hbt dmt kt nC cs nG gs nP ps nO os nR rs k dmp day pur rf h) (hk : okk k) (hL : okL nR k) (hRr : okR9 nR rs) :
    CT l D tc yX7_wouldEnd cX7_wouldEnd 2 (some FieldType.int) rm_X7_wouldEnd [.ref y0] h (rI (fun z h' => z = sp_end nR rs (sp_like k kt) 300 0 ∧ ∃ hb9 kt9, Yh tc y0 cA gA pA oA pr ra re rw tr tw ca ga pa oa f hb hb9 dmt kt9 nC cs nG gs nP ps nO os nR rs k dmp day pur rf h')) := by
  refine CT.start [some (.ref y0), none] (by decide) hl rfl rfl (fun K C M => ?_)
  obtain ⟨rfl, rfl, rfl, -⟩ := id M
  have C : CX K RX7 cX7_wouldEnd 2 rm_X7_wouldEnd := C
  obtain ⟨yy, yc, yg, yp, yo, ypr, yra, yre, yrw, ytr, ytw, yC, yG, yP, yO, yR, yn1, yn2, yn3, yn4⟩ := id Y
  first | refine w_aload_n C dX7_wouldEnd_0 (by rfl) ?_ | refine w_aload_nN C dX7_wouldEnd_0 (by rfl) ?_
  refine gf_X7_62 C yy dX7_wouldEnd_1 ?_
  first | refine w_aload_n C dX7_wouldEnd_4 (by rfl) ?_ | refine w_aload_nN C dX7_wouldEnd_4 (by rfl) ?_
  refine gf_X7_58 C yy dX7_wouldEnd_5 ?_
  refine cl_X7_357 C (m_X2_becomeLike hl ytr yre ytw yrw yn2 yn1) ytr (by rfl) (by rfl) ⟨by decide, by decide⟩ (by rfl) dX7_wouldEnd_8 (fun h1 p1 => ?_)
  have Y := Yh.trial Y p1.1 p1.2.1 p1.2.2
  obtain ⟨yy, yc, yg, yp, yo, ypr, yra, yre, yrw, ytr, ytw, yC, yG, yP, yO, yR, yn1, yn2, yn3, yn4⟩ := id Y
  refine w_iconst (v := 0) C dX7_wouldEnd_11 (by rfl) ?_
  refine w_istore_1 C dX7_wouldEnd_12 (by first | trivial | rfl) ?_
  exact lp_X7_wouldEnd C hl (hbt := hbt) (kt := kt) (K0 := sp_like k kt) (Z := sp_end nR rs (sp_like k kt) 300 0) (like_ok hk hL).1 (like_ok hk hL).2 hRr M (fun h9 hb9 kt9 Y9 => ⟨rfl, hb9, kt9, Y9⟩) 0 (by omega) Y rfl
