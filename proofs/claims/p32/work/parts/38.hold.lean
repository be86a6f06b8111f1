/-! DIP, SET, WOULDHOLD -/
def sp_wh (sums : Int32) : Nat → Int32
  | 0 => 0
  | j + 1 => if (sums >>> (nI (j + 1) &&& 31)) &&& 1 = 0 then sp_wh sums j else nI (j + 1)
theorem lr_nat (t : Int32) : ∀ j : Nat, j ≤ 10 → ∃ a b : Nat, a ≤ j ∧ b ≤ j ∧ sp_lr t j = (nI a, nI b)
  | 0, _ => ⟨0, 0, Nat.le_refl 0, Nat.le_refl 0, rfl⟩
  | j + 1, hj => by
    obtain ⟨a, b, h1, h2, e⟩ := lr_nat t j (by omega)
    have e1 : (sp_lr t j).1 = nI a := by rw [e]
    have e2 : (sp_lr t j).2 = nI b := by rw [e]
    by_cases c : (t >>> (nI j &&& 31)) &&& 1 = 0
    · have e3 : sp_lr t (j + 1) = (if nI a < nI (b + 1) then nI (b + 1) else nI a, nI (b + 1)) := by
        show (_, _) = _
        simp only [if_pos c, e1, e2, nI_1]
      rw [e3]
      by_cases w : nI a < nI (b + 1)
      · exact ⟨b + 1, b + 1, by omega, by omega, by rw [if_pos w]⟩
      · exact ⟨a, b + 1, by omega, by omega, by rw [if_neg w]⟩
    · have e3 : sp_lr t (j + 1) = (if nI a < 0 then 0 else nI a, 0) := by
        show (_, _) = _
        simp only [if_neg c, e1, e2]
      rw [e3, if_neg (nI_pos (by omega))]
      exact ⟨a, 0, by omega, by omega, rfl⟩
theorem nI_dec {n j : Nat} (h : j < n) : nI (n - j) + -1 = nI (n - (j + 1)) := by
  rw [show n - j = (n - (j + 1)) + 1 by omega]
  rw [← nI_pred (n - (j + 1)), Int32.sub_eq_add_neg]

set_option maxHeartbeats 4000000 in
set_option maxRecDepth 100000 in
theorem lp_X7_wouldHold {K : KC} (C : CX K RX7 cX7_wouldHold 4 rm_X7_wouldHold) (hl : (Kl K).stackTraces = false) {y0 n : Nat} {si sm : Int32} {h h9 : HM} {P : Int32 → HM → Prop} {Z : Int32} (hn : n ≤ 10)
    (M : MX K (KD K) (Kt K) (Kl K) rm_X7_wouldHold (some FieldType.int) h9 (rI P) yX7_wouldHold.name)
    (fin : P Z h)
    : ∀ j : Nat, j ≤ n → (hZ : sp_wh sm (n - j) = Z) → WW K (1, 6) 19 [some (.ref y0), some (.int si), some (.int sm), some (.int (nI (n - j)))] [] h := by
  refine up_ind ?_
  intro j hj ih  hZ
  refine w_iload_n C dX7_wouldHold_19 (by rfl) ?_
  refine w_if_le (tgt := 39) C dX7_wouldHold_20 (by rfl) (fun c_20 => ?_) (fun c_20 => ?_)
  · try simp only [cg_ge, cg_gt, cl_gt, cl_le, cl_eq, cl_lt, cl_ge, bi_eq0, bi_ne0, bI_eq0, Decidable.not_not, Bool.not_eq_false] at c_20
    have e3 : n - j = 0 := by
      rcases Nat.eq_zero_or_pos (n - j) with g | g
      · exact g
      · exact absurd c_20 (nI_nle g (by omega))
    rw [e3] at hZ
    have hZ : (0 : Int32) = Z := hZ
    refine w_iconst (v := 0) C dX7_wouldHold_39 (by rfl) ?_
    refine w_iret C M dX7_wouldHold_40 ⟨by decide, by decide⟩ ⟨_, rfl, ?_⟩
    rw [hZ]
    exact fin
  · try simp only [cg_ge, cg_gt, cl_gt, cl_le, cl_eq, cl_lt, cl_ge, bi_eq0, bi_ne0, bI_eq0, Decidable.not_not, Bool.not_eq_false] at c_20
    have hj3 : j < n := by
      rcases Nat.lt_or_ge j n with g | g
      · exact g
      · exact absurd (by rw [show n - j = 0 by omega]; decide) c_20
    rw [show n - j = (n - (j + 1)) + 1 by omega] at hZ c_20 ⊢
    refine w_iload_n C dX7_wouldHold_23 (by rfl) ?_
    refine w_iload_n C dX7_wouldHold_24 (by rfl) ?_
    refine w_ishr C dX7_wouldHold_25 ?_
    refine w_iconst (v := 1) C dX7_wouldHold_26 (by rfl) ?_
    refine w_iand C dX7_wouldHold_27 ?_
    refine w_if_eq (tgt := 33) C dX7_wouldHold_28 (by rfl) (fun c_28 => ?_) (fun c_28 => ?_)
    · try simp only [cg_ge, cg_gt, cl_gt, cl_le, cl_eq, cl_lt, cl_ge, bi_eq0, bi_ne0, bI_eq0, Decidable.not_not, Bool.not_eq_false] at c_28
      rw [show sp_wh sm (n - (j + 1) + 1) = sp_wh sm (n - (j + 1)) from if_pos c_28] at hZ
      refine w_iinc_3 (v := _ + (-1)) C dX7_wouldHold_33 (by rfl) (by first | trivial | rfl) ?_
      refine w_goto (tgt := 19) C dX7_wouldHold_36 (by rfl) ?_
      rw [← show n - j = (n - (j + 1)) + 1 by omega, nI_dec hj3]
      exact w_sub (ih hj3 hZ) (by repeat' first | exact trivial | rfl | constructor)
    · try simp only [cg_ge, cg_gt, cl_gt, cl_le, cl_eq, cl_lt, cl_ge, bi_eq0, bi_ne0, bI_eq0, Decidable.not_not, Bool.not_eq_false] at c_28
      rw [show sp_wh sm (n - (j + 1) + 1) = nI (n - (j + 1) + 1) from if_neg c_28] at hZ
      refine w_iload_n C dX7_wouldHold_31 (by rfl) ?_
      refine w_iret C M dX7_wouldHold_32 ⟨by decide, by decide⟩ ⟨_, rfl, ?_⟩
      rw [hZ]
      exact fin

set_option maxHeartbeats 4000000 in
set_option maxRecDepth 100000 in
theorem m_X7_wouldHold {l : Launch} {D : va_G} {tc : Nat → ClassId} (hl : l.stackTraces = false) {h : HM} {y0 cA gA pA oA pr ra re rw tr tw : Nat} {ca ga pa oa : Nat → Nat} {f : Nat → Option Nat} {hb : UInt64} {hbt : UInt64} {dmt : Int32} {kt : KT} {nC : Nat} {cs : Nat → Int32 × Int32} {nG : Nat} {gs : Nat → GT} {nP : Nat} {ps : Nat → PT} {nO : Nat} {os : Nat → OT} {nR : Nat} {rs : Nat → RT} {k : KT} {dmp : Int32} {day : Int32} {pur : Int32} {rf : Int32} (Y : Yh tc y0 cA gA pA oA pr ra re rw tr tw ca ga pa oa f hb hbt dmt kt nC cs nG gs nP ps nO os nR rs k dmp day pur rf h) {i : Int32} :
    CTX l D tc yX7_wouldHold cX7_wouldHold 4 (some FieldType.int) rm_X7_wouldHold [.ref y0, .int i] h (rI (fun z h' => h' = h ∧ ∃ s n, s < 3 ∧ i = nI s ∧ (sp_lr (sp_tk nP ps (nI s) 14) 10).1 = nI n ∧ n ≤ 10 ∧ z = sp_wh (sp_sm nP ps (if nI s = 2 then 2 else 3) 14) n)) (fun E h' => E = "java/lang/IndexOutOfBoundsException" ∧ h' = h ∧ out9 i 3) := by
  refine CTX.start [some (.ref y0), some (.int i), none, none] (by decide) hl rfl rfl (fun K C M X => ?_)
  obtain ⟨rfl, rfl, rfl, -⟩ := id M
  have C : CX K RX7 cX7_wouldHold 4 rm_X7_wouldHold := C
  obtain ⟨yy, yc, yg, yp, yo, ypr, yra, yre, yrw, ytr, ytw, yC, yG, yP, yO, yR, yn1, yn2, yn3, yn4⟩ := id Y
  refine w_iload_n C dX7_wouldHold_0 (by rfl) ?_
  refine cx_X7_153 C (m_X7_testShelf hl i) (by rfl) (by rfl) ⟨by decide, by decide⟩ (by rfl) dX7_wouldHold_1 (fun h1 p1 => ?_) (fun E hx px => w_prop X ⟨by decide, by decide⟩ px)
  obtain ⟨rfl, w0, w1⟩ := p1
  obtain ⟨s, hs, rfl⟩ := nI_i (N := 3) w0 w1
  first | refine w_aload_n C dX7_wouldHold_4 (by rfl) ?_ | refine w_aload_nN C dX7_wouldHold_4 (by rfl) ?_
  refine w_iload_n C dX7_wouldHold_5 (by rfl) ?_
  refine cl_X7_171 C (m_X7_heightOf hl (nI s)) (by rfl) (by rfl) ⟨by decide, by decide⟩ (by rfl) dX7_wouldHold_6 (fun z2 h2 p2 => ?_)
  obtain ⟨rfl, rfl⟩ := p2
  refine cl_X7_371 C (m_X7_sumsOfWidths hl Y (if nI s = 2 then 2 else 3)) yy (by rfl) (by rfl) ⟨by decide, by decide⟩ (by rfl) dX7_wouldHold_9 (fun z3 h3 p3 => ?_)
  obtain ⟨rfl, rfl⟩ := p3
  refine w_istore_2 C dX7_wouldHold_12 (by first | trivial | rfl) ?_
  first | refine w_aload_n C dX7_wouldHold_13 (by rfl) ?_ | refine w_aload_nN C dX7_wouldHold_13 (by rfl) ?_
  refine w_iload_n C dX7_wouldHold_14 (by rfl) ?_
  refine cl_X7_332 C (m_X7_longestFreeRow hl Y (nI s)) yy (by rfl) (by rfl) ⟨by decide, by decide⟩ (by rfl) dX7_wouldHold_15 (fun z4 h4 p4 => ?_)
  obtain ⟨rfl, rfl⟩ := p4
  refine w_istore_3 C dX7_wouldHold_18 (by first | trivial | rfl) ?_
  obtain ⟨n9, b9, q1, q2, q3⟩ := lr_nat (sp_tk nP ps (nI s) 14) 10 (by decide)
  have e9 : (sp_lr (sp_tk nP ps (nI s) 14) 10).1 = nI n9 := by rw [q3]
  rw [e9]
  exact lp_X7_wouldHold C hl (n := n9) (Z := sp_wh (sp_sm nP ps (if nI s = 2 then 2 else 3) 14) n9) q1 M ⟨rfl, s, n9, hs, rfl, e9, q1, rfl⟩ 0 (by omega) rfl
