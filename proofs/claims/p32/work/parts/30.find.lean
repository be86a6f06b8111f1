/-! FINDING AND COUNTING -/
def sp_cnt (p : Nat → Bool) : Nat → Int32
  | 0 => 0
  | j + 1 => sp_cnt p j + bi (p j)
theorem cnt_t {p : Nat → Bool} {j : Nat} (h : p j = true) : sp_cnt p j + 1 = sp_cnt p (j + 1) := by
  show _ = sp_cnt p j + bi (p j)
  rw [h]; rfl
theorem cnt_f {p : Nat → Bool} {j : Nat} (h : p j = false) : sp_cnt p j + 0 = sp_cnt p (j + 1) := by
  show _ = sp_cnt p j + bi (p j)
  rw [h]; rfl
theorem in3 {x : Int32} : (0 ≤ x ∧ x ≤ 2) ↔ (0 ≤ x.toInt ∧ x.toInt < 3) := by
  simp only [Int32.le_iff_toInt_le, show (0 : Int32).toInt = 0 from rfl, show (2 : Int32).toInt = 2 from rfl]; omega
/-- not in range -/
def out9 (x : Int32) (n : Nat) : Prop := ¬ (0 ≤ x.toInt ∧ x.toInt < n)

set_option maxHeartbeats 4000000 in
set_option maxRecDepth 100000 in
theorem m_X7_potAt {l : Launch} {D : va_G} {tc : Nat → ClassId} (hl : l.stackTraces = false) {h : HM} {y0 cA gA pA oA pr ra re rw tr tw : Nat} {ca ga pa oa : Nat → Nat} {f : Nat → Option Nat} {hb : UInt64} {hbt : UInt64} {dmt : Int32} {kt : KT} {nC : Nat} {cs : Nat → Int32 × Int32} {nG : Nat} {gs : Nat → GT} {nP : Nat} {ps : Nat → PT} {nO : Nat} {os : Nat → OT} {nR : Nat} {rs : Nat → RT} {k : KT} {dmp : Int32} {day : Int32} {pur : Int32} {rf : Int32} (Y : Yh tc y0 cA gA pA oA pr ra re rw tr tw ca ga pa oa f hb hbt dmt kt nC cs nG gs nP ps nO os nR rs k dmp day pur rf h) (bP : nP ≤ 14) (i : Int32) :
    CTX l D tc yX7_potAt cX7_potAt 3 (some (FieldType.object "KilnYard$Pot")) rm_X7_potAt [.ref y0, .int i] h (rR (fun z h' => h' = h ∧ ∃ j, j < nP ∧ i = nI j ∧ z = .ref (pa j))) (fun E h' => E = "java/lang/IndexOutOfBoundsException" ∧ h' = h ∧ out9 i nP) := by
  refine CTX.start [some (.ref y0), some (.int i), none] (by decide) hl rfl rfl (fun K C M X => ?_)
  obtain ⟨rfl, rfl, rfl, -⟩ := id M
  have C : CX K RX7 cX7_potAt 3 rm_X7_potAt := C
  obtain ⟨yy, yc, yg, yp, yo, ypr, yra, yre, yrw, ytr, ytw, yC, yG, yP, yO, yR, yn1, yn2, yn3, yn4⟩ := Y
  refine w_iload_n C dX7_potAt_0 (by rfl) ?_
  refine w_if_lt (tgt := 22) C dX7_potAt_1 (by rfl) (fun c_1 => ?_) (fun c_1 => ?_)
  · try simp only [cg_ge, cg_gt, cl_gt, cl_le, cl_eq, cl_lt, cl_ge, bi_eq0, bi_ne0, bI_eq0, Decidable.not_not, Bool.not_eq_false] at c_1
    have o9 : out9 i nP := fun w => absurd (Int32.lt_iff_toInt_lt.mp c_1) (Int.not_lt.mpr w.1)
    refine w_null C dX7_potAt_22 ?_
    first | refine w_astore_2 C dX7_potAt_23 (by first | trivial | rfl) ?_ | refine w_astore_2N C dX7_potAt_23 (by first | trivial | rfl) ?_
    first | refine w_aload_n C dX7_potAt_24 (by rfl) ?_ | refine w_aload_nN C dX7_potAt_24 (by rfl) ?_
    refine w_ifnonnullN C dX7_potAt_25 ?_
    exact th_X7_156_422_160 C X (by rfl) (by rfl) (by rfl) (by decide) (by decide) (by decide) (by decide) ⟨rfl, rfl, o9⟩ dX7_potAt_28 dX7_potAt_31 dX7_potAt_32 dX7_potAt_35 dX7_potAt_38
  · try simp only [cg_ge, cg_gt, cl_gt, cl_le, cl_eq, cl_lt, cl_ge, bi_eq0, bi_ne0, bI_eq0, Decidable.not_not, Bool.not_eq_false] at c_1
    refine w_iload_n C dX7_potAt_4 (by rfl) ?_
    first | refine w_aload_n C dX7_potAt_5 (by rfl) ?_ | refine w_aload_nN C dX7_potAt_5 (by rfl) ?_
    refine gf_X7_23 C yy dX7_potAt_6 ?_
    refine w_alen C 6 yp (by rfl) dX7_potAt_9 ?_
    refine w_icmp_ge (tgt := 22) C dX7_potAt_10 (by rfl) (fun c_10 => ?_) (fun c_10 => ?_)
    · have o9 : out9 i nP := fun w => absurd (Int32.le_iff_toInt_le.mp c_10) (by rw [nI_toInt (show 14 < 2 ^ 31 by decide)]; omega)
      refine w_null C dX7_potAt_22 ?_
      first | refine w_astore_2 C dX7_potAt_23 (by first | trivial | rfl) ?_ | refine w_astore_2N C dX7_potAt_23 (by first | trivial | rfl) ?_
      first | refine w_aload_n C dX7_potAt_24 (by rfl) ?_ | refine w_aload_nN C dX7_potAt_24 (by rfl) ?_
      refine w_ifnonnullN C dX7_potAt_25 ?_
      exact th_X7_156_422_160 C X (by rfl) (by rfl) (by rfl) (by decide) (by decide) (by decide) (by decide) ⟨rfl, rfl, o9⟩ dX7_potAt_28 dX7_potAt_31 dX7_potAt_32 dX7_potAt_35 dX7_potAt_38
    · obtain ⟨j, hj, rfl⟩ := nI_i (N := 14) (Int.not_lt.mp (fun w => c_1 (Int32.lt_iff_toInt_lt.mpr w))) (by have := Int.not_le.mp (fun w => c_10 (Int32.le_iff_toInt_le.mpr w)); rwa [nI_toInt (show 14 < 2 ^ 31 by decide)] at this)
      first | refine w_aload_n C dX7_potAt_13 (by rfl) ?_ | refine w_aload_nN C dX7_potAt_13 (by rfl) ?_
      refine gf_X7_23 C yy dX7_potAt_14 ?_
      refine w_iload_n C dX7_potAt_17 (by rfl) ?_
      refine w_aaldn C 6 yp (by rfl) hj (by decide) dX7_potAt_18 ?_
      by_cases hjn : j < nP
      · rw [show row9 nP pa j = some (pa j) from if_pos hjn]
        change WW _ _ _ _ (.ref (pa j) :: _) _
        refine w_goto (tgt := 23) C dX7_potAt_19 (by rfl) ?_
        first | refine w_astore_2 C dX7_potAt_23 (by first | trivial | rfl) ?_ | refine w_astore_2N C dX7_potAt_23 (by first | trivial | rfl) ?_
        first | refine w_aload_n C dX7_potAt_24 (by rfl) ?_ | refine w_aload_nN C dX7_potAt_24 (by rfl) ?_
        refine w_ifnonnull (tgt := 39) C dX7_potAt_25 (by rfl) ?_
        first | refine w_aload_n C dX7_potAt_39 (by rfl) ?_ | refine w_aload_nN C dX7_potAt_39 (by rfl) ?_
        refine w_aret C M dX7_potAt_40 ⟨by decide, by decide⟩ (Or.inl ⟨_, rfl⟩) (Or.inr ⟨_, rfl⟩) ⟨_, rfl, ?_⟩
        exact ⟨rfl, _, hjn, rfl, rfl⟩
      · rw [show row9 nP pa j = none from if_neg hjn]
        change WW _ _ _ _ (.null :: _) _
        have o9 : out9 (nI j) nP := fun w => by rw [nI_toInt (by omega)] at w; omega
        refine w_goto (tgt := 23) C dX7_potAt_19 (by rfl) ?_
        first | refine w_astore_2 C dX7_potAt_23 (by first | trivial | rfl) ?_ | refine w_astore_2N C dX7_potAt_23 (by first | trivial | rfl) ?_
        first | refine w_aload_n C dX7_potAt_24 (by rfl) ?_ | refine w_aload_nN C dX7_potAt_24 (by rfl) ?_
        refine w_ifnonnullN C dX7_potAt_25 ?_
        exact th_X7_156_422_160 C X (by rfl) (by rfl) (by rfl) (by decide) (by decide) (by decide) (by decide) ⟨rfl, rfl, o9⟩ dX7_potAt_28 dX7_potAt_31 dX7_potAt_32 dX7_potAt_35 dX7_potAt_38

set_option maxHeartbeats 4000000 in
set_option maxRecDepth 100000 in
theorem m_X7_clayAt {l : Launch} {D : va_G} {tc : Nat → ClassId} (hl : l.stackTraces = false) {h : HM} {y0 cA gA pA oA pr ra re rw tr tw : Nat} {ca ga pa oa : Nat → Nat} {f : Nat → Option Nat} {hb : UInt64} {hbt : UInt64} {dmt : Int32} {kt : KT} {nC : Nat} {cs : Nat → Int32 × Int32} {nG : Nat} {gs : Nat → GT} {nP : Nat} {ps : Nat → PT} {nO : Nat} {os : Nat → OT} {nR : Nat} {rs : Nat → RT} {k : KT} {dmp : Int32} {day : Int32} {pur : Int32} {rf : Int32} (Y : Yh tc y0 cA gA pA oA pr ra re rw tr tw ca ga pa oa f hb hbt dmt kt nC cs nG gs nP ps nO os nR rs k dmp day pur rf h) (bC : nC ≤ 3) (i : Int32) :
    CTX l D tc yX7_clayAt cX7_clayAt 3 (some (FieldType.object "KilnYard$Clay")) rm_X7_clayAt [.ref y0, .int i] h (rR (fun z h' => h' = h ∧ ∃ j, j < nC ∧ i = nI j ∧ z = .ref (ca j))) (fun E h' => E = "java/lang/IndexOutOfBoundsException" ∧ h' = h ∧ out9 i nC) := by
  refine CTX.start [some (.ref y0), some (.int i), none] (by decide) hl rfl rfl (fun K C M X => ?_)
  obtain ⟨rfl, rfl, rfl, -⟩ := id M
  have C : CX K RX7 cX7_clayAt 3 rm_X7_clayAt := C
  obtain ⟨yy, yc, yg, yp, yo, ypr, yra, yre, yrw, ytr, ytw, yC, yG, yP, yO, yR, yn1, yn2, yn3, yn4⟩ := Y
  refine w_iload_n C dX7_clayAt_0 (by rfl) ?_
  refine w_if_lt (tgt := 22) C dX7_clayAt_1 (by rfl) (fun c_1 => ?_) (fun c_1 => ?_)
  · try simp only [cg_ge, cg_gt, cl_gt, cl_le, cl_eq, cl_lt, cl_ge, bi_eq0, bi_ne0, bI_eq0, Decidable.not_not, Bool.not_eq_false] at c_1
    have o9 : out9 i nC := fun w => absurd (Int32.lt_iff_toInt_lt.mp c_1) (Int.not_lt.mpr w.1)
    refine w_null C dX7_clayAt_22 ?_
    first | refine w_astore_2 C dX7_clayAt_23 (by first | trivial | rfl) ?_ | refine w_astore_2N C dX7_clayAt_23 (by first | trivial | rfl) ?_
    first | refine w_aload_n C dX7_clayAt_24 (by rfl) ?_ | refine w_aload_nN C dX7_clayAt_24 (by rfl) ?_
    refine w_ifnonnullN C dX7_clayAt_25 ?_
    exact th_X7_156_418_160 C X (by rfl) (by rfl) (by rfl) (by decide) (by decide) (by decide) (by decide) ⟨rfl, rfl, o9⟩ dX7_clayAt_28 dX7_clayAt_31 dX7_clayAt_32 dX7_clayAt_35 dX7_clayAt_38
  · try simp only [cg_ge, cg_gt, cl_gt, cl_le, cl_eq, cl_lt, cl_ge, bi_eq0, bi_ne0, bI_eq0, Decidable.not_not, Bool.not_eq_false] at c_1
    refine w_iload_n C dX7_clayAt_4 (by rfl) ?_
    first | refine w_aload_n C dX7_clayAt_5 (by rfl) ?_ | refine w_aload_nN C dX7_clayAt_5 (by rfl) ?_
    refine gf_X7_11 C yy dX7_clayAt_6 ?_
    refine w_alen C 3 yc (by rfl) dX7_clayAt_9 ?_
    refine w_icmp_ge (tgt := 22) C dX7_clayAt_10 (by rfl) (fun c_10 => ?_) (fun c_10 => ?_)
    · have o9 : out9 i nC := fun w => absurd (Int32.le_iff_toInt_le.mp c_10) (by rw [nI_toInt (show 3 < 2 ^ 31 by decide)]; omega)
      refine w_null C dX7_clayAt_22 ?_
      first | refine w_astore_2 C dX7_clayAt_23 (by first | trivial | rfl) ?_ | refine w_astore_2N C dX7_clayAt_23 (by first | trivial | rfl) ?_
      first | refine w_aload_n C dX7_clayAt_24 (by rfl) ?_ | refine w_aload_nN C dX7_clayAt_24 (by rfl) ?_
      refine w_ifnonnullN C dX7_clayAt_25 ?_
      exact th_X7_156_418_160 C X (by rfl) (by rfl) (by rfl) (by decide) (by decide) (by decide) (by decide) ⟨rfl, rfl, o9⟩ dX7_clayAt_28 dX7_clayAt_31 dX7_clayAt_32 dX7_clayAt_35 dX7_clayAt_38
    · obtain ⟨j, hj, rfl⟩ := nI_i (N := 3) (Int.not_lt.mp (fun w => c_1 (Int32.lt_iff_toInt_lt.mpr w))) (by have := Int.not_le.mp (fun w => c_10 (Int32.le_iff_toInt_le.mpr w)); rwa [nI_toInt (show 3 < 2 ^ 31 by decide)] at this)
      first | refine w_aload_n C dX7_clayAt_13 (by rfl) ?_ | refine w_aload_nN C dX7_clayAt_13 (by rfl) ?_
      refine gf_X7_11 C yy dX7_clayAt_14 ?_
      refine w_iload_n C dX7_clayAt_17 (by rfl) ?_
      refine w_aaldn C 3 yc (by rfl) hj (by decide) dX7_clayAt_18 ?_
      by_cases hjn : j < nC
      · rw [show row9 nC ca j = some (ca j) from if_pos hjn]
        change WW _ _ _ _ (.ref (ca j) :: _) _
        refine w_goto (tgt := 23) C dX7_clayAt_19 (by rfl) ?_
        first | refine w_astore_2 C dX7_clayAt_23 (by first | trivial | rfl) ?_ | refine w_astore_2N C dX7_clayAt_23 (by first | trivial | rfl) ?_
        first | refine w_aload_n C dX7_clayAt_24 (by rfl) ?_ | refine w_aload_nN C dX7_clayAt_24 (by rfl) ?_
        refine w_ifnonnull (tgt := 39) C dX7_clayAt_25 (by rfl) ?_
        first | refine w_aload_n C dX7_clayAt_39 (by rfl) ?_ | refine w_aload_nN C dX7_clayAt_39 (by rfl) ?_
        refine w_aret C M dX7_clayAt_40 ⟨by decide, by decide⟩ (Or.inl ⟨_, rfl⟩) (Or.inr ⟨_, rfl⟩) ⟨_, rfl, ?_⟩
        exact ⟨rfl, _, hjn, rfl, rfl⟩
      · rw [show row9 nC ca j = none from if_neg hjn]
        change WW _ _ _ _ (.null :: _) _
        have o9 : out9 (nI j) nC := fun w => by rw [nI_toInt (by omega)] at w; omega
        refine w_goto (tgt := 23) C dX7_clayAt_19 (by rfl) ?_
        first | refine w_astore_2 C dX7_clayAt_23 (by first | trivial | rfl) ?_ | refine w_astore_2N C dX7_clayAt_23 (by first | trivial | rfl) ?_
        first | refine w_aload_n C dX7_clayAt_24 (by rfl) ?_ | refine w_aload_nN C dX7_clayAt_24 (by rfl) ?_
        refine w_ifnonnullN C dX7_clayAt_25 ?_
        exact th_X7_156_418_160 C X (by rfl) (by rfl) (by rfl) (by decide) (by decide) (by decide) (by decide) ⟨rfl, rfl, o9⟩ dX7_clayAt_28 dX7_clayAt_31 dX7_clayAt_32 dX7_clayAt_35 dX7_clayAt_38

set_option maxHeartbeats 4000000 in
set_option maxRecDepth 100000 in
theorem m_X7_glazeAt {l : Launch} {D : va_G} {tc : Nat → ClassId} (hl : l.stackTraces = false) {h : HM} {y0 cA gA pA oA pr ra re rw tr tw : Nat} {ca ga pa oa : Nat → Nat} {f : Nat → Option Nat} {hb : UInt64} {hbt : UInt64} {dmt : Int32} {kt : KT} {nC : Nat} {cs : Nat → Int32 × Int32} {nG : Nat} {gs : Nat → GT} {nP : Nat} {ps : Nat → PT} {nO : Nat} {os : Nat → OT} {nR : Nat} {rs : Nat → RT} {k : KT} {dmp : Int32} {day : Int32} {pur : Int32} {rf : Int32} (Y : Yh tc y0 cA gA pA oA pr ra re rw tr tw ca ga pa oa f hb hbt dmt kt nC cs nG gs nP ps nO os nR rs k dmp day pur rf h) (bG : nG ≤ 4) (i : Int32) :
    CTX l D tc yX7_glazeAt cX7_glazeAt 3 (some (FieldType.object "KilnYard$Glaze")) rm_X7_glazeAt [.ref y0, .int i] h (rR (fun z h' => h' = h ∧ ∃ j, j < nG ∧ i = nI j ∧ z = .ref (ga j))) (fun E h' => E = "java/lang/IndexOutOfBoundsException" ∧ h' = h ∧ out9 i nG) := by
  refine CTX.start [some (.ref y0), some (.int i), none] (by decide) hl rfl rfl (fun K C M X => ?_)
  obtain ⟨rfl, rfl, rfl, -⟩ := id M
  have C : CX K RX7 cX7_glazeAt 3 rm_X7_glazeAt := C
  obtain ⟨yy, yc, yg, yp, yo, ypr, yra, yre, yrw, ytr, ytw, yC, yG, yP, yO, yR, yn1, yn2, yn3, yn4⟩ := Y
  refine w_iload_n C dX7_glazeAt_0 (by rfl) ?_
  refine w_if_lt (tgt := 22) C dX7_glazeAt_1 (by rfl) (fun c_1 => ?_) (fun c_1 => ?_)
  · try simp only [cg_ge, cg_gt, cl_gt, cl_le, cl_eq, cl_lt, cl_ge, bi_eq0, bi_ne0, bI_eq0, Decidable.not_not, Bool.not_eq_false] at c_1
    have o9 : out9 i nG := fun w => absurd (Int32.lt_iff_toInt_lt.mp c_1) (Int.not_lt.mpr w.1)
    refine w_null C dX7_glazeAt_22 ?_
    first | refine w_astore_2 C dX7_glazeAt_23 (by first | trivial | rfl) ?_ | refine w_astore_2N C dX7_glazeAt_23 (by first | trivial | rfl) ?_
    first | refine w_aload_n C dX7_glazeAt_24 (by rfl) ?_ | refine w_aload_nN C dX7_glazeAt_24 (by rfl) ?_
    refine w_ifnonnullN C dX7_glazeAt_25 ?_
    exact th_X7_156_420_160 C X (by rfl) (by rfl) (by rfl) (by decide) (by decide) (by decide) (by decide) ⟨rfl, rfl, o9⟩ dX7_glazeAt_28 dX7_glazeAt_31 dX7_glazeAt_32 dX7_glazeAt_35 dX7_glazeAt_38
  · try simp only [cg_ge, cg_gt, cl_gt, cl_le, cl_eq, cl_lt, cl_ge, bi_eq0, bi_ne0, bI_eq0, Decidable.not_not, Bool.not_eq_false] at c_1
    refine w_iload_n C dX7_glazeAt_4 (by rfl) ?_
    first | refine w_aload_n C dX7_glazeAt_5 (by rfl) ?_ | refine w_aload_nN C dX7_glazeAt_5 (by rfl) ?_
    refine gf_X7_17 C yy dX7_glazeAt_6 ?_
    refine w_alen C 4 yg (by rfl) dX7_glazeAt_9 ?_
    refine w_icmp_ge (tgt := 22) C dX7_glazeAt_10 (by rfl) (fun c_10 => ?_) (fun c_10 => ?_)
    · have o9 : out9 i nG := fun w => absurd (Int32.le_iff_toInt_le.mp c_10) (by rw [nI_toInt (show 4 < 2 ^ 31 by decide)]; omega)
      refine w_null C dX7_glazeAt_22 ?_
      first | refine w_astore_2 C dX7_glazeAt_23 (by first | trivial | rfl) ?_ | refine w_astore_2N C dX7_glazeAt_23 (by first | trivial | rfl) ?_
      first | refine w_aload_n C dX7_glazeAt_24 (by rfl) ?_ | refine w_aload_nN C dX7_glazeAt_24 (by rfl) ?_
      refine w_ifnonnullN C dX7_glazeAt_25 ?_
      exact th_X7_156_420_160 C X (by rfl) (by rfl) (by rfl) (by decide) (by decide) (by decide) (by decide) ⟨rfl, rfl, o9⟩ dX7_glazeAt_28 dX7_glazeAt_31 dX7_glazeAt_32 dX7_glazeAt_35 dX7_glazeAt_38
    · obtain ⟨j, hj, rfl⟩ := nI_i (N := 4) (Int.not_lt.mp (fun w => c_1 (Int32.lt_iff_toInt_lt.mpr w))) (by have := Int.not_le.mp (fun w => c_10 (Int32.le_iff_toInt_le.mpr w)); rwa [nI_toInt (show 4 < 2 ^ 31 by decide)] at this)
      first | refine w_aload_n C dX7_glazeAt_13 (by rfl) ?_ | refine w_aload_nN C dX7_glazeAt_13 (by rfl) ?_
      refine gf_X7_17 C yy dX7_glazeAt_14 ?_
      refine w_iload_n C dX7_glazeAt_17 (by rfl) ?_
      refine w_aaldn C 4 yg (by rfl) hj (by decide) dX7_glazeAt_18 ?_
      by_cases hjn : j < nG
      · rw [show row9 nG ga j = some (ga j) from if_pos hjn]
        change WW _ _ _ _ (.ref (ga j) :: _) _
        refine w_goto (tgt := 23) C dX7_glazeAt_19 (by rfl) ?_
        first | refine w_astore_2 C dX7_glazeAt_23 (by first | trivial | rfl) ?_ | refine w_astore_2N C dX7_glazeAt_23 (by first | trivial | rfl) ?_
        first | refine w_aload_n C dX7_glazeAt_24 (by rfl) ?_ | refine w_aload_nN C dX7_glazeAt_24 (by rfl) ?_
        refine w_ifnonnull (tgt := 39) C dX7_glazeAt_25 (by rfl) ?_
        first | refine w_aload_n C dX7_glazeAt_39 (by rfl) ?_ | refine w_aload_nN C dX7_glazeAt_39 (by rfl) ?_
        refine w_aret C M dX7_glazeAt_40 ⟨by decide, by decide⟩ (Or.inl ⟨_, rfl⟩) (Or.inr ⟨_, rfl⟩) ⟨_, rfl, ?_⟩
        exact ⟨rfl, _, hjn, rfl, rfl⟩
      · rw [show row9 nG ga j = none from if_neg hjn]
        change WW _ _ _ _ (.null :: _) _
        have o9 : out9 (nI j) nG := fun w => by rw [nI_toInt (by omega)] at w; omega
        refine w_goto (tgt := 23) C dX7_glazeAt_19 (by rfl) ?_
        first | refine w_astore_2 C dX7_glazeAt_23 (by first | trivial | rfl) ?_ | refine w_astore_2N C dX7_glazeAt_23 (by first | trivial | rfl) ?_
        first | refine w_aload_n C dX7_glazeAt_24 (by rfl) ?_ | refine w_aload_nN C dX7_glazeAt_24 (by rfl) ?_
        refine w_ifnonnullN C dX7_glazeAt_25 ?_
        exact th_X7_156_420_160 C X (by rfl) (by rfl) (by rfl) (by decide) (by decide) (by decide) (by decide) ⟨rfl, rfl, o9⟩ dX7_glazeAt_28 dX7_glazeAt_31 dX7_glazeAt_32 dX7_glazeAt_35 dX7_glazeAt_38

-- none in p32: X7_orderAt

set_option maxHeartbeats 4000000 in
set_option maxRecDepth 100000 in
theorem m_X7_testShelf {l : Launch} {D : va_G} {tc : Nat → ClassId} (hl : l.stackTraces = false) {h : HM} (i : Int32) :
    CTX l D tc yX7_testShelf cX7_testShelf 1 none rm_X7_testShelf [.int i] h (rV (fun h' => h' = h ∧ 0 ≤ i.toInt ∧ i.toInt < 3)) (fun E h' => E = "java/lang/IndexOutOfBoundsException" ∧ h' = h ∧ out9 i 3) := by
  refine CTX.start [some (.int i)] (by decide) hl rfl rfl (fun K C M X => ?_)
  obtain ⟨rfl, rfl, rfl, -⟩ := id M
  have C : CX K RX7 cX7_testShelf 1 rm_X7_testShelf := C
  refine w_iload_n C dX7_testShelf_0 (by rfl) ?_
  refine w_iconst (v := 0) C dX7_testShelf_1 (by rfl) ?_
  refine w_iconst (v := 2) C dX7_testShelf_2 (by rfl) ?_
  refine cl_X7_74 C (m_X7_isWithin hl i 0 2) (by rfl) (by rfl) ⟨by decide, by decide⟩ (by rfl) dX7_testShelf_3 (fun z1 h1 p1 => ?_)
  obtain ⟨rfl, rfl⟩ := p1
  refine w_if_ne (tgt := 20) C dX7_testShelf_6 (by rfl) (fun c_6 => ?_) (fun c_6 => ?_)
  · try simp only [cg_ge, cg_gt, cl_gt, cl_le, cl_eq, cl_lt, cl_ge, bi_eq0, bi_ne0, bI_eq0, Decidable.not_not, Bool.not_eq_false] at c_6
    refine w_vret C M dX7_testShelf_20 ⟨by decide, by decide⟩ ⟨rfl, ?_⟩
    exact ⟨rfl, in3.mp c_6⟩
  · try simp only [cg_ge, cg_gt, cl_gt, cl_le, cl_eq, cl_lt, cl_ge, bi_eq0, bi_ne0, bI_eq0, Decidable.not_not, Bool.not_eq_false] at c_6
    exact th_X7_156_414_160 C X (by rfl) (by rfl) (by rfl) (by decide) (by decide) (by decide) (by decide) ⟨rfl, rfl, fun w => c_6 (in3.mpr w)⟩ dX7_testShelf_9 dX7_testShelf_12 dX7_testShelf_13 dX7_testShelf_16 dX7_testShelf_19

set_option maxHeartbeats 4000000 in
set_option maxRecDepth 100000 in
theorem m_X7_testSteps {l : Launch} {D : va_G} {tc : Nat → ClassId} (hl : l.stackTraces = false) {h : HM} (i : Int32) :
    CTX l D tc yX7_testSteps cX7_testSteps 1 none rm_X7_testSteps [.int i] h (rV (fun h' => h' = h ∧ 1 ≤ i ∧ i ≤ 60)) (fun E h' => E = "java/lang/IllegalArgumentException" ∧ h' = h ∧ ¬ (1 ≤ i ∧ i ≤ 60)) := by
  refine CTX.start [some (.int i)] (by decide) hl rfl rfl (fun K C M X => ?_)
  obtain ⟨rfl, rfl, rfl, -⟩ := id M
  have C : CX K RX7 cX7_testSteps 1 rm_X7_testSteps := C
  refine w_iload_n C dX7_testSteps_0 (by rfl) ?_
  refine w_iconst (v := 1) C dX7_testSteps_1 (by rfl) ?_
  refine w_bipush (v := (60)) C dX7_testSteps_2 (by rfl) ?_
  refine cl_X7_74 C (m_X7_isWithin hl i 1 60) (by rfl) (by rfl) ⟨by decide, by decide⟩ (by rfl) dX7_testSteps_4 (fun z1 h1 p1 => ?_)
  obtain ⟨rfl, rfl⟩ := p1
  refine w_if_ne (tgt := 21) C dX7_testSteps_7 (by rfl) (fun c_7 => ?_) (fun c_7 => ?_)
  · try simp only [cg_ge, cg_gt, cl_gt, cl_le, cl_eq, cl_lt, cl_ge, bi_eq0, bi_ne0, bI_eq0, Decidable.not_not, Bool.not_eq_false] at c_7
    refine w_vret C M dX7_testSteps_21 ⟨by decide, by decide⟩ ⟨rfl, ?_⟩
    exact ⟨rfl, c_7⟩
  · try simp only [cg_ge, cg_gt, cl_gt, cl_le, cl_eq, cl_lt, cl_ge, bi_eq0, bi_ne0, bI_eq0, Decidable.not_not, Bool.not_eq_false] at c_7
    exact th_X7_78_416_82 C X (by rfl) (by rfl) (by rfl) (by decide) (by decide) (by decide) (by decide) ⟨rfl, rfl, c_7⟩ dX7_testSteps_10 dX7_testSteps_13 dX7_testSteps_14 dX7_testSteps_17 dX7_testSteps_20

set_option maxHeartbeats 4000000 in
set_option maxRecDepth 100000 in
theorem lp_X7_potsInState {K : KC} (C : CX K RX7 cX7_potsInState 7 rm_X7_potsInState) (hl : (Kl K).stackTraces = false) {y0 pA nP : Nat} {pa ca ga : Nat → Nat} {ps : Nat → PT} {h : HM} {v : Int32} (yp : h pA = some (qCell (Kt K 6) 14 (row9 nP pa))) (yP : ∀ i, i < nP → h (pa i) = some (pC9 ca ga (ps i)))
    (kk : WW K (0, 0) 55 [some (.ref y0), some (.int v), some (.int (sp_cnt (fun i => decide (i < nP ∧ qSt (ps i).2.2 = v)) 14)), some (.ref pA), some (.int (nI 14)), some (.int (nI 14)), none] [] h)
    : ∀ j : Nat, j ≤ 14 →  WW K (0, 0) 14 [some (.ref y0), some (.int v), some (.int (sp_cnt (fun i => decide (i < nP ∧ qSt (ps i).2.2 = v)) j)), some (.ref pA), some (.int (nI 14)), some (.int (nI j)), none] [] h := by
  refine up_ind ?_
  intro j hj ih  
  refine w_iload C dX7_potsInState_14 (by rfl) ?_
  refine w_iload C dX7_potsInState_16 (by rfl) ?_
  refine w_icmp_ge (tgt := 55) C dX7_potsInState_18 (by rfl) (fun c_18 => ?_) (fun c_18 => ?_)
  · have e3 : ¬ j < 14 := fun q => nI_ge q (show 14 < 2 ^ 31 by decide) c_18
    obtain rfl : j = 14 := by omega
    exact kk
  · have hj3 : j < 14 := Nat.not_le.mp (fun q => c_18 (nI_le (a := 14) q (by omega)))
    first | refine w_aload_n C dX7_potsInState_21 (by rfl) ?_ | refine w_aload_nN C dX7_potsInState_21 (by rfl) ?_
    refine w_iload C dX7_potsInState_22 (by rfl) ?_
    refine w_aaldn C 6 yp (by rfl) hj3 (by decide) dX7_potsInState_24 ?_
    by_cases hjn : j < nP
    · rw [show row9 nP pa j = some (pa j) from if_pos hjn]
      change WW _ _ _ _ (.ref (pa j) :: _) _
      have hpj := yP j hjn
      first | refine w_astore_6 C dX7_potsInState_25 (by first | trivial | rfl) ?_ | refine w_astore_6N C dX7_potsInState_25 (by first | trivial | rfl) ?_
      refine w_iload_n C dX7_potsInState_27 (by rfl) ?_
      first | refine w_aload C dX7_potsInState_28 (by rfl) ?_ | refine w_aloadN C dX7_potsInState_28 (by rfl) ?_
      refine w_ifnull C dX7_potsInState_30 ?_
      first | refine w_aload C dX7_potsInState_33 (by rfl) ?_ | refine w_aloadN C dX7_potsInState_33 (by rfl) ?_
      refine gf_X7_141 C hpj dX7_potsInState_35 ?_
      refine w_iload_n C dX7_potsInState_38 (by rfl) ?_
      refine w_icmp_ne (tgt := 46) C dX7_potsInState_39 (by rfl) (fun c_39 => ?_) (fun c_39 => ?_)
      · refine w_iconst (v := 0) C dX7_potsInState_46 (by rfl) ?_
        refine w_iadd C dX7_potsInState_47 ?_
        rw [cnt_f (p := (fun i => decide (i < nP ∧ qSt (ps i).2.2 = v))) (decide_eq_false (fun w => c_39 w.2))]
        refine w_istore_2 C dX7_potsInState_48 (by first | trivial | rfl) ?_
        refine w_iinc_5 (v := _ + (1)) C dX7_potsInState_49 (by rfl) (by first | trivial | rfl) ?_
        refine w_goto (tgt := 14) C dX7_potsInState_52 (by rfl) ?_
        rw [nI_1 j]
        exact w_sub (ih hj3) (by repeat' first | exact trivial | rfl | constructor)
      · refine w_iconst (v := 1) C dX7_potsInState_42 (by rfl) ?_
        refine w_goto (tgt := 47) C dX7_potsInState_43 (by rfl) ?_
        refine w_iadd C dX7_potsInState_47 ?_
        rw [cnt_t (p := (fun i => decide (i < nP ∧ qSt (ps i).2.2 = v))) (decide_eq_true ⟨hjn, c_39⟩)]
        refine w_istore_2 C dX7_potsInState_48 (by first | trivial | rfl) ?_
        refine w_iinc_5 (v := _ + (1)) C dX7_potsInState_49 (by rfl) (by first | trivial | rfl) ?_
        refine w_goto (tgt := 14) C dX7_potsInState_52 (by rfl) ?_
        rw [nI_1 j]
        exact w_sub (ih hj3) (by repeat' first | exact trivial | rfl | constructor)
    · rw [show row9 nP pa j = none from if_neg hjn]
      change WW _ _ _ _ (.null :: _) _
      first | refine w_astore_6 C dX7_potsInState_25 (by first | trivial | rfl) ?_ | refine w_astore_6N C dX7_potsInState_25 (by first | trivial | rfl) ?_
      refine w_iload_n C dX7_potsInState_27 (by rfl) ?_
      first | refine w_aload C dX7_potsInState_28 (by rfl) ?_ | refine w_aloadN C dX7_potsInState_28 (by rfl) ?_
      refine w_ifnullN (tgt := 46) C dX7_potsInState_30 (by rfl) ?_
      refine w_iconst (v := 0) C dX7_potsInState_46 (by rfl) ?_
      refine w_iadd C dX7_potsInState_47 ?_
      rw [cnt_f (p := (fun i => decide (i < nP ∧ qSt (ps i).2.2 = v))) (decide_eq_false (fun w => hjn w.1))]
      refine w_istore_2 C dX7_potsInState_48 (by first | trivial | rfl) ?_
      refine w_iinc_5 (v := _ + (1)) C dX7_potsInState_49 (by rfl) (by first | trivial | rfl) ?_
      refine w_goto (tgt := 14) C dX7_potsInState_52 (by rfl) ?_
      rw [nI_1 j]
      exact w_sub (ih hj3) (by repeat' first | exact trivial | rfl | constructor)

set_option maxHeartbeats 4000000 in
set_option maxRecDepth 100000 in
theorem m_X7_potsInState {l : Launch} {D : va_G} {tc : Nat → ClassId} (hl : l.stackTraces = false) {h : HM} {y0 cA gA pA oA pr ra re rw tr tw : Nat} {ca ga pa oa : Nat → Nat} {f : Nat → Option Nat} {hb : UInt64} {hbt : UInt64} {dmt : Int32} {kt : KT} {nC : Nat} {cs : Nat → Int32 × Int32} {nG : Nat} {gs : Nat → GT} {nP : Nat} {ps : Nat → PT} {nO : Nat} {os : Nat → OT} {nR : Nat} {rs : Nat → RT} {k : KT} {dmp : Int32} {day : Int32} {pur : Int32} {rf : Int32} (Y : Yh tc y0 cA gA pA oA pr ra re rw tr tw ca ga pa oa f hb hbt dmt kt nC cs nG gs nP ps nO os nR rs k dmp day pur rf h) (v : Int32) :
    CT l D tc yX7_potsInState cX7_potsInState 7 (some FieldType.int) rm_X7_potsInState [.ref y0, .int v] h (rI (fun z h' => h' = h ∧ z = sp_cnt (fun i => decide (i < nP ∧ qSt (ps i).2.2 = v)) 14)) := by
  refine CT.start [some (.ref y0), some (.int v), none, none, none, none, none] (by decide) hl rfl rfl (fun K C M => ?_)
  obtain ⟨rfl, rfl, rfl, -⟩ := id M
  have C : CX K RX7 cX7_potsInState 7 rm_X7_potsInState := C
  obtain ⟨yy, yc, yg, yp, yo, ypr, yra, yre, yrw, ytr, ytw, yC, yG, yP, yO, yR, yn1, yn2, yn3, yn4⟩ := Y
  refine w_iconst (v := 0) C dX7_potsInState_0 (by rfl) ?_
  refine w_istore_2 C dX7_potsInState_1 (by first | trivial | rfl) ?_
  first | refine w_aload_n C dX7_potsInState_2 (by rfl) ?_ | refine w_aload_nN C dX7_potsInState_2 (by rfl) ?_
  refine gf_X7_23 C yy dX7_potsInState_3 ?_
  first | refine w_astore_3 C dX7_potsInState_6 (by first | trivial | rfl) ?_ | refine w_astore_3N C dX7_potsInState_6 (by first | trivial | rfl) ?_
  first | refine w_aload_n C dX7_potsInState_7 (by rfl) ?_ | refine w_aload_nN C dX7_potsInState_7 (by rfl) ?_
  refine w_alen C 6 yp (by rfl) dX7_potsInState_8 ?_
  refine w_istore_4 C dX7_potsInState_9 (by first | trivial | rfl) ?_
  refine w_iconst (v := 0) C dX7_potsInState_11 (by rfl) ?_
  refine w_istore_5 C dX7_potsInState_12 (by first | trivial | rfl) ?_
  refine lp_X7_potsInState C hl yp yP ?_ 0 (by decide)
  refine w_iload_n C dX7_potsInState_55 (by rfl) ?_
  refine w_iret C M dX7_potsInState_56 ⟨by decide, by decide⟩ ⟨_, rfl, ?_⟩
  exact ⟨rfl, rfl⟩

set_option maxHeartbeats 4000000 in
set_option maxRecDepth 100000 in
theorem lp_X7_potsOn {K : KC} (C : CX K RX7 cX7_potsOn 7 rm_X7_potsOn) (hl : (Kl K).stackTraces = false) {y0 pA nP : Nat} {pa ca ga : Nat → Nat} {ps : Nat → PT} {h : HM} {v : Int32} (yp : h pA = some (qCell (Kt K 6) 14 (row9 nP pa))) (yP : ∀ i, i < nP → h (pa i) = some (pC9 ca ga (ps i)))
    (kk : WW K (0, 0) 55 [some (.ref y0), some (.int v), some (.int (sp_cnt (fun i => decide (i < nP ∧ qSh (ps i).2.2 = v)) 14)), some (.ref pA), some (.int (nI 14)), some (.int (nI 14)), none] [] h)
    : ∀ j : Nat, j ≤ 14 →  WW K (0, 0) 14 [some (.ref y0), some (.int v), some (.int (sp_cnt (fun i => decide (i < nP ∧ qSh (ps i).2.2 = v)) j)), some (.ref pA), some (.int (nI 14)), some (.int (nI j)), none] [] h := by
  refine up_ind ?_
  intro j hj ih  
  refine w_iload C dX7_potsOn_14 (by rfl) ?_
  refine w_iload C dX7_potsOn_16 (by rfl) ?_
  refine w_icmp_ge (tgt := 55) C dX7_potsOn_18 (by rfl) (fun c_18 => ?_) (fun c_18 => ?_)
  · have e3 : ¬ j < 14 := fun q => nI_ge q (show 14 < 2 ^ 31 by decide) c_18
    obtain rfl : j = 14 := by omega
    exact kk
  · have hj3 : j < 14 := Nat.not_le.mp (fun q => c_18 (nI_le (a := 14) q (by omega)))
    first | refine w_aload_n C dX7_potsOn_21 (by rfl) ?_ | refine w_aload_nN C dX7_potsOn_21 (by rfl) ?_
    refine w_iload C dX7_potsOn_22 (by rfl) ?_
    refine w_aaldn C 6 yp (by rfl) hj3 (by decide) dX7_potsOn_24 ?_
    by_cases hjn : j < nP
    · rw [show row9 nP pa j = some (pa j) from if_pos hjn]
      change WW _ _ _ _ (.ref (pa j) :: _) _
      have hpj := yP j hjn
      first | refine w_astore_6 C dX7_potsOn_25 (by first | trivial | rfl) ?_ | refine w_astore_6N C dX7_potsOn_25 (by first | trivial | rfl) ?_
      refine w_iload_n C dX7_potsOn_27 (by rfl) ?_
      first | refine w_aload C dX7_potsOn_28 (by rfl) ?_ | refine w_aloadN C dX7_potsOn_28 (by rfl) ?_
      refine w_ifnull C dX7_potsOn_30 ?_
      first | refine w_aload C dX7_potsOn_33 (by rfl) ?_ | refine w_aloadN C dX7_potsOn_33 (by rfl) ?_
      refine gf_X7_188 C hpj dX7_potsOn_35 ?_
      refine w_iload_n C dX7_potsOn_38 (by rfl) ?_
      refine w_icmp_ne (tgt := 46) C dX7_potsOn_39 (by rfl) (fun c_39 => ?_) (fun c_39 => ?_)
      · refine w_iconst (v := 0) C dX7_potsOn_46 (by rfl) ?_
        refine w_iadd C dX7_potsOn_47 ?_
        rw [cnt_f (p := (fun i => decide (i < nP ∧ qSh (ps i).2.2 = v))) (decide_eq_false (fun w => c_39 w.2))]
        refine w_istore_2 C dX7_potsOn_48 (by first | trivial | rfl) ?_
        refine w_iinc_5 (v := _ + (1)) C dX7_potsOn_49 (by rfl) (by first | trivial | rfl) ?_
        refine w_goto (tgt := 14) C dX7_potsOn_52 (by rfl) ?_
        rw [nI_1 j]
        exact w_sub (ih hj3) (by repeat' first | exact trivial | rfl | constructor)
      · refine w_iconst (v := 1) C dX7_potsOn_42 (by rfl) ?_
        refine w_goto (tgt := 47) C dX7_potsOn_43 (by rfl) ?_
        refine w_iadd C dX7_potsOn_47 ?_
        rw [cnt_t (p := (fun i => decide (i < nP ∧ qSh (ps i).2.2 = v))) (decide_eq_true ⟨hjn, c_39⟩)]
        refine w_istore_2 C dX7_potsOn_48 (by first | trivial | rfl) ?_
        refine w_iinc_5 (v := _ + (1)) C dX7_potsOn_49 (by rfl) (by first | trivial | rfl) ?_
        refine w_goto (tgt := 14) C dX7_potsOn_52 (by rfl) ?_
        rw [nI_1 j]
        exact w_sub (ih hj3) (by repeat' first | exact trivial | rfl | constructor)
    · rw [show row9 nP pa j = none from if_neg hjn]
      change WW _ _ _ _ (.null :: _) _
      first | refine w_astore_6 C dX7_potsOn_25 (by first | trivial | rfl) ?_ | refine w_astore_6N C dX7_potsOn_25 (by first | trivial | rfl) ?_
      refine w_iload_n C dX7_potsOn_27 (by rfl) ?_
      first | refine w_aload C dX7_potsOn_28 (by rfl) ?_ | refine w_aloadN C dX7_potsOn_28 (by rfl) ?_
      refine w_ifnullN (tgt := 46) C dX7_potsOn_30 (by rfl) ?_
      refine w_iconst (v := 0) C dX7_potsOn_46 (by rfl) ?_
      refine w_iadd C dX7_potsOn_47 ?_
      rw [cnt_f (p := (fun i => decide (i < nP ∧ qSh (ps i).2.2 = v))) (decide_eq_false (fun w => hjn w.1))]
      refine w_istore_2 C dX7_potsOn_48 (by first | trivial | rfl) ?_
      refine w_iinc_5 (v := _ + (1)) C dX7_potsOn_49 (by rfl) (by first | trivial | rfl) ?_
      refine w_goto (tgt := 14) C dX7_potsOn_52 (by rfl) ?_
      rw [nI_1 j]
      exact w_sub (ih hj3) (by repeat' first | exact trivial | rfl | constructor)

set_option maxHeartbeats 4000000 in
set_option maxRecDepth 100000 in
theorem m_X7_potsOn {l : Launch} {D : va_G} {tc : Nat → ClassId} (hl : l.stackTraces = false) {h : HM} {y0 cA gA pA oA pr ra re rw tr tw : Nat} {ca ga pa oa : Nat → Nat} {f : Nat → Option Nat} {hb : UInt64} {hbt : UInt64} {dmt : Int32} {kt : KT} {nC : Nat} {cs : Nat → Int32 × Int32} {nG : Nat} {gs : Nat → GT} {nP : Nat} {ps : Nat → PT} {nO : Nat} {os : Nat → OT} {nR : Nat} {rs : Nat → RT} {k : KT} {dmp : Int32} {day : Int32} {pur : Int32} {rf : Int32} (Y : Yh tc y0 cA gA pA oA pr ra re rw tr tw ca ga pa oa f hb hbt dmt kt nC cs nG gs nP ps nO os nR rs k dmp day pur rf h) (v : Int32) :
    CT l D tc yX7_potsOn cX7_potsOn 7 (some FieldType.int) rm_X7_potsOn [.ref y0, .int v] h (rI (fun z h' => h' = h ∧ z = sp_cnt (fun i => decide (i < nP ∧ qSh (ps i).2.2 = v)) 14)) := by
  refine CT.start [some (.ref y0), some (.int v), none, none, none, none, none] (by decide) hl rfl rfl (fun K C M => ?_)
  obtain ⟨rfl, rfl, rfl, -⟩ := id M
  have C : CX K RX7 cX7_potsOn 7 rm_X7_potsOn := C
  obtain ⟨yy, yc, yg, yp, yo, ypr, yra, yre, yrw, ytr, ytw, yC, yG, yP, yO, yR, yn1, yn2, yn3, yn4⟩ := Y
  refine w_iconst (v := 0) C dX7_potsOn_0 (by rfl) ?_
  refine w_istore_2 C dX7_potsOn_1 (by first | trivial | rfl) ?_
  first | refine w_aload_n C dX7_potsOn_2 (by rfl) ?_ | refine w_aload_nN C dX7_potsOn_2 (by rfl) ?_
  refine gf_X7_23 C yy dX7_potsOn_3 ?_
  first | refine w_astore_3 C dX7_potsOn_6 (by first | trivial | rfl) ?_ | refine w_astore_3N C dX7_potsOn_6 (by first | trivial | rfl) ?_
  first | refine w_aload_n C dX7_potsOn_7 (by rfl) ?_ | refine w_aload_nN C dX7_potsOn_7 (by rfl) ?_
  refine w_alen C 6 yp (by rfl) dX7_potsOn_8 ?_
  refine w_istore_4 C dX7_potsOn_9 (by first | trivial | rfl) ?_
  refine w_iconst (v := 0) C dX7_potsOn_11 (by rfl) ?_
  refine w_istore_5 C dX7_potsOn_12 (by first | trivial | rfl) ?_
  refine lp_X7_potsOn C hl yp yP ?_ 0 (by decide)
  refine w_iload_n C dX7_potsOn_55 (by rfl) ?_
  refine w_iret C M dX7_potsOn_56 ⟨by decide, by decide⟩ ⟨_, rfl, ?_⟩
  exact ⟨rfl, rfl⟩
