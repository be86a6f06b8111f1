/-! FREE CELLS; THE SMALLEST CALLS -/
def sp_b1 (x : Int32) : Int32 := x - ((x.toUInt32 >>> ((1 : Int32).toUInt32 &&& Int32.toUInt32 31)).toInt32 &&& 1431655765)
def sp_b2 (x : Int32) : Int32 := (x &&& 858993459) + ((x.toUInt32 >>> ((2 : Int32).toUInt32 &&& Int32.toUInt32 31)).toInt32 &&& 858993459)
def sp_b3 (x : Int32) : Int32 := (x + (x.toUInt32 >>> ((4 : Int32).toUInt32 &&& Int32.toUInt32 31)).toInt32) &&& 252645135
def sp_b4 (x : Int32) : Int32 := x + (x.toUInt32 >>> ((8 : Int32).toUInt32 &&& Int32.toUInt32 31)).toInt32
def sp_b5 (x : Int32) : Int32 := x + (x.toUInt32 >>> ((16 : Int32).toUInt32 &&& Int32.toUInt32 31)).toInt32
/-- the bits of an int -/
def sp_bc (x : Int32) : Int32 := sp_b5 (sp_b4 (sp_b3 (sp_b2 (sp_b1 x)))) &&& 63
/-- the longest row of free cells, and the row that stands, when j cells are seen -/
def sp_lr (t : Int32) : Nat → Int32 × Int32
  | 0 => (0, 0)
  | j + 1 => (if (sp_lr t j).1 < (if (t >>> (nI j &&& 31)) &&& 1 = 0 then (sp_lr t j).2 + 1 else 0) then (if (t >>> (nI j &&& 31)) &&& 1 = 0 then (sp_lr t j).2 + 1 else 0) else (sp_lr t j).1, if (t >>> (nI j &&& 31)) &&& 1 = 0 then (sp_lr t j).2 + 1 else 0)
theorem lr_2t {t : Int32} {j : Nat} (h : (t >>> (nI j &&& 31)) &&& 1 = 0) : (sp_lr t j).2 + 1 = (sp_lr t (j + 1)).2 := (if_pos h).symm
theorem lr_2f {t : Int32} {j : Nat} (h : ¬ (t >>> (nI j &&& 31)) &&& 1 = 0) : (0 : Int32) = (sp_lr t (j + 1)).2 := (if_neg h).symm
theorem lr_1 {t : Int32} {j : Nat} : (if (sp_lr t j).1 < (sp_lr t (j + 1)).2 then (sp_lr t (j + 1)).2 else (sp_lr t j).1) = (sp_lr t (j + 1)).1 := rfl

set_option maxHeartbeats 4000000 in
set_option maxRecDepth 100000 in
theorem m_J6_bitCount_0f7a4 {l : Launch} {D : va_G} {tc : Nat → ClassId} (hl : l.stackTraces = false) {h : HM} {x : Int32} :
    CT l D tc yJ6_bitCount_0f7a4 cJ6_bitCount_0f7a4 1 (some FieldType.int) rm_J6_bitCount_0f7a4 [.int x] h (rI (fun z h' => h' = h ∧ z = sp_bc x)) := by
  refine CT.start [some (.int x)] (by decide) hl rfl rfl (fun K C M => ?_)
  obtain ⟨rfl, rfl, rfl, -⟩ := id M
  have C : CX K RJ6 cJ6_bitCount_0f7a4 1 rm_J6_bitCount_0f7a4 := C
  refine w_iload_n C dJ6_bitCount_0f7a4_0 (by rfl) ?_
  refine w_iload_n C dJ6_bitCount_0f7a4_1 (by rfl) ?_
  refine w_iconst (v := 1) C dJ6_bitCount_0f7a4_2 (by rfl) ?_
  refine w_iushr C dJ6_bitCount_0f7a4_3 ?_
  refine lc_J6_265 C dJ6_bitCount_0f7a4_4 ?_
  refine w_iand C dJ6_bitCount_0f7a4_7 ?_
  refine w_isub C dJ6_bitCount_0f7a4_8 ?_
  refine w_istore_0 C dJ6_bitCount_0f7a4_9 ?_
  refine w_iload_n C dJ6_bitCount_0f7a4_10 (by rfl) ?_
  refine lc_J6_266 C dJ6_bitCount_0f7a4_11 ?_
  refine w_iand C dJ6_bitCount_0f7a4_14 ?_
  refine w_iload_n C dJ6_bitCount_0f7a4_15 (by rfl) ?_
  refine w_iconst (v := 2) C dJ6_bitCount_0f7a4_16 (by rfl) ?_
  refine w_iushr C dJ6_bitCount_0f7a4_17 ?_
  refine lc_J6_266 C dJ6_bitCount_0f7a4_18 ?_
  refine w_iand C dJ6_bitCount_0f7a4_21 ?_
  refine w_iadd C dJ6_bitCount_0f7a4_22 ?_
  refine w_istore_0 C dJ6_bitCount_0f7a4_23 ?_
  refine w_iload_n C dJ6_bitCount_0f7a4_24 (by rfl) ?_
  refine w_iload_n C dJ6_bitCount_0f7a4_25 (by rfl) ?_
  refine w_iconst (v := 4) C dJ6_bitCount_0f7a4_26 (by rfl) ?_
  refine w_iushr C dJ6_bitCount_0f7a4_27 ?_
  refine w_iadd C dJ6_bitCount_0f7a4_28 ?_
  refine lc_J6_267 C dJ6_bitCount_0f7a4_29 ?_
  refine w_iand C dJ6_bitCount_0f7a4_32 ?_
  refine w_istore_0 C dJ6_bitCount_0f7a4_33 ?_
  refine w_iload_n C dJ6_bitCount_0f7a4_34 (by rfl) ?_
  refine w_iload_n C dJ6_bitCount_0f7a4_35 (by rfl) ?_
  refine w_bipush (v := (8)) C dJ6_bitCount_0f7a4_36 (by rfl) ?_
  refine w_iushr C dJ6_bitCount_0f7a4_38 ?_
  refine w_iadd C dJ6_bitCount_0f7a4_39 ?_
  refine w_istore_0 C dJ6_bitCount_0f7a4_40 ?_
  refine w_iload_n C dJ6_bitCount_0f7a4_41 (by rfl) ?_
  refine w_iload_n C dJ6_bitCount_0f7a4_42 (by rfl) ?_
  refine w_bipush (v := (16)) C dJ6_bitCount_0f7a4_43 (by rfl) ?_
  refine w_iushr C dJ6_bitCount_0f7a4_45 ?_
  refine w_iadd C dJ6_bitCount_0f7a4_46 ?_
  refine w_istore_0 C dJ6_bitCount_0f7a4_47 ?_
  refine w_iload_n C dJ6_bitCount_0f7a4_48 (by rfl) ?_
  refine w_bipush (v := (63)) C dJ6_bitCount_0f7a4_49 (by rfl) ?_
  refine w_iand C dJ6_bitCount_0f7a4_51 ?_
  refine w_iret C M dJ6_bitCount_0f7a4_52 ⟨by decide, by decide⟩ ⟨_, rfl, ?_⟩
  exact ⟨rfl, rfl⟩

set_option maxHeartbeats 4000000 in
set_option maxRecDepth 100000 in
theorem m_X7_freeCells {l : Launch} {D : va_G} {tc : Nat → ClassId} (hl : l.stackTraces = false) {h : HM} {y0 cA gA pA oA pr ra re rw tr tw : Nat} {ca ga pa oa : Nat → Nat} {f : Nat → Option Nat} {hb : UInt64} {hbt : UInt64} {dmt : Int32} {kt : KT} {nC : Nat} {cs : Nat → Int32 × Int32} {nG : Nat} {gs : Nat → GT} {nP : Nat} {ps : Nat → PT} {nO : Nat} {os : Nat → OT} {nR : Nat} {rs : Nat → RT} {k : KT} {dmp : Int32} {day : Int32} {pur : Int32} {rf : Int32} (Y : Yh tc y0 cA gA pA oA pr ra re rw tr tw ca ga pa oa f hb hbt dmt kt nC cs nG gs nP ps nO os nR rs k dmp day pur rf h) (v : Int32) :
    CT l D tc yX7_freeCells cX7_freeCells 2 (some FieldType.int) rm_X7_freeCells [.ref y0, .int v] h (rI (fun z h' => h' = h ∧ z = 10 - sp_bc (sp_tk nP ps v 14))) := by
  refine CT.start [some (.ref y0), some (.int v)] (by decide) hl rfl rfl (fun K C M => ?_)
  obtain ⟨rfl, rfl, rfl, -⟩ := id M
  have C : CX K RX7 cX7_freeCells 2 rm_X7_freeCells := C
  obtain ⟨yy, yc, yg, yp, yo, ypr, yra, yre, yrw, ytr, ytw, yC, yG, yP, yO, yR, yn1, yn2, yn3, yn4⟩ := id Y
  refine w_bipush (v := (10)) C dX7_freeCells_0 (by rfl) ?_
  first | refine w_aload_n C dX7_freeCells_2 (by rfl) ?_ | refine w_aload_nN C dX7_freeCells_2 (by rfl) ?_
  refine w_iload_n C dX7_freeCells_3 (by rfl) ?_
  refine cl_X7_176 C (m_X7_takenCells hl Y v) yy (by rfl) (by rfl) ⟨by decide, by decide⟩ (by rfl) dX7_freeCells_4 (fun z1 h1 p1 => ?_)
  obtain ⟨rfl, rfl⟩ := p1
  refine cl_X7_440 C (m_J6_bitCount_0f7a4 hl) (by rfl) (by rfl) ⟨by decide, by decide⟩ (by rfl) dX7_freeCells_7 (fun z2 h2 p2 => ?_)
  obtain ⟨rfl, rfl⟩ := p2
  refine w_isub C dX7_freeCells_10 ?_
  refine w_iret C M dX7_freeCells_11 ⟨by decide, by decide⟩ ⟨_, rfl, ?_⟩
  exact ⟨rfl, rfl⟩

set_option maxHeartbeats 4000000 in
set_option maxRecDepth 100000 in
theorem lp_X7_longestFreeRow {K : KC} (C : CX K RX7 cX7_longestFreeRow 6 rm_X7_longestFreeRow) (hl : (Kl K).stackTraces = false) {y0 : Nat} {t v : Int32} {h : HM}
    (kk : WW K (0, 0) 53 [some (.ref y0), some (.int v), some (.int t), some (.int (sp_lr t 10).1), some (.int (sp_lr t 10).2), some (.int (nI 10))] [] h)
    : ∀ j : Nat, j ≤ 10 →  WW K (0, 0) 14 [some (.ref y0), some (.int v), some (.int t), some (.int (sp_lr t j).1), some (.int (sp_lr t j).2), some (.int (nI j))] [] h := by
  refine up_ind ?_
  intro j hj ih  
  refine w_iload C dX7_longestFreeRow_14 (by rfl) ?_
  refine w_bipush (v := (10)) C dX7_longestFreeRow_16 (by rfl) ?_
  refine w_icmp_ge (tgt := 53) C dX7_longestFreeRow_18 (by rfl) (fun c_18 => ?_) (fun c_18 => ?_)
  · have e3 : ¬ j < 10 := fun q => nI_ge q (show 10 < 2 ^ 31 by decide) c_18
    obtain rfl : j = 10 := by omega
    exact kk
  · have hj3 : j < 10 := Nat.not_le.mp (fun q => c_18 (nI_le (a := 10) q (by omega)))
    refine w_iload_n C dX7_longestFreeRow_21 (by rfl) ?_
    refine w_iload C dX7_longestFreeRow_22 (by rfl) ?_
    refine w_ishr C dX7_longestFreeRow_24 ?_
    refine w_iconst (v := 1) C dX7_longestFreeRow_25 (by rfl) ?_
    refine w_iand C dX7_longestFreeRow_26 ?_
    refine w_if_ne (tgt := 37) C dX7_longestFreeRow_27 (by rfl) (fun c_27 => ?_) (fun c_27 => ?_)
    · try simp only [cg_ge, cg_gt, cl_gt, cl_le, cl_eq, cl_lt, cl_ge, bi_eq0, bi_ne0, bI_eq0, Decidable.not_not, Bool.not_eq_false] at c_27
      refine w_iconst (v := 0) C dX7_longestFreeRow_37 (by rfl) ?_
      rw [show (Value.int 0) = .int (sp_lr t (j + 1)).2 from congrArg Value.int (lr_2f c_27)]
      refine w_istore_4 C dX7_longestFreeRow_38 (by first | trivial | rfl) ?_
      refine w_iload_n C dX7_longestFreeRow_40 (by rfl) ?_
      refine w_iload C dX7_longestFreeRow_41 (by rfl) ?_
      refine w_imax C gw_679 gw_680 gw_33 gw_681 (by rfl) (by rfl) (by rfl) ⟨by decide, by decide⟩ dX7_longestFreeRow_43 ?_
      rw [lr_1]
      refine w_istore_3 C dX7_longestFreeRow_46 (by first | trivial | rfl) ?_
      refine w_iinc_5 (v := _ + (1)) C dX7_longestFreeRow_47 (by rfl) (by first | trivial | rfl) ?_
      refine w_goto (tgt := 14) C dX7_longestFreeRow_50 (by rfl) ?_
      rw [nI_1 j]
      exact w_sub (ih hj3) (by repeat' first | exact trivial | rfl | constructor)
    · try simp only [cg_ge, cg_gt, cl_gt, cl_le, cl_eq, cl_lt, cl_ge, bi_eq0, bi_ne0, bI_eq0, Decidable.not_not, Bool.not_eq_false] at c_27
      refine w_iload C dX7_longestFreeRow_30 (by rfl) ?_
      refine w_iconst (v := 1) C dX7_longestFreeRow_32 (by rfl) ?_
      refine w_iadd C dX7_longestFreeRow_33 ?_
      refine w_goto (tgt := 38) C dX7_longestFreeRow_34 (by rfl) ?_
      rw [lr_2t c_27]
      refine w_istore_4 C dX7_longestFreeRow_38 (by first | trivial | rfl) ?_
      refine w_iload_n C dX7_longestFreeRow_40 (by rfl) ?_
      refine w_iload C dX7_longestFreeRow_41 (by rfl) ?_
      refine w_imax C gw_679 gw_680 gw_33 gw_681 (by rfl) (by rfl) (by rfl) ⟨by decide, by decide⟩ dX7_longestFreeRow_43 ?_
      rw [lr_1]
      refine w_istore_3 C dX7_longestFreeRow_46 (by first | trivial | rfl) ?_
      refine w_iinc_5 (v := _ + (1)) C dX7_longestFreeRow_47 (by rfl) (by first | trivial | rfl) ?_
      refine w_goto (tgt := 14) C dX7_longestFreeRow_50 (by rfl) ?_
      rw [nI_1 j]
      exact w_sub (ih hj3) (by repeat' first | exact trivial | rfl | constructor)

set_option maxHeartbeats 4000000 in
set_option maxRecDepth 100000 in
theorem m_X7_longestFreeRow {l : Launch} {D : va_G} {tc : Nat → ClassId} (hl : l.stackTraces = false) {h : HM} {y0 cA gA pA oA pr ra re rw tr tw : Nat} {ca ga pa oa : Nat → Nat} {f : Nat → Option Nat} {hb : UInt64} {hbt : UInt64} {dmt : Int32} {kt : KT} {nC : Nat} {cs : Nat → Int32 × Int32} {nG : Nat} {gs : Nat → GT} {nP : Nat} {ps : Nat → PT} {nO : Nat} {os : Nat → OT} {nR : Nat} {rs : Nat → RT} {k : KT} {dmp : Int32} {day : Int32} {pur : Int32} {rf : Int32} (Y : Yh tc y0 cA gA pA oA pr ra re rw tr tw ca ga pa oa f hb hbt dmt kt nC cs nG gs nP ps nO os nR rs k dmp day pur rf h) (v : Int32) :
    CT l D tc yX7_longestFreeRow cX7_longestFreeRow 6 (some FieldType.int) rm_X7_longestFreeRow [.ref y0, .int v] h (rI (fun z h' => h' = h ∧ z = (sp_lr (sp_tk nP ps v 14) 10).1)) := by
  refine CT.start [some (.ref y0), some (.int v), none, none, none, none] (by decide) hl rfl rfl (fun K C M => ?_)
  obtain ⟨rfl, rfl, rfl, -⟩ := id M
  have C : CX K RX7 cX7_longestFreeRow 6 rm_X7_longestFreeRow := C
  obtain ⟨yy, yc, yg, yp, yo, ypr, yra, yre, yrw, ytr, ytw, yC, yG, yP, yO, yR, yn1, yn2, yn3, yn4⟩ := id Y
  first | refine w_aload_n C dX7_longestFreeRow_0 (by rfl) ?_ | refine w_aload_nN C dX7_longestFreeRow_0 (by rfl) ?_
  refine w_iload_n C dX7_longestFreeRow_1 (by rfl) ?_
  refine cl_X7_176 C (m_X7_takenCells hl Y v) yy (by rfl) (by rfl) ⟨by decide, by decide⟩ (by rfl) dX7_longestFreeRow_2 (fun z1 h1 p1 => ?_)
  obtain ⟨rfl, rfl⟩ := p1
  refine w_istore_2 C dX7_longestFreeRow_5 (by first | trivial | rfl) ?_
  refine w_iconst (v := 0) C dX7_longestFreeRow_6 (by rfl) ?_
  refine w_istore_3 C dX7_longestFreeRow_7 (by first | trivial | rfl) ?_
  refine w_iconst (v := 0) C dX7_longestFreeRow_8 (by rfl) ?_
  refine w_istore_4 C dX7_longestFreeRow_9 (by first | trivial | rfl) ?_
  refine w_iconst (v := 0) C dX7_longestFreeRow_11 (by rfl) ?_
  refine w_istore_5 C dX7_longestFreeRow_12 (by first | trivial | rfl) ?_
  refine lp_X7_longestFreeRow C hl ?_ 0 (by decide)
  refine w_iload_n C dX7_longestFreeRow_53 (by rfl) ?_
  refine w_iret C M dX7_longestFreeRow_54 ⟨by decide, by decide⟩ ⟨_, rfl, ?_⟩
  exact ⟨rfl, rfl⟩

theorem Yh.kiln {tc : Nat → ClassId} {h h' : HM} {y0 cA gA pA oA pr ra re rw tr tw : Nat} {ca ga pa oa : Nat → Nat} {f : Nat → Option Nat} {hb : UInt64} {hbt : UInt64} {dmt : Int32} {kt : KT} {nC : Nat} {cs : Nat → Int32 × Int32} {nG : Nat} {gs : Nat → GT} {nP : Nat} {ps : Nat → PT} {nO : Nat} {os : Nat → OT} {nR : Nat} {rs : Nat → RT} {k : KT} {dmp : Int32} {day : Int32} {pur : Int32} {rf : Int32} (Y : Yh tc y0 cA gA pA oA pr ra re rw tr tw ca ga pa oa f hb hbt dmt kt nC cs nG gs nP ps nO os nR rs k dmp day pur rf h) {hb2 : UInt64} {dm2 : Int32} {k2 : KT} (u : Up h re (kCell pr rw hb2 dm2 k2) h') (hw : kW k2 = kW k) : Yh tc y0 cA gA pA oA pr ra re rw tr tw ca ga pa oa f hb2 hbt dmt kt nC cs nG gs nP ps nO os nR rs k2 dm2 day pur rf h' :=
  Yh.real Y u.self (by rw [hw]; exact u.oth Y.2.2.2.2.2.2.2.2.1 Y.2.2.2.2.2.2.2.1 (by intro q; simp at q)) (u.fr.sub (by simp))

-- none in p32: X7_bell

set_option maxHeartbeats 4000000 in
set_option maxRecDepth 100000 in
theorem m_X7_door {l : Launch} {D : va_G} {tc : Nat → ClassId} (hl : l.stackTraces = false) {h : HM} {y0 cA gA pA oA pr ra re rw tr tw : Nat} {ca ga pa oa : Nat → Nat} {f : Nat → Option Nat} {hb : UInt64} {hbt : UInt64} {dmt : Int32} {kt : KT} {nC : Nat} {cs : Nat → Int32 × Int32} {nG : Nat} {gs : Nat → GT} {nP : Nat} {ps : Nat → PT} {nO : Nat} {os : Nat → OT} {nR : Nat} {rs : Nat → RT} {k : KT} {dmp : Int32} {day : Int32} {pur : Int32} {rf : Int32} (Y : Yh tc y0 cA gA pA oA pr ra re rw tr tw ca ga pa oa f hb hbt dmt kt nC cs nG gs nP ps nO os nR rs k dmp day pur rf h) {b : Bool} :
    CT l D tc yX7_door cX7_door 3 (some FieldType.boolean) rm_X7_door [.ref y0, .int (bi b)] h (rI (fun z h' => z = bi (kO k) ∧ Yh tc y0 cA gA pA oA pr ra re rw tr tw ca ga pa oa f hb hbt dmt kt nC cs nG gs nP ps nO os nR rs ((kH k, kP k, b, kL k, kA k, kE k, kC k, kF k, kS k, kW k)) dmp day pur rf h')) := by
  refine CT.start [some (.ref y0), some (.int (bi b)), none] (by decide) hl rfl rfl (fun K C M => ?_)
  obtain ⟨rfl, rfl, rfl, -⟩ := id M
  have C : CX K RX7 cX7_door 3 rm_X7_door := C
  obtain ⟨yy, yc, yg, yp, yo, ypr, yra, yre, yrw, ytr, ytw, yC, yG, yP, yO, yR, yn1, yn2, yn3, yn4⟩ := id Y
  first | refine w_aload_n C dX7_door_0 (by rfl) ?_ | refine w_aload_nN C dX7_door_0 (by rfl) ?_
  refine gf_X7_58 C yy dX7_door_1 ?_
  refine gf_X7_245 C yre dX7_door_4 ?_
  refine w_istore_2 C dX7_door_7 (by first | trivial | rfl) ?_
  first | refine w_aload_n C dX7_door_8 (by rfl) ?_ | refine w_aload_nN C dX7_door_8 (by rfl) ?_
  refine gf_X7_58 C yy dX7_door_9 ?_
  refine w_iload_n C dX7_door_12 (by rfl) ?_
  refine pf_X7_245 C yre (bi_01 _) dX7_door_13 (fun h1 u1 => ?_)
  have yre := u1.self
  refine w_iload_n C dX7_door_16 (by rfl) ?_
  refine w_zret C M dX7_door_17 ⟨by decide, by decide⟩ (nar01 (bi_01 _)) ⟨_, rfl, ?_⟩
  exact ⟨rfl, Yh.kiln Y (k2 := (kH k, kP k, b, kL k, kA k, kE k, kC k, kF k, kS k, kW k)) u1 rfl⟩

set_option maxHeartbeats 4000000 in
set_option maxRecDepth 100000 in
theorem m_X7_damper {l : Launch} {D : va_G} {tc : Nat → ClassId} (hl : l.stackTraces = false) {h : HM} {y0 cA gA pA oA pr ra re rw tr tw : Nat} {ca ga pa oa : Nat → Nat} {f : Nat → Option Nat} {hb : UInt64} {hbt : UInt64} {dmt : Int32} {kt : KT} {nC : Nat} {cs : Nat → Int32 × Int32} {nG : Nat} {gs : Nat → GT} {nP : Nat} {ps : Nat → PT} {nO : Nat} {os : Nat → OT} {nR : Nat} {rs : Nat → RT} {k : KT} {dmp : Int32} {day : Int32} {pur : Int32} {rf : Int32} (Y : Yh tc y0 cA gA pA oA pr ra re rw tr tw ca ga pa oa f hb hbt dmt kt nC cs nG gs nP ps nO os nR rs k dmp day pur rf h) {d : Int32} :
    CTX l D tc yX7_damper cX7_damper 3 (some FieldType.int) rm_X7_damper [.ref y0, .int d] h (rI (fun z h' => (0 ≤ d ∧ d ≤ 4) ∧ z = dmp ∧ Yh tc y0 cA gA pA oA pr ra re rw tr tw ca ga pa oa f hb hbt dmt kt nC cs nG gs nP ps nO os nR rs k d day pur rf h')) (fun E h' => E = "java/lang/IllegalArgumentException" ∧ h' = h ∧ ¬ (0 ≤ d ∧ d ≤ 4)) := by
  refine CTX.start [some (.ref y0), some (.int d), none] (by decide) hl rfl rfl (fun K C M X => ?_)
  obtain ⟨rfl, rfl, rfl, -⟩ := id M
  have C : CX K RX7 cX7_damper 3 rm_X7_damper := C
  obtain ⟨yy, yc, yg, yp, yo, ypr, yra, yre, yrw, ytr, ytw, yC, yG, yP, yO, yR, yn1, yn2, yn3, yn4⟩ := id Y
  refine w_iload_n C dX7_damper_0 (by rfl) ?_
  refine w_iconst (v := 0) C dX7_damper_1 (by rfl) ?_
  refine w_iconst (v := 4) C dX7_damper_2 (by rfl) ?_
  refine cl_X7_74 C (m_X7_isWithin hl d 0 4) (by rfl) (by rfl) ⟨by decide, by decide⟩ (by rfl) dX7_damper_3 (fun z1 h1 p1 => ?_)
  obtain ⟨rfl, rfl⟩ := p1
  refine w_if_ne (tgt := 19) C dX7_damper_6 (by rfl) (fun c_6 => ?_) (fun c_6 => ?_)
  · try simp only [cg_ge, cg_gt, cl_gt, cl_le, cl_eq, cl_lt, cl_ge, bi_eq0, bi_ne0, bI_eq0, Decidable.not_not, Bool.not_eq_false] at c_6
    first | refine w_aload_n C dX7_damper_19 (by rfl) ?_ | refine w_aload_nN C dX7_damper_19 (by rfl) ?_
    refine gf_X7_58 C yy dX7_damper_20 ?_
    refine gf_X7_242 C yre dX7_damper_23 ?_
    refine w_istore_2 C dX7_damper_26 (by first | trivial | rfl) ?_
    first | refine w_aload_n C dX7_damper_27 (by rfl) ?_ | refine w_aload_nN C dX7_damper_27 (by rfl) ?_
    refine gf_X7_58 C yy dX7_damper_28 ?_
    refine w_iload_n C dX7_damper_31 (by rfl) ?_
    refine pf_X7_242 C yre dX7_damper_32 (fun h2 u2 => ?_)
    have yre := u2.self
    refine w_iload_n C dX7_damper_35 (by rfl) ?_
    refine w_iret C M dX7_damper_36 ⟨by decide, by decide⟩ ⟨_, rfl, ?_⟩
    exact ⟨c_6, rfl, Yh.kiln Y (k2 := k) u2 rfl⟩
  · try simp only [cg_ge, cg_gt, cl_gt, cl_le, cl_eq, cl_lt, cl_ge, bi_eq0, bi_ne0, bI_eq0, Decidable.not_not, Bool.not_eq_false] at c_6
    exact th_X7_78_240_82 C X (by rfl) (by rfl) (by rfl) (by decide) (by decide) (by decide) (by decide) ⟨rfl, rfl, c_6⟩ dX7_damper_9 dX7_damper_12 dX7_damper_13 dX7_damper_15 dX7_damper_18

abbrev sp_cvr (b : Bool) (p : PT) : PT := (p.1, p.2.1, (qWd p.2.2, qHg p.2.2, qWl p.2.2, qSt p.2.2, qWa p.2.2, b, qSm p.2.2, qMk p.2.2, qSh p.2.2, qCe p.2.2))

set_option maxHeartbeats 4000000 in
set_option maxRecDepth 100000 in
theorem m_X7_cover {l : Launch} {D : va_G} {tc : Nat → ClassId} (hl : l.stackTraces = false) {h : HM} {y0 cA gA pA oA pr ra re rw tr tw : Nat} {ca ga pa oa : Nat → Nat} {f : Nat → Option Nat} {hb : UInt64} {hbt : UInt64} {dmt : Int32} {kt : KT} {nC : Nat} {cs : Nat → Int32 × Int32} {nG : Nat} {gs : Nat → GT} {nP : Nat} {ps : Nat → PT} {nO : Nat} {os : Nat → OT} {nR : Nat} {rs : Nat → RT} {k : KT} {dmp : Int32} {day : Int32} {pur : Int32} {rf : Int32} (Y : Yh tc y0 cA gA pA oA pr ra re rw tr tw ca ga pa oa f hb hbt dmt kt nC cs nG gs nP ps nO os nR rs k dmp day pur rf h) (bP : nP ≤ 14) {i : Int32} {b : Bool} :
    CTX l D tc yX7_cover cX7_cover 5 (some FieldType.boolean) rm_X7_cover [.ref y0, .int i, .int (bi b)] h (rI (fun z h' => ∃ j, j < nP ∧ i = nI j ∧ z = bi (qCv (ps j).2.2) ∧ Yh tc y0 cA gA pA oA pr ra re rw tr tw ca ga pa oa f hb hbt dmt kt nC cs nG gs nP (vf_upd ps j (sp_cvr b (ps j))) nO os nR rs k dmp day pur rf h')) (fun E h' => E = "java/lang/IndexOutOfBoundsException" ∧ h' = h ∧ out9 i nP) := by
  refine CTX.start [some (.ref y0), some (.int i), some (.int (bi b)), none, none] (by decide) hl rfl rfl (fun K C M X => ?_)
  obtain ⟨rfl, rfl, rfl, -⟩ := id M
  have C : CX K RX7 cX7_cover 5 rm_X7_cover := C
  obtain ⟨yy, yc, yg, yp, yo, ypr, yra, yre, yrw, ytr, ytw, yC, yG, yP, yO, yR, yn1, yn2, yn3, yn4⟩ := id Y
  first | refine w_aload_n C dX7_cover_0 (by rfl) ?_ | refine w_aload_nN C dX7_cover_0 (by rfl) ?_
  refine w_iload_n C dX7_cover_1 (by rfl) ?_
  refine cx_X7_117 C (m_X7_potAt hl Y bP i) yy (by rfl) (by rfl) ⟨by decide, by decide⟩ (by rfl) dX7_cover_2 (fun z1 h1 p1 => ?_) (fun E hx px => w_prop X ⟨by decide, by decide⟩ px)
  obtain ⟨rfl, j, hj, rfl, rfl⟩ := p1
  have hpj := yP j hj
  first | refine w_astore_3 C dX7_cover_5 (by first | trivial | rfl) ?_ | refine w_astore_3N C dX7_cover_5 (by first | trivial | rfl) ?_
  first | refine w_aload_n C dX7_cover_6 (by rfl) ?_ | refine w_aload_nN C dX7_cover_6 (by rfl) ?_
  refine gf_X7_121 C hpj dX7_cover_7 ?_
  refine w_istore_4 C dX7_cover_10 (by first | trivial | rfl) ?_
  first | refine w_aload_n C dX7_cover_12 (by rfl) ?_ | refine w_aload_nN C dX7_cover_12 (by rfl) ?_
  refine w_iload_n C dX7_cover_13 (by rfl) ?_
  refine pf_X7_121 C hpj (bi_01 _) dX7_cover_14 (fun h2 u2 => ?_)
  have hpj := u2.self
  refine w_iload C dX7_cover_17 (by rfl) ?_
  refine w_zret C M dX7_cover_19 ⟨by decide, by decide⟩ (nar01 (bi_01 _)) ⟨_, rfl, ?_⟩
  exact ⟨j, hj, rfl, rfl, Yh.pot Y hj (p := sp_cvr b (ps j)) u2⟩

set_option maxHeartbeats 4000000 in
set_option maxRecDepth 100000 in
theorem m_X7_water {l : Launch} {D : va_G} {tc : Nat → ClassId} (hl : l.stackTraces = false) {h : HM} {y0 cA gA pA oA pr ra re rw tr tw : Nat} {ca ga pa oa : Nat → Nat} {f : Nat → Option Nat} {hb : UInt64} {hbt : UInt64} {dmt : Int32} {kt : KT} {nC : Nat} {cs : Nat → Int32 × Int32} {nG : Nat} {gs : Nat → GT} {nP : Nat} {ps : Nat → PT} {nO : Nat} {os : Nat → OT} {nR : Nat} {rs : Nat → RT} {k : KT} {dmp : Int32} {day : Int32} {pur : Int32} {rf : Int32} (Y : Yh tc y0 cA gA pA oA pr ra re rw tr tw ca ga pa oa f hb hbt dmt kt nC cs nG gs nP ps nO os nR rs k dmp day pur rf h) (bP : nP ≤ 14) (hn : ∀ i, i < nP → FP.Core.FFin (qWa (ps i).2.2)) {i : Int32} :
    CTX l D tc yX7_water cX7_water 2 (some FieldType.double) rm_X7_water [.ref y0, .int i] h (rD (fun z h' => h' = h ∧ ∃ j, j < nP ∧ i = nI j ∧ z = FP.f2d (qWa (ps j).2.2))) (fun E h' => E = "java/lang/IndexOutOfBoundsException" ∧ h' = h ∧ out9 i nP) := by
  refine CTX.start [some (.ref y0), some (.int i)] (by decide) hl rfl rfl (fun K C M X => ?_)
  obtain ⟨rfl, rfl, rfl, -⟩ := id M
  have C : CX K RX7 cX7_water 2 rm_X7_water := C
  obtain ⟨yy, yc, yg, yp, yo, ypr, yra, yre, yrw, ytr, ytw, yC, yG, yP, yO, yR, yn1, yn2, yn3, yn4⟩ := id Y
  first | refine w_aload_n C dX7_water_0 (by rfl) ?_ | refine w_aload_nN C dX7_water_0 (by rfl) ?_
  refine w_iload_n C dX7_water_1 (by rfl) ?_
  refine cx_X7_117 C (m_X7_potAt hl Y bP i) yy (by rfl) (by rfl) ⟨by decide, by decide⟩ (by rfl) dX7_water_2 (fun z1 h1 p1 => ?_) (fun E hx px => w_prop X ⟨by decide, by decide⟩ px)
  obtain ⟨rfl, j, hj, rfl, rfl⟩ := p1
  have hpj := yP j hj
  refine gf_X7_303 C hpj dX7_water_5 ?_
  refine w_f2d C dX7_water_8 (nn_of (dfin_f2d (hn j hj)).n) ?_
  refine w_dret C M dX7_water_9 ⟨by decide, by decide⟩ ⟨_, rfl, ?_⟩
  exact ⟨rfl, j, hj, rfl, rfl⟩
