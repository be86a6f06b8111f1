/-! ROWS OVER ALL POTS -/
def sp_cf (cell width : Int32) : Int32 := (((1 : Int32) <<< (width &&& 31)) - 1) <<< (cell &&& 31)
/-- the cells of a shelf that the first j pots take -/
def sp_tk (nP : Nat) (ps : Nat → PT) (v : Int32) : Nat → Int32
  | 0 => 0
  | j + 1 => if j < nP ∧ qSh (ps j).2.2 = v then sp_tk nP ps v j ||| sp_cf (qCe (ps j).2.2) (qWd (ps j).2.2) else sp_tk nP ps v j
theorem tk_t {nP : Nat} {ps : Nat → PT} {v : Int32} {j : Nat} (h : j < nP) (g : qSh (ps j).2.2 = v) : sp_tk nP ps v j ||| sp_cf (qCe (ps j).2.2) (qWd (ps j).2.2) = sp_tk nP ps v (j + 1) := (if_pos ⟨h, g⟩).symm
theorem tk_f {nP : Nat} {ps : Nat → PT} {v : Int32} {j : Nat} (h : ¬ (j < nP ∧ qSh (ps j).2.2 = v)) : sp_tk nP ps v j = sp_tk nP ps v (j + 1) := (if_neg h).symm
/-- the sums of widths of the first j pots -/
def sp_rdy (hi : Int32) (q : QT) : Prop := (qSh q = -1 ∧ (qSt q = 1 ∨ qSt q = 3)) ∧ qHg q ≤ hi
def sp_sm (nP : Nat) (ps : Nat → PT) (hi : Int32) : Nat → Int32
  | 0 => 1
  | j + 1 => if j < nP ∧ (qSh (ps j).2.2 = -1 ∧ (qSt (ps j).2.2 = 1 ∨ qSt (ps j).2.2 = 3)) ∧ qHg (ps j).2.2 ≤ hi then sp_sm nP ps hi j ||| ((sp_sm nP ps hi j <<< (qWd (ps j).2.2 &&& 31)) &&& sp_cf 0 11) else sp_sm nP ps hi j
theorem sm_t {nP : Nat} {ps : Nat → PT} {v : Int32} {j : Nat} (h : j < nP) (g : qSh (ps j).2.2 = -1 ∧ (qSt (ps j).2.2 = 1 ∨ qSt (ps j).2.2 = 3)) (f : qHg (ps j).2.2 ≤ v) : sp_sm nP ps v j ||| ((sp_sm nP ps v j <<< (qWd (ps j).2.2 &&& 31)) &&& sp_cf 0 11) = sp_sm nP ps v (j + 1) := (if_pos ⟨h, g, f⟩).symm
theorem sm_f {nP : Nat} {ps : Nat → PT} {v : Int32} {j : Nat} (h : ¬ (j < nP ∧ (qSh (ps j).2.2 = -1 ∧ (qSt (ps j).2.2 = 1 ∨ qSt (ps j).2.2 = 3)) ∧ qHg (ps j).2.2 ≤ v)) : sp_sm nP ps v j = sp_sm nP ps v (j + 1) := (if_neg h).symm
/-- the first j pots changed -/
def sp_each (nP : Nat) (g : PT → PT) (ps : Nat → PT) (j : Nat) : Nat → PT := fun i => if i < j ∧ i < nP then g (ps i) else ps i
theorem each_0 (nP : Nat) (g : PT → PT) (ps : Nat → PT) : sp_each nP g ps 0 = ps := by funext i; simp [sp_each]
theorem each_at (nP : Nat) (g : PT → PT) (ps : Nat → PT) (j : Nat) : sp_each nP g ps j j = ps j := by simp [sp_each]
theorem each_s {nP : Nat} (g : PT → PT) (ps : Nat → PT) {j : Nat} (h : j < nP) : vf_upd (sp_each nP g ps j) j (g (ps j)) = sp_each nP g ps (j + 1) := by
  funext i
  simp only [vf_upd, sp_each]
  by_cases e : i = j
  · subst e; simp [h]
  · rw [if_neg e]
    by_cases w : i < j ∧ i < nP
    · rw [if_pos w, if_pos ⟨by omega, w.2⟩]
    · rw [if_neg w, if_neg (fun q => w ⟨by omega, q.2⟩)]
theorem each_n {nP : Nat} (g : PT → PT) (ps : Nat → PT) {j : Nat} (h : ¬ j < nP ∨ g (ps j) = ps j) : sp_each nP g ps j = sp_each nP g ps (j + 1) := by
  funext i
  simp only [sp_each]
  by_cases e : i = j
  · subst e
    rcases h with h | h
    · simp [h]
    · simp [h]
  · by_cases w : i < j ∧ i < nP
    · rw [if_pos w, if_pos ⟨by omega, w.2⟩]
    · rw [if_neg w, if_neg (fun q => w ⟨by omega, q.2⟩)]

set_option maxHeartbeats 4000000 in
set_option maxRecDepth 100000 in
theorem lp_X7_openOrders {K : KC} (C : CX K RX7 cX7_openOrders 6 rm_X7_openOrders) (hl : (Kl K).stackTraces = false) {y0 oA nO : Nat} {oa : Nat → Nat} {os : Nat → OT} {h : HM} (yo : h oA = some (qCell (Kt K 5) 6 (row9 nO oa))) (hO : nO = 0)
    (kk : WW K (0, 0) 52 [some (.ref y0), some (.int (sp_cnt (fun i => decide (i < nO ∧ (os i).2.2.2.2 = false)) 6)), some (.ref oA), some (.int (nI 6)), some (.int (nI 6)), none] [] h)
    : ∀ j : Nat, j ≤ 6 →  WW K (0, 0) 13 [some (.ref y0), some (.int (sp_cnt (fun i => decide (i < nO ∧ (os i).2.2.2.2 = false)) j)), some (.ref oA), some (.int (nI 6)), some (.int (nI j)), none] [] h := by
  refine up_ind ?_
  intro j hj ih  
  refine w_iload C dX7_openOrders_13 (by rfl) ?_
  refine w_iload_n C dX7_openOrders_15 (by rfl) ?_
  refine w_icmp_ge (tgt := 52) C dX7_openOrders_16 (by rfl) (fun c_16 => ?_) (fun c_16 => ?_)
  · have e3 : ¬ j < 6 := fun q => nI_ge q (show 6 < 2 ^ 31 by decide) c_16
    obtain rfl : j = 6 := by omega
    exact kk
  · have hj3 : j < 6 := Nat.not_le.mp (fun q => c_16 (nI_le (a := 6) q (by omega)))
    first | refine w_aload_n C dX7_openOrders_19 (by rfl) ?_ | refine w_aload_nN C dX7_openOrders_19 (by rfl) ?_
    refine w_iload C dX7_openOrders_20 (by rfl) ?_
    refine w_aaldn C 5 yo (by rfl) hj3 (by decide) dX7_openOrders_22 ?_
    by_cases hjn : j < nO
    · exact absurd hjn (by omega)
    · rw [show row9 nO oa j = none from if_neg hjn]
      change WW _ _ _ _ (.null :: _) _
      first | refine w_astore_5 C dX7_openOrders_23 (by first | trivial | rfl) ?_ | refine w_astore_5N C dX7_openOrders_23 (by first | trivial | rfl) ?_
      refine w_iload_n C dX7_openOrders_25 (by rfl) ?_
      first | refine w_aload C dX7_openOrders_26 (by rfl) ?_ | refine w_aloadN C dX7_openOrders_26 (by rfl) ?_
      refine w_ifnullN (tgt := 43) C dX7_openOrders_28 (by rfl) ?_
      refine w_iconst (v := 0) C dX7_openOrders_43 (by rfl) ?_
      refine w_iadd C dX7_openOrders_44 ?_
      rw [cnt_f (p := (fun i => decide (i < nO ∧ (os i).2.2.2.2 = false))) (decide_eq_false (fun w => hjn w.1))]
      refine w_istore_1 C dX7_openOrders_45 (by first | trivial | rfl) ?_
      refine w_iinc_4 (v := _ + (1)) C dX7_openOrders_46 (by rfl) (by first | trivial | rfl) ?_
      refine w_goto (tgt := 13) C dX7_openOrders_49 (by rfl) ?_
      rw [nI_1 j]
      exact w_sub (ih hj3) (by repeat' first | exact trivial | rfl | constructor)

set_option maxHeartbeats 4000000 in
set_option maxRecDepth 100000 in
theorem m_X7_openOrders {l : Launch} {D : va_G} {tc : Nat → ClassId} (hl : l.stackTraces = false) {h : HM} {y0 cA gA pA oA pr ra re rw tr tw : Nat} {ca ga pa oa : Nat → Nat} {f : Nat → Option Nat} {hb : UInt64} {hbt : UInt64} {dmt : Int32} {kt : KT} {nC : Nat} {cs : Nat → Int32 × Int32} {nG : Nat} {gs : Nat → GT} {nP : Nat} {ps : Nat → PT} {nO : Nat} {os : Nat → OT} {nR : Nat} {rs : Nat → RT} {k : KT} {dmp : Int32} {day : Int32} {pur : Int32} {rf : Int32} (Y : Yh tc y0 cA gA pA oA pr ra re rw tr tw ca ga pa oa f hb hbt dmt kt nC cs nG gs nP ps nO os nR rs k dmp day pur rf h) (hO : nO = 0) :
    CT l D tc yX7_openOrders cX7_openOrders 6 (some FieldType.int) rm_X7_openOrders [.ref y0] h (rI (fun z h' => h' = h ∧ z = sp_cnt (fun i => decide (i < nO ∧ (os i).2.2.2.2 = false)) 6)) := by
  refine CT.start [some (.ref y0), none, none, none, none, none] (by decide) hl rfl rfl (fun K C M => ?_)
  obtain ⟨rfl, rfl, rfl, -⟩ := id M
  have C : CX K RX7 cX7_openOrders 6 rm_X7_openOrders := C
  obtain ⟨yy, yc, yg, yp, yo, ypr, yra, yre, yrw, ytr, ytw, yC, yG, yP, yO, yR, yn1, yn2, yn3, yn4⟩ := Y
  refine w_iconst (v := 0) C dX7_openOrders_0 (by rfl) ?_
  refine w_istore_1 C dX7_openOrders_1 (by first | trivial | rfl) ?_
  first | refine w_aload_n C dX7_openOrders_2 (by rfl) ?_ | refine w_aload_nN C dX7_openOrders_2 (by rfl) ?_
  refine gf_X7_29 C yy dX7_openOrders_3 ?_
  first | refine w_astore_2 C dX7_openOrders_6 (by first | trivial | rfl) ?_ | refine w_astore_2N C dX7_openOrders_6 (by first | trivial | rfl) ?_
  first | refine w_aload_n C dX7_openOrders_7 (by rfl) ?_ | refine w_aload_nN C dX7_openOrders_7 (by rfl) ?_
  refine w_alen C 5 yo (by rfl) dX7_openOrders_8 ?_
  refine w_istore_3 C dX7_openOrders_9 (by first | trivial | rfl) ?_
  refine w_iconst (v := 0) C dX7_openOrders_10 (by rfl) ?_
  refine w_istore_4 C dX7_openOrders_11 (by first | trivial | rfl) ?_
  refine lp_X7_openOrders (os := os) C hl yo hO ?_ 0 (by decide)
  refine w_iload_n C dX7_openOrders_52 (by rfl) ?_
  refine w_iret C M dX7_openOrders_53 ⟨by decide, by decide⟩ ⟨_, rfl, ?_⟩
  exact ⟨rfl, rfl⟩

set_option maxHeartbeats 4000000 in
set_option maxRecDepth 100000 in
theorem lp_X7_takenCells {K : KC} (C : CX K RX7 cX7_takenCells 7 rm_X7_takenCells) (hl : (Kl K).stackTraces = false) {y0 pA nP : Nat} {pa ca ga : Nat → Nat} {ps : Nat → PT} {h : HM} {v : Int32} (yp : h pA = some (qCell (Kt K 6) 14 (row9 nP pa))) (yP : ∀ i, i < nP → h (pa i) = some (pC9 ca ga (ps i)))
    (kk : WW K (0, 0) 63 [some (.ref y0), some (.int v), some (.int (sp_tk nP ps v 14)), some (.ref pA), some (.int (nI 14)), some (.int (nI 14)), none] [] h)
    : ∀ j : Nat, j ≤ 14 →  WW K (0, 0) 14 [some (.ref y0), some (.int v), some (.int (sp_tk nP ps v j)), some (.ref pA), some (.int (nI 14)), some (.int (nI j)), none] [] h := by
  refine up_ind ?_
  intro j hj ih  
  refine w_iload C dX7_takenCells_14 (by rfl) ?_
  refine w_iload C dX7_takenCells_16 (by rfl) ?_
  refine w_icmp_ge (tgt := 63) C dX7_takenCells_18 (by rfl) (fun c_18 => ?_) (fun c_18 => ?_)
  · have e3 : ¬ j < 14 := fun q => nI_ge q (show 14 < 2 ^ 31 by decide) c_18
    obtain rfl : j = 14 := by omega
    exact kk
  · have hj3 : j < 14 := Nat.not_le.mp (fun q => c_18 (nI_le (a := 14) q (by omega)))
    first | refine w_aload_n C dX7_takenCells_21 (by rfl) ?_ | refine w_aload_nN C dX7_takenCells_21 (by rfl) ?_
    refine w_iload C dX7_takenCells_22 (by rfl) ?_
    refine w_aaldn C 6 yp (by rfl) hj3 (by decide) dX7_takenCells_24 ?_
    by_cases hjn : j < nP
    · rw [show row9 nP pa j = some (pa j) from if_pos hjn]
      change WW _ _ _ _ (.ref (pa j) :: _) _
      have hpj := yP j hjn
      first | refine w_astore_6 C dX7_takenCells_25 (by first | trivial | rfl) ?_ | refine w_astore_6N C dX7_takenCells_25 (by first | trivial | rfl) ?_
      first | refine w_aload C dX7_takenCells_27 (by rfl) ?_ | refine w_aloadN C dX7_takenCells_27 (by rfl) ?_
      refine w_ifnull C dX7_takenCells_29 ?_
      first | refine w_aload C dX7_takenCells_32 (by rfl) ?_ | refine w_aloadN C dX7_takenCells_32 (by rfl) ?_
      refine gf_X7_188 C hpj dX7_takenCells_34 ?_
      refine w_iload_n C dX7_takenCells_37 (by rfl) ?_
      refine w_icmp_ne (tgt := 57) C dX7_takenCells_38 (by rfl) (fun c_38 => ?_) (fun c_38 => ?_)
      · rw [tk_f (fun w => c_38 w.2)]
        refine w_iinc_5 (v := _ + (1)) C dX7_takenCells_57 (by rfl) (by first | trivial | rfl) ?_
        refine w_goto (tgt := 14) C dX7_takenCells_60 (by rfl) ?_
        rw [nI_1 j]
        exact w_sub (ih hj3) (by repeat' first | exact trivial | rfl | constructor)
      · refine w_iload_n C dX7_takenCells_41 (by rfl) ?_
        first | refine w_aload C dX7_takenCells_42 (by rfl) ?_ | refine w_aloadN C dX7_takenCells_42 (by rfl) ?_
        refine gf_X7_191 C hpj dX7_takenCells_44 ?_
        first | refine w_aload C dX7_takenCells_47 (by rfl) ?_ | refine w_aloadN C dX7_takenCells_47 (by rfl) ?_
        refine gf_X7_179 C hpj dX7_takenCells_49 ?_
        refine cl_X7_182 C (m_X7_cellsFrom hl (qCe (ps j).2.2) (qWd (ps j).2.2)) (by rfl) (by rfl) ⟨by decide, by decide⟩ (by rfl) dX7_takenCells_52 (fun z1 h1 p1 => ?_)
        obtain ⟨rfl, rfl⟩ := p1
        refine w_ior C dX7_takenCells_55 ?_
        have e9 := tk_t hjn c_38
        unfold sp_cf at e9
        rw [e9]
        refine w_istore_2 C dX7_takenCells_56 (by first | trivial | rfl) ?_
        refine w_iinc_5 (v := _ + (1)) C dX7_takenCells_57 (by rfl) (by first | trivial | rfl) ?_
        refine w_goto (tgt := 14) C dX7_takenCells_60 (by rfl) ?_
        rw [nI_1 j]
        exact w_sub (ih hj3) (by repeat' first | exact trivial | rfl | constructor)
    · rw [show row9 nP pa j = none from if_neg hjn]
      change WW _ _ _ _ (.null :: _) _
      first | refine w_astore_6 C dX7_takenCells_25 (by first | trivial | rfl) ?_ | refine w_astore_6N C dX7_takenCells_25 (by first | trivial | rfl) ?_
      first | refine w_aload C dX7_takenCells_27 (by rfl) ?_ | refine w_aloadN C dX7_takenCells_27 (by rfl) ?_
      refine w_ifnullN (tgt := 57) C dX7_takenCells_29 (by rfl) ?_
      rw [tk_f (fun w => hjn w.1)]
      refine w_iinc_5 (v := _ + (1)) C dX7_takenCells_57 (by rfl) (by first | trivial | rfl) ?_
      refine w_goto (tgt := 14) C dX7_takenCells_60 (by rfl) ?_
      rw [nI_1 j]
      exact w_sub (ih hj3) (by repeat' first | exact trivial | rfl | constructor)

set_option maxHeartbeats 4000000 in
set_option maxRecDepth 100000 in
theorem m_X7_takenCells {l : Launch} {D : va_G} {tc : Nat → ClassId} (hl : l.stackTraces = false) {h : HM} {y0 cA gA pA oA pr ra re rw tr tw : Nat} {ca ga pa oa : Nat → Nat} {f : Nat → Option Nat} {hb : UInt64} {hbt : UInt64} {dmt : Int32} {kt : KT} {nC : Nat} {cs : Nat → Int32 × Int32} {nG : Nat} {gs : Nat → GT} {nP : Nat} {ps : Nat → PT} {nO : Nat} {os : Nat → OT} {nR : Nat} {rs : Nat → RT} {k : KT} {dmp : Int32} {day : Int32} {pur : Int32} {rf : Int32} (Y : Yh tc y0 cA gA pA oA pr ra re rw tr tw ca ga pa oa f hb hbt dmt kt nC cs nG gs nP ps nO os nR rs k dmp day pur rf h) (v : Int32) :
    CT l D tc yX7_takenCells cX7_takenCells 7 (some FieldType.int) rm_X7_takenCells [.ref y0, .int v] h (rI (fun z h' => h' = h ∧ z = sp_tk nP ps v 14)) := by
  refine CT.start [some (.ref y0), some (.int v), none, none, none, none, none] (by decide) hl rfl rfl (fun K C M => ?_)
  obtain ⟨rfl, rfl, rfl, -⟩ := id M
  have C : CX K RX7 cX7_takenCells 7 rm_X7_takenCells := C
  obtain ⟨yy, yc, yg, yp, yo, ypr, yra, yre, yrw, ytr, ytw, yC, yG, yP, yO, yR, yn1, yn2, yn3, yn4⟩ := Y
  refine w_iconst (v := 0) C dX7_takenCells_0 (by rfl) ?_
  refine w_istore_2 C dX7_takenCells_1 (by first | trivial | rfl) ?_
  first | refine w_aload_n C dX7_takenCells_2 (by rfl) ?_ | refine w_aload_nN C dX7_takenCells_2 (by rfl) ?_
  refine gf_X7_23 C yy dX7_takenCells_3 ?_
  first | refine w_astore_3 C dX7_takenCells_6 (by first | trivial | rfl) ?_ | refine w_astore_3N C dX7_takenCells_6 (by first | trivial | rfl) ?_
  first | refine w_aload_n C dX7_takenCells_7 (by rfl) ?_ | refine w_aload_nN C dX7_takenCells_7 (by rfl) ?_
  refine w_alen C 6 yp (by rfl) dX7_takenCells_8 ?_
  refine w_istore_4 C dX7_takenCells_9 (by first | trivial | rfl) ?_
  refine w_iconst (v := 0) C dX7_takenCells_11 (by rfl) ?_
  refine w_istore_5 C dX7_takenCells_12 (by first | trivial | rfl) ?_
  refine lp_X7_takenCells C hl yp yP ?_ 0 (by decide)
  refine w_iload_n C dX7_takenCells_63 (by rfl) ?_
  refine w_iret C M dX7_takenCells_64 ⟨by decide, by decide⟩ ⟨_, rfl, ?_⟩
  exact ⟨rfl, rfl⟩

set_option maxHeartbeats 4000000 in
set_option maxRecDepth 100000 in
theorem lp_X7_sumsOfWidths {K : KC} (C : CX K RX7 cX7_sumsOfWidths 7 rm_X7_sumsOfWidths) (hl : (Kl K).stackTraces = false) {y0 pA nP : Nat} {pa ca ga : Nat → Nat} {ps : Nat → PT} {h : HM} {v : Int32} (yp : h pA = some (qCell (Kt K 6) 14 (row9 nP pa))) (yP : ∀ i, i < nP → h (pa i) = some (pC9 ca ga (ps i)))
    (kk : WW K (0, 0) 72 [some (.ref y0), some (.int v), some (.int (sp_sm nP ps v 14)), some (.ref pA), some (.int (nI 14)), some (.int (nI 14)), none] [] h)
    : ∀ j : Nat, j ≤ 14 →  WW K (0, 0) 14 [some (.ref y0), some (.int v), some (.int (sp_sm nP ps v j)), some (.ref pA), some (.int (nI 14)), some (.int (nI j)), none] [] h := by
  refine up_ind ?_
  intro j hj ih  
  refine w_iload C dX7_sumsOfWidths_14 (by rfl) ?_
  refine w_iload C dX7_sumsOfWidths_16 (by rfl) ?_
  refine w_icmp_ge (tgt := 72) C dX7_sumsOfWidths_18 (by rfl) (fun c_18 => ?_) (fun c_18 => ?_)
  · have e3 : ¬ j < 14 := fun q => nI_ge q (show 14 < 2 ^ 31 by decide) c_18
    obtain rfl : j = 14 := by omega
    exact kk
  · have hj3 : j < 14 := Nat.not_le.mp (fun q => c_18 (nI_le (a := 14) q (by omega)))
    first | refine w_aload_n C dX7_sumsOfWidths_21 (by rfl) ?_ | refine w_aload_nN C dX7_sumsOfWidths_21 (by rfl) ?_
    refine w_iload C dX7_sumsOfWidths_22 (by rfl) ?_
    refine w_aaldn C 6 yp (by rfl) hj3 (by decide) dX7_sumsOfWidths_24 ?_
    by_cases hjn : j < nP
    · rw [show row9 nP pa j = some (pa j) from if_pos hjn]
      change WW _ _ _ _ (.ref (pa j) :: _) _
      have hpj := yP j hjn
      first | refine w_astore_6 C dX7_sumsOfWidths_25 (by first | trivial | rfl) ?_ | refine w_astore_6N C dX7_sumsOfWidths_25 (by first | trivial | rfl) ?_
      first | refine w_aload C dX7_sumsOfWidths_27 (by rfl) ?_ | refine w_aloadN C dX7_sumsOfWidths_27 (by rfl) ?_
      refine w_ifnull C dX7_sumsOfWidths_29 ?_
      first | refine w_aload C dX7_sumsOfWidths_32 (by rfl) ?_ | refine w_aloadN C dX7_sumsOfWidths_32 (by rfl) ?_
      refine cl_X7_450 C (m_X4_isReady hl hpj) hpj (by rfl) (by rfl) ⟨by decide, by decide⟩ (by rfl) dX7_sumsOfWidths_34 (fun z1 h1 p1 => ?_)
      obtain ⟨rfl, rfl⟩ := p1
      refine w_if_eq (tgt := 66) C dX7_sumsOfWidths_37 (by rfl) (fun c_37 => ?_) (fun c_37 => ?_)
      · try simp only [cg_ge, cg_gt, cl_gt, cl_le, cl_eq, cl_lt, cl_ge, bi_eq0, bi_ne0, bI_eq0, Decidable.not_not, Bool.not_eq_false] at c_37
        rw [sm_f (fun w => c_37 w.2.1)]
        refine w_iinc_5 (v := _ + (1)) C dX7_sumsOfWidths_66 (by rfl) (by first | trivial | rfl) ?_
        refine w_goto (tgt := 14) C dX7_sumsOfWidths_69 (by rfl) ?_
        rw [nI_1 j]
        exact w_sub (ih hj3) (by repeat' first | exact trivial | rfl | constructor)
      · try simp only [cg_ge, cg_gt, cl_gt, cl_le, cl_eq, cl_lt, cl_ge, bi_eq0, bi_ne0, bI_eq0, Decidable.not_not, Bool.not_eq_false] at c_37
        first | refine w_aload C dX7_sumsOfWidths_40 (by rfl) ?_ | refine w_aloadN C dX7_sumsOfWidths_40 (by rfl) ?_
        refine gf_X7_168 C hpj dX7_sumsOfWidths_42 ?_
        refine w_iload_n C dX7_sumsOfWidths_45 (by rfl) ?_
        refine w_icmp_gt (tgt := 66) C dX7_sumsOfWidths_46 (by rfl) (fun c_46 => ?_) (fun c_46 => ?_)
        · rw [sm_f (fun w => absurd c_46 (Int32.not_lt.mpr w.2.2))]
          refine w_iinc_5 (v := _ + (1)) C dX7_sumsOfWidths_66 (by rfl) (by first | trivial | rfl) ?_
          refine w_goto (tgt := 14) C dX7_sumsOfWidths_69 (by rfl) ?_
          rw [nI_1 j]
          exact w_sub (ih hj3) (by repeat' first | exact trivial | rfl | constructor)
        · refine w_iload_n C dX7_sumsOfWidths_49 (by rfl) ?_
          refine w_iload_n C dX7_sumsOfWidths_50 (by rfl) ?_
          first | refine w_aload C dX7_sumsOfWidths_51 (by rfl) ?_ | refine w_aloadN C dX7_sumsOfWidths_51 (by rfl) ?_
          refine gf_X7_179 C hpj dX7_sumsOfWidths_53 ?_
          refine w_ishl C dX7_sumsOfWidths_56 ?_
          refine w_iconst (v := 0) C dX7_sumsOfWidths_57 (by rfl) ?_
          refine w_bipush (v := (11)) C dX7_sumsOfWidths_58 (by rfl) ?_
          refine cl_X7_182 C (m_X7_cellsFrom hl 0 11) (by rfl) (by rfl) ⟨by decide, by decide⟩ (by rfl) dX7_sumsOfWidths_60 (fun z1 h2 p2 => ?_)
          obtain ⟨rfl, rfl⟩ := p2
          refine w_iand C dX7_sumsOfWidths_63 ?_
          refine w_ior C dX7_sumsOfWidths_64 ?_
          have e9 := sm_t hjn c_37 (Int32.not_lt.mp c_46)
          unfold sp_cf at e9
          rw [e9]
          refine w_istore_2 C dX7_sumsOfWidths_65 (by first | trivial | rfl) ?_
          refine w_iinc_5 (v := _ + (1)) C dX7_sumsOfWidths_66 (by rfl) (by first | trivial | rfl) ?_
          refine w_goto (tgt := 14) C dX7_sumsOfWidths_69 (by rfl) ?_
          rw [nI_1 j]
          exact w_sub (ih hj3) (by repeat' first | exact trivial | rfl | constructor)
    · rw [show row9 nP pa j = none from if_neg hjn]
      change WW _ _ _ _ (.null :: _) _
      first | refine w_astore_6 C dX7_sumsOfWidths_25 (by first | trivial | rfl) ?_ | refine w_astore_6N C dX7_sumsOfWidths_25 (by first | trivial | rfl) ?_
      first | refine w_aload C dX7_sumsOfWidths_27 (by rfl) ?_ | refine w_aloadN C dX7_sumsOfWidths_27 (by rfl) ?_
      refine w_ifnullN (tgt := 66) C dX7_sumsOfWidths_29 (by rfl) ?_
      rw [sm_f (fun w => hjn w.1)]
      refine w_iinc_5 (v := _ + (1)) C dX7_sumsOfWidths_66 (by rfl) (by first | trivial | rfl) ?_
      refine w_goto (tgt := 14) C dX7_sumsOfWidths_69 (by rfl) ?_
      rw [nI_1 j]
      exact w_sub (ih hj3) (by repeat' first | exact trivial | rfl | constructor)

set_option maxHeartbeats 4000000 in
set_option maxRecDepth 100000 in
theorem m_X7_sumsOfWidths {l : Launch} {D : va_G} {tc : Nat → ClassId} (hl : l.stackTraces = false) {h : HM} {y0 cA gA pA oA pr ra re rw tr tw : Nat} {ca ga pa oa : Nat → Nat} {f : Nat → Option Nat} {hb : UInt64} {hbt : UInt64} {dmt : Int32} {kt : KT} {nC : Nat} {cs : Nat → Int32 × Int32} {nG : Nat} {gs : Nat → GT} {nP : Nat} {ps : Nat → PT} {nO : Nat} {os : Nat → OT} {nR : Nat} {rs : Nat → RT} {k : KT} {dmp : Int32} {day : Int32} {pur : Int32} {rf : Int32} (Y : Yh tc y0 cA gA pA oA pr ra re rw tr tw ca ga pa oa f hb hbt dmt kt nC cs nG gs nP ps nO os nR rs k dmp day pur rf h) (v : Int32) :
    CT l D tc yX7_sumsOfWidths cX7_sumsOfWidths 7 (some FieldType.int) rm_X7_sumsOfWidths [.ref y0, .int v] h (rI (fun z h' => h' = h ∧ z = sp_sm nP ps v 14)) := by
  refine CT.start [some (.ref y0), some (.int v), none, none, none, none, none] (by decide) hl rfl rfl (fun K C M => ?_)
  obtain ⟨rfl, rfl, rfl, -⟩ := id M
  have C : CX K RX7 cX7_sumsOfWidths 7 rm_X7_sumsOfWidths := C
  obtain ⟨yy, yc, yg, yp, yo, ypr, yra, yre, yrw, ytr, ytw, yC, yG, yP, yO, yR, yn1, yn2, yn3, yn4⟩ := Y
  refine w_iconst (v := 1) C dX7_sumsOfWidths_0 (by rfl) ?_
  refine w_istore_2 C dX7_sumsOfWidths_1 (by first | trivial | rfl) ?_
  first | refine w_aload_n C dX7_sumsOfWidths_2 (by rfl) ?_ | refine w_aload_nN C dX7_sumsOfWidths_2 (by rfl) ?_
  refine gf_X7_23 C yy dX7_sumsOfWidths_3 ?_
  first | refine w_astore_3 C dX7_sumsOfWidths_6 (by first | trivial | rfl) ?_ | refine w_astore_3N C dX7_sumsOfWidths_6 (by first | trivial | rfl) ?_
  first | refine w_aload_n C dX7_sumsOfWidths_7 (by rfl) ?_ | refine w_aload_nN C dX7_sumsOfWidths_7 (by rfl) ?_
  refine w_alen C 6 yp (by rfl) dX7_sumsOfWidths_8 ?_
  refine w_istore_4 C dX7_sumsOfWidths_9 (by first | trivial | rfl) ?_
  refine w_iconst (v := 0) C dX7_sumsOfWidths_11 (by rfl) ?_
  refine w_istore_5 C dX7_sumsOfWidths_12 (by first | trivial | rfl) ?_
  refine lp_X7_sumsOfWidths C hl yp yP ?_ 0 (by decide)
  refine w_iload_n C dX7_sumsOfWidths_72 (by rfl) ?_
  refine w_iret C M dX7_sumsOfWidths_73 ⟨by decide, by decide⟩ ⟨_, rfl, ?_⟩
  exact ⟨rfl, rfl⟩
