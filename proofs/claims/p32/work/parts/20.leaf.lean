set_option maxHeartbeats 4000000 in
set_option maxRecDepth 100000 in
theorem m_X7_isWithin {l : Launch} {D : va_G} {tc : Nat → ClassId} (hl : l.stackTraces = false) {h : HM} (a b c : Int32) :
    CT l D tc yX7_isWithin cX7_isWithin 3 (some FieldType.boolean) rm_X7_isWithin [.int a, .int b, .int c] h (rI (fun z h' => h' = h ∧ z = bI (b ≤ a ∧ a ≤ c))) := by
  refine CT.start [some (.int a), some (.int b), some (.int c)] (by decide) hl rfl rfl (fun K C M => ?_)
  obtain ⟨rfl, rfl, rfl, -⟩ := id M
  have C : CX K RX7 cX7_isWithin 3 rm_X7_isWithin := C
  refine w_iload_n C dX7_isWithin_0 (by rfl) ?_
  refine w_iload_n C dX7_isWithin_1 (by rfl) ?_
  refine w_icmp_lt (tgt := 14) C dX7_isWithin_2 (by rfl) (fun c_2 => ?_) (fun c_2 => ?_)
  · refine w_iconst (v := 0) C dX7_isWithin_14 (by rfl) ?_
    refine w_zret C M dX7_isWithin_15 ⟨by decide, by decide⟩ (by rfl) ⟨_, rfl, ?_⟩
    refine ⟨rfl, ?_⟩
    first | exact bI_t (by simp only [Int32.le_iff_toInt_le, Int32.lt_iff_toInt_lt] at *; omega) | exact bI_f (by simp only [Int32.le_iff_toInt_le, Int32.lt_iff_toInt_lt] at *; omega)
  · refine w_iload_n C dX7_isWithin_5 (by rfl) ?_
    refine w_iload_n C dX7_isWithin_6 (by rfl) ?_
    refine w_icmp_gt (tgt := 14) C dX7_isWithin_7 (by rfl) (fun c_7 => ?_) (fun c_7 => ?_)
    · refine w_iconst (v := 0) C dX7_isWithin_14 (by rfl) ?_
      refine w_zret C M dX7_isWithin_15 ⟨by decide, by decide⟩ (by rfl) ⟨_, rfl, ?_⟩
      refine ⟨rfl, ?_⟩
      first | exact bI_t (by simp only [Int32.le_iff_toInt_le, Int32.lt_iff_toInt_lt] at *; omega) | exact bI_f (by simp only [Int32.le_iff_toInt_le, Int32.lt_iff_toInt_lt] at *; omega)
    · refine w_iconst (v := 1) C dX7_isWithin_10 (by rfl) ?_
      refine w_goto (tgt := 15) C dX7_isWithin_11 (by rfl) ?_
      refine w_zret C M dX7_isWithin_15 ⟨by decide, by decide⟩ (by rfl) ⟨_, rfl, ?_⟩
      refine ⟨rfl, ?_⟩
      first | exact bI_t (by simp only [Int32.le_iff_toInt_le, Int32.lt_iff_toInt_lt] at *; omega) | exact bI_f (by simp only [Int32.le_iff_toInt_le, Int32.lt_iff_toInt_lt] at *; omega)

set_option maxHeartbeats 4000000 in
set_option maxRecDepth 100000 in
theorem m_X7_isPart {l : Launch} {D : va_G} {tc : Nat → ClassId} (hl : l.stackTraces = false) {h : HM} (a : Int32) :
    CT l D tc yX7_isPart cX7_isPart 1 (some FieldType.boolean) rm_X7_isPart [.int a] h (rI (fun z h' => h' = h ∧ z = bI (0 ≤ a ∧ a ≤ 60))) := by
  refine CT.start [some (.int a)] (by decide) hl rfl rfl (fun K C M => ?_)
  obtain ⟨rfl, rfl, rfl, -⟩ := id M
  have C : CX K RX7 cX7_isPart 1 rm_X7_isPart := C
  refine w_iload_n C dX7_isPart_0 (by rfl) ?_
  refine w_iconst (v := 0) C dX7_isPart_1 (by rfl) ?_
  refine w_bipush (v := (60)) C dX7_isPart_2 (by rfl) ?_
  refine cl_X7_74 C (m_X7_isWithin hl a 0 60) (by rfl) (by rfl) ⟨by decide, by decide⟩ (by rfl) dX7_isPart_4 (fun z1 h1 p1 => ?_)
  obtain ⟨rfl, rfl⟩ := p1
  refine w_zret C M dX7_isPart_7 ⟨by decide, by decide⟩ (nar01 (bI_01 _)) ⟨_, rfl, ?_⟩
  exact ⟨rfl, rfl⟩

set_option maxHeartbeats 4000000 in
set_option maxRecDepth 100000 in
theorem m_X7_heightOf {l : Launch} {D : va_G} {tc : Nat → ClassId} (hl : l.stackTraces = false) {h : HM} (a : Int32) :
    CT l D tc yX7_heightOf cX7_heightOf 1 (some FieldType.int) rm_X7_heightOf [.int a] h (rI (fun z h' => h' = h ∧ z = if a = 2 then 2 else 3)) := by
  refine CT.start [some (.int a)] (by decide) hl rfl rfl (fun K C M => ?_)
  obtain ⟨rfl, rfl, rfl, -⟩ := id M
  have C : CX K RX7 cX7_heightOf 1 rm_X7_heightOf := C
  refine w_iload_n C dX7_heightOf_0 (by rfl) ?_
  refine w_iconst (v := 2) C dX7_heightOf_1 (by rfl) ?_
  refine w_icmp_ne (tgt := 9) C dX7_heightOf_2 (by rfl) (fun c_2 => ?_) (fun c_2 => ?_)
  · refine w_iconst (v := 3) C dX7_heightOf_9 (by rfl) ?_
    refine w_iret C M dX7_heightOf_10 ⟨by decide, by decide⟩ ⟨_, rfl, ?_⟩
    exact ⟨rfl, by simp [*]⟩
  · refine w_iconst (v := 2) C dX7_heightOf_5 (by rfl) ?_
    refine w_goto (tgt := 10) C dX7_heightOf_6 (by rfl) ?_
    refine w_iret C M dX7_heightOf_10 ⟨by decide, by decide⟩ ⟨_, rfl, ?_⟩
    exact ⟨rfl, by simp [*]⟩

set_option maxHeartbeats 4000000 in
set_option maxRecDepth 100000 in
theorem m_X7_cellsFrom {l : Launch} {D : va_G} {tc : Nat → ClassId} (hl : l.stackTraces = false) {h : HM} (a b : Int32) :
    CT l D tc yX7_cellsFrom cX7_cellsFrom 2 (some FieldType.int) rm_X7_cellsFrom [.int a, .int b] h (rI (fun z h' => h' = h ∧ z = (((1 : Int32) <<< (b &&& 31)) - 1) <<< (a &&& 31))) := by
  refine CT.start [some (.int a), some (.int b)] (by decide) hl rfl rfl (fun K C M => ?_)
  obtain ⟨rfl, rfl, rfl, -⟩ := id M
  have C : CX K RX7 cX7_cellsFrom 2 rm_X7_cellsFrom := C
  refine w_iconst (v := 1) C dX7_cellsFrom_0 (by rfl) ?_
  refine w_iload_n C dX7_cellsFrom_1 (by rfl) ?_
  refine w_ishl C dX7_cellsFrom_2 ?_
  refine w_iconst (v := 1) C dX7_cellsFrom_3 (by rfl) ?_
  refine w_isub C dX7_cellsFrom_4 ?_
  refine w_iload_n C dX7_cellsFrom_5 (by rfl) ?_
  refine w_ishl C dX7_cellsFrom_6 ?_
  refine w_iret C M dX7_cellsFrom_7 ⟨by decide, by decide⟩ ⟨_, rfl, ?_⟩
  exact ⟨rfl, rfl⟩

set_option maxHeartbeats 4000000 in
set_option maxRecDepth 100000 in
theorem m_X6_init {l : Launch} {D : va_G} {tc : Nat → ClassId} (hl : l.stackTraces = false) {h : HM} {a : Nat} {v0 v1 v2 : Value} (r t o : Int32) (hf : h a = some (.inr (5, [v0, v1, v2]))) :
    CT l D tc yX6_init cX6_init 4 none rm_X6_init [.ref a, .int r, .int t, .int o] h (rV (fun h' => Up h a (rCell (r, t, o)) h')) := by
  refine CT.start [some (.ref a), some (.int r), some (.int t), some (.int o)] (by decide) hl rfl rfl (fun K C M => ?_)
  obtain ⟨rfl, rfl, rfl, -⟩ := id M
  have C : CX K RX6 cX6_init 4 rm_X6_init := C
  first | refine w_aload_n C dX6_init_0 (by rfl) ?_ | refine w_aload_nN C dX6_init_0 (by rfl) ?_
  refine w_obji C gw_449 gw_44 gw_45 (by rfl) (by rfl) (by rfl) dX6_init_1 ?_
  first | refine w_aload_n C dX6_init_4 (by rfl) ?_ | refine w_aload_nN C dX6_init_4 (by rfl) ?_
  refine w_iload_n C dX6_init_5 (by rfl) ?_
  refine pf_X6_7 C hf dX6_init_6 M.2.2.2.2.2.2.1 (fun h1 u1 => ?_)
  have hf := u1.self
  first | refine w_aload_n C dX6_init_9 (by rfl) ?_ | refine w_aload_nN C dX6_init_9 (by rfl) ?_
  refine w_iload_n C dX6_init_10 (by rfl) ?_
  refine pf_X6_13 C hf dX6_init_11 M.2.2.2.2.2.2.1 (fun h2 u2 => ?_)
  have hf := u2.self
  first | refine w_aload_n C dX6_init_14 (by rfl) ?_ | refine w_aload_nN C dX6_init_14 (by rfl) ?_
  refine w_iload_n C dX6_init_15 (by rfl) ?_
  refine pf_X6_16 C hf dX6_init_16 M.2.2.2.2.2.2.1 (fun h3 u3 => ?_)
  have hf := u3.self
  refine w_vret C M dX6_init_19 ⟨by decide, by decide⟩ ⟨rfl, ?_⟩
  exact (u1.tr u2).tr u3

-- none in p32: X3_init

set_option maxHeartbeats 4000000 in
set_option maxRecDepth 100000 in
theorem m_X0_init {l : Launch} {D : va_G} {tc : Nat → ClassId} (hl : l.stackTraces = false) {h : HM} {a : Nat} {v0 v1 : Value} (t q : Int32) (hf : h a = some (.inr (0, [v0, v1]))) :
    CT l D tc yX0_init cX0_init 3 none rm_X0_init [.ref a, .int t, .int q] h (rV (fun h' => Up h a (.inr (0, [.int t, .double (FP.ddiv (FP.i2d q) 4616189618054758400)])) h')) := by
  refine CT.start [some (.ref a), some (.int t), some (.int q)] (by decide) hl rfl rfl (fun K C M => ?_)
  obtain ⟨rfl, rfl, rfl, -⟩ := id M
  have C : CX K RX0 cX0_init 3 rm_X0_init := C
  first | refine w_aload_n C dX0_init_0 (by rfl) ?_ | refine w_aload_nN C dX0_init_0 (by rfl) ?_
  refine w_obji C gw_269 gw_44 gw_45 (by rfl) (by rfl) (by rfl) dX0_init_1 ?_
  first | refine w_aload_n C dX0_init_4 (by rfl) ?_ | refine w_aload_nN C dX0_init_4 (by rfl) ?_
  refine w_iload_n C dX0_init_5 (by rfl) ?_
  refine pf_X0_7 C hf dX0_init_6 M.2.2.2.2.2.2.1 (fun h1 u1 => ?_)
  have hf := u1.self
  first | refine w_aload_n C dX0_init_9 (by rfl) ?_ | refine w_aload_nN C dX0_init_9 (by rfl) ?_
  refine w_iload_n C dX0_init_10 (by rfl) ?_
  refine w_i2d C dX0_init_11 ?_
  refine lc_X0_13 C dX0_init_12 ?_
  refine w_ddiv C dX0_init_15 (nn_of (ddiv_n (df_i2d q).n (pw_df pw4) (pw_nz pw4))) ?_
  refine pf_X0_15 C hf dX0_init_16 M.2.2.2.2.2.2.1 (fun h2 u2 => ?_)
  have hf := u2.self
  refine w_vret C M dX0_init_19 ⟨by decide, by decide⟩ ⟨rfl, ?_⟩
  exact u1.tr u2

set_option maxHeartbeats 4000000 in
set_option maxRecDepth 100000 in
theorem m_X5_rampAt {l : Launch} {D : va_G} {tc : Nat → ClassId} (hl : l.stackTraces = false) {h : HM} {a ra nr : Nat} {f : Nat → Option Nat} (i : Int32) (hf : h a = some (pCell ra nr)) (hA : h ra = some (qCell (tc 7) 5 f)) (hn : nr ≤ 5) :
    CT l D tc yX5_rampAt cX5_rampAt 2 (some (FieldType.object "KilnYard$Ramp")) rm_X5_rampAt [.ref a, .int i] h (rR (fun z h' => h' = h ∧ z = va_rf (if 0 ≤ i.toInt ∧ i.toInt < nr then f i.toNatClampNeg else none))) := by
  refine CT.start [some (.ref a), some (.int i)] (by decide) hl rfl rfl (fun K C M => ?_)
  obtain ⟨rfl, rfl, rfl, -⟩ := id M
  have C : CX K RX5 cX5_rampAt 2 rm_X5_rampAt := C
  refine w_iload_n C dX5_rampAt_0 (by rfl) ?_
  refine w_if_lt (tgt := 30) C dX5_rampAt_1 (by rfl) (fun c_1 => ?_) (fun c_1 => ?_)
  · try simp only [cg_ge, cg_gt, cl_gt, cl_le, cl_eq, cl_lt, cl_ge, bi_eq0, bi_ne0, bI_eq0, Decidable.not_not, Bool.not_eq_false] at c_1
    refine w_null C dX5_rampAt_30 ?_
    refine w_aret C M dX5_rampAt_31 ⟨by decide, by decide⟩ (Or.inl ⟨_, rfl⟩) (by first | exact va_rf_or _ | exact Or.inl rfl) ⟨_, rfl, ?_⟩
    refine ⟨rfl, ?_⟩
    simp only [Int32.le_iff_toInt_le, Int32.lt_iff_toInt_lt, nI_toInt (show nr < 2 ^ 31 by omega), nI_toInt (show 5 < 2 ^ 31 by omega), show (0 : Int32).toInt = 0 from rfl] at *
    first | (exfalso; omega) | rw [if_pos (by omega)] | (rw [if_neg (by omega)]; rfl)
  · try simp only [cg_ge, cg_gt, cl_gt, cl_le, cl_eq, cl_lt, cl_ge, bi_eq0, bi_ne0, bI_eq0, Decidable.not_not, Bool.not_eq_false] at c_1
    refine w_iload_n C dX5_rampAt_4 (by rfl) ?_
    first | refine w_aload_n C dX5_rampAt_5 (by rfl) ?_ | refine w_aload_nN C dX5_rampAt_5 (by rfl) ?_
    refine gf_X5_17 C hf dX5_rampAt_6 ?_
    refine w_icmp_ge (tgt := 30) C dX5_rampAt_9 (by rfl) (fun c_9 => ?_) (fun c_9 => ?_)
    · refine w_null C dX5_rampAt_30 ?_
      refine w_aret C M dX5_rampAt_31 ⟨by decide, by decide⟩ (Or.inl ⟨_, rfl⟩) (by first | exact va_rf_or _ | exact Or.inl rfl) ⟨_, rfl, ?_⟩
      refine ⟨rfl, ?_⟩
      simp only [Int32.le_iff_toInt_le, Int32.lt_iff_toInt_lt, nI_toInt (show nr < 2 ^ 31 by omega), nI_toInt (show 5 < 2 ^ 31 by omega), show (0 : Int32).toInt = 0 from rfl] at *
      first | (exfalso; omega) | rw [if_pos (by omega)] | (rw [if_neg (by omega)]; rfl)
    · refine w_iload_n C dX5_rampAt_12 (by rfl) ?_
      first | refine w_aload_n C dX5_rampAt_13 (by rfl) ?_ | refine w_aload_nN C dX5_rampAt_13 (by rfl) ?_
      refine gf_X5_11 C hf dX5_rampAt_14 ?_
      refine w_alen C 7 hA (by rfl) dX5_rampAt_17 ?_
      refine w_icmp_ge (tgt := 30) C dX5_rampAt_18 (by rfl) (fun c_18 => ?_) (fun c_18 => ?_)
      · refine w_null C dX5_rampAt_30 ?_
        refine w_aret C M dX5_rampAt_31 ⟨by decide, by decide⟩ (Or.inl ⟨_, rfl⟩) (by first | exact va_rf_or _ | exact Or.inl rfl) ⟨_, rfl, ?_⟩
        refine ⟨rfl, ?_⟩
        simp only [Int32.le_iff_toInt_le, Int32.lt_iff_toInt_lt, nI_toInt (show nr < 2 ^ 31 by omega), nI_toInt (show 5 < 2 ^ 31 by omega), show (0 : Int32).toInt = 0 from rfl] at *
        first | (exfalso; omega) | rw [if_pos (by omega)] | (rw [if_neg (by omega)]; rfl)
      · first | refine w_aload_n C dX5_rampAt_21 (by rfl) ?_ | refine w_aload_nN C dX5_rampAt_21 (by rfl) ?_
        refine gf_X5_11 C hf dX5_rampAt_22 ?_
        refine w_iload_n C dX5_rampAt_25 (by rfl) ?_
        refine w_aald C 7 hA (by rfl) (by simp only [Int32.le_iff_toInt_le, Int32.lt_iff_toInt_lt, nI_toInt (show nr < 2 ^ 31 by omega)] at *; exact vp_in_iff.mpr (by have := nI_toInt (show 5 < 2 ^ 31 by omega); have h0 : (0 : Int32).toInt = 0 := rfl; omega)) dX5_rampAt_26 ?_
        refine w_goto (tgt := 31) C dX5_rampAt_27 (by rfl) ?_
        refine w_aret C M dX5_rampAt_31 ⟨by decide, by decide⟩ (Or.inl ⟨_, rfl⟩) (by first | exact va_rf_or _ | exact Or.inl rfl) ⟨_, rfl, ?_⟩
        refine ⟨rfl, ?_⟩
        simp only [Int32.le_iff_toInt_le, Int32.lt_iff_toInt_lt, nI_toInt (show nr < 2 ^ 31 by omega), nI_toInt (show 5 < 2 ^ 31 by omega), show (0 : Int32).toInt = 0 from rfl] at *
        first | (exfalso; omega) | rw [if_pos (by omega)] | (rw [if_neg (by omega)]; rfl)
