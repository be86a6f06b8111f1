theorem fuel_lo {c : Int32} (h : c - c / 96 * 96 < 32) : sp_fuel c = 1 := if_neg (fun q => absurd h (Int32.not_lt.mpr q.1))
theorem fuel_hi {c : Int32} (h : 79 < c - c / 96 * 96) : sp_fuel c = 1 := if_neg (fun q => absurd h (Int32.not_lt.mpr q.2))
theorem fuel_mid {c : Int32} (h : ¬ c - c / 96 * 96 < 32) (h2 : ¬ 79 < c - c / 96 * 96) : sp_fuel c = 2 := if_pos ⟨Int32.not_lt.mp h, Int32.not_lt.mp h2⟩

set_option maxHeartbeats 4000000 in
set_option maxRecDepth 100000 in
theorem m_X2_hotAt {l : Launch} {D : va_G} {tc : Nat → ClassId} (hl : l.stackTraces = false) {h : HM} {s : Nat} {x : UInt64} (hs : s < 3) (hx : Ht x) :
    CT l D tc yX2_hotAt cX2_hotAt 3 (some FieldType.double) rm_X2_hotAt [.int (nI s), .double x] h (rD (fun z h' => h' = h ∧ z = sp_hot s x)) := by
  refine CT.start [some (.int (nI s)), some (.double x), none] (by decide) hl rfl rfl (fun K C M => ?_)
  obtain ⟨rfl, rfl, rfl, -⟩ := id M
  have C : CX K RX2 cX2_hotAt 3 rm_X2_hotAt := C
  refine w_iload_n C dX2_hotAt_0 (by rfl) ?_
  refine w_if_ne (tgt := 10) C dX2_hotAt_1 (by rfl) (fun c_1 => ?_) (fun c_1 => ?_)
  · try simp only [cg_ge, cg_gt, cl_gt, cl_le, cl_eq, cl_lt, cl_ge, bi_eq0, bi_ne0, bI_eq0, Decidable.not_not, Bool.not_eq_false] at c_1
    refine w_iload_n C dX2_hotAt_10 (by rfl) ?_
    refine w_iconst (v := 1) C dX2_hotAt_11 (by rfl) ?_
    refine w_icmp_ne (tgt := 19) C dX2_hotAt_12 (by rfl) (fun c_12 => ?_) (fun c_12 => ?_)
    · refine w_dload_n C dX2_hotAt_19 (by rfl) ?_
      refine lc_X2_64 C dX2_hotAt_20 ?_
      refine w_dadd C dX2_hotAt_23 (nn_of (dadd_n hx.1 (df_whole w8))) ?_
      refine w_dret C M dX2_hotAt_24 ⟨by decide, by decide⟩ ⟨_, rfl, ?_⟩
      simp only [nI_is0 (show s < 2 ^ 31 by omega), nI_is1 (show s < 2 ^ 31 by omega), Decidable.not_not] at c_1 c_12
      exact ⟨rfl, by simp [sp_hot, *]⟩
    · refine w_dload_n C dX2_hotAt_15 (by rfl) ?_
      refine w_goto (tgt := 24) C dX2_hotAt_16 (by rfl) ?_
      refine w_dret C M dX2_hotAt_24 ⟨by decide, by decide⟩ ⟨_, rfl, ?_⟩
      simp only [nI_is0 (show s < 2 ^ 31 by omega), nI_is1 (show s < 2 ^ 31 by omega), Decidable.not_not] at c_1 c_12
      exact ⟨rfl, by simp [sp_hot, *]⟩
  · try simp only [cg_ge, cg_gt, cl_gt, cl_le, cl_eq, cl_lt, cl_ge, bi_eq0, bi_ne0, bI_eq0, Decidable.not_not, Bool.not_eq_false] at c_1
    refine w_dload_n C dX2_hotAt_4 (by rfl) ?_
    refine lc_X2_62 C dX2_hotAt_5 ?_
    refine w_dsub C dX2_hotAt_8 (nn_of (dsub_n hx.1 (df_whole w12))) ?_
    refine w_dret C M dX2_hotAt_9 ⟨by decide, by decide⟩ ⟨_, rfl, ?_⟩
    simp only [nI_is0 (show s < 2 ^ 31 by omega), nI_is1 (show s < 2 ^ 31 by omega), Decidable.not_not] at c_1
    exact ⟨rfl, by simp [sp_hot, *]⟩

set_option maxHeartbeats 4000000 in
set_option maxRecDepth 100000 in
theorem m_X2_isInReach {l : Launch} {D : va_G} {tc : Nat → ClassId} (hl : l.stackTraces = false) {h : HM} {a pr wk : Nat} {hb : UInt64} {dmp : Int32} {k : KT} (hf : h a = some (kCell pr wk hb dmp k)) :
    CT l D tc yX2_isInReach cX2_isInReach 1 (some FieldType.boolean) rm_X2_isInReach [.ref a] h (rI (fun z h' => h' = h ∧ z = bI (kL k = false ∧ dlt (kH k) 4636737291354636288))) := by
  refine CT.start [some (.ref a)] (by decide) hl rfl rfl (fun K C M => ?_)
  obtain ⟨rfl, rfl, rfl, -⟩ := id M
  have C : CX K RX2 cX2_isInReach 1 rm_X2_isInReach := C
  first | refine w_aload_n C dX2_isInReach_0 (by rfl) ?_ | refine w_aload_nN C dX2_isInReach_0 (by rfl) ?_
  refine gf_X2_32 C hf dX2_isInReach_1 ?_
  refine w_if_ne (tgt := 22) C dX2_isInReach_4 (by rfl) (fun c_4 => ?_) (fun c_4 => ?_)
  · try simp only [cg_ge, cg_gt, cl_gt, cl_le, cl_eq, cl_lt, cl_ge, bi_eq0, bi_ne0, bI_eq0, Decidable.not_not, Bool.not_eq_false] at c_4
    refine w_iconst (v := 0) C dX2_isInReach_22 (by rfl) ?_
    refine w_zret C M dX2_isInReach_23 ⟨by decide, by decide⟩ (by rfl) ⟨_, rfl, ?_⟩
    try simp only [cg_ge, cg_gt, cl_gt, cl_le, cl_eq, cl_lt, cl_ge, bi_eq0, bi_ne0, Decidable.not_not, Bool.not_eq_false] at c_4
    exact ⟨rfl, by simp [bI, *]⟩
  · try simp only [cg_ge, cg_gt, cl_gt, cl_le, cl_eq, cl_lt, cl_ge, bi_eq0, bi_ne0, bI_eq0, Decidable.not_not, Bool.not_eq_false] at c_4
    first | refine w_aload_n C dX2_isInReach_7 (by rfl) ?_ | refine w_aload_nN C dX2_isInReach_7 (by rfl) ?_
    refine gf_X2_11 C hf dX2_isInReach_8 ?_
    refine lc_X2_66 C dX2_isInReach_11 ?_
    refine w_dcmp C dX2_isInReach_14 ?_
    refine w_if_ge (tgt := 22) C dX2_isInReach_15 (by rfl) (fun c_15 => ?_) (fun c_15 => ?_)
    · try simp only [cg_ge, cg_gt, cl_gt, cl_le, cl_eq, cl_lt, cl_ge, bi_eq0, bi_ne0, bI_eq0, Decidable.not_not, Bool.not_eq_false] at c_15
      refine w_iconst (v := 0) C dX2_isInReach_22 (by rfl) ?_
      refine w_zret C M dX2_isInReach_23 ⟨by decide, by decide⟩ (by rfl) ⟨_, rfl, ?_⟩
      try simp only [cg_ge, cg_gt, cl_gt, cl_le, cl_eq, cl_lt, cl_ge, bi_eq0, bi_ne0, Decidable.not_not, Bool.not_eq_false] at c_4 c_15
      exact ⟨rfl, by simp [bI, *]⟩
    · try simp only [cg_ge, cg_gt, cl_gt, cl_le, cl_eq, cl_lt, cl_ge, bi_eq0, bi_ne0, bI_eq0, Decidable.not_not, Bool.not_eq_false] at c_15
      refine w_iconst (v := 1) C dX2_isInReach_18 (by rfl) ?_
      refine w_goto (tgt := 23) C dX2_isInReach_19 (by rfl) ?_
      refine w_zret C M dX2_isInReach_23 ⟨by decide, by decide⟩ (by rfl) ⟨_, rfl, ?_⟩
      try simp only [cg_ge, cg_gt, cl_gt, cl_le, cl_eq, cl_lt, cl_ge, bi_eq0, bi_ne0, Decidable.not_not, Bool.not_eq_false] at c_4 c_15
      exact ⟨rfl, by simp [bI, *]⟩

set_option maxHeartbeats 4000000 in
set_option maxRecDepth 100000 in
theorem m_X2_gives {l : Launch} {D : va_G} {tc : Nat → ClassId} (hl : l.stackTraces = false) {h : HM} {a pr wk : Nat} {hb : UInt64} {dmp : Int32} {k : KT} (hf : h a = some (kCell pr wk hb dmp k)) (hH : Ht (kH k)) (hP : FP.Core.FFin (kP k)) :
    CT l D tc yX2_gives cX2_gives 3 (some FieldType.double) rm_X2_gives [.ref a] h (rD (fun z h' => h' = h ∧ z = sp_gives (kH k) (kP k) (kO k))) := by
  refine CT.start [some (.ref a), none, none] (by decide) hl rfl rfl (fun K C M => ?_)
  obtain ⟨rfl, rfl, rfl, -⟩ := id M
  have C : CX K RX2 cX2_gives 3 rm_X2_gives := C
  first | refine w_aload_n C dX2_gives_0 (by rfl) ?_ | refine w_aload_nN C dX2_gives_0 (by rfl) ?_
  refine gf_X2_20 C hf dX2_gives_1 ?_
  refine w_f2d C dX2_gives_4 (nn_of (dfin_f2d hP).n) ?_
  refine lc_X2_68 C dX2_gives_5 ?_
  refine w_dmul C dX2_gives_8 (nn_of (gives_n hH hP).1) ?_
  first | refine w_aload_n C dX2_gives_9 (by rfl) ?_ | refine w_aload_nN C dX2_gives_9 (by rfl) ?_
  refine gf_X2_11 C hf dX2_gives_10 ?_
  refine lc_X2_9 C dX2_gives_13 ?_
  refine w_dsub C dX2_gives_16 (nn_of hH.sub20.1.n) ?_
  refine lc_X2_70 C dX2_gives_17 ?_
  refine w_ddiv C dX2_gives_20 (nn_of hH.part16.n) ?_
  refine w_dsub C dX2_gives_21 (nn_of (gives_n hH hP).2.1) ?_
  refine w_dstore_1 C dX2_gives_22 (by first | trivial | rfl) ?_
  first | refine w_aload_n C dX2_gives_23 (by rfl) ?_ | refine w_aload_nN C dX2_gives_23 (by rfl) ?_
  refine gf_X2_28 C hf dX2_gives_24 ?_
  refine w_if_eq (tgt := 38) C dX2_gives_27 (by rfl) (fun c_27 => ?_) (fun c_27 => ?_)
  · try simp only [cg_ge, cg_gt, cl_gt, cl_le, cl_eq, cl_lt, cl_ge, bi_eq0, bi_ne0, bI_eq0, Decidable.not_not, Bool.not_eq_false] at c_27
    refine w_dload_n C dX2_gives_38 (by rfl) ?_
    refine w_dret C M dX2_gives_39 ⟨by decide, by decide⟩ ⟨_, rfl, ?_⟩
    try simp only [cg_ge, cg_gt, cl_gt, cl_le, cl_eq, cl_lt, cl_ge, bi_eq0, bi_ne0, Decidable.not_not, Bool.not_eq_false] at c_27
    exact ⟨rfl, by simp [sp_gives, *]⟩
  · try simp only [cg_ge, cg_gt, cl_gt, cl_le, cl_eq, cl_lt, cl_ge, bi_eq0, bi_ne0, bI_eq0, Decidable.not_not, Bool.not_eq_false] at c_27
    refine w_dload_n C dX2_gives_30 (by rfl) ?_
    refine lc_X2_72 C dX2_gives_31 ?_
    refine w_dsub C dX2_gives_34 (nn_of (dsub_n (gives_n hH hP).2.1 (df_whole w50))) ?_
    refine w_goto (tgt := 39) C dX2_gives_35 (by rfl) ?_
    refine w_dret C M dX2_gives_39 ⟨by decide, by decide⟩ ⟨_, rfl, ?_⟩
    try simp only [cg_ge, cg_gt, cl_gt, cl_le, cl_eq, cl_lt, cl_ge, bi_eq0, bi_ne0, Decidable.not_not, Bool.not_eq_false] at c_27
    exact ⟨rfl, by simp [sp_gives, *]⟩

set_option maxHeartbeats 4000000 in
set_option maxRecDepth 100000 in
theorem m_X2_workOf {l : Launch} {D : va_G} {tc : Nat → ClassId} (hl : l.stackTraces = false) {h : HM} {a pr wk : Nat} {hb : UInt64} {dmp : Int32} {k : KT} (hf : h a = some (kCell pr wk hb dmp k)) (hw : h wk = some (wCell tc (kW k))) {s : Nat} (hs : s < 3) :
    CT l D tc yX2_workOf cX2_workOf 2 (some FieldType.double) rm_X2_workOf [.ref a, .int (nI s)] h (rD (fun z h' => h' = h ∧ z = kW k s)) := by
  refine CT.start [some (.ref a), some (.int (nI s))] (by decide) hl rfl rfl (fun K C M => ?_)
  obtain ⟨rfl, rfl, rfl, -⟩ := id M
  have C : CX K RX2 cX2_workOf 2 rm_X2_workOf := C
  refine w_iload_n C dX2_workOf_0 (by rfl) ?_
  refine w_if_lt (tgt := 22) C dX2_workOf_1 (by rfl) (fun c_1 => ?_) (fun c_1 => ?_)
  · exact absurd c_1 (nI_pos (by omega))
  · try simp only [cg_ge, cg_gt, cl_gt, cl_le, cl_eq, cl_lt, cl_ge, bi_eq0, bi_ne0, bI_eq0, Decidable.not_not, Bool.not_eq_false] at c_1
    refine w_iload_n C dX2_workOf_4 (by rfl) ?_
    first | refine w_aload_n C dX2_workOf_5 (by rfl) ?_ | refine w_aload_nN C dX2_workOf_5 (by rfl) ?_
    refine gf_X2_50 C hf dX2_workOf_6 ?_
    refine w_alen C 2 hw (by rfl) dX2_workOf_9 ?_
    refine w_icmp_ge (tgt := 22) C dX2_workOf_10 (by rfl) (fun c_10 => ?_) (fun c_10 => ?_)
    · exact absurd c_10 (nI_ge hs (show 3 < 2 ^ 31 by decide))
    · first | refine w_aload_n C dX2_workOf_13 (by rfl) ?_ | refine w_aload_nN C dX2_workOf_13 (by rfl) ?_
      refine gf_X2_50 C hf dX2_workOf_14 ?_
      refine w_iload_n C dX2_workOf_17 (by rfl) ?_
      refine w_daldn C hw hs (by decide) dX2_workOf_18 ?_
      refine w_goto (tgt := 23) C dX2_workOf_19 (by rfl) ?_
      refine w_dret C M dX2_workOf_23 ⟨by decide, by decide⟩ ⟨_, rfl, ?_⟩
      exact ⟨rfl, rfl⟩

set_option maxHeartbeats 4000000 in
set_option maxRecDepth 100000 in
theorem m_X2_kindle {l : Launch} {D : va_G} {tc : Nat → ClassId} (hl : l.stackTraces = false) {h : HM} {a pr wk : Nat} {hb : UInt64} {dmp : Int32} {k : KT} (hf : h a = some (kCell pr wk hb dmp k)) :
    CT l D tc yX2_kindle cX2_kindle 1 none rm_X2_kindle [.ref a] h (rV (fun h' => Up h a (kCell pr wk hb dmp (kH k, kP k, kO k, true, 0, 0, kC k, kF k, kS k, kW k)) h')) := by
  refine CT.start [some (.ref a)] (by decide) hl rfl rfl (fun K C M => ?_)
  obtain ⟨rfl, rfl, rfl, -⟩ := id M
  have C : CX K RX2 cX2_kindle 1 rm_X2_kindle := C
  first | refine w_aload_n C dX2_kindle_0 (by rfl) ?_ | refine w_aload_nN C dX2_kindle_0 (by rfl) ?_
  refine w_iconst (v := 1) C dX2_kindle_1 (by rfl) ?_
  refine pf_X2_32 C hf (by first | exact Or.inl rfl | exact Or.inr rfl | assumption | exact bI_01 _ | exact bi_01 _) dX2_kindle_2 (fun h1 u1 => ?_)
  have hf := u1.self
  first | refine w_aload_n C dX2_kindle_5 (by rfl) ?_ | refine w_aload_nN C dX2_kindle_5 (by rfl) ?_
  refine w_iconst (v := 0) C dX2_kindle_6 (by rfl) ?_
  refine pf_X2_35 C hf dX2_kindle_7 (fun h2 u2 => ?_)
  have hf := u2.self
  first | refine w_aload_n C dX2_kindle_10 (by rfl) ?_ | refine w_aload_nN C dX2_kindle_10 (by rfl) ?_
  refine w_iconst (v := 0) C dX2_kindle_11 (by rfl) ?_
  refine pf_X2_38 C hf dX2_kindle_12 (fun h3 u3 => ?_)
  have hf := u3.self
  refine w_vret C M dX2_kindle_15 ⟨by decide, by decide⟩ ⟨rfl, ?_⟩
  exact (u1.tr u2).tr u3

set_option maxHeartbeats 4000000 in
set_option maxRecDepth 100000 in
theorem m_X2_coolDown {l : Launch} {D : va_G} {tc : Nat → ClassId} (hl : l.stackTraces = false) {h : HM} {a pr wk : Nat} {hb : UInt64} {dmp : Int32} {k : KT} (hf : h a = some (kCell pr wk hb dmp k)) (hH : Ht (kH k)) :
    CT l D tc yX2_coolDown cX2_coolDown 1 none rm_X2_coolDown [.ref a] h (rV (fun h' => Up h a (kCell pr wk hb dmp (sp_cool (kH k) (kO k), k.2)) h')) := by
  refine CT.start [some (.ref a)] (by decide) hl rfl rfl (fun K C M => ?_)
  obtain ⟨rfl, rfl, rfl, -⟩ := id M
  have C : CX K RX2 cX2_coolDown 1 rm_X2_coolDown := C
  first | refine w_aload_n C dX2_coolDown_0 (by rfl) ?_ | refine w_aload_nN C dX2_coolDown_0 (by rfl) ?_
  first | refine w_aload_n C dX2_coolDown_1 (by rfl) ?_ | refine w_aload_nN C dX2_coolDown_1 (by rfl) ?_
  refine gf_X2_11 C hf dX2_coolDown_2 ?_
  first | refine w_aload_n C dX2_coolDown_5 (by rfl) ?_ | refine w_aload_nN C dX2_coolDown_5 (by rfl) ?_
  refine gf_X2_11 C hf dX2_coolDown_6 ?_
  refine lc_X2_9 C dX2_coolDown_9 ?_
  refine w_dsub C dX2_coolDown_12 (nn_of hH.sub20.1.n) ?_
  first | refine w_aload_n C dX2_coolDown_13 (by rfl) ?_ | refine w_aload_nN C dX2_coolDown_13 (by rfl) ?_
  refine gf_X2_28 C hf dX2_coolDown_14 ?_
  refine w_if_eq (tgt := 26) C dX2_coolDown_17 (by rfl) (fun c_17 => ?_) (fun c_17 => ?_)
  · try simp only [cg_ge, cg_gt, cl_gt, cl_le, cl_eq, cl_lt, cl_ge, bi_eq0, bi_ne0, bI_eq0, Decidable.not_not, Bool.not_eq_false] at c_17
    refine lc_X2_64 C dX2_coolDown_26 ?_
    refine w_ddiv C dX2_coolDown_29 (nn_of (by first | exact (cool_n hH).2.2.2 | exact (cool_n hH).2.1)) ?_
    refine w_dsub C dX2_coolDown_30 (nn_of (by first | exact (cool_n hH).2.2.1 | exact (cool_n hH).1)) ?_
    refine pf_X2_11 C hf dX2_coolDown_31 (fun h1 u1 => ?_)
    have hf := u1.self
    refine w_vret C M dX2_coolDown_34 ⟨by decide, by decide⟩ ⟨rfl, ?_⟩
    try simp only [cg_ge, cg_gt, cl_gt, cl_le, cl_eq, cl_lt, cl_ge, bi_eq0, bi_ne0, Decidable.not_not, Bool.not_eq_false] at c_17
    exact u1.to (by simp [sp_cool, kO, *])
  · try simp only [cg_ge, cg_gt, cl_gt, cl_le, cl_eq, cl_lt, cl_ge, bi_eq0, bi_ne0, bI_eq0, Decidable.not_not, Bool.not_eq_false] at c_17
    refine lc_X2_124 C dX2_coolDown_20 ?_
    refine w_goto (tgt := 29) C dX2_coolDown_23 (by rfl) ?_
    refine w_ddiv C dX2_coolDown_29 (nn_of (by first | exact (cool_n hH).2.2.2 | exact (cool_n hH).2.1)) ?_
    refine w_dsub C dX2_coolDown_30 (nn_of (by first | exact (cool_n hH).2.2.1 | exact (cool_n hH).1)) ?_
    refine pf_X2_11 C hf dX2_coolDown_31 (fun h2 u2 => ?_)
    have hf := u2.self
    refine w_vret C M dX2_coolDown_34 ⟨by decide, by decide⟩ ⟨rfl, ?_⟩
    try simp only [cg_ge, cg_gt, cl_gt, cl_le, cl_eq, cl_lt, cl_ge, bi_eq0, bi_ne0, Decidable.not_not, Bool.not_eq_false] at c_17
    exact u2.to (by simp [sp_cool, kO, *])

set_option maxHeartbeats 4000000 in
set_option maxRecDepth 100000 in
theorem m_X2_payFuel {l : Launch} {D : va_G} {tc : Nat → ClassId} (hl : l.stackTraces = false) {h : HM} {a pr wk : Nat} {hb : UInt64} {dmp : Int32} {k : KT} (hf : h a = some (kCell pr wk hb dmp k)) :
    CT l D tc yX2_payFuel cX2_payFuel 2 none rm_X2_payFuel [.ref a] h (rV (fun h' => Up h a (kCell pr wk hb dmp (kH k, kP k, kO k, kL k, kA k, kE k, kC k, kF k + sp_fuel (kC k), kS k, kW k)) h')) := by
  refine CT.start [some (.ref a), none] (by decide) hl rfl rfl (fun K C M => ?_)
  obtain ⟨rfl, rfl, rfl, -⟩ := id M
  have C : CX K RX2 cX2_payFuel 2 rm_X2_payFuel := C
  first | refine w_aload_n C dX2_payFuel_0 (by rfl) ?_ | refine w_aload_nN C dX2_payFuel_0 (by rfl) ?_
  refine gf_X2_41 C hf dX2_payFuel_1 ?_
  refine w_bipush (v := (96)) C dX2_payFuel_4 (by rfl) ?_
  refine w_irem C dX2_payFuel_6 (by decide) ?_
  refine w_istore_1 C dX2_payFuel_7 (by first | trivial | rfl) ?_
  first | refine w_aload_n C dX2_payFuel_8 (by rfl) ?_ | refine w_aload_nN C dX2_payFuel_8 (by rfl) ?_
  refine w_dup C dX2_payFuel_9 (by rfl) ?_
  refine gf_X2_44 C hf dX2_payFuel_10 ?_
  refine w_iload_n C dX2_payFuel_13 (by rfl) ?_
  refine w_bipush (v := (32)) C dX2_payFuel_14 (by rfl) ?_
  refine w_icmp_lt (tgt := 29) C dX2_payFuel_16 (by rfl) (fun c_16 => ?_) (fun c_16 => ?_)
  · refine w_iconst (v := 1) C dX2_payFuel_29 (by rfl) ?_
    refine w_iadd C dX2_payFuel_30 ?_
    refine pf_X2_44 C hf dX2_payFuel_31 (fun h1 u1 => ?_)
    have hf := u1.self
    refine w_vret C M dX2_payFuel_34 ⟨by decide, by decide⟩ ⟨rfl, ?_⟩
    first | exact u1.to (by rw [fuel_lo c_16]) | exact u1.to (by rw [fuel_hi c_22]) | exact u1.to (by rw [fuel_mid c_16 c_22])
  · refine w_iload_n C dX2_payFuel_19 (by rfl) ?_
    refine w_bipush (v := (79)) C dX2_payFuel_20 (by rfl) ?_
    refine w_icmp_gt (tgt := 29) C dX2_payFuel_22 (by rfl) (fun c_22 => ?_) (fun c_22 => ?_)
    · refine w_iconst (v := 1) C dX2_payFuel_29 (by rfl) ?_
      refine w_iadd C dX2_payFuel_30 ?_
      refine pf_X2_44 C hf dX2_payFuel_31 (fun h2 u2 => ?_)
      have hf := u2.self
      refine w_vret C M dX2_payFuel_34 ⟨by decide, by decide⟩ ⟨rfl, ?_⟩
      first | exact u2.to (by rw [fuel_lo c_16]) | exact u2.to (by rw [fuel_hi c_22]) | exact u2.to (by rw [fuel_mid c_16 c_22])
    · refine w_iconst (v := 2) C dX2_payFuel_25 (by rfl) ?_
      refine w_goto (tgt := 30) C dX2_payFuel_26 (by rfl) ?_
      refine w_iadd C dX2_payFuel_30 ?_
      refine pf_X2_44 C hf dX2_payFuel_31 (fun h3 u3 => ?_)
      have hf := u3.self
      refine w_vret C M dX2_payFuel_34 ⟨by decide, by decide⟩ ⟨rfl, ?_⟩
      first | exact u3.to (by rw [fuel_lo c_16]) | exact u3.to (by rw [fuel_hi c_22]) | exact u3.to (by rw [fuel_mid c_16 c_22])
