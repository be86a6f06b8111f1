/-! THE REFERENCE: ITS POTS -/
theorem fN_is {r : UInt32} (h : FP.Core.FFin r) : FP.fIsNaN r = false := by
  cases hh : FP.fIsNaN r with
  | false => rfl
  | true => exact absurd ((FP.Core.fIsNaN_iff r).mp hh) h.ne_nan
theorem dNj {r : UInt64} (h : dN r) : FP.dIsNaN r = false := dN_is h
/-- the least of a pot's water and a day's loss -/
theorem min_loss {air : Int32} {q : QT} {n k : Nat} (hn : n ≤ 128) (hk : k ≤ 64) (e1 : qWa q = wt n) (e2 : sp_loss0 air (qWl q) (qCv q) = wt k) : Native.java_lang_Math.nans.pick32 false (qWa q) (wt k) = sp_loss9 air q := by
  rw [e1, pk_fmin hn hk]
  unfold sp_loss9
  rw [e2, e1]

set_option maxHeartbeats 4000000 in
set_option maxRecDepth 100000 in
theorem m_X10_isIn {l : Launch} {D : va_G} {tc : Nat → ClassId} (hl : l.stackTraces = false) {h : HM} {i a b : Int32} :
    CT l D tc yX10_isIn cX10_isIn 3 (some FieldType.boolean) rm_X10_isIn [.int i, .int a, .int b] h (rI (fun z h' => h' = h ∧ z = bI (a ≤ i ∧ i ≤ b))) := by
  refine CT.start [some (.int i), some (.int a), some (.int b)] (by decide) hl rfl rfl (fun K C M => ?_)
  obtain ⟨rfl, rfl, rfl, -⟩ := id M
  have C : CX K RX10 cX10_isIn 3 rm_X10_isIn := C
  refine w_iload_n C dX10_isIn_0 (by rfl) ?_
  refine w_iload_n C dX10_isIn_1 (by rfl) ?_
  refine w_icmp_lt (tgt := 14) C dX10_isIn_2 (by rfl) (fun c_2 => ?_) (fun c_2 => ?_)
  · have c_2 : ¬ a ≤ i := Int32.not_le.mpr c_2
    refine w_iconst (v := 0) C dX10_isIn_14 (by rfl) ?_
    refine w_zret C M dX10_isIn_15 ⟨by decide, by decide⟩ (by rfl) ⟨_, rfl, ?_⟩
    exact ⟨rfl, by simp [bI, c_2]⟩
  · have c_2 : a ≤ i := Int32.not_lt.mp c_2
    refine w_iload_n C dX10_isIn_5 (by rfl) ?_
    refine w_iload_n C dX10_isIn_6 (by rfl) ?_
    refine w_icmp_gt (tgt := 14) C dX10_isIn_7 (by rfl) (fun c_7 => ?_) (fun c_7 => ?_)
    · have c_7 : ¬ i ≤ b := Int32.not_le.mpr c_7
      refine w_iconst (v := 0) C dX10_isIn_14 (by rfl) ?_
      refine w_zret C M dX10_isIn_15 ⟨by decide, by decide⟩ (by rfl) ⟨_, rfl, ?_⟩
      exact ⟨rfl, by simp [bI, c_2, c_7]⟩
    · have c_7 : i ≤ b := Int32.not_lt.mp c_7
      refine w_iconst (v := 1) C dX10_isIn_10 (by rfl) ?_
      refine w_goto (tgt := 15) C dX10_isIn_11 (by rfl) ?_
      refine w_zret C M dX10_isIn_15 ⟨by decide, by decide⟩ (by rfl) ⟨_, rfl, ?_⟩
      exact ⟨rfl, by simp [bI, c_2, c_7]⟩

set_option maxHeartbeats 4000000 in
set_option maxRecDepth 100000 in
theorem m_X10_one {l : Launch} {D : va_G} {tc : Nat → ClassId} (hl : l.stackTraces = false) {h : HM} {x : Int32} :
    CT l D tc yX10_one cX10_one 1 (some FieldType.int) rm_X10_one [.int x] h (rI (fun z h' => h' = h ∧ z = if x = 0 then 0 else 1)) := by
  refine CT.start [some (.int x)] (by decide) hl rfl rfl (fun K C M => ?_)
  obtain ⟨rfl, rfl, rfl, -⟩ := id M
  have C : CX K RX10 cX10_one 1 rm_X10_one := C
  refine w_iload_n C dX10_one_0 (by rfl) ?_
  refine w_if_eq (tgt := 8) C dX10_one_1 (by rfl) (fun c_1 => ?_) (fun c_1 => ?_)
  · try simp only [cg_ge, cg_gt, cl_gt, cl_le, cl_eq, cl_lt, cl_ge, bi_eq0, bi_ne0, bI_eq0, Decidable.not_not, Bool.not_eq_false] at c_1
    refine w_iconst (v := 0) C dX10_one_8 (by rfl) ?_
    refine w_iret C M dX10_one_9 ⟨by decide, by decide⟩ ⟨_, rfl, ?_⟩
    exact ⟨rfl, by simp [*]⟩
  · try simp only [cg_ge, cg_gt, cl_gt, cl_le, cl_eq, cl_lt, cl_ge, bi_eq0, bi_ne0, bI_eq0, Decidable.not_not, Bool.not_eq_false] at c_1
    refine w_iconst (v := 1) C dX10_one_4 (by rfl) ?_
    refine w_goto (tgt := 9) C dX10_one_5 (by rfl) ?_
    refine w_iret C M dX10_one_9 ⟨by decide, by decide⟩ ⟨_, rfl, ?_⟩
    exact ⟨rfl, by simp [*]⟩

set_option maxHeartbeats 4000000 in
set_option maxRecDepth 100000 in
theorem m_X9_init {l : Launch} {D : va_G} {tc : Nat → ClassId} (hl : l.stackTraces = false) {h : HM} {a : Nat} {cl wd hg wl : Int32} (hf : h a = some (.inr (11, [.int 0, .int 0, .int 0, .int 0, .int 0, .int 0, .float 0, .int 0, .int 0, .int 0, .int 0, .int 0]))) :
    CT l D tc yX9_init cX9_init 5 none rm_X9_init [.ref a, .int cl, .int wd, .int hg, .int wl] h (rV (fun h' => Up h a (mPc cl (-1) (wd, hg, wl, 0, 1090519040, false, 0, 0, -1, -1)) h')) := by
  refine CT.start [some (.ref a), some (.int cl), some (.int wd), some (.int hg), some (.int wl)] (by decide) hl rfl rfl (fun K C M => ?_)
  obtain ⟨rfl, rfl, rfl, -⟩ := id M
  have C : CX K RX9 cX9_init 5 rm_X9_init := C
  first | refine w_aload_n C dX9_init_0 (by rfl) ?_ | refine w_aload_nN C dX9_init_0 (by rfl) ?_
  refine w_obji C gw_1157 gw_89 gw_90 (by rfl) (by rfl) (by rfl) dX9_init_1 ?_
  first | refine w_aload_n C dX9_init_4 (by rfl) ?_ | refine w_aload_nN C dX9_init_4 (by rfl) ?_
  refine w_iconst (v := (-1)) C dX9_init_5 (by rfl) ?_
  refine pf_X9_9 C hf dX9_init_6 (fun h1 u1 => ?_)
  have hf := u1.self
  first | refine w_aload_n C dX9_init_9 (by rfl) ?_ | refine w_aload_nN C dX9_init_9 (by rfl) ?_
  refine lc_X9_15 C dX9_init_10 ?_
  refine pf_X9_16 C hf dX9_init_12 (fun h2 u2 => ?_)
  have hf := u2.self
  first | refine w_aload_n C dX9_init_15 (by rfl) ?_ | refine w_aload_nN C dX9_init_15 (by rfl) ?_
  refine w_iconst (v := (-1)) C dX9_init_16 (by rfl) ?_
  refine pf_X9_20 C hf dX9_init_17 (fun h3 u3 => ?_)
  have hf := u3.self
  first | refine w_aload_n C dX9_init_20 (by rfl) ?_ | refine w_aload_nN C dX9_init_20 (by rfl) ?_
  refine w_iconst (v := (-1)) C dX9_init_21 (by rfl) ?_
  refine pf_X9_23 C hf dX9_init_22 (fun h4 u4 => ?_)
  have hf := u4.self
  first | refine w_aload_n C dX9_init_25 (by rfl) ?_ | refine w_aload_nN C dX9_init_25 (by rfl) ?_
  refine w_iload_n C dX9_init_26 (by rfl) ?_
  refine pf_X9_26 C hf dX9_init_27 M.2.2.2.2.2.2.1 (fun h5 u5 => ?_)
  have hf := u5.self
  first | refine w_aload_n C dX9_init_30 (by rfl) ?_ | refine w_aload_nN C dX9_init_30 (by rfl) ?_
  refine w_iload_n C dX9_init_31 (by rfl) ?_
  refine pf_X9_29 C hf dX9_init_32 M.2.2.2.2.2.2.1 (fun h6 u6 => ?_)
  have hf := u6.self
  first | refine w_aload_n C dX9_init_35 (by rfl) ?_ | refine w_aload_nN C dX9_init_35 (by rfl) ?_
  refine w_iload_n C dX9_init_36 (by rfl) ?_
  refine pf_X9_32 C hf dX9_init_37 M.2.2.2.2.2.2.1 (fun h7 u7 => ?_)
  have hf := u7.self
  first | refine w_aload_n C dX9_init_40 (by rfl) ?_ | refine w_aload_nN C dX9_init_40 (by rfl) ?_
  refine w_iload C dX9_init_41 (by rfl) ?_
  refine pf_X9_35 C hf dX9_init_43 M.2.2.2.2.2.2.1 (fun h8 u8 => ?_)
  have hf := u8.self
  refine w_vret C M dX9_init_46 ⟨by decide, by decide⟩ ⟨rfl, ?_⟩
  exact (((((((u1.tr u2).tr u3).tr u4).tr u5).tr u6).tr u7).tr u8)

set_option maxHeartbeats 4000000 in
set_option maxRecDepth 100000 in
theorem m_X9_fail {l : Launch} {D : va_G} {tc : Nat → ClassId} (hl : l.stackTraces = false) {h : HM} {a : Nat} {cl gl : Int32} {q : QT} (hf : h a = some (mPc cl gl q)) {m : Int32} :
    CT l D tc yX9_fail cX9_fail 2 none rm_X9_fail [.ref a, .int m] h (rV (fun h' => Up h a (mPc cl gl (qWd q, qHg q, qWl q, 5, qWa q, qCv q, qSm q, qMk q ||| m, qSh q, qCe q)) h')) := by
  refine CT.start [some (.ref a), some (.int m)] (by decide) hl rfl rfl (fun K C M => ?_)
  obtain ⟨rfl, rfl, rfl, -⟩ := id M
  have C : CX K RX9 cX9_fail 2 rm_X9_fail := C
  first | refine w_aload_n C dX9_fail_0 (by rfl) ?_ | refine w_aload_nN C dX9_fail_0 (by rfl) ?_
  refine w_dup C dX9_fail_1 (by rfl) ?_
  refine gf_X9_53 C hf dX9_fail_2 ?_
  refine w_iload_n C dX9_fail_5 (by rfl) ?_
  refine w_ior C dX9_fail_6 ?_
  refine pf_X9_53 C hf dX9_fail_7 (fun h1 u1 => ?_)
  have hf := u1.self
  first | refine w_aload_n C dX9_fail_10 (by rfl) ?_ | refine w_aload_nN C dX9_fail_10 (by rfl) ?_
  refine w_iconst (v := 5) C dX9_fail_11 (by rfl) ?_
  refine pf_X9_38 C hf dX9_fail_12 (fun h2 u2 => ?_)
  have hf := u2.self
  refine w_vret C M dX9_fail_15 ⟨by decide, by decide⟩ ⟨rfl, ?_⟩
  exact (u1.tr u2)

set_option maxHeartbeats 4000000 in
set_option maxRecDepth 100000 in
theorem m_X9_day {l : Launch} {D : va_G} {tc : Nat → ClassId} (hl : l.stackTraces = false) {h : HM} {a : Nat} {cl gl : Int32} {q : QT} (hf : h a = some (mPc cl gl q)) {air : Int32} (ha : 1 ≤ air ∧ air ≤ 8) (hq : okq q) :
    CT l D tc yX9_day cX9_day 3 none rm_X9_day [.ref a, .int air] h (rV (fun h' => Up h a (mPc cl gl (sp_lose air q)) h')) := by
  refine CT.start [some (.ref a), some (.int air), none] (by decide) hl rfl rfl (fun K C M => ?_)
  obtain ⟨rfl, rfl, rfl, -⟩ := id M
  have C : CX K RX9 cX9_day 3 rm_X9_day := C
  obtain ⟨hn, -, -⟩ := lose_okq ha hq
  obtain ⟨n9, k9, hn9, hk9, e1, e2, e3, e4, -⟩ := loss_nat ha hq
  have key9 := min_loss hn9 hk9 e1 e2
  first | refine w_aload_n C dX9_day_0 (by rfl) ?_ | refine w_aload_nN C dX9_day_0 (by rfl) ?_
  refine gf_X9_38 C hf dX9_day_1 ?_
  refine w_if_ne (tgt := 15) C dX9_day_4 (by rfl) (fun c_4 => ?_) (fun c_4 => ?_)
  · try simp only [cg_ge, cg_gt, cl_gt, cl_le, cl_eq, cl_lt, cl_ge, bi_eq0, bi_ne0, bI_eq0, Decidable.not_not, Bool.not_eq_false] at c_4
    refine w_vret C M dX9_day_15 ⟨by decide, by decide⟩ ⟨rfl, ?_⟩
    first
      | (rw [lose_no1 c_4]; exact (hu_id hf).symm)
      | (rw [lose_no2 c_12]; exact (hu_id hf).symm)
  · try simp only [cg_ge, cg_gt, cl_gt, cl_le, cl_eq, cl_lt, cl_ge, bi_eq0, bi_ne0, bI_eq0, Decidable.not_not, Bool.not_eq_false] at c_4
    first | refine w_aload_n C dX9_day_7 (by rfl) ?_ | refine w_aload_nN C dX9_day_7 (by rfl) ?_
    refine gf_X9_20 C hf dX9_day_8 ?_
    refine w_iconst (v := (-1)) C dX9_day_11 (by rfl) ?_
    refine w_icmp_eq (tgt := 16) C dX9_day_12 (by rfl) (fun c_12 => ?_) (fun c_12 => ?_)
    · refine w_iload_n C dX9_day_16 (by rfl) ?_
      refine w_i2f C dX9_day_17 ?_
      refine w_fconst2 C dX9_day_18 ?_
      refine w_fdiv C dX9_day_19 hn.1 ?_
      first | refine w_aload_n C dX9_day_20 (by rfl) ?_ | refine w_aload_nN C dX9_day_20 (by rfl) ?_
      refine gf_X9_35 C hf dX9_day_21 ?_
      refine w_i2f C dX9_day_24 ?_
      refine w_fdiv C dX9_day_25 hn.2.1 ?_
      refine w_fstore_2 C dX9_day_26 (by first | trivial | rfl) ?_
      first | refine w_aload_n C dX9_day_27 (by rfl) ?_ | refine w_aload_nN C dX9_day_27 (by rfl) ?_
      refine gf_X9_41 C hf dX9_day_28 ?_
      refine w_if_eq (tgt := 39) C dX9_day_31 (by rfl) (fun c_31 => ?_) (fun c_31 => ?_)
      · try simp only [cg_ge, cg_gt, cl_gt, cl_le, cl_eq, cl_lt, cl_ge, bi_eq0, bi_ne0, bI_eq0, Decidable.not_not, Bool.not_eq_false] at c_31
        rw [e4 c_31]
        first | refine w_aload_n C dX9_day_39 (by rfl) ?_ | refine w_aload_nN C dX9_day_39 (by rfl) ?_
        refine gf_X9_16 C hf dX9_day_40 ?_
        refine w_fload_n C dX9_day_43 (by rfl) ?_
        refine w_fmin C (fN_is (by rw [e1]; exact wt_n hn9)) (fN_is (wt_n (by omega))) gw_1284 (by rfl) (by rfl) (by rfl) (by rfl) ⟨by decide, by decide⟩ dX9_day_44 ?_
        rw [key9]
        refine w_fstore_2 C dX9_day_47 (by first | trivial | rfl) ?_
        first | refine w_aload_n C dX9_day_48 (by rfl) ?_ | refine w_aload_nN C dX9_day_48 (by rfl) ?_
        refine w_dup C dX9_day_49 (by rfl) ?_
        refine gf_X9_16 C hf dX9_day_50 ?_
        refine w_fload_n C dX9_day_53 (by rfl) ?_
        refine w_fsub C dX9_day_54 hn.2.2.2 ?_
        refine pf_X9_16 C hf dX9_day_55 (fun h1 u1 => ?_)
        have hf := u1.self
        refine w_fload_n C dX9_day_58 (by rfl) ?_
        refine lc_X9_52 C dX9_day_59 ?_
        refine w_fcmp C dX9_day_61 ?_
        refine w_if_le (tgt := 75) C dX9_day_62 (by rfl) (fun c_62 => ?_) (fun c_62 => ?_)
        · try simp only [cg_ge, cg_gt, cl_gt, cl_le, cl_eq, cl_lt, cl_ge, bi_eq0, bi_ne0, bI_eq0, Decidable.not_not, Bool.not_eq_false] at c_62
          first | refine w_aload_n C dX9_day_75 (by rfl) ?_ | refine w_aload_nN C dX9_day_75 (by rfl) ?_
          refine gf_X9_16 C hf dX9_day_76 ?_
          refine lc_X9_56 C dX9_day_79 ?_
          refine w_fcmp C dX9_day_81 ?_
          refine w_if_gt (tgt := 90) C dX9_day_82 (by rfl) (fun c_82 => ?_) (fun c_82 => ?_)
          · try simp only [cg_ge, cg_gt, cl_gt, cl_le, cl_eq, cl_lt, cl_ge, bi_eq0, bi_ne0, bI_eq0, Decidable.not_not, Bool.not_eq_false] at c_82
            refine w_vret C M dX9_day_90 ⟨by decide, by decide⟩ ⟨rfl, ?_⟩
            exact u1.to (by simp [sp_lose, qWd, qHg, qWl, qSt, qWa, qCv, qSm, qMk, qSh, qCe, dlt, dgt, deq, dge, dle, kH, kP, kO, kL, kA, kE, kC, kF, kS, kW, c_4, c_12, c_31, c_62, c_82])
          · try simp only [cg_ge, cg_gt, cl_gt, cl_le, cl_eq, cl_lt, cl_ge, bi_eq0, bi_ne0, bI_eq0, Decidable.not_not, Bool.not_eq_false] at c_82
            first | refine w_aload_n C dX9_day_85 (by rfl) ?_ | refine w_aload_nN C dX9_day_85 (by rfl) ?_
            refine w_iconst (v := 1) C dX9_day_86 (by rfl) ?_
            refine pf_X9_38 C hf dX9_day_87 (fun h2 u2 => ?_)
            have hf := u2.self
            refine w_vret C M dX9_day_90 ⟨by decide, by decide⟩ ⟨rfl, ?_⟩
            exact (u1.tr u2).to (by simp [sp_lose, qWd, qHg, qWl, qSt, qWa, qCv, qSm, qMk, qSh, qCe, dlt, dgt, deq, dge, dle, kH, kP, kO, kL, kA, kE, kC, kF, kS, kW, c_4, c_12, c_31, c_62, c_82])
        · try simp only [cg_ge, cg_gt, cl_gt, cl_le, cl_eq, cl_lt, cl_ge, bi_eq0, bi_ne0, bI_eq0, Decidable.not_not, Bool.not_eq_false] at c_62
          first | refine w_aload_n C dX9_day_65 (by rfl) ?_ | refine w_aload_nN C dX9_day_65 (by rfl) ?_
          refine w_dup C dX9_day_66 (by rfl) ?_
          refine gf_X9_53 C hf dX9_day_67 ?_
          refine w_iconst (v := 2) C dX9_day_70 (by rfl) ?_
          refine w_ior C dX9_day_71 ?_
          refine pf_X9_53 C hf dX9_day_72 (fun h3 u3 => ?_)
          have hf := u3.self
          first | refine w_aload_n C dX9_day_75 (by rfl) ?_ | refine w_aload_nN C dX9_day_75 (by rfl) ?_
          refine gf_X9_16 C hf dX9_day_76 ?_
          refine lc_X9_56 C dX9_day_79 ?_
          refine w_fcmp C dX9_day_81 ?_
          refine w_if_gt (tgt := 90) C dX9_day_82 (by rfl) (fun c_82 => ?_) (fun c_82 => ?_)
          · try simp only [cg_ge, cg_gt, cl_gt, cl_le, cl_eq, cl_lt, cl_ge, bi_eq0, bi_ne0, bI_eq0, Decidable.not_not, Bool.not_eq_false] at c_82
            refine w_vret C M dX9_day_90 ⟨by decide, by decide⟩ ⟨rfl, ?_⟩
            exact (u1.tr u3).to (by simp [sp_lose, qWd, qHg, qWl, qSt, qWa, qCv, qSm, qMk, qSh, qCe, dlt, dgt, deq, dge, dle, kH, kP, kO, kL, kA, kE, kC, kF, kS, kW, c_4, c_12, c_31, c_62, c_82])
          · try simp only [cg_ge, cg_gt, cl_gt, cl_le, cl_eq, cl_lt, cl_ge, bi_eq0, bi_ne0, bI_eq0, Decidable.not_not, Bool.not_eq_false] at c_82
            first | refine w_aload_n C dX9_day_85 (by rfl) ?_ | refine w_aload_nN C dX9_day_85 (by rfl) ?_
            refine w_iconst (v := 1) C dX9_day_86 (by rfl) ?_
            refine pf_X9_38 C hf dX9_day_87 (fun h4 u4 => ?_)
            have hf := u4.self
            refine w_vret C M dX9_day_90 ⟨by decide, by decide⟩ ⟨rfl, ?_⟩
            exact ((u1.tr u3).tr u4).to (by simp [sp_lose, qWd, qHg, qWl, qSt, qWa, qCv, qSm, qMk, qSh, qCe, dlt, dgt, deq, dge, dle, kH, kP, kO, kL, kA, kE, kC, kF, kS, kW, c_4, c_12, c_31, c_62, c_82])
      · try simp only [cg_ge, cg_gt, cl_gt, cl_le, cl_eq, cl_lt, cl_ge, bi_eq0, bi_ne0, bI_eq0, Decidable.not_not, Bool.not_eq_false] at c_31
        refine w_fload_n C dX9_day_34 (by rfl) ?_
        refine lc_X9_45 C dX9_day_35 ?_
        refine w_fmul C dX9_day_37 (by rw [e3 c_31]; exact fn_of (wt_n (by omega))) ?_
        refine w_fstore_2 C dX9_day_38 (by first | trivial | rfl) ?_
        rw [e3 c_31]
        first | refine w_aload_n C dX9_day_39 (by rfl) ?_ | refine w_aload_nN C dX9_day_39 (by rfl) ?_
        refine gf_X9_16 C hf dX9_day_40 ?_
        refine w_fload_n C dX9_day_43 (by rfl) ?_
        refine w_fmin C (fN_is (by rw [e1]; exact wt_n hn9)) (fN_is (wt_n (by omega))) gw_1284 (by rfl) (by rfl) (by rfl) (by rfl) ⟨by decide, by decide⟩ dX9_day_44 ?_
        rw [key9]
        refine w_fstore_2 C dX9_day_47 (by first | trivial | rfl) ?_
        first | refine w_aload_n C dX9_day_48 (by rfl) ?_ | refine w_aload_nN C dX9_day_48 (by rfl) ?_
        refine w_dup C dX9_day_49 (by rfl) ?_
        refine gf_X9_16 C hf dX9_day_50 ?_
        refine w_fload_n C dX9_day_53 (by rfl) ?_
        refine w_fsub C dX9_day_54 hn.2.2.2 ?_
        refine pf_X9_16 C hf dX9_day_55 (fun h5 u5 => ?_)
        have hf := u5.self
        refine w_fload_n C dX9_day_58 (by rfl) ?_
        refine lc_X9_52 C dX9_day_59 ?_
        refine w_fcmp C dX9_day_61 ?_
        refine w_if_le (tgt := 75) C dX9_day_62 (by rfl) (fun c_62 => ?_) (fun c_62 => ?_)
        · try simp only [cg_ge, cg_gt, cl_gt, cl_le, cl_eq, cl_lt, cl_ge, bi_eq0, bi_ne0, bI_eq0, Decidable.not_not, Bool.not_eq_false] at c_62
          first | refine w_aload_n C dX9_day_75 (by rfl) ?_ | refine w_aload_nN C dX9_day_75 (by rfl) ?_
          refine gf_X9_16 C hf dX9_day_76 ?_
          refine lc_X9_56 C dX9_day_79 ?_
          refine w_fcmp C dX9_day_81 ?_
          refine w_if_gt (tgt := 90) C dX9_day_82 (by rfl) (fun c_82 => ?_) (fun c_82 => ?_)
          · try simp only [cg_ge, cg_gt, cl_gt, cl_le, cl_eq, cl_lt, cl_ge, bi_eq0, bi_ne0, bI_eq0, Decidable.not_not, Bool.not_eq_false] at c_82
            refine w_vret C M dX9_day_90 ⟨by decide, by decide⟩ ⟨rfl, ?_⟩
            exact u5.to (by simp [sp_lose, qWd, qHg, qWl, qSt, qWa, qCv, qSm, qMk, qSh, qCe, dlt, dgt, deq, dge, dle, kH, kP, kO, kL, kA, kE, kC, kF, kS, kW, c_4, c_12, c_31, c_62, c_82])
          · try simp only [cg_ge, cg_gt, cl_gt, cl_le, cl_eq, cl_lt, cl_ge, bi_eq0, bi_ne0, bI_eq0, Decidable.not_not, Bool.not_eq_false] at c_82
            first | refine w_aload_n C dX9_day_85 (by rfl) ?_ | refine w_aload_nN C dX9_day_85 (by rfl) ?_
            refine w_iconst (v := 1) C dX9_day_86 (by rfl) ?_
            refine pf_X9_38 C hf dX9_day_87 (fun h6 u6 => ?_)
            have hf := u6.self
            refine w_vret C M dX9_day_90 ⟨by decide, by decide⟩ ⟨rfl, ?_⟩
            exact (u5.tr u6).to (by simp [sp_lose, qWd, qHg, qWl, qSt, qWa, qCv, qSm, qMk, qSh, qCe, dlt, dgt, deq, dge, dle, kH, kP, kO, kL, kA, kE, kC, kF, kS, kW, c_4, c_12, c_31, c_62, c_82])
        · try simp only [cg_ge, cg_gt, cl_gt, cl_le, cl_eq, cl_lt, cl_ge, bi_eq0, bi_ne0, bI_eq0, Decidable.not_not, Bool.not_eq_false] at c_62
          first | refine w_aload_n C dX9_day_65 (by rfl) ?_ | refine w_aload_nN C dX9_day_65 (by rfl) ?_
          refine w_dup C dX9_day_66 (by rfl) ?_
          refine gf_X9_53 C hf dX9_day_67 ?_
          refine w_iconst (v := 2) C dX9_day_70 (by rfl) ?_
          refine w_ior C dX9_day_71 ?_
          refine pf_X9_53 C hf dX9_day_72 (fun h7 u7 => ?_)
          have hf := u7.self
          first | refine w_aload_n C dX9_day_75 (by rfl) ?_ | refine w_aload_nN C dX9_day_75 (by rfl) ?_
          refine gf_X9_16 C hf dX9_day_76 ?_
          refine lc_X9_56 C dX9_day_79 ?_
          refine w_fcmp C dX9_day_81 ?_
          refine w_if_gt (tgt := 90) C dX9_day_82 (by rfl) (fun c_82 => ?_) (fun c_82 => ?_)
          · try simp only [cg_ge, cg_gt, cl_gt, cl_le, cl_eq, cl_lt, cl_ge, bi_eq0, bi_ne0, bI_eq0, Decidable.not_not, Bool.not_eq_false] at c_82
            refine w_vret C M dX9_day_90 ⟨by decide, by decide⟩ ⟨rfl, ?_⟩
            exact (u5.tr u7).to (by simp [sp_lose, qWd, qHg, qWl, qSt, qWa, qCv, qSm, qMk, qSh, qCe, dlt, dgt, deq, dge, dle, kH, kP, kO, kL, kA, kE, kC, kF, kS, kW, c_4, c_12, c_31, c_62, c_82])
          · try simp only [cg_ge, cg_gt, cl_gt, cl_le, cl_eq, cl_lt, cl_ge, bi_eq0, bi_ne0, bI_eq0, Decidable.not_not, Bool.not_eq_false] at c_82
            first | refine w_aload_n C dX9_day_85 (by rfl) ?_ | refine w_aload_nN C dX9_day_85 (by rfl) ?_
            refine w_iconst (v := 1) C dX9_day_86 (by rfl) ?_
            refine pf_X9_38 C hf dX9_day_87 (fun h8 u8 => ?_)
            have hf := u8.self
            refine w_vret C M dX9_day_90 ⟨by decide, by decide⟩ ⟨rfl, ?_⟩
            exact ((u5.tr u7).tr u8).to (by simp [sp_lose, qWd, qHg, qWl, qSt, qWa, qCv, qSm, qMk, qSh, qCe, dlt, dgt, deq, dge, dle, kH, kP, kO, kL, kA, kE, kC, kF, kS, kW, c_4, c_12, c_31, c_62, c_82])
    · refine w_vret C M dX9_day_15 ⟨by decide, by decide⟩ ⟨rfl, ?_⟩
      first
        | (rw [lose_no1 c_4]; exact (hu_id hf).symm)
        | (rw [lose_no2 c_12]; exact (hu_id hf).symm)

set_option maxHeartbeats 4000000 in
set_option maxRecDepth 100000 in
theorem sg_X9_burn_69 {K : KC} (C : CX K RX9 cX9_burn 7 rm_X9_burn) (hl : (Kl K).stackTraces = false) {h : HM} {a : Nat} {cl gl : Int32} {q : QT} (hf : h a = some (mPc cl gl q)) {old hot : UInt64} {dm : Int32} (ho : DF old) (hh : DF hot) (hn : dN (FP.ddiv 4638707616191610880 (FP.i2d (qWl q)))) {ov : Int32} (hov : ov = bI (sp_over old hot)) {h9 : HM} {P : HM → Prop} (M : MX K (KD K) (Kt K) (Kl K) rm_X9_burn none h9 (rV P) yX9_burn.name) (fin : ∀ h', Up h a (mPc cl gl (sp_feel1 old hot (decide (3 ≤ dm)) q)) h' → P h') : WW K (0, 0) 69 [some (.ref a), some (.double old), none, some (.double hot), none, some (.int dm), some (.int ov)] [] h := by
  subst hov
  refine w_iload C dX9_burn_69 (by rfl) ?_
  refine w_if_eq (tgt := 103) C dX9_burn_71 (by rfl) (fun c_71 => ?_) (fun c_71 => ?_)
  · try simp only [cg_ge, cg_gt, cl_gt, cl_le, cl_eq, cl_lt, cl_ge, bi_eq0, bi_ne0, bI_eq0, Decidable.not_not, Bool.not_eq_false] at c_71
    refine w_iload C dX9_burn_103 (by rfl) ?_
    refine w_iconst (v := 3) C dX9_burn_105 (by rfl) ?_
    refine w_icmp_lt (tgt := 127) C dX9_burn_106 (by rfl) (fun c_106 => ?_) (fun c_106 => ?_)
    · have c_106 : ¬ 3 ≤ dm := Int32.not_le.mpr c_106
      refine w_vret C M dX9_burn_127 ⟨by decide, by decide⟩ ⟨rfl, ?_⟩
      first
        | exact fin _ ((no ups).to (by simp only [sp_feel1, dlt, dgt, deq, dge, dle, kH, kP, kO, kL, kA, kE, kC, kF, kS, kW, qWd, qHg, qWl, qSt, qWa, qCv, qSm, qMk, qSh, qCe, c_71, c_106, decide_eq_true_eq, not_false_eq_true, not_true_eq_false, and_self, and_true, true_and, and_false, false_and, if_true, if_false, Bool.false_eq_true]))
        | exact fin _ ((show Up _ _ _ _ from (hu_id hf).symm).to (by simp only [sp_feel1, dlt, dgt, deq, dge, dle, kH, kP, kO, kL, kA, kE, kC, kF, kS, kW, qWd, qHg, qWl, qSt, qWa, qCv, qSm, qMk, qSh, qCe, c_71, c_106, decide_eq_true_eq, and_self, and_true, true_and, and_false, false_and, if_true, if_false, Bool.false_eq_true]))
    · have c_106 : 3 ≤ dm := Int32.not_lt.mp c_106
      refine w_dload_n C dX9_burn_109 (by rfl) ?_
      refine lc_X9_71 C dX9_burn_110 ?_
      refine w_dcmp C dX9_burn_113 ?_
      refine w_if_lt (tgt := 127) C dX9_burn_114 (by rfl) (fun c_114 => ?_) (fun c_114 => ?_)
      · try simp only [cg_ge, cg_gt, cl_gt, cl_le, cl_eq, cl_lt, cl_ge, bi_eq0, bi_ne0, bI_eq0, Decidable.not_not, Bool.not_eq_false] at c_114
        refine w_vret C M dX9_burn_127 ⟨by decide, by decide⟩ ⟨rfl, ?_⟩
        first
          | exact fin _ ((no ups).to (by simp only [sp_feel1, dlt, dgt, deq, dge, dle, kH, kP, kO, kL, kA, kE, kC, kF, kS, kW, qWd, qHg, qWl, qSt, qWa, qCv, qSm, qMk, qSh, qCe, c_71, c_106, c_114, decide_eq_true_eq, not_false_eq_true, not_true_eq_false, and_self, and_true, true_and, and_false, false_and, if_true, if_false, Bool.false_eq_true]))
          | exact fin _ ((show Up _ _ _ _ from (hu_id hf).symm).to (by simp only [sp_feel1, dlt, dgt, deq, dge, dle, kH, kP, kO, kL, kA, kE, kC, kF, kS, kW, qWd, qHg, qWl, qSt, qWa, qCv, qSm, qMk, qSh, qCe, c_71, c_106, c_114, decide_eq_true_eq, and_self, and_true, true_and, and_false, false_and, if_true, if_false, Bool.false_eq_true]))
      · try simp only [cg_ge, cg_gt, cl_gt, cl_le, cl_eq, cl_lt, cl_ge, bi_eq0, bi_ne0, bI_eq0, Decidable.not_not, Bool.not_eq_false] at c_114
        first | refine w_aload_n C dX9_burn_117 (by rfl) ?_ | refine w_aload_nN C dX9_burn_117 (by rfl) ?_
        refine w_dup C dX9_burn_118 (by rfl) ?_
        refine gf_X9_73 C hf dX9_burn_119 ?_
        refine w_iconst (v := 1) C dX9_burn_122 (by rfl) ?_
        refine w_iadd C dX9_burn_123 ?_
        refine pf_X9_73 C hf dX9_burn_124 (fun h1 u1 => ?_)
        have hf := u1.self
        refine w_vret C M dX9_burn_127 ⟨by decide, by decide⟩ ⟨rfl, ?_⟩
        first
          | exact fin _ (u1.to (by simp only [sp_feel1, dlt, dgt, deq, dge, dle, kH, kP, kO, kL, kA, kE, kC, kF, kS, kW, qWd, qHg, qWl, qSt, qWa, qCv, qSm, qMk, qSh, qCe, c_71, c_106, c_114, decide_eq_true_eq, not_false_eq_true, not_true_eq_false, and_self, and_true, true_and, and_false, false_and, if_true, if_false, Bool.false_eq_true]))
          | exact fin _ ((show Up _ _ _ _ from (hu_id hf).symm).to (by simp only [sp_feel1, dlt, dgt, deq, dge, dle, kH, kP, kO, kL, kA, kE, kC, kF, kS, kW, qWd, qHg, qWl, qSt, qWa, qCv, qSm, qMk, qSh, qCe, c_71, c_106, c_114, decide_eq_true_eq, and_self, and_true, true_and, and_false, false_and, if_true, if_false, Bool.false_eq_true]))
  · try simp only [cg_ge, cg_gt, cl_gt, cl_le, cl_eq, cl_lt, cl_ge, bi_eq0, bi_ne0, bI_eq0, Decidable.not_not, Bool.not_eq_false] at c_71
    refine w_dload_n C dX9_burn_74 (by rfl) ?_
    refine w_dload_n C dX9_burn_75 (by rfl) ?_
    refine w_dsub C dX9_burn_76 (nn_of (dsub_n hh.n ho)) ?_
    refine w_dabs C (abs_nan (dsub_n hh.n ho)) gw_1441 (by rfl) (by rfl) (by rfl) (by rfl) ⟨by decide, by decide⟩ dX9_burn_77 ?_
    refine lc_X9_69 C dX9_burn_80 ?_
    first | refine w_aload_n C dX9_burn_83 (by rfl) ?_ | refine w_aload_nN C dX9_burn_83 (by rfl) ?_
    refine gf_X9_35 C hf dX9_burn_84 ?_
    refine w_i2d C dX9_burn_87 ?_
    refine w_ddiv C dX9_burn_88 (nn_of hn) ?_
    refine w_dcmp C dX9_burn_89 ?_
    refine w_if_le (tgt := 103) C dX9_burn_90 (by rfl) (fun c_90 => ?_) (fun c_90 => ?_)
    · try simp only [cg_ge, cg_gt, cl_gt, cl_le, cl_eq, cl_lt, cl_ge, bi_eq0, bi_ne0, bI_eq0, Decidable.not_not, Bool.not_eq_false] at c_90
      have c_90 : ¬ dgt (sp_change old hot) _ := fun w => c_90 ((change_abs ho hh hn).mpr w)
      refine w_iload C dX9_burn_103 (by rfl) ?_
      refine w_iconst (v := 3) C dX9_burn_105 (by rfl) ?_
      refine w_icmp_lt (tgt := 127) C dX9_burn_106 (by rfl) (fun c_106 => ?_) (fun c_106 => ?_)
      · have c_106 : ¬ 3 ≤ dm := Int32.not_le.mpr c_106
        refine w_vret C M dX9_burn_127 ⟨by decide, by decide⟩ ⟨rfl, ?_⟩
        first
          | exact fin _ ((no ups).to (by simp only [sp_feel1, dlt, dgt, deq, dge, dle, kH, kP, kO, kL, kA, kE, kC, kF, kS, kW, qWd, qHg, qWl, qSt, qWa, qCv, qSm, qMk, qSh, qCe, c_71, c_90, c_106, decide_eq_true_eq, not_false_eq_true, not_true_eq_false, and_self, and_true, true_and, and_false, false_and, if_true, if_false, Bool.false_eq_true]))
          | exact fin _ ((show Up _ _ _ _ from (hu_id hf).symm).to (by simp only [sp_feel1, dlt, dgt, deq, dge, dle, kH, kP, kO, kL, kA, kE, kC, kF, kS, kW, qWd, qHg, qWl, qSt, qWa, qCv, qSm, qMk, qSh, qCe, c_71, c_90, c_106, decide_eq_true_eq, and_self, and_true, true_and, and_false, false_and, if_true, if_false, Bool.false_eq_true]))
      · have c_106 : 3 ≤ dm := Int32.not_lt.mp c_106
        refine w_dload_n C dX9_burn_109 (by rfl) ?_
        refine lc_X9_71 C dX9_burn_110 ?_
        refine w_dcmp C dX9_burn_113 ?_
        refine w_if_lt (tgt := 127) C dX9_burn_114 (by rfl) (fun c_114 => ?_) (fun c_114 => ?_)
        · try simp only [cg_ge, cg_gt, cl_gt, cl_le, cl_eq, cl_lt, cl_ge, bi_eq0, bi_ne0, bI_eq0, Decidable.not_not, Bool.not_eq_false] at c_114
          refine w_vret C M dX9_burn_127 ⟨by decide, by decide⟩ ⟨rfl, ?_⟩
          first
            | exact fin _ ((no ups).to (by simp only [sp_feel1, dlt, dgt, deq, dge, dle, kH, kP, kO, kL, kA, kE, kC, kF, kS, kW, qWd, qHg, qWl, qSt, qWa, qCv, qSm, qMk, qSh, qCe, c_71, c_90, c_106, c_114, decide_eq_true_eq, not_false_eq_true, not_true_eq_false, and_self, and_true, true_and, and_false, false_and, if_true, if_false, Bool.false_eq_true]))
            | exact fin _ ((show Up _ _ _ _ from (hu_id hf).symm).to (by simp only [sp_feel1, dlt, dgt, deq, dge, dle, kH, kP, kO, kL, kA, kE, kC, kF, kS, kW, qWd, qHg, qWl, qSt, qWa, qCv, qSm, qMk, qSh, qCe, c_71, c_90, c_106, c_114, decide_eq_true_eq, and_self, and_true, true_and, and_false, false_and, if_true, if_false, Bool.false_eq_true]))
        · try simp only [cg_ge, cg_gt, cl_gt, cl_le, cl_eq, cl_lt, cl_ge, bi_eq0, bi_ne0, bI_eq0, Decidable.not_not, Bool.not_eq_false] at c_114
          first | refine w_aload_n C dX9_burn_117 (by rfl) ?_ | refine w_aload_nN C dX9_burn_117 (by rfl) ?_
          refine w_dup C dX9_burn_118 (by rfl) ?_
          refine gf_X9_73 C hf dX9_burn_119 ?_
          refine w_iconst (v := 1) C dX9_burn_122 (by rfl) ?_
          refine w_iadd C dX9_burn_123 ?_
          refine pf_X9_73 C hf dX9_burn_124 (fun h2 u2 => ?_)
          have hf := u2.self
          refine w_vret C M dX9_burn_127 ⟨by decide, by decide⟩ ⟨rfl, ?_⟩
          first
            | exact fin _ (u2.to (by simp only [sp_feel1, dlt, dgt, deq, dge, dle, kH, kP, kO, kL, kA, kE, kC, kF, kS, kW, qWd, qHg, qWl, qSt, qWa, qCv, qSm, qMk, qSh, qCe, c_71, c_90, c_106, c_114, decide_eq_true_eq, not_false_eq_true, not_true_eq_false, and_self, and_true, true_and, and_false, false_and, if_true, if_false, Bool.false_eq_true]))
            | exact fin _ ((show Up _ _ _ _ from (hu_id hf).symm).to (by simp only [sp_feel1, dlt, dgt, deq, dge, dle, kH, kP, kO, kL, kA, kE, kC, kF, kS, kW, qWd, qHg, qWl, qSt, qWa, qCv, qSm, qMk, qSh, qCe, c_71, c_90, c_106, c_114, decide_eq_true_eq, and_self, and_true, true_and, and_false, false_and, if_true, if_false, Bool.false_eq_true]))
    · try simp only [cg_ge, cg_gt, cl_gt, cl_le, cl_eq, cl_lt, cl_ge, bi_eq0, bi_ne0, bI_eq0, Decidable.not_not, Bool.not_eq_false] at c_90
      have c_90 := (change_abs ho hh hn).mp c_90
      first | refine w_aload_n C dX9_burn_93 (by rfl) ?_ | refine w_aload_nN C dX9_burn_93 (by rfl) ?_
      refine w_dup C dX9_burn_94 (by rfl) ?_
      refine gf_X9_53 C hf dX9_burn_95 ?_
      refine w_iconst (v := 2) C dX9_burn_98 (by rfl) ?_
      refine w_ior C dX9_burn_99 ?_
      refine pf_X9_53 C hf dX9_burn_100 (fun h3 u3 => ?_)
      have hf := u3.self
      refine w_iload C dX9_burn_103 (by rfl) ?_
      refine w_iconst (v := 3) C dX9_burn_105 (by rfl) ?_
      refine w_icmp_lt (tgt := 127) C dX9_burn_106 (by rfl) (fun c_106 => ?_) (fun c_106 => ?_)
      · have c_106 : ¬ 3 ≤ dm := Int32.not_le.mpr c_106
        refine w_vret C M dX9_burn_127 ⟨by decide, by decide⟩ ⟨rfl, ?_⟩
        first
          | exact fin _ (u3.to (by simp only [sp_feel1, dlt, dgt, deq, dge, dle, kH, kP, kO, kL, kA, kE, kC, kF, kS, kW, qWd, qHg, qWl, qSt, qWa, qCv, qSm, qMk, qSh, qCe, c_71, c_90, c_106, decide_eq_true_eq, not_false_eq_true, not_true_eq_false, and_self, and_true, true_and, and_false, false_and, if_true, if_false, Bool.false_eq_true]))
          | exact fin _ ((show Up _ _ _ _ from (hu_id hf).symm).to (by simp only [sp_feel1, dlt, dgt, deq, dge, dle, kH, kP, kO, kL, kA, kE, kC, kF, kS, kW, qWd, qHg, qWl, qSt, qWa, qCv, qSm, qMk, qSh, qCe, c_71, c_90, c_106, decide_eq_true_eq, and_self, and_true, true_and, and_false, false_and, if_true, if_false, Bool.false_eq_true]))
      · have c_106 : 3 ≤ dm := Int32.not_lt.mp c_106
        refine w_dload_n C dX9_burn_109 (by rfl) ?_
        refine lc_X9_71 C dX9_burn_110 ?_
        refine w_dcmp C dX9_burn_113 ?_
        refine w_if_lt (tgt := 127) C dX9_burn_114 (by rfl) (fun c_114 => ?_) (fun c_114 => ?_)
        · try simp only [cg_ge, cg_gt, cl_gt, cl_le, cl_eq, cl_lt, cl_ge, bi_eq0, bi_ne0, bI_eq0, Decidable.not_not, Bool.not_eq_false] at c_114
          refine w_vret C M dX9_burn_127 ⟨by decide, by decide⟩ ⟨rfl, ?_⟩
          first
            | exact fin _ (u3.to (by simp only [sp_feel1, dlt, dgt, deq, dge, dle, kH, kP, kO, kL, kA, kE, kC, kF, kS, kW, qWd, qHg, qWl, qSt, qWa, qCv, qSm, qMk, qSh, qCe, c_71, c_90, c_106, c_114, decide_eq_true_eq, not_false_eq_true, not_true_eq_false, and_self, and_true, true_and, and_false, false_and, if_true, if_false, Bool.false_eq_true]))
            | exact fin _ ((show Up _ _ _ _ from (hu_id hf).symm).to (by simp only [sp_feel1, dlt, dgt, deq, dge, dle, kH, kP, kO, kL, kA, kE, kC, kF, kS, kW, qWd, qHg, qWl, qSt, qWa, qCv, qSm, qMk, qSh, qCe, c_71, c_90, c_106, c_114, decide_eq_true_eq, and_self, and_true, true_and, and_false, false_and, if_true, if_false, Bool.false_eq_true]))
        · try simp only [cg_ge, cg_gt, cl_gt, cl_le, cl_eq, cl_lt, cl_ge, bi_eq0, bi_ne0, bI_eq0, Decidable.not_not, Bool.not_eq_false] at c_114
          first | refine w_aload_n C dX9_burn_117 (by rfl) ?_ | refine w_aload_nN C dX9_burn_117 (by rfl) ?_
          refine w_dup C dX9_burn_118 (by rfl) ?_
          refine gf_X9_73 C hf dX9_burn_119 ?_
          refine w_iconst (v := 1) C dX9_burn_122 (by rfl) ?_
          refine w_iadd C dX9_burn_123 ?_
          refine pf_X9_73 C hf dX9_burn_124 (fun h4 u4 => ?_)
          have hf := u4.self
          refine w_vret C M dX9_burn_127 ⟨by decide, by decide⟩ ⟨rfl, ?_⟩
          first
            | exact fin _ ((u3.tr u4).to (by simp only [sp_feel1, dlt, dgt, deq, dge, dle, kH, kP, kO, kL, kA, kE, kC, kF, kS, kW, qWd, qHg, qWl, qSt, qWa, qCv, qSm, qMk, qSh, qCe, c_71, c_90, c_106, c_114, decide_eq_true_eq, not_false_eq_true, not_true_eq_false, and_self, and_true, true_and, and_false, false_and, if_true, if_false, Bool.false_eq_true]))
            | exact fin _ ((show Up _ _ _ _ from (hu_id hf).symm).to (by simp only [sp_feel1, dlt, dgt, deq, dge, dle, kH, kP, kO, kL, kA, kE, kC, kF, kS, kW, qWd, qHg, qWl, qSt, qWa, qCv, qSm, qMk, qSh, qCe, c_71, c_90, c_106, c_114, decide_eq_true_eq, and_self, and_true, true_and, and_false, false_and, if_true, if_false, Bool.false_eq_true]))

set_option maxHeartbeats 4000000 in
set_option maxRecDepth 100000 in
theorem m_X9_burn {l : Launch} {D : va_G} {tc : Nat → ClassId} (hl : l.stackTraces = false) {h : HM} {a : Nat} {cl gl : Int32} {q : QT} (hf : h a = some (mPc cl gl q)) {old hot : UInt64} {dm : Int32} (ho : DF old) (hh : DF hot) (hn : dN (FP.ddiv 4638707616191610880 (FP.i2d (qWl q)))) :
    CT l D tc yX9_burn cX9_burn 7 none rm_X9_burn [.ref a, .double old, .double hot, .int dm] h (rV (fun h' => Up h a (mPc cl gl (sp_feel old hot (decide (3 ≤ dm)) q)) h')) := by
  refine CT.start [some (.ref a), some (.double old), none, some (.double hot), none, some (.int dm), none] (by decide) hl rfl rfl (fun K C M => ?_)
  obtain ⟨rfl, rfl, rfl, -⟩ := id M
  have C : CX K RX9 cX9_burn 7 rm_X9_burn := C
  first | refine w_aload_n C dX9_burn_0 (by rfl) ?_ | refine w_aload_nN C dX9_burn_0 (by rfl) ?_
  refine gf_X9_38 C hf dX9_burn_1 ?_
  refine w_iconst (v := 5) C dX9_burn_4 (by rfl) ?_
  refine w_icmp_ne (tgt := 9) C dX9_burn_5 (by rfl) (fun c_5 => ?_) (fun c_5 => ?_)
  · have hx : ¬ qSt q = 5 := c_5
    first | refine w_aload_n C dX9_burn_9 (by rfl) ?_ | refine w_aload_nN C dX9_burn_9 (by rfl) ?_
    refine gf_X9_38 C hf dX9_burn_10 ?_
    refine w_if_ne (tgt := 30) C dX9_burn_13 (by rfl) (fun c_13 => ?_) (fun c_13 => ?_)
    · try simp only [cg_ge, cg_gt, cl_gt, cl_le, cl_eq, cl_lt, cl_ge, bi_eq0, bi_ne0, bI_eq0, Decidable.not_not, Bool.not_eq_false] at c_13
      have h1 : ¬ (qSt q = 0 ∧ dgt hot 4636737291354636288) := fun w => c_13 w.1
      refine w_dload_n C dX9_burn_30 (by rfl) ?_
      refine lc_X9_63 C dX9_burn_31 ?_
      refine w_dcmp C dX9_burn_34 ?_
      refine w_if_ge (tgt := 46) C dX9_burn_35 (by rfl) (fun c_35 => ?_) (fun c_35 => ?_)
      · try simp only [cg_ge, cg_gt, cl_gt, cl_le, cl_eq, cl_lt, cl_ge, bi_eq0, bi_ne0, bI_eq0, Decidable.not_not, Bool.not_eq_false] at c_35
        refine w_dload_n C dX9_burn_46 (by rfl) ?_
        refine lc_X9_63 C dX9_burn_47 ?_
        refine w_dcmp C dX9_burn_50 ?_
        refine w_if_le (tgt := 66) C dX9_burn_51 (by rfl) (fun c_51 => ?_) (fun c_51 => ?_)
        · try simp only [cg_ge, cg_gt, cl_gt, cl_le, cl_eq, cl_lt, cl_ge, bi_eq0, bi_ne0, bI_eq0, Decidable.not_not, Bool.not_eq_false] at c_51
          refine w_iconst (v := 0) C dX9_burn_66 (by rfl) ?_
          refine w_istore_6 C dX9_burn_67 (by first | trivial | rfl) ?_
          exact sg_X9_burn_69 C hl hf ho hh hn (by first | (simp [bI, sp_over, dlt, dgt, dge, dle, c_5, c_13, c_35, c_51]; done) | exact absurd (c_35.symm.trans c_51) (by decide)) M (fun h9 u9 => u9.to (by rw [feel_1 c_5 h1]))
        · try simp only [cg_ge, cg_gt, cl_gt, cl_le, cl_eq, cl_lt, cl_ge, bi_eq0, bi_ne0, bI_eq0, Decidable.not_not, Bool.not_eq_false] at c_51
          refine w_dload_n C dX9_burn_54 (by rfl) ?_
          refine lc_X9_63 C dX9_burn_55 ?_
          refine w_dcmp C dX9_burn_58 ?_
          refine w_if_gt (tgt := 66) C dX9_burn_59 (by rfl) (fun c_59 => ?_) (fun c_59 => ?_)
          · try simp only [cg_ge, cg_gt, cl_gt, cl_le, cl_eq, cl_lt, cl_ge, bi_eq0, bi_ne0, bI_eq0, Decidable.not_not, Bool.not_eq_false] at c_59
            refine w_iconst (v := 0) C dX9_burn_66 (by rfl) ?_
            refine w_istore_6 C dX9_burn_67 (by first | trivial | rfl) ?_
            exact sg_X9_burn_69 C hl hf ho hh hn (by first | (simp [bI, sp_over, dlt, dgt, dge, dle, c_5, c_13, c_35, c_51, c_59]; done) | exact absurd (c_35.symm.trans c_51) (by decide)) M (fun h9 u9 => u9.to (by rw [feel_1 c_5 h1]))
          · try simp only [cg_ge, cg_gt, cl_gt, cl_le, cl_eq, cl_lt, cl_ge, bi_eq0, bi_ne0, bI_eq0, Decidable.not_not, Bool.not_eq_false] at c_59
            refine w_iconst (v := 1) C dX9_burn_62 (by rfl) ?_
            refine w_goto (tgt := 67) C dX9_burn_63 (by rfl) ?_
            refine w_istore_6 C dX9_burn_67 (by first | trivial | rfl) ?_
            exact sg_X9_burn_69 C hl hf ho hh hn (by first | (simp [bI, sp_over, dlt, dgt, dge, dle, c_5, c_13, c_35, c_51, c_59]; done) | exact absurd (c_35.symm.trans c_51) (by decide)) M (fun h9 u9 => u9.to (by rw [feel_1 c_5 h1]))
      · try simp only [cg_ge, cg_gt, cl_gt, cl_le, cl_eq, cl_lt, cl_ge, bi_eq0, bi_ne0, bI_eq0, Decidable.not_not, Bool.not_eq_false] at c_35
        refine w_dload_n C dX9_burn_38 (by rfl) ?_
        refine lc_X9_63 C dX9_burn_39 ?_
        refine w_dcmp C dX9_burn_42 ?_
        refine w_if_ge (tgt := 62) C dX9_burn_43 (by rfl) (fun c_43 => ?_) (fun c_43 => ?_)
        · try simp only [cg_ge, cg_gt, cl_gt, cl_le, cl_eq, cl_lt, cl_ge, bi_eq0, bi_ne0, bI_eq0, Decidable.not_not, Bool.not_eq_false] at c_43
          refine w_iconst (v := 1) C dX9_burn_62 (by rfl) ?_
          refine w_goto (tgt := 67) C dX9_burn_63 (by rfl) ?_
          refine w_istore_6 C dX9_burn_67 (by first | trivial | rfl) ?_
          exact sg_X9_burn_69 C hl hf ho hh hn (by first | (simp [bI, sp_over, dlt, dgt, dge, dle, c_5, c_13, c_35, c_43]; done) | exact absurd (c_35.symm.trans c_51) (by decide)) M (fun h9 u9 => u9.to (by rw [feel_1 c_5 h1]))
        · try simp only [cg_ge, cg_gt, cl_gt, cl_le, cl_eq, cl_lt, cl_ge, bi_eq0, bi_ne0, bI_eq0, Decidable.not_not, Bool.not_eq_false] at c_43
          refine w_dload_n C dX9_burn_46 (by rfl) ?_
          refine lc_X9_63 C dX9_burn_47 ?_
          refine w_dcmp C dX9_burn_50 ?_
          refine w_if_le (tgt := 66) C dX9_burn_51 (by rfl) (fun c_51 => ?_) (fun c_51 => ?_)
          · try simp only [cg_ge, cg_gt, cl_gt, cl_le, cl_eq, cl_lt, cl_ge, bi_eq0, bi_ne0, bI_eq0, Decidable.not_not, Bool.not_eq_false] at c_51
            refine w_iconst (v := 0) C dX9_burn_66 (by rfl) ?_
            refine w_istore_6 C dX9_burn_67 (by first | trivial | rfl) ?_
            exact sg_X9_burn_69 C hl hf ho hh hn (by first | (simp [bI, sp_over, dlt, dgt, dge, dle, c_5, c_13, c_35, c_43, c_51]; done) | exact absurd (c_35.symm.trans c_51) (by decide)) M (fun h9 u9 => u9.to (by rw [feel_1 c_5 h1]))
          · try simp only [cg_ge, cg_gt, cl_gt, cl_le, cl_eq, cl_lt, cl_ge, bi_eq0, bi_ne0, bI_eq0, Decidable.not_not, Bool.not_eq_false] at c_51
            refine w_dload_n C dX9_burn_54 (by rfl) ?_
            refine lc_X9_63 C dX9_burn_55 ?_
            refine w_dcmp C dX9_burn_58 ?_
            refine w_if_gt (tgt := 66) C dX9_burn_59 (by rfl) (fun c_59 => ?_) (fun c_59 => ?_)
            · try simp only [cg_ge, cg_gt, cl_gt, cl_le, cl_eq, cl_lt, cl_ge, bi_eq0, bi_ne0, bI_eq0, Decidable.not_not, Bool.not_eq_false] at c_59
              refine w_iconst (v := 0) C dX9_burn_66 (by rfl) ?_
              refine w_istore_6 C dX9_burn_67 (by first | trivial | rfl) ?_
              exact sg_X9_burn_69 C hl hf ho hh hn (by first | (simp [bI, sp_over, dlt, dgt, dge, dle, c_5, c_13, c_35, c_43, c_51, c_59]; done) | exact absurd (c_35.symm.trans c_51) (by decide)) M (fun h9 u9 => u9.to (by rw [feel_1 c_5 h1]))
            · try simp only [cg_ge, cg_gt, cl_gt, cl_le, cl_eq, cl_lt, cl_ge, bi_eq0, bi_ne0, bI_eq0, Decidable.not_not, Bool.not_eq_false] at c_59
              refine w_iconst (v := 1) C dX9_burn_62 (by rfl) ?_
              refine w_goto (tgt := 67) C dX9_burn_63 (by rfl) ?_
              refine w_istore_6 C dX9_burn_67 (by first | trivial | rfl) ?_
              exact sg_X9_burn_69 C hl hf ho hh hn (by first | (simp [bI, sp_over, dlt, dgt, dge, dle, c_5, c_13, c_35, c_43, c_51, c_59]; done) | exact absurd (c_35.symm.trans c_51) (by decide)) M (fun h9 u9 => u9.to (by rw [feel_1 c_5 h1]))
    · try simp only [cg_ge, cg_gt, cl_gt, cl_le, cl_eq, cl_lt, cl_ge, bi_eq0, bi_ne0, bI_eq0, Decidable.not_not, Bool.not_eq_false] at c_13
      refine w_dload_n C dX9_burn_16 (by rfl) ?_
      refine lc_X9_57 C dX9_burn_17 ?_
      refine w_dcmp C dX9_burn_20 ?_
      refine w_if_le (tgt := 30) C dX9_burn_21 (by rfl) (fun c_21 => ?_) (fun c_21 => ?_)
      · try simp only [cg_ge, cg_gt, cl_gt, cl_le, cl_eq, cl_lt, cl_ge, bi_eq0, bi_ne0, bI_eq0, Decidable.not_not, Bool.not_eq_false] at c_21
        have h1 : ¬ (qSt q = 0 ∧ dgt hot 4636737291354636288) := fun w => c_21 w.2
        refine w_dload_n C dX9_burn_30 (by rfl) ?_
        refine lc_X9_63 C dX9_burn_31 ?_
        refine w_dcmp C dX9_burn_34 ?_
        refine w_if_ge (tgt := 46) C dX9_burn_35 (by rfl) (fun c_35 => ?_) (fun c_35 => ?_)
        · try simp only [cg_ge, cg_gt, cl_gt, cl_le, cl_eq, cl_lt, cl_ge, bi_eq0, bi_ne0, bI_eq0, Decidable.not_not, Bool.not_eq_false] at c_35
          refine w_dload_n C dX9_burn_46 (by rfl) ?_
          refine lc_X9_63 C dX9_burn_47 ?_
          refine w_dcmp C dX9_burn_50 ?_
          refine w_if_le (tgt := 66) C dX9_burn_51 (by rfl) (fun c_51 => ?_) (fun c_51 => ?_)
          · try simp only [cg_ge, cg_gt, cl_gt, cl_le, cl_eq, cl_lt, cl_ge, bi_eq0, bi_ne0, bI_eq0, Decidable.not_not, Bool.not_eq_false] at c_51
            refine w_iconst (v := 0) C dX9_burn_66 (by rfl) ?_
            refine w_istore_6 C dX9_burn_67 (by first | trivial | rfl) ?_
            exact sg_X9_burn_69 C hl hf ho hh hn (by first | (simp [bI, sp_over, dlt, dgt, dge, dle, c_5, c_13, c_21, c_35, c_51]; done) | exact absurd (c_35.symm.trans c_51) (by decide)) M (fun h9 u9 => u9.to (by rw [feel_1 c_5 h1]))
          · try simp only [cg_ge, cg_gt, cl_gt, cl_le, cl_eq, cl_lt, cl_ge, bi_eq0, bi_ne0, bI_eq0, Decidable.not_not, Bool.not_eq_false] at c_51
            refine w_dload_n C dX9_burn_54 (by rfl) ?_
            refine lc_X9_63 C dX9_burn_55 ?_
            refine w_dcmp C dX9_burn_58 ?_
            refine w_if_gt (tgt := 66) C dX9_burn_59 (by rfl) (fun c_59 => ?_) (fun c_59 => ?_)
            · try simp only [cg_ge, cg_gt, cl_gt, cl_le, cl_eq, cl_lt, cl_ge, bi_eq0, bi_ne0, bI_eq0, Decidable.not_not, Bool.not_eq_false] at c_59
              refine w_iconst (v := 0) C dX9_burn_66 (by rfl) ?_
              refine w_istore_6 C dX9_burn_67 (by first | trivial | rfl) ?_
              exact sg_X9_burn_69 C hl hf ho hh hn (by first | (simp [bI, sp_over, dlt, dgt, dge, dle, c_5, c_13, c_21, c_35, c_51, c_59]; done) | exact absurd (c_35.symm.trans c_51) (by decide)) M (fun h9 u9 => u9.to (by rw [feel_1 c_5 h1]))
            · try simp only [cg_ge, cg_gt, cl_gt, cl_le, cl_eq, cl_lt, cl_ge, bi_eq0, bi_ne0, bI_eq0, Decidable.not_not, Bool.not_eq_false] at c_59
              refine w_iconst (v := 1) C dX9_burn_62 (by rfl) ?_
              refine w_goto (tgt := 67) C dX9_burn_63 (by rfl) ?_
              refine w_istore_6 C dX9_burn_67 (by first | trivial | rfl) ?_
              exact sg_X9_burn_69 C hl hf ho hh hn (by first | (simp [bI, sp_over, dlt, dgt, dge, dle, c_5, c_13, c_21, c_35, c_51, c_59]; done) | exact absurd (c_35.symm.trans c_51) (by decide)) M (fun h9 u9 => u9.to (by rw [feel_1 c_5 h1]))
        · try simp only [cg_ge, cg_gt, cl_gt, cl_le, cl_eq, cl_lt, cl_ge, bi_eq0, bi_ne0, bI_eq0, Decidable.not_not, Bool.not_eq_false] at c_35
          refine w_dload_n C dX9_burn_38 (by rfl) ?_
          refine lc_X9_63 C dX9_burn_39 ?_
          refine w_dcmp C dX9_burn_42 ?_
          refine w_if_ge (tgt := 62) C dX9_burn_43 (by rfl) (fun c_43 => ?_) (fun c_43 => ?_)
          · try simp only [cg_ge, cg_gt, cl_gt, cl_le, cl_eq, cl_lt, cl_ge, bi_eq0, bi_ne0, bI_eq0, Decidable.not_not, Bool.not_eq_false] at c_43
            refine w_iconst (v := 1) C dX9_burn_62 (by rfl) ?_
            refine w_goto (tgt := 67) C dX9_burn_63 (by rfl) ?_
            refine w_istore_6 C dX9_burn_67 (by first | trivial | rfl) ?_
            exact sg_X9_burn_69 C hl hf ho hh hn (by first | (simp [bI, sp_over, dlt, dgt, dge, dle, c_5, c_13, c_21, c_35, c_43]; done) | exact absurd (c_35.symm.trans c_51) (by decide)) M (fun h9 u9 => u9.to (by rw [feel_1 c_5 h1]))
          · try simp only [cg_ge, cg_gt, cl_gt, cl_le, cl_eq, cl_lt, cl_ge, bi_eq0, bi_ne0, bI_eq0, Decidable.not_not, Bool.not_eq_false] at c_43
            refine w_dload_n C dX9_burn_46 (by rfl) ?_
            refine lc_X9_63 C dX9_burn_47 ?_
            refine w_dcmp C dX9_burn_50 ?_
            refine w_if_le (tgt := 66) C dX9_burn_51 (by rfl) (fun c_51 => ?_) (fun c_51 => ?_)
            · try simp only [cg_ge, cg_gt, cl_gt, cl_le, cl_eq, cl_lt, cl_ge, bi_eq0, bi_ne0, bI_eq0, Decidable.not_not, Bool.not_eq_false] at c_51
              refine w_iconst (v := 0) C dX9_burn_66 (by rfl) ?_
              refine w_istore_6 C dX9_burn_67 (by first | trivial | rfl) ?_
              exact sg_X9_burn_69 C hl hf ho hh hn (by first | (simp [bI, sp_over, dlt, dgt, dge, dle, c_5, c_13, c_21, c_35, c_43, c_51]; done) | exact absurd (c_35.symm.trans c_51) (by decide)) M (fun h9 u9 => u9.to (by rw [feel_1 c_5 h1]))
            · try simp only [cg_ge, cg_gt, cl_gt, cl_le, cl_eq, cl_lt, cl_ge, bi_eq0, bi_ne0, bI_eq0, Decidable.not_not, Bool.not_eq_false] at c_51
              refine w_dload_n C dX9_burn_54 (by rfl) ?_
              refine lc_X9_63 C dX9_burn_55 ?_
              refine w_dcmp C dX9_burn_58 ?_
              refine w_if_gt (tgt := 66) C dX9_burn_59 (by rfl) (fun c_59 => ?_) (fun c_59 => ?_)
              · try simp only [cg_ge, cg_gt, cl_gt, cl_le, cl_eq, cl_lt, cl_ge, bi_eq0, bi_ne0, bI_eq0, Decidable.not_not, Bool.not_eq_false] at c_59
                refine w_iconst (v := 0) C dX9_burn_66 (by rfl) ?_
                refine w_istore_6 C dX9_burn_67 (by first | trivial | rfl) ?_
                exact sg_X9_burn_69 C hl hf ho hh hn (by first | (simp [bI, sp_over, dlt, dgt, dge, dle, c_5, c_13, c_21, c_35, c_43, c_51, c_59]; done) | exact absurd (c_35.symm.trans c_51) (by decide)) M (fun h9 u9 => u9.to (by rw [feel_1 c_5 h1]))
              · try simp only [cg_ge, cg_gt, cl_gt, cl_le, cl_eq, cl_lt, cl_ge, bi_eq0, bi_ne0, bI_eq0, Decidable.not_not, Bool.not_eq_false] at c_59
                refine w_iconst (v := 1) C dX9_burn_62 (by rfl) ?_
                refine w_goto (tgt := 67) C dX9_burn_63 (by rfl) ?_
                refine w_istore_6 C dX9_burn_67 (by first | trivial | rfl) ?_
                exact sg_X9_burn_69 C hl hf ho hh hn (by first | (simp [bI, sp_over, dlt, dgt, dge, dle, c_5, c_13, c_21, c_35, c_43, c_51, c_59]; done) | exact absurd (c_35.symm.trans c_51) (by decide)) M (fun h9 u9 => u9.to (by rw [feel_1 c_5 h1]))
      · try simp only [cg_ge, cg_gt, cl_gt, cl_le, cl_eq, cl_lt, cl_ge, bi_eq0, bi_ne0, bI_eq0, Decidable.not_not, Bool.not_eq_false] at c_21
        first | refine w_aload_n C dX9_burn_24 (by rfl) ?_ | refine w_aload_nN C dX9_burn_24 (by rfl) ?_
        refine w_iconst (v := 1) C dX9_burn_25 (by rfl) ?_
        refine cl_X9_59 C (m_X9_fail hl hf) hf (by rfl) (by rfl) ⟨by decide, by decide⟩ (by rfl) dX9_burn_26 (fun h1 p1 => ?_)
        have hf := p1.self
        refine w_vret C M dX9_burn_29 ⟨by decide, by decide⟩ ⟨rfl, ?_⟩
        exact p1.to (by rw [feel_0 c_5 c_13 c_21])
  · refine w_vret C M dX9_burn_8 ⟨by decide, by decide⟩ ⟨rfl, ?_⟩
    rw [feel_5 c_5]
    exact (hu_id hf).symm
