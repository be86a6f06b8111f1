/-! POTS, GLAZES, ORDERS -/
/-- the numbers of a pot: width, height, wall, state, water, covered, smoke, marks, shelf, cell -/
abbrev QT : Type := Int32 × Int32 × Int32 × Int32 × UInt32 × Bool × Int32 × Int32 × Int32 × Int32
abbrev qWd (q : QT) : Int32 := q.1
abbrev qHg (q : QT) : Int32 := q.2.1
abbrev qWl (q : QT) : Int32 := q.2.2.1
abbrev qSt (q : QT) : Int32 := q.2.2.2.1
abbrev qWa (q : QT) : UInt32 := q.2.2.2.2.1
abbrev qCv (q : QT) : Bool := q.2.2.2.2.2.1
abbrev qSm (q : QT) : Int32 := q.2.2.2.2.2.2.1
abbrev qMk (q : QT) : Int32 := q.2.2.2.2.2.2.2.1
abbrev qSh (q : QT) : Int32 := q.2.2.2.2.2.2.2.2.1
abbrev qCe (q : QT) : Int32 := q.2.2.2.2.2.2.2.2.2
abbrev potC (cv gv : Value) (q : QT) : va_E := .inr (3, [cv, .int (qWd q), .int (qHg q), .int (qWl q), gv, .int (qSt q), .float (qWa q), .int (bi (qCv q)), .int (qSm q), .int (qMk q), .int (qSh q), .int (qCe q)])
/-- a glaze: soda, lime, alumina, silica, iron -/
abbrev GT : Type := Int32 × Int32 × Int32 × Int32 × Int32
/-- a glaze's cell: its number, alumina, silica, iron, where it melts, its growth -/
abbrev gCell (i : Nat) (al si fe me : Int32) (gr : UInt64) : va_E := .inr (1, [.int (nI i), .int al, .int si, .int fe, .int me, .double gr])
abbrev cCell (top : Int32) (gr : UInt64) : va_E := .inr (0, [.int top, .double gr])
abbrev oCell (g c d p : Int32) (m : Bool) : va_E := .inr (7, [.int g, .int c, .int d, .int p, .int (bi m)])
def sp_loss0 (air wl : Int32) (cv : Bool) : UInt32 := if cv then FP.fdiv (FP.fdiv (FP.fdiv (FP.i2f air) FP.fconst2) (FP.i2f wl)) FP.fconst2 else FP.fdiv (FP.fdiv (FP.i2f air) FP.fconst2) (FP.i2f wl)
def sp_loss9 (air : Int32) (q : QT) : UInt32 := if fgt (sp_loss0 air (qWl q) (qCv q)) (qWa q) then qWa q else sp_loss0 air (qWl q) (qCv q)
/-- no NaN when water goes -/
def lossN (air : Int32) (q : QT) : Prop := vf_n32 (FP.fdiv (FP.i2f air) FP.fconst2) ∧ vf_n32 (FP.fdiv (FP.fdiv (FP.i2f air) FP.fconst2) (FP.i2f (qWl q))) ∧ vf_n32 (FP.fdiv (FP.fdiv (FP.fdiv (FP.i2f air) FP.fconst2) (FP.i2f (qWl q))) FP.fconst2) ∧ vf_n32 (FP.fsub (qWa q) (sp_loss9 air q))
def sp_lose (air : Int32) (q : QT) : QT :=
  if qSt q = 0 ∧ qSh q = -1 then
    (qWd q, qHg q, qWl q, (if fle (FP.fsub (qWa q) (sp_loss9 air q)) 1048576000 then 1 else qSt q), FP.fsub (qWa q) (sp_loss9 air q), qCv q, qSm q, (if fgt (sp_loss9 air q) 1069547520 then qMk q ||| 2 else qMk q), qSh q, qCe q)
  else q
theorem lose_no1 {air : Int32} {q : QT} (h : ¬ qSt q = 0) : sp_lose air q = q := if_neg (fun w => h w.1)
theorem lose_no2 {air : Int32} {q : QT} (h : ¬ qSh q = -1) : sp_lose air q = q := if_neg (fun w => h w.2)
/-- what heat does to a pot -/
abbrev sp_over (old hot : UInt64) : Prop := (dlt old 4648251377120706560 ∧ dge hot 4648251377120706560) ∨ (dgt old 4648251377120706560 ∧ dle hot 4648251377120706560)


set_option maxHeartbeats 4000000 in
set_option maxRecDepth 100000 in
theorem m_X4_init {l : Launch} {D : va_G} {tc : Nat → ClassId} (hl : l.stackTraces = false) {h : HM} {a ka : Nat} {v0 v1 v2 v3 v4 v5 v6 v7 v8 v9 v10 v11 : Value} {wd hg wl : Int32} (hf : h a = some (.inr (3, [v0, v1, v2, v3, v4, v5, v6, v7, v8, v9, v10, v11]))) :
    CT l D tc yX4_init cX4_init 5 none rm_X4_init [.ref a, .ref ka, .int wd, .int hg, .int wl] h (rV (fun h' => Up h a (potC (.ref ka) .null (wd, hg, wl, 0, 1090519040, false, 0, 0, -1, -1)) h')) := by
  refine CT.start [some (.ref a), some (.ref ka), some (.int wd), some (.int hg), some (.int wl)] (by decide) hl rfl rfl (fun K C M => ?_)
  obtain ⟨rfl, rfl, rfl, -⟩ := id M
  have C : CX K RX4 cX4_init 5 rm_X4_init := C
  first | refine w_aload_n C dX4_init_0 (by rfl) ?_ | refine w_aload_nN C dX4_init_0 (by rfl) ?_
  refine w_obji C gw_360 gw_44 gw_45 (by rfl) (by rfl) (by rfl) dX4_init_1 ?_
  first | refine w_aload_n C dX4_init_4 (by rfl) ?_ | refine w_aload_nN C dX4_init_4 (by rfl) ?_
  refine w_null C dX4_init_5 ?_
  refine pfN_X4_9 C hf dX4_init_6 (fun h1 u1 => ?_)
  have hf := u1.self
  first | refine w_aload_n C dX4_init_9 (by rfl) ?_ | refine w_aload_nN C dX4_init_9 (by rfl) ?_
  refine w_iconst (v := 0) C dX4_init_10 (by rfl) ?_
  refine pf_X4_15 C hf dX4_init_11 (fun h2 u2 => ?_)
  have hf := u2.self
  first | refine w_aload_n C dX4_init_14 (by rfl) ?_ | refine w_aload_nN C dX4_init_14 (by rfl) ?_
  refine lc_X4_19 C dX4_init_15 ?_
  refine pf_X4_20 C hf dX4_init_17 (fun h3 u3 => ?_)
  have hf := u3.self
  first | refine w_aload_n C dX4_init_20 (by rfl) ?_ | refine w_aload_nN C dX4_init_20 (by rfl) ?_
  refine w_iconst (v := 0) C dX4_init_21 (by rfl) ?_
  refine pf_X4_24 C hf (by first | exact Or.inl rfl | exact Or.inr rfl | assumption | exact bI_01 _ | exact bi_01 _) dX4_init_22 (fun h4 u4 => ?_)
  have hf := u4.self
  first | refine w_aload_n C dX4_init_25 (by rfl) ?_ | refine w_aload_nN C dX4_init_25 (by rfl) ?_
  refine w_iconst (v := 0) C dX4_init_26 (by rfl) ?_
  refine pf_X4_28 C hf dX4_init_27 (fun h5 u5 => ?_)
  have hf := u5.self
  first | refine w_aload_n C dX4_init_30 (by rfl) ?_ | refine w_aload_nN C dX4_init_30 (by rfl) ?_
  refine w_iconst (v := 0) C dX4_init_31 (by rfl) ?_
  refine pf_X4_31 C hf dX4_init_32 (fun h6 u6 => ?_)
  have hf := u6.self
  first | refine w_aload_n C dX4_init_35 (by rfl) ?_ | refine w_aload_nN C dX4_init_35 (by rfl) ?_
  refine w_iconst (v := (-1)) C dX4_init_36 (by rfl) ?_
  refine pf_X4_34 C hf dX4_init_37 (fun h7 u7 => ?_)
  have hf := u7.self
  first | refine w_aload_n C dX4_init_40 (by rfl) ?_ | refine w_aload_nN C dX4_init_40 (by rfl) ?_
  refine w_iconst (v := (-1)) C dX4_init_41 (by rfl) ?_
  refine pf_X4_37 C hf dX4_init_42 (fun h8 u8 => ?_)
  have hf := u8.self
  first | refine w_aload_n C dX4_init_45 (by rfl) ?_ | refine w_aload_nN C dX4_init_45 (by rfl) ?_
  first | refine w_aload_n C dX4_init_46 (by rfl) ?_ | refine w_aload_nN C dX4_init_46 (by rfl) ?_
  refine pf_X4_40 C hf dX4_init_47 M.2.2.2.2.2.2.1 (fun h9 u9 => ?_)
  have hf := u9.self
  first | refine w_aload_n C dX4_init_50 (by rfl) ?_ | refine w_aload_nN C dX4_init_50 (by rfl) ?_
  refine w_iload_n C dX4_init_51 (by rfl) ?_
  refine pf_X4_44 C hf dX4_init_52 M.2.2.2.2.2.2.1 (fun h10 u10 => ?_)
  have hf := u10.self
  first | refine w_aload_n C dX4_init_55 (by rfl) ?_ | refine w_aload_nN C dX4_init_55 (by rfl) ?_
  refine w_iload_n C dX4_init_56 (by rfl) ?_
  refine pf_X4_47 C hf dX4_init_57 M.2.2.2.2.2.2.1 (fun h11 u11 => ?_)
  have hf := u11.self
  first | refine w_aload_n C dX4_init_60 (by rfl) ?_ | refine w_aload_nN C dX4_init_60 (by rfl) ?_
  refine w_iload C dX4_init_61 (by rfl) ?_
  refine pf_X4_50 C hf dX4_init_63 M.2.2.2.2.2.2.1 (fun h12 u12 => ?_)
  have hf := u12.self
  refine w_vret C M dX4_init_66 ⟨by decide, by decide⟩ ⟨rfl, ?_⟩
  exact (((((((((((u1.tr u2).tr u3).tr u4).tr u5).tr u6).tr u7).tr u8).tr u9).tr u10).tr u11).tr u12)

set_option maxHeartbeats 4000000 in
set_option maxRecDepth 100000 in
theorem m_X4_leaveShelf {l : Launch} {D : va_G} {tc : Nat → ClassId} (hl : l.stackTraces = false) {h : HM} {a : Nat} {kv gv : Value} {q : QT} (hf : h a = some (potC kv gv q)) :
    CT l D tc yX4_leaveShelf cX4_leaveShelf 1 none rm_X4_leaveShelf [.ref a] h (rV (fun h' => Up h a (potC kv gv (qWd q, qHg q, qWl q, qSt q, qWa q, qCv q, qSm q, qMk q, -1, -1)) h')) := by
  refine CT.start [some (.ref a)] (by decide) hl rfl rfl (fun K C M => ?_)
  obtain ⟨rfl, rfl, rfl, -⟩ := id M
  have C : CX K RX4 cX4_leaveShelf 1 rm_X4_leaveShelf := C
  first | refine w_aload_n C dX4_leaveShelf_0 (by rfl) ?_ | refine w_aload_nN C dX4_leaveShelf_0 (by rfl) ?_
  refine w_iconst (v := (-1)) C dX4_leaveShelf_1 (by rfl) ?_
  refine pf_X4_34 C hf dX4_leaveShelf_2 (fun h1 u1 => ?_)
  have hf := u1.self
  first | refine w_aload_n C dX4_leaveShelf_5 (by rfl) ?_ | refine w_aload_nN C dX4_leaveShelf_5 (by rfl) ?_
  refine w_iconst (v := (-1)) C dX4_leaveShelf_6 (by rfl) ?_
  refine pf_X4_37 C hf dX4_leaveShelf_7 (fun h2 u2 => ?_)
  have hf := u2.self
  refine w_vret C M dX4_leaveShelf_10 ⟨by decide, by decide⟩ ⟨rfl, ?_⟩
  exact (u1.tr u2)

set_option maxHeartbeats 4000000 in
set_option maxRecDepth 100000 in
theorem m_X4_canBeSet {l : Launch} {D : va_G} {tc : Nat → ClassId} (hl : l.stackTraces = false) {h : HM} {a : Nat} {kv gv : Value} {q : QT} (hf : h a = some (potC kv gv q)) :
    CT l D tc yX4_canBeSet cX4_canBeSet 1 (some FieldType.boolean) rm_X4_canBeSet [.ref a] h (rI (fun z h' => h' = h ∧ z = bI (qSh q = -1 ∧ (qSt q = 0 ∨ qSt q = 1 ∨ qSt q = 3)))) := by
  refine CT.start [some (.ref a)] (by decide) hl rfl rfl (fun K C M => ?_)
  obtain ⟨rfl, rfl, rfl, -⟩ := id M
  have C : CX K RX4 cX4_canBeSet 1 rm_X4_canBeSet := C
  first | refine w_aload_n C dX4_canBeSet_0 (by rfl) ?_ | refine w_aload_nN C dX4_canBeSet_0 (by rfl) ?_
  refine gf_X4_34 C hf dX4_canBeSet_1 ?_
  refine w_iconst (v := (-1)) C dX4_canBeSet_4 (by rfl) ?_
  refine w_icmp_ne (tgt := 35) C dX4_canBeSet_5 (by rfl) (fun c_5 => ?_) (fun c_5 => ?_)
  · refine w_iconst (v := 0) C dX4_canBeSet_35 (by rfl) ?_
    refine w_zret C M dX4_canBeSet_36 ⟨by decide, by decide⟩ (by rfl) ⟨_, rfl, ?_⟩
    exact ⟨rfl, by simp [bI, qWd, qHg, qWl, qSt, qWa, qCv, qSm, qMk, qSh, qCe, c_5]⟩
  · first | refine w_aload_n C dX4_canBeSet_8 (by rfl) ?_ | refine w_aload_nN C dX4_canBeSet_8 (by rfl) ?_
    refine gf_X4_15 C hf dX4_canBeSet_9 ?_
    refine w_if_eq (tgt := 31) C dX4_canBeSet_12 (by rfl) (fun c_12 => ?_) (fun c_12 => ?_)
    · try simp only [cg_ge, cg_gt, cl_gt, cl_le, cl_eq, cl_lt, cl_ge, bi_eq0, bi_ne0, bI_eq0, Decidable.not_not, Bool.not_eq_false] at c_12
      refine w_iconst (v := 1) C dX4_canBeSet_31 (by rfl) ?_
      refine w_goto (tgt := 36) C dX4_canBeSet_32 (by rfl) ?_
      refine w_zret C M dX4_canBeSet_36 ⟨by decide, by decide⟩ (by rfl) ⟨_, rfl, ?_⟩
      exact ⟨rfl, by simp [bI, qWd, qHg, qWl, qSt, qWa, qCv, qSm, qMk, qSh, qCe, c_5, c_12]⟩
    · try simp only [cg_ge, cg_gt, cl_gt, cl_le, cl_eq, cl_lt, cl_ge, bi_eq0, bi_ne0, bI_eq0, Decidable.not_not, Bool.not_eq_false] at c_12
      first | refine w_aload_n C dX4_canBeSet_15 (by rfl) ?_ | refine w_aload_nN C dX4_canBeSet_15 (by rfl) ?_
      refine gf_X4_15 C hf dX4_canBeSet_16 ?_
      refine w_iconst (v := 1) C dX4_canBeSet_19 (by rfl) ?_
      refine w_icmp_eq (tgt := 31) C dX4_canBeSet_20 (by rfl) (fun c_20 => ?_) (fun c_20 => ?_)
      · refine w_iconst (v := 1) C dX4_canBeSet_31 (by rfl) ?_
        refine w_goto (tgt := 36) C dX4_canBeSet_32 (by rfl) ?_
        refine w_zret C M dX4_canBeSet_36 ⟨by decide, by decide⟩ (by rfl) ⟨_, rfl, ?_⟩
        exact ⟨rfl, by simp [bI, qWd, qHg, qWl, qSt, qWa, qCv, qSm, qMk, qSh, qCe, c_5, c_12, c_20]⟩
      · first | refine w_aload_n C dX4_canBeSet_23 (by rfl) ?_ | refine w_aload_nN C dX4_canBeSet_23 (by rfl) ?_
        refine gf_X4_15 C hf dX4_canBeSet_24 ?_
        refine w_iconst (v := 3) C dX4_canBeSet_27 (by rfl) ?_
        refine w_icmp_ne (tgt := 35) C dX4_canBeSet_28 (by rfl) (fun c_28 => ?_) (fun c_28 => ?_)
        · refine w_iconst (v := 0) C dX4_canBeSet_35 (by rfl) ?_
          refine w_zret C M dX4_canBeSet_36 ⟨by decide, by decide⟩ (by rfl) ⟨_, rfl, ?_⟩
          exact ⟨rfl, by simp [bI, qWd, qHg, qWl, qSt, qWa, qCv, qSm, qMk, qSh, qCe, c_5, c_12, c_20, c_28]⟩
        · refine w_iconst (v := 1) C dX4_canBeSet_31 (by rfl) ?_
          refine w_goto (tgt := 36) C dX4_canBeSet_32 (by rfl) ?_
          refine w_zret C M dX4_canBeSet_36 ⟨by decide, by decide⟩ (by rfl) ⟨_, rfl, ?_⟩
          exact ⟨rfl, by simp [bI, qWd, qHg, qWl, qSt, qWa, qCv, qSm, qMk, qSh, qCe, c_5, c_12, c_20, c_28]⟩

set_option maxHeartbeats 4000000 in
set_option maxRecDepth 100000 in
theorem m_X4_isReady {l : Launch} {D : va_G} {tc : Nat → ClassId} (hl : l.stackTraces = false) {h : HM} {a : Nat} {kv gv : Value} {q : QT} (hf : h a = some (potC kv gv q)) :
    CT l D tc yX4_isReady cX4_isReady 1 (some FieldType.boolean) rm_X4_isReady [.ref a] h (rI (fun z h' => h' = h ∧ z = bI (qSh q = -1 ∧ (qSt q = 1 ∨ qSt q = 3)))) := by
  refine CT.start [some (.ref a)] (by decide) hl rfl rfl (fun K C M => ?_)
  obtain ⟨rfl, rfl, rfl, -⟩ := id M
  have C : CX K RX4 cX4_isReady 1 rm_X4_isReady := C
  first | refine w_aload_n C dX4_isReady_0 (by rfl) ?_ | refine w_aload_nN C dX4_isReady_0 (by rfl) ?_
  refine cl_X4_61 C (m_X4_canBeSet hl hf) hf (by rfl) (by rfl) ⟨by decide, by decide⟩ (by rfl) dX4_isReady_1 (fun z1 h1 p1 => ?_)
  obtain ⟨rfl, rfl⟩ := p1
  refine w_if_eq (tgt := 18) C dX4_isReady_4 (by rfl) (fun c_4 => ?_) (fun c_4 => ?_)
  · try simp only [cg_ge, cg_gt, cl_gt, cl_le, cl_eq, cl_lt, cl_ge, bi_eq0, bi_ne0, bI_eq0, Decidable.not_not, Bool.not_eq_false] at c_4
    refine w_iconst (v := 0) C dX4_isReady_18 (by rfl) ?_
    refine w_zret C M dX4_isReady_19 ⟨by decide, by decide⟩ (by rfl) ⟨_, rfl, ?_⟩
    refine ⟨rfl, ?_⟩
    first
      | exact bI_f (fun w => c_4 ⟨w.1, Or.inr w.2⟩)
      | exact bI_t ⟨c_4.1, c_4.2.resolve_left c_11⟩
      | exact bI_f (fun w => by rcases w.2 with e | e <;> rw [e] at c_11 <;> revert c_11 <;> decide)
  · try simp only [cg_ge, cg_gt, cl_gt, cl_le, cl_eq, cl_lt, cl_ge, bi_eq0, bi_ne0, bI_eq0, Decidable.not_not, Bool.not_eq_false] at c_4
    first | refine w_aload_n C dX4_isReady_7 (by rfl) ?_ | refine w_aload_nN C dX4_isReady_7 (by rfl) ?_
    refine gf_X4_15 C hf dX4_isReady_8 ?_
    refine w_if_eq (tgt := 18) C dX4_isReady_11 (by rfl) (fun c_11 => ?_) (fun c_11 => ?_)
    · try simp only [cg_ge, cg_gt, cl_gt, cl_le, cl_eq, cl_lt, cl_ge, bi_eq0, bi_ne0, bI_eq0, Decidable.not_not, Bool.not_eq_false] at c_11
      refine w_iconst (v := 0) C dX4_isReady_18 (by rfl) ?_
      refine w_zret C M dX4_isReady_19 ⟨by decide, by decide⟩ (by rfl) ⟨_, rfl, ?_⟩
      refine ⟨rfl, ?_⟩
      first
        | exact bI_f (fun w => c_4 ⟨w.1, Or.inr w.2⟩)
        | exact bI_t ⟨c_4.1, c_4.2.resolve_left c_11⟩
        | exact bI_f (fun w => by rcases w.2 with e | e <;> rw [e] at c_11 <;> revert c_11 <;> decide)
    · try simp only [cg_ge, cg_gt, cl_gt, cl_le, cl_eq, cl_lt, cl_ge, bi_eq0, bi_ne0, bI_eq0, Decidable.not_not, Bool.not_eq_false] at c_11
      refine w_iconst (v := 1) C dX4_isReady_14 (by rfl) ?_
      refine w_goto (tgt := 19) C dX4_isReady_15 (by rfl) ?_
      refine w_zret C M dX4_isReady_19 ⟨by decide, by decide⟩ (by rfl) ⟨_, rfl, ?_⟩
      refine ⟨rfl, ?_⟩
      first
        | exact bI_f (fun w => c_4 ⟨w.1, Or.inr w.2⟩)
        | exact bI_t ⟨c_4.1, c_4.2.resolve_left c_11⟩
        | exact bI_f (fun w => by rcases w.2 with e | e <;> rw [e] at c_11 <;> revert c_11 <;> decide)

set_option maxHeartbeats 4000000 in
set_option maxRecDepth 100000 in
theorem m_X4_glazeNumberN {l : Launch} {D : va_G} {tc : Nat → ClassId} (hl : l.stackTraces = false) {h : HM} {a : Nat} {kv : Value} {q : QT} (hf : h a = some (potC kv .null q)) :
    CT l D tc yX4_glazeNumber cX4_glazeNumber 1 (some FieldType.int) rm_X4_glazeNumber [.ref a] h (rI (fun z h' => h' = h ∧ z = -1)) := by
  refine CT.start [some (.ref a)] (by decide) hl rfl rfl (fun K C M => ?_)
  obtain ⟨rfl, rfl, rfl, -⟩ := id M
  have C : CX K RX4 cX4_glazeNumber 1 rm_X4_glazeNumber := C
  first | refine w_aload_n C dX4_glazeNumber_0 (by rfl) ?_ | refine w_aload_nN C dX4_glazeNumber_0 (by rfl) ?_
  refine gf_X4_9 C hf dX4_glazeNumber_1 ?_
  refine w_ifnonnullN C dX4_glazeNumber_4 ?_
  refine w_iconst (v := (-1)) C dX4_glazeNumber_7 (by rfl) ?_
  refine w_goto (tgt := 18) C dX4_glazeNumber_8 (by rfl) ?_
  refine w_iret C M dX4_glazeNumber_18 ⟨by decide, by decide⟩ ⟨_, rfl, ?_⟩
  exact ⟨rfl, rfl⟩

set_option maxHeartbeats 4000000 in
set_option maxRecDepth 100000 in
theorem m_X4_glazeNumber {l : Launch} {D : va_G} {tc : Nat → ClassId} (hl : l.stackTraces = false) {h : HM} {a ga i : Nat} {kv : Value} {q : QT} {al si fe me : Int32} {gr : UInt64} (hf : h a = some (potC kv (.ref ga) q)) (hg : h ga = some (gCell i al si fe me gr)) :
    CT l D tc yX4_glazeNumber cX4_glazeNumber 1 (some FieldType.int) rm_X4_glazeNumber [.ref a] h (rI (fun z h' => h' = h ∧ z = nI i)) := by
  refine CT.start [some (.ref a)] (by decide) hl rfl rfl (fun K C M => ?_)
  obtain ⟨rfl, rfl, rfl, -⟩ := id M
  have C : CX K RX4 cX4_glazeNumber 1 rm_X4_glazeNumber := C
  first | refine w_aload_n C dX4_glazeNumber_0 (by rfl) ?_ | refine w_aload_nN C dX4_glazeNumber_0 (by rfl) ?_
  refine gf_X4_9 C hf dX4_glazeNumber_1 ?_
  refine w_ifnonnull (tgt := 11) C dX4_glazeNumber_4 (by rfl) ?_
  first | refine w_aload_n C dX4_glazeNumber_11 (by rfl) ?_ | refine w_aload_nN C dX4_glazeNumber_11 (by rfl) ?_
  refine gf_X4_9 C hf dX4_glazeNumber_12 ?_
  refine gf_X4_53 C hg dX4_glazeNumber_15 ?_
  refine w_iret C M dX4_glazeNumber_18 ⟨by decide, by decide⟩ ⟨_, rfl, ?_⟩
  exact ⟨rfl, rfl⟩

set_option maxHeartbeats 4000000 in
set_option maxRecDepth 100000 in
theorem m_X4_colourN {l : Launch} {D : va_G} {tc : Nat → ClassId} (hl : l.stackTraces = false) {h : HM} {a : Nat} {kv : Value} {q : QT} (hf : h a = some (potC kv .null q)) :
    CT l D tc yX4_colour cX4_colour 1 (some FieldType.int) rm_X4_colour [.ref a] h (rI (fun z h' => h' = h ∧ z = -1)) := by
  refine CT.start [some (.ref a)] (by decide) hl rfl rfl (fun K C M => ?_)
  obtain ⟨rfl, rfl, rfl, -⟩ := id M
  have C : CX K RX4 cX4_colour 1 rm_X4_colour := C
  first | refine w_aload_n C dX4_colour_0 (by rfl) ?_ | refine w_aload_nN C dX4_colour_0 (by rfl) ?_
  refine gf_X4_9 C hf dX4_colour_1 ?_
  refine w_ifnullN (tgt := 24) C dX4_colour_4 (by rfl) ?_
  refine w_iconst (v := (-1)) C dX4_colour_24 (by rfl) ?_
  refine w_iret C M dX4_colour_25 ⟨by decide, by decide⟩ ⟨_, rfl, ?_⟩
  exact ⟨rfl, rfl⟩

set_option maxHeartbeats 4000000 in
set_option maxRecDepth 100000 in
theorem m_X4_colour {l : Launch} {D : va_G} {tc : Nat → ClassId} (hl : l.stackTraces = false) {h : HM} {a ga i : Nat} {kv : Value} {q : QT} {al si fe me : Int32} {gr : UInt64} (hf : h a = some (potC kv (.ref ga) q)) (hg : h ga = some (gCell i al si fe me gr)) :
    CT l D tc yX4_colour cX4_colour 1 (some FieldType.int) rm_X4_colour [.ref a] h (rI (fun z h' => h' = h ∧ z = if qSt q = 4 ∨ qSt q = 6 then (if fe < 5 then 0 else if 4 ≤ qSm q then 1 else 2) else -1)) := by
  refine CT.start [some (.ref a)] (by decide) hl rfl rfl (fun K C M => ?_)
  obtain ⟨rfl, rfl, rfl, -⟩ := id M
  have C : CX K RX4 cX4_colour 1 rm_X4_colour := C
  first | refine w_aload_n C dX4_colour_0 (by rfl) ?_ | refine w_aload_nN C dX4_colour_0 (by rfl) ?_
  refine gf_X4_9 C hf dX4_colour_1 ?_
  refine w_ifnull C dX4_colour_4 ?_
  first | refine w_aload_n C dX4_colour_7 (by rfl) ?_ | refine w_aload_nN C dX4_colour_7 (by rfl) ?_
  refine gf_X4_15 C hf dX4_colour_8 ?_
  refine w_iconst (v := 4) C dX4_colour_11 (by rfl) ?_
  refine w_icmp_eq (tgt := 26) C dX4_colour_12 (by rfl) (fun c_12 => ?_) (fun c_12 => ?_)
  · first | refine w_aload_n C dX4_colour_26 (by rfl) ?_ | refine w_aload_nN C dX4_colour_26 (by rfl) ?_
    refine gf_X4_9 C hf dX4_colour_27 ?_
    refine gf_X4_58 C hg dX4_colour_30 ?_
    refine w_iconst (v := 5) C dX4_colour_33 (by rfl) ?_
    refine w_icmp_ge (tgt := 39) C dX4_colour_34 (by rfl) (fun c_34 => ?_) (fun c_34 => ?_)
    · first | refine w_aload_n C dX4_colour_39 (by rfl) ?_ | refine w_aload_nN C dX4_colour_39 (by rfl) ?_
      refine gf_X4_28 C hf dX4_colour_40 ?_
      refine w_iconst (v := 4) C dX4_colour_43 (by rfl) ?_
      refine w_icmp_lt (tgt := 51) C dX4_colour_44 (by rfl) (fun c_44 => ?_) (fun c_44 => ?_)
      · refine w_iconst (v := 2) C dX4_colour_51 (by rfl) ?_
        refine w_iret C M dX4_colour_52 ⟨by decide, by decide⟩ ⟨_, rfl, ?_⟩
        refine ⟨rfl, ?_⟩
        try simp only [← Int32.not_lt] at c_12 c_34 c_44
        simp [qWd, qHg, qWl, qSt, qWa, qCv, qSm, qMk, qSh, qCe, ← Int32.not_lt, c_12, c_34, c_44]
      · refine w_iconst (v := 1) C dX4_colour_47 (by rfl) ?_
        refine w_goto (tgt := 52) C dX4_colour_48 (by rfl) ?_
        refine w_iret C M dX4_colour_52 ⟨by decide, by decide⟩ ⟨_, rfl, ?_⟩
        refine ⟨rfl, ?_⟩
        try simp only [← Int32.not_lt] at c_12 c_34 c_44
        simp [qWd, qHg, qWl, qSt, qWa, qCv, qSm, qMk, qSh, qCe, ← Int32.not_lt, c_12, c_34, c_44]
    · refine w_iconst (v := 0) C dX4_colour_37 (by rfl) ?_
      refine w_iret C M dX4_colour_38 ⟨by decide, by decide⟩ ⟨_, rfl, ?_⟩
      refine ⟨rfl, ?_⟩
      try simp only [← Int32.not_lt] at c_12 c_34
      simp [qWd, qHg, qWl, qSt, qWa, qCv, qSm, qMk, qSh, qCe, ← Int32.not_lt, c_12, c_34]
  · first | refine w_aload_n C dX4_colour_15 (by rfl) ?_ | refine w_aload_nN C dX4_colour_15 (by rfl) ?_
    refine gf_X4_15 C hf dX4_colour_16 ?_
    refine w_bipush (v := (6)) C dX4_colour_19 (by rfl) ?_
    refine w_icmp_eq (tgt := 26) C dX4_colour_21 (by rfl) (fun c_21 => ?_) (fun c_21 => ?_)
    · first | refine w_aload_n C dX4_colour_26 (by rfl) ?_ | refine w_aload_nN C dX4_colour_26 (by rfl) ?_
      refine gf_X4_9 C hf dX4_colour_27 ?_
      refine gf_X4_58 C hg dX4_colour_30 ?_
      refine w_iconst (v := 5) C dX4_colour_33 (by rfl) ?_
      refine w_icmp_ge (tgt := 39) C dX4_colour_34 (by rfl) (fun c_34 => ?_) (fun c_34 => ?_)
      · first | refine w_aload_n C dX4_colour_39 (by rfl) ?_ | refine w_aload_nN C dX4_colour_39 (by rfl) ?_
        refine gf_X4_28 C hf dX4_colour_40 ?_
        refine w_iconst (v := 4) C dX4_colour_43 (by rfl) ?_
        refine w_icmp_lt (tgt := 51) C dX4_colour_44 (by rfl) (fun c_44 => ?_) (fun c_44 => ?_)
        · refine w_iconst (v := 2) C dX4_colour_51 (by rfl) ?_
          refine w_iret C M dX4_colour_52 ⟨by decide, by decide⟩ ⟨_, rfl, ?_⟩
          refine ⟨rfl, ?_⟩
          try simp only [← Int32.not_lt] at c_12 c_21 c_34 c_44
          simp [qWd, qHg, qWl, qSt, qWa, qCv, qSm, qMk, qSh, qCe, ← Int32.not_lt, c_12, c_21, c_34, c_44]
        · refine w_iconst (v := 1) C dX4_colour_47 (by rfl) ?_
          refine w_goto (tgt := 52) C dX4_colour_48 (by rfl) ?_
          refine w_iret C M dX4_colour_52 ⟨by decide, by decide⟩ ⟨_, rfl, ?_⟩
          refine ⟨rfl, ?_⟩
          try simp only [← Int32.not_lt] at c_12 c_21 c_34 c_44
          simp [qWd, qHg, qWl, qSt, qWa, qCv, qSm, qMk, qSh, qCe, ← Int32.not_lt, c_12, c_21, c_34, c_44]
      · refine w_iconst (v := 0) C dX4_colour_37 (by rfl) ?_
        refine w_iret C M dX4_colour_38 ⟨by decide, by decide⟩ ⟨_, rfl, ?_⟩
        refine ⟨rfl, ?_⟩
        try simp only [← Int32.not_lt] at c_12 c_21 c_34
        simp [qWd, qHg, qWl, qSt, qWa, qCv, qSm, qMk, qSh, qCe, ← Int32.not_lt, c_12, c_21, c_34]
    · refine w_iconst (v := (-1)) C dX4_colour_24 (by rfl) ?_
      refine w_iret C M dX4_colour_25 ⟨by decide, by decide⟩ ⟨_, rfl, ?_⟩
      refine ⟨rfl, ?_⟩
      try simp only [← Int32.not_lt] at c_12 c_21
      simp [qWd, qHg, qWl, qSt, qWa, qCv, qSm, qMk, qSh, qCe, ← Int32.not_lt, c_12, c_21]

set_option maxHeartbeats 4000000 in
set_option maxRecDepth 100000 in
theorem m_X4_loseWater {l : Launch} {D : va_G} {tc : Nat → ClassId} (hl : l.stackTraces = false) {h : HM} {a : Nat} {kv gv : Value} {q : QT} (hf : h a = some (potC kv gv q)) {air : Int32} (hn : lossN air q) :
    CT l D tc yX4_loseWater cX4_loseWater 3 none rm_X4_loseWater [.ref a, .int air] h (rV (fun h' => Up h a (potC kv gv (sp_lose air q)) h')) := by
  refine CT.start [some (.ref a), some (.int air), none] (by decide) hl rfl rfl (fun K C M => ?_)
  obtain ⟨rfl, rfl, rfl, -⟩ := id M
  have C : CX K RX4 cX4_loseWater 3 rm_X4_loseWater := C
  first | refine w_aload_n C dX4_loseWater_0 (by rfl) ?_ | refine w_aload_nN C dX4_loseWater_0 (by rfl) ?_
  refine gf_X4_15 C hf dX4_loseWater_1 ?_
  refine w_if_ne (tgt := 15) C dX4_loseWater_4 (by rfl) (fun c_4 => ?_) (fun c_4 => ?_)
  · try simp only [cg_ge, cg_gt, cl_gt, cl_le, cl_eq, cl_lt, cl_ge, bi_eq0, bi_ne0, bI_eq0, Decidable.not_not, Bool.not_eq_false] at c_4
    refine w_vret C M dX4_loseWater_15 ⟨by decide, by decide⟩ ⟨rfl, ?_⟩
    first
      | (rw [lose_no1 c_4]; exact (hu_id hf).symm)
      | (rw [lose_no2 c_12]; exact (hu_id hf).symm)
  · try simp only [cg_ge, cg_gt, cl_gt, cl_le, cl_eq, cl_lt, cl_ge, bi_eq0, bi_ne0, bI_eq0, Decidable.not_not, Bool.not_eq_false] at c_4
    first | refine w_aload_n C dX4_loseWater_7 (by rfl) ?_ | refine w_aload_nN C dX4_loseWater_7 (by rfl) ?_
    refine gf_X4_34 C hf dX4_loseWater_8 ?_
    refine w_iconst (v := (-1)) C dX4_loseWater_11 (by rfl) ?_
    refine w_icmp_eq (tgt := 16) C dX4_loseWater_12 (by rfl) (fun c_12 => ?_) (fun c_12 => ?_)
    · refine w_iload_n C dX4_loseWater_16 (by rfl) ?_
      refine w_i2f C dX4_loseWater_17 ?_
      refine w_fconst2 C dX4_loseWater_18 ?_
      refine w_fdiv C dX4_loseWater_19 hn.1 ?_
      first | refine w_aload_n C dX4_loseWater_20 (by rfl) ?_ | refine w_aload_nN C dX4_loseWater_20 (by rfl) ?_
      refine gf_X4_50 C hf dX4_loseWater_21 ?_
      refine w_i2f C dX4_loseWater_24 ?_
      refine w_fdiv C dX4_loseWater_25 hn.2.1 ?_
      refine w_fstore_2 C dX4_loseWater_26 (by first | trivial | rfl) ?_
      first | refine w_aload_n C dX4_loseWater_27 (by rfl) ?_ | refine w_aload_nN C dX4_loseWater_27 (by rfl) ?_
      refine gf_X4_24 C hf dX4_loseWater_28 ?_
      refine w_if_eq (tgt := 38) C dX4_loseWater_31 (by rfl) (fun c_31 => ?_) (fun c_31 => ?_)
      · try simp only [cg_ge, cg_gt, cl_gt, cl_le, cl_eq, cl_lt, cl_ge, bi_eq0, bi_ne0, bI_eq0, Decidable.not_not, Bool.not_eq_false] at c_31
        refine w_fload_n C dX4_loseWater_38 (by rfl) ?_
        first | refine w_aload_n C dX4_loseWater_39 (by rfl) ?_ | refine w_aload_nN C dX4_loseWater_39 (by rfl) ?_
        refine gf_X4_20 C hf dX4_loseWater_40 ?_
        refine w_fcmp C dX4_loseWater_43 ?_
        refine w_if_le (tgt := 52) C dX4_loseWater_44 (by rfl) (fun c_44 => ?_) (fun c_44 => ?_)
        · try simp only [cg_ge, cg_gt, cl_gt, cl_le, cl_eq, cl_lt, cl_ge, bi_eq0, bi_ne0, bI_eq0, Decidable.not_not, Bool.not_eq_false] at c_44
          have e8 : sp_loss0 air (qWl q) (qCv q) = FP.fdiv (FP.fdiv (FP.i2f air) FP.fconst2) (FP.i2f (qWl q)) := by simp only [sp_loss0, c_31, if_true, Bool.false_eq_true, if_false]
          have e9 : sp_loss9 air q = FP.fdiv (FP.fdiv (FP.i2f air) FP.fconst2) (FP.i2f (qWl q)) := by rw [← e8]; rw [← e8] at c_44; exact if_neg c_44
          have hn9 := hn.2.2.2
          rw [← e9]
          first | refine w_aload_n C dX4_loseWater_52 (by rfl) ?_ | refine w_aload_nN C dX4_loseWater_52 (by rfl) ?_
          first | refine w_aload_n C dX4_loseWater_53 (by rfl) ?_ | refine w_aload_nN C dX4_loseWater_53 (by rfl) ?_
          refine gf_X4_20 C hf dX4_loseWater_54 ?_
          refine w_fload_n C dX4_loseWater_57 (by rfl) ?_
          refine w_fsub C dX4_loseWater_58 hn9 ?_
          refine pf_X4_20 C hf dX4_loseWater_59 (fun h1 u1 => ?_)
          have hf := u1.self
          refine w_fload_n C dX4_loseWater_62 (by rfl) ?_
          refine lc_X4_65 C dX4_loseWater_63 ?_
          refine w_fcmp C dX4_loseWater_65 ?_
          refine w_if_le (tgt := 79) C dX4_loseWater_66 (by rfl) (fun c_66 => ?_) (fun c_66 => ?_)
          · try simp only [cg_ge, cg_gt, cl_gt, cl_le, cl_eq, cl_lt, cl_ge, bi_eq0, bi_ne0, bI_eq0, Decidable.not_not, Bool.not_eq_false] at c_66
            first | refine w_aload_n C dX4_loseWater_79 (by rfl) ?_ | refine w_aload_nN C dX4_loseWater_79 (by rfl) ?_
            refine gf_X4_20 C hf dX4_loseWater_80 ?_
            refine lc_X4_66 C dX4_loseWater_83 ?_
            refine w_fcmp C dX4_loseWater_85 ?_
            refine w_if_gt (tgt := 94) C dX4_loseWater_86 (by rfl) (fun c_86 => ?_) (fun c_86 => ?_)
            · try simp only [cg_ge, cg_gt, cl_gt, cl_le, cl_eq, cl_lt, cl_ge, bi_eq0, bi_ne0, bI_eq0, Decidable.not_not, Bool.not_eq_false] at c_86
              refine w_vret C M dX4_loseWater_94 ⟨by decide, by decide⟩ ⟨rfl, ?_⟩
              exact u1.to (by simp [sp_lose, qWd, qHg, qWl, qSt, qWa, qCv, qSm, qMk, qSh, qCe, dlt, dgt, deq, dge, dle, kH, kP, kO, kL, kA, kE, kC, kF, kS, kW, c_4, c_12, c_31, c_44, c_66, c_86])
            · try simp only [cg_ge, cg_gt, cl_gt, cl_le, cl_eq, cl_lt, cl_ge, bi_eq0, bi_ne0, bI_eq0, Decidable.not_not, Bool.not_eq_false] at c_86
              first | refine w_aload_n C dX4_loseWater_89 (by rfl) ?_ | refine w_aload_nN C dX4_loseWater_89 (by rfl) ?_
              refine w_iconst (v := 1) C dX4_loseWater_90 (by rfl) ?_
              refine pf_X4_15 C hf dX4_loseWater_91 (fun h2 u2 => ?_)
              have hf := u2.self
              refine w_vret C M dX4_loseWater_94 ⟨by decide, by decide⟩ ⟨rfl, ?_⟩
              exact (u1.tr u2).to (by simp [sp_lose, qWd, qHg, qWl, qSt, qWa, qCv, qSm, qMk, qSh, qCe, dlt, dgt, deq, dge, dle, kH, kP, kO, kL, kA, kE, kC, kF, kS, kW, c_4, c_12, c_31, c_44, c_66, c_86])
          · try simp only [cg_ge, cg_gt, cl_gt, cl_le, cl_eq, cl_lt, cl_ge, bi_eq0, bi_ne0, bI_eq0, Decidable.not_not, Bool.not_eq_false] at c_66
            first | refine w_aload_n C dX4_loseWater_69 (by rfl) ?_ | refine w_aload_nN C dX4_loseWater_69 (by rfl) ?_
            refine w_dup C dX4_loseWater_70 (by rfl) ?_
            refine gf_X4_31 C hf dX4_loseWater_71 ?_
            refine w_iconst (v := 2) C dX4_loseWater_74 (by rfl) ?_
            refine w_ior C dX4_loseWater_75 ?_
            refine pf_X4_31 C hf dX4_loseWater_76 (fun h3 u3 => ?_)
            have hf := u3.self
            first | refine w_aload_n C dX4_loseWater_79 (by rfl) ?_ | refine w_aload_nN C dX4_loseWater_79 (by rfl) ?_
            refine gf_X4_20 C hf dX4_loseWater_80 ?_
            refine lc_X4_66 C dX4_loseWater_83 ?_
            refine w_fcmp C dX4_loseWater_85 ?_
            refine w_if_gt (tgt := 94) C dX4_loseWater_86 (by rfl) (fun c_86 => ?_) (fun c_86 => ?_)
            · try simp only [cg_ge, cg_gt, cl_gt, cl_le, cl_eq, cl_lt, cl_ge, bi_eq0, bi_ne0, bI_eq0, Decidable.not_not, Bool.not_eq_false] at c_86
              refine w_vret C M dX4_loseWater_94 ⟨by decide, by decide⟩ ⟨rfl, ?_⟩
              exact (u1.tr u3).to (by simp [sp_lose, qWd, qHg, qWl, qSt, qWa, qCv, qSm, qMk, qSh, qCe, dlt, dgt, deq, dge, dle, kH, kP, kO, kL, kA, kE, kC, kF, kS, kW, c_4, c_12, c_31, c_44, c_66, c_86])
            · try simp only [cg_ge, cg_gt, cl_gt, cl_le, cl_eq, cl_lt, cl_ge, bi_eq0, bi_ne0, bI_eq0, Decidable.not_not, Bool.not_eq_false] at c_86
              first | refine w_aload_n C dX4_loseWater_89 (by rfl) ?_ | refine w_aload_nN C dX4_loseWater_89 (by rfl) ?_
              refine w_iconst (v := 1) C dX4_loseWater_90 (by rfl) ?_
              refine pf_X4_15 C hf dX4_loseWater_91 (fun h4 u4 => ?_)
              have hf := u4.self
              refine w_vret C M dX4_loseWater_94 ⟨by decide, by decide⟩ ⟨rfl, ?_⟩
              exact ((u1.tr u3).tr u4).to (by simp [sp_lose, qWd, qHg, qWl, qSt, qWa, qCv, qSm, qMk, qSh, qCe, dlt, dgt, deq, dge, dle, kH, kP, kO, kL, kA, kE, kC, kF, kS, kW, c_4, c_12, c_31, c_44, c_66, c_86])
        · try simp only [cg_ge, cg_gt, cl_gt, cl_le, cl_eq, cl_lt, cl_ge, bi_eq0, bi_ne0, bI_eq0, Decidable.not_not, Bool.not_eq_false] at c_44
          first | refine w_aload_n C dX4_loseWater_47 (by rfl) ?_ | refine w_aload_nN C dX4_loseWater_47 (by rfl) ?_
          refine gf_X4_20 C hf dX4_loseWater_48 ?_
          refine w_fstore_2 C dX4_loseWater_51 (by first | trivial | rfl) ?_
          have e8 : sp_loss0 air (qWl q) (qCv q) = FP.fdiv (FP.fdiv (FP.i2f air) FP.fconst2) (FP.i2f (qWl q)) := by simp only [sp_loss0, c_31, if_true, Bool.false_eq_true, if_false]
          have e9 : sp_loss9 air q = qWa q := by rw [← e8] at c_44; exact if_pos c_44
          have hn9 := hn.2.2.2
          rw [← e9]
          first | refine w_aload_n C dX4_loseWater_52 (by rfl) ?_ | refine w_aload_nN C dX4_loseWater_52 (by rfl) ?_
          first | refine w_aload_n C dX4_loseWater_53 (by rfl) ?_ | refine w_aload_nN C dX4_loseWater_53 (by rfl) ?_
          refine gf_X4_20 C hf dX4_loseWater_54 ?_
          refine w_fload_n C dX4_loseWater_57 (by rfl) ?_
          refine w_fsub C dX4_loseWater_58 hn9 ?_
          refine pf_X4_20 C hf dX4_loseWater_59 (fun h5 u5 => ?_)
          have hf := u5.self
          refine w_fload_n C dX4_loseWater_62 (by rfl) ?_
          refine lc_X4_65 C dX4_loseWater_63 ?_
          refine w_fcmp C dX4_loseWater_65 ?_
          refine w_if_le (tgt := 79) C dX4_loseWater_66 (by rfl) (fun c_66 => ?_) (fun c_66 => ?_)
          · try simp only [cg_ge, cg_gt, cl_gt, cl_le, cl_eq, cl_lt, cl_ge, bi_eq0, bi_ne0, bI_eq0, Decidable.not_not, Bool.not_eq_false] at c_66
            first | refine w_aload_n C dX4_loseWater_79 (by rfl) ?_ | refine w_aload_nN C dX4_loseWater_79 (by rfl) ?_
            refine gf_X4_20 C hf dX4_loseWater_80 ?_
            refine lc_X4_66 C dX4_loseWater_83 ?_
            refine w_fcmp C dX4_loseWater_85 ?_
            refine w_if_gt (tgt := 94) C dX4_loseWater_86 (by rfl) (fun c_86 => ?_) (fun c_86 => ?_)
            · try simp only [cg_ge, cg_gt, cl_gt, cl_le, cl_eq, cl_lt, cl_ge, bi_eq0, bi_ne0, bI_eq0, Decidable.not_not, Bool.not_eq_false] at c_86
              refine w_vret C M dX4_loseWater_94 ⟨by decide, by decide⟩ ⟨rfl, ?_⟩
              exact u5.to (by simp [sp_lose, qWd, qHg, qWl, qSt, qWa, qCv, qSm, qMk, qSh, qCe, dlt, dgt, deq, dge, dle, kH, kP, kO, kL, kA, kE, kC, kF, kS, kW, c_4, c_12, c_31, c_44, c_66, c_86])
            · try simp only [cg_ge, cg_gt, cl_gt, cl_le, cl_eq, cl_lt, cl_ge, bi_eq0, bi_ne0, bI_eq0, Decidable.not_not, Bool.not_eq_false] at c_86
              first | refine w_aload_n C dX4_loseWater_89 (by rfl) ?_ | refine w_aload_nN C dX4_loseWater_89 (by rfl) ?_
              refine w_iconst (v := 1) C dX4_loseWater_90 (by rfl) ?_
              refine pf_X4_15 C hf dX4_loseWater_91 (fun h6 u6 => ?_)
              have hf := u6.self
              refine w_vret C M dX4_loseWater_94 ⟨by decide, by decide⟩ ⟨rfl, ?_⟩
              exact (u5.tr u6).to (by simp [sp_lose, qWd, qHg, qWl, qSt, qWa, qCv, qSm, qMk, qSh, qCe, dlt, dgt, deq, dge, dle, kH, kP, kO, kL, kA, kE, kC, kF, kS, kW, c_4, c_12, c_31, c_44, c_66, c_86])
          · try simp only [cg_ge, cg_gt, cl_gt, cl_le, cl_eq, cl_lt, cl_ge, bi_eq0, bi_ne0, bI_eq0, Decidable.not_not, Bool.not_eq_false] at c_66
            first | refine w_aload_n C dX4_loseWater_69 (by rfl) ?_ | refine w_aload_nN C dX4_loseWater_69 (by rfl) ?_
            refine w_dup C dX4_loseWater_70 (by rfl) ?_
            refine gf_X4_31 C hf dX4_loseWater_71 ?_
            refine w_iconst (v := 2) C dX4_loseWater_74 (by rfl) ?_
            refine w_ior C dX4_loseWater_75 ?_
            refine pf_X4_31 C hf dX4_loseWater_76 (fun h7 u7 => ?_)
            have hf := u7.self
            first | refine w_aload_n C dX4_loseWater_79 (by rfl) ?_ | refine w_aload_nN C dX4_loseWater_79 (by rfl) ?_
            refine gf_X4_20 C hf dX4_loseWater_80 ?_
            refine lc_X4_66 C dX4_loseWater_83 ?_
            refine w_fcmp C dX4_loseWater_85 ?_
            refine w_if_gt (tgt := 94) C dX4_loseWater_86 (by rfl) (fun c_86 => ?_) (fun c_86 => ?_)
            · try simp only [cg_ge, cg_gt, cl_gt, cl_le, cl_eq, cl_lt, cl_ge, bi_eq0, bi_ne0, bI_eq0, Decidable.not_not, Bool.not_eq_false] at c_86
              refine w_vret C M dX4_loseWater_94 ⟨by decide, by decide⟩ ⟨rfl, ?_⟩
              exact (u5.tr u7).to (by simp [sp_lose, qWd, qHg, qWl, qSt, qWa, qCv, qSm, qMk, qSh, qCe, dlt, dgt, deq, dge, dle, kH, kP, kO, kL, kA, kE, kC, kF, kS, kW, c_4, c_12, c_31, c_44, c_66, c_86])
            · try simp only [cg_ge, cg_gt, cl_gt, cl_le, cl_eq, cl_lt, cl_ge, bi_eq0, bi_ne0, bI_eq0, Decidable.not_not, Bool.not_eq_false] at c_86
              first | refine w_aload_n C dX4_loseWater_89 (by rfl) ?_ | refine w_aload_nN C dX4_loseWater_89 (by rfl) ?_
              refine w_iconst (v := 1) C dX4_loseWater_90 (by rfl) ?_
              refine pf_X4_15 C hf dX4_loseWater_91 (fun h8 u8 => ?_)
              have hf := u8.self
              refine w_vret C M dX4_loseWater_94 ⟨by decide, by decide⟩ ⟨rfl, ?_⟩
              exact ((u5.tr u7).tr u8).to (by simp [sp_lose, qWd, qHg, qWl, qSt, qWa, qCv, qSm, qMk, qSh, qCe, dlt, dgt, deq, dge, dle, kH, kP, kO, kL, kA, kE, kC, kF, kS, kW, c_4, c_12, c_31, c_44, c_66, c_86])
      · try simp only [cg_ge, cg_gt, cl_gt, cl_le, cl_eq, cl_lt, cl_ge, bi_eq0, bi_ne0, bI_eq0, Decidable.not_not, Bool.not_eq_false] at c_31
        refine w_fload_n C dX4_loseWater_34 (by rfl) ?_
        refine w_fconst2 C dX4_loseWater_35 ?_
        refine w_fdiv C dX4_loseWater_36 hn.2.2.1 ?_
        refine w_fstore_2 C dX4_loseWater_37 (by first | trivial | rfl) ?_
        refine w_fload_n C dX4_loseWater_38 (by rfl) ?_
        first | refine w_aload_n C dX4_loseWater_39 (by rfl) ?_ | refine w_aload_nN C dX4_loseWater_39 (by rfl) ?_
        refine gf_X4_20 C hf dX4_loseWater_40 ?_
        refine w_fcmp C dX4_loseWater_43 ?_
        refine w_if_le (tgt := 52) C dX4_loseWater_44 (by rfl) (fun c_44 => ?_) (fun c_44 => ?_)
        · try simp only [cg_ge, cg_gt, cl_gt, cl_le, cl_eq, cl_lt, cl_ge, bi_eq0, bi_ne0, bI_eq0, Decidable.not_not, Bool.not_eq_false] at c_44
          have e8 : sp_loss0 air (qWl q) (qCv q) = FP.fdiv (FP.fdiv (FP.fdiv (FP.i2f air) FP.fconst2) (FP.i2f (qWl q))) FP.fconst2 := by simp only [sp_loss0, c_31, if_true, Bool.false_eq_true, if_false]
          have e9 : sp_loss9 air q = FP.fdiv (FP.fdiv (FP.fdiv (FP.i2f air) FP.fconst2) (FP.i2f (qWl q))) FP.fconst2 := by rw [← e8]; rw [← e8] at c_44; exact if_neg c_44
          have hn9 := hn.2.2.2
          rw [← e9]
          first | refine w_aload_n C dX4_loseWater_52 (by rfl) ?_ | refine w_aload_nN C dX4_loseWater_52 (by rfl) ?_
          first | refine w_aload_n C dX4_loseWater_53 (by rfl) ?_ | refine w_aload_nN C dX4_loseWater_53 (by rfl) ?_
          refine gf_X4_20 C hf dX4_loseWater_54 ?_
          refine w_fload_n C dX4_loseWater_57 (by rfl) ?_
          refine w_fsub C dX4_loseWater_58 hn9 ?_
          refine pf_X4_20 C hf dX4_loseWater_59 (fun h9 u9 => ?_)
          have hf := u9.self
          refine w_fload_n C dX4_loseWater_62 (by rfl) ?_
          refine lc_X4_65 C dX4_loseWater_63 ?_
          refine w_fcmp C dX4_loseWater_65 ?_
          refine w_if_le (tgt := 79) C dX4_loseWater_66 (by rfl) (fun c_66 => ?_) (fun c_66 => ?_)
          · try simp only [cg_ge, cg_gt, cl_gt, cl_le, cl_eq, cl_lt, cl_ge, bi_eq0, bi_ne0, bI_eq0, Decidable.not_not, Bool.not_eq_false] at c_66
            first | refine w_aload_n C dX4_loseWater_79 (by rfl) ?_ | refine w_aload_nN C dX4_loseWater_79 (by rfl) ?_
            refine gf_X4_20 C hf dX4_loseWater_80 ?_
            refine lc_X4_66 C dX4_loseWater_83 ?_
            refine w_fcmp C dX4_loseWater_85 ?_
            refine w_if_gt (tgt := 94) C dX4_loseWater_86 (by rfl) (fun c_86 => ?_) (fun c_86 => ?_)
            · try simp only [cg_ge, cg_gt, cl_gt, cl_le, cl_eq, cl_lt, cl_ge, bi_eq0, bi_ne0, bI_eq0, Decidable.not_not, Bool.not_eq_false] at c_86
              refine w_vret C M dX4_loseWater_94 ⟨by decide, by decide⟩ ⟨rfl, ?_⟩
              exact u9.to (by simp [sp_lose, qWd, qHg, qWl, qSt, qWa, qCv, qSm, qMk, qSh, qCe, dlt, dgt, deq, dge, dle, kH, kP, kO, kL, kA, kE, kC, kF, kS, kW, c_4, c_12, c_31, c_44, c_66, c_86])
            · try simp only [cg_ge, cg_gt, cl_gt, cl_le, cl_eq, cl_lt, cl_ge, bi_eq0, bi_ne0, bI_eq0, Decidable.not_not, Bool.not_eq_false] at c_86
              first | refine w_aload_n C dX4_loseWater_89 (by rfl) ?_ | refine w_aload_nN C dX4_loseWater_89 (by rfl) ?_
              refine w_iconst (v := 1) C dX4_loseWater_90 (by rfl) ?_
              refine pf_X4_15 C hf dX4_loseWater_91 (fun h10 u10 => ?_)
              have hf := u10.self
              refine w_vret C M dX4_loseWater_94 ⟨by decide, by decide⟩ ⟨rfl, ?_⟩
              exact (u9.tr u10).to (by simp [sp_lose, qWd, qHg, qWl, qSt, qWa, qCv, qSm, qMk, qSh, qCe, dlt, dgt, deq, dge, dle, kH, kP, kO, kL, kA, kE, kC, kF, kS, kW, c_4, c_12, c_31, c_44, c_66, c_86])
          · try simp only [cg_ge, cg_gt, cl_gt, cl_le, cl_eq, cl_lt, cl_ge, bi_eq0, bi_ne0, bI_eq0, Decidable.not_not, Bool.not_eq_false] at c_66
            first | refine w_aload_n C dX4_loseWater_69 (by rfl) ?_ | refine w_aload_nN C dX4_loseWater_69 (by rfl) ?_
            refine w_dup C dX4_loseWater_70 (by rfl) ?_
            refine gf_X4_31 C hf dX4_loseWater_71 ?_
            refine w_iconst (v := 2) C dX4_loseWater_74 (by rfl) ?_
            refine w_ior C dX4_loseWater_75 ?_
            refine pf_X4_31 C hf dX4_loseWater_76 (fun h11 u11 => ?_)
            have hf := u11.self
            first | refine w_aload_n C dX4_loseWater_79 (by rfl) ?_ | refine w_aload_nN C dX4_loseWater_79 (by rfl) ?_
            refine gf_X4_20 C hf dX4_loseWater_80 ?_
            refine lc_X4_66 C dX4_loseWater_83 ?_
            refine w_fcmp C dX4_loseWater_85 ?_
            refine w_if_gt (tgt := 94) C dX4_loseWater_86 (by rfl) (fun c_86 => ?_) (fun c_86 => ?_)
            · try simp only [cg_ge, cg_gt, cl_gt, cl_le, cl_eq, cl_lt, cl_ge, bi_eq0, bi_ne0, bI_eq0, Decidable.not_not, Bool.not_eq_false] at c_86
              refine w_vret C M dX4_loseWater_94 ⟨by decide, by decide⟩ ⟨rfl, ?_⟩
              exact (u9.tr u11).to (by simp [sp_lose, qWd, qHg, qWl, qSt, qWa, qCv, qSm, qMk, qSh, qCe, dlt, dgt, deq, dge, dle, kH, kP, kO, kL, kA, kE, kC, kF, kS, kW, c_4, c_12, c_31, c_44, c_66, c_86])
            · try simp only [cg_ge, cg_gt, cl_gt, cl_le, cl_eq, cl_lt, cl_ge, bi_eq0, bi_ne0, bI_eq0, Decidable.not_not, Bool.not_eq_false] at c_86
              first | refine w_aload_n C dX4_loseWater_89 (by rfl) ?_ | refine w_aload_nN C dX4_loseWater_89 (by rfl) ?_
              refine w_iconst (v := 1) C dX4_loseWater_90 (by rfl) ?_
              refine pf_X4_15 C hf dX4_loseWater_91 (fun h12 u12 => ?_)
              have hf := u12.self
              refine w_vret C M dX4_loseWater_94 ⟨by decide, by decide⟩ ⟨rfl, ?_⟩
              exact ((u9.tr u11).tr u12).to (by simp [sp_lose, qWd, qHg, qWl, qSt, qWa, qCv, qSm, qMk, qSh, qCe, dlt, dgt, deq, dge, dle, kH, kP, kO, kL, kA, kE, kC, kF, kS, kW, c_4, c_12, c_31, c_44, c_66, c_86])
        · try simp only [cg_ge, cg_gt, cl_gt, cl_le, cl_eq, cl_lt, cl_ge, bi_eq0, bi_ne0, bI_eq0, Decidable.not_not, Bool.not_eq_false] at c_44
          first | refine w_aload_n C dX4_loseWater_47 (by rfl) ?_ | refine w_aload_nN C dX4_loseWater_47 (by rfl) ?_
          refine gf_X4_20 C hf dX4_loseWater_48 ?_
          refine w_fstore_2 C dX4_loseWater_51 (by first | trivial | rfl) ?_
          have e8 : sp_loss0 air (qWl q) (qCv q) = FP.fdiv (FP.fdiv (FP.fdiv (FP.i2f air) FP.fconst2) (FP.i2f (qWl q))) FP.fconst2 := by simp only [sp_loss0, c_31, if_true, Bool.false_eq_true, if_false]
          have e9 : sp_loss9 air q = qWa q := by rw [← e8] at c_44; exact if_pos c_44
          have hn9 := hn.2.2.2
          rw [← e9]
          first | refine w_aload_n C dX4_loseWater_52 (by rfl) ?_ | refine w_aload_nN C dX4_loseWater_52 (by rfl) ?_
          first | refine w_aload_n C dX4_loseWater_53 (by rfl) ?_ | refine w_aload_nN C dX4_loseWater_53 (by rfl) ?_
          refine gf_X4_20 C hf dX4_loseWater_54 ?_
          refine w_fload_n C dX4_loseWater_57 (by rfl) ?_
          refine w_fsub C dX4_loseWater_58 hn9 ?_
          refine pf_X4_20 C hf dX4_loseWater_59 (fun h13 u13 => ?_)
          have hf := u13.self
          refine w_fload_n C dX4_loseWater_62 (by rfl) ?_
          refine lc_X4_65 C dX4_loseWater_63 ?_
          refine w_fcmp C dX4_loseWater_65 ?_
          refine w_if_le (tgt := 79) C dX4_loseWater_66 (by rfl) (fun c_66 => ?_) (fun c_66 => ?_)
          · try simp only [cg_ge, cg_gt, cl_gt, cl_le, cl_eq, cl_lt, cl_ge, bi_eq0, bi_ne0, bI_eq0, Decidable.not_not, Bool.not_eq_false] at c_66
            first | refine w_aload_n C dX4_loseWater_79 (by rfl) ?_ | refine w_aload_nN C dX4_loseWater_79 (by rfl) ?_
            refine gf_X4_20 C hf dX4_loseWater_80 ?_
            refine lc_X4_66 C dX4_loseWater_83 ?_
            refine w_fcmp C dX4_loseWater_85 ?_
            refine w_if_gt (tgt := 94) C dX4_loseWater_86 (by rfl) (fun c_86 => ?_) (fun c_86 => ?_)
            · try simp only [cg_ge, cg_gt, cl_gt, cl_le, cl_eq, cl_lt, cl_ge, bi_eq0, bi_ne0, bI_eq0, Decidable.not_not, Bool.not_eq_false] at c_86
              refine w_vret C M dX4_loseWater_94 ⟨by decide, by decide⟩ ⟨rfl, ?_⟩
              exact u13.to (by simp [sp_lose, qWd, qHg, qWl, qSt, qWa, qCv, qSm, qMk, qSh, qCe, dlt, dgt, deq, dge, dle, kH, kP, kO, kL, kA, kE, kC, kF, kS, kW, c_4, c_12, c_31, c_44, c_66, c_86])
            · try simp only [cg_ge, cg_gt, cl_gt, cl_le, cl_eq, cl_lt, cl_ge, bi_eq0, bi_ne0, bI_eq0, Decidable.not_not, Bool.not_eq_false] at c_86
              first | refine w_aload_n C dX4_loseWater_89 (by rfl) ?_ | refine w_aload_nN C dX4_loseWater_89 (by rfl) ?_
              refine w_iconst (v := 1) C dX4_loseWater_90 (by rfl) ?_
              refine pf_X4_15 C hf dX4_loseWater_91 (fun h14 u14 => ?_)
              have hf := u14.self
              refine w_vret C M dX4_loseWater_94 ⟨by decide, by decide⟩ ⟨rfl, ?_⟩
              exact (u13.tr u14).to (by simp [sp_lose, qWd, qHg, qWl, qSt, qWa, qCv, qSm, qMk, qSh, qCe, dlt, dgt, deq, dge, dle, kH, kP, kO, kL, kA, kE, kC, kF, kS, kW, c_4, c_12, c_31, c_44, c_66, c_86])
          · try simp only [cg_ge, cg_gt, cl_gt, cl_le, cl_eq, cl_lt, cl_ge, bi_eq0, bi_ne0, bI_eq0, Decidable.not_not, Bool.not_eq_false] at c_66
            first | refine w_aload_n C dX4_loseWater_69 (by rfl) ?_ | refine w_aload_nN C dX4_loseWater_69 (by rfl) ?_
            refine w_dup C dX4_loseWater_70 (by rfl) ?_
            refine gf_X4_31 C hf dX4_loseWater_71 ?_
            refine w_iconst (v := 2) C dX4_loseWater_74 (by rfl) ?_
            refine w_ior C dX4_loseWater_75 ?_
            refine pf_X4_31 C hf dX4_loseWater_76 (fun h15 u15 => ?_)
            have hf := u15.self
            first | refine w_aload_n C dX4_loseWater_79 (by rfl) ?_ | refine w_aload_nN C dX4_loseWater_79 (by rfl) ?_
            refine gf_X4_20 C hf dX4_loseWater_80 ?_
            refine lc_X4_66 C dX4_loseWater_83 ?_
            refine w_fcmp C dX4_loseWater_85 ?_
            refine w_if_gt (tgt := 94) C dX4_loseWater_86 (by rfl) (fun c_86 => ?_) (fun c_86 => ?_)
            · try simp only [cg_ge, cg_gt, cl_gt, cl_le, cl_eq, cl_lt, cl_ge, bi_eq0, bi_ne0, bI_eq0, Decidable.not_not, Bool.not_eq_false] at c_86
              refine w_vret C M dX4_loseWater_94 ⟨by decide, by decide⟩ ⟨rfl, ?_⟩
              exact (u13.tr u15).to (by simp [sp_lose, qWd, qHg, qWl, qSt, qWa, qCv, qSm, qMk, qSh, qCe, dlt, dgt, deq, dge, dle, kH, kP, kO, kL, kA, kE, kC, kF, kS, kW, c_4, c_12, c_31, c_44, c_66, c_86])
            · try simp only [cg_ge, cg_gt, cl_gt, cl_le, cl_eq, cl_lt, cl_ge, bi_eq0, bi_ne0, bI_eq0, Decidable.not_not, Bool.not_eq_false] at c_86
              first | refine w_aload_n C dX4_loseWater_89 (by rfl) ?_ | refine w_aload_nN C dX4_loseWater_89 (by rfl) ?_
              refine w_iconst (v := 1) C dX4_loseWater_90 (by rfl) ?_
              refine pf_X4_15 C hf dX4_loseWater_91 (fun h16 u16 => ?_)
              have hf := u16.self
              refine w_vret C M dX4_loseWater_94 ⟨by decide, by decide⟩ ⟨rfl, ?_⟩
              exact ((u13.tr u15).tr u16).to (by simp [sp_lose, qWd, qHg, qWl, qSt, qWa, qCv, qSm, qMk, qSh, qCe, dlt, dgt, deq, dge, dle, kH, kP, kO, kL, kA, kE, kC, kF, kS, kW, c_4, c_12, c_31, c_44, c_66, c_86])
    · refine w_vret C M dX4_loseWater_15 ⟨by decide, by decide⟩ ⟨rfl, ?_⟩
      first
        | (rw [lose_no1 c_4]; exact (hu_id hf).symm)
        | (rw [lose_no2 c_12]; exact (hu_id hf).symm)
