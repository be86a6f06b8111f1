/-! LISTS -/
abbrev lC (mc : Int32) (el n : Nat) : va_E := .inr (1, [.int mc, .ref el, .int (nI n)])
abbrev iC (cA : ClassId) (n : Nat) (g : Nat → Int32) : va_E := .inl (cA, n, .inl g)
abbrev itC (cur : Nat) (lr mc : Int32) (a : Nat) : va_E := .inr (0, [.int (nI cur), .int lr, .int mc, .ref a])
theorem nIadd (n : Nat) : nI n + 1 = nI (n + 1) := nI_1 n

set_option maxHeartbeats 4000000 in
set_option maxRecDepth 100000 in
theorem m_Jxa1e45_init_da8c8 {l : Launch} {D : va_G} {tc : Nat → ClassId} (hl : l.stackTraces = false) {h : HM} {a : Nat} :
    CT l D tc yJxa1e45_init_da8c8 cJxa1e45_init_da8c8 1 none rm_Jxa1e45_init_da8c8 [.ref a] h (rV (fun h' => h' = h)) := by
  refine CT.start [some (.ref a)] (by decide) hl rfl rfl (fun K C M => ?_)
  obtain ⟨rfl, rfl, rfl, -⟩ := id M
  have C : CX K RJxa1e45 cJxa1e45_init_da8c8 1 rm_Jxa1e45_init_da8c8 := C
  first | refine w_aload_n C dJxa1e45_init_da8c8_0 (by rfl) ?_ | refine w_aload_nN C dJxa1e45_init_da8c8_0 (by rfl) ?_
  refine w_obji C gw_954 gw_89 gw_90 (by rfl) (by rfl) (by rfl) dJxa1e45_init_da8c8_1 ?_
  refine w_vret C M dJxa1e45_init_da8c8_4 ⟨by decide, by decide⟩ ⟨rfl, ?_⟩
  rfl

set_option maxHeartbeats 4000000 in
theorem m_Jxc12de_init_da8c8 {l : Launch} {D : va_G} {tc : Nat → ClassId} (hl : l.stackTraces = false) {h : HM} {a : Nat} {v0 v1 v2 : Value} (hf : h a = some (.inr (1, [v0, v1, v2]))) :
    CT l D tc yJxc12de_init_da8c8 cJxc12de_init_da8c8 1 none rm_Jxc12de_init_da8c8 [.ref a] h (rV (fun h' => Up h a (.inr (1, [.int 0, v1, v2])) h')) := by
  refine CT.start [some (.ref a)] (by decide) hl rfl rfl (fun K C M => ?_)
  obtain ⟨rfl, rfl, rfl, -⟩ := id M
  have C : CX K RJxc12de cJxc12de_init_da8c8 1 rm_Jxc12de_init_da8c8 := C
  refine w_aload_n C dJxc12de_init_da8c8_0 (by rfl) ?_
  refine cl_Jxc12de_1 C (m_Jxa1e45_init_da8c8 hl) (by rfl) (by rfl) ⟨by decide, by decide⟩ (by rfl) dJxc12de_init_da8c8_1 (fun h1 p1 => ?_)
  obtain rfl := p1
  refine w_aload_n C dJxc12de_init_da8c8_4 (by rfl) ?_
  refine w_iconst (v := 0) C dJxc12de_init_da8c8_5 (by rfl) ?_
  refine w_putf (ref := "java/util/AbstractList") C 0 hf rfl in_Jx4a65c tyJx4a65c_ok nmJx4a65c (by decide) gw_961 rfl rfl rfl rfl (Nat.le_of_ble_eq_true rfl) dJxc12de_init_da8c8_6 ?_
  exact w_vret C M dJxc12de_init_da8c8_9 ⟨by decide, by decide⟩ ⟨rfl, rfl⟩

set_option maxHeartbeats 4000000 in
set_option maxRecDepth 100000 in
theorem m_Jx4a65c_init_da8c8 {l : Launch} {D : va_G} {tc : Nat → ClassId} (hl : l.stackTraces = false) {h : HM} {a : Nat} {v0 v1 : Value} (hf : h a = some (.inr (1, [v0, v1, .int 0]))) :
    CT l D tc yJx4a65c_init_da8c8 cJx4a65c_init_da8c8 1 none rm_Jx4a65c_init_da8c8 [.ref a] h (rV (fun h' => Up h a (lC 0 (tc 13) 0) h')) := by
  refine CT.start [some (.ref a)] (by decide) hl rfl rfl (fun K C M => ?_)
  obtain ⟨rfl, rfl, rfl, -⟩ := id M
  have C : CX K RJx4a65c cJx4a65c_init_da8c8 1 rm_Jx4a65c_init_da8c8 := C
  first | refine w_aload_n C dJx4a65c_init_da8c8_0 (by rfl) ?_ | refine w_aload_nN C dJx4a65c_init_da8c8_0 (by rfl) ?_
  refine cl_Jx4a65c_1 C (m_Jxc12de_init_da8c8 hl hf) (by rfl) (by rfl) ⟨by decide, by decide⟩ (by rfl) dJx4a65c_init_da8c8_1 (fun h1 p1 => ?_)
  have hf := p1.self
  first | refine w_aload_n C dJx4a65c_init_da8c8_4 (by rfl) ?_ | refine w_aload_nN C dJx4a65c_init_da8c8_4 (by rfl) ?_
  refine w_gets C (sw_list C).1 gw_955 dJx4a65c_init_da8c8_5 ?_
  refine pf_Jx4a65c_9 C hf dJx4a65c_init_da8c8_8 (fun h2 u2 => ?_)
  have hf := u2.self
  refine w_vret C M dJx4a65c_init_da8c8_11 ⟨by decide, by decide⟩ ⟨rfl, ?_⟩
  exact (p1.tr u2)

set_option maxHeartbeats 4000000 in
set_option maxRecDepth 100000 in
theorem m_Jx4a65c_size_8abf5 {l : Launch} {D : va_G} {tc : Nat → ClassId} (hl : l.stackTraces = false) {h : HM} {a el n : Nat} {mc : Int32} (hf : h a = some (lC mc el n)) :
    CT l D tc yJx4a65c_size_8abf5 cJx4a65c_size_8abf5 1 (some FieldType.int) rm_Jx4a65c_size_8abf5 [.ref a] h (rI (fun z h' => h' = h ∧ z = nI n)) := by
  refine CT.start [some (.ref a)] (by decide) hl rfl rfl (fun K C M => ?_)
  obtain ⟨rfl, rfl, rfl, -⟩ := id M
  have C : CX K RJx4a65c cJx4a65c_size_8abf5 1 rm_Jx4a65c_size_8abf5 := C
  first | refine w_aload_n C dJx4a65c_size_8abf5_0 (by rfl) ?_ | refine w_aload_nN C dJx4a65c_size_8abf5_0 (by rfl) ?_
  refine gf_Jx4a65c_48 C hf dJx4a65c_size_8abf5_1 ?_
  refine w_iret C M dJx4a65c_size_8abf5_4 ⟨by decide, by decide⟩ ⟨_, rfl, ?_⟩
  exact ⟨rfl, rfl⟩

set_option maxHeartbeats 4000000 in
set_option maxRecDepth 100000 in
theorem m_Jx4a65c_isEmpty_aae02 {l : Launch} {D : va_G} {tc : Nat → ClassId} (hl : l.stackTraces = false) {h : HM} {a el n : Nat} {mc : Int32} (hf : h a = some (lC mc el n)) (hn : n < 2 ^ 31) :
    CT l D tc yJx4a65c_isEmpty_aae02 cJx4a65c_isEmpty_aae02 1 (some FieldType.boolean) rm_Jx4a65c_isEmpty_aae02 [.ref a] h (rI (fun z h' => h' = h ∧ z = bI (n = 0))) := by
  refine CT.start [some (.ref a)] (by decide) hl rfl rfl (fun K C M => ?_)
  obtain ⟨rfl, rfl, rfl, -⟩ := id M
  have C : CX K RJx4a65c cJx4a65c_isEmpty_aae02 1 rm_Jx4a65c_isEmpty_aae02 := C
  first | refine w_aload_n C dJx4a65c_isEmpty_aae02_0 (by rfl) ?_ | refine w_aload_nN C dJx4a65c_isEmpty_aae02_0 (by rfl) ?_
  refine gf_Jx4a65c_48 C hf dJx4a65c_isEmpty_aae02_1 ?_
  refine w_if_ne (tgt := 11) C dJx4a65c_isEmpty_aae02_4 (by rfl) (fun c_4 => ?_) (fun c_4 => ?_)
  · try simp only [cg_ge, cg_gt, cl_gt, cl_le, cl_eq, cl_lt, cl_ge, bi_eq0, bi_ne0, bI_eq0, Decidable.not_not, Bool.not_eq_false] at c_4
    have e9 : ¬ n = 0 := fun w => c_4 ((nI_is0 hn).mpr w)
    refine w_iconst (v := 0) C dJx4a65c_isEmpty_aae02_11 (by rfl) ?_
    refine w_zret C M dJx4a65c_isEmpty_aae02_12 ⟨by decide, by decide⟩ (by rfl) ⟨_, rfl, ?_⟩
    first
      | exact ⟨rfl, bI_f e9⟩
      | exact ⟨rfl, bI_t e9⟩
  · try simp only [cg_ge, cg_gt, cl_gt, cl_le, cl_eq, cl_lt, cl_ge, bi_eq0, bi_ne0, bI_eq0, Decidable.not_not, Bool.not_eq_false] at c_4
    have e9 : n = 0 := (nI_is0 hn).mp c_4
    refine w_iconst (v := 1) C dJx4a65c_isEmpty_aae02_7 (by rfl) ?_
    refine w_goto (tgt := 12) C dJx4a65c_isEmpty_aae02_8 (by rfl) ?_
    refine w_zret C M dJx4a65c_isEmpty_aae02_12 ⟨by decide, by decide⟩ (by rfl) ⟨_, rfl, ?_⟩
    first
      | exact ⟨rfl, bI_f e9⟩
      | exact ⟨rfl, bI_t e9⟩

set_option maxHeartbeats 4000000 in
set_option maxRecDepth 100000 in
theorem m_J3_checkIndex_8e157 {l : Launch} {D : va_G} {tc : Nat → ClassId} (hl : l.stackTraces = false) {h : HM} {j n : Nat} (hj : j < n) (hn : n < 2 ^ 31) :
    CT l D tc yJ3_checkIndex_8e157 cJ3_checkIndex_8e157 3 (some FieldType.int) rm_J3_checkIndex_8e157 [.int (nI j), .int (nI n), .null] h (rI (fun z h' => h' = h ∧ z = nI j)) := by
  refine CT.start [some (.int (nI j)), some (.int (nI n)), some (.null)] (by decide) hl rfl rfl (fun K C M => ?_)
  obtain ⟨rfl, rfl, rfl, -⟩ := id M
  have C : CX K RJ3 cJ3_checkIndex_8e157 3 rm_J3_checkIndex_8e157 := C
  refine w_iload_n C dJ3_checkIndex_8e157_0 (by rfl) ?_
  refine w_if_lt (tgt := 9) C dJ3_checkIndex_8e157_1 (by rfl) (fun c_1 => ?_) (fun c_1 => ?_)
  · exact absurd c_1 (nI_pos (by omega))
  · try simp only [cg_ge, cg_gt, cl_gt, cl_le, cl_eq, cl_lt, cl_ge, bi_eq0, bi_ne0, bI_eq0, Decidable.not_not, Bool.not_eq_false] at c_1
    refine w_iload_n C dJ3_checkIndex_8e157_4 (by rfl) ?_
    refine w_iload_n C dJ3_checkIndex_8e157_5 (by rfl) ?_
    refine w_icmp_lt (tgt := 16) C dJ3_checkIndex_8e157_6 (by rfl) (fun c_6 => ?_) (fun c_6 => ?_)
    · refine w_iload_n C dJ3_checkIndex_8e157_16 (by rfl) ?_
      refine w_iret C M dJ3_checkIndex_8e157_17 ⟨by decide, by decide⟩ ⟨_, rfl, ?_⟩
      exact ⟨rfl, rfl⟩
    · exact absurd (nI_lt hj (by omega)) c_6

set_option maxHeartbeats 4000000 in
set_option maxRecDepth 100000 in
theorem m_J15_checkIndex_7cf53 {l : Launch} {D : va_G} {tc : Nat → ClassId} (hl : l.stackTraces = false) {h : HM} {j n : Nat} (hj : j < n) (hn : n < 2 ^ 31) :
    CT l D tc yJ15_checkIndex_7cf53 cJ15_checkIndex_7cf53 2 (some FieldType.int) rm_J15_checkIndex_7cf53 [.int (nI j), .int (nI n)] h (rI (fun z h' => h' = h ∧ z = nI j)) := by
  refine CT.start [some (.int (nI j)), some (.int (nI n))] (by decide) hl rfl rfl (fun K C M => ?_)
  obtain ⟨rfl, rfl, rfl, -⟩ := id M
  have C : CX K RJ15 cJ15_checkIndex_7cf53 2 rm_J15_checkIndex_7cf53 := C
  refine w_iload_n C dJ15_checkIndex_7cf53_0 (by rfl) ?_
  refine w_iload_n C dJ15_checkIndex_7cf53_1 (by rfl) ?_
  refine w_null C dJ15_checkIndex_7cf53_2 ?_
  refine cl_J15_105 C (m_J3_checkIndex_8e157 hl hj hn) (by rfl) (by rfl) ⟨by decide, by decide⟩ (by rfl) dJ15_checkIndex_7cf53_3 (fun z1 h1 p1 => ?_)
  obtain ⟨rfl, rfl⟩ := p1
  refine w_iret C M dJ15_checkIndex_7cf53_6 ⟨by decide, by decide⟩ ⟨_, rfl, ?_⟩
  exact ⟨rfl, rfl⟩

set_option maxHeartbeats 4000000 in
set_option maxRecDepth 100000 in
theorem m_Jx4a65c_elementData_915e3 {l : Launch} {D : va_G} {tc : Nat → ClassId} (hl : l.stackTraces = false) {h : HM} {a el n : Nat} {mc : Int32} (hf : h a = some (lC mc el n)) {cap : Nat} {f : Nat → Option Nat} (hE : h el = some (qCell (tc 8) cap f)) {j q : Nat} (hj : j < cap) (hc : cap < 2 ^ 31) (hq : f j = some q) :
    CT l D tc yJx4a65c_elementData_915e3 cJx4a65c_elementData_915e3 2 (some (FieldType.object "java/lang/Object")) rm_Jx4a65c_elementData_915e3 [.ref a, .int (nI j)] h (rR (fun z h' => h' = h ∧ z = .ref q)) := by
  refine CT.start [some (.ref a), some (.int (nI j))] (by decide) hl rfl rfl (fun K C M => ?_)
  obtain ⟨rfl, rfl, rfl, -⟩ := id M
  have C : CX K RJx4a65c cJx4a65c_elementData_915e3 2 rm_Jx4a65c_elementData_915e3 := C
  first | refine w_aload_n C dJx4a65c_elementData_915e3_0 (by rfl) ?_ | refine w_aload_nN C dJx4a65c_elementData_915e3_0 (by rfl) ?_
  refine gf_Jx4a65c_9 C hf dJx4a65c_elementData_915e3_1 ?_
  refine w_iload_n C dJx4a65c_elementData_915e3_4 (by rfl) ?_
  refine w_aaldn C 8 hE (by rfl) hj hc dJx4a65c_elementData_915e3_5 ?_
  rw [hq]
  change WW _ _ _ _ (.ref q :: _) _
  refine w_aret C M dJx4a65c_elementData_915e3_6 ⟨by decide, by decide⟩ (Or.inl ⟨_, rfl⟩) (Or.inr ⟨_, rfl⟩) ⟨_, rfl, ?_⟩
  exact ⟨rfl, rfl⟩

set_option maxHeartbeats 4000000 in
set_option maxRecDepth 100000 in
theorem m_Jx4a65c_get_915e3 {l : Launch} {D : va_G} {tc : Nat → ClassId} (hl : l.stackTraces = false) {h : HM} {a el n : Nat} {mc : Int32} (hf : h a = some (lC mc el n)) {cap : Nat} {f : Nat → Option Nat} (hE : h el = some (qCell (tc 8) cap f)) {j q : Nat} (hj : j < n) (hn : n ≤ cap) (hc : cap < 2 ^ 31) (hq : f j = some q) :
    CT l D tc yJx4a65c_get_915e3 cJx4a65c_get_915e3 2 (some (FieldType.object "java/lang/Object")) rm_Jx4a65c_get_915e3 [.ref a, .int (nI j)] h (rR (fun z h' => h' = h ∧ z = .ref q)) := by
  refine CT.start [some (.ref a), some (.int (nI j))] (by decide) hl rfl rfl (fun K C M => ?_)
  obtain ⟨rfl, rfl, rfl, -⟩ := id M
  have C : CX K RJx4a65c cJx4a65c_get_915e3 2 rm_Jx4a65c_get_915e3 := C
  refine w_iload_n C dJx4a65c_get_915e3_0 (by rfl) ?_
  first | refine w_aload_n C dJx4a65c_get_915e3_1 (by rfl) ?_ | refine w_aload_nN C dJx4a65c_get_915e3_1 (by rfl) ?_
  refine gf_Jx4a65c_48 C hf dJx4a65c_get_915e3_2 ?_
  refine cl_Jx4a65c_118 C (m_J15_checkIndex_7cf53 hl hj (by omega)) (by rfl) (by rfl) ⟨by decide, by decide⟩ (by rfl) dJx4a65c_get_915e3_5 (fun z1 h1 p1 => ?_)
  obtain ⟨rfl, rfl⟩ := p1
  refine w_pop C dJx4a65c_get_915e3_8 (by rfl) ?_
  first | refine w_aload_n C dJx4a65c_get_915e3_9 (by rfl) ?_ | refine w_aload_nN C dJx4a65c_get_915e3_9 (by rfl) ?_
  refine w_iload_n C dJx4a65c_get_915e3_10 (by rfl) ?_
  refine cl_Jx4a65c_123 C (m_Jx4a65c_elementData_915e3 hl hf hE (by omega) hc hq) hf (by rfl) (by rfl) ⟨by decide, by decide⟩ (by rfl) dJx4a65c_get_915e3_11 (fun z2 h2 p2 => ?_)
  obtain ⟨rfl, rfl⟩ := p2
  refine w_aret C M dJx4a65c_get_915e3_14 ⟨by decide, by decide⟩ (Or.inl ⟨_, rfl⟩) (Or.inr ⟨_, rfl⟩) ⟨_, rfl, ?_⟩
  exact ⟨rfl, rfl⟩

set_option maxHeartbeats 4000000 in
set_option maxRecDepth 100000 in
theorem m_grow0 {l : Launch} {D : va_G} {tc : Nat → ClassId} (hl : l.stackTraces = false) {h : HM} {a : Nat} {mc m : Int32} (hf : h a = some (lC mc (tc 13) 0)) (hm : ¬ (10 : Int32) < m) :
    CT l D tc yJx4a65c_grow_92f84 cJx4a65c_grow_92f84 4 (some (FieldType.array (FieldType.object "java/lang/Object"))) rm_Jx4a65c_grow_92f84 [.ref a, .int m] h (rR (fun z h' => ∃ q, z = .ref q ∧ h q = none ∧ h' a = some (lC mc q 0) ∧ h' q = some (qCell (tc 8) 10 (fun _ => none)) ∧ Fr [a] h h')) := by
  refine CT.start [some (.ref a), some (.int m), none, none] (by decide) hl rfl rfl (fun K C M => ?_)
  obtain ⟨rfl, rfl, rfl, -⟩ := id M
  have C : CX K RJx4a65c cJx4a65c_grow_92f84 4 rm_Jx4a65c_grow_92f84 := C
  first | refine w_aload_n C dJx4a65c_grow_92f84_0 (by rfl) ?_ | refine w_aload_nN C dJx4a65c_grow_92f84_0 (by rfl) ?_
  refine gf_Jx4a65c_9 C hf dJx4a65c_grow_92f84_1 ?_
  refine w_tlen C (sw_list C).2.1 dJx4a65c_grow_92f84_4 ?_
  refine w_istore_2 C dJx4a65c_grow_92f84_5 (by first | trivial | rfl) ?_
  refine w_iload_n C dJx4a65c_grow_92f84_6 (by rfl) ?_
  refine w_if_gt (tgt := 20) C dJx4a65c_grow_92f84_7 (by rfl) (fun c_7 => ?_) (fun c_7 => ?_)
  · exact absurd c_7 (by decide)
  · try simp only [cg_ge, cg_gt, cl_gt, cl_le, cl_eq, cl_lt, cl_ge, bi_eq0, bi_ne0, bI_eq0, Decidable.not_not, Bool.not_eq_false] at c_7
    first | refine w_aload_n C dJx4a65c_grow_92f84_10 (by rfl) ?_ | refine w_aload_nN C dJx4a65c_grow_92f84_10 (by rfl) ?_
    refine gf_Jx4a65c_9 C hf dJx4a65c_grow_92f84_11 ?_
    refine w_gets C (sw_list C).1 gw_955 dJx4a65c_grow_92f84_14 ?_
    refine w_acmp_eq (rx := some (Kt K 13)) (ry := some (Kt K 13)) (tgt := 45) C dJx4a65c_grow_92f84_17 (by rfl) (fun _ => ?_) (fun c => absurd rfl c)
    first | refine w_aload_n C dJx4a65c_grow_92f84_45 (by rfl) ?_ | refine w_aload_nN C dJx4a65c_grow_92f84_45 (by rfl) ?_
    refine w_bipush (v := (10)) C dJx4a65c_grow_92f84_46 (by rfl) ?_
    refine w_iload_n C dJx4a65c_grow_92f84_48 (by rfl) ?_
    refine w_imax C gw_1137 gw_480 gw_66 gw_481 (by rfl) (by rfl) (by rfl) ⟨by decide, by decide⟩ dJx4a65c_grow_92f84_49 ?_
    rw [if_neg hm]
    refine w_anewn C 8 (by rfl) (ao_Object C) gw_1138 (by decide) (by rfl) (by decide) (by decide) (by decide) dJx4a65c_grow_92f84_52 (fun qq h1 n1 u1 => ?_)
    have hf := u1.new hf n1
    have f_qq := u1.self
    refine w_dup_x1 C dJx4a65c_grow_92f84_55 (by rfl) (by rfl) ?_
    refine pf_Jx4a65c_9 C hf dJx4a65c_grow_92f84_56 (fun h2 u2 => ?_)
    have f_qq := u2.oth f_qq hf (by intro q; simp at q)
    have hf := u2.self
    refine w_aret C M dJx4a65c_grow_92f84_59 ⟨by decide, by decide⟩ (Or.inr ⟨_, rfl⟩) (Or.inr ⟨_, rfl⟩) ⟨_, rfl, ?_⟩
    exact ⟨qq, rfl, n1, hf, f_qq, (((u1.frN n1).sub (by simp)).tr (u2.fr.sub (by simp)))⟩

set_option maxHeartbeats 4000000 in
set_option maxRecDepth 100000 in
theorem m_J8_newLength_cabcc {l : Launch} {D : va_G} {tc : Nat → ClassId} (hl : l.stackTraces = false) {h : HM}  :
    CT l D tc yJ8_newLength_cabcc cJ8_newLength_cabcc 4 (some FieldType.int) rm_J8_newLength_cabcc [.int 10, .int 1, .int 5] h (rI (fun z h' => h' = h ∧ z = 15)) := by
  refine CT.start [some (.int 10), some (.int 1), some (.int 5), none] (by decide) hl rfl rfl (fun K C M => ?_)
  obtain ⟨rfl, rfl, rfl, -⟩ := id M
  have C : CX K RJ8 cJ8_newLength_cabcc 4 rm_J8_newLength_cabcc := C
  refine w_iload_n C dJ8_newLength_cabcc_0 (by rfl) ?_
  refine w_iload_n C dJ8_newLength_cabcc_1 (by rfl) ?_
  refine w_iload_n C dJ8_newLength_cabcc_2 (by rfl) ?_
  refine w_imax C gw_1099 gw_480 gw_66 gw_481 (by rfl) (by rfl) (by rfl) ⟨by decide, by decide⟩ dJ8_newLength_cabcc_3 ?_
  refine w_iadd C dJ8_newLength_cabcc_6 ?_
  refine w_istore_3 C dJ8_newLength_cabcc_7 (by first | trivial | rfl) ?_
  refine w_iconst (v := 0) C dJ8_newLength_cabcc_8 (by rfl) ?_
  refine w_iload_n C dJ8_newLength_cabcc_9 (by rfl) ?_
  refine w_icmp_ge (tgt := 21) C dJ8_newLength_cabcc_10 (by rfl) (fun c_10 => ?_) (fun c_10 => ?_)
  · exact absurd c_10 (by decide)
  · refine w_iload_n C dJ8_newLength_cabcc_13 (by rfl) ?_
    refine lc_J8_200 C dJ8_newLength_cabcc_14 ?_
    refine w_icmp_gt (tgt := 21) C dJ8_newLength_cabcc_16 (by rfl) (fun c_16 => ?_) (fun c_16 => ?_)
    · exact absurd c_16 (by decide)
    · refine w_iload_n C dJ8_newLength_cabcc_19 (by rfl) ?_
      refine w_iret C M dJ8_newLength_cabcc_20 ⟨by decide, by decide⟩ ⟨_, rfl, ?_⟩
      exact ⟨rfl, by decide⟩

set_option maxHeartbeats 4000000 in
set_option maxRecDepth 100000 in
theorem m_J7_copyOf_6403c {l : Launch} {D : va_G} {tc : Nat → ClassId} (hl : l.stackTraces = false) {h : HM} {el cap m cnt : Nat} {f : Nat → Option Nat} (hE : h el = some (qCell (tc 8) cap f)) (hm : m ≤ 15) (hcap : cap < 2 ^ 31) (hcnt : (if nI m < nI cap then nI m else nI cap) = nI cnt) (h1 : cnt ≤ cap) (h2 : cnt ≤ m) (hok : ∀ i, i < cnt → ∀ y, f i = some y → okE tc h y) :
    CT l D tc yJ7_copyOf_6403c cJ7_copyOf_6403c 4 (some (FieldType.array (FieldType.object "java/lang/Object"))) rm_J7_copyOf_6403c [.ref el, .int (nI m), .ref (tc 14)] h (rR (fun z h' => ∃ q, z = .ref q ∧ h q = none ∧ Up h q (qCell (tc 8) m (va_cpy f (fun _ => none) 0 0 cnt)) h')) := by
  refine CT.start [some (.ref el), some (.int (nI m)), some (.ref (tc 14)), none] (by decide) hl rfl rfl (fun K C M => ?_)
  obtain ⟨rfl, rfl, rfl, -⟩ := id M
  have C : CX K RJ7 cJ7_copyOf_6403c 4 rm_J7_copyOf_6403c := C
  first | refine w_aload_n C dJ7_copyOf_6403c_0 (by rfl) ?_ | refine w_aload_nN C dJ7_copyOf_6403c_0 (by rfl) ?_
  refine w_ldcM C gw_1130 dJ7_copyOf_6403c_1 ?_
  refine w_acmp_ne (rx := some (Kt K 14)) (ry := some (Kt K 14)) (tgt := 13) C dJ7_copyOf_6403c_3 (by rfl) (fun c => absurd rfl c) (fun _ => ?_)
  refine w_iload_n C dJ7_copyOf_6403c_6 (by rfl) ?_
  refine w_anewn C 8 (by rfl) (ao_Object C) gw_1132 (nI_pos (by omega)) (nI_clamp (by omega)) (by omega) (show 0 + 1 ≤ 1 by decide) (show 0 + m ≤ 15 by omega) dJ7_copyOf_6403c_7 (fun qq h7 n7 u7 => ?_)
  have hE := u7.new hE n7
  have f_qq := u7.self
  refine w_goto (tgt := 24) C dJ7_copyOf_6403c_10 (by rfl) ?_
  first | refine w_astore_3 C dJ7_copyOf_6403c_24 (by first | trivial | rfl) ?_ | refine w_astore_3N C dJ7_copyOf_6403c_24 (by first | trivial | rfl) ?_
  first | refine w_aload_n C dJ7_copyOf_6403c_25 (by rfl) ?_ | refine w_aload_nN C dJ7_copyOf_6403c_25 (by rfl) ?_
  refine w_iconst (v := 0) C dJ7_copyOf_6403c_26 (by rfl) ?_
  first | refine w_aload_n C dJ7_copyOf_6403c_27 (by rfl) ?_ | refine w_aload_nN C dJ7_copyOf_6403c_27 (by rfl) ?_
  refine w_iconst (v := 0) C dJ7_copyOf_6403c_28 (by rfl) ?_
  first | refine w_aload_n C dJ7_copyOf_6403c_29 (by rfl) ?_ | refine w_aload_nN C dJ7_copyOf_6403c_29 (by rfl) ?_
  refine w_alen C 8 hE (by rfl) dJ7_copyOf_6403c_30 ?_
  refine w_iload_n C dJ7_copyOf_6403c_31 (by rfl) ?_
  refine w_imin C gw_1133 gw_583 gw_66 gw_584 (by rfl) (by rfl) (by rfl) ⟨(show 0 + 1 ≤ 1 by decide), (show 0 + m ≤ 15 by omega)⟩ dJ7_copyOf_6403c_32 ?_
  rw [hcnt]
  refine w_copyq C hE f_qq h1 h2 (by omega) (fun i hi y hy => (hok i hi y hy).new u7 n7) gw_1134 (by rfl) (by rfl) (by rfl) dJ7_copyOf_6403c_35 (fun h9 u9 => ?_)
  first | refine w_aload_n C dJ7_copyOf_6403c_38 (by rfl) ?_ | refine w_aload_nN C dJ7_copyOf_6403c_38 (by rfl) ?_
  refine w_aret C M dJ7_copyOf_6403c_39 ⟨(show 0 + 1 ≤ 1 by decide), (show 0 + m ≤ 15 by omega)⟩ (Or.inr ⟨_, rfl⟩) (Or.inr ⟨_, rfl⟩) ⟨_, rfl, ?_⟩
  exact ⟨qq, rfl, n7, u7.tr u9⟩

set_option maxHeartbeats 4000000 in
set_option maxRecDepth 100000 in
theorem m_copyOf0 {l : Launch} {D : va_G} {tc : Nat → ClassId} (hl : l.stackTraces = false) {h : HM}  :
    CT l D tc yJ7_copyOf_6403c cJ7_copyOf_6403c 4 (some (FieldType.array (FieldType.object "java/lang/Object"))) rm_J7_copyOf_6403c [.ref (tc 13), .int (nI 0), .ref (tc 14)] h (rR (fun z h' => ∃ q, z = .ref q ∧ h q = none ∧ Up h q (qCell (tc 8) 0 (va_cpy (fun _ => none) (fun _ => none) 0 0 0)) h')) := by
  refine CT.start [some (.ref (tc 13)), some (.int (nI 0)), some (.ref (tc 14)), none] (by decide) hl rfl rfl (fun K C M => ?_)
  obtain ⟨rfl, rfl, rfl, -⟩ := id M
  have C : CX K RJ7 cJ7_copyOf_6403c 4 rm_J7_copyOf_6403c := C
  first | refine w_aload_n C dJ7_copyOf_6403c_0 (by rfl) ?_ | refine w_aload_nN C dJ7_copyOf_6403c_0 (by rfl) ?_
  refine w_ldcM C gw_1130 dJ7_copyOf_6403c_1 ?_
  refine w_acmp_ne (rx := some (Kt K 14)) (ry := some (Kt K 14)) (tgt := 13) C dJ7_copyOf_6403c_3 (by rfl) (fun c => absurd rfl c) (fun _ => ?_)
  refine w_iload_n C dJ7_copyOf_6403c_6 (by rfl) ?_
  refine w_anewn C 8 (by rfl) (ao_Object C) gw_1132 (nI_pos (by omega)) (nI_clamp (by omega)) (by omega) (show 0 + 1 ≤ 1 by decide) (show 0 + 0 ≤ 15 by omega) dJ7_copyOf_6403c_7 (fun qq h7 n7 u7 => ?_)
  have f_qq := u7.self
  refine w_goto (tgt := 24) C dJ7_copyOf_6403c_10 (by rfl) ?_
  first | refine w_astore_3 C dJ7_copyOf_6403c_24 (by first | trivial | rfl) ?_ | refine w_astore_3N C dJ7_copyOf_6403c_24 (by first | trivial | rfl) ?_
  first | refine w_aload_n C dJ7_copyOf_6403c_25 (by rfl) ?_ | refine w_aload_nN C dJ7_copyOf_6403c_25 (by rfl) ?_
  refine w_iconst (v := 0) C dJ7_copyOf_6403c_26 (by rfl) ?_
  first | refine w_aload_n C dJ7_copyOf_6403c_27 (by rfl) ?_ | refine w_aload_nN C dJ7_copyOf_6403c_27 (by rfl) ?_
  refine w_iconst (v := 0) C dJ7_copyOf_6403c_28 (by rfl) ?_
  first | refine w_aload_n C dJ7_copyOf_6403c_29 (by rfl) ?_ | refine w_aload_nN C dJ7_copyOf_6403c_29 (by rfl) ?_
  refine w_tlen C (sw_list C).2.1 dJ7_copyOf_6403c_30 ?_
  refine w_iload_n C dJ7_copyOf_6403c_31 (by rfl) ?_
  refine w_imin C gw_1133 gw_583 gw_66 gw_584 (by rfl) (by rfl) (by rfl) ⟨by decide, by decide⟩ dJ7_copyOf_6403c_32 ?_
  rw [show (if nI 0 < nI 0 then nI 0 else nI 0) = 0 from by decide]
  refine w_copyg C f_qq gw_1134 (by rfl) (by rfl) (by rfl) dJ7_copyOf_6403c_35 (fun h9 u9 => ?_)
  first | refine w_aload_n C dJ7_copyOf_6403c_38 (by rfl) ?_ | refine w_aload_nN C dJ7_copyOf_6403c_38 (by rfl) ?_
  refine w_aret C M dJ7_copyOf_6403c_39 ⟨by decide, by decide⟩ (Or.inr ⟨_, rfl⟩) (Or.inr ⟨_, rfl⟩) ⟨_, rfl, ?_⟩
  exact ⟨qq, rfl, n7, u7.tr u9⟩

set_option maxHeartbeats 4000000 in
set_option maxRecDepth 100000 in
theorem m_J7_copyOf_1904c {l : Launch} {D : va_G} {tc : Nat → ClassId} (hl : l.stackTraces = false) {h : HM} {el cap m cnt : Nat} {f : Nat → Option Nat} (hE : h el = some (qCell (tc 8) cap f)) (hm : m ≤ 15) (hcap : cap < 2 ^ 31) (hcnt : (if nI m < nI cap then nI m else nI cap) = nI cnt) (h1 : cnt ≤ cap) (h2 : cnt ≤ m) (hok : ∀ i, i < cnt → ∀ y, f i = some y → okE tc h y) :
    CT l D tc yJ7_copyOf_1904c cJ7_copyOf_1904c 2 (some (FieldType.array (FieldType.object "java/lang/Object"))) rm_J7_copyOf_1904c [.ref el, .int (nI m)] h (rR (fun z h' => ∃ q, z = .ref q ∧ h q = none ∧ Up h q (qCell (tc 8) m (va_cpy f (fun _ => none) 0 0 cnt)) h')) := by
  refine CT.start [some (.ref el), some (.int (nI m))] (by decide) hl rfl rfl (fun K C M => ?_)
  obtain ⟨rfl, rfl, rfl, -⟩ := id M
  have C : CX K RJ7 cJ7_copyOf_1904c 2 rm_J7_copyOf_1904c := C
  first | refine w_aload_n C dJ7_copyOf_1904c_0 (by rfl) ?_ | refine w_aload_nN C dJ7_copyOf_1904c_0 (by rfl) ?_
  refine w_iload_n C dJ7_copyOf_1904c_1 (by rfl) ?_
  first | refine w_aload_n C dJ7_copyOf_1904c_2 (by rfl) ?_ | refine w_aload_nN C dJ7_copyOf_1904c_2 (by rfl) ?_
  refine w_getC C hE gw_1107 (by rfl) (by rfl) (by rfl) dJ7_copyOf_1904c_3 ?_
  refine cl_J7_300 C (m_J7_copyOf_6403c hl hE hm hcap hcnt h1 h2 hok) (by rfl) (by rfl) ⟨by decide, by decide⟩ (by rfl) dJ7_copyOf_1904c_6 (fun z1 h1 p1 => ?_)
  obtain ⟨q, rfl, w1, w2⟩ := p1
  refine w_aret C M dJ7_copyOf_1904c_9 ⟨by decide, by decide⟩ (Or.inr ⟨_, rfl⟩) (Or.inr ⟨_, rfl⟩) ⟨_, rfl, ?_⟩
  exact ⟨q, rfl, w1, w2⟩

set_option maxHeartbeats 4000000 in
set_option maxRecDepth 100000 in
theorem m_copyOf1 {l : Launch} {D : va_G} {tc : Nat → ClassId} (hl : l.stackTraces = false) {h : HM}  :
    CT l D tc yJ7_copyOf_1904c cJ7_copyOf_1904c 2 (some (FieldType.array (FieldType.object "java/lang/Object"))) rm_J7_copyOf_1904c [.ref (tc 13), .int (nI 0)] h (rR (fun z h' => ∃ q, z = .ref q ∧ h q = none ∧ Up h q (qCell (tc 8) 0 (va_cpy (fun _ => none) (fun _ => none) 0 0 0)) h')) := by
  refine CT.start [some (.ref (tc 13)), some (.int (nI 0))] (by decide) hl rfl rfl (fun K C M => ?_)
  obtain ⟨rfl, rfl, rfl, -⟩ := id M
  have C : CX K RJ7 cJ7_copyOf_1904c 2 rm_J7_copyOf_1904c := C
  first | refine w_aload_n C dJ7_copyOf_1904c_0 (by rfl) ?_ | refine w_aload_nN C dJ7_copyOf_1904c_0 (by rfl) ?_
  refine w_iload_n C dJ7_copyOf_1904c_1 (by rfl) ?_
  first | refine w_aload_n C dJ7_copyOf_1904c_2 (by rfl) ?_ | refine w_aload_nN C dJ7_copyOf_1904c_2 (by rfl) ?_
  refine w_getCs C gw_1107 (by rfl) (by rfl) (by rfl) dJ7_copyOf_1904c_3 ?_
  refine cl_J7_300 C (m_copyOf0 hl) (by rfl) (by rfl) ⟨by decide, by decide⟩ (by rfl) dJ7_copyOf_1904c_6 (fun z1 h1 p1 => ?_)
  obtain ⟨q, rfl, w1, w2⟩ := p1
  refine w_aret C M dJ7_copyOf_1904c_9 ⟨by decide, by decide⟩ (Or.inr ⟨_, rfl⟩) (Or.inr ⟨_, rfl⟩) ⟨_, rfl, ?_⟩
  exact ⟨q, rfl, w1, w2⟩

set_option maxHeartbeats 4000000 in
set_option maxRecDepth 100000 in
theorem m_grow10 {l : Launch} {D : va_G} {tc : Nat → ClassId} (hl : l.stackTraces = false) {h : HM} {a el : Nat} {mc : Int32} {f : Nat → Option Nat} (hf : h a = some (lC mc el 10)) (hE : h el = some (qCell (tc 8) 10 f)) (hok : ∀ i, i < 10 → ∀ y, f i = some y → okE tc h y) :
    CT l D tc yJx4a65c_grow_92f84 cJx4a65c_grow_92f84 4 (some (FieldType.array (FieldType.object "java/lang/Object"))) rm_Jx4a65c_grow_92f84 [.ref a, .int 11] h (rR (fun z h' => ∃ q, z = .ref q ∧ h q = none ∧ h' a = some (lC mc q 10) ∧ h' q = some (qCell (tc 8) 15 (va_cpy f (fun _ => none) 0 0 10)) ∧ Fr [a] h h')) := by
  refine CT.start [some (.ref a), some (.int 11), none, none] (by decide) hl rfl rfl (fun K C M => ?_)
  obtain ⟨rfl, rfl, rfl, -⟩ := id M
  have C : CX K RJx4a65c cJx4a65c_grow_92f84 4 rm_Jx4a65c_grow_92f84 := C
  first | refine w_aload_n C dJx4a65c_grow_92f84_0 (by rfl) ?_ | refine w_aload_nN C dJx4a65c_grow_92f84_0 (by rfl) ?_
  refine gf_Jx4a65c_9 C hf dJx4a65c_grow_92f84_1 ?_
  refine w_alen C 8 hE (by rfl) dJx4a65c_grow_92f84_4 ?_
  refine w_istore_2 C dJx4a65c_grow_92f84_5 (by first | trivial | rfl) ?_
  refine w_iload_n C dJx4a65c_grow_92f84_6 (by rfl) ?_
  refine w_if_gt (tgt := 20) C dJx4a65c_grow_92f84_7 (by rfl) (fun c_7 => ?_) (fun c_7 => ?_)
  · try simp only [cg_ge, cg_gt, cl_gt, cl_le, cl_eq, cl_lt, cl_ge, bi_eq0, bi_ne0, bI_eq0, Decidable.not_not, Bool.not_eq_false] at c_7
    refine w_iload_n C dJx4a65c_grow_92f84_20 (by rfl) ?_
    refine w_iload_n C dJx4a65c_grow_92f84_21 (by rfl) ?_
    refine w_iload_n C dJx4a65c_grow_92f84_22 (by rfl) ?_
    refine w_isub C dJx4a65c_grow_92f84_23 ?_
    refine w_iload_n C dJx4a65c_grow_92f84_24 (by rfl) ?_
    refine w_iconst (v := 1) C dJx4a65c_grow_92f84_25 (by rfl) ?_
    refine w_ishr C dJx4a65c_grow_92f84_26 ?_
    rw [show ((11 : Int32) - nI 10) = 1 from by decide, show ((nI 10) >>> ((1 : Int32) &&& 31)) = 5 from by decide]
    change WW _ _ _ _ (_ :: _ :: .int 10 :: _) _
    refine cl_Jx4a65c_73 C (m_J8_newLength_cabcc hl) (by rfl) (by rfl) ⟨by decide, by decide⟩ (by rfl) dJx4a65c_grow_92f84_27 (fun z1 h1 p1 => ?_)
    obtain ⟨rfl, rfl⟩ := p1
    refine w_istore_3 C dJx4a65c_grow_92f84_30 (by first | trivial | rfl) ?_
    first | refine w_aload_n C dJx4a65c_grow_92f84_31 (by rfl) ?_ | refine w_aload_nN C dJx4a65c_grow_92f84_31 (by rfl) ?_
    first | refine w_aload_n C dJx4a65c_grow_92f84_32 (by rfl) ?_ | refine w_aload_nN C dJx4a65c_grow_92f84_32 (by rfl) ?_
    refine gf_Jx4a65c_9 C hf dJx4a65c_grow_92f84_33 ?_
    refine w_iload_n C dJx4a65c_grow_92f84_36 (by rfl) ?_
    refine cl_Jx4a65c_66 C (m_J7_copyOf_1904c (m := 15) (cnt := 10) hl hE (by decide) (by decide) (by decide) (by decide) (by decide) hok) (by rfl) (by rfl) ⟨by decide, by decide⟩ (by rfl) dJx4a65c_grow_92f84_37 (fun z2 h2 p2 => ?_)
    obtain ⟨q, rfl, w1, w2⟩ := p2
    have hf := w2.new hf w1
    have f_q := w2.self
    refine w_dup_x1 C dJx4a65c_grow_92f84_40 (by rfl) (by rfl) ?_
    have hf0 := hf
    refine pf_Jx4a65c_9 C hf dJx4a65c_grow_92f84_41 (fun h3 u3 => ?_)
    have hf := u3.self
    have f_q := u3.oth f_q hf0 (by intro q; simp at q)
    refine w_aret C M dJx4a65c_grow_92f84_44 ⟨by decide, by decide⟩ (Or.inr ⟨_, rfl⟩) (Or.inr ⟨_, rfl⟩) ⟨_, rfl, ?_⟩
    exact ⟨q, rfl, w1, hf, f_q, ((w2.frN w1).sub (by simp)).tr (u3.fr.sub (by simp))⟩
  · exact absurd (show (0 : Int32) < nI 10 by decide) c_7

set_option maxHeartbeats 4000000 in
set_option maxRecDepth 100000 in
theorem m_growA {l : Launch} {D : va_G} {tc : Nat → ClassId} (hl : l.stackTraces = false) {h : HM} {a : Nat} {mc : Int32} (hf : h a = some (lC mc (tc 13) 0)) :
    CT l D tc yJx4a65c_grow_d5877 cJx4a65c_grow_d5877 1 (some (FieldType.array (FieldType.object "java/lang/Object"))) rm_Jx4a65c_grow_d5877 [.ref a] h (rR (fun z h' => ∃ q, z = .ref q ∧ h q = none ∧ h' a = some (lC mc q 0) ∧ h' q = some (qCell (tc 8) 10 (fun _ => none)) ∧ Fr [a] h h')) := by
  refine CT.start [some (.ref a)] (by decide) hl rfl rfl (fun K C M => ?_)
  obtain ⟨rfl, rfl, rfl, -⟩ := id M
  have C : CX K RJx4a65c cJx4a65c_grow_d5877 1 rm_Jx4a65c_grow_d5877 := C
  first | refine w_aload_n C dJx4a65c_grow_d5877_0 (by rfl) ?_ | refine w_aload_nN C dJx4a65c_grow_d5877_0 (by rfl) ?_
  first | refine w_aload_n C dJx4a65c_grow_d5877_1 (by rfl) ?_ | refine w_aload_nN C dJx4a65c_grow_d5877_1 (by rfl) ?_
  refine gf_Jx4a65c_48 C hf dJx4a65c_grow_d5877_2 ?_
  refine w_iconst (v := 1) C dJx4a65c_grow_d5877_5 (by rfl) ?_
  refine w_iadd C dJx4a65c_grow_d5877_6 ?_
  refine cl_Jx4a65c_69 C (m_grow0 hl hf (by decide)) hf (by rfl) (by rfl) ⟨by decide, by decide⟩ (by rfl) dJx4a65c_grow_d5877_7 (fun z1 h1 p1 => ?_)
  obtain ⟨q, rfl, w1, w2, w3, w4⟩ := p1
  refine w_aret C M dJx4a65c_grow_d5877_10 ⟨by decide, by decide⟩ (Or.inr ⟨_, rfl⟩) (Or.inr ⟨_, rfl⟩) ⟨_, rfl, ?_⟩
  exact ⟨q, rfl, w1, w2, w3, w4⟩

set_option maxHeartbeats 4000000 in
set_option maxRecDepth 100000 in
theorem m_growB {l : Launch} {D : va_G} {tc : Nat → ClassId} (hl : l.stackTraces = false) {h : HM} {a el : Nat} {mc : Int32} {f : Nat → Option Nat} (hf : h a = some (lC mc el 10)) (hE : h el = some (qCell (tc 8) 10 f)) (hok : ∀ i, i < 10 → ∀ y, f i = some y → okE tc h y) :
    CT l D tc yJx4a65c_grow_d5877 cJx4a65c_grow_d5877 1 (some (FieldType.array (FieldType.object "java/lang/Object"))) rm_Jx4a65c_grow_d5877 [.ref a] h (rR (fun z h' => ∃ q, z = .ref q ∧ h q = none ∧ h' a = some (lC mc q 10) ∧ h' q = some (qCell (tc 8) 15 (va_cpy f (fun _ => none) 0 0 10)) ∧ Fr [a] h h')) := by
  refine CT.start [some (.ref a)] (by decide) hl rfl rfl (fun K C M => ?_)
  obtain ⟨rfl, rfl, rfl, -⟩ := id M
  have C : CX K RJx4a65c cJx4a65c_grow_d5877 1 rm_Jx4a65c_grow_d5877 := C
  first | refine w_aload_n C dJx4a65c_grow_d5877_0 (by rfl) ?_ | refine w_aload_nN C dJx4a65c_grow_d5877_0 (by rfl) ?_
  first | refine w_aload_n C dJx4a65c_grow_d5877_1 (by rfl) ?_ | refine w_aload_nN C dJx4a65c_grow_d5877_1 (by rfl) ?_
  refine gf_Jx4a65c_48 C hf dJx4a65c_grow_d5877_2 ?_
  refine w_iconst (v := 1) C dJx4a65c_grow_d5877_5 (by rfl) ?_
  refine w_iadd C dJx4a65c_grow_d5877_6 ?_
  change WW _ _ _ _ (.int 11 :: _) _
  refine cl_Jx4a65c_69 C (m_grow10 hl hf hE hok) hf (by rfl) (by rfl) ⟨by decide, by decide⟩ (by rfl) dJx4a65c_grow_d5877_7 (fun z1 h1 p1 => ?_)
  obtain ⟨q, rfl, w1, w2, w3, w4⟩ := p1
  refine w_aret C M dJx4a65c_grow_d5877_10 ⟨by decide, by decide⟩ (Or.inr ⟨_, rfl⟩) (Or.inr ⟨_, rfl⟩) ⟨_, rfl, ?_⟩
  exact ⟨q, rfl, w1, w2, w3, w4⟩
