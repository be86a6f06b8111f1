/-! GOING THROUGH A LIST; ALL OF ANOTHER -/
set_option maxHeartbeats 4000000 in
set_option maxRecDepth 100000 in
theorem m_Jx35411_init_45d68 {l : Launch} {D : va_G} {tc : Nat → ClassId} (hl : l.stackTraces = false) {h : HM} {a el n : Nat} {mc : Int32} (hf : h a = some (lC mc el n)) {q : Nat} {v0 v1 v2 : Value} (hI : h q = some (.inr (0, [.int 0, v1, v2, v0]))) :
    CT l D tc yJx35411_init_45d68 cJx35411_init_45d68 2 none rm_Jx35411_init_45d68 [.ref q, .ref a] h (rV (fun h' => Up h q (itC 0 (-1) mc a) h')) := by
  refine CT.start [some (.ref q), some (.ref a)] (by decide) hl rfl rfl (fun K C M => ?_)
  obtain ⟨rfl, rfl, rfl, -⟩ := id M
  have C : CX K RJx35411 cJx35411_init_45d68 2 rm_Jx35411_init_45d68 := C
  first | refine w_aload_n C dJx35411_init_45d68_0 (by rfl) ?_ | refine w_aload_nN C dJx35411_init_45d68_0 (by rfl) ?_
  first | refine w_aload_n C dJx35411_init_45d68_1 (by rfl) ?_ | refine w_aload_nN C dJx35411_init_45d68_1 (by rfl) ?_
  refine pf_Jx35411_1 C hI dJx35411_init_45d68_2 M.2.2.2.2.2.2.1 (fun h1 u1 => ?_)
  have hf := u1.oth hf hI (by intro q; simp at q)
  have hI := u1.self
  first | refine w_aload_n C dJx35411_init_45d68_5 (by rfl) ?_ | refine w_aload_nN C dJx35411_init_45d68_5 (by rfl) ?_
  refine w_obji C gw_1242 gw_89 gw_90 (by rfl) (by rfl) (by rfl) dJx35411_init_45d68_6 ?_
  first | refine w_aload_n C dJx35411_init_45d68_9 (by rfl) ?_ | refine w_aload_nN C dJx35411_init_45d68_9 (by rfl) ?_
  refine w_iconst (v := (-1)) C dJx35411_init_45d68_10 (by rfl) ?_
  refine pf_Jx35411_13 C hI dJx35411_init_45d68_11 (fun h2 u2 => ?_)
  have hf := u2.oth hf hI (by intro q; simp at q)
  have hI := u2.self
  first | refine w_aload_n C dJx35411_init_45d68_14 (by rfl) ?_ | refine w_aload_nN C dJx35411_init_45d68_14 (by rfl) ?_
  first | refine w_aload_n C dJx35411_init_45d68_15 (by rfl) ?_ | refine w_aload_nN C dJx35411_init_45d68_15 (by rfl) ?_
  refine gf_Jx35411_1 C hI dJx35411_init_45d68_16 ?_
  refine gf_Jx35411_17 C hf dJx35411_init_45d68_19 ?_
  refine pf_Jx35411_22 C hI dJx35411_init_45d68_22 (fun h3 u3 => ?_)
  have hf := u3.oth hf hI (by intro q; simp at q)
  have hI := u3.self
  refine w_vret C M dJx35411_init_45d68_25 ⟨by decide, by decide⟩ ⟨rfl, ?_⟩
  exact ((u1.tr u2).tr u3)

set_option maxHeartbeats 4000000 in
set_option maxRecDepth 100000 in
theorem m_Jx4a65c_iterator_32c93 {l : Launch} {D : va_G} {tc : Nat → ClassId} (hl : l.stackTraces = false) {h : HM} {a el n : Nat} {mc : Int32} (hf : h a = some (lC mc el n)) :
    CT l D tc yJx4a65c_iterator_32c93 cJx4a65c_iterator_32c93 1 (some (FieldType.object "java/util/Iterator")) rm_Jx4a65c_iterator_32c93 [.ref a] h (rR (fun z h' => ∃ q, z = .ref q ∧ h q = none ∧ Up h q (itC 0 (-1) mc a) h')) := by
  refine CT.start [some (.ref a)] (by decide) hl rfl rfl (fun K C M => ?_)
  obtain ⟨rfl, rfl, rfl, -⟩ := id M
  have C : CX K RJx4a65c cJx4a65c_iterator_32c93 1 rm_Jx4a65c_iterator_32c93 := C
  refine nw_Jx4a65c_267 C (by decide) (by decide) dJx4a65c_iterator_32c93_0 (fun qq h1 n1 u1 => ?_)
  have hf := u1.new hf n1
  have f_qq := u1.self
  have uN := u1
  have nN := n1
  refine w_dup C dJx4a65c_iterator_32c93_3 (by rfl) ?_
  first | refine w_aload_n C dJx4a65c_iterator_32c93_4 (by rfl) ?_ | refine w_aload_nN C dJx4a65c_iterator_32c93_4 (by rfl) ?_
  refine cl_Jx4a65c_269 C (m_Jx35411_init_45d68 hl hf f_qq) (by rfl) (by rfl) ⟨by decide, by decide⟩ (by rfl) dJx4a65c_iterator_32c93_5 (fun h2 p2 => ?_)
  have uI := uN.tr p2
  refine w_aret C M dJx4a65c_iterator_32c93_8 ⟨by decide, by decide⟩ (Or.inl ⟨_, rfl⟩) (Or.inr ⟨_, rfl⟩) ⟨_, rfl, ?_⟩
  exact ⟨qq, rfl, nN, uI⟩

set_option maxHeartbeats 4000000 in
set_option maxRecDepth 100000 in
theorem m_Jx35411_hasNext_aae02 {l : Launch} {D : va_G} {tc : Nat → ClassId} (hl : l.stackTraces = false) {h : HM} {a el n : Nat} {mc : Int32} (hf : h a = some (lC mc el n)) {q cur : Nat} {lr : Int32} (hI : h q = some (itC cur lr mc a)) (hc : cur ≤ n) (hn : n < 2 ^ 31) :
    CT l D tc yJx35411_hasNext_aae02 cJx35411_hasNext_aae02 1 (some FieldType.boolean) rm_Jx35411_hasNext_aae02 [.ref q] h (rI (fun z h' => h' = h ∧ z = bI (cur < n))) := by
  refine CT.start [some (.ref q)] (by decide) hl rfl rfl (fun K C M => ?_)
  obtain ⟨rfl, rfl, rfl, -⟩ := id M
  have C : CX K RJx35411 cJx35411_hasNext_aae02 1 rm_Jx35411_hasNext_aae02 := C
  first | refine w_aload_n C dJx35411_hasNext_aae02_0 (by rfl) ?_ | refine w_aload_nN C dJx35411_hasNext_aae02_0 (by rfl) ?_
  refine gf_Jx35411_25 C hI dJx35411_hasNext_aae02_1 ?_
  first | refine w_aload_n C dJx35411_hasNext_aae02_4 (by rfl) ?_ | refine w_aload_nN C dJx35411_hasNext_aae02_4 (by rfl) ?_
  refine gf_Jx35411_1 C hI dJx35411_hasNext_aae02_5 ?_
  refine gf_Jx35411_28 C hf dJx35411_hasNext_aae02_8 ?_
  refine w_icmp_eq (tgt := 18) C dJx35411_hasNext_aae02_11 (by rfl) (fun c_11 => ?_) (fun c_11 => ?_)
  · have e9 : ¬ cur < n := by have := nI_inj (by omega) (by omega) c_11; omega
    refine w_iconst (v := 0) C dJx35411_hasNext_aae02_18 (by rfl) ?_
    refine w_zret C M dJx35411_hasNext_aae02_19 ⟨by decide, by decide⟩ (by rfl) ⟨_, rfl, ?_⟩
    first
      | exact ⟨rfl, bI_f e9⟩
      | exact ⟨rfl, bI_t e9⟩
  · have e9 : cur < n := by
      rcases Nat.lt_or_ge cur n with w | w
      · exact w
      · exact absurd (by rw [show cur = n by omega]) c_11
    refine w_iconst (v := 1) C dJx35411_hasNext_aae02_14 (by rfl) ?_
    refine w_goto (tgt := 19) C dJx35411_hasNext_aae02_15 (by rfl) ?_
    refine w_zret C M dJx35411_hasNext_aae02_19 ⟨by decide, by decide⟩ (by rfl) ⟨_, rfl, ?_⟩
    first
      | exact ⟨rfl, bI_f e9⟩
      | exact ⟨rfl, bI_t e9⟩

set_option maxHeartbeats 4000000 in
set_option maxRecDepth 100000 in
theorem m_Jx35411_checkForComodification_da8c8 {l : Launch} {D : va_G} {tc : Nat → ClassId} (hl : l.stackTraces = false) {h : HM} {a el n : Nat} {mc : Int32} (hf : h a = some (lC mc el n)) {q cur : Nat} {lr : Int32} (hI : h q = some (itC cur lr mc a)) :
    CT l D tc yJx35411_checkForComodification_da8c8 cJx35411_checkForComodification_da8c8 1 none rm_Jx35411_checkForComodification_da8c8 [.ref q] h (rV (fun h' => h' = h)) := by
  refine CT.start [some (.ref q)] (by decide) hl rfl rfl (fun K C M => ?_)
  obtain ⟨rfl, rfl, rfl, -⟩ := id M
  have C : CX K RJx35411 cJx35411_checkForComodification_da8c8 1 rm_Jx35411_checkForComodification_da8c8 := C
  first | refine w_aload_n C dJx35411_checkForComodification_da8c8_0 (by rfl) ?_ | refine w_aload_nN C dJx35411_checkForComodification_da8c8_0 (by rfl) ?_
  refine gf_Jx35411_1 C hI dJx35411_checkForComodification_da8c8_1 ?_
  refine gf_Jx35411_17 C hf dJx35411_checkForComodification_da8c8_4 ?_
  first | refine w_aload_n C dJx35411_checkForComodification_da8c8_7 (by rfl) ?_ | refine w_aload_nN C dJx35411_checkForComodification_da8c8_7 (by rfl) ?_
  refine gf_Jx35411_22 C hI dJx35411_checkForComodification_da8c8_8 ?_
  refine w_icmp_eq (tgt := 22) C dJx35411_checkForComodification_da8c8_11 (by rfl) (fun c_11 => ?_) (fun c_11 => ?_)
  · refine w_vret C M dJx35411_checkForComodification_da8c8_22 ⟨by decide, by decide⟩ ⟨rfl, ?_⟩
    rfl
  · exact absurd rfl c_11

set_option maxHeartbeats 4000000 in
set_option maxRecDepth 100000 in
theorem m_Jx35411_next_0502b {l : Launch} {D : va_G} {tc : Nat → ClassId} (hl : l.stackTraces = false) {h : HM} {a el n : Nat} {mc : Int32} (hf : h a = some (lC mc el n)) {q cur : Nat} {lr : Int32} (hI : h q = some (itC cur lr mc a)) {cap e : Nat} {f : Nat → Option Nat} (hE : h el = some (qCell (tc 8) cap f)) (hc : cur < n) (hn : n ≤ cap) (hcap : cap < 2 ^ 31) (he : f cur = some e) :
    CT l D tc yJx35411_next_0502b cJx35411_next_0502b 3 (some (FieldType.object "java/lang/Object")) rm_Jx35411_next_0502b [.ref q] h (rR (fun z h' => z = .ref e ∧ Up h q (itC (cur + 1) (nI cur) mc a) h')) := by
  refine CT.start [some (.ref q), none, none] (by decide) hl rfl rfl (fun K C M => ?_)
  obtain ⟨rfl, rfl, rfl, -⟩ := id M
  have C : CX K RJx35411 cJx35411_next_0502b 3 rm_Jx35411_next_0502b := C
  first | refine w_aload_n C dJx35411_next_0502b_0 (by rfl) ?_ | refine w_aload_nN C dJx35411_next_0502b_0 (by rfl) ?_
  refine cl_Jx35411_31 C (m_Jx35411_checkForComodification_da8c8 hl hf hI) hI (by rfl) (by rfl) ⟨by decide, by decide⟩ (by rfl) dJx35411_next_0502b_1 (fun h1 p1 => ?_)
  obtain rfl := p1
  first | refine w_aload_n C dJx35411_next_0502b_4 (by rfl) ?_ | refine w_aload_nN C dJx35411_next_0502b_4 (by rfl) ?_
  refine gf_Jx35411_25 C hI dJx35411_next_0502b_5 ?_
  refine w_istore_1 C dJx35411_next_0502b_8 (by first | trivial | rfl) ?_
  refine w_iload_n C dJx35411_next_0502b_9 (by rfl) ?_
  first | refine w_aload_n C dJx35411_next_0502b_10 (by rfl) ?_ | refine w_aload_nN C dJx35411_next_0502b_10 (by rfl) ?_
  refine gf_Jx35411_1 C hI dJx35411_next_0502b_11 ?_
  refine gf_Jx35411_28 C hf dJx35411_next_0502b_14 ?_
  refine w_icmp_lt (tgt := 28) C dJx35411_next_0502b_17 (by rfl) (fun c_17 => ?_) (fun c_17 => ?_)
  · first | refine w_aload_n C dJx35411_next_0502b_28 (by rfl) ?_ | refine w_aload_nN C dJx35411_next_0502b_28 (by rfl) ?_
    refine gf_Jx35411_1 C hI dJx35411_next_0502b_29 ?_
    refine gf_Jx35411_37 C hf dJx35411_next_0502b_32 ?_
    first | refine w_astore_2 C dJx35411_next_0502b_35 (by first | trivial | rfl) ?_ | refine w_astore_2N C dJx35411_next_0502b_35 (by first | trivial | rfl) ?_
    refine w_iload_n C dJx35411_next_0502b_36 (by rfl) ?_
    first | refine w_aload_n C dJx35411_next_0502b_37 (by rfl) ?_ | refine w_aload_nN C dJx35411_next_0502b_37 (by rfl) ?_
    refine w_alen C 8 hE (by rfl) dJx35411_next_0502b_38 ?_
    refine w_icmp_lt (tgt := 50) C dJx35411_next_0502b_39 (by rfl) (fun c_39 => ?_) (fun c_39 => ?_)
    · first | refine w_aload_n C dJx35411_next_0502b_50 (by rfl) ?_ | refine w_aload_nN C dJx35411_next_0502b_50 (by rfl) ?_
      refine w_iload_n C dJx35411_next_0502b_51 (by rfl) ?_
      refine w_iconst (v := 1) C dJx35411_next_0502b_52 (by rfl) ?_
      refine w_iadd C dJx35411_next_0502b_53 ?_
      rw [nI_1 cur]
      refine pf_Jx35411_25 C hI dJx35411_next_0502b_54 (fun h2 u2 => ?_)
      have hE := u2.oth hE hI (by intro q; simp at q)
      have hI := u2.self
      first | refine w_aload_n C dJx35411_next_0502b_57 (by rfl) ?_ | refine w_aload_nN C dJx35411_next_0502b_57 (by rfl) ?_
      first | refine w_aload_n C dJx35411_next_0502b_58 (by rfl) ?_ | refine w_aload_nN C dJx35411_next_0502b_58 (by rfl) ?_
      refine w_iload_n C dJx35411_next_0502b_59 (by rfl) ?_
      refine w_dup_x1 C dJx35411_next_0502b_60 (by rfl) (by rfl) ?_
      refine pf_Jx35411_13 C hI dJx35411_next_0502b_61 (fun h3 u3 => ?_)
      have hE := u3.oth hE hI (by intro q; simp at q)
      have hI := u3.self
      refine w_aaldn C 8 hE (by rfl) (by omega) hcap dJx35411_next_0502b_64 ?_
      rw [he]
      change WW _ _ _ _ (.ref e :: _) _
      refine w_aret C M dJx35411_next_0502b_65 ⟨by decide, by decide⟩ (Or.inl ⟨_, rfl⟩) (Or.inr ⟨_, rfl⟩) ⟨_, rfl, ?_⟩
      exact ⟨rfl, (u2.tr u3)⟩
    · exact absurd (nI_lt (by omega) (by omega)) c_39
  · exact absurd (nI_lt hc (by omega)) c_17

section ITR
variable {K : KC} {n0 : Nat × Nat} {pc : Nat} {lv : List (Option Value)} {st : List Value} {h : HM} {own : String} {cc : ByteArray} {nL : Nat} {R : Room}
theorem w_hasN (C : CX K own cc nL R) (hl : (Kl K).stackTraces = false) {a el n q cur idx : Nat} {mc lr : Int32} (hf : h a = some (lC mc el n)) (hI : h q = some (itC cur lr mc a)) (hc : cur ≤ n) (hn : n < 2 ^ 31) (w1 : Cond.methodLink own idx ⟨"java/util/Iterator", "hasNext", "()Z"⟩ ∈ lw_G) (hR : okR rm_Jx35411_hasNext_aae02 R 1 = true) (hS9 : okS st = true) (hn9 : n0.1 ≤ R.cells ∧ n0.2 ≤ R.slots) (hnl : lv.length = nL) (hd : decode cc pc = .ok (.invokeinterface idx 1, 5))
    (k : WW K n0 (pc + 5) lv (.int (bI (cur < n)) :: st) h) : WW K n0 pc lv (.ref q :: st) h :=
  w_F (As := []) C (m_Jx35411_hasNext_aae02 hl hf hI hc hn) hI (r := (RJx35411, TJx35411, 4)) rfl (sw_hasN C) w1 gw_1263 gw_75 gw_1265 gw_1261 (show okY ⟨"java/util/Iterator", "hasNext", "()Z"⟩ 0 = true by decide +kernel) hR hS9 hn9 hnl rfl hd (fun r h9 p9 => by obtain ⟨z, rfl, rfl, rfl⟩ := p9; exact k)
theorem w_next (C : CX K own cc nL R) (hl : (Kl K).stackTraces = false) {a el n q cur idx : Nat} {mc lr : Int32} (hf : h a = some (lC mc el n)) (hI : h q = some (itC cur lr mc a)) {cap e : Nat} {f : Nat → Option Nat} (hE : h el = some (qCell (Kt K 8) cap f)) (hc : cur < n) (hn : n ≤ cap) (hcap : cap < 2 ^ 31) (he : f cur = some e) (w1 : Cond.methodLink own idx ⟨"java/util/Iterator", "next", "()Ljava/lang/Object;"⟩ ∈ lw_G) (hR : okR rm_Jx35411_next_0502b R 3 = true) (hS9 : okS st = true) (hn9 : n0.1 ≤ R.cells ∧ n0.2 ≤ R.slots) (hnl : lv.length = nL) (hd : decode cc pc = .ok (.invokeinterface idx 1, 5))
    (k : ∀ h', Up h q (itC (cur + 1) (nI cur) mc a) h' → WW K n0 (pc + 5) lv (.ref e :: st) h') : WW K n0 pc lv (.ref q :: st) h :=
  w_F (As := []) C (m_Jx35411_next_0502b hl hf hI hE hc hn hcap he) hI (r := (RJx35411, TJx35411, 4)) rfl (sw_next C) w1 gw_1272 gw_75 gw_1274 gw_1270 (show okY ⟨"java/util/Iterator", "next", "()Ljava/lang/Object;"⟩ 0 = true by decide +kernel) hR hS9 hn9 hnl rfl hd (fun r h9 p9 => by obtain ⟨z, rfl, rfl, u9⟩ := p9; exact k h9 u9)
end ITR

theorem mnc {n cap : Nat} (h : n ≤ cap) (hc : cap < 2 ^ 31) : (if nI n < nI cap then nI n else nI cap) = nI n := by
  by_cases w : n < cap
  · rw [if_pos (nI_lt w hc)]
  · rw [if_neg (nI_nlt (by omega) (by omega)), show cap = n by omega]
theorem cpy_0 (F : Nat → Nat) : va_cpy (fun _ => none) (fun _ => none) 0 0 0 = row9 0 F := by
  funext k
  simp [va_cpy, row9]

set_option maxHeartbeats 4000000 in
set_option maxRecDepth 100000 in
theorem m_toA1 {l : Launch} {D : va_G} {tc : Nat → ClassId} (hl : l.stackTraces = false) {h : HM} {a el n : Nat} {mc : Int32} (hf : h a = some (lC mc el n)) {cap : Nat} {F : Nat → Nat} (hE : h el = some (qCell (tc 8) cap (row9 n F))) (hn : n ≤ cap) (hcap : cap ≤ 15) (hok : ∀ i, i < n → okE tc h (F i)) :
    CT l D tc yJx4a65c_toArray_d5877 cJx4a65c_toArray_d5877 1 (some (FieldType.array (FieldType.object "java/lang/Object"))) rm_Jx4a65c_toArray_d5877 [.ref a] h (rR (fun z h' => ∃ q, z = .ref q ∧ h q = none ∧ Up h q (qCell (tc 8) n (row9 n F)) h')) := by
  refine CT.start [some (.ref a)] (by decide) hl rfl rfl (fun K C M => ?_)
  obtain ⟨rfl, rfl, rfl, -⟩ := id M
  have C : CX K RJx4a65c cJx4a65c_toArray_d5877 1 rm_Jx4a65c_toArray_d5877 := C
  first | refine w_aload_n C dJx4a65c_toArray_d5877_0 (by rfl) ?_ | refine w_aload_nN C dJx4a65c_toArray_d5877_0 (by rfl) ?_
  refine gf_Jx4a65c_9 C hf dJx4a65c_toArray_d5877_1 ?_
  first | refine w_aload_n C dJx4a65c_toArray_d5877_4 (by rfl) ?_ | refine w_aload_nN C dJx4a65c_toArray_d5877_4 (by rfl) ?_
  refine gf_Jx4a65c_48 C hf dJx4a65c_toArray_d5877_5 ?_
  refine cl_Jx4a65c_66 C (m_J7_copyOf_1904c (m := n) (cnt := n) hl hE (by omega) (by omega) (mnc hn (by omega)) hn (Nat.le_refl n) (fun i hi y hy => by rw [show row9 n F i = some (F i) from if_pos hi] at hy; cases hy; exact hok i hi)) (by rfl) (by rfl) ⟨by decide, by decide⟩ (by rfl) dJx4a65c_toArray_d5877_8 (fun z1 h1 p1 => ?_)
  obtain ⟨q, rfl, w1, w2⟩ := p1
  refine w_aret C M dJx4a65c_toArray_d5877_11 ⟨by decide, by decide⟩ (Or.inr ⟨_, rfl⟩) (Or.inr ⟨_, rfl⟩) ⟨_, rfl, ?_⟩
  exact ⟨q, rfl, w1, by rw [cpy_row] at w2; exact w2⟩

set_option maxHeartbeats 4000000 in
set_option maxRecDepth 100000 in
theorem m_toA0 {l : Launch} {D : va_G} {tc : Nat → ClassId} (hl : l.stackTraces = false) {h : HM} {a : Nat} {mc : Int32} {F : Nat → Nat} (hf : h a = some (lC mc (tc 13) 0)) :
    CT l D tc yJx4a65c_toArray_d5877 cJx4a65c_toArray_d5877 1 (some (FieldType.array (FieldType.object "java/lang/Object"))) rm_Jx4a65c_toArray_d5877 [.ref a] h (rR (fun z h' => ∃ q, z = .ref q ∧ h q = none ∧ Up h q (qCell (tc 8) 0 (row9 0 F)) h')) := by
  refine CT.start [some (.ref a)] (by decide) hl rfl rfl (fun K C M => ?_)
  obtain ⟨rfl, rfl, rfl, -⟩ := id M
  have C : CX K RJx4a65c cJx4a65c_toArray_d5877 1 rm_Jx4a65c_toArray_d5877 := C
  first | refine w_aload_n C dJx4a65c_toArray_d5877_0 (by rfl) ?_ | refine w_aload_nN C dJx4a65c_toArray_d5877_0 (by rfl) ?_
  refine gf_Jx4a65c_9 C hf dJx4a65c_toArray_d5877_1 ?_
  first | refine w_aload_n C dJx4a65c_toArray_d5877_4 (by rfl) ?_ | refine w_aload_nN C dJx4a65c_toArray_d5877_4 (by rfl) ?_
  refine gf_Jx4a65c_48 C hf dJx4a65c_toArray_d5877_5 ?_
  refine cl_Jx4a65c_66 C (m_copyOf1 hl) (by rfl) (by rfl) ⟨by decide, by decide⟩ (by rfl) dJx4a65c_toArray_d5877_8 (fun z1 h1 p1 => ?_)
  obtain ⟨q, rfl, w1, w2⟩ := p1
  refine w_aret C M dJx4a65c_toArray_d5877_11 ⟨by decide, by decide⟩ (Or.inr ⟨_, rfl⟩) (Or.inr ⟨_, rfl⟩) ⟨_, rfl, ?_⟩
  exact ⟨q, rfl, w1, by rw [cpy_0 F] at w2; exact w2⟩

theorem m_toA {l : Launch} {D : va_G} {tc : Nat → ClassId} (hl : l.stackTraces = false) {h : HM} {a el n : Nat} {mc : Int32} {F : Nat → Nat} (hf : h a = some (lC mc el n)) (hA : LA tc el n F h) (hok : ∀ i, i < n → okE tc h (F i)) :
    CT l D tc yJx4a65c_toArray_d5877 cJx4a65c_toArray_d5877 1 (some (FieldType.array (FieldType.object "java/lang/Object"))) rm_Jx4a65c_toArray_d5877 [.ref a] h (rR (fun z h' => ∃ q, z = .ref q ∧ h q = none ∧ Up h q (qCell (tc 8) n (row9 n F)) h')) := by
  rcases hA with ⟨rfl, rfl⟩ | ⟨cap, hE, hc, hcap, -⟩
  · exact m_toA0 hl hf
  · exact m_toA1 hl hf hE hc (by omega) hok

set_option maxHeartbeats 4000000 in
set_option maxRecDepth 100000 in
theorem m_Jx4a65c_addAll_f0b43 {l : Launch} {D : va_G} {tc : Nat → ClassId} (hl : l.stackTraces = false) {h : HM} {a b el n : Nat} {mc mc2 : Int32} {F : Nat → Nat} (hf : h a = some (lC mc (tc 13) 0)) (hb : h b = some (lC mc2 el n)) (hA : LA tc el n F h) (hok : ∀ i, i < n → okE tc h (F i)) (hn : n ≤ 10) :
    CT l D tc yJx4a65c_addAll_f0b43 cJx4a65c_addAll_f0b43 6 (some FieldType.boolean) rm_Jx4a65c_addAll_f0b43 [.ref a, .ref b] h (rI (fun z h' => ∃ el', h' a = some (lC (mc + 1) el' n) ∧ LA tc el' n F h' ∧ Fr [a] h h' ∧ (el' = tc 13 ∨ h el' = none))) := by
  refine CT.start [some (.ref a), some (.ref b), none, none, none, none] (by decide) hl rfl rfl (fun K C M => ?_)
  obtain ⟨rfl, rfl, rfl, -⟩ := id M
  have C : CX K RJx4a65c cJx4a65c_addAll_f0b43 6 rm_Jx4a65c_addAll_f0b43 := C
  first | refine w_aload_n C dJx4a65c_addAll_f0b43_0 (by rfl) ?_ | refine w_aload_nN C dJx4a65c_addAll_f0b43_0 (by rfl) ?_
  refine w_F (As := []) C (m_toA hl hb hA hok) hb (r := (RJx4a65c, TJx4a65c, 3)) rfl (sw_toA C) gw_1564 gw_1570 gw_57 gw_1572 gw_1568 (show okY ⟨"java/util/Collection", "toArray", "()[Ljava/lang/Object;"⟩ 0 = true by decide +kernel) (by rfl) (by rfl) ⟨by decide, by decide⟩ (by rfl) rfl dJx4a65c_addAll_f0b43_1 (fun r h1 p1 => ?_)
  obtain ⟨_, rfl, q0, rfl, nq, uq⟩ := p1
  change WW _ _ _ _ (.ref q0 :: _) _
  have hf := uq.new hf nq
  have hq := uq.self
  have hok := fun i hi => (hok i hi).new uq nq
  first | refine w_astore_2 C dJx4a65c_addAll_f0b43_6 (by first | trivial | rfl) ?_ | refine w_astore_2N C dJx4a65c_addAll_f0b43_6 (by first | trivial | rfl) ?_
  first | refine w_aload_n C dJx4a65c_addAll_f0b43_7 (by rfl) ?_ | refine w_aload_nN C dJx4a65c_addAll_f0b43_7 (by rfl) ?_
  refine w_dup C dJx4a65c_addAll_f0b43_8 (by rfl) ?_
  refine gf_Jx4a65c_63 C hf dJx4a65c_addAll_f0b43_9 ?_
  refine w_iconst (v := 1) C dJx4a65c_addAll_f0b43_12 (by rfl) ?_
  refine w_iadd C dJx4a65c_addAll_f0b43_13 ?_
  have hf0 := hf
  refine pf_Jx4a65c_63 C hf dJx4a65c_addAll_f0b43_14 (fun h1 u1 => ?_)
  have hf := u1.self
  have hok := fun i hi => (hok i hi).up u1 hf0 (fun m f => not_lC9.1 m _ f) not_lC9.2
  have hq := u1.oth hq hf0 (by intro q; simp at q)
  have fr1 : Fr [a] h _ := ((uq.frN nq).sub (by simp)).tr (u1.fr.sub (by simp))
  have hf1 := hf
  first | refine w_aload_n C dJx4a65c_addAll_f0b43_17 (by rfl) ?_ | refine w_aload_nN C dJx4a65c_addAll_f0b43_17 (by rfl) ?_
  refine w_alen C 8 hq (by rfl) dJx4a65c_addAll_f0b43_18 ?_
  refine w_istore_3 C dJx4a65c_addAll_f0b43_19 (by first | trivial | rfl) ?_
  refine w_iload_n C dJx4a65c_addAll_f0b43_20 (by rfl) ?_
  refine w_if_ne (tgt := 26) C dJx4a65c_addAll_f0b43_21 (by rfl) (fun c_21 => ?_) (fun c_21 => ?_)
  · try simp only [cg_ge, cg_gt, cl_gt, cl_le, cl_eq, cl_lt, cl_ge, bi_eq0, bi_ne0, bI_eq0, Decidable.not_not, Bool.not_eq_false] at c_21
    have e0 : ¬ n = 0 := fun w => c_21 ((nI_is0 (by omega)).mpr w)
    refine w_iload_n C dJx4a65c_addAll_f0b43_26 (by rfl) ?_
    first | refine w_aload_n C dJx4a65c_addAll_f0b43_27 (by rfl) ?_ | refine w_aload_nN C dJx4a65c_addAll_f0b43_27 (by rfl) ?_
    refine gf_Jx4a65c_9 C hf dJx4a65c_addAll_f0b43_28 ?_
    refine w_dup C dJx4a65c_addAll_f0b43_31 (by rfl) ?_
    first | refine w_astore_4 C dJx4a65c_addAll_f0b43_32 (by first | trivial | rfl) ?_ | refine w_astore_4N C dJx4a65c_addAll_f0b43_32 (by first | trivial | rfl) ?_
    refine w_tlen C (sw_list C).2.1 dJx4a65c_addAll_f0b43_34 ?_
    first | refine w_aload_n C dJx4a65c_addAll_f0b43_35 (by rfl) ?_ | refine w_aload_nN C dJx4a65c_addAll_f0b43_35 (by rfl) ?_
    refine gf_Jx4a65c_48 C hf dJx4a65c_addAll_f0b43_36 ?_
    refine w_dup C dJx4a65c_addAll_f0b43_39 (by rfl) ?_
    refine w_istore_5 C dJx4a65c_addAll_f0b43_40 (by first | trivial | rfl) ?_
    refine w_isub C dJx4a65c_addAll_f0b43_42 ?_
    refine w_icmp_le (tgt := 56) C dJx4a65c_addAll_f0b43_43 (by rfl) (fun c_43 => ?_) (fun c_43 => ?_)
    · exact absurd (show nI n ≤ nI 0 from c_43) (fun w => by rw [Int32.le_iff_toInt_le, nI_toInt (by omega), nI_toInt (by omega)] at w; omega)
    · first | refine w_aload_n C dJx4a65c_addAll_f0b43_46 (by rfl) ?_ | refine w_aload_nN C dJx4a65c_addAll_f0b43_46 (by rfl) ?_
      refine w_iload C dJx4a65c_addAll_f0b43_47 (by rfl) ?_
      refine w_iload_n C dJx4a65c_addAll_f0b43_49 (by rfl) ?_
      refine w_iadd C dJx4a65c_addAll_f0b43_50 ?_
      rw [show nI 0 + nI n = nI n from Int32.zero_add _]
      refine cl_Jx4a65c_69 C (m_grow0 hl hf (nI_nlt (b := n) (a := 10) (by omega) (by omega))) hf (by rfl) (by rfl) ⟨by decide, by decide⟩ (by rfl) dJx4a65c_addAll_f0b43_51 (fun z4 h2 p2 => ?_)
      obtain ⟨q9, rfl, g1, g2, g3, g4⟩ := p2
      have hq := g4 _ _ (not1 (ne_of hq hf (by intro q; simp at q))) hq
      have hok := fun i hi => (hok i hi).fr1 g4 hf (fun m f => not_lC9.1 m _ f) not_lC9.2
      have hf := g2
      have fr2 := fr1.tr g4
      first | refine w_astore_4 C dJx4a65c_addAll_f0b43_54 (by first | trivial | rfl) ?_ | refine w_astore_4N C dJx4a65c_addAll_f0b43_54 (by first | trivial | rfl) ?_
      first | refine w_aload_n C dJx4a65c_addAll_f0b43_56 (by rfl) ?_ | refine w_aload_nN C dJx4a65c_addAll_f0b43_56 (by rfl) ?_
      refine w_iconst (v := 0) C dJx4a65c_addAll_f0b43_57 (by rfl) ?_
      first | refine w_aload C dJx4a65c_addAll_f0b43_58 (by rfl) ?_ | refine w_aloadN C dJx4a65c_addAll_f0b43_58 (by rfl) ?_
      refine w_iload C dJx4a65c_addAll_f0b43_60 (by rfl) ?_
      refine w_iload_n C dJx4a65c_addAll_f0b43_62 (by rfl) ?_
      refine w_copyq C hq g3 (Nat.le_refl n) (by omega) (by omega) (fun i hi y hy => by rw [show row9 n F i = some (F i) from if_pos hi] at hy; cases hy; exact hok i hi) gw_1573 (by rfl) (by rfl) (by rfl) dJx4a65c_addAll_f0b43_63 (fun h8 u8 => ?_)
      have hf := u8.oth hf g3 (by intro q; simp at q)
      have g5 := u8.self
      rw [cpy_row] at g5
      first | refine w_aload_n C dJx4a65c_addAll_f0b43_66 (by rfl) ?_ | refine w_aload_nN C dJx4a65c_addAll_f0b43_66 (by rfl) ?_
      refine w_iload C dJx4a65c_addAll_f0b43_67 (by rfl) ?_
      refine w_iload_n C dJx4a65c_addAll_f0b43_69 (by rfl) ?_
      refine w_iadd C dJx4a65c_addAll_f0b43_70 ?_
      rw [show nI 0 + nI n = nI n from Int32.zero_add _]
      have hf2 := hf
      refine pf_Jx4a65c_48 C hf dJx4a65c_addAll_f0b43_71 (fun h3 u3 => ?_)
      have hf := u3.self
      have g5 := u3.oth g5 hf2 (by intro q; simp at q)
      have uz := u3
      refine w_ne13 C g5 (fun ne13 => ?_)
      refine w_iconst (v := 1) C dJx4a65c_addAll_f0b43_74 (by rfl) ?_
      refine w_zret C M dJx4a65c_addAll_f0b43_75 ⟨by decide, by decide⟩ (by rfl) ⟨_, rfl, ?_⟩
      exact ⟨q9, hf, Or.inr ⟨10, g5, by omega, Or.inl rfl, ne13⟩, (frNo9 fr2 u8 (fr1.none1 hf1 g1)).tr uz.fr, Or.inr (fr1.none1 hf1 g1)⟩
  · try simp only [cg_ge, cg_gt, cl_gt, cl_le, cl_eq, cl_lt, cl_ge, bi_eq0, bi_ne0, bI_eq0, Decidable.not_not, Bool.not_eq_false] at c_21
    have e0 : n = 0 := (nI_is0 (by omega)).mp c_21
    refine w_iconst (v := 0) C dJx4a65c_addAll_f0b43_24 (by rfl) ?_
    refine w_zret C M dJx4a65c_addAll_f0b43_25 ⟨by decide, by decide⟩ (by rfl) ⟨_, rfl, ?_⟩
    subst e0
    exact ⟨_, hf, Or.inl ⟨rfl, rfl⟩, fr1, Or.inl rfl⟩
