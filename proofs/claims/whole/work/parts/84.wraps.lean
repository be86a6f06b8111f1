/-! THE LAW'S WRAPPERS -/
theorem hj_hu {hA hR : HM} {o : Nat} {x : va_E} (n : hA o = none) : hu (hj hA hR) o x = hj hA (hu hR o x) := by
  funext b
  by_cases e : b = o
  · subst e
    simp only [hj, hu_self, n]
  · rw [hu_ne _ _ e]
    simp only [hj]
    rw [hu_ne _ _ e]
theorem dj_hu {hA hR : HM} {o : Nat} {x x0 : va_E} (dj : ∀ a e, hR a = some e → hA a = none) (ho : hR o = some x0) : ∀ a e, hu hR o x a = some e → hA a = none := by
  intro a e h
  by_cases w : a = o
  · subst w; exact dj _ _ ho
  · rw [hu_ne _ _ w] at h; exact dj _ _ h
theorem CTX.frameI {l : Launch} {D : va_G} {tc : Nat → ClassId} {y : MethodName} {cc : ByteArray} {nL : Nat} {ret : Option FieldType} {rm : Room} {args : List Value} {h1 h2 : HM} {p : Int32 → HM → Prop} {px : String → HM → Prop} (hx : ∀ a e, h2 a = some e → h1 a = none) (hM : CTX l D tc y cc nL ret rm args h1 (rI p) px) : CTX l D tc y cc nL ret rm args (hj h1 h2) (rI (fun z h' => ∃ h1', p z h1' ∧ h' = hj h1' h2 ∧ ∀ a e, h2 a = some e → h1' a = none)) (fun E h' => ∃ h1', px E h1' ∧ h' = hj h1' h2 ∧ ∀ a e, h2 a = some e → h1' a = none) :=
  (CTX.frame hx hM).mono (fun r h' ⟨h1', hp, e, d⟩ => by obtain ⟨z, rfl, q⟩ := hp; exact ⟨z, rfl, h1', q, e, d⟩) (fun E h' q => q)
theorem CTX.frameD {l : Launch} {D : va_G} {tc : Nat → ClassId} {y : MethodName} {cc : ByteArray} {nL : Nat} {ret : Option FieldType} {rm : Room} {args : List Value} {h1 h2 : HM} {p : UInt64 → HM → Prop} {px : String → HM → Prop} (hx : ∀ a e, h2 a = some e → h1 a = none) (hM : CTX l D tc y cc nL ret rm args h1 (rD p) px) : CTX l D tc y cc nL ret rm args (hj h1 h2) (rD (fun z h' => ∃ h1', p z h1' ∧ h' = hj h1' h2 ∧ ∀ a e, h2 a = some e → h1' a = none)) (fun E h' => ∃ h1', px E h1' ∧ h' = hj h1' h2 ∧ ∀ a e, h2 a = some e → h1' a = none) :=
  (CTX.frame hx hM).mono (fun r h' ⟨h1', hp, e, d⟩ => by obtain ⟨z, rfl, q⟩ := hp; exact ⟨z, rfl, h1', q, e, d⟩) (fun E h' q => q)

set_option maxHeartbeats 4000000 in
set_option maxRecDepth 100000 in
theorem m_L_clay {l : Launch} {D : va_G} {tc : Nat → ClassId} (hl : l.stackTraces = false) {hA hR : HM} {y0 o : Nat} {v1 v2 : Int32} {fs : List Value} {f : Nat → Int64} {p : Int32 → HM → Prop} {px : String → HM → Prop} (hdj : ∀ a e, hR a = some e → hA a = none) (hy0 : hA y0 = some (.inr (9, fs))) (ho : hR o = some (.inl (tc 1, 1, .inr (.inl f)))) (hM : CTX l D tc yX7_clay cX7_clay 3 (some FieldType.int) rm_X7_clay [.ref y0, .int v1, .int v2] hA (rI p) px) (hcd : ∀ E h9, px E h9 → E = "java/lang/IllegalArgumentException" ∨ E = "java/lang/IllegalStateException") :
    CTW l D tc yL_clay cL_clay 5 (some FieldType.int) [(0, 10, 13, 13), (0, 10, 17, 15)] rm_L_clay [.ref y0, .int v1, .int v2, .ref o] (hj hA hR) (rI (fun z h' => (z = 0 ∧ ∃ v hA', p v hA' ∧ (∀ a e, hR a = some e → hA' a = none) ∧ h' = hj hA' (hu hR o (.inl (tc 1, 1, .inr (.inl (vp_updL f 0 v.toInt64)))))) ∨ (∃ E hA', px E hA' ∧ (E, z) ∈ ([("java/lang/IllegalArgumentException", 1), ("java/lang/IllegalStateException", 2)] : List (String × Int32)) ∧ (∀ a e, hR a = some e → hA' a = none) ∧ h' = hj hA' hR))) := by
  refine CTW.start [some (.ref y0), some (.int v1), some (.int v2), some (.ref o), none] (by decide) hl rfl rfl (fun K C M ht hN => ?_)
  obtain ⟨rfl, rfl, rfl, -⟩ := id M
  have C : CX K RL cL_clay 5 rm_L_clay := C
  have kx9 : ∀ (E : String) (h9 : HM), (∃ h1, px E h1 ∧ h9 = hj h1 hR ∧ ∀ a e, hR a = some e → h1 a = none) → WX K (((0, 0) : Nat × Nat).1 + rm_X7_clay.cells, ((0, 0) : Nat × Nat).2 + rm_X7_clay.slots) 5 [some (.ref y0), some (.int v1), some (.int v2), some (.ref o), none] [.int 0, .ref o] h9 E := by
    intro E h9 ⟨hA1, hp, e9, dj⟩
    subst e9
    rcases hcd E hA1 hp with rfl | rfl
    · refine w_catch C [] ⟨0, 10, 13, 13⟩ [⟨0, 10, 17, 15⟩] (ht.trans rfl) (fun z hz => (absurd hz List.not_mem_nil)) (by decide) (by decide) gw_521 (List.mem_of_getElem? (i := 310) (by decide +kernel)) (fun q => ?_)
      refine w_astore_4 C dL_clay_13 (by first | trivial | rfl) ?_
      refine w_iconst (v := 1) C dL_clay_15 (by rfl) ?_
      refine w_iret C M dL_clay_16 ⟨by decide, by decide⟩ ⟨_, rfl, ?_⟩
      exact Or.inr ⟨_, hA1, hp, by simp, dj, rfl⟩
    · refine w_catch C [⟨0, 10, 13, 13⟩] ⟨0, 10, 17, 15⟩ [] (ht.trans rfl) (fun z hz => by
        simp only [List.mem_cons, List.mem_nil_iff, or_false] at hz
        rcases hz with rfl
        · exact Or.inr ⟨by decide, _, gw_521, hN.2.1⟩) (by decide) (by decide) gw_522 (List.mem_of_getElem? (i := 530) (by decide +kernel)) (fun q => ?_)
      refine w_astore_4 C dL_clay_17 (by first | trivial | rfl) ?_
      refine w_iconst (v := 2) C dL_clay_19 (by rfl) ?_
      refine w_iret C M dL_clay_20 ⟨by decide, by decide⟩ ⟨_, rfl, ?_⟩
      exact Or.inr ⟨_, hA1, hp, by simp, dj, rfl⟩
  first | refine w_aload_n C dL_clay_0 (by rfl) ?_ | refine w_aload_nN C dL_clay_0 (by rfl) ?_
  refine w_iconst (v := 0) C dL_clay_1 (by rfl) ?_
  first | refine w_aload_n C dL_clay_2 (by rfl) ?_ | refine w_aload_nN C dL_clay_2 (by rfl) ?_
  refine w_iload_n C dL_clay_3 (by rfl) ?_
  refine w_iload_n C dL_clay_4 (by rfl) ?_
  refine cx_L_7 C ((CTX.frameI hdj hM)) (hj_l hy0) (by rfl) (by rfl) ⟨by decide, by decide⟩ (by rfl) dL_clay_5 (fun v9 h1 p1 => ?_) (fun E hx px => kx9 E hx px)
  obtain ⟨hA1, hp, rfl, dj⟩ := p1
  refine w_i2l C dL_clay_8 ?_
  refine w_lastn (j := 0) C (hj_r ho (dj _ _ ho)) (by decide) (by decide) dL_clay_9 (fun h9 u9 => ?_)
  refine w_goto (tgt := 21) C dL_clay_10 (by rfl) ?_
  refine w_iconst (v := 0) C dL_clay_21 (by rfl) ?_
  refine w_iret C M dL_clay_22 ⟨by decide, by decide⟩ ⟨_, rfl, ?_⟩
  exact Or.inl ⟨rfl, _, hA1, hp, dj, by rw [u9, hj_hu (dj _ _ ho)]⟩

set_option maxHeartbeats 4000000 in
set_option maxRecDepth 100000 in
theorem m_L_glaze {l : Launch} {D : va_G} {tc : Nat → ClassId} (hl : l.stackTraces = false) {hA hR : HM} {y0 o : Nat} {v1 v2 v3 v4 v5 : Int32} {fs : List Value} {f : Nat → Int64} {p : Int32 → HM → Prop} {px : String → HM → Prop} (hdj : ∀ a e, hR a = some e → hA a = none) (hy0 : hA y0 = some (.inr (9, fs))) (ho : hR o = some (.inl (tc 1, 1, .inr (.inl f)))) (hM : CTX l D tc yX7_glaze cX7_glaze 6 (some FieldType.int) rm_X7_glaze [.ref y0, .int v1, .int v2, .int v3, .int v4, .int v5] hA (rI p) px) (hcd : ∀ E h9, px E h9 → E = "java/lang/IllegalArgumentException" ∨ E = "java/lang/IllegalStateException") :
    CTW l D tc yL_glaze cL_glaze 8 (some FieldType.int) [(0, 16, 19, 13), (0, 16, 23, 15)] rm_L_glaze [.ref y0, .int v1, .int v2, .int v3, .int v4, .int v5, .ref o] (hj hA hR) (rI (fun z h' => (z = 0 ∧ ∃ v hA', p v hA' ∧ (∀ a e, hR a = some e → hA' a = none) ∧ h' = hj hA' (hu hR o (.inl (tc 1, 1, .inr (.inl (vp_updL f 0 v.toInt64)))))) ∨ (∃ E hA', px E hA' ∧ (E, z) ∈ ([("java/lang/IllegalArgumentException", 1), ("java/lang/IllegalStateException", 2)] : List (String × Int32)) ∧ (∀ a e, hR a = some e → hA' a = none) ∧ h' = hj hA' hR))) := by
  refine CTW.start [some (.ref y0), some (.int v1), some (.int v2), some (.int v3), some (.int v4), some (.int v5), some (.ref o), none] (by decide) hl rfl rfl (fun K C M ht hN => ?_)
  obtain ⟨rfl, rfl, rfl, -⟩ := id M
  have C : CX K RL cL_glaze 8 rm_L_glaze := C
  have kx9 : ∀ (E : String) (h9 : HM), (∃ h1, px E h1 ∧ h9 = hj h1 hR ∧ ∀ a e, hR a = some e → h1 a = none) → WX K (((0, 0) : Nat × Nat).1 + rm_X7_glaze.cells, ((0, 0) : Nat × Nat).2 + rm_X7_glaze.slots) 11 [some (.ref y0), some (.int v1), some (.int v2), some (.int v3), some (.int v4), some (.int v5), some (.ref o), none] [.int 0, .ref o] h9 E := by
    intro E h9 ⟨hA1, hp, e9, dj⟩
    subst e9
    rcases hcd E hA1 hp with rfl | rfl
    · refine w_catch C [] ⟨0, 16, 19, 13⟩ [⟨0, 16, 23, 15⟩] (ht.trans rfl) (fun z hz => (absurd hz List.not_mem_nil)) (by decide) (by decide) gw_521 (List.mem_of_getElem? (i := 310) (by decide +kernel)) (fun q => ?_)
      refine w_astore_7 C dL_glaze_19 (by first | trivial | rfl) ?_
      refine w_iconst (v := 1) C dL_glaze_21 (by rfl) ?_
      refine w_iret C M dL_glaze_22 ⟨by decide, by decide⟩ ⟨_, rfl, ?_⟩
      exact Or.inr ⟨_, hA1, hp, by simp, dj, rfl⟩
    · refine w_catch C [⟨0, 16, 19, 13⟩] ⟨0, 16, 23, 15⟩ [] (ht.trans rfl) (fun z hz => by
        simp only [List.mem_cons, List.mem_nil_iff, or_false] at hz
        rcases hz with rfl
        · exact Or.inr ⟨by decide, _, gw_521, hN.2.1⟩) (by decide) (by decide) gw_522 (List.mem_of_getElem? (i := 530) (by decide +kernel)) (fun q => ?_)
      refine w_astore_7 C dL_glaze_23 (by first | trivial | rfl) ?_
      refine w_iconst (v := 2) C dL_glaze_25 (by rfl) ?_
      refine w_iret C M dL_glaze_26 ⟨by decide, by decide⟩ ⟨_, rfl, ?_⟩
      exact Or.inr ⟨_, hA1, hp, by simp, dj, rfl⟩
  first | refine w_aload C dL_glaze_0 (by rfl) ?_ | refine w_aloadN C dL_glaze_0 (by rfl) ?_
  refine w_iconst (v := 0) C dL_glaze_2 (by rfl) ?_
  first | refine w_aload_n C dL_glaze_3 (by rfl) ?_ | refine w_aload_nN C dL_glaze_3 (by rfl) ?_
  refine w_iload_n C dL_glaze_4 (by rfl) ?_
  refine w_iload_n C dL_glaze_5 (by rfl) ?_
  refine w_iload_n C dL_glaze_6 (by rfl) ?_
  refine w_iload C dL_glaze_7 (by rfl) ?_
  refine w_iload C dL_glaze_9 (by rfl) ?_
  refine cx_L_17 C ((CTX.frameI hdj hM)) (hj_l hy0) (by rfl) (by rfl) ⟨by decide, by decide⟩ (by rfl) dL_glaze_11 (fun v9 h1 p1 => ?_) (fun E hx px => kx9 E hx px)
  obtain ⟨hA1, hp, rfl, dj⟩ := p1
  refine w_i2l C dL_glaze_14 ?_
  refine w_lastn (j := 0) C (hj_r ho (dj _ _ ho)) (by decide) (by decide) dL_glaze_15 (fun h9 u9 => ?_)
  refine w_goto (tgt := 27) C dL_glaze_16 (by rfl) ?_
  refine w_iconst (v := 0) C dL_glaze_27 (by rfl) ?_
  refine w_iret C M dL_glaze_28 ⟨by decide, by decide⟩ ⟨_, rfl, ?_⟩
  exact Or.inl ⟨rfl, _, hA1, hp, dj, by rw [u9, hj_hu (dj _ _ ho)]⟩

set_option maxHeartbeats 4000000 in
set_option maxRecDepth 100000 in
theorem m_L_pot {l : Launch} {D : va_G} {tc : Nat → ClassId} (hl : l.stackTraces = false) {hA hR : HM} {y0 o : Nat} {v1 v2 v3 v4 : Int32} {fs : List Value} {f : Nat → Int64} {p : Int32 → HM → Prop} {px : String → HM → Prop} (hdj : ∀ a e, hR a = some e → hA a = none) (hy0 : hA y0 = some (.inr (9, fs))) (ho : hR o = some (.inl (tc 1, 1, .inr (.inl f)))) (hM : CTX l D tc yX7_pot cX7_pot 7 (some FieldType.int) rm_X7_pot [.ref y0, .int v1, .int v2, .int v3, .int v4] hA (rI p) px) (hcd : ∀ E h9, px E h9 → E = "java/lang/IndexOutOfBoundsException" ∨ E = "java/lang/IllegalArgumentException" ∨ E = "java/lang/IllegalStateException") :
    CTW l D tc yL_pot cL_pot 7 (some FieldType.int) [(0, 14, 17, 25), (0, 14, 21, 13), (0, 14, 25, 15)] rm_L_pot [.ref y0, .int v1, .int v2, .int v3, .int v4, .ref o] (hj hA hR) (rI (fun z h' => (z = 0 ∧ ∃ v hA', p v hA' ∧ (∀ a e, hR a = some e → hA' a = none) ∧ h' = hj hA' (hu hR o (.inl (tc 1, 1, .inr (.inl (vp_updL f 0 v.toInt64)))))) ∨ (∃ E hA', px E hA' ∧ (E, z) ∈ ([("java/lang/IndexOutOfBoundsException", 1), ("java/lang/IllegalArgumentException", 2), ("java/lang/IllegalStateException", 3)] : List (String × Int32)) ∧ (∀ a e, hR a = some e → hA' a = none) ∧ h' = hj hA' hR))) := by
  refine CTW.start [some (.ref y0), some (.int v1), some (.int v2), some (.int v3), some (.int v4), some (.ref o), none] (by decide) hl rfl rfl (fun K C M ht hN => ?_)
  obtain ⟨rfl, rfl, rfl, -⟩ := id M
  have C : CX K RL cL_pot 7 rm_L_pot := C
  have kx9 : ∀ (E : String) (h9 : HM), (∃ h1, px E h1 ∧ h9 = hj h1 hR ∧ ∀ a e, hR a = some e → h1 a = none) → WX K (((0, 0) : Nat × Nat).1 + rm_X7_pot.cells, ((0, 0) : Nat × Nat).2 + rm_X7_pot.slots) 9 [some (.ref y0), some (.int v1), some (.int v2), some (.int v3), some (.int v4), some (.ref o), none] [.int 0, .ref o] h9 E := by
    intro E h9 ⟨hA1, hp, e9, dj⟩
    subst e9
    rcases hcd E hA1 hp with rfl | rfl | rfl
    · refine w_catch C [] ⟨0, 14, 17, 25⟩ [⟨0, 14, 21, 13⟩, ⟨0, 14, 25, 15⟩] (ht.trans rfl) (fun z hz => (absurd hz List.not_mem_nil)) (by decide) (by decide) gw_615 (List.mem_of_getElem? (i := 390) (by decide +kernel)) (fun q => ?_)
      refine w_astore_6 C dL_pot_17 (by first | trivial | rfl) ?_
      refine w_iconst (v := 1) C dL_pot_19 (by rfl) ?_
      refine w_iret C M dL_pot_20 ⟨by decide, by decide⟩ ⟨_, rfl, ?_⟩
      exact Or.inr ⟨_, hA1, hp, by simp, dj, rfl⟩
    · refine w_catch C [⟨0, 14, 17, 25⟩] ⟨0, 14, 21, 13⟩ [⟨0, 14, 25, 15⟩] (ht.trans rfl) (fun z hz => by
        simp only [List.mem_cons, List.mem_nil_iff, or_false] at hz
        rcases hz with rfl
        · exact Or.inr ⟨by decide, _, gw_615, hN.2.2.1⟩) (by decide) (by decide) gw_521 (List.mem_of_getElem? (i := 310) (by decide +kernel)) (fun q => ?_)
      refine w_astore_6 C dL_pot_21 (by first | trivial | rfl) ?_
      refine w_iconst (v := 2) C dL_pot_23 (by rfl) ?_
      refine w_iret C M dL_pot_24 ⟨by decide, by decide⟩ ⟨_, rfl, ?_⟩
      exact Or.inr ⟨_, hA1, hp, by simp, dj, rfl⟩
    · refine w_catch C [⟨0, 14, 17, 25⟩, ⟨0, 14, 21, 13⟩] ⟨0, 14, 25, 15⟩ [] (ht.trans rfl) (fun z hz => by
        simp only [List.mem_cons, List.mem_nil_iff, or_false] at hz
        rcases hz with rfl | rfl
        · exact Or.inr ⟨by decide, _, gw_615, hN.2.2.2.1⟩
        · exact Or.inr ⟨by decide, _, gw_521, hN.2.1⟩) (by decide) (by decide) gw_522 (List.mem_of_getElem? (i := 530) (by decide +kernel)) (fun q => ?_)
      refine w_astore_6 C dL_pot_25 (by first | trivial | rfl) ?_
      refine w_iconst (v := 3) C dL_pot_27 (by rfl) ?_
      refine w_iret C M dL_pot_28 ⟨by decide, by decide⟩ ⟨_, rfl, ?_⟩
      exact Or.inr ⟨_, hA1, hp, by simp, dj, rfl⟩
  first | refine w_aload C dL_pot_0 (by rfl) ?_ | refine w_aloadN C dL_pot_0 (by rfl) ?_
  refine w_iconst (v := 0) C dL_pot_2 (by rfl) ?_
  first | refine w_aload_n C dL_pot_3 (by rfl) ?_ | refine w_aload_nN C dL_pot_3 (by rfl) ?_
  refine w_iload_n C dL_pot_4 (by rfl) ?_
  refine w_iload_n C dL_pot_5 (by rfl) ?_
  refine w_iload_n C dL_pot_6 (by rfl) ?_
  refine w_iload C dL_pot_7 (by rfl) ?_
  refine cx_L_21 C ((CTX.frameI hdj hM)) (hj_l hy0) (by rfl) (by rfl) ⟨by decide, by decide⟩ (by rfl) dL_pot_9 (fun v9 h1 p1 => ?_) (fun E hx px => kx9 E hx px)
  obtain ⟨hA1, hp, rfl, dj⟩ := p1
  refine w_i2l C dL_pot_12 ?_
  refine w_lastn (j := 0) C (hj_r ho (dj _ _ ho)) (by decide) (by decide) dL_pot_13 (fun h9 u9 => ?_)
  refine w_goto (tgt := 29) C dL_pot_14 (by rfl) ?_
  refine w_iconst (v := 0) C dL_pot_29 (by rfl) ?_
  refine w_iret C M dL_pot_30 ⟨by decide, by decide⟩ ⟨_, rfl, ?_⟩
  exact Or.inl ⟨rfl, _, hA1, hp, dj, by rw [u9, hj_hu (dj _ _ ho)]⟩

set_option maxHeartbeats 4000000 in
set_option maxRecDepth 100000 in
theorem m_L_cover {l : Launch} {D : va_G} {tc : Nat → ClassId} (hl : l.stackTraces = false) {hA hR : HM} {y0 o : Nat} {v1 v2 : Int32} {fs : List Value} {f : Nat → Int64} {p : Int32 → HM → Prop} {px : String → HM → Prop} (hdj : ∀ a e, hR a = some e → hA a = none) (hy0 : hA y0 = some (.inr (9, fs))) (ho : hR o = some (.inl (tc 1, 1, .inr (.inl f)))) (hM : CTX l D tc yX7_cover cX7_cover 5 (some FieldType.boolean) rm_X7_cover [.ref y0, .int v1, .int v2] hA (rI p) px) (hcd : ∀ E h9, px E h9 → E = "java/lang/IndexOutOfBoundsException") :
    CTW l D tc yL_cover cL_cover 5 (some FieldType.int) [(0, 17, 20, 25)] rm_L_cover [.ref y0, .int v1, .int v2, .ref o] (hj hA hR) (rI (fun z h' => (z = 0 ∧ ∃ v hA', p v hA' ∧ (∀ a e, hR a = some e → hA' a = none) ∧ h' = hj hA' (hu hR o (.inl (tc 1, 1, .inr (.inl (vp_updL f 0 (if v = 0 then 0 else 1))))))) ∨ (∃ E hA', px E hA' ∧ (E, z) ∈ ([("java/lang/IndexOutOfBoundsException", 1)] : List (String × Int32)) ∧ (∀ a e, hR a = some e → hA' a = none) ∧ h' = hj hA' hR))) := by
  refine CTW.start [some (.ref y0), some (.int v1), some (.int v2), some (.ref o), none] (by decide) hl rfl rfl (fun K C M ht hN => ?_)
  obtain ⟨rfl, rfl, rfl, -⟩ := id M
  have C : CX K RL cL_cover 5 rm_L_cover := C
  have kx9 : ∀ (E : String) (h9 : HM), (∃ h1, px E h1 ∧ h9 = hj h1 hR ∧ ∀ a e, hR a = some e → h1 a = none) → WX K (((0, 0) : Nat × Nat).1 + rm_X7_cover.cells, ((0, 0) : Nat × Nat).2 + rm_X7_cover.slots) 5 [some (.ref y0), some (.int v1), some (.int v2), some (.ref o), none] [.int 0, .ref o] h9 E := by
    intro E h9 ⟨hA1, hp, e9, dj⟩
    subst e9
    rcases hcd E hA1 hp with rfl
    · refine w_catch C [] ⟨0, 17, 20, 25⟩ [] (ht.trans rfl) (fun z hz => (absurd hz List.not_mem_nil)) (by decide) (by decide) gw_615 (List.mem_of_getElem? (i := 390) (by decide +kernel)) (fun q => ?_)
      refine w_astore_4 C dL_cover_20 (by first | trivial | rfl) ?_
      refine w_iconst (v := 1) C dL_cover_22 (by rfl) ?_
      refine w_iret C M dL_cover_23 ⟨by decide, by decide⟩ ⟨_, rfl, ?_⟩
      exact Or.inr ⟨_, hA1, hp, by simp, dj, rfl⟩
  first | refine w_aload_n C dL_cover_0 (by rfl) ?_ | refine w_aload_nN C dL_cover_0 (by rfl) ?_
  refine w_iconst (v := 0) C dL_cover_1 (by rfl) ?_
  first | refine w_aload_n C dL_cover_2 (by rfl) ?_ | refine w_aload_nN C dL_cover_2 (by rfl) ?_
  refine w_iload_n C dL_cover_3 (by rfl) ?_
  refine w_iload_n C dL_cover_4 (by rfl) ?_
  refine cx_L_27 C ((CTX.frameI hdj hM)) (hj_l hy0) (by rfl) (by rfl) ⟨by decide, by decide⟩ (by rfl) dL_cover_5 (fun v9 h1 p1 => ?_) (fun E hx px => kx9 E hx px)
  obtain ⟨hA1, hp, rfl, dj⟩ := p1
  refine w_if_eq (tgt := 15) C dL_cover_8 (by rfl) (fun c_8 => ?_) (fun c_8 => ?_)
  · try simp only [cg_ge, cg_gt, cl_gt, cl_le, cl_eq, cl_lt, cl_ge, bi_eq0, bi_ne0, bI_eq0, Decidable.not_not, Bool.not_eq_false] at c_8
    have c_8 := c_8
    refine w_lconst (v := 0) C dL_cover_15 (by rfl) ?_
    refine w_lastn (j := 0) C (hj_r ho (dj _ _ ho)) (by decide) (by decide) dL_cover_16 (fun h9 u9 => ?_)
    refine w_goto (tgt := 24) C dL_cover_17 (by rfl) ?_
    refine w_iconst (v := 0) C dL_cover_24 (by rfl) ?_
    refine w_iret C M dL_cover_25 ⟨by decide, by decide⟩ ⟨_, rfl, ?_⟩
    exact Or.inl ⟨rfl, _, hA1, hp, dj, by rw [u9, hj_hu (dj _ _ ho), if_pos c_8]⟩
  · try simp only [cg_ge, cg_gt, cl_gt, cl_le, cl_eq, cl_lt, cl_ge, bi_eq0, bi_ne0, bI_eq0, Decidable.not_not, Bool.not_eq_false] at c_8
    refine w_lconst (v := 1) C dL_cover_11 (by rfl) ?_
    refine w_goto (tgt := 16) C dL_cover_12 (by rfl) ?_
    refine w_lastn (j := 0) C (hj_r ho (dj _ _ ho)) (by decide) (by decide) dL_cover_16 (fun h9 u9 => ?_)
    refine w_goto (tgt := 24) C dL_cover_17 (by rfl) ?_
    refine w_iconst (v := 0) C dL_cover_24 (by rfl) ?_
    refine w_iret C M dL_cover_25 ⟨by decide, by decide⟩ ⟨_, rfl, ?_⟩
    exact Or.inl ⟨rfl, _, hA1, hp, dj, by rw [u9, hj_hu (dj _ _ ho), if_neg c_8]⟩

set_option maxHeartbeats 4000000 in
set_option maxRecDepth 100000 in
theorem m_L_dry {l : Launch} {D : va_G} {tc : Nat → ClassId} (hl : l.stackTraces = false) {hA hR : HM} {y0 o : Nat} {v1 v2 : Int32} {fs : List Value} {f : Nat → Int64} {p : Int32 → HM → Prop} {px : String → HM → Prop} (hdj : ∀ a e, hR a = some e → hA a = none) (hy0 : hA y0 = some (.inr (9, fs))) (ho : hR o = some (.inl (tc 1, 1, .inr (.inl f)))) (hM : CTX l D tc yX7_dry cX7_dry 4 (some FieldType.int) rm_X7_dry [.ref y0, .int v1, .int v2] hA (rI p) px) (hcd : ∀ E h9, px E h9 → E = "java/lang/IllegalArgumentException" ∨ E = "java/lang/IllegalStateException") :
    CTW l D tc yL_dry cL_dry 5 (some FieldType.int) [(0, 10, 13, 13), (0, 10, 17, 15)] rm_L_dry [.ref y0, .int v1, .int v2, .ref o] (hj hA hR) (rI (fun z h' => (z = 0 ∧ ∃ v hA', p v hA' ∧ (∀ a e, hR a = some e → hA' a = none) ∧ h' = hj hA' (hu hR o (.inl (tc 1, 1, .inr (.inl (vp_updL f 0 v.toInt64)))))) ∨ (∃ E hA', px E hA' ∧ (E, z) ∈ ([("java/lang/IllegalArgumentException", 1), ("java/lang/IllegalStateException", 2)] : List (String × Int32)) ∧ (∀ a e, hR a = some e → hA' a = none) ∧ h' = hj hA' hR))) := by
  refine CTW.start [some (.ref y0), some (.int v1), some (.int v2), some (.ref o), none] (by decide) hl rfl rfl (fun K C M ht hN => ?_)
  obtain ⟨rfl, rfl, rfl, -⟩ := id M
  have C : CX K RL cL_dry 5 rm_L_dry := C
  have kx9 : ∀ (E : String) (h9 : HM), (∃ h1, px E h1 ∧ h9 = hj h1 hR ∧ ∀ a e, hR a = some e → h1 a = none) → WX K (((0, 0) : Nat × Nat).1 + rm_X7_dry.cells, ((0, 0) : Nat × Nat).2 + rm_X7_dry.slots) 5 [some (.ref y0), some (.int v1), some (.int v2), some (.ref o), none] [.int 0, .ref o] h9 E := by
    intro E h9 ⟨hA1, hp, e9, dj⟩
    subst e9
    rcases hcd E hA1 hp with rfl | rfl
    · refine w_catch C [] ⟨0, 10, 13, 13⟩ [⟨0, 10, 17, 15⟩] (ht.trans rfl) (fun z hz => (absurd hz List.not_mem_nil)) (by decide) (by decide) gw_521 (List.mem_of_getElem? (i := 310) (by decide +kernel)) (fun q => ?_)
      refine w_astore_4 C dL_dry_13 (by first | trivial | rfl) ?_
      refine w_iconst (v := 1) C dL_dry_15 (by rfl) ?_
      refine w_iret C M dL_dry_16 ⟨by decide, by decide⟩ ⟨_, rfl, ?_⟩
      exact Or.inr ⟨_, hA1, hp, by simp, dj, rfl⟩
    · refine w_catch C [⟨0, 10, 13, 13⟩] ⟨0, 10, 17, 15⟩ [] (ht.trans rfl) (fun z hz => by
        simp only [List.mem_cons, List.mem_nil_iff, or_false] at hz
        rcases hz with rfl
        · exact Or.inr ⟨by decide, _, gw_521, hN.2.1⟩) (by decide) (by decide) gw_522 (List.mem_of_getElem? (i := 530) (by decide +kernel)) (fun q => ?_)
      refine w_astore_4 C dL_dry_17 (by first | trivial | rfl) ?_
      refine w_iconst (v := 2) C dL_dry_19 (by rfl) ?_
      refine w_iret C M dL_dry_20 ⟨by decide, by decide⟩ ⟨_, rfl, ?_⟩
      exact Or.inr ⟨_, hA1, hp, by simp, dj, rfl⟩
  first | refine w_aload_n C dL_dry_0 (by rfl) ?_ | refine w_aload_nN C dL_dry_0 (by rfl) ?_
  refine w_iconst (v := 0) C dL_dry_1 (by rfl) ?_
  first | refine w_aload_n C dL_dry_2 (by rfl) ?_ | refine w_aload_nN C dL_dry_2 (by rfl) ?_
  refine w_iload_n C dL_dry_3 (by rfl) ?_
  refine w_iload_n C dL_dry_4 (by rfl) ?_
  refine cx_L_31 C ((CTX.frameI hdj hM)) (hj_l hy0) (by rfl) (by rfl) ⟨by decide, by decide⟩ (by rfl) dL_dry_5 (fun v9 h1 p1 => ?_) (fun E hx px => kx9 E hx px)
  obtain ⟨hA1, hp, rfl, dj⟩ := p1
  refine w_i2l C dL_dry_8 ?_
  refine w_lastn (j := 0) C (hj_r ho (dj _ _ ho)) (by decide) (by decide) dL_dry_9 (fun h9 u9 => ?_)
  refine w_goto (tgt := 21) C dL_dry_10 (by rfl) ?_
  refine w_iconst (v := 0) C dL_dry_21 (by rfl) ?_
  refine w_iret C M dL_dry_22 ⟨by decide, by decide⟩ ⟨_, rfl, ?_⟩
  exact Or.inl ⟨rfl, _, hA1, hp, dj, by rw [u9, hj_hu (dj _ _ ho)]⟩

set_option maxHeartbeats 4000000 in
set_option maxRecDepth 100000 in
theorem m_L_dip {l : Launch} {D : va_G} {tc : Nat → ClassId} (hl : l.stackTraces = false) {hA hR : HM} {y0 o : Nat} {v1 v2 : Int32} {fs : List Value} {f : Nat → Int64} {p : Int32 → HM → Prop} {px : String → HM → Prop} (hdj : ∀ a e, hR a = some e → hA a = none) (hy0 : hA y0 = some (.inr (9, fs))) (ho : hR o = some (.inl (tc 1, 1, .inr (.inl f)))) (hM : CTX l D tc yX7_dip cX7_dip 5 (some FieldType.int) rm_X7_dip [.ref y0, .int v1, .int v2] hA (rI p) px) (hcd : ∀ E h9, px E h9 → E = "java/lang/IndexOutOfBoundsException" ∨ E = "java/lang/IllegalStateException") :
    CTW l D tc yL_dip cL_dip 5 (some FieldType.int) [(0, 10, 13, 25), (0, 10, 17, 15)] rm_L_dip [.ref y0, .int v1, .int v2, .ref o] (hj hA hR) (rI (fun z h' => (z = 0 ∧ ∃ v hA', p v hA' ∧ (∀ a e, hR a = some e → hA' a = none) ∧ h' = hj hA' (hu hR o (.inl (tc 1, 1, .inr (.inl (vp_updL f 0 v.toInt64)))))) ∨ (∃ E hA', px E hA' ∧ (E, z) ∈ ([("java/lang/IndexOutOfBoundsException", 1), ("java/lang/IllegalStateException", 2)] : List (String × Int32)) ∧ (∀ a e, hR a = some e → hA' a = none) ∧ h' = hj hA' hR))) := by
  refine CTW.start [some (.ref y0), some (.int v1), some (.int v2), some (.ref o), none] (by decide) hl rfl rfl (fun K C M ht hN => ?_)
  obtain ⟨rfl, rfl, rfl, -⟩ := id M
  have C : CX K RL cL_dip 5 rm_L_dip := C
  have kx9 : ∀ (E : String) (h9 : HM), (∃ h1, px E h1 ∧ h9 = hj h1 hR ∧ ∀ a e, hR a = some e → h1 a = none) → WX K (((0, 0) : Nat × Nat).1 + rm_X7_dip.cells, ((0, 0) : Nat × Nat).2 + rm_X7_dip.slots) 5 [some (.ref y0), some (.int v1), some (.int v2), some (.ref o), none] [.int 0, .ref o] h9 E := by
    intro E h9 ⟨hA1, hp, e9, dj⟩
    subst e9
    rcases hcd E hA1 hp with rfl | rfl
    · refine w_catch C [] ⟨0, 10, 13, 25⟩ [⟨0, 10, 17, 15⟩] (ht.trans rfl) (fun z hz => (absurd hz List.not_mem_nil)) (by decide) (by decide) gw_615 (List.mem_of_getElem? (i := 390) (by decide +kernel)) (fun q => ?_)
      refine w_astore_4 C dL_dip_13 (by first | trivial | rfl) ?_
      refine w_iconst (v := 1) C dL_dip_15 (by rfl) ?_
      refine w_iret C M dL_dip_16 ⟨by decide, by decide⟩ ⟨_, rfl, ?_⟩
      exact Or.inr ⟨_, hA1, hp, by simp, dj, rfl⟩
    · refine w_catch C [⟨0, 10, 13, 25⟩] ⟨0, 10, 17, 15⟩ [] (ht.trans rfl) (fun z hz => by
        simp only [List.mem_cons, List.mem_nil_iff, or_false] at hz
        rcases hz with rfl
        · exact Or.inr ⟨by decide, _, gw_615, hN.2.2.2.1⟩) (by decide) (by decide) gw_522 (List.mem_of_getElem? (i := 530) (by decide +kernel)) (fun q => ?_)
      refine w_astore_4 C dL_dip_17 (by first | trivial | rfl) ?_
      refine w_iconst (v := 2) C dL_dip_19 (by rfl) ?_
      refine w_iret C M dL_dip_20 ⟨by decide, by decide⟩ ⟨_, rfl, ?_⟩
      exact Or.inr ⟨_, hA1, hp, by simp, dj, rfl⟩
  first | refine w_aload_n C dL_dip_0 (by rfl) ?_ | refine w_aload_nN C dL_dip_0 (by rfl) ?_
  refine w_iconst (v := 0) C dL_dip_1 (by rfl) ?_
  first | refine w_aload_n C dL_dip_2 (by rfl) ?_ | refine w_aload_nN C dL_dip_2 (by rfl) ?_
  refine w_iload_n C dL_dip_3 (by rfl) ?_
  refine w_iload_n C dL_dip_4 (by rfl) ?_
  refine cx_L_34 C ((CTX.frameI hdj hM)) (hj_l hy0) (by rfl) (by rfl) ⟨by decide, by decide⟩ (by rfl) dL_dip_5 (fun v9 h1 p1 => ?_) (fun E hx px => kx9 E hx px)
  obtain ⟨hA1, hp, rfl, dj⟩ := p1
  refine w_i2l C dL_dip_8 ?_
  refine w_lastn (j := 0) C (hj_r ho (dj _ _ ho)) (by decide) (by decide) dL_dip_9 (fun h9 u9 => ?_)
  refine w_goto (tgt := 21) C dL_dip_10 (by rfl) ?_
  refine w_iconst (v := 0) C dL_dip_21 (by rfl) ?_
  refine w_iret C M dL_dip_22 ⟨by decide, by decide⟩ ⟨_, rfl, ?_⟩
  exact Or.inl ⟨rfl, _, hA1, hp, dj, by rw [u9, hj_hu (dj _ _ ho)]⟩

set_option maxHeartbeats 4000000 in
set_option maxRecDepth 100000 in
theorem m_L_set {l : Launch} {D : va_G} {tc : Nat → ClassId} (hl : l.stackTraces = false) {hA hR : HM} {y0 o : Nat} {v1 v2 v3 : Int32} {fs : List Value} {f : Nat → Int64} {p : Int32 → HM → Prop} {px : String → HM → Prop} (hdj : ∀ a e, hR a = some e → hA a = none) (hy0 : hA y0 = some (.inr (9, fs))) (ho : hR o = some (.inl (tc 1, 1, .inr (.inl f)))) (hM : CTX l D tc yX7_set cX7_set 6 (some FieldType.int) rm_X7_set [.ref y0, .int v1, .int v2, .int v3] hA (rI p) px) (hcd : ∀ E h9, px E h9 → E = "java/lang/IndexOutOfBoundsException" ∨ E = "java/lang/IllegalStateException") :
    CTW l D tc yL_set cL_set 6 (some FieldType.int) [(0, 12, 15, 25), (0, 12, 19, 15)] rm_L_set [.ref y0, .int v1, .int v2, .int v3, .ref o] (hj hA hR) (rI (fun z h' => (z = 0 ∧ ∃ v hA', p v hA' ∧ (∀ a e, hR a = some e → hA' a = none) ∧ h' = hj hA' (hu hR o (.inl (tc 1, 1, .inr (.inl (vp_updL f 0 v.toInt64)))))) ∨ (∃ E hA', px E hA' ∧ (E, z) ∈ ([("java/lang/IndexOutOfBoundsException", 1), ("java/lang/IllegalStateException", 2)] : List (String × Int32)) ∧ (∀ a e, hR a = some e → hA' a = none) ∧ h' = hj hA' hR))) := by
  refine CTW.start [some (.ref y0), some (.int v1), some (.int v2), some (.int v3), some (.ref o), none] (by decide) hl rfl rfl (fun K C M ht hN => ?_)
  obtain ⟨rfl, rfl, rfl, -⟩ := id M
  have C : CX K RL cL_set 6 rm_L_set := C
  have kx9 : ∀ (E : String) (h9 : HM), (∃ h1, px E h1 ∧ h9 = hj h1 hR ∧ ∀ a e, hR a = some e → h1 a = none) → WX K (((0, 0) : Nat × Nat).1 + rm_X7_set.cells, ((0, 0) : Nat × Nat).2 + rm_X7_set.slots) 7 [some (.ref y0), some (.int v1), some (.int v2), some (.int v3), some (.ref o), none] [.int 0, .ref o] h9 E := by
    intro E h9 ⟨hA1, hp, e9, dj⟩
    subst e9
    rcases hcd E hA1 hp with rfl | rfl
    · refine w_catch C [] ⟨0, 12, 15, 25⟩ [⟨0, 12, 19, 15⟩] (ht.trans rfl) (fun z hz => (absurd hz List.not_mem_nil)) (by decide) (by decide) gw_615 (List.mem_of_getElem? (i := 390) (by decide +kernel)) (fun q => ?_)
      refine w_astore_5 C dL_set_15 (by first | trivial | rfl) ?_
      refine w_iconst (v := 1) C dL_set_17 (by rfl) ?_
      refine w_iret C M dL_set_18 ⟨by decide, by decide⟩ ⟨_, rfl, ?_⟩
      exact Or.inr ⟨_, hA1, hp, by simp, dj, rfl⟩
    · refine w_catch C [⟨0, 12, 15, 25⟩] ⟨0, 12, 19, 15⟩ [] (ht.trans rfl) (fun z hz => by
        simp only [List.mem_cons, List.mem_nil_iff, or_false] at hz
        rcases hz with rfl
        · exact Or.inr ⟨by decide, _, gw_615, hN.2.2.2.1⟩) (by decide) (by decide) gw_522 (List.mem_of_getElem? (i := 530) (by decide +kernel)) (fun q => ?_)
      refine w_astore_5 C dL_set_19 (by first | trivial | rfl) ?_
      refine w_iconst (v := 2) C dL_set_21 (by rfl) ?_
      refine w_iret C M dL_set_22 ⟨by decide, by decide⟩ ⟨_, rfl, ?_⟩
      exact Or.inr ⟨_, hA1, hp, by simp, dj, rfl⟩
  first | refine w_aload C dL_set_0 (by rfl) ?_ | refine w_aloadN C dL_set_0 (by rfl) ?_
  refine w_iconst (v := 0) C dL_set_2 (by rfl) ?_
  first | refine w_aload_n C dL_set_3 (by rfl) ?_ | refine w_aload_nN C dL_set_3 (by rfl) ?_
  refine w_iload_n C dL_set_4 (by rfl) ?_
  refine w_iload_n C dL_set_5 (by rfl) ?_
  refine w_iload_n C dL_set_6 (by rfl) ?_
  refine cx_L_37 C ((CTX.frameI hdj hM)) (hj_l hy0) (by rfl) (by rfl) ⟨by decide, by decide⟩ (by rfl) dL_set_7 (fun v9 h1 p1 => ?_) (fun E hx px => kx9 E hx px)
  obtain ⟨hA1, hp, rfl, dj⟩ := p1
  refine w_i2l C dL_set_10 ?_
  refine w_lastn (j := 0) C (hj_r ho (dj _ _ ho)) (by decide) (by decide) dL_set_11 (fun h9 u9 => ?_)
  refine w_goto (tgt := 23) C dL_set_12 (by rfl) ?_
  refine w_iconst (v := 0) C dL_set_23 (by rfl) ?_
  refine w_iret C M dL_set_24 ⟨by decide, by decide⟩ ⟨_, rfl, ?_⟩
  exact Or.inl ⟨rfl, _, hA1, hp, dj, by rw [u9, hj_hu (dj _ _ ho)]⟩

set_option maxHeartbeats 4000000 in
set_option maxRecDepth 100000 in
theorem m_L_take {l : Launch} {D : va_G} {tc : Nat → ClassId} (hl : l.stackTraces = false) {hA hR : HM} {y0 o : Nat} {v1 : Int32} {fs : List Value} {f : Nat → Int64} {p : Int32 → HM → Prop} {px : String → HM → Prop} (hdj : ∀ a e, hR a = some e → hA a = none) (hy0 : hA y0 = some (.inr (9, fs))) (ho : hR o = some (.inl (tc 1, 1, .inr (.inl f)))) (hM : CTX l D tc yX7_take cX7_take 4 (some FieldType.int) rm_X7_take [.ref y0, .int v1] hA (rI p) px) (hcd : ∀ E h9, px E h9 → E = "java/lang/IndexOutOfBoundsException" ∨ E = "java/lang/IllegalStateException") :
    CTW l D tc yL_take cL_take 4 (some FieldType.int) [(0, 9, 12, 25), (0, 9, 15, 15)] rm_L_take [.ref y0, .int v1, .ref o] (hj hA hR) (rI (fun z h' => (z = 0 ∧ ∃ v hA', p v hA' ∧ (∀ a e, hR a = some e → hA' a = none) ∧ h' = hj hA' (hu hR o (.inl (tc 1, 1, .inr (.inl (vp_updL f 0 v.toInt64)))))) ∨ (∃ E hA', px E hA' ∧ (E, z) ∈ ([("java/lang/IndexOutOfBoundsException", 1), ("java/lang/IllegalStateException", 2)] : List (String × Int32)) ∧ (∀ a e, hR a = some e → hA' a = none) ∧ h' = hj hA' hR))) := by
  refine CTW.start [some (.ref y0), some (.int v1), some (.ref o), none] (by decide) hl rfl rfl (fun K C M ht hN => ?_)
  obtain ⟨rfl, rfl, rfl, -⟩ := id M
  have C : CX K RL cL_take 4 rm_L_take := C
  have kx9 : ∀ (E : String) (h9 : HM), (∃ h1, px E h1 ∧ h9 = hj h1 hR ∧ ∀ a e, hR a = some e → h1 a = none) → WX K (((0, 0) : Nat × Nat).1 + rm_X7_take.cells, ((0, 0) : Nat × Nat).2 + rm_X7_take.slots) 4 [some (.ref y0), some (.int v1), some (.ref o), none] [.int 0, .ref o] h9 E := by
    intro E h9 ⟨hA1, hp, e9, dj⟩
    subst e9
    rcases hcd E hA1 hp with rfl | rfl
    · refine w_catch C [] ⟨0, 9, 12, 25⟩ [⟨0, 9, 15, 15⟩] (ht.trans rfl) (fun z hz => (absurd hz List.not_mem_nil)) (by decide) (by decide) gw_615 (List.mem_of_getElem? (i := 390) (by decide +kernel)) (fun q => ?_)
      refine w_astore_3 C dL_take_12 (by first | trivial | rfl) ?_
      refine w_iconst (v := 1) C dL_take_13 (by rfl) ?_
      refine w_iret C M dL_take_14 ⟨by decide, by decide⟩ ⟨_, rfl, ?_⟩
      exact Or.inr ⟨_, hA1, hp, by simp, dj, rfl⟩
    · refine w_catch C [⟨0, 9, 12, 25⟩] ⟨0, 9, 15, 15⟩ [] (ht.trans rfl) (fun z hz => by
        simp only [List.mem_cons, List.mem_nil_iff, or_false] at hz
        rcases hz with rfl
        · exact Or.inr ⟨by decide, _, gw_615, hN.2.2.2.1⟩) (by decide) (by decide) gw_522 (List.mem_of_getElem? (i := 530) (by decide +kernel)) (fun q => ?_)
      refine w_astore_3 C dL_take_15 (by first | trivial | rfl) ?_
      refine w_iconst (v := 2) C dL_take_16 (by rfl) ?_
      refine w_iret C M dL_take_17 ⟨by decide, by decide⟩ ⟨_, rfl, ?_⟩
      exact Or.inr ⟨_, hA1, hp, by simp, dj, rfl⟩
  first | refine w_aload_n C dL_take_0 (by rfl) ?_ | refine w_aload_nN C dL_take_0 (by rfl) ?_
  refine w_iconst (v := 0) C dL_take_1 (by rfl) ?_
  first | refine w_aload_n C dL_take_2 (by rfl) ?_ | refine w_aload_nN C dL_take_2 (by rfl) ?_
  refine w_iload_n C dL_take_3 (by rfl) ?_
  refine cx_L_41 C ((CTX.frameI hdj hM)) (hj_l hy0) (by rfl) (by rfl) ⟨by decide, by decide⟩ (by rfl) dL_take_4 (fun v9 h1 p1 => ?_) (fun E hx px => kx9 E hx px)
  obtain ⟨hA1, hp, rfl, dj⟩ := p1
  refine w_i2l C dL_take_7 ?_
  refine w_lastn (j := 0) C (hj_r ho (dj _ _ ho)) (by decide) (by decide) dL_take_8 (fun h9 u9 => ?_)
  refine w_goto (tgt := 18) C dL_take_9 (by rfl) ?_
  refine w_iconst (v := 0) C dL_take_18 (by rfl) ?_
  refine w_iret C M dL_take_19 ⟨by decide, by decide⟩ ⟨_, rfl, ?_⟩
  exact Or.inl ⟨rfl, _, hA1, hp, dj, by rw [u9, hj_hu (dj _ _ ho)]⟩

set_option maxHeartbeats 4000000 in
set_option maxRecDepth 100000 in
theorem m_L_ramp {l : Launch} {D : va_G} {tc : Nat → ClassId} (hl : l.stackTraces = false) {hA hR : HM} {y0 o : Nat} {v1 v2 v3 : Int32} {fs : List Value} {f : Nat → Int64} {p : Int32 → HM → Prop} {px : String → HM → Prop} (hdj : ∀ a e, hR a = some e → hA a = none) (hy0 : hA y0 = some (.inr (9, fs))) (ho : hR o = some (.inl (tc 1, 1, .inr (.inl f)))) (hM : CTX l D tc yX7_ramp cX7_ramp 4 (some FieldType.int) rm_X7_ramp [.ref y0, .int v1, .int v2, .int v3] hA (rI p) px) (hcd : ∀ E h9, px E h9 → E = "java/lang/IllegalArgumentException" ∨ E = "java/lang/IllegalStateException") :
    CTW l D tc yL_ramp cL_ramp 6 (some FieldType.int) [(0, 12, 15, 13), (0, 12, 19, 15)] rm_L_ramp [.ref y0, .int v1, .int v2, .int v3, .ref o] (hj hA hR) (rI (fun z h' => (z = 0 ∧ ∃ v hA', p v hA' ∧ (∀ a e, hR a = some e → hA' a = none) ∧ h' = hj hA' (hu hR o (.inl (tc 1, 1, .inr (.inl (vp_updL f 0 v.toInt64)))))) ∨ (∃ E hA', px E hA' ∧ (E, z) ∈ ([("java/lang/IllegalArgumentException", 1), ("java/lang/IllegalStateException", 2)] : List (String × Int32)) ∧ (∀ a e, hR a = some e → hA' a = none) ∧ h' = hj hA' hR))) := by
  refine CTW.start [some (.ref y0), some (.int v1), some (.int v2), some (.int v3), some (.ref o), none] (by decide) hl rfl rfl (fun K C M ht hN => ?_)
  obtain ⟨rfl, rfl, rfl, -⟩ := id M
  have C : CX K RL cL_ramp 6 rm_L_ramp := C
  have kx9 : ∀ (E : String) (h9 : HM), (∃ h1, px E h1 ∧ h9 = hj h1 hR ∧ ∀ a e, hR a = some e → h1 a = none) → WX K (((0, 0) : Nat × Nat).1 + rm_X7_ramp.cells, ((0, 0) : Nat × Nat).2 + rm_X7_ramp.slots) 7 [some (.ref y0), some (.int v1), some (.int v2), some (.int v3), some (.ref o), none] [.int 0, .ref o] h9 E := by
    intro E h9 ⟨hA1, hp, e9, dj⟩
    subst e9
    rcases hcd E hA1 hp with rfl | rfl
    · refine w_catch C [] ⟨0, 12, 15, 13⟩ [⟨0, 12, 19, 15⟩] (ht.trans rfl) (fun z hz => (absurd hz List.not_mem_nil)) (by decide) (by decide) gw_521 (List.mem_of_getElem? (i := 310) (by decide +kernel)) (fun q => ?_)
      refine w_astore_5 C dL_ramp_15 (by first | trivial | rfl) ?_
      refine w_iconst (v := 1) C dL_ramp_17 (by rfl) ?_
      refine w_iret C M dL_ramp_18 ⟨by decide, by decide⟩ ⟨_, rfl, ?_⟩
      exact Or.inr ⟨_, hA1, hp, by simp, dj, rfl⟩
    · refine w_catch C [⟨0, 12, 15, 13⟩] ⟨0, 12, 19, 15⟩ [] (ht.trans rfl) (fun z hz => by
        simp only [List.mem_cons, List.mem_nil_iff, or_false] at hz
        rcases hz with rfl
        · exact Or.inr ⟨by decide, _, gw_521, hN.2.1⟩) (by decide) (by decide) gw_522 (List.mem_of_getElem? (i := 530) (by decide +kernel)) (fun q => ?_)
      refine w_astore_5 C dL_ramp_19 (by first | trivial | rfl) ?_
      refine w_iconst (v := 2) C dL_ramp_21 (by rfl) ?_
      refine w_iret C M dL_ramp_22 ⟨by decide, by decide⟩ ⟨_, rfl, ?_⟩
      exact Or.inr ⟨_, hA1, hp, by simp, dj, rfl⟩
  first | refine w_aload C dL_ramp_0 (by rfl) ?_ | refine w_aloadN C dL_ramp_0 (by rfl) ?_
  refine w_iconst (v := 0) C dL_ramp_2 (by rfl) ?_
  first | refine w_aload_n C dL_ramp_3 (by rfl) ?_ | refine w_aload_nN C dL_ramp_3 (by rfl) ?_
  refine w_iload_n C dL_ramp_4 (by rfl) ?_
  refine w_iload_n C dL_ramp_5 (by rfl) ?_
  refine w_iload_n C dL_ramp_6 (by rfl) ?_
  refine cx_L_45 C ((CTX.frameI hdj hM)) (hj_l hy0) (by rfl) (by rfl) ⟨by decide, by decide⟩ (by rfl) dL_ramp_7 (fun v9 h1 p1 => ?_) (fun E hx px => kx9 E hx px)
  obtain ⟨hA1, hp, rfl, dj⟩ := p1
  refine w_i2l C dL_ramp_10 ?_
  refine w_lastn (j := 0) C (hj_r ho (dj _ _ ho)) (by decide) (by decide) dL_ramp_11 (fun h9 u9 => ?_)
  refine w_goto (tgt := 23) C dL_ramp_12 (by rfl) ?_
  refine w_iconst (v := 0) C dL_ramp_23 (by rfl) ?_
  refine w_iret C M dL_ramp_24 ⟨by decide, by decide⟩ ⟨_, rfl, ?_⟩
  exact Or.inl ⟨rfl, _, hA1, hp, dj, by rw [u9, hj_hu (dj _ _ ho)]⟩

set_option maxHeartbeats 4000000 in
set_option maxRecDepth 100000 in
theorem m_L_forget {l : Launch} {D : va_G} {tc : Nat → ClassId} (hl : l.stackTraces = false) {hA hR : HM} {y0 o : Nat} {fs : List Value} {f : Nat → Int64} {p : Int32 → HM → Prop} {px : String → HM → Prop} (hdj : ∀ a e, hR a = some e → hA a = none) (hy0 : hA y0 = some (.inr (9, fs))) (ho : hR o = some (.inl (tc 1, 1, .inr (.inl f)))) (hM : CTX l D tc yX7_forget cX7_forget 2 (some FieldType.int) rm_X7_forget [.ref y0] hA (rI p) px) (hcd : ∀ E h9, px E h9 → E = "java/lang/IllegalStateException") :
    CTW l D tc yL_forget cL_forget 3 (some FieldType.int) [(0, 8, 11, 15)] rm_L_forget [.ref y0, .ref o] (hj hA hR) (rI (fun z h' => (z = 0 ∧ ∃ v hA', p v hA' ∧ (∀ a e, hR a = some e → hA' a = none) ∧ h' = hj hA' (hu hR o (.inl (tc 1, 1, .inr (.inl (vp_updL f 0 v.toInt64)))))) ∨ (∃ E hA', px E hA' ∧ (E, z) ∈ ([("java/lang/IllegalStateException", 1)] : List (String × Int32)) ∧ (∀ a e, hR a = some e → hA' a = none) ∧ h' = hj hA' hR))) := by
  refine CTW.start [some (.ref y0), some (.ref o), none] (by decide) hl rfl rfl (fun K C M ht hN => ?_)
  obtain ⟨rfl, rfl, rfl, -⟩ := id M
  have C : CX K RL cL_forget 3 rm_L_forget := C
  have kx9 : ∀ (E : String) (h9 : HM), (∃ h1, px E h1 ∧ h9 = hj h1 hR ∧ ∀ a e, hR a = some e → h1 a = none) → WX K (((0, 0) : Nat × Nat).1 + rm_X7_forget.cells, ((0, 0) : Nat × Nat).2 + rm_X7_forget.slots) 3 [some (.ref y0), some (.ref o), none] [.int 0, .ref o] h9 E := by
    intro E h9 ⟨hA1, hp, e9, dj⟩
    subst e9
    rcases hcd E hA1 hp with rfl
    · refine w_catch C [] ⟨0, 8, 11, 15⟩ [] (ht.trans rfl) (fun z hz => (absurd hz List.not_mem_nil)) (by decide) (by decide) gw_522 (List.mem_of_getElem? (i := 530) (by decide +kernel)) (fun q => ?_)
      refine w_astore_2 C dL_forget_11 (by first | trivial | rfl) ?_
      refine w_iconst (v := 1) C dL_forget_12 (by rfl) ?_
      refine w_iret C M dL_forget_13 ⟨by decide, by decide⟩ ⟨_, rfl, ?_⟩
      exact Or.inr ⟨_, hA1, hp, by simp, dj, rfl⟩
  first | refine w_aload_n C dL_forget_0 (by rfl) ?_ | refine w_aload_nN C dL_forget_0 (by rfl) ?_
  refine w_iconst (v := 0) C dL_forget_1 (by rfl) ?_
  first | refine w_aload_n C dL_forget_2 (by rfl) ?_ | refine w_aload_nN C dL_forget_2 (by rfl) ?_
  refine cx_L_48 C ((CTX.frameI hdj hM)) (hj_l hy0) (by rfl) (by rfl) ⟨by decide, by decide⟩ (by rfl) dL_forget_3 (fun v9 h1 p1 => ?_) (fun E hx px => kx9 E hx px)
  obtain ⟨hA1, hp, rfl, dj⟩ := p1
  refine w_i2l C dL_forget_6 ?_
  refine w_lastn (j := 0) C (hj_r ho (dj _ _ ho)) (by decide) (by decide) dL_forget_7 (fun h9 u9 => ?_)
  refine w_goto (tgt := 14) C dL_forget_8 (by rfl) ?_
  refine w_iconst (v := 0) C dL_forget_14 (by rfl) ?_
  refine w_iret C M dL_forget_15 ⟨by decide, by decide⟩ ⟨_, rfl, ?_⟩
  exact Or.inl ⟨rfl, _, hA1, hp, dj, by rw [u9, hj_hu (dj _ _ ho)]⟩

set_option maxHeartbeats 4000000 in
set_option maxRecDepth 100000 in
theorem m_L_light {l : Launch} {D : va_G} {tc : Nat → ClassId} (hl : l.stackTraces = false) {hA hR : HM} {y0 o : Nat} {fs : List Value} {f : Nat → Int64} {p : Int32 → HM → Prop} {px : String → HM → Prop} (hdj : ∀ a e, hR a = some e → hA a = none) (hy0 : hA y0 = some (.inr (9, fs))) (ho : hR o = some (.inl (tc 1, 1, .inr (.inl f)))) (hM : CTX l D tc yX7_light cX7_light 3 (some FieldType.int) rm_X7_light [.ref y0] hA (rI p) px) (hcd : ∀ E h9, px E h9 → E = "java/lang/IllegalStateException") :
    CTW l D tc yL_light cL_light 3 (some FieldType.int) [(0, 8, 11, 15)] rm_L_light [.ref y0, .ref o] (hj hA hR) (rI (fun z h' => (z = 0 ∧ ∃ v hA', p v hA' ∧ (∀ a e, hR a = some e → hA' a = none) ∧ h' = hj hA' (hu hR o (.inl (tc 1, 1, .inr (.inl (vp_updL f 0 v.toInt64)))))) ∨ (∃ E hA', px E hA' ∧ (E, z) ∈ ([("java/lang/IllegalStateException", 1)] : List (String × Int32)) ∧ (∀ a e, hR a = some e → hA' a = none) ∧ h' = hj hA' hR))) := by
  refine CTW.start [some (.ref y0), some (.ref o), none] (by decide) hl rfl rfl (fun K C M ht hN => ?_)
  obtain ⟨rfl, rfl, rfl, -⟩ := id M
  have C : CX K RL cL_light 3 rm_L_light := C
  have kx9 : ∀ (E : String) (h9 : HM), (∃ h1, px E h1 ∧ h9 = hj h1 hR ∧ ∀ a e, hR a = some e → h1 a = none) → WX K (((0, 0) : Nat × Nat).1 + rm_X7_light.cells, ((0, 0) : Nat × Nat).2 + rm_X7_light.slots) 3 [some (.ref y0), some (.ref o), none] [.int 0, .ref o] h9 E := by
    intro E h9 ⟨hA1, hp, e9, dj⟩
    subst e9
    rcases hcd E hA1 hp with rfl
    · refine w_catch C [] ⟨0, 8, 11, 15⟩ [] (ht.trans rfl) (fun z hz => (absurd hz List.not_mem_nil)) (by decide) (by decide) gw_522 (List.mem_of_getElem? (i := 530) (by decide +kernel)) (fun q => ?_)
      refine w_astore_2 C dL_light_11 (by first | trivial | rfl) ?_
      refine w_iconst (v := 1) C dL_light_12 (by rfl) ?_
      refine w_iret C M dL_light_13 ⟨by decide, by decide⟩ ⟨_, rfl, ?_⟩
      exact Or.inr ⟨_, hA1, hp, by simp, dj, rfl⟩
  first | refine w_aload_n C dL_light_0 (by rfl) ?_ | refine w_aload_nN C dL_light_0 (by rfl) ?_
  refine w_iconst (v := 0) C dL_light_1 (by rfl) ?_
  first | refine w_aload_n C dL_light_2 (by rfl) ?_ | refine w_aload_nN C dL_light_2 (by rfl) ?_
  refine cx_L_52 C ((CTX.frameI hdj hM)) (hj_l hy0) (by rfl) (by rfl) ⟨by decide, by decide⟩ (by rfl) dL_light_3 (fun v9 h1 p1 => ?_) (fun E hx px => kx9 E hx px)
  obtain ⟨hA1, hp, rfl, dj⟩ := p1
  refine w_i2l C dL_light_6 ?_
  refine w_lastn (j := 0) C (hj_r ho (dj _ _ ho)) (by decide) (by decide) dL_light_7 (fun h9 u9 => ?_)
  refine w_goto (tgt := 14) C dL_light_8 (by rfl) ?_
  refine w_iconst (v := 0) C dL_light_14 (by rfl) ?_
  refine w_iret C M dL_light_15 ⟨by decide, by decide⟩ ⟨_, rfl, ?_⟩
  exact Or.inl ⟨rfl, _, hA1, hp, dj, by rw [u9, hj_hu (dj _ _ ho)]⟩

set_option maxHeartbeats 4000000 in
set_option maxRecDepth 100000 in
theorem m_L_burn {l : Launch} {D : va_G} {tc : Nat → ClassId} (hl : l.stackTraces = false) {hA hR : HM} {y0 o : Nat} {v1 : Int32} {fs : List Value} {f : Nat → Int64} {p : Int32 → HM → Prop} {px : String → HM → Prop} (hdj : ∀ a e, hR a = some e → hA a = none) (hy0 : hA y0 = some (.inr (9, fs))) (ho : hR o = some (.inl (tc 1, 1, .inr (.inl f)))) (hM : CTX l D tc yX7_burn cX7_burn 3 (some FieldType.boolean) rm_X7_burn [.ref y0, .int v1] hA (rI p) px) (hcd : ∀ E h9, px E h9 → E = "java/lang/IllegalArgumentException") :
    CTW l D tc yL_burn cL_burn 4 (some FieldType.int) [(0, 16, 19, 13)] rm_L_burn [.ref y0, .int v1, .ref o] (hj hA hR) (rI (fun z h' => (z = 0 ∧ ∃ v hA', p v hA' ∧ (∀ a e, hR a = some e → hA' a = none) ∧ h' = hj hA' (hu hR o (.inl (tc 1, 1, .inr (.inl (vp_updL f 0 (if v = 0 then 0 else 1))))))) ∨ (∃ E hA', px E hA' ∧ (E, z) ∈ ([("java/lang/IllegalArgumentException", 1)] : List (String × Int32)) ∧ (∀ a e, hR a = some e → hA' a = none) ∧ h' = hj hA' hR))) := by
  refine CTW.start [some (.ref y0), some (.int v1), some (.ref o), none] (by decide) hl rfl rfl (fun K C M ht hN => ?_)
  obtain ⟨rfl, rfl, rfl, -⟩ := id M
  have C : CX K RL cL_burn 4 rm_L_burn := C
  have kx9 : ∀ (E : String) (h9 : HM), (∃ h1, px E h1 ∧ h9 = hj h1 hR ∧ ∀ a e, hR a = some e → h1 a = none) → WX K (((0, 0) : Nat × Nat).1 + rm_X7_burn.cells, ((0, 0) : Nat × Nat).2 + rm_X7_burn.slots) 4 [some (.ref y0), some (.int v1), some (.ref o), none] [.int 0, .ref o] h9 E := by
    intro E h9 ⟨hA1, hp, e9, dj⟩
    subst e9
    rcases hcd E hA1 hp with rfl
    · refine w_catch C [] ⟨0, 16, 19, 13⟩ [] (ht.trans rfl) (fun z hz => (absurd hz List.not_mem_nil)) (by decide) (by decide) gw_521 (List.mem_of_getElem? (i := 310) (by decide +kernel)) (fun q => ?_)
      refine w_astore_3 C dL_burn_19 (by first | trivial | rfl) ?_
      refine w_iconst (v := 1) C dL_burn_20 (by rfl) ?_
      refine w_iret C M dL_burn_21 ⟨by decide, by decide⟩ ⟨_, rfl, ?_⟩
      exact Or.inr ⟨_, hA1, hp, by simp, dj, rfl⟩
  first | refine w_aload_n C dL_burn_0 (by rfl) ?_ | refine w_aload_nN C dL_burn_0 (by rfl) ?_
  refine w_iconst (v := 0) C dL_burn_1 (by rfl) ?_
  first | refine w_aload_n C dL_burn_2 (by rfl) ?_ | refine w_aload_nN C dL_burn_2 (by rfl) ?_
  refine w_iload_n C dL_burn_3 (by rfl) ?_
  refine cx_L_55 C ((CTX.frameI hdj hM)) (hj_l hy0) (by rfl) (by rfl) ⟨by decide, by decide⟩ (by rfl) dL_burn_4 (fun v9 h1 p1 => ?_) (fun E hx px => kx9 E hx px)
  obtain ⟨hA1, hp, rfl, dj⟩ := p1
  refine w_if_eq (tgt := 14) C dL_burn_7 (by rfl) (fun c_7 => ?_) (fun c_7 => ?_)
  · try simp only [cg_ge, cg_gt, cl_gt, cl_le, cl_eq, cl_lt, cl_ge, bi_eq0, bi_ne0, bI_eq0, Decidable.not_not, Bool.not_eq_false] at c_7
    have c_7 := c_7
    refine w_lconst (v := 0) C dL_burn_14 (by rfl) ?_
    refine w_lastn (j := 0) C (hj_r ho (dj _ _ ho)) (by decide) (by decide) dL_burn_15 (fun h9 u9 => ?_)
    refine w_goto (tgt := 22) C dL_burn_16 (by rfl) ?_
    refine w_iconst (v := 0) C dL_burn_22 (by rfl) ?_
    refine w_iret C M dL_burn_23 ⟨by decide, by decide⟩ ⟨_, rfl, ?_⟩
    exact Or.inl ⟨rfl, _, hA1, hp, dj, by rw [u9, hj_hu (dj _ _ ho), if_pos c_7]⟩
  · try simp only [cg_ge, cg_gt, cl_gt, cl_le, cl_eq, cl_lt, cl_ge, bi_eq0, bi_ne0, bI_eq0, Decidable.not_not, Bool.not_eq_false] at c_7
    refine w_lconst (v := 1) C dL_burn_10 (by rfl) ?_
    refine w_goto (tgt := 15) C dL_burn_11 (by rfl) ?_
    refine w_lastn (j := 0) C (hj_r ho (dj _ _ ho)) (by decide) (by decide) dL_burn_15 (fun h9 u9 => ?_)
    refine w_goto (tgt := 22) C dL_burn_16 (by rfl) ?_
    refine w_iconst (v := 0) C dL_burn_22 (by rfl) ?_
    refine w_iret C M dL_burn_23 ⟨by decide, by decide⟩ ⟨_, rfl, ?_⟩
    exact Or.inl ⟨rfl, _, hA1, hp, dj, by rw [u9, hj_hu (dj _ _ ho), if_neg c_7]⟩

set_option maxHeartbeats 4000000 in
set_option maxRecDepth 100000 in
theorem m_L_damper {l : Launch} {D : va_G} {tc : Nat → ClassId} (hl : l.stackTraces = false) {hA hR : HM} {y0 o : Nat} {v1 : Int32} {fs : List Value} {f : Nat → Int64} {p : Int32 → HM → Prop} {px : String → HM → Prop} (hdj : ∀ a e, hR a = some e → hA a = none) (hy0 : hA y0 = some (.inr (9, fs))) (ho : hR o = some (.inl (tc 1, 1, .inr (.inl f)))) (hM : CTX l D tc yX7_damper cX7_damper 3 (some FieldType.int) rm_X7_damper [.ref y0, .int v1] hA (rI p) px) (hcd : ∀ E h9, px E h9 → E = "java/lang/IllegalArgumentException") :
    CTW l D tc yL_damper cL_damper 4 (some FieldType.int) [(0, 9, 12, 13)] rm_L_damper [.ref y0, .int v1, .ref o] (hj hA hR) (rI (fun z h' => (z = 0 ∧ ∃ v hA', p v hA' ∧ (∀ a e, hR a = some e → hA' a = none) ∧ h' = hj hA' (hu hR o (.inl (tc 1, 1, .inr (.inl (vp_updL f 0 v.toInt64)))))) ∨ (∃ E hA', px E hA' ∧ (E, z) ∈ ([("java/lang/IllegalArgumentException", 1)] : List (String × Int32)) ∧ (∀ a e, hR a = some e → hA' a = none) ∧ h' = hj hA' hR))) := by
  refine CTW.start [some (.ref y0), some (.int v1), some (.ref o), none] (by decide) hl rfl rfl (fun K C M ht hN => ?_)
  obtain ⟨rfl, rfl, rfl, -⟩ := id M
  have C : CX K RL cL_damper 4 rm_L_damper := C
  have kx9 : ∀ (E : String) (h9 : HM), (∃ h1, px E h1 ∧ h9 = hj h1 hR ∧ ∀ a e, hR a = some e → h1 a = none) → WX K (((0, 0) : Nat × Nat).1 + rm_X7_damper.cells, ((0, 0) : Nat × Nat).2 + rm_X7_damper.slots) 4 [some (.ref y0), some (.int v1), some (.ref o), none] [.int 0, .ref o] h9 E := by
    intro E h9 ⟨hA1, hp, e9, dj⟩
    subst e9
    rcases hcd E hA1 hp with rfl
    · refine w_catch C [] ⟨0, 9, 12, 13⟩ [] (ht.trans rfl) (fun z hz => (absurd hz List.not_mem_nil)) (by decide) (by decide) gw_521 (List.mem_of_getElem? (i := 310) (by decide +kernel)) (fun q => ?_)
      refine w_astore_3 C dL_damper_12 (by first | trivial | rfl) ?_
      refine w_iconst (v := 1) C dL_damper_13 (by rfl) ?_
      refine w_iret C M dL_damper_14 ⟨by decide, by decide⟩ ⟨_, rfl, ?_⟩
      exact Or.inr ⟨_, hA1, hp, by simp, dj, rfl⟩
  first | refine w_aload_n C dL_damper_0 (by rfl) ?_ | refine w_aload_nN C dL_damper_0 (by rfl) ?_
  refine w_iconst (v := 0) C dL_damper_1 (by rfl) ?_
  first | refine w_aload_n C dL_damper_2 (by rfl) ?_ | refine w_aload_nN C dL_damper_2 (by rfl) ?_
  refine w_iload_n C dL_damper_3 (by rfl) ?_
  refine cx_L_59 C ((CTX.frameI hdj hM)) (hj_l hy0) (by rfl) (by rfl) ⟨by decide, by decide⟩ (by rfl) dL_damper_4 (fun v9 h1 p1 => ?_) (fun E hx px => kx9 E hx px)
  obtain ⟨hA1, hp, rfl, dj⟩ := p1
  refine w_i2l C dL_damper_7 ?_
  refine w_lastn (j := 0) C (hj_r ho (dj _ _ ho)) (by decide) (by decide) dL_damper_8 (fun h9 u9 => ?_)
  refine w_goto (tgt := 15) C dL_damper_9 (by rfl) ?_
  refine w_iconst (v := 0) C dL_damper_15 (by rfl) ?_
  refine w_iret C M dL_damper_16 ⟨by decide, by decide⟩ ⟨_, rfl, ?_⟩
  exact Or.inl ⟨rfl, _, hA1, hp, dj, by rw [u9, hj_hu (dj _ _ ho)]⟩

set_option maxHeartbeats 4000000 in
set_option maxRecDepth 100000 in
theorem m_L_unload {l : Launch} {D : va_G} {tc : Nat → ClassId} (hl : l.stackTraces = false) {hA hR : HM} {y0 o : Nat} {fs : List Value} {f : Nat → Int64} {p : Int32 → HM → Prop} {px : String → HM → Prop} (hdj : ∀ a e, hR a = some e → hA a = none) (hy0 : hA y0 = some (.inr (9, fs))) (ho : hR o = some (.inl (tc 1, 1, .inr (.inl f)))) (hM : CTX l D tc yX7_unload cX7_unload 6 (some FieldType.int) rm_X7_unload [.ref y0] hA (rI p) px) (hcd : ∀ E h9, px E h9 → E = "java/lang/IllegalStateException") :
    CTW l D tc yL_unload cL_unload 3 (some FieldType.int) [(0, 8, 11, 15)] rm_L_unload [.ref y0, .ref o] (hj hA hR) (rI (fun z h' => (z = 0 ∧ ∃ v hA', p v hA' ∧ (∀ a e, hR a = some e → hA' a = none) ∧ h' = hj hA' (hu hR o (.inl (tc 1, 1, .inr (.inl (vp_updL f 0 v.toInt64)))))) ∨ (∃ E hA', px E hA' ∧ (E, z) ∈ ([("java/lang/IllegalStateException", 1)] : List (String × Int32)) ∧ (∀ a e, hR a = some e → hA' a = none) ∧ h' = hj hA' hR))) := by
  refine CTW.start [some (.ref y0), some (.ref o), none] (by decide) hl rfl rfl (fun K C M ht hN => ?_)
  obtain ⟨rfl, rfl, rfl, -⟩ := id M
  have C : CX K RL cL_unload 3 rm_L_unload := C
  have kx9 : ∀ (E : String) (h9 : HM), (∃ h1, px E h1 ∧ h9 = hj h1 hR ∧ ∀ a e, hR a = some e → h1 a = none) → WX K (((0, 0) : Nat × Nat).1 + rm_X7_unload.cells, ((0, 0) : Nat × Nat).2 + rm_X7_unload.slots) 3 [some (.ref y0), some (.ref o), none] [.int 0, .ref o] h9 E := by
    intro E h9 ⟨hA1, hp, e9, dj⟩
    subst e9
    rcases hcd E hA1 hp with rfl
    · refine w_catch C [] ⟨0, 8, 11, 15⟩ [] (ht.trans rfl) (fun z hz => (absurd hz List.not_mem_nil)) (by decide) (by decide) gw_522 (List.mem_of_getElem? (i := 530) (by decide +kernel)) (fun q => ?_)
      refine w_astore_2 C dL_unload_11 (by first | trivial | rfl) ?_
      refine w_iconst (v := 1) C dL_unload_12 (by rfl) ?_
      refine w_iret C M dL_unload_13 ⟨by decide, by decide⟩ ⟨_, rfl, ?_⟩
      exact Or.inr ⟨_, hA1, hp, by simp, dj, rfl⟩
  first | refine w_aload_n C dL_unload_0 (by rfl) ?_ | refine w_aload_nN C dL_unload_0 (by rfl) ?_
  refine w_iconst (v := 0) C dL_unload_1 (by rfl) ?_
  first | refine w_aload_n C dL_unload_2 (by rfl) ?_ | refine w_aload_nN C dL_unload_2 (by rfl) ?_
  refine cx_L_62 C ((CTX.frameI hdj hM)) (hj_l hy0) (by rfl) (by rfl) ⟨by decide, by decide⟩ (by rfl) dL_unload_3 (fun v9 h1 p1 => ?_) (fun E hx px => kx9 E hx px)
  obtain ⟨hA1, hp, rfl, dj⟩ := p1
  refine w_i2l C dL_unload_6 ?_
  refine w_lastn (j := 0) C (hj_r ho (dj _ _ ho)) (by decide) (by decide) dL_unload_7 (fun h9 u9 => ?_)
  refine w_goto (tgt := 14) C dL_unload_8 (by rfl) ?_
  refine w_iconst (v := 0) C dL_unload_14 (by rfl) ?_
  refine w_iret C M dL_unload_15 ⟨by decide, by decide⟩ ⟨_, rfl, ?_⟩
  exact Or.inl ⟨rfl, _, hA1, hp, dj, by rw [u9, hj_hu (dj _ _ ho)]⟩

set_option maxHeartbeats 4000000 in
set_option maxRecDepth 100000 in
theorem m_L_order {l : Launch} {D : va_G} {tc : Nat → ClassId} (hl : l.stackTraces = false) {hA hR : HM} {y0 o : Nat} {v1 v2 v3 v4 : Int32} {fs : List Value} {f : Nat → Int64} {p : Int32 → HM → Prop} {px : String → HM → Prop} (hdj : ∀ a e, hR a = some e → hA a = none) (hy0 : hA y0 = some (.inr (9, fs))) (ho : hR o = some (.inl (tc 1, 1, .inr (.inl f)))) (hM : CTX l D tc yX7_order cX7_order 6 (some FieldType.int) rm_X7_order [.ref y0, .int v1, .int v2, .int v3, .int v4] hA (rI p) px) (hcd : ∀ E h9, px E h9 → E = "java/lang/IndexOutOfBoundsException" ∨ E = "java/lang/IllegalArgumentException" ∨ E = "java/lang/IllegalStateException") :
    CTW l D tc yL_order cL_order 7 (some FieldType.int) [(0, 14, 17, 25), (0, 14, 21, 13), (0, 14, 25, 15)] rm_L_order [.ref y0, .int v1, .int v2, .int v3, .int v4, .ref o] (hj hA hR) (rI (fun z h' => (z = 0 ∧ ∃ v hA', p v hA' ∧ (∀ a e, hR a = some e → hA' a = none) ∧ h' = hj hA' (hu hR o (.inl (tc 1, 1, .inr (.inl (vp_updL f 0 v.toInt64)))))) ∨ (∃ E hA', px E hA' ∧ (E, z) ∈ ([("java/lang/IndexOutOfBoundsException", 1), ("java/lang/IllegalArgumentException", 2), ("java/lang/IllegalStateException", 3)] : List (String × Int32)) ∧ (∀ a e, hR a = some e → hA' a = none) ∧ h' = hj hA' hR))) := by
  refine CTW.start [some (.ref y0), some (.int v1), some (.int v2), some (.int v3), some (.int v4), some (.ref o), none] (by decide) hl rfl rfl (fun K C M ht hN => ?_)
  obtain ⟨rfl, rfl, rfl, -⟩ := id M
  have C : CX K RL cL_order 7 rm_L_order := C
  have kx9 : ∀ (E : String) (h9 : HM), (∃ h1, px E h1 ∧ h9 = hj h1 hR ∧ ∀ a e, hR a = some e → h1 a = none) → WX K (((0, 0) : Nat × Nat).1 + rm_X7_order.cells, ((0, 0) : Nat × Nat).2 + rm_X7_order.slots) 9 [some (.ref y0), some (.int v1), some (.int v2), some (.int v3), some (.int v4), some (.ref o), none] [.int 0, .ref o] h9 E := by
    intro E h9 ⟨hA1, hp, e9, dj⟩
    subst e9
    rcases hcd E hA1 hp with rfl | rfl | rfl
    · refine w_catch C [] ⟨0, 14, 17, 25⟩ [⟨0, 14, 21, 13⟩, ⟨0, 14, 25, 15⟩] (ht.trans rfl) (fun z hz => (absurd hz List.not_mem_nil)) (by decide) (by decide) gw_615 (List.mem_of_getElem? (i := 390) (by decide +kernel)) (fun q => ?_)
      refine w_astore_6 C dL_order_17 (by first | trivial | rfl) ?_
      refine w_iconst (v := 1) C dL_order_19 (by rfl) ?_
      refine w_iret C M dL_order_20 ⟨by decide, by decide⟩ ⟨_, rfl, ?_⟩
      exact Or.inr ⟨_, hA1, hp, by simp, dj, rfl⟩
    · refine w_catch C [⟨0, 14, 17, 25⟩] ⟨0, 14, 21, 13⟩ [⟨0, 14, 25, 15⟩] (ht.trans rfl) (fun z hz => by
        simp only [List.mem_cons, List.mem_nil_iff, or_false] at hz
        rcases hz with rfl
        · exact Or.inr ⟨by decide, _, gw_615, hN.2.2.1⟩) (by decide) (by decide) gw_521 (List.mem_of_getElem? (i := 310) (by decide +kernel)) (fun q => ?_)
      refine w_astore_6 C dL_order_21 (by first | trivial | rfl) ?_
      refine w_iconst (v := 2) C dL_order_23 (by rfl) ?_
      refine w_iret C M dL_order_24 ⟨by decide, by decide⟩ ⟨_, rfl, ?_⟩
      exact Or.inr ⟨_, hA1, hp, by simp, dj, rfl⟩
    · refine w_catch C [⟨0, 14, 17, 25⟩, ⟨0, 14, 21, 13⟩] ⟨0, 14, 25, 15⟩ [] (ht.trans rfl) (fun z hz => by
        simp only [List.mem_cons, List.mem_nil_iff, or_false] at hz
        rcases hz with rfl | rfl
        · exact Or.inr ⟨by decide, _, gw_615, hN.2.2.2.1⟩
        · exact Or.inr ⟨by decide, _, gw_521, hN.2.1⟩) (by decide) (by decide) gw_522 (List.mem_of_getElem? (i := 530) (by decide +kernel)) (fun q => ?_)
      refine w_astore_6 C dL_order_25 (by first | trivial | rfl) ?_
      refine w_iconst (v := 3) C dL_order_27 (by rfl) ?_
      refine w_iret C M dL_order_28 ⟨by decide, by decide⟩ ⟨_, rfl, ?_⟩
      exact Or.inr ⟨_, hA1, hp, by simp, dj, rfl⟩
  first | refine w_aload C dL_order_0 (by rfl) ?_ | refine w_aloadN C dL_order_0 (by rfl) ?_
  refine w_iconst (v := 0) C dL_order_2 (by rfl) ?_
  first | refine w_aload_n C dL_order_3 (by rfl) ?_ | refine w_aload_nN C dL_order_3 (by rfl) ?_
  refine w_iload_n C dL_order_4 (by rfl) ?_
  refine w_iload_n C dL_order_5 (by rfl) ?_
  refine w_iload_n C dL_order_6 (by rfl) ?_
  refine w_iload C dL_order_7 (by rfl) ?_
  refine cx_L_65 C ((CTX.frameI hdj hM)) (hj_l hy0) (by rfl) (by rfl) ⟨by decide, by decide⟩ (by rfl) dL_order_9 (fun v9 h1 p1 => ?_) (fun E hx px => kx9 E hx px)
  obtain ⟨hA1, hp, rfl, dj⟩ := p1
  refine w_i2l C dL_order_12 ?_
  refine w_lastn (j := 0) C (hj_r ho (dj _ _ ho)) (by decide) (by decide) dL_order_13 (fun h9 u9 => ?_)
  refine w_goto (tgt := 29) C dL_order_14 (by rfl) ?_
  refine w_iconst (v := 0) C dL_order_29 (by rfl) ?_
  refine w_iret C M dL_order_30 ⟨by decide, by decide⟩ ⟨_, rfl, ?_⟩
  exact Or.inl ⟨rfl, _, hA1, hp, dj, by rw [u9, hj_hu (dj _ _ ho)]⟩

set_option maxHeartbeats 4000000 in
set_option maxRecDepth 100000 in
theorem m_L_meet {l : Launch} {D : va_G} {tc : Nat → ClassId} (hl : l.stackTraces = false) {hA hR : HM} {y0 o : Nat} {v1 v2 : Int32} {fs : List Value} {f : Nat → Int64} {p : Int32 → HM → Prop} {px : String → HM → Prop} (hdj : ∀ a e, hR a = some e → hA a = none) (hy0 : hA y0 = some (.inr (9, fs))) (ho : hR o = some (.inl (tc 1, 1, .inr (.inl f)))) (hM : CTX l D tc yX7_meet cX7_meet 6 (some FieldType.int) rm_X7_meet [.ref y0, .int v1, .int v2] hA (rI p) px) (hcd : ∀ E h9, px E h9 → E = "java/lang/IndexOutOfBoundsException" ∨ E = "java/lang/IllegalStateException") :
    CTW l D tc yL_meet cL_meet 5 (some FieldType.int) [(0, 10, 13, 25), (0, 10, 17, 15)] rm_L_meet [.ref y0, .int v1, .int v2, .ref o] (hj hA hR) (rI (fun z h' => (z = 0 ∧ ∃ v hA', p v hA' ∧ (∀ a e, hR a = some e → hA' a = none) ∧ h' = hj hA' (hu hR o (.inl (tc 1, 1, .inr (.inl (vp_updL f 0 v.toInt64)))))) ∨ (∃ E hA', px E hA' ∧ (E, z) ∈ ([("java/lang/IndexOutOfBoundsException", 1), ("java/lang/IllegalStateException", 2)] : List (String × Int32)) ∧ (∀ a e, hR a = some e → hA' a = none) ∧ h' = hj hA' hR))) := by
  refine CTW.start [some (.ref y0), some (.int v1), some (.int v2), some (.ref o), none] (by decide) hl rfl rfl (fun K C M ht hN => ?_)
  obtain ⟨rfl, rfl, rfl, -⟩ := id M
  have C : CX K RL cL_meet 5 rm_L_meet := C
  have kx9 : ∀ (E : String) (h9 : HM), (∃ h1, px E h1 ∧ h9 = hj h1 hR ∧ ∀ a e, hR a = some e → h1 a = none) → WX K (((0, 0) : Nat × Nat).1 + rm_X7_meet.cells, ((0, 0) : Nat × Nat).2 + rm_X7_meet.slots) 5 [some (.ref y0), some (.int v1), some (.int v2), some (.ref o), none] [.int 0, .ref o] h9 E := by
    intro E h9 ⟨hA1, hp, e9, dj⟩
    subst e9
    rcases hcd E hA1 hp with rfl | rfl
    · refine w_catch C [] ⟨0, 10, 13, 25⟩ [⟨0, 10, 17, 15⟩] (ht.trans rfl) (fun z hz => (absurd hz List.not_mem_nil)) (by decide) (by decide) gw_615 (List.mem_of_getElem? (i := 390) (by decide +kernel)) (fun q => ?_)
      refine w_astore_4 C dL_meet_13 (by first | trivial | rfl) ?_
      refine w_iconst (v := 1) C dL_meet_15 (by rfl) ?_
      refine w_iret C M dL_meet_16 ⟨by decide, by decide⟩ ⟨_, rfl, ?_⟩
      exact Or.inr ⟨_, hA1, hp, by simp, dj, rfl⟩
    · refine w_catch C [⟨0, 10, 13, 25⟩] ⟨0, 10, 17, 15⟩ [] (ht.trans rfl) (fun z hz => by
        simp only [List.mem_cons, List.mem_nil_iff, or_false] at hz
        rcases hz with rfl
        · exact Or.inr ⟨by decide, _, gw_615, hN.2.2.2.1⟩) (by decide) (by decide) gw_522 (List.mem_of_getElem? (i := 530) (by decide +kernel)) (fun q => ?_)
      refine w_astore_4 C dL_meet_17 (by first | trivial | rfl) ?_
      refine w_iconst (v := 2) C dL_meet_19 (by rfl) ?_
      refine w_iret C M dL_meet_20 ⟨by decide, by decide⟩ ⟨_, rfl, ?_⟩
      exact Or.inr ⟨_, hA1, hp, by simp, dj, rfl⟩
  first | refine w_aload_n C dL_meet_0 (by rfl) ?_ | refine w_aload_nN C dL_meet_0 (by rfl) ?_
  refine w_iconst (v := 0) C dL_meet_1 (by rfl) ?_
  first | refine w_aload_n C dL_meet_2 (by rfl) ?_ | refine w_aload_nN C dL_meet_2 (by rfl) ?_
  refine w_iload_n C dL_meet_3 (by rfl) ?_
  refine w_iload_n C dL_meet_4 (by rfl) ?_
  refine cx_L_68 C ((CTX.frameI hdj hM)) (hj_l hy0) (by rfl) (by rfl) ⟨by decide, by decide⟩ (by rfl) dL_meet_5 (fun v9 h1 p1 => ?_) (fun E hx px => kx9 E hx px)
  obtain ⟨hA1, hp, rfl, dj⟩ := p1
  refine w_i2l C dL_meet_8 ?_
  refine w_lastn (j := 0) C (hj_r ho (dj _ _ ho)) (by decide) (by decide) dL_meet_9 (fun h9 u9 => ?_)
  refine w_goto (tgt := 21) C dL_meet_10 (by rfl) ?_
  refine w_iconst (v := 0) C dL_meet_21 (by rfl) ?_
  refine w_iret C M dL_meet_22 ⟨by decide, by decide⟩ ⟨_, rfl, ?_⟩
  exact Or.inl ⟨rfl, _, hA1, hp, dj, by rw [u9, hj_hu (dj _ _ ho)]⟩

set_option maxHeartbeats 4000000 in
set_option maxRecDepth 100000 in
theorem m_L_ofPot {l : Launch} {D : va_G} {tc : Nat → ClassId} (hl : l.stackTraces = false) {hA hR : HM} {y0 o : Nat} {v1 v2 : Int32} {fs : List Value} {f : Nat → Int64} {p : Int32 → HM → Prop} {px : String → HM → Prop} (hdj : ∀ a e, hR a = some e → hA a = none) (hy0 : hA y0 = some (.inr (9, fs))) (ho : hR o = some (.inl (tc 1, 1, .inr (.inl f)))) (hM : CTX l D tc yX7_ofPot cX7_ofPot 4 (some FieldType.int) rm_X7_ofPot [.ref y0, .int v1, .int v2] hA (rI p) px) (hcd : ∀ E h9, px E h9 → E = "java/lang/IndexOutOfBoundsException" ∨ E = "java/lang/IllegalArgumentException") :
    CTW l D tc yL_ofPot cL_ofPot 5 (some FieldType.int) [(0, 10, 13, 25), (0, 10, 17, 13)] rm_L_ofPot [.ref y0, .int v1, .int v2, .ref o] (hj hA hR) (rI (fun z h' => (z = 0 ∧ ∃ v hA', p v hA' ∧ (∀ a e, hR a = some e → hA' a = none) ∧ h' = hj hA' (hu hR o (.inl (tc 1, 1, .inr (.inl (vp_updL f 0 v.toInt64)))))) ∨ (∃ E hA', px E hA' ∧ (E, z) ∈ ([("java/lang/IndexOutOfBoundsException", 1), ("java/lang/IllegalArgumentException", 2)] : List (String × Int32)) ∧ (∀ a e, hR a = some e → hA' a = none) ∧ h' = hj hA' hR))) := by
  refine CTW.start [some (.ref y0), some (.int v1), some (.int v2), some (.ref o), none] (by decide) hl rfl rfl (fun K C M ht hN => ?_)
  obtain ⟨rfl, rfl, rfl, -⟩ := id M
  have C : CX K RL cL_ofPot 5 rm_L_ofPot := C
  have kx9 : ∀ (E : String) (h9 : HM), (∃ h1, px E h1 ∧ h9 = hj h1 hR ∧ ∀ a e, hR a = some e → h1 a = none) → WX K (((0, 0) : Nat × Nat).1 + rm_X7_ofPot.cells, ((0, 0) : Nat × Nat).2 + rm_X7_ofPot.slots) 5 [some (.ref y0), some (.int v1), some (.int v2), some (.ref o), none] [.int 0, .ref o] h9 E := by
    intro E h9 ⟨hA1, hp, e9, dj⟩
    subst e9
    rcases hcd E hA1 hp with rfl | rfl
    · refine w_catch C [] ⟨0, 10, 13, 25⟩ [⟨0, 10, 17, 13⟩] (ht.trans rfl) (fun z hz => (absurd hz List.not_mem_nil)) (by decide) (by decide) gw_615 (List.mem_of_getElem? (i := 390) (by decide +kernel)) (fun q => ?_)
      refine w_astore_4 C dL_ofPot_13 (by first | trivial | rfl) ?_
      refine w_iconst (v := 1) C dL_ofPot_15 (by rfl) ?_
      refine w_iret C M dL_ofPot_16 ⟨by decide, by decide⟩ ⟨_, rfl, ?_⟩
      exact Or.inr ⟨_, hA1, hp, by simp, dj, rfl⟩
    · refine w_catch C [⟨0, 10, 13, 25⟩] ⟨0, 10, 17, 13⟩ [] (ht.trans rfl) (fun z hz => by
        simp only [List.mem_cons, List.mem_nil_iff, or_false] at hz
        rcases hz with rfl
        · exact Or.inr ⟨by decide, _, gw_615, hN.2.2.1⟩) (by decide) (by decide) gw_521 (List.mem_of_getElem? (i := 310) (by decide +kernel)) (fun q => ?_)
      refine w_astore_4 C dL_ofPot_17 (by first | trivial | rfl) ?_
      refine w_iconst (v := 2) C dL_ofPot_19 (by rfl) ?_
      refine w_iret C M dL_ofPot_20 ⟨by decide, by decide⟩ ⟨_, rfl, ?_⟩
      exact Or.inr ⟨_, hA1, hp, by simp, dj, rfl⟩
  first | refine w_aload_n C dL_ofPot_0 (by rfl) ?_ | refine w_aload_nN C dL_ofPot_0 (by rfl) ?_
  refine w_iconst (v := 0) C dL_ofPot_1 (by rfl) ?_
  first | refine w_aload_n C dL_ofPot_2 (by rfl) ?_ | refine w_aload_nN C dL_ofPot_2 (by rfl) ?_
  refine w_iload_n C dL_ofPot_3 (by rfl) ?_
  refine w_iload_n C dL_ofPot_4 (by rfl) ?_
  refine cx_L_71 C ((CTX.frameI hdj hM)) (hj_l hy0) (by rfl) (by rfl) ⟨by decide, by decide⟩ (by rfl) dL_ofPot_5 (fun v9 h1 p1 => ?_) (fun E hx px => kx9 E hx px)
  obtain ⟨hA1, hp, rfl, dj⟩ := p1
  refine w_i2l C dL_ofPot_8 ?_
  refine w_lastn (j := 0) C (hj_r ho (dj _ _ ho)) (by decide) (by decide) dL_ofPot_9 (fun h9 u9 => ?_)
  refine w_goto (tgt := 21) C dL_ofPot_10 (by rfl) ?_
  refine w_iconst (v := 0) C dL_ofPot_21 (by rfl) ?_
  refine w_iret C M dL_ofPot_22 ⟨by decide, by decide⟩ ⟨_, rfl, ?_⟩
  exact Or.inl ⟨rfl, _, hA1, hp, dj, by rw [u9, hj_hu (dj _ _ ho)]⟩

set_option maxHeartbeats 4000000 in
set_option maxRecDepth 100000 in
theorem m_L_water {l : Launch} {D : va_G} {tc : Nat → ClassId} (hl : l.stackTraces = false) {hA hR : HM} {y0 o : Nat} {v1 : Int32} {fs : List Value} {f : Nat → UInt64} {p : UInt64 → HM → Prop} {px : String → HM → Prop} (hdj : ∀ a e, hR a = some e → hA a = none) (hy0 : hA y0 = some (.inr (9, fs))) (ho : hR o = some (.inl (tc 2, 1, .inr (.inr (.inr (.inl f)))))) (hM : CTX l D tc yX7_water cX7_water 2 (some FieldType.double) rm_X7_water [.ref y0, .int v1] hA (rD p) px) (hcd : ∀ E h9, px E h9 → E = "java/lang/IndexOutOfBoundsException") :
    CTW l D tc yL_water cL_water 4 (some FieldType.int) [(0, 8, 11, 25)] rm_L_water [.ref y0, .int v1, .ref o] (hj hA hR) (rI (fun z h' => (z = 0 ∧ ∃ v hA', p v hA' ∧ (∀ a e, hR a = some e → hA' a = none) ∧ h' = hj hA' (hu hR o (.inl (tc 2, 1, .inr (.inr (.inr (.inl (vf_upd f 0 v)))))))) ∨ (∃ E hA', px E hA' ∧ (E, z) ∈ ([("java/lang/IndexOutOfBoundsException", 1)] : List (String × Int32)) ∧ (∀ a e, hR a = some e → hA' a = none) ∧ h' = hj hA' hR))) := by
  refine CTW.start [some (.ref y0), some (.int v1), some (.ref o), none] (by decide) hl rfl rfl (fun K C M ht hN => ?_)
  obtain ⟨rfl, rfl, rfl, -⟩ := id M
  have C : CX K RL cL_water 4 rm_L_water := C
  have kx9 : ∀ (E : String) (h9 : HM), (∃ h1, px E h1 ∧ h9 = hj h1 hR ∧ ∀ a e, hR a = some e → h1 a = none) → WX K (((0, 0) : Nat × Nat).1 + rm_X7_water.cells, ((0, 0) : Nat × Nat).2 + rm_X7_water.slots) 4 [some (.ref y0), some (.int v1), some (.ref o), none] [.int 0, .ref o] h9 E := by
    intro E h9 ⟨hA1, hp, e9, dj⟩
    subst e9
    rcases hcd E hA1 hp with rfl
    · refine w_catch C [] ⟨0, 8, 11, 25⟩ [] (ht.trans rfl) (fun z hz => (absurd hz List.not_mem_nil)) (by decide) (by decide) gw_615 (List.mem_of_getElem? (i := 390) (by decide +kernel)) (fun q => ?_)
      refine w_astore_3 C dL_water_11 (by first | trivial | rfl) ?_
      refine w_iconst (v := 1) C dL_water_12 (by rfl) ?_
      refine w_iret C M dL_water_13 ⟨by decide, by decide⟩ ⟨_, rfl, ?_⟩
      exact Or.inr ⟨_, hA1, hp, by simp, dj, rfl⟩
  first | refine w_aload_n C dL_water_0 (by rfl) ?_ | refine w_aload_nN C dL_water_0 (by rfl) ?_
  refine w_iconst (v := 0) C dL_water_1 (by rfl) ?_
  first | refine w_aload_n C dL_water_2 (by rfl) ?_ | refine w_aload_nN C dL_water_2 (by rfl) ?_
  refine w_iload_n C dL_water_3 (by rfl) ?_
  refine cx_L_74 C ((CTX.frameD hdj hM)) (hj_l hy0) (by rfl) (by rfl) ⟨by decide, by decide⟩ (by rfl) dL_water_4 (fun v9 h1 p1 => ?_) (fun E hx px => kx9 E hx px)
  obtain ⟨hA1, hp, rfl, dj⟩ := p1
  refine w_dastn (j := 0) C (hj_r ho (dj _ _ ho)) (by decide) (by decide) dL_water_7 (fun h9 u9 => ?_)
  refine w_goto (tgt := 14) C dL_water_8 (by rfl) ?_
  refine w_iconst (v := 0) C dL_water_14 (by rfl) ?_
  refine w_iret C M dL_water_15 ⟨by decide, by decide⟩ ⟨_, rfl, ?_⟩
  exact Or.inl ⟨rfl, _, hA1, hp, dj, by rw [u9, hj_hu (dj _ _ ho)]⟩

set_option maxHeartbeats 4000000 in
set_option maxRecDepth 100000 in
theorem m_L_ofGlaze {l : Launch} {D : va_G} {tc : Nat → ClassId} (hl : l.stackTraces = false) {hA hR : HM} {y0 o : Nat} {v1 v2 : Int32} {fs : List Value} {f : Nat → UInt64} {p : UInt64 → HM → Prop} {px : String → HM → Prop} (hdj : ∀ a e, hR a = some e → hA a = none) (hy0 : hA y0 = some (.inr (9, fs))) (ho : hR o = some (.inl (tc 2, 1, .inr (.inr (.inr (.inl f)))))) (hM : CTX l D tc yX7_ofGlaze cX7_ofGlaze 4 (some FieldType.double) rm_X7_ofGlaze [.ref y0, .int v1, .int v2] hA (rD p) px) (hcd : ∀ E h9, px E h9 → E = "java/lang/IndexOutOfBoundsException" ∨ E = "java/lang/IllegalArgumentException") :
    CTW l D tc yL_ofGlaze cL_ofGlaze 5 (some FieldType.int) [(0, 9, 12, 25), (0, 9, 16, 13)] rm_L_ofGlaze [.ref y0, .int v1, .int v2, .ref o] (hj hA hR) (rI (fun z h' => (z = 0 ∧ ∃ v hA', p v hA' ∧ (∀ a e, hR a = some e → hA' a = none) ∧ h' = hj hA' (hu hR o (.inl (tc 2, 1, .inr (.inr (.inr (.inl (vf_upd f 0 v)))))))) ∨ (∃ E hA', px E hA' ∧ (E, z) ∈ ([("java/lang/IndexOutOfBoundsException", 1), ("java/lang/IllegalArgumentException", 2)] : List (String × Int32)) ∧ (∀ a e, hR a = some e → hA' a = none) ∧ h' = hj hA' hR))) := by
  refine CTW.start [some (.ref y0), some (.int v1), some (.int v2), some (.ref o), none] (by decide) hl rfl rfl (fun K C M ht hN => ?_)
  obtain ⟨rfl, rfl, rfl, -⟩ := id M
  have C : CX K RL cL_ofGlaze 5 rm_L_ofGlaze := C
  have kx9 : ∀ (E : String) (h9 : HM), (∃ h1, px E h1 ∧ h9 = hj h1 hR ∧ ∀ a e, hR a = some e → h1 a = none) → WX K (((0, 0) : Nat × Nat).1 + rm_X7_ofGlaze.cells, ((0, 0) : Nat × Nat).2 + rm_X7_ofGlaze.slots) 5 [some (.ref y0), some (.int v1), some (.int v2), some (.ref o), none] [.int 0, .ref o] h9 E := by
    intro E h9 ⟨hA1, hp, e9, dj⟩
    subst e9
    rcases hcd E hA1 hp with rfl | rfl
    · refine w_catch C [] ⟨0, 9, 12, 25⟩ [⟨0, 9, 16, 13⟩] (ht.trans rfl) (fun z hz => (absurd hz List.not_mem_nil)) (by decide) (by decide) gw_615 (List.mem_of_getElem? (i := 390) (by decide +kernel)) (fun q => ?_)
      refine w_astore_4 C dL_ofGlaze_12 (by first | trivial | rfl) ?_
      refine w_iconst (v := 1) C dL_ofGlaze_14 (by rfl) ?_
      refine w_iret C M dL_ofGlaze_15 ⟨by decide, by decide⟩ ⟨_, rfl, ?_⟩
      exact Or.inr ⟨_, hA1, hp, by simp, dj, rfl⟩
    · refine w_catch C [⟨0, 9, 12, 25⟩] ⟨0, 9, 16, 13⟩ [] (ht.trans rfl) (fun z hz => by
        simp only [List.mem_cons, List.mem_nil_iff, or_false] at hz
        rcases hz with rfl
        · exact Or.inr ⟨by decide, _, gw_615, hN.2.2.1⟩) (by decide) (by decide) gw_521 (List.mem_of_getElem? (i := 310) (by decide +kernel)) (fun q => ?_)
      refine w_astore_4 C dL_ofGlaze_16 (by first | trivial | rfl) ?_
      refine w_iconst (v := 2) C dL_ofGlaze_18 (by rfl) ?_
      refine w_iret C M dL_ofGlaze_19 ⟨by decide, by decide⟩ ⟨_, rfl, ?_⟩
      exact Or.inr ⟨_, hA1, hp, by simp, dj, rfl⟩
  first | refine w_aload_n C dL_ofGlaze_0 (by rfl) ?_ | refine w_aload_nN C dL_ofGlaze_0 (by rfl) ?_
  refine w_iconst (v := 0) C dL_ofGlaze_1 (by rfl) ?_
  first | refine w_aload_n C dL_ofGlaze_2 (by rfl) ?_ | refine w_aload_nN C dL_ofGlaze_2 (by rfl) ?_
  refine w_iload_n C dL_ofGlaze_3 (by rfl) ?_
  refine w_iload_n C dL_ofGlaze_4 (by rfl) ?_
  refine cx_L_78 C ((CTX.frameD hdj hM)) (hj_l hy0) (by rfl) (by rfl) ⟨by decide, by decide⟩ (by rfl) dL_ofGlaze_5 (fun v9 h1 p1 => ?_) (fun E hx px => kx9 E hx px)
  obtain ⟨hA1, hp, rfl, dj⟩ := p1
  refine w_dastn (j := 0) C (hj_r ho (dj _ _ ho)) (by decide) (by decide) dL_ofGlaze_8 (fun h9 u9 => ?_)
  refine w_goto (tgt := 20) C dL_ofGlaze_9 (by rfl) ?_
  refine w_iconst (v := 0) C dL_ofGlaze_20 (by rfl) ?_
  refine w_iret C M dL_ofGlaze_21 ⟨by decide, by decide⟩ ⟨_, rfl, ?_⟩
  exact Or.inl ⟨rfl, _, hA1, hp, dj, by rw [u9, hj_hu (dj _ _ ho)]⟩

set_option maxHeartbeats 4000000 in
set_option maxRecDepth 100000 in
theorem m_L_kiln {l : Launch} {D : va_G} {tc : Nat → ClassId} (hl : l.stackTraces = false) {hA hR : HM} {y0 o : Nat} {v1 : Int32} {fs : List Value} {f : Nat → UInt64} {p : UInt64 → HM → Prop} {px : String → HM → Prop} (hdj : ∀ a e, hR a = some e → hA a = none) (hy0 : hA y0 = some (.inr (9, fs))) (ho : hR o = some (.inl (tc 2, 1, .inr (.inr (.inr (.inl f)))))) (hM : CTX l D tc yX7_kiln cX7_kiln 2 (some FieldType.double) rm_X7_kiln [.ref y0, .int v1] hA (rD p) px) (hcd : ∀ E h9, px E h9 → E = "java/lang/IllegalArgumentException") :
    CTW l D tc yL_kiln cL_kiln 4 (some FieldType.int) [(0, 8, 11, 13)] rm_L_kiln [.ref y0, .int v1, .ref o] (hj hA hR) (rI (fun z h' => (z = 0 ∧ ∃ v hA', p v hA' ∧ (∀ a e, hR a = some e → hA' a = none) ∧ h' = hj hA' (hu hR o (.inl (tc 2, 1, .inr (.inr (.inr (.inl (vf_upd f 0 v)))))))) ∨ (∃ E hA', px E hA' ∧ (E, z) ∈ ([("java/lang/IllegalArgumentException", 1)] : List (String × Int32)) ∧ (∀ a e, hR a = some e → hA' a = none) ∧ h' = hj hA' hR))) := by
  refine CTW.start [some (.ref y0), some (.int v1), some (.ref o), none] (by decide) hl rfl rfl (fun K C M ht hN => ?_)
  obtain ⟨rfl, rfl, rfl, -⟩ := id M
  have C : CX K RL cL_kiln 4 rm_L_kiln := C
  have kx9 : ∀ (E : String) (h9 : HM), (∃ h1, px E h1 ∧ h9 = hj h1 hR ∧ ∀ a e, hR a = some e → h1 a = none) → WX K (((0, 0) : Nat × Nat).1 + rm_X7_kiln.cells, ((0, 0) : Nat × Nat).2 + rm_X7_kiln.slots) 4 [some (.ref y0), some (.int v1), some (.ref o), none] [.int 0, .ref o] h9 E := by
    intro E h9 ⟨hA1, hp, e9, dj⟩
    subst e9
    rcases hcd E hA1 hp with rfl
    · refine w_catch C [] ⟨0, 8, 11, 13⟩ [] (ht.trans rfl) (fun z hz => (absurd hz List.not_mem_nil)) (by decide) (by decide) gw_521 (List.mem_of_getElem? (i := 310) (by decide +kernel)) (fun q => ?_)
      refine w_astore_3 C dL_kiln_11 (by first | trivial | rfl) ?_
      refine w_iconst (v := 1) C dL_kiln_12 (by rfl) ?_
      refine w_iret C M dL_kiln_13 ⟨by decide, by decide⟩ ⟨_, rfl, ?_⟩
      exact Or.inr ⟨_, hA1, hp, by simp, dj, rfl⟩
  first | refine w_aload_n C dL_kiln_0 (by rfl) ?_ | refine w_aload_nN C dL_kiln_0 (by rfl) ?_
  refine w_iconst (v := 0) C dL_kiln_1 (by rfl) ?_
  first | refine w_aload_n C dL_kiln_2 (by rfl) ?_ | refine w_aload_nN C dL_kiln_2 (by rfl) ?_
  refine w_iload_n C dL_kiln_3 (by rfl) ?_
  refine cx_L_82 C ((CTX.frameD hdj hM)) (hj_l hy0) (by rfl) (by rfl) ⟨by decide, by decide⟩ (by rfl) dL_kiln_4 (fun v9 h1 p1 => ?_) (fun E hx px => kx9 E hx px)
  obtain ⟨hA1, hp, rfl, dj⟩ := p1
  refine w_dastn (j := 0) C (hj_r ho (dj _ _ ho)) (by decide) (by decide) dL_kiln_7 (fun h9 u9 => ?_)
  refine w_goto (tgt := 14) C dL_kiln_8 (by rfl) ?_
  refine w_iconst (v := 0) C dL_kiln_14 (by rfl) ?_
  refine w_iret C M dL_kiln_15 ⟨by decide, by decide⟩ ⟨_, rfl, ?_⟩
  exact Or.inl ⟨rfl, _, hA1, hp, dj, by rw [u9, hj_hu (dj _ _ ho)]⟩

set_option maxHeartbeats 4000000 in
set_option maxRecDepth 100000 in
theorem m_L_ofShelf {l : Launch} {D : va_G} {tc : Nat → ClassId} (hl : l.stackTraces = false) {hA hR : HM} {y0 o : Nat} {v1 v2 : Int32} {fs : List Value} {f : Nat → Int64} {p : Int32 → HM → Prop} {px : String → HM → Prop} (hdj : ∀ a e, hR a = some e → hA a = none) (hy0 : hA y0 = some (.inr (9, fs))) (ho : hR o = some (.inl (tc 1, 1, .inr (.inl f)))) (hM : CTX l D tc yX7_ofShelf cX7_ofShelf 3 (some FieldType.int) rm_X7_ofShelf [.ref y0, .int v1, .int v2] hA (rI p) px) (hcd : ∀ E h9, px E h9 → E = "java/lang/IndexOutOfBoundsException" ∨ E = "java/lang/IllegalArgumentException") :
    CTW l D tc yL_ofShelf cL_ofShelf 5 (some FieldType.int) [(0, 10, 13, 25), (0, 10, 17, 13)] rm_L_ofShelf [.ref y0, .int v1, .int v2, .ref o] (hj hA hR) (rI (fun z h' => (z = 0 ∧ ∃ v hA', p v hA' ∧ (∀ a e, hR a = some e → hA' a = none) ∧ h' = hj hA' (hu hR o (.inl (tc 1, 1, .inr (.inl (vp_updL f 0 v.toInt64)))))) ∨ (∃ E hA', px E hA' ∧ (E, z) ∈ ([("java/lang/IndexOutOfBoundsException", 1), ("java/lang/IllegalArgumentException", 2)] : List (String × Int32)) ∧ (∀ a e, hR a = some e → hA' a = none) ∧ h' = hj hA' hR))) := by
  refine CTW.start [some (.ref y0), some (.int v1), some (.int v2), some (.ref o), none] (by decide) hl rfl rfl (fun K C M ht hN => ?_)
  obtain ⟨rfl, rfl, rfl, -⟩ := id M
  have C : CX K RL cL_ofShelf 5 rm_L_ofShelf := C
  have kx9 : ∀ (E : String) (h9 : HM), (∃ h1, px E h1 ∧ h9 = hj h1 hR ∧ ∀ a e, hR a = some e → h1 a = none) → WX K (((0, 0) : Nat × Nat).1 + rm_X7_ofShelf.cells, ((0, 0) : Nat × Nat).2 + rm_X7_ofShelf.slots) 5 [some (.ref y0), some (.int v1), some (.int v2), some (.ref o), none] [.int 0, .ref o] h9 E := by
    intro E h9 ⟨hA1, hp, e9, dj⟩
    subst e9
    rcases hcd E hA1 hp with rfl | rfl
    · refine w_catch C [] ⟨0, 10, 13, 25⟩ [⟨0, 10, 17, 13⟩] (ht.trans rfl) (fun z hz => (absurd hz List.not_mem_nil)) (by decide) (by decide) gw_615 (List.mem_of_getElem? (i := 390) (by decide +kernel)) (fun q => ?_)
      refine w_astore_4 C dL_ofShelf_13 (by first | trivial | rfl) ?_
      refine w_iconst (v := 1) C dL_ofShelf_15 (by rfl) ?_
      refine w_iret C M dL_ofShelf_16 ⟨by decide, by decide⟩ ⟨_, rfl, ?_⟩
      exact Or.inr ⟨_, hA1, hp, by simp, dj, rfl⟩
    · refine w_catch C [⟨0, 10, 13, 25⟩] ⟨0, 10, 17, 13⟩ [] (ht.trans rfl) (fun z hz => by
        simp only [List.mem_cons, List.mem_nil_iff, or_false] at hz
        rcases hz with rfl
        · exact Or.inr ⟨by decide, _, gw_615, hN.2.2.1⟩) (by decide) (by decide) gw_521 (List.mem_of_getElem? (i := 310) (by decide +kernel)) (fun q => ?_)
      refine w_astore_4 C dL_ofShelf_17 (by first | trivial | rfl) ?_
      refine w_iconst (v := 2) C dL_ofShelf_19 (by rfl) ?_
      refine w_iret C M dL_ofShelf_20 ⟨by decide, by decide⟩ ⟨_, rfl, ?_⟩
      exact Or.inr ⟨_, hA1, hp, by simp, dj, rfl⟩
  first | refine w_aload_n C dL_ofShelf_0 (by rfl) ?_ | refine w_aload_nN C dL_ofShelf_0 (by rfl) ?_
  refine w_iconst (v := 0) C dL_ofShelf_1 (by rfl) ?_
  first | refine w_aload_n C dL_ofShelf_2 (by rfl) ?_ | refine w_aload_nN C dL_ofShelf_2 (by rfl) ?_
  refine w_iload_n C dL_ofShelf_3 (by rfl) ?_
  refine w_iload_n C dL_ofShelf_4 (by rfl) ?_
  refine cx_L_85 C ((CTX.frameI hdj hM)) (hj_l hy0) (by rfl) (by rfl) ⟨by decide, by decide⟩ (by rfl) dL_ofShelf_5 (fun v9 h1 p1 => ?_) (fun E hx px => kx9 E hx px)
  obtain ⟨hA1, hp, rfl, dj⟩ := p1
  refine w_i2l C dL_ofShelf_8 ?_
  refine w_lastn (j := 0) C (hj_r ho (dj _ _ ho)) (by decide) (by decide) dL_ofShelf_9 (fun h9 u9 => ?_)
  refine w_goto (tgt := 21) C dL_ofShelf_10 (by rfl) ?_
  refine w_iconst (v := 0) C dL_ofShelf_21 (by rfl) ?_
  refine w_iret C M dL_ofShelf_22 ⟨by decide, by decide⟩ ⟨_, rfl, ?_⟩
  exact Or.inl ⟨rfl, _, hA1, hp, dj, by rw [u9, hj_hu (dj _ _ ho)]⟩

set_option maxHeartbeats 4000000 in
set_option maxRecDepth 100000 in
theorem m_L_many {l : Launch} {D : va_G} {tc : Nat → ClassId} (hl : l.stackTraces = false) {hA hR : HM} {y0 o : Nat} {v1 : Int32} {fs : List Value} {f : Nat → Int64} {p : Int32 → HM → Prop} {px : String → HM → Prop} (hdj : ∀ a e, hR a = some e → hA a = none) (hy0 : hA y0 = some (.inr (9, fs))) (ho : hR o = some (.inl (tc 1, 1, .inr (.inl f)))) (hM : CTX l D tc yX7_many cX7_many 2 (some FieldType.int) rm_X7_many [.ref y0, .int v1] hA (rI p) px) (hcd : ∀ E h9, px E h9 → E = "java/lang/IllegalArgumentException") :
    CTW l D tc yL_many cL_many 4 (some FieldType.int) [(0, 9, 12, 13)] rm_L_many [.ref y0, .int v1, .ref o] (hj hA hR) (rI (fun z h' => (z = 0 ∧ ∃ v hA', p v hA' ∧ (∀ a e, hR a = some e → hA' a = none) ∧ h' = hj hA' (hu hR o (.inl (tc 1, 1, .inr (.inl (vp_updL f 0 v.toInt64)))))) ∨ (∃ E hA', px E hA' ∧ (E, z) ∈ ([("java/lang/IllegalArgumentException", 1)] : List (String × Int32)) ∧ (∀ a e, hR a = some e → hA' a = none) ∧ h' = hj hA' hR))) := by
  refine CTW.start [some (.ref y0), some (.int v1), some (.ref o), none] (by decide) hl rfl rfl (fun K C M ht hN => ?_)
  obtain ⟨rfl, rfl, rfl, -⟩ := id M
  have C : CX K RL cL_many 4 rm_L_many := C
  have kx9 : ∀ (E : String) (h9 : HM), (∃ h1, px E h1 ∧ h9 = hj h1 hR ∧ ∀ a e, hR a = some e → h1 a = none) → WX K (((0, 0) : Nat × Nat).1 + rm_X7_many.cells, ((0, 0) : Nat × Nat).2 + rm_X7_many.slots) 4 [some (.ref y0), some (.int v1), some (.ref o), none] [.int 0, .ref o] h9 E := by
    intro E h9 ⟨hA1, hp, e9, dj⟩
    subst e9
    rcases hcd E hA1 hp with rfl
    · refine w_catch C [] ⟨0, 9, 12, 13⟩ [] (ht.trans rfl) (fun z hz => (absurd hz List.not_mem_nil)) (by decide) (by decide) gw_521 (List.mem_of_getElem? (i := 310) (by decide +kernel)) (fun q => ?_)
      refine w_astore_3 C dL_many_12 (by first | trivial | rfl) ?_
      refine w_iconst (v := 1) C dL_many_13 (by rfl) ?_
      refine w_iret C M dL_many_14 ⟨by decide, by decide⟩ ⟨_, rfl, ?_⟩
      exact Or.inr ⟨_, hA1, hp, by simp, dj, rfl⟩
  first | refine w_aload_n C dL_many_0 (by rfl) ?_ | refine w_aload_nN C dL_many_0 (by rfl) ?_
  refine w_iconst (v := 0) C dL_many_1 (by rfl) ?_
  first | refine w_aload_n C dL_many_2 (by rfl) ?_ | refine w_aload_nN C dL_many_2 (by rfl) ?_
  refine w_iload_n C dL_many_3 (by rfl) ?_
  refine cx_L_88 C ((CTX.frameI hdj hM)) (hj_l hy0) (by rfl) (by rfl) ⟨by decide, by decide⟩ (by rfl) dL_many_4 (fun v9 h1 p1 => ?_) (fun E hx px => kx9 E hx px)
  obtain ⟨hA1, hp, rfl, dj⟩ := p1
  refine w_i2l C dL_many_7 ?_
  refine w_lastn (j := 0) C (hj_r ho (dj _ _ ho)) (by decide) (by decide) dL_many_8 (fun h9 u9 => ?_)
  refine w_goto (tgt := 15) C dL_many_9 (by rfl) ?_
  refine w_iconst (v := 0) C dL_many_15 (by rfl) ?_
  refine w_iret C M dL_many_16 ⟨by decide, by decide⟩ ⟨_, rfl, ?_⟩
  exact Or.inl ⟨rfl, _, hA1, hp, dj, by rw [u9, hj_hu (dj _ _ ho)]⟩

set_option maxHeartbeats 4000000 in
set_option maxRecDepth 100000 in
theorem m_L_wouldCone {l : Launch} {D : va_G} {tc : Nat → ClassId} (hl : l.stackTraces = false) {hA hR : HM} {y0 o : Nat} {v1 v2 : Int32} {fs : List Value} {f : Nat → Int64} {p : Int32 → HM → Prop} {px : String → HM → Prop} (hdj : ∀ a e, hR a = some e → hA a = none) (hy0 : hA y0 = some (.inr (9, fs))) (ho : hR o = some (.inl (tc 1, 1, .inr (.inl f)))) (hM : CTX l D tc yX7_wouldCone cX7_wouldCone 4 (some FieldType.int) rm_X7_wouldCone [.ref y0, .int v1, .int v2] hA (rI p) px) (hcd : ∀ E h9, px E h9 → E = "java/lang/IndexOutOfBoundsException" ∨ E = "java/lang/IllegalArgumentException") :
    CTW l D tc yL_wouldCone cL_wouldCone 5 (some FieldType.int) [(0, 10, 13, 25), (0, 10, 17, 13)] rm_L_wouldCone [.ref y0, .int v1, .int v2, .ref o] (hj hA hR) (rI (fun z h' => (z = 0 ∧ ∃ v hA', p v hA' ∧ (∀ a e, hR a = some e → hA' a = none) ∧ h' = hj hA' (hu hR o (.inl (tc 1, 1, .inr (.inl (vp_updL f 0 v.toInt64)))))) ∨ (∃ E hA', px E hA' ∧ (E, z) ∈ ([("java/lang/IndexOutOfBoundsException", 1), ("java/lang/IllegalArgumentException", 2)] : List (String × Int32)) ∧ (∀ a e, hR a = some e → hA' a = none) ∧ h' = hj hA' hR))) := by
  refine CTW.start [some (.ref y0), some (.int v1), some (.int v2), some (.ref o), none] (by decide) hl rfl rfl (fun K C M ht hN => ?_)
  obtain ⟨rfl, rfl, rfl, -⟩ := id M
  have C : CX K RL cL_wouldCone 5 rm_L_wouldCone := C
  have kx9 : ∀ (E : String) (h9 : HM), (∃ h1, px E h1 ∧ h9 = hj h1 hR ∧ ∀ a e, hR a = some e → h1 a = none) → WX K (((0, 0) : Nat × Nat).1 + rm_X7_wouldCone.cells, ((0, 0) : Nat × Nat).2 + rm_X7_wouldCone.slots) 5 [some (.ref y0), some (.int v1), some (.int v2), some (.ref o), none] [.int 0, .ref o] h9 E := by
    intro E h9 ⟨hA1, hp, e9, dj⟩
    subst e9
    rcases hcd E hA1 hp with rfl | rfl
    · refine w_catch C [] ⟨0, 10, 13, 25⟩ [⟨0, 10, 17, 13⟩] (ht.trans rfl) (fun z hz => (absurd hz List.not_mem_nil)) (by decide) (by decide) gw_615 (List.mem_of_getElem? (i := 390) (by decide +kernel)) (fun q => ?_)
      refine w_astore_4 C dL_wouldCone_13 (by first | trivial | rfl) ?_
      refine w_iconst (v := 1) C dL_wouldCone_15 (by rfl) ?_
      refine w_iret C M dL_wouldCone_16 ⟨by decide, by decide⟩ ⟨_, rfl, ?_⟩
      exact Or.inr ⟨_, hA1, hp, by simp, dj, rfl⟩
    · refine w_catch C [⟨0, 10, 13, 25⟩] ⟨0, 10, 17, 13⟩ [] (ht.trans rfl) (fun z hz => by
        simp only [List.mem_cons, List.mem_nil_iff, or_false] at hz
        rcases hz with rfl
        · exact Or.inr ⟨by decide, _, gw_615, hN.2.2.1⟩) (by decide) (by decide) gw_521 (List.mem_of_getElem? (i := 310) (by decide +kernel)) (fun q => ?_)
      refine w_astore_4 C dL_wouldCone_17 (by first | trivial | rfl) ?_
      refine w_iconst (v := 2) C dL_wouldCone_19 (by rfl) ?_
      refine w_iret C M dL_wouldCone_20 ⟨by decide, by decide⟩ ⟨_, rfl, ?_⟩
      exact Or.inr ⟨_, hA1, hp, by simp, dj, rfl⟩
  first | refine w_aload_n C dL_wouldCone_0 (by rfl) ?_ | refine w_aload_nN C dL_wouldCone_0 (by rfl) ?_
  refine w_iconst (v := 0) C dL_wouldCone_1 (by rfl) ?_
  first | refine w_aload_n C dL_wouldCone_2 (by rfl) ?_ | refine w_aload_nN C dL_wouldCone_2 (by rfl) ?_
  refine w_iload_n C dL_wouldCone_3 (by rfl) ?_
  refine w_iload_n C dL_wouldCone_4 (by rfl) ?_
  refine cx_L_91 C ((CTX.frameI hdj hM)) (hj_l hy0) (by rfl) (by rfl) ⟨by decide, by decide⟩ (by rfl) dL_wouldCone_5 (fun v9 h1 p1 => ?_) (fun E hx px => kx9 E hx px)
  obtain ⟨hA1, hp, rfl, dj⟩ := p1
  refine w_i2l C dL_wouldCone_8 ?_
  refine w_lastn (j := 0) C (hj_r ho (dj _ _ ho)) (by decide) (by decide) dL_wouldCone_9 (fun h9 u9 => ?_)
  refine w_goto (tgt := 21) C dL_wouldCone_10 (by rfl) ?_
  refine w_iconst (v := 0) C dL_wouldCone_21 (by rfl) ?_
  refine w_iret C M dL_wouldCone_22 ⟨by decide, by decide⟩ ⟨_, rfl, ?_⟩
  exact Or.inl ⟨rfl, _, hA1, hp, dj, by rw [u9, hj_hu (dj _ _ ho)]⟩

set_option maxHeartbeats 4000000 in
set_option maxRecDepth 100000 in
theorem m_L_best {l : Launch} {D : va_G} {tc : Nat → ClassId} (hl : l.stackTraces = false) {hA hR : HM} {y0 o : Nat} {v1 v2 : Int32} {fs : List Value} {f : Nat → Int64} {p : Int32 → HM → Prop} {px : String → HM → Prop} (hdj : ∀ a e, hR a = some e → hA a = none) (hy0 : hA y0 = some (.inr (9, fs))) (ho : hR o = some (.inl (tc 1, 1, .inr (.inl f)))) (hM : CTX l D tc yX7_best cX7_best 9 (some FieldType.int) rm_X7_best [.ref y0, .int v1, .int v2] hA (rI p) px) (hcd : ∀ E h9, px E h9 → E = "java/lang/IndexOutOfBoundsException" ∨ E = "java/lang/IllegalArgumentException") :
    CTW l D tc yL_best cL_best 5 (some FieldType.int) [(0, 10, 13, 25), (0, 10, 17, 13)] rm_L_best [.ref y0, .int v1, .int v2, .ref o] (hj hA hR) (rI (fun z h' => (z = 0 ∧ ∃ v hA', p v hA' ∧ (∀ a e, hR a = some e → hA' a = none) ∧ h' = hj hA' (hu hR o (.inl (tc 1, 1, .inr (.inl (vp_updL f 0 v.toInt64)))))) ∨ (∃ E hA', px E hA' ∧ (E, z) ∈ ([("java/lang/IndexOutOfBoundsException", 1), ("java/lang/IllegalArgumentException", 2)] : List (String × Int32)) ∧ (∀ a e, hR a = some e → hA' a = none) ∧ h' = hj hA' hR))) := by
  refine CTW.start [some (.ref y0), some (.int v1), some (.int v2), some (.ref o), none] (by decide) hl rfl rfl (fun K C M ht hN => ?_)
  obtain ⟨rfl, rfl, rfl, -⟩ := id M
  have C : CX K RL cL_best 5 rm_L_best := C
  have kx9 : ∀ (E : String) (h9 : HM), (∃ h1, px E h1 ∧ h9 = hj h1 hR ∧ ∀ a e, hR a = some e → h1 a = none) → WX K (((0, 0) : Nat × Nat).1 + rm_X7_best.cells, ((0, 0) : Nat × Nat).2 + rm_X7_best.slots) 5 [some (.ref y0), some (.int v1), some (.int v2), some (.ref o), none] [.int 0, .ref o] h9 E := by
    intro E h9 ⟨hA1, hp, e9, dj⟩
    subst e9
    rcases hcd E hA1 hp with rfl | rfl
    · refine w_catch C [] ⟨0, 10, 13, 25⟩ [⟨0, 10, 17, 13⟩] (ht.trans rfl) (fun z hz => (absurd hz List.not_mem_nil)) (by decide) (by decide) gw_615 (List.mem_of_getElem? (i := 390) (by decide +kernel)) (fun q => ?_)
      refine w_astore_4 C dL_best_13 (by first | trivial | rfl) ?_
      refine w_iconst (v := 1) C dL_best_15 (by rfl) ?_
      refine w_iret C M dL_best_16 ⟨by decide, by decide⟩ ⟨_, rfl, ?_⟩
      exact Or.inr ⟨_, hA1, hp, by simp, dj, rfl⟩
    · refine w_catch C [⟨0, 10, 13, 25⟩] ⟨0, 10, 17, 13⟩ [] (ht.trans rfl) (fun z hz => by
        simp only [List.mem_cons, List.mem_nil_iff, or_false] at hz
        rcases hz with rfl
        · exact Or.inr ⟨by decide, _, gw_615, hN.2.2.1⟩) (by decide) (by decide) gw_521 (List.mem_of_getElem? (i := 310) (by decide +kernel)) (fun q => ?_)
      refine w_astore_4 C dL_best_17 (by first | trivial | rfl) ?_
      refine w_iconst (v := 2) C dL_best_19 (by rfl) ?_
      refine w_iret C M dL_best_20 ⟨by decide, by decide⟩ ⟨_, rfl, ?_⟩
      exact Or.inr ⟨_, hA1, hp, by simp, dj, rfl⟩
  first | refine w_aload_n C dL_best_0 (by rfl) ?_ | refine w_aload_nN C dL_best_0 (by rfl) ?_
  refine w_iconst (v := 0) C dL_best_1 (by rfl) ?_
  first | refine w_aload_n C dL_best_2 (by rfl) ?_ | refine w_aload_nN C dL_best_2 (by rfl) ?_
  refine w_iload_n C dL_best_3 (by rfl) ?_
  refine w_iload_n C dL_best_4 (by rfl) ?_
  refine cx_L_94 C ((CTX.frameI hdj hM)) (hj_l hy0) (by rfl) (by rfl) ⟨by decide, by decide⟩ (by rfl) dL_best_5 (fun v9 h1 p1 => ?_) (fun E hx px => kx9 E hx px)
  obtain ⟨hA1, hp, rfl, dj⟩ := p1
  refine w_i2l C dL_best_8 ?_
  refine w_lastn (j := 0) C (hj_r ho (dj _ _ ho)) (by decide) (by decide) dL_best_9 (fun h9 u9 => ?_)
  refine w_goto (tgt := 21) C dL_best_10 (by rfl) ?_
  refine w_iconst (v := 0) C dL_best_21 (by rfl) ?_
  refine w_iret C M dL_best_22 ⟨by decide, by decide⟩ ⟨_, rfl, ?_⟩
  exact Or.inl ⟨rfl, _, hA1, hp, dj, by rw [u9, hj_hu (dj _ _ ho)]⟩

set_option maxHeartbeats 4000000 in
set_option maxRecDepth 100000 in
theorem m_L_wouldHold {l : Launch} {D : va_G} {tc : Nat → ClassId} (hl : l.stackTraces = false) {hA hR : HM} {y0 o : Nat} {v1 : Int32} {fs : List Value} {f : Nat → Int64} {p : Int32 → HM → Prop} {px : String → HM → Prop} (hdj : ∀ a e, hR a = some e → hA a = none) (hy0 : hA y0 = some (.inr (9, fs))) (ho : hR o = some (.inl (tc 1, 1, .inr (.inl f)))) (hM : CTX l D tc yX7_wouldHold cX7_wouldHold 4 (some FieldType.int) rm_X7_wouldHold [.ref y0, .int v1] hA (rI p) px) (hcd : ∀ E h9, px E h9 → E = "java/lang/IndexOutOfBoundsException") :
    CTW l D tc yL_wouldHold cL_wouldHold 4 (some FieldType.int) [(0, 9, 12, 25)] rm_L_wouldHold [.ref y0, .int v1, .ref o] (hj hA hR) (rI (fun z h' => (z = 0 ∧ ∃ v hA', p v hA' ∧ (∀ a e, hR a = some e → hA' a = none) ∧ h' = hj hA' (hu hR o (.inl (tc 1, 1, .inr (.inl (vp_updL f 0 v.toInt64)))))) ∨ (∃ E hA', px E hA' ∧ (E, z) ∈ ([("java/lang/IndexOutOfBoundsException", 1)] : List (String × Int32)) ∧ (∀ a e, hR a = some e → hA' a = none) ∧ h' = hj hA' hR))) := by
  refine CTW.start [some (.ref y0), some (.int v1), some (.ref o), none] (by decide) hl rfl rfl (fun K C M ht hN => ?_)
  obtain ⟨rfl, rfl, rfl, -⟩ := id M
  have C : CX K RL cL_wouldHold 4 rm_L_wouldHold := C
  have kx9 : ∀ (E : String) (h9 : HM), (∃ h1, px E h1 ∧ h9 = hj h1 hR ∧ ∀ a e, hR a = some e → h1 a = none) → WX K (((0, 0) : Nat × Nat).1 + rm_X7_wouldHold.cells, ((0, 0) : Nat × Nat).2 + rm_X7_wouldHold.slots) 4 [some (.ref y0), some (.int v1), some (.ref o), none] [.int 0, .ref o] h9 E := by
    intro E h9 ⟨hA1, hp, e9, dj⟩
    subst e9
    rcases hcd E hA1 hp with rfl
    · refine w_catch C [] ⟨0, 9, 12, 25⟩ [] (ht.trans rfl) (fun z hz => (absurd hz List.not_mem_nil)) (by decide) (by decide) gw_615 (List.mem_of_getElem? (i := 390) (by decide +kernel)) (fun q => ?_)
      refine w_astore_3 C dL_wouldHold_12 (by first | trivial | rfl) ?_
      refine w_iconst (v := 1) C dL_wouldHold_13 (by rfl) ?_
      refine w_iret C M dL_wouldHold_14 ⟨by decide, by decide⟩ ⟨_, rfl, ?_⟩
      exact Or.inr ⟨_, hA1, hp, by simp, dj, rfl⟩
  first | refine w_aload_n C dL_wouldHold_0 (by rfl) ?_ | refine w_aload_nN C dL_wouldHold_0 (by rfl) ?_
  refine w_iconst (v := 0) C dL_wouldHold_1 (by rfl) ?_
  first | refine w_aload_n C dL_wouldHold_2 (by rfl) ?_ | refine w_aload_nN C dL_wouldHold_2 (by rfl) ?_
  refine w_iload_n C dL_wouldHold_3 (by rfl) ?_
  refine cx_L_97 C ((CTX.frameI hdj hM)) (hj_l hy0) (by rfl) (by rfl) ⟨by decide, by decide⟩ (by rfl) dL_wouldHold_4 (fun v9 h1 p1 => ?_) (fun E hx px => kx9 E hx px)
  obtain ⟨hA1, hp, rfl, dj⟩ := p1
  refine w_i2l C dL_wouldHold_7 ?_
  refine w_lastn (j := 0) C (hj_r ho (dj _ _ ho)) (by decide) (by decide) dL_wouldHold_8 (fun h9 u9 => ?_)
  refine w_goto (tgt := 15) C dL_wouldHold_9 (by rfl) ?_
  refine w_iconst (v := 0) C dL_wouldHold_15 (by rfl) ?_
  refine w_iret C M dL_wouldHold_16 ⟨by decide, by decide⟩ ⟨_, rfl, ?_⟩
  exact Or.inl ⟨rfl, _, hA1, hp, dj, by rw [u9, hj_hu (dj _ _ ho)]⟩
