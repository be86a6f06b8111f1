/-! ROWS FOR LISTS: what stands fast of them, stores of any object, copies -/
section LSR
variable {K : KC} {n : Nat × Nat} {pc : Nat} {lv lv' : List (Option Value)} {st st0 : List Value} {h : HM} {own : String} {cc : ByteArray} {nL : Nat} {R : Room}
theorem sw_list (C : CX K own cc nL R) : va_Z "java/util/ArrayList" "DEFAULTCAPACITY_EMPTY_ELEMENTDATA" "[Ljava/lang/Object;" (.ref (Kt K 13)) (KA K) (Ks K) (Ks K).heap ∧ va_T (.object "java/lang/Object") (Kt K 13) 0 (fun _ => .null) (KA K) (Ks K) (Ks K).heap ∧ va_O "[Ljava/lang/Object;" (Kt K 13) (KA K) (Ks K) (Ks K).heap := (cx_sw C).2.2.2.1
theorem sw_cast (C : CX K own cc nL R) : ∀ C T : String, Cond.castable C T ∈ lw_tbl → va_Nw (.castable C T) (Ks K) := (cx_sw C).2.2.2.2.2.2.2.2.1
theorem sw_hasN (C : CX K own cc nL R) : va_Fw "java/util/ArrayList$Itr" ⟨"java/util/Iterator", "hasNext", "()Z"⟩ yJx35411_hasNext_aae02 (Ks K) := (cx_sw C).2.2.2.2.2.2.2.2.2.2.2.2.1
theorem sw_next (C : CX K own cc nL R) : va_Fw "java/util/ArrayList$Itr" ⟨"java/util/Iterator", "next", "()Ljava/lang/Object;"⟩ yJx35411_next_0502b (Ks K) := (cx_sw C).2.2.2.2.2.2.2.2.2.2.2.2.2.1
theorem sw_toA (C : CX K own cc nL R) : va_Fw "java/util/ArrayList" ⟨"java/util/Collection", "toArray", "()[Ljava/lang/Object;"⟩ yJx4a65c_toArray_d5877 (Ks K) := (cx_sw C).2.2.2.2.2.2.2.2.2.2.2.2.2.2.1
theorem sw_mi (C : CX K own cc nL R) : va_Mi "[Ljava/lang/Object;" (Kt K 14) (Ks K) := (cx_sw C).2.2.2.2.2.2.2.2.2.2.2.2.2.2.2.1
theorem sw_decl (C : CX K own cc nL R) : ∀ y : MethodName, Cond.declares y ∈ lw_tbl → va_Nw (.declares y) (Ks K) := (cx_sw C).2.2.2.2.2.2.2.2.2.2.2.2.2.2.2.2.2.2.2.2.2.2.2
theorem any_o (C : CX K own cc nL R) {a ci : Nat} {fs : List Value} {r : vw_C} (ha : h a = some (.inr (ci, fs))) (hcl : vwCl[ci]? = some r) (w : Cond.castable r.1 "java/lang/Object" ∈ lw_tbl) {H : Heap} (hP : PW (KD K) (KA K) h H) : va_Any "java/lang/Object" (Ks K) H a := by
  obtain ⟨cell, h1, h2, h3⟩ := h_recv C hP ha hcl
  obtain ⟨kC, hkC, -⟩ := Vm.findClass_spec h3
  obtain ⟨c0, t1, f1, f2, f3⟩ := Cond.castable_spec (va_Nw.use (A := Kar K) rfl (sw_cast C _ _ w))
  cases h3.symm.trans f1
  exact ⟨cell, h1, h2, ⟨kC, hkC⟩, fun comp hc => by cases hc.symm.trans f2; exact f3⟩
theorem any_i (C : CX K own cc nL R) {a m : Nat} {f : Nat → Int32} (ha : h a = some (.inl (Kt K 0, m, .inl f))) {H : Heap} (hP : PW (KD K) (KA K) h H) : va_Any "java/lang/Object" (Ks K) H a := by
  obtain ⟨ws, k9, e1, p1, p2, -⟩ := hP.cel1 ha
  have h3 : (Ks K).vm.findClass "[I" = some (Kt K 0) := (C.2.2.2.2.2.1.2 0 _ rfl).2
  obtain ⟨kC, hkC, -⟩ := Vm.findClass_spec h3
  obtain ⟨c0, t1, f1, f2, f3⟩ := Cond.castable_spec (va_Nw.use (A := Kar K) rfl (sw_cast C "[I" "java/lang/Object" gt_1638))
  cases h3.symm.trans f1
  exact ⟨_, p1 k9 _ e1, rfl, ⟨kC, hkC⟩, fun comp hc => by cases hc.symm.trans f2; exact f3⟩
/-- what a list holds: rows of ints, pots -/
def okE (tc : Nat → ClassId) (h : HM) (e : Nat) : Prop := (∃ m f, h e = some (.inl (tc 0, m, .inl f))) ∨ ∃ fs, h e = some (.inr (11, fs))
theorem okE.any (C : CX K own cc nL R) {e : Nat} (q : okE (Kt K) h e) {H : Heap} (hP : PW (KD K) (KA K) h H) : va_Any "java/lang/Object" (Ks K) H e := by
  rcases q with ⟨m, f, q⟩ | ⟨fs, q⟩
  · exact any_i C q hP
  · exact any_o C q (r := (RX9, TX9, 12)) rfl gt_1623 hP
theorem okE.up {tc : Nat → ClassId} {h' : HM} {e a : Nat} {x e0 : va_E} (q : okE tc h e) (u : Up h a x h') (ha : h a = some e0) (n1 : ∀ m f, .inl (tc 0, m, .inl f) ≠ e0) (n2 : ∀ fs, .inr (11, fs) ≠ e0) : okE tc h' e := by
  rcases q with ⟨m, f, q⟩ | ⟨fs, q⟩
  · exact Or.inl ⟨m, f, u.oth q ha (n1 m f)⟩
  · exact Or.inr ⟨fs, u.oth q ha (n2 fs)⟩
theorem okE.new {tc : Nat → ClassId} {h' : HM} {e a : Nat} {x : va_E} (q : okE tc h e) (u : Up h a x h') (ha : h a = none) : okE tc h' e := by
  rcases q with ⟨m, f, q⟩ | ⟨fs, q⟩
  · exact Or.inl ⟨m, f, u.new q ha⟩
  · exact Or.inr ⟨fs, u.new q ha⟩
theorem w_aastM (C : CX K own cc nL R) {a m v j : Nat} {f : Nat → Option Nat} (ha : h a = some (qCell (Kt K 8) m f)) (hv : okE (Kt K) h v) (hj : j < m) (hm : m < 2 ^ 31) (hd : decode cc pc = .ok (.aastore, 1)) (k : ∀ h', Up h a (qCell (Kt K 8) m (va_up f j (some v))) h' → WW K n (pc + 1) lv st h') : WW K n pc lv (.ref v :: .int (nI j) :: .ref a :: st) h := by
  intro H locs ls hP hS hl
  obtain ⟨ws, k9, e1, p1, p2, p3⟩ := hP.cel1 ha
  refine va_astqM C.1 C.2.1 C.2.2.2.2.2.1 p1 p2 hS k9 8 e1 rfl (hv.any C hP) (vin hj hm) hd (fun H1 locs1 q1 q2 q3 => ?_)
  rw [nI_clamp (by omega)] at q1 q2
  exact k _ rfl H1 locs1 ls (p3 _ _ q1 q2) q3 hl
theorem w_aastZ (C : CX K own cc nL R) {a m j : Nat} {f : Nat → Option Nat} (ha : h a = some (qCell (Kt K 8) m f)) (hj : j < m) (hm : m < 2 ^ 31) (hd : decode cc pc = .ok (.aastore, 1)) (k : ∀ h', Up h a (qCell (Kt K 8) m (va_up f j none)) h' → WW K n (pc + 1) lv st h') : WW K n pc lv (.null :: .int (nI j) :: .ref a :: st) h := by
  intro H locs ls hP hS hl
  obtain ⟨ws, k9, e1, p1, p2, p3⟩ := hP.cel1 ha
  refine va_astqN C.1 C.2.1 C.2.2.2.2.2.1 p1 p2 hS k9 8 e1 rfl (vin hj hm) hd (fun H1 locs1 q1 q2 q3 => ?_)
  rw [nI_clamp (by omega)] at q1 q2
  exact k _ rfl H1 locs1 ls (p3 _ _ q1 q2) q3 hl
theorem nfw_ac : nativeFrameWords "java/lang/System" "arraycopy" 5 ≤ 9 := by decide +kernel
theorem z0c : (0 : Int32).toNatClampNeg = 0 := by decide
theorem w_copyq (C : CX K own cc nL R) {a0 a idx n0 n1 cnt : Nat} {f g : Nat → Option Nat} (ha0 : h a0 = some (qCell (Kt K 8) n0 f)) (ha1 : h a = some (qCell (Kt K 8) n1 g)) (h4 : cnt ≤ n0) (h5 : cnt ≤ n1) (hm : cnt < 2 ^ 31) (hel : ∀ i, i < cnt → ∀ y, f i = some y → okE (Kt K) h y)
    (w1 : Cond.methodLink own idx arraycopyName ∈ lw_G) (hnl : lv.length = nL) (hR : Nat.ble 1 R.frames = true) (hR2 : Nat.ble ((st.map fun v => v.category).sum + 20) R.locals = true) (hd : decode cc pc = .ok (.invokestatic idx, 3)) (k : ∀ h', Up h a (qCell (Kt K 8) n1 (va_cpy f g 0 0 cnt)) h' → WW K n (pc + 3) lv st h') : WW K n pc lv (.int (nI cnt) :: .int 0 :: .ref a :: .int 0 :: .ref a0 :: st) h := by
  intro H locs ls hP hS hl
  have hR9 := C.2.2.2.2.2.2.2.1
  obtain ⟨ws, k9, j9, e1, e2, p1, p2, p3⟩ := hP.cel2 ha1 ha0
  have zc := nI_clamp hm
  refine va_copyM C.1 C.2.1 (C.2.2.1.trans (hl.1.trans hnl).symm) C.2.2.2.1 (cx_w C w1) (cx_w C gw_1136) (cx_w C gw_1135) (cx_w C gw_68) C.2.2.2.2.2.1 p1 p2 hS j9 k9 8 8 e2 e1 rfl rfl (by decide) (by decide) (nI_pos hm) (by rw [z0c, zc]; omega) (by rw [z0c, zc]; omega) (fun i hi y hy => (hel i (by rw [zc] at hi; exact hi) y (by rw [z0c, Nat.zero_add] at hy; exact hy)).any C hP) (by rw [hR9]; exact Nat.ble_eq.mp hR) (by rw [hR9]; have := nfw_ac; have := Nat.ble_eq.mp hR2; omega) hd (fun H1 locs1 q1 q2 q3 => ?_)
  rw [z0c, zc] at q1 q2
  exact k _ rfl H1 locs1 ls (p3 _ _ q1 q2) q3 hl
theorem w_copyg (C : CX K own cc nL R) {a idx n1 : Nat} {g : Nat → Option Nat} (ha1 : h a = some (qCell (Kt K 8) n1 g))
    (w1 : Cond.methodLink own idx arraycopyName ∈ lw_G) (hnl : lv.length = nL) (hR : Nat.ble 1 R.frames = true) (hR2 : Nat.ble ((st.map fun v => v.category).sum + 20) R.locals = true) (hd : decode cc pc = .ok (.invokestatic idx, 3)) (k : ∀ h', Up h a (qCell (Kt K 8) n1 (va_cpy (fun _ => none) g 0 0 0)) h' → WW K n (pc + 3) lv st h') : WW K n pc lv (.int 0 :: .int 0 :: .ref a :: .int 0 :: .ref (Kt K 13) :: st) h := by
  intro H locs ls hP hS hl
  have hR9 := C.2.2.2.2.2.2.2.1
  obtain ⟨ws, k9, e1, p1, p2, p3⟩ := hP.cel1 ha1
  refine va_copyg C.1 C.2.1 (C.2.2.1.trans (hl.1.trans hnl).symm) C.2.2.2.1 (cx_w C w1) (cx_w C gw_1136) (cx_w C gw_1135) (cx_w C gw_68) C.2.2.2.2.2.1 p1 p2 hS k9 8 (sw_list C).2.1 e1 rfl (by decide) (by decide) (by decide) (by rw [z0c]; omega) (by rw [z0c]; omega) (by rw [hR9]; exact Nat.ble_eq.mp hR) (by rw [hR9]; have := nfw_ac; have := Nat.ble_eq.mp hR2; omega) hd (fun H1 locs1 q1 q2 q3 => ?_)
  rw [z0c] at q1 q2
  exact k _ rfl H1 locs1 ls (p3 _ _ q1 q2) q3 hl
theorem w_copyd (C : CX K own cc nL R) {a0 a idx n0 n1 cnt : Nat} {f g : Nat → UInt64} (ha0 : h a0 = some (.inl (Kt K 2, n0, .inr (.inr (.inr (.inl f)))))) (ha1 : h a = some (.inl (Kt K 2, n1, .inr (.inr (.inr (.inl g)))))) (h4 : cnt ≤ n0) (h5 : cnt ≤ n1) (hm : cnt < 2 ^ 31)
    (w1 : Cond.methodLink own idx arraycopyName ∈ lw_G) (hnl : lv.length = nL) (hR : Nat.ble 1 R.frames = true) (hR2 : Nat.ble ((st.map fun v => v.category).sum + 20) R.locals = true) (hd : decode cc pc = .ok (.invokestatic idx, 3)) (k : ∀ h', Up h a (.inl (Kt K 2, n1, .inr (.inr (.inr (.inl (va_cpy f g 0 0 cnt)))))) h' → WW K n (pc + 3) lv st h') : WW K n pc lv (.int (nI cnt) :: .int 0 :: .ref a :: .int 0 :: .ref a0 :: st) h := by
  intro H locs ls hP hS hl
  have hR9 := C.2.2.2.2.2.2.2.1
  obtain ⟨ws, k9, j9, e1, e2, p1, p2, p3⟩ := hP.cel2 ha1 ha0
  have zc := nI_clamp hm
  refine va_copyd C.1 C.2.1 (C.2.2.1.trans (hl.1.trans hnl).symm) C.2.2.2.1 (cx_w C w1) (cx_w C gw_1136) (cx_w C gw_1135) (cx_w C gw_68) C.2.2.2.2.2.1 p1 p2 hS j9 k9 2 2 e2 e1 rfl rfl rfl (by decide) (by decide) (nI_pos hm) (by rw [z0c, zc]; omega) (by rw [z0c, zc]; omega) (fun i hi => rfl) (by rw [hR9]; exact Nat.ble_eq.mp hR) (by rw [hR9]; have := nfw_ac; have := Nat.ble_eq.mp hR2; omega) hd (fun H1 locs1 q1 q2 q3 => ?_)
  rw [z0c, zc] at q1 q2
  exact k _ rfl H1 locs1 ls (p3 _ _ q1 q2) q3 hl
theorem w_getC (C : CX K own cc nL R) {a idx m : Nat} {f : Nat → Option Nat} (ha : h a = some (qCell (Kt K 8) m f)) (w1 : Cond.methodLink own idx ⟨"java/lang/Object", "getClass", "()Ljava/lang/Class;"⟩ ∈ lw_G) (hnl : lv.length = nL) (hR : Nat.ble 1 R.frames = true) (hR2 : Nat.ble ((st.map fun v => v.category).sum + 14) R.locals = true) (hd : decode cc pc = .ok (.invokevirtual idx, 3)) (k : WW K n (pc + 3) lv (.ref (Kt K 14) :: st) h) : WW K n pc lv (.ref a :: st) h := by
  intro H locs ls hP hS hl
  have hR9 := C.2.2.2.2.2.2.2.1
  obtain ⟨ws, k9, e1, p1, p2, -⟩ := hP.cel1 ha
  exact va_getC C.1 C.2.1 (C.2.2.1.trans (hl.1.trans hnl).symm) C.2.2.2.1 (cx_w C w1) (va_Nw.use rfl (sw_decl C _ gt_1629)) (cx_w C gw_1628) (cx_w C gw_1108) (cx_w C gw_1126) (sw_mi C) ⟨_, p1 k9 _ e1, rfl, va_nmO (C.2.2.2.2.2.1.2 8 _ rfl).2 rfl⟩ (by rw [hR9]; exact Nat.ble_eq.mp hR) (by rw [hR9]; exact Nat.ble_eq.mp hR2) hd (k H locs ls hP hS hl)
theorem w_getCs (C : CX K own cc nL R) {idx : Nat} (w1 : Cond.methodLink own idx ⟨"java/lang/Object", "getClass", "()Ljava/lang/Class;"⟩ ∈ lw_G) (hnl : lv.length = nL) (hR : Nat.ble 1 R.frames = true) (hR2 : Nat.ble ((st.map fun v => v.category).sum + 14) R.locals = true) (hd : decode cc pc = .ok (.invokevirtual idx, 3)) (k : WW K n (pc + 3) lv (.ref (Kt K 14) :: st) h) : WW K n pc lv (.ref (Kt K 13) :: st) h := by
  intro H locs ls hP hS hl
  have hR9 := C.2.2.2.2.2.2.2.1
  exact va_getC C.1 C.2.1 (C.2.2.1.trans (hl.1.trans hnl).symm) C.2.2.2.1 (cx_w C w1) (va_Nw.use rfl (sw_decl C _ gt_1629)) (cx_w C gw_1628) (cx_w C gw_1108) (cx_w C gw_1126) (sw_mi C) (va_Orecv (sw_list C).2.2 hS) (by rw [hR9]; exact Nat.ble_eq.mp hR) (by rw [hR9]; exact Nat.ble_eq.mp hR2) hd (k H locs ls hP hS hl)
theorem w_ldcM (C : CX K own cc nL R) {idx : Nat} (w1 : Cond.classLink own idx "[Ljava/lang/Object;" ∈ lw_G) (hd : decode cc pc = .ok (.ldc idx, 2)) (k : WW K n (pc + 2) lv (.ref (Kt K 14) :: st) h) : WW K n pc lv st h :=
  fun H locs ls hP hS hl => va_ldcM C.1 C.2.1 C.2.2.2.1 (cx_w C w1) (sw_mi C) hd (k H locs ls hP hS hl)
end LSR
