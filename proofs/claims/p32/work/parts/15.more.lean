section WWM
variable {K : KC} {n : Nat × Nat} {pc : Nat} {lv lv' : List (Option Value)} {st st0 : List Value} {h : HM} {own : String} {cc : ByteArray} {nL : Nat} {R : Room}
theorem cx_sw (C : CX K own cc nL R) : SW (Kt K) (KA K) (Ks K) (Ks K).heap := C.2.2.2.2.2.2.2.2.1
theorem cx_w (C : CX K own cc nL R) {w : Cond} (hw : w ∈ lw_G) : w.before (Kar K) (Ks K) = true := C.2.2.2.2.1 _ hw
theorem w_gets (C : CX K own cc nL R) {Cn nm d : String} {v : Value} {idx : Nat} (hZ : va_Z Cn nm d v (KA K) (Ks K) (Ks K).heap) (hw : Cond.fieldLink own idx Cn nm d ∈ lw_G) (hd : decode cc pc = .ok (.getstatic idx, 3)) (k : WW K n (pc + 3) lv (v :: st) h) : WW K n pc lv st h :=
  fun H locs ls hP hS hl => va_gets C.1 C.2.1 hZ hS C.2.2.2.1 (cx_w C hw) (fun z hz => hz) hd (k H locs ls hP hS hl)
theorem w_getsN (C : CX K own cc nL R) {Cn nm d host : String} {v : Value} {idx : Nat} (hZ : va_Z Cn nm d v (KA K) (Ks K) (Ks K).heap) (hw : Cond.fieldLinkNest own idx Cn nm d host ∈ lw_tbl) (hd : decode cc pc = .ok (.getstatic idx, 3)) (k : WW K n (pc + 3) lv (v :: st) h) : WW K n pc lv st h :=
  fun H locs ls hP hS hl => va_getsN C.1 C.2.1 hZ hS C.2.2.2.1 (va_Nw.use rfl ((cx_sw C).fn _ _ _ _ _ _ hw)) (fun z hz => hz) hd (k H locs ls hP hS hl)
theorem w_tlen (C : CX K own cc nL R) {ty : FieldType} {t N : Nat} {f : Nat → Value} (hT : va_T ty t N f (KA K) (Ks K) (Ks K).heap) (hd : decode cc pc = .ok (.arraylength, 1)) (k : WW K n (pc + 1) lv (.int (nI N) :: st) h) : WW K n pc lv (.ref t :: st) h :=
  fun H locs ls hP hS hl => va_tlen C.1 C.2.1 hT hS rfl hd (k H locs ls hP hS hl)
theorem w_tiald (C : CX K own cc nL R) {t N : Nat} {f : Nat → Value} (hT : va_T .int t N f (KA K) (Ks K) (Ks K).heap) {i : Int32} (hi : vp_in i N) (hd : decode cc pc = .ok (.iaload, 1)) (k : WW K n (pc + 1) lv (f i.toNatClampNeg :: st) h) : WW K n pc lv (.int i :: .ref t :: st) h :=
  fun H locs ls hP hS hl => va_ti C.1 C.2.1 hT hS hi rfl hd (k H locs ls hP hS hl)
theorem w_tdald (C : CX K own cc nL R) {t N : Nat} {f : Nat → Value} (hT : va_T .double t N f (KA K) (Ks K) (Ks K).heap) {i : Int32} (hi : vp_in i N) (hd : decode cc pc = .ok (.daload, 1)) (k : WW K n (pc + 1) lv (f i.toNatClampNeg :: st) h) : WW K n pc lv (.int i :: .ref t :: st) h := by
  intro H locs ls hP hS hl
  obtain ⟨cell, hc, hof, hkn, hle, hsz, hv9, hA9⟩ := hT
  have hlt : t < (Ks K).heap.size := (Array.getElem?_eq_some_iff.mp hc).1
  refine W.dald C.1 C.2.1 (a := t) (by rw [hS.2.1 t hlt hA9]; exact hc) hof hkn ?_ (hv9 _ ?_) (g := F0 (Km K) pc ls (.int i :: .ref t :: st)) rfl rfl hd (k H locs ls hP hS hl)
  · have := vp_in_iff.mp hi
    exact vp_in_iff.mpr ⟨this.1, by omega⟩
  · have := vp_in_iff.mp hi
    have h9 := this.1
    rw [Int32.toNatClampNeg]
    omega
theorem w_obji (C : CX K own cc nL R) {a idx : Nat} (w1 : Cond.methodLink own idx Lib.objectInit ∈ lw_G) (w2 : Cond.instanceMethod Lib.objectInit ∈ lw_G) (w3 : Cond.code Lib.objectInit ⟨#[0xb1]⟩ 1 none ∈ lw_G) (hnl : lv.length = nL) (hR : Nat.ble 1 R.frames = true) (hR2 : Nat.ble ((st.map fun v => v.category).sum + 12) R.locals = true) (hd : decode cc pc = .ok (.invokespecial idx, 3)) (k : WW K n (pc + 3) lv st h) : WW K n pc lv (.ref a :: st) h := by
  intro H locs ls hP hS hl
  have hR9 := C.2.2.2.2.2.2.2.1
  refine W.objInit C.1 C.2.1 C.2.2.2.1 (cx_w C w1) (cx_w C w2) (cx_w C w3) rfl (by rw [C.2.2.1]; exact hl.1.trans hnl) rfl hd (by rw [hR9]; exact Nat.ble_eq.mp hR) (by rw [hR9]; have := Nat.ble_eq.mp hR2; simpa using this) (k H locs ls hP hS hl)
/-- the number of a row's kind is the one of the tables -/
theorem kt_of {tys : List (ClassId × FieldType)} {cA : ClassId} {ty : FieldType} {D : va_G} {tc : Nat → ClassId} {s : State} (hK : KW D tc s) (t0 : Nat) (ht : ∃ cB, (tysK tc)[t0]? = some (cB, ty)) (h2 : va_K D vwCl (tysK tc ++ [(cA, ty)]) s) : (tysK tc)[t0]? = some (cA, ty) := by
  obtain ⟨cB, hB⟩ := ht
  have r1 := (hK.2 t0 _ hB).2
  have r2 := (h2.2 (tysK tc).length (cA, ty) (by simp)).2
  have key : cA = cB := by
    cases ty with
    | object C =>
      obtain ⟨-, -, -, -, -, e1⟩ := r1
      obtain ⟨-, -, -, -, -, e2⟩ := r2
      exact Option.some.inj (e2.symm.trans e1)
    | _ => exact Option.some.inj ((show s.vm.findClass _ = some cA from r2).symm.trans (show s.vm.findClass _ = some cB from r1))
  rw [key]
  exact hB
theorem w_newai (C : CX K own cc nL R) {m : Int32} {N : Nat} (w1 : Cond.arrayClass .int ∈ lw_G) (hm : ¬ m < 0) (hN : m.toNatClampNeg = N) (hb : N * 4 ≤ 536870912) (h1 : n.1 + 1 ≤ R.cells) (h2 : n.2 + N ≤ R.slots) (hd : decode cc pc = .ok (.newarray .int, 2))
    (k : ∀ q : Nat, h q = none → WW K (n.1 + 1, n.2 + N) (pc + 2) lv (.ref q :: st) (hu h q (.inl (Kt K 0, N, .inl (fun _ => 0))))) : WW K n pc lv (.int m :: st) h := by
  intro H locs ls hP hS hl
  obtain ⟨ws, p1, p2, p3⟩ := hP.celn
  have hR9 := C.2.2.2.2.2.2.2.1
  refine va_newa (atype := .int) (ty := .int) (a0 := (N, .inl (fun _ => 0))) C.1 C.2.1 (cx_w C w1) rfl C.2.2.2.2.2.1 p1 p2 hS C.2.2.2.2.2.2.1 (fun cA => rfl) hm hN hb (by rw [hR9]; exact h1) (by rw [hR9]; exact h2) hd (fun q cA H1 k1 q1 q2 q3 => ?_)
  have e := kt_of (tys := []) C.2.2.2.2.2.1 0 ⟨_, rfl⟩ k1
  cases e
  exact k q (p3 q _ _ q1 q2).1 H1 locs ls (p3 q _ _ q1 q2).2 q3 hl
theorem w_newaz (C : CX K own cc nL R) {m : Int32} {N : Nat} (w1 : Cond.arrayClass .boolean ∈ lw_G) (hm : ¬ m < 0) (hN : m.toNatClampNeg = N) (hb : N * 1 ≤ 536870912) (h1 : n.1 + 1 ≤ R.cells) (h2 : n.2 + N ≤ R.slots) (hd : decode cc pc = .ok (.newarray .boolean, 2))
    (k : ∀ q : Nat, h q = none → WW K (n.1 + 1, n.2 + N) (pc + 2) lv (.ref q :: st) (hu h q (.inl (Kt K 1, N, .inl (fun _ => 0))))) : WW K n pc lv (.int m :: st) h := by
  intro H locs ls hP hS hl
  obtain ⟨ws, p1, p2, p3⟩ := hP.celn
  have hR9 := C.2.2.2.2.2.2.2.1
  refine va_newa (atype := .boolean) (ty := .boolean) (a0 := (N, .inl (fun _ => 0))) C.1 C.2.1 (cx_w C w1) rfl C.2.2.2.2.2.1 p1 p2 hS C.2.2.2.2.2.2.1 (fun cA => rfl) hm hN hb (by rw [hR9]; exact h1) (by rw [hR9]; exact h2) hd (fun q cA H1 k1 q1 q2 q3 => ?_)
  have e := kt_of (tys := []) C.2.2.2.2.2.1 1 ⟨_, rfl⟩ k1
  cases e
  exact k q (p3 q _ _ q1 q2).1 H1 locs ls (p3 q _ _ q1 q2).2 q3 hl
theorem w_newad (C : CX K own cc nL R) {m : Int32} {N : Nat} (w1 : Cond.arrayClass .double ∈ lw_G) (hm : ¬ m < 0) (hN : m.toNatClampNeg = N) (hb : N * 8 ≤ 536870912) (h1 : n.1 + 1 ≤ R.cells) (h2 : n.2 + N ≤ R.slots) (hd : decode cc pc = .ok (.newarray .double, 2))
    (k : ∀ q : Nat, h q = none → WW K (n.1 + 1, n.2 + N) (pc + 2) lv (.ref q :: st) (hu h q (.inl (Kt K 2, N, .inr (.inr (.inr (.inl (fun _ => 0)))))))) : WW K n pc lv (.int m :: st) h := by
  intro H locs ls hP hS hl
  obtain ⟨ws, p1, p2, p3⟩ := hP.celn
  have hR9 := C.2.2.2.2.2.2.2.1
  refine va_newa (atype := .double) (ty := .double) (a0 := (N, .inr (.inr (.inr (.inl (fun _ => 0)))))) C.1 C.2.1 (cx_w C w1) rfl C.2.2.2.2.2.1 p1 p2 hS C.2.2.2.2.2.2.1 (fun cA => rfl) hm hN hb (by rw [hR9]; exact h1) (by rw [hR9]; exact h2) hd (fun q cA H1 k1 q1 q2 q3 => ?_)
  have e := kt_of (tys := []) C.2.2.2.2.2.1 2 ⟨_, rfl⟩ k1
  cases e
  exact k q (p3 q _ _ q1 q2).1 H1 locs ls (p3 q _ _ q1 q2).2 q3 hl
theorem w_anewa (C : CX K own cc nL R) {m : Int32} {N idx : Nat} {E : String} (t0 : Nat) {cA : ClassId} (ht : (tysK (Kt K))[t0]? = some (cA, .object E)) (hE : va_AO E (Ks K)) (w1 : Cond.classLink own idx E ∈ lw_G) (hm : ¬ m < 0) (hN : m.toNatClampNeg = N) (hb : N * 4 ≤ 536870912) (h1 : n.1 + 1 ≤ R.cells) (h2 : n.2 + N ≤ R.slots) (hd : decode cc pc = .ok (.anewarray idx, 3))
    (k : ∀ q : Nat, h q = none → WW K (n.1 + 1, n.2 + N) (pc + 3) lv (.ref q :: st) (hu h q (.inl (cA, N, .inr (.inr (.inr (.inr (fun _ => none)))))))) : WW K n pc lv (.int m :: st) h := by
  intro H locs ls hP hS hl
  obtain ⟨ws, p1, p2, p3⟩ := hP.celn
  have hR9 := C.2.2.2.2.2.2.2.1
  refine va_newq C.1 C.2.1 C.2.2.2.1 (cx_w C w1) hE C.2.2.2.2.2.1 p1 p2 hS C.2.2.2.2.2.2.1 hm hN hb (by rw [hR9]; exact h1) (by rw [hR9]; exact h2) hd (fun q cB H1 k1 q1 q2 q3 => ?_)
  have e := kt_of (tys := []) C.2.2.2.2.2.1 t0 ⟨_, ht⟩ k1
  rw [ht] at e
  cases e
  exact k q (p3 q _ _ q1 q2).1 H1 locs ls (p3 q _ _ q1 q2).2 q3 hl
theorem w_castY (C : CX K own cc nL R) {a ci idx : Nat} {fs : List Value} {r : vw_C} {nm : String} (ha : h a = some (.inr (ci, fs))) (hcl : vwCl[ci]? = some r) (w1 : Cond.classLink own idx nm ∈ lw_G) (w2 : Cond.castable r.1 nm ∈ lw_tbl) (hd : decode cc pc = .ok (.checkcast idx, 3)) (k : WW K n (pc + 3) lv (.ref a :: st) h) : WW K n pc lv (.ref a :: st) h :=
  fun H locs ls hP hS hl => va_castY C.1 C.2.1 C.2.2.2.1 (cx_w C w1) ((cx_sw C).ca _ _ w2) (h_recv C hP ha hcl) hd (k H locs ls hP hS hl)
theorem w_acmp_eq (C : CX K own cc nL R) {rx ry : Option Nat} {off : Int} {tgt : Nat} (hd : decode cc pc = .ok (.if_acmp .eq off, 3)) (ht : (pc : Int) + off = (tgt : Int)) (kt : rx = ry → WW K n tgt lv st h) (kf : ¬ rx = ry → WW K n (pc + 3) lv st h) : WW K n pc lv (va_rf ry :: va_rf rx :: st) h :=
  fun H locs ls hP hS hl => lv_acmp_eq C.1 C.2.1 hd ht (fun z => kt z H locs ls hP hS hl) (fun z => kf z H locs ls hP hS hl)
theorem w_acmp_ne (C : CX K own cc nL R) {rx ry : Option Nat} {off : Int} {tgt : Nat} (hd : decode cc pc = .ok (.if_acmp .ne off, 3)) (ht : (pc : Int) + off = (tgt : Int)) (kt : ¬ rx = ry → WW K n tgt lv st h) (kf : rx = ry → WW K n (pc + 3) lv st h) : WW K n pc lv (va_rf ry :: va_rf rx :: st) h :=
  fun H locs ls hP hS hl => lv_acmp_ne C.1 C.2.1 hd ht (fun z => kt z H locs ls hP hS hl) (fun z => kf z H locs ls hP hS hl)
/-- new E("text") thrown, which leaves the method -/
def okT (own : String) (ic : Nat) (cls : String) : Bool := (vx_atS own ic cls ["java/lang/RuntimeException", "java/lang/Exception"]).all (fun w => decide (w ∈ lw_tbl) && (goodWord w || match w with | .castable _ _ => true | .declares _ => true | _ => false))
theorem w_throw {h0 : HM} {post9 : Option Value → HM → Prop} {px9 : String → HM → Prop} {rm : Room} (C : CX K own cc nL R) (X : MXX K rm h0 post9 px9) {cls text : String} {ik is ic : Nat} (hcls : Bundle.fit cls = true)
    (w1 : Cond.classLink own ik cls ∈ lw_G) (w2 : Cond.initialized cls ∈ lw_G) (w3 : Cond.stringRef own is text ∈ lw_tbl) (hat : ∀ w ∈ vx_atS own ic cls ["java/lang/RuntimeException", "java/lang/Exception"], w ∈ lw_G ∨ (∃ A B, w = .castable A B ∧ w ∈ lw_tbl) ∨ ∃ y, w = .declares y ∧ w ∈ lw_tbl) (hgood : ∀ w ∈ Cond.classLink own ik cls :: Cond.initialized cls :: vx_atS own ic cls ["java/lang/RuntimeException", "java/lang/Exception"], vx_ot w = true)
    (hnl : lv.length = nL) (hR : Nat.ble 6 R.frames = true) (hR2 : Nat.ble ((st.map fun v => v.category).sum + 82) R.locals = true) (h1 : n.1 + 1 ≤ R.cells) (h2 : n.2 + 6 ≤ R.slots) (h3 : n.1 + 1 ≤ rm.cells) (h4 : n.2 + 6 ≤ rm.slots) (hp : px9 cls h)
    (d0 : decode cc pc = .ok (.new ik, 3)) (d3 : decode cc (pc + 3) = .ok (.dup, 1)) (d4 : decode cc (pc + 4) = .ok (.ldc is, 2)) (d6 : decode cc (pc + 6) = .ok (.invokespecial ic, 3)) (d9 : decode cc (pc + 9) = .ok (.athrow, 1)) : WW K n pc lv st h := by
  intro H locs ls hP hS hl
  have hR9 := C.2.2.2.2.2.2.2.1
  obtain ⟨hA, hlk, ht, hQ⟩ := X
  have sw := cx_sw C
  obtain ⟨sa, hsa⟩ := sw.st _ _ _ w3
  rw [hQ]
  refine vx_throwS C.1 C.2.1 C.2.2.2.2.2.2.2.2.2 C.2.2.2.1 hcls (by decide) (cx_w C w1) (cx_w C w2) hsa (fun w hw => ?_) hgood sw.us sw.ss hS (hl.1.trans (hnl.trans C.2.2.1.symm)) d0 d3 d4 d6 d9 (fun z hz => (ht z hz).elim) (by rw [hR9]; exact Nat.lt_of_lt_of_le (by decide) (Nat.ble_eq.mp hR)) (by rw [hR9]; exact Nat.ble_eq.mp hR2) (by rw [hR9]; exact h1) (by rw [hR9]; exact h2) hlk ?_ (fun z hz => by rw [← hA]; exact hS.2.2 z hz) h3 h4
  · rcases hat w hw with hw | ⟨A, B, rfl, hw⟩ | ⟨y, rfl, hw⟩
    · exact cx_w C hw
    · exact va_Nw.use rfl (sw.ca A B hw)
    · exact va_Nw.use rfl (sw.de y hw)
  · intro t _ hz hk
    have key : PW (KD K) (KA K) h t.heap := by
      obtain ⟨L, f, p1, p2, p3⟩ := hP.weaken (B := fun q => (h q).isSome ∧ KA K q) (fun a e ha => ⟨by rw [ha]; rfl, hP.inA ha⟩)
      refine ⟨L, f, p1, va_P_mem.mpr (fun q hq => ?_), p3.weaken (fun _ _ _ z => z.2)⟩
      have h8 := va_P_mem.mp p2 q hq
      exact h8.kept (hk q.1 h8.lt)
    rw [hA] at key hS
    exact ⟨⟨h, hp, key⟩, Nat.le_trans hS.1 hz, fun q hq hn => by rw [hk q (Nat.lt_of_lt_of_le hq hS.1)]; exact hS.2.1 q hq hn⟩
theorem w_throwW {h0 : HM} {post9 : Option Value → HM → Prop} {px9 : String → HM → Prop} {rm : Room} (C : CX K own cc nL R) (X : MXX K rm h0 post9 px9) {cls text : String} {ik is ic : Nat} (hcls : Bundle.fit cls = true)
    (w1 : Cond.classLink own ik cls ∈ lw_G) (w2 : Cond.initialized cls ∈ lw_G) (w3 : Cond.stringRef own is text ∈ lw_tbl) (hat : ∀ w ∈ vx_atS own ic cls ["java/lang/RuntimeException", "java/lang/Exception"], w ∈ lw_G ∨ (∃ A B, w = .castable A B ∧ w ∈ lw_tbl) ∨ ∃ y, w = .declares y ∧ w ∈ lw_tbl) (hgood : ∀ w ∈ Cond.classLink own ik cls :: Cond.initialized cls :: vx_atS own ic cls ["java/lang/RuntimeException", "java/lang/Exception"], vx_ot w = true)
    (hnl : lv.length = nL) (hR : Nat.ble 6 R.frames = true) (hR2 : Nat.ble ((st.map fun v => v.category).sum + 82) R.locals = true) (h1 : n.1 + 1 ≤ R.cells) (h2 : n.2 + 6 ≤ R.slots) (h3 : n.1 + 1 ≤ rm.cells) (h4 : n.2 + 6 ≤ rm.slots) (hp : px9 cls h)
    (d0 : decode cc pc = .ok (.new ik, 3)) (d3 : decode cc (pc + 3) = .ok (.dup, 1)) (d4 : decode cc (pc + 4) = .ok (.ldc_w is, 3)) (d6 : decode cc (pc + 7) = .ok (.invokespecial ic, 3)) (d9 : decode cc (pc + 10) = .ok (.athrow, 1)) : WW K n pc lv st h := by
  intro H locs ls hP hS hl
  have hR9 := C.2.2.2.2.2.2.2.1
  obtain ⟨hA, hlk, ht, hQ⟩ := X
  have sw := cx_sw C
  obtain ⟨sa, hsa⟩ := sw.st _ _ _ w3
  rw [hQ]
  refine vx_throwSW C.1 C.2.1 C.2.2.2.2.2.2.2.2.2 C.2.2.2.1 hcls (by decide) (cx_w C w1) (cx_w C w2) hsa (fun w hw => ?_) hgood sw.us sw.ss hS (hl.1.trans (hnl.trans C.2.2.1.symm)) d0 d3 d4 d6 d9 (fun z hz => (ht z hz).elim) (by rw [hR9]; exact Nat.lt_of_lt_of_le (by decide) (Nat.ble_eq.mp hR)) (by rw [hR9]; exact Nat.ble_eq.mp hR2) (by rw [hR9]; exact h1) (by rw [hR9]; exact h2) hlk ?_ (fun z hz => by rw [← hA]; exact hS.2.2 z hz) h3 h4
  · rcases hat w hw with hw | ⟨A, B, rfl, hw⟩ | ⟨y, rfl, hw⟩
    · exact cx_w C hw
    · exact va_Nw.use rfl (sw.ca A B hw)
    · exact va_Nw.use rfl (sw.de y hw)
  · intro t _ hz hk
    have key : PW (KD K) (KA K) h t.heap := by
      obtain ⟨L, f, p1, p2, p3⟩ := hP.weaken (B := fun q => (h q).isSome ∧ KA K q) (fun a e ha => ⟨by rw [ha]; rfl, hP.inA ha⟩)
      refine ⟨L, f, p1, va_P_mem.mpr (fun q hq => ?_), p3.weaken (fun _ _ _ z => z.2)⟩
      have h8 := va_P_mem.mp p2 q hq
      exact h8.kept (hk q.1 h8.lt)
    rw [hA] at key hS
    exact ⟨⟨h, hp, key⟩, Nat.le_trans hS.1 hz, fun q hq hn => by rw [hk q (Nat.lt_of_lt_of_le hq hS.1)]; exact hS.2.1 q hq hn⟩
variable {y : MethodName} {cc' : ByteArray} {nL' idx : Nat} {ret' : Option FieldType} {rm : Room} {As : List Value} {post : Option Value → HM → Prop} {px : String → HM → Prop}
theorem w_SN (C : CX K own cc nL R) {host : String} (hM : CT (Kl K) (KD K) (Kt K) y cc' nL' ret' rm As h post) (w1 : Cond.methodLinkNest own idx y host ∈ lw_tbl) (w2 : Cond.static y ∈ lw_G) (w3 : Cond.initialized y.cls ∈ lw_G) (w4 : Cond.code y cc' nL' ret' ∈ lw_G)
    (hy : okY y As.length = true) (hR : okR rm R nL' = true) (hc : okS st = true) (hn : n.1 + rm.cells ≤ R.cells ∧ n.2 + rm.slots ≤ R.slots) (hnl : lv.length = nL) (hst : st0 = As.reverse ++ st) (hd : decode cc pc = .ok (.invokestatic idx, 3))
    (kk : ∀ (r : Option Value) (h' : HM), post r h' → WW K (n.1 + rm.cells, n.2 + rm.slots) (pc + 3) lv (r.toList ++ st) h') : WW K n pc lv st0 h := by
  intro H locs ls hP hS hl
  have hR9 := C.2.2.2.2.2.2.2.1
  refine w_run C hP hS hl (va_runSN (cx_fix C) (hM H.size) ⟨va_cnB As.length C.2.2.2.2.1 (goodIn_ws w4) rfl rfl rfl ((cx_sw C).mn _ _ _ _ w1) (cx_w C w3) (okY_spec hy) (by rw [hR9]; exact okR_spec hR), cx_w C w2, trivial⟩ ⟨PcH_blind _ _ _ _ _, cx_pre C hP hS As⟩ rfl rfl (hl.1.trans hnl) hst (lv_room (by simpa [okS] using hc)) hd (by rw [hR9]; exact hn)) kk
theorem w_IN (C : CX K own cc nL R) {b : Nat} {host : String} (hM : CT (Kl K) (KD K) (Kt K) y cc' nL' none rm (.ref b :: As) h post) (hin : y.name = "<init>") (w1 : Cond.methodLinkNest own idx y host ∈ lw_tbl) (w2 : Cond.instanceMethod y ∈ lw_G) (w3 : Cond.initialized y.cls ∈ lw_G) (w4 : Cond.code y cc' nL' none ∈ lw_G)
    (hy : okY y As.length = true) (hR : okR rm R nL' = true) (hc : okS st = true) (hn : n.1 + rm.cells ≤ R.cells ∧ n.2 + rm.slots ≤ R.slots) (hnl : lv.length = nL) (hst : st0 = As.reverse ++ .ref b :: st) (hd : decode cc pc = .ok (.invokespecial idx, 3))
    (kk : ∀ (r : Option Value) (h' : HM), post r h' → WW K (n.1 + rm.cells, n.2 + rm.slots) (pc + 3) lv (r.toList ++ st) h') : WW K n pc lv st0 h := by
  intro H locs ls hP hS hl
  have hR9 := C.2.2.2.2.2.2.2.1
  refine w_run C hP hS hl (va_runIN (cx_fix C) (hM H.size) ⟨va_cnB As.length C.2.2.2.2.1 (goodIn_ws w4) rfl rfl rfl ((cx_sw C).mn _ _ _ _ w1) (cx_w C w3) (okY_spec hy) (by rw [hR9]; exact okR_spec hR), hin, cx_w C w2⟩ ⟨PcH_blind _ _ _ _ _, cx_pre C hP hS (.ref b :: As)⟩ rfl rfl (hl.1.trans hnl) hst (lv_room (by simpa [okS] using hc)) hd (by rw [hR9]; exact hn)) kk
theorem w_F (C : CX K own cc nL R) {b ci cnt : Nat} {fs : List Value} {r : vw_C} {z : MethodName} (hM : CT (Kl K) (KD K) (Kt K) y cc' nL' ret' rm (.ref b :: As) h post) (hb : h b = some (.inr (ci, fs))) (hcl : vwCl[ci]? = some r) (hF : va_Fw r.1 z y (Ks K)) (w1 : Cond.methodLink own idx z ∈ lw_G) (w2 : Cond.instanceMethod y ∈ lw_G) (w3 : Cond.initialized y.cls ∈ lw_G) (w4 : Cond.code y cc' nL' ret' ∈ lw_G) (w5 : Cond.selects r.1 z y ∈ lw_G)
    (hy : okY z As.length = true) (hR : okR rm R nL' = true) (hc : okS st = true) (hn : n.1 + rm.cells ≤ R.cells ∧ n.2 + rm.slots ≤ R.slots) (hnl : lv.length = nL) (hst : st0 = As.reverse ++ .ref b :: st) (hd : decode cc pc = .ok (.invokeinterface idx cnt, 5))
    (kk : ∀ (r : Option Value) (h' : HM), post r h' → WW K (n.1 + rm.cells, n.2 + rm.slots) (pc + 5) lv (r.toList ++ st) h') : WW K n pc lv st0 h := by
  intro H locs ls hP hS hl
  have hR9 := C.2.2.2.2.2.2.2.1
  have hG : GoodIn lw_G (va_wsF own idx r.1 z y (lw_ws y cc' nL' ret')) := fun w hw => by
    rcases List.mem_append.mp hw with hw | hw
    · simp only [List.mem_cons, List.not_mem_nil, or_false] at hw
      rcases hw with e | e | e | e <;> rw [e]
      · exact ⟨w1, good_of_word (G_good w1)⟩
      · exact ⟨w5, good_of_word (G_good w5)⟩
      · exact ⟨w2, good_of_word (G_good w2)⟩
      · exact ⟨w3, good_of_word (G_good w3)⟩
    · exact goodIn_ws w4 w hw
  refine w_run5 C hP hS hl (va_runF (C.2.2.2.2.2.1.1 ci r hcl).2 (cx_fix C) (hM H.size) (va_cwF As.length C.2.2.2.2.1 hG rfl rfl rfl hF (okY_spec hy) (by rw [hR9]; exact okR_spec hR)) ⟨PcH_blind _ _ _ _ _, h_recv C hP hb hcl, cx_pre C hP hS (.ref b :: As)⟩ rfl rfl (hl.1.trans hnl) hst (lv_room (by simpa [okS] using hc)) hd (by rw [hR9]; exact hn)) kk
end WWM
