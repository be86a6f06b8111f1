/-! MATH: members that the machine runs by an entry of its table, though they have bytecode -/
theorem nv_over {tb : Tables} {e : Env} {s : State} {f : JFrame} {k : Class} {x : Method} {row : NativeRow} (h0 : f.pc = 0) (hk : s.vm.classes[f.method.cls]? = some k) (hn : k.name = "java/lang/Math") (hb : k.loader = none) (hx : k.methods[f.method.idx]? = some x) (hr : NativeRow.find? tb.natives "java/lang/Math" x.name x.desc = some row) : overridden tb e s f = some row := by
  unfold overridden
  simp [h0, hk, hb, hx, hn, hr, overriddenIn]
/-- one call of such a member: she answers v and changes nothing -/
theorem nv_steps (p : Program) {e : Env} {below : List Frame} {s target : State} {g : JFrame} {c : Code} (htop : s.topJava?.isSome) (hab : ∃ mid, s.frames.tail = mid ++ below) (hrun : s.status = .running) (hrn : s.curStatus? = some .runnable) (hal : s.alone = true) (hcg : s.code? g.method = some c)
    {m : MethodId} {meth : Method} {k : Class} {cm : Code} {row : NativeRow} {args : Array Value} {v : Value} (acts : List Action)
    (hk : s.vm.classes[m.cls]? = some k) (hx : k.methods[m.idx]? = some meth) (hboot : k.loader = none) (hn : k.name = "java/lang/Math") (hrow : NativeRow.find? p.tables.natives "java/lang/Math" meth.name meth.desc = some row)
    (hc : meth.code = some cm) (hl : meth.locks = false) (hst : meth.isStatic = true) (hroom : (s.calling g m args).hasRoom e.platform {} = true)
    (hgive : ((argsToLocals args cm.maxLocals).toList.filterMap fun | .val v => some v | _ => none).toArray.extract 0 meth.sig.parameters.length = args)
    (hsem : ∀ S : State, ∃ a2, (row.sem args).run e S = .ok (some v) S a2) {ig : Instr} {len : Nat} (hdg : decode c.code g.pc = .ok (ig, len))
    (hrest : Steps p.tables e below (s.setTop { g with pc := g.pc + len, stack := v :: g.stack }) target) : Steps p.tables e below (doInvoke e (s.setTop g) acts m args).1 target := by
  obtain ⟨g₀, hg⟩ := Option.isSome_iff_exists.mp htop
  obtain ⟨r, hr⟩ := State.topJava?_eq_some.mp hg
  obtain ⟨mid, hmid⟩ := hab
  have hcur : s.cur < s.threads.size := State.cur_lt_of_frames hr
  have hm : s.vm.method? m = some meth := by simp [Vm.method?, hk, hx]
  have htp : s.setTop g = s.setFrames (.java g :: r) := State.setTop_of_frames _ hr
  have htl : s.frames.tail = r := by rw [hr]; rfl
  have hfull : e.platform.stackFull (s.setTop g).me (s.setTop g).frames cm.maxLocals = false := by
    have hfc := State.frames_calling htop g m args
    obtain ⟨-, r2, -, r4⟩ := State.hasRoom_stack hroom
    rw [State.localsInUse_invoking hfc (meth := meth) (c := cm) hm hc] at r4
    rw [hfc, htl] at r2
    rw [htl] at r4
    have hw := stackUse_le_stackWeight (.java g :: r)
    rw [State.calling_eq htop, State.stackLimits_setFrames] at r2 r4
    rw [htp, State.frames_setFrames _ hcur]
    refine Platform.stackFull_eq_false (by rw [State.stackLimits_setFrames]; simp only [List.length_cons] at r2 ⊢; have : ({} : Room).frames = 0 := rfl; omega) (by rw [State.stackLimits_setFrames]; have : ({} : Room).locals = 0 := rfl; omega)
  rw [(doInvoke_java (s := s.setTop g) (e := e) (acts := acts) (args := args) (meth := meth) (code := cm) hm hc hl hfull).1]
  have hU : (s.setTop g).pushFrame (.java { method := m, pc := 0, locals := argsToLocals args cm.maxLocals, stack := [], locked := none }) = s.setFrames (.java { method := m, pc := 0, locals := argsToLocals args cm.maxLocals, stack := [], locked := none } :: .java g :: r) := by
    rw [State.pushFrame, State.frames_setTop _ hr, htp, State.setFrames_setFrames]
  rw [hU]
  have hf1 : (s.setFrames (.java { method := m, pc := 0, locals := argsToLocals args cm.maxLocals, stack := [], locked := none } :: .java g :: r)).frames = .java { method := m, pc := 0, locals := argsToLocals args cm.maxLocals, stack := [], locked := none } :: .java g :: r := State.frames_setFrames _ hcur
  have hov : overridden p.tables e (s.setFrames (.java { method := m, pc := 0, locals := argsToLocals args cm.maxLocals, stack := [], locked := none } :: .java g :: r)) { method := m, pc := 0, locals := argsToLocals args cm.maxLocals, stack := [], locked := none } = some row :=
    nv_over (k := k) (x := meth) rfl hk hn hboot hx hrow
  have hmk : ∀ G : List Frame, ((s.setFrames G).vm.classes[m.cls]?.bind fun y => y.methods[m.idx]?) = some meth := by
    intro G
    show (s.vm.classes[m.cls]?.bind fun y => y.methods[m.idx]?) = some meth
    simp [hk, hx]
  have hac : ∀ G : List Frame, argCount (s.setFrames G) m = meth.sig.parameters.length := by
    intro G
    simp [argCount, hk, hx, hst]
  obtain ⟨acts2, hr2⟩ := hsem (s.setFrames (.native { method := m, args := args } :: .java g :: r))
  have hcode : ∀ G : List Frame, (s.setFrames G).code? g.method = some c := by
    intro G
    have := hcg
    rw [State.code?_eq] at this ⊢
    simpa [State.setFrames] using this
  have hfs : handOver (s.setFrames (.native { method := m, args := args } :: .java g :: r)) (some v) (.java g :: r) = some (.java { g with pc := g.pc + len, stack := v :: g.stack } :: r) := by
    simp [handOver, hcode, hdg, Except.toOption]
  have hstep : (stepThread p.tables e (s.setFrames (.java { method := m, pc := 0, locals := argsToLocals args cm.maxLocals, stack := [], locked := none } :: .java g :: r))).1 = s.setTop { g with pc := g.pc + len, stack := v :: g.stack } := by
    unfold stepThread
    simp only [hf1, hov, hac, State.setFrames_setFrames]
    generalize hG : (List.filterMap _ (argsToLocals args cm.maxLocals).toList).toArray.extract 0 meth.sig.parameters.length = G
    have hG2 : G = args := hG.symm.trans hgive
    subst hG2
    rw [hr2]
    show (afterNative e _ _ (.ok (some v) _ acts2)).1 = _
    simp only [afterNative]
    rw [doReturn_native (f := { method := m, args := G }) (below := .java g :: r) (State.frames_setFrames _ hcur) rfl hfs, State.setFrames_setFrames, ← State.setTop_of_frames _ hr]
  refine Steps.head ⟨hrun, by simpa using hrn, by simpa using hal⟩ ⟨.java { method := m, pc := 0, locals := argsToLocals args cm.maxLocals, stack := [], locked := none } :: .java g :: mid, by rw [hf1]; rw [hr] at hmid; simp at hmid; simp [hmid], by simp, by simp⟩ ?_
  rw [hstep]
  exact hrest
/-- the same as a premise on a callee -/
theorem nv_back {l : Launch} {R : Room} {p : Program} {e : Env} {below : List Frame} {s : State} {sargs : Array Value} {nm ds : String} {bytes : ByteArray} {maxL : Nat} {ret : Option FieldType} {row : NativeRow} {args : Array Value} {v : Value} {ps : List FieldType}
    (hcode : (Cond.code ⟨"java/lang/Math", nm, ds⟩ bytes maxL ret).before sargs s = true) (hstat : (Cond.static ⟨"java/lang/Math", nm, ds⟩).before sargs s = true) (hps : (parseMethodDescriptor ds).map (fun d => d.parameters.length) = some ps.length)
    (hrow : NativeRow.find? p.tables.natives "java/lang/Math" nm ds = some row) (hgive : ((argsToLocals args maxL).toList.filterMap fun | .val v => some v | _ => none).toArray.extract 0 ps.length = args)
    (hsem : ∀ S : State, ∃ a2, (row.sem args).run e S = .ok (some v) S a2) (hfr : 1 ≤ R.frames) (hlo : 8 + (maxL + 11) ≤ R.locals) :
    Back l R p e below s sargs ⟨"java/lang/Math", nm, ds⟩ 3 8 (fun A a' => A.cells ≤ R.cells ∧ A.slots ≤ R.slots ∧ a' = args) (fun A _ v' B => v' = some v ∧ B = A) := by
  intro m meth c A g ig mk a' X hg hsize hdg hW hnamed ⟨hc, hs, ha'⟩
  subst ha'
  have hcodeU : (Cond.code ⟨"java/lang/Math", nm, ds⟩ bytes maxL ret).before sargs A.U = true := Cond.tabsOnly_warm (args' := sargs) (T := A.U) X.warmed _ rfl hcode
  have hstatU : (Cond.static ⟨"java/lang/Math", nm, ds⟩).before sargs A.U = true := Cond.tabsOnly_warm (args' := sargs) (T := A.U) X.warmed _ rfl hstat
  obtain ⟨methM, cM, hmethM, hcodeM', -, hlocalsM, -, hlocksM, -, hsigM⟩ := Cond.code_spec hnamed hcodeU
  obtain ⟨kP, hkP, hkname⟩ := className_of_methodNamed hnamed
  obtain ⟨hmnM, hmdM⟩ := name_of_methodNamed hnamed hmethM
  have hxP : kP.methods[mk.idx]? = some methM := by simpa [Vm.method?, hkP] using hmethM
  have hbootP : kP.loader = none := Vm.bootOf_findClass (findClass_of_methodNamed hnamed) hkP
  have hstM : methM.isStatic = true := Cond.static_spec hnamed hmethM hstatU
  have hlen : methM.sig.parameters.length = ps.length := by
    have h3 : parseMethodDescriptor ds = some methM.sig := hsigM
    rw [h3] at hps
    exact Option.some.inj hps
  refine ⟨some v, A, X, ⟨rfl, rfl⟩, ?_⟩
  exact nv_steps p X.here.top X.here.above X.here.running X.here.runnable X.here.alone (by rw [hg]; exact X.here.code) [] hkP hxP hbootP hkname (by rw [hmnM, hmdM]; exact hrow) hcodeM' hlocksM hstM
    (X.room_calling hsize hmethM hcodeM' (R' := {}) (by show 0 + 1 ≤ R.frames; omega) (by rw [hlocalsM]; show _ + (maxL + 11) + 0 ≤ R.locals; omega) (by show A.cells + 0 ≤ R.cells; omega) (by show A.slots + 0 ≤ R.slots; omega)) (by rw [hlocalsM, hlen]; exact hgive) hsem hdg (Steps.refl _)
section NAT
variable {K : KC} {n : Nat × Nat} {pc : Nat} {lv : List (Option Value)} {st : List Value} {h : HM} {own : String} {cc : ByteArray} {nL : Nat} {R : Room}
theorem w_nat (C : CX K own cc nL R) {nm ds : String} {idx : Nat} {bytes : ByteArray} {maxL : Nat} {ret : Option FieldType} {row : NativeRow} {As : List Value} {v : Value} {ps : List FieldType} {st0 : List Value}
    (hrow : ∀ p : Program, NativeRow.find? p.tables.natives "java/lang/Math" nm ds = some row) (hps : (parseMethodDescriptor ds).map (fun d => d.parameters.length) = some ps.length) (hAs : As.length = ps.length) (hgive : ((argsToLocals As.toArray maxL).toList.filterMap fun | .val v => some v | _ => none).toArray.extract 0 ps.length = As.toArray)
    (hsem : ∀ (e : Env) (S : State), ∃ a2, (row.sem As.toArray).run e S = .ok (some v) S a2)
    (w1 : Cond.methodLink own idx ⟨"java/lang/Math", nm, ds⟩ ∈ lw_G) (w2 : Cond.static ⟨"java/lang/Math", nm, ds⟩ ∈ lw_G) (w4 : Cond.code ⟨"java/lang/Math", nm, ds⟩ bytes maxL ret ∈ lw_G)
    (hnl : lv.length = nL) (hR : Nat.ble 1 R.frames = true) (hR2 : Nat.ble (8 + (maxL + 11)) R.locals = true) (hS9 : okS st = true) (hn : n.1 ≤ R.cells ∧ n.2 ≤ R.slots) (hst : st0 = As.reverse ++ st) (hd : decode cc pc = .ok (.invokestatic idx, 3)) (k : WW K n (pc + 3) lv (v :: st) h) : WW K n pc lv st0 h := by
  intro H locs ls hP hS hl T hT X
  have hR9 := C.2.2.2.2.2.2.2.1
  obtain ⟨v', vm₁, B, hW₁, X', ⟨e1, e2⟩, st9⟩ := callS X C.1 (bytes := bytes) (maxL := maxL) (ret := ret) C.2.2.2.1 (cx_w C w1) (cx_w C w2) (cx_w C gw_66) (cx_w C w4) ⟨by show ("java/lang/Math" : String) ≠ _; decide, by show ("java/lang/Math" : String) ≠ _; decide⟩
    (nv_back (row := row) (args := As.toArray) (v := v) (ps := ps) (cx_w C w4) (cx_w C w2) hps (hrow (Kp K)) hgive (hsem (Ke K)) (by rw [hR9]; exact Nat.ble_eq.mp hR) (by rw [hR9]; exact Nat.ble_eq.mp hR2))
    (g := F0 (Km K) pc ls st0) rfl (hl.1.trans (hnl.trans C.2.2.1.symm)) (argsL := As) (rest := st) (fun sig h9 => by have h8 : parseMethodDescriptor ds = some sig := h9; rw [h8] at hps; exact hAs.trans (Option.some.inj hps).symm) hst (lv_room (by simpa [okS] using hS9)) (by rw [C.2.1]; exact hd)
    (fun vm₁ hW₁ => ⟨by rw [hR9]; exact hn.1, by rw [hR9]; exact hn.2, rfl⟩)
  subst e1
  subst e2
  obtain ⟨t, a1, b1⟩ := k H locs ls hP hS hl (T.setVm vm₁) hT X'
  exact ⟨t, st9 t a1, b1⟩
end NAT

def rw_dmax : NativeRow := (NativeRow.find? Native.java_lang_Math.nans.rows "java/lang/Math" "max" "(DD)D").get (by decide +kernel)
set_option maxRecDepth 100000 in
theorem rf_dmax (p : Program) : NativeRow.find? p.tables.natives "java/lang/Math" "max" "(DD)D" = some rw_dmax := by cases p <;> rfl
theorem rs_dmax {a b : UInt64} (ha : FP.dIsNaN a = false) (hb : FP.dIsNaN b = false) (e : Env) (S : State) : ∃ a2, (rw_dmax.sem #[.double a, .double b]).run e S = .ok (some (.double (Native.java_lang_Math.nans.pick64 true a b))) S a2 := by
  have hw : wpRun (rw_dmax.sem #[.double a, .double b]) (fun v s₂ _ => v = some (.double (Native.java_lang_Math.nans.pick64 true a b)) ∧ s₂ = S) (fun _ _ _ => False) e S := by
    show wpRun (do
        let r ← if FP.dIsNaN a then anyNaN64 a else if FP.dIsNaN b then anyNaN64 b else Pure.pure (Native.java_lang_Math.nans.pick64 true a b)
        mark "nat.java_lang_Math.max"
        Pure.pure (some (Value.double r))) _ _ _ _
    simp [jvm, wpRun, ha, hb]
  have hw' := (wpRun_iff_run _ _ _ _ _).mp hw
  cases hr : (rw_dmax.sem #[.double a, .double b]).run e S with
  | ok v s₂ a2 => rw [hr] at hw'; obtain ⟨rfl, rfl⟩ := hw'; exact ⟨_, rfl⟩
  | ctl x s₂ a2 => rw [hr] at hw'; cases x <;> exact hw'.elim
theorem w_dmax {K : KC} {n : Nat × Nat} {pc : Nat} {lv : List (Option Value)} {st : List Value} {h : HM} {own : String} {cc : ByteArray} {nL : Nat} {R : Room} (C : CX K own cc nL R) {a b : UInt64} (ha : FP.dIsNaN a = false) (hb : FP.dIsNaN b = false) {idx : Nat} (w1 : Cond.methodLink own idx ⟨"java/lang/Math", "max", "(DD)D"⟩ ∈ lw_G)
    (hnl : lv.length = nL) (hR : Nat.ble 1 R.frames = true) (hR2 : Nat.ble 23 R.locals = true) (hS9 : okS st = true) (hn : n.1 ≤ R.cells ∧ n.2 ≤ R.slots) (hd : decode cc pc = .ok (.invokestatic idx, 3)) (k : WW K n (pc + 3) lv (.double (Native.java_lang_Math.nans.pick64 true a b) :: st) h) : WW K n pc lv (.double b :: .double a :: st) h :=
  w_nat C (As := [.double a, .double b]) (ps := [.int, .int]) rf_dmax (by decide +kernel) rfl (by simp [argsToLocals, Value.category]) (rs_dmax ha hb) w1 gw_1416 gw_1417 hnl hR hR2 hS9 hn rfl hd k

def rw_dmin : NativeRow := (NativeRow.find? Native.java_lang_Math.nans.rows "java/lang/Math" "min" "(DD)D").get (by decide +kernel)
set_option maxRecDepth 100000 in
theorem rf_dmin (p : Program) : NativeRow.find? p.tables.natives "java/lang/Math" "min" "(DD)D" = some rw_dmin := by cases p <;> rfl
theorem rs_dmin {a b : UInt64} (ha : FP.dIsNaN a = false) (hb : FP.dIsNaN b = false) (e : Env) (S : State) : ∃ a2, (rw_dmin.sem #[.double a, .double b]).run e S = .ok (some (.double (Native.java_lang_Math.nans.pick64 false a b))) S a2 := by
  have hw : wpRun (rw_dmin.sem #[.double a, .double b]) (fun v s₂ _ => v = some (.double (Native.java_lang_Math.nans.pick64 false a b)) ∧ s₂ = S) (fun _ _ _ => False) e S := by
    show wpRun (do
        let r ← if FP.dIsNaN a then anyNaN64 a else if FP.dIsNaN b then anyNaN64 b else Pure.pure (Native.java_lang_Math.nans.pick64 false a b)
        mark "nat.java_lang_Math.min"
        Pure.pure (some (Value.double r))) _ _ _ _
    simp [jvm, wpRun, ha, hb]
  have hw' := (wpRun_iff_run _ _ _ _ _).mp hw
  cases hr : (rw_dmin.sem #[.double a, .double b]).run e S with
  | ok v s₂ a2 => rw [hr] at hw'; obtain ⟨rfl, rfl⟩ := hw'; exact ⟨_, rfl⟩
  | ctl x s₂ a2 => rw [hr] at hw'; cases x <;> exact hw'.elim
theorem w_dmin {K : KC} {n : Nat × Nat} {pc : Nat} {lv : List (Option Value)} {st : List Value} {h : HM} {own : String} {cc : ByteArray} {nL : Nat} {R : Room} (C : CX K own cc nL R) {a b : UInt64} (ha : FP.dIsNaN a = false) (hb : FP.dIsNaN b = false) {idx : Nat} (w1 : Cond.methodLink own idx ⟨"java/lang/Math", "min", "(DD)D"⟩ ∈ lw_G)
    (hnl : lv.length = nL) (hR : Nat.ble 1 R.frames = true) (hR2 : Nat.ble 23 R.locals = true) (hS9 : okS st = true) (hn : n.1 ≤ R.cells ∧ n.2 ≤ R.slots) (hd : decode cc pc = .ok (.invokestatic idx, 3)) (k : WW K n (pc + 3) lv (.double (Native.java_lang_Math.nans.pick64 false a b) :: st) h) : WW K n pc lv (.double b :: .double a :: st) h :=
  w_nat C (As := [.double a, .double b]) (ps := [.int, .int]) rf_dmin (by decide +kernel) rfl (by simp [argsToLocals, Value.category]) (rs_dmin ha hb) w1 gw_1339 gw_1340 hnl hR hR2 hS9 hn rfl hd k

def rw_fmin : NativeRow := (NativeRow.find? Native.java_lang_Math.nans.rows "java/lang/Math" "min" "(FF)F").get (by decide +kernel)
set_option maxRecDepth 100000 in
theorem rf_fmin (p : Program) : NativeRow.find? p.tables.natives "java/lang/Math" "min" "(FF)F" = some rw_fmin := by cases p <;> rfl
theorem rs_fmin {a b : UInt32} (ha : FP.fIsNaN a = false) (hb : FP.fIsNaN b = false) (e : Env) (S : State) : ∃ a2, (rw_fmin.sem #[.float a, .float b]).run e S = .ok (some (.float (Native.java_lang_Math.nans.pick32 false a b))) S a2 := by
  have hw : wpRun (rw_fmin.sem #[.float a, .float b]) (fun v s₂ _ => v = some (.float (Native.java_lang_Math.nans.pick32 false a b)) ∧ s₂ = S) (fun _ _ _ => False) e S := by
    show wpRun (do
        let r ← if FP.fIsNaN a then anyNaN32 a else if FP.fIsNaN b then anyNaN32 b else Pure.pure (Native.java_lang_Math.nans.pick32 false a b)
        mark "nat.java_lang_Math.min/float"
        Pure.pure (some (Value.float r))) _ _ _ _
    simp [jvm, wpRun, ha, hb]
  have hw' := (wpRun_iff_run _ _ _ _ _).mp hw
  cases hr : (rw_fmin.sem #[.float a, .float b]).run e S with
  | ok v s₂ a2 => rw [hr] at hw'; obtain ⟨rfl, rfl⟩ := hw'; exact ⟨_, rfl⟩
  | ctl x s₂ a2 => rw [hr] at hw'; cases x <;> exact hw'.elim
theorem w_fmin {K : KC} {n : Nat × Nat} {pc : Nat} {lv : List (Option Value)} {st : List Value} {h : HM} {own : String} {cc : ByteArray} {nL : Nat} {R : Room} (C : CX K own cc nL R) {a b : UInt32} (ha : FP.fIsNaN a = false) (hb : FP.fIsNaN b = false) {idx : Nat} (w1 : Cond.methodLink own idx ⟨"java/lang/Math", "min", "(FF)F"⟩ ∈ lw_G)
    (hnl : lv.length = nL) (hR : Nat.ble 1 R.frames = true) (hR2 : Nat.ble 21 R.locals = true) (hS9 : okS st = true) (hn : n.1 ≤ R.cells ∧ n.2 ≤ R.slots) (hd : decode cc pc = .ok (.invokestatic idx, 3)) (k : WW K n (pc + 3) lv (.float (Native.java_lang_Math.nans.pick32 false a b) :: st) h) : WW K n pc lv (.float b :: .float a :: st) h :=
  w_nat C (As := [.float a, .float b]) (ps := [.int, .int]) rf_fmin (by decide +kernel) rfl (by simp [argsToLocals, Value.category]) (rs_fmin ha hb) w1 gw_1285 gw_1286 hnl hR hR2 hS9 hn rfl hd k

def rw_dabs : NativeRow := (NativeRow.find? Native.java_lang_Math.nans.rows "java/lang/Math" "abs" "(D)D").get (by decide +kernel)
set_option maxRecDepth 100000 in
theorem rf_dabs (p : Program) : NativeRow.find? p.tables.natives "java/lang/Math" "abs" "(D)D" = some rw_dabs := by cases p <;> rfl
theorem rs_dabs {a : UInt64} (ha : a &&& 0x7fffffffffffffff ≤ 0x7ff0000000000000) (e : Env) (S : State) : ∃ a2, (rw_dabs.sem #[.double a]).run e S = .ok (some (.double (a &&& 0x7fffffffffffffff))) S a2 := by
  have hw : wpRun (rw_dabs.sem #[.double a]) (fun v s₂ _ => v = some (.double (a &&& 0x7fffffffffffffff)) ∧ s₂ = S) (fun _ _ _ => False) e S := by
    show wpRun (do
        let r ← anyNaN64 (a &&& 0x7fffffffffffffff)
        mark "nat.java_lang_Math.abs"
        Pure.pure (some (Value.double r))) _ _ _ _
    have h2 : a &&& 0x7fffffffffffffff &&& 0x7fffffffffffffff ≤ 0x7ff0000000000000 := by rw [UInt64.and_assoc, UInt64.and_self]; exact ha
    simp [jvm, wpRun, anyNaN64, h2]
  have hw' := (wpRun_iff_run _ _ _ _ _).mp hw
  cases hr : (rw_dabs.sem #[.double a]).run e S with
  | ok v s₂ a2 => rw [hr] at hw'; obtain ⟨rfl, rfl⟩ := hw'; exact ⟨_, rfl⟩
  | ctl x s₂ a2 => rw [hr] at hw'; cases x <;> exact hw'.elim
theorem w_dabs {K : KC} {n : Nat × Nat} {pc : Nat} {lv : List (Option Value)} {st : List Value} {h : HM} {own : String} {cc : ByteArray} {nL : Nat} {R : Room} (C : CX K own cc nL R) {a : UInt64} (ha : a &&& 0x7fffffffffffffff ≤ 0x7ff0000000000000) {idx : Nat} (w1 : Cond.methodLink own idx ⟨"java/lang/Math", "abs", "(D)D"⟩ ∈ lw_G)
    (hnl : lv.length = nL) (hR : Nat.ble 1 R.frames = true) (hR2 : Nat.ble 21 R.locals = true) (hS9 : okS st = true) (hn : n.1 ≤ R.cells ∧ n.2 ≤ R.slots) (hd : decode cc pc = .ok (.invokestatic idx, 3)) (k : WW K n (pc + 3) lv (.double (a &&& 0x7fffffffffffffff) :: st) h) : WW K n pc lv (.double a :: st) h :=
  w_nat C (As := [.double a]) (ps := [.int]) rf_dabs (by decide +kernel) rfl (by simp [argsToLocals, Value.category]) (rs_dabs ha) w1 gw_1336 gw_1337 hnl hR hR2 hS9 hn rfl hd k

def rw_dcps : NativeRow := (NativeRow.find? Native.java_lang_Math.nans.rows "java/lang/Math" "copySign" "(DD)D").get (by decide +kernel)
set_option maxRecDepth 100000 in
theorem rf_dcps (p : Program) : NativeRow.find? p.tables.natives "java/lang/Math" "copySign" "(DD)D" = some rw_dcps := by cases p <;> rfl
theorem rs_dcps {a b : UInt64} (hb : FP.dIsNaN b = false) (e : Env) (S : State) : ∃ a2, (rw_dcps.sem #[.double a, .double b]).run e S = .ok (some (.double ((a &&& 0x7fffffffffffffff) ||| (if b >>> 63 == 1 then 0x8000000000000000 else 0)))) S a2 := by
  have hw : wpRun (rw_dcps.sem #[.double a, .double b]) (fun v s₂ _ => v = some (.double ((a &&& 0x7fffffffffffffff) ||| (if b >>> 63 == 1 then 0x8000000000000000 else 0))) ∧ s₂ = S) (fun _ _ _ => False) e S := by
    show wpRun (do
        let negative ← Native.java_lang_Math.nans.signOf (FP.dIsNaN b) (b >>> 63 == 1)
        mark "nat.java_lang_Math.copySign"
        Pure.pure (some (Value.double ((a &&& 0x7fffffffffffffff) ||| (if negative then 0x8000000000000000 else 0))))) _ _ _ _
    simp [jvm, wpRun, Native.java_lang_Math.nans.signOf, hb]
  have hw' := (wpRun_iff_run _ _ _ _ _).mp hw
  cases hr : (rw_dcps.sem #[.double a, .double b]).run e S with
  | ok v s₂ a2 => rw [hr] at hw'; obtain ⟨rfl, rfl⟩ := hw'; exact ⟨_, rfl⟩
  | ctl x s₂ a2 => rw [hr] at hw'; cases x <;> exact hw'.elim
theorem w_dcps {K : KC} {n : Nat × Nat} {pc : Nat} {lv : List (Option Value)} {st : List Value} {h : HM} {own : String} {cc : ByteArray} {nL : Nat} {R : Room} (C : CX K own cc nL R) {a b : UInt64} (hb : FP.dIsNaN b = false) {idx : Nat} (w1 : Cond.methodLink own idx ⟨"java/lang/Math", "copySign", "(DD)D"⟩ ∈ lw_G)
    (hnl : lv.length = nL) (hR : Nat.ble 1 R.frames = true) (hR2 : Nat.ble 23 R.locals = true) (hS9 : okS st = true) (hn : n.1 ≤ R.cells ∧ n.2 ≤ R.slots) (hd : decode cc pc = .ok (.invokestatic idx, 3)) (k : WW K n (pc + 3) lv (.double ((a &&& 0x7fffffffffffffff) ||| (if b >>> 63 == 1 then 0x8000000000000000 else 0)) :: st) h) : WW K n pc lv (.double b :: .double a :: st) h :=
  w_nat C (As := [.double a, .double b]) (ps := [.int, .int]) rf_dcps (by decide +kernel) rfl (by simp [argsToLocals, Value.category]) (rs_dcps hb) w1 gw_1325 gw_1326 hnl hR hR2 hS9 hn rfl hd k
