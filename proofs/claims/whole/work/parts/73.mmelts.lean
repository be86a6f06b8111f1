/-! THE REFERENCE: WHERE A GLAZE MELTS -/
theorem ps_lt {x : UInt64} (hn : dN x) (hs : ps9 x) : x.toNat < 2 ^ 63 := by
  have := FP.Core.sgn_bits hn
  unfold ps9 at hs
  rw [hs] at this
  exact Nat.not_le.mp (of_decide_eq_false this.symm)
theorem ps_abs {x : UInt64} (hn : dN x) (hs : ps9 x) : x &&& 0x7fffffffffffffff = x := by
  refine UInt64.toNat_inj.mp ?_
  rw [FP.Core.mask_toNat, Nat.mod_eq_of_lt (ps_lt hn hs)]
theorem ps_sh {x : UInt64} (hn : dN x) (hs : ps9 x) : x >>> 63 = 0 := by
  refine UInt64.toNat_inj.mp ?_
  rw [UInt64.toNat_shiftRight, show (63 : UInt64).toNat % 64 = 63 from rfl, Nat.shiftRight_eq_div_pow]
  exact Nat.div_eq_of_lt (ps_lt hn hs)
theorem ps_one {x : UInt64} (hn : dN x) (hs : ps9 x) : (FP.dconst1 &&& 0x7fffffffffffffff) ||| (if x >>> 63 == 1 then 0x8000000000000000 else 0) = 4607182418800017408 := by
  rw [ps_sh hn hs, show FP.dconst1 = 4607182418800017408 from by decide +kernel]
  decide
theorem ps_small {x : UInt64} (hn : dN x) (hs : ps9 x) (hb : x.toNat % 2 ^ 63 < 1034 * 2 ^ 52) : dlt x 4841369599423283200 := by
  have h1 := ps_lt hn hs
  have c52 : dN 4841369599423283200 := (df_lit (by decide)).n
  refine (FP.Core.dcmp_lt_key hn c52).mpr ?_
  unfold FP.Core.dkey
  rw [if_neg (by omega), if_neg (by decide)]
  rw [Nat.mod_eq_of_lt h1] at hb
  have : (4841369599423283200 : UInt64).toNat = 4841369599423283200 := by decide
  rw [this]
  omega
theorem dn_int {i : Int} {a : UInt64} (h : FP.Core.DInt i a) : dN a := by
  intro w
  have h4 : FP.Core.Whole i (FP.Core.val64 a) := h
  rw [w] at h4
  exact h4

set_option maxHeartbeats 4000000 in
set_option maxRecDepth 100000 in
theorem m_Jxfc994_rint_294c1 {l : Launch} {D : va_G} {tc : Nat → ClassId} (hl : l.stackTraces = false) {h : HM} {x : UInt64} (hx : dN x) (hs : ps9 x) (hb : x.toNat % 2 ^ 63 < 1034 * 2 ^ 52) :
    CT l D tc yJxfc994_rint_294c1 cJxfc994_rint_294c1 6 (some FieldType.double) rm_Jxfc994_rint_294c1 [.double x] h (rD (fun z h' => h' = h ∧ z = sp_rint x)) := by
  refine CT.start [some (.double x), none, none, none, none, none] (by decide) hl rfl rfl (fun K C M => ?_)
  obtain ⟨rfl, rfl, rfl, -⟩ := id M
  have C : CX K RJxfc994 cJxfc994_rint_294c1 6 rm_Jxfc994_rint_294c1 := C
  obtain ⟨n9, -, -, i1, i2, i3⟩ := rint_int hs hb
  refine lc_Jxfc994_93 C dJxfc994_rint_294c1_0 ?_
  refine w_dstore_2 C dJxfc994_rint_294c1_3 (by first | trivial | rfl) ?_
  refine w_dconst1 C dJxfc994_rint_294c1_4 ?_
  refine w_dload_n C dJxfc994_rint_294c1_5 (by rfl) ?_
  refine w_dcps C (dNj hx) gw_1324 (by rfl) (by rfl) (by rfl) (by rfl) ⟨by decide, by decide⟩ dJxfc994_rint_294c1_6 ?_
  rw [ps_one hx hs]
  refine w_dstore_4 C dJxfc994_rint_294c1_9 (by first | trivial | rfl) ?_
  refine w_dload_n C dJxfc994_rint_294c1_11 (by rfl) ?_
  refine w_dabs C (abs_nan hx) gw_1335 (by rfl) (by rfl) (by rfl) (by rfl) ⟨by decide, by decide⟩ dJxfc994_rint_294c1_12 ?_
  rw [ps_abs hx hs]
  refine w_dstore_0 C dJxfc994_rint_294c1_15 ?_
  refine w_dload_n C dJxfc994_rint_294c1_16 (by rfl) ?_
  refine w_dload_n C dJxfc994_rint_294c1_17 (by rfl) ?_
  refine w_dcmp C dJxfc994_rint_294c1_18 ?_
  refine w_if_ge (tgt := 28) C dJxfc994_rint_294c1_19 (by rfl) (fun c_19 => ?_) (fun c_19 => ?_)
  · exact absurd (cg_ge.mp c_19) (Classical.not_not.mpr (ps_small hx hs hb))
  · try simp only [cg_ge, cg_gt, cl_gt, cl_le, cl_eq, cl_lt, cl_ge, bi_eq0, bi_ne0, bI_eq0, Decidable.not_not, Bool.not_eq_false] at c_19
    refine w_dload_n C dJxfc994_rint_294c1_22 (by rfl) ?_
    refine w_dload_n C dJxfc994_rint_294c1_23 (by rfl) ?_
    refine w_dadd C dJxfc994_rint_294c1_24 (nn_of (dn_int i1)) ?_
    refine w_dload_n C dJxfc994_rint_294c1_25 (by rfl) ?_
    refine w_dsub C dJxfc994_rint_294c1_26 (nn_of (dn_int i2)) ?_
    refine w_dstore_0 C dJxfc994_rint_294c1_27 ?_
    refine w_dload C dJxfc994_rint_294c1_28 (by rfl) ?_
    refine w_dload_n C dJxfc994_rint_294c1_30 (by rfl) ?_
    refine w_dmul C dJxfc994_rint_294c1_31 (nn_of (dn_int i3)) ?_
    refine w_dret C M dJxfc994_rint_294c1_32 ⟨by decide, by decide⟩ ⟨_, rfl, ?_⟩
    exact ⟨rfl, rfl⟩

/-! Math.rint: the machine runs its table's entry, which calls StrictMath.rint and hands its answer on -/
def rw_rint : NativeRow := (NativeRow.find? Native.java_lang_Math.nans.rows "java/lang/Math" "rint" "(D)D").get (by decide +kernel)
set_option maxRecDepth 100000 in
theorem rf_rint (p : Program) : NativeRow.find? p.tables.natives "java/lang/Math" "rint" "(D)D" = some rw_rint := by cases p <;> rfl
theorem rn_run (b : UInt64) (e : Env) (S : State) {cS : ClassId} {kS : Class} {i : Nat} (hf : S.vm.findClass "java/lang/StrictMath" = some cS) (hk : S.vm.classes[cS]? = some kS) (hi : kS.init = .initialized) (hm : kS.findMethod "rint" "(D)D" = some i) :
    ∃ acts, (rw_rint.sem #[.double b]).run e S = .ctl (.call ⟨cS, i⟩ #[.double b] 1 #[]) S acts := by
  have hsem : rw_rint.sem #[.double b] = (do
      let c ← classNamed "java/lang/StrictMath"
      ensureInit c
      let some i := (← theClass c).findMethod "rint" "(D)D" | modelBug ("StrictMath lacks " ++ "rint")
      callThen ⟨c, i⟩ #[.double b] 1 #[]) := rfl
  have hw : wpRun (rw_rint.sem #[.double b]) (fun _ _ _ => False) (fun c s₂ _ => c = .call ⟨cS, i⟩ #[.double b] 1 #[] ∧ s₂ = S) e S := by
    rw [hsem]
    simp [jvm, wpRun, W.classNamed_ready hf, W.ensureInit_ready ⟨kS, hk, hi⟩, theClass, callThen, hk, hm]
    exact ⟨rfl, rfl, rfl, rfl⟩
  have hw' := (wpRun_iff_run _ _ _ _ _).mp hw
  cases hr : (rw_rint.sem #[.double b]).run e S with
  | ok v s₂ acts₂ => rw [hr] at hw'; exact hw'.elim
  | ctl x s₂ acts₂ =>
    rw [hr] at hw'
    have h2 : x = .call ⟨cS, i⟩ #[.double b] 1 #[] ∧ s₂ = S := by cases x <;> first | exact hw' | exact hw'.elim
    obtain ⟨rfl, rfl⟩ := h2
    exact ⟨_, rfl⟩
theorem rn_resume {r : UInt64} (hn : r &&& 0x7fffffffffffffff ≤ 0x7ff0000000000000) (e : Env) (S : State) :
    ∃ acts, (rw_rint.resume 1 #[] (.returned (some (.double r)))).run e S = .ok (some (.double r)) S acts := by
  have hsem : rw_rint.resume 1 #[] (.returned (some (.double r))) = (do
      let r ← anyNaN64 r
      mark "nat.java_lang_Math.rint"
      Pure.pure (some (.double r))) := rfl
  have hw : wpRun (rw_rint.resume 1 #[] (.returned (some (.double r)))) (fun v s₂ _ => v = some (.double r) ∧ s₂ = S) (fun _ _ _ => False) e S := by
    rw [hsem]
    simp [jvm, wpRun, anyNaN64, hn]
  have hw' := (wpRun_iff_run _ _ _ _ _).mp hw
  cases hr : (rw_rint.resume 1 #[] (.returned (some (.double r)))).run e S with
  | ok v s₂ acts₂ => rw [hr] at hw'; obtain ⟨rfl, rfl⟩ := hw'; exact ⟨_, rfl⟩
  | ctl x s₂ acts₂ => rw [hr] at hw'; cases x <;> exact hw'.elim
theorem nv_resumed {tb : Tables} {e : Env} {s : State} {f : NFrame} {rest : List Frame} {k : Class} {x : Method} {row : NativeRow} {o : Outcome}
    (hf : s.frames = .native f :: rest) (hk : s.vm.classes[f.method.cls]? = some k) (hboot : k.loader = none) (hx : k.methods[f.method.idx]? = some x)
    (hrow : NativeRow.find? tb.natives k.name x.name x.desc = some row) (ha : f.answer = some o) :
    stepThread tb e s = afterNative e f rest ((row.resume f.stage f.saved o).run e s) := by
  unfold stepThread
  simp only [hf, hk, hx, hrow, ha, hboot, Option.bind_eq_bind, Option.bind_some, Option.pure_def, Option.isNone_none, if_true]
theorem nv_bytes (s : State) (F : List Frame) : (s.setFrames F).me.stackBytes = s.me.stackBytes := by
  unfold State.me State.setFrames
  simp only [Array.getElem?_modify]
  cases s.threads[s.cur]? <;> simp
/-- the room of a call out of a native's frame -/
theorem nv_room {s : State} {pl : Platform} {m m2 : MethodId} {a a2 : Array Value} {nf : NFrame} {r : List Frame} {meth meth2 : Method} {cm cm2 : Code} {R1 R2 : Room} (hcur : s.cur < s.threads.size) (hw : nf.words ≤ 1024)
    (hm : s.vm.method? m = some meth) (hc : meth.code = some cm) (hm2 : s.vm.method? m2 = some meth2) (hc2 : meth2.code = some cm2)
    (h1 : R2.frames + 1 ≤ R1.frames) (h2 : cm2.maxLocals + 1024 + R2.locals ≤ cm.maxLocals + R1.locals) (h3 : R2.cells ≤ R1.cells) (h4 : R2.slots ≤ R1.slots)
    (h : (s.setFrames (.invoking m a :: r)).hasRoom pl R1 = true) :
    (s.setFrames (.invoking m2 a2 :: .native nf :: r)).hasRoom pl R2 = true := by
  have hwt : Frame.weight (.native nf) = 1024 := by show max nf.words vmFrameWords = 1024; unfold vmFrameWords; omega
  have hwi : ∀ (m9 : MethodId) (a9 : Array Value), Frame.weight (.invoking m9 a9) = 1024 := fun m9 a9 => rfl
  have e1 : ∀ F : List Frame, ((s.setFrames F).vm.method? m) = some meth := fun F => hm
  have e2 : ∀ F : List Frame, ((s.setFrames F).vm.method? m2) = some meth2 := fun F => hm2
  simp only [State.hasRoom, Bool.and_eq_true, decide_eq_true_eq, State.frames_setFrames _ hcur, State.stackLimits_setFrames, nv_bytes, State.localsInUse, stackWeight, List.map_cons, List.sum_cons, List.length_cons, hwt, hwi, e1, e2, Option.bind_some, hc, hc2, Option.map_some, Option.getD_some] at h ⊢
  obtain ⟨⟨⟨⟨a0, a1, a2, a3, a4, a5⟩, b1⟩, c1⟩, d1⟩ := h
  have b1 : s.heap.size + R1.cells ≤ pl.maxCells := b1
  have c1 : s.slotsUsed + R1.slots ≤ pl.maxSlots := c1
  exact ⟨⟨⟨⟨by omega, by omega, by omega, by omega, by omega, a5⟩, (by show s.heap.size + R2.cells ≤ pl.maxCells; omega)⟩, (by show s.slotsUsed + R2.slots ≤ pl.maxSlots; omega)⟩, d1⟩
theorem nv_hears {s s2 : State} {m : MethodId} {below : List Frame} (hal : s.vm.Alike s2.vm) (h : s.hears m below = true) : s2.hears m below = true := by
  rcases below with _ | ⟨y, r⟩
  · simpa only [State.hears, hal.method?] using h
  · cases y
    case java g => simpa only [State.hears, State.code?_eq, hal.method?] using h
    case native g => rfl
    case proc g => rfl
    all_goals simpa only [State.hears, hal.method?] using h
theorem nv_same {A B : State} {F : List Frame} {locs : List Loc} {cells slots : Nat} (h : (A.setFrames F).sameButNew B locs cells slots) : A.sameButNew B locs cells slots := by
  obtain ⟨h1, h2⟩ := h
  rw [State.setFrames_setFrames] at h1
  exact ⟨h1, h2⟩
set_option maxHeartbeats 4000000 in
set_option maxRecDepth 100000 in
theorem m_J9_rint {l : Launch} {D : va_G} {tc : Nat → ClassId} (hl : l.stackTraces = false) {h : HM} {x : UInt64} (hx : dN x) (hs : ps9 x) (hb : x.toNat % 2 ^ 63 < 1034 * 2 ^ 52) :
    CT l D tc yJ9_rint_294c1 cJ9_rint_294c1 2 (some FieldType.double) rm_J9_rint_294c1 [.double x] h (rD (fun z h' => h' = h ∧ z = sp_rint x)) := by
  intro sz p e ha hc hk s m args below hf happ hP hT
  obtain ⟨hrun, hable, halone, hname, hhears, hinit, hroom, hpre⟩ := (Spec.appliesLoose_iff hf).mp happ
  have hts : ∀ w ∈ lw_ws yJ9_rint_294c1 cJ9_rint_294c1 2 (some FieldType.double), w.before args s = true := atoms_spec hpre
  obtain ⟨rfl, hsz, hPW, hK, hS⟩ := hP
  have hgo : s.goesOn := ⟨hrun, hable, halone⟩
  have hcur := State.cur_lt_of_frames hf
  obtain ⟨methM, cM, hmethM, hcodeM, -, hlocalsM, hretM, hlocksM, -, hsigM⟩ := Cond.code_spec hname (hts _ List.mem_cons_self)
  obtain ⟨kP, hkP, hkname⟩ := className_of_methodNamed hname
  obtain ⟨hmn, hmd⟩ := name_of_methodNamed hname hmethM
  have hxP : kP.methods[m.idx]? = some methM := by simpa [Vm.method?, hkP] using hmethM
  have hbootP : kP.loader = none := Vm.bootOf_findClass (findClass_of_methodNamed hname) hkP
  have hst : methM.isStatic = true := Cond.static_spec hname hmethM (hts _ (List.mem_cons_of_mem _ gw_1318))
  have hkname : kP.name = "java/lang/Math" := hkname
  have hrow : NativeRow.find? p.tables.natives kP.name methM.name methM.desc = some rw_rint := by rw [hkname, hmn, hmd]; exact rf_rint p
  have hcS := hts _ (List.mem_cons_of_mem _ gw_1322)
  obtain ⟨mS, hnS⟩ := Cond.code_named hcS
  obtain ⟨methS, cSd, hmethS, hcodeS, -, hlocS, -⟩ := Cond.code_spec hnS hcS
  obtain ⟨kS, hkS, -⟩ := className_of_methodNamed hnS
  have hfS : s.vm.findClass "java/lang/StrictMath" = some mS.cls := findClass_of_methodNamed hnS
  have hiS : kS.init = .initialized := Cond.initialized_spec hfS hkS (hts _ (List.mem_cons_of_mem _ gw_78))
  have hmS : kS.findMethod "rint" "(D)D" = some mS.idx := by
    have h := hnS
    simp only [State.methodNamed?, Option.bind_eq_bind, Option.pure_def] at h
    rw [hfS] at h
    simp only [Option.bind_some, hkS] at h
    cases hfm : kS.findMethod "rint" "(D)D" with
    | none => rw [hfm] at h; cases h
    | some j => rw [hfm] at h; simp at h; rw [← h]
  -- the first step: the method's own frame
  have hf1 : ∀ F : List Frame, (s.setFrames F).frames = F := fun F => State.frames_setFrames _ hcur
  have hstep1 : (stepThread p.tables e s).1 = s.setFrames (.java (entryFrame m #[.double x] 2) :: below) := by
    have hfull : e.platform.stackFull (s.setFrames below).me (s.setFrames below).frames cM.maxLocals = false := by
      obtain ⟨-, h1, -, h2⟩ := State.hasRoom_stack hroom
      rw [hf, List.length_cons] at h1
      rw [State.localsInUse_invoking hf hmethM hcodeM] at h2
      have hw := stackUse_le_stackWeight below
      rw [State.frames_setFrames _ hcur]
      exact Platform.stackFull_eq_false (by rw [State.stackLimits_setFrames]; omega) (by rw [State.stackLimits_setFrames]; omega)
    rw [stepThread_invoking hf, (doInvoke_java (s := s.setFrames below) (e := e) (meth := methM) (code := cM) hmethM hcodeM hlocksM hfull).1]
    simp only [State.pushFrame, State.frames_setFrames _ hcur, State.setFrames_setFrames, hlocalsM, entryFrame]
  -- the second: the table's entry
  have hov : overridden p.tables e (s.setFrames (.java (entryFrame m #[.double x] 2) :: below)) (entryFrame m #[.double x] 2) = some rw_rint :=
    nv_over (k := kP) (x := methM) rfl hkP hkname hbootP hxP (by rw [← hkname]; exact hrow)
  have hac : ∀ G : List Frame, argCount (s.setFrames G) m = 1 := by
    intro G
    have h3 : methM.sig.parameters.length = 1 := by
      have h4 : parseMethodDescriptor "(D)D" = some methM.sig := hsigM
      rw [show parseMethodDescriptor "(D)D" = some { parameters := [.double], returnType := some .double } by decide +kernel] at h4
      rw [← Option.some.inj h4]
      rfl
    simp [argCount, hkP, hxP, hst, h3]
  obtain ⟨acts2, hr2⟩ := rn_run x e (s.setFrames (.native { method := m, args := #[.double x] } :: below)) (cS := mS.cls) (kS := kS) (i := mS.idx) hfS hkS hiS hmS
  have hstep2 : (stepThread p.tables e (s.setFrames (.java (entryFrame m #[.double x] 2) :: below))).1 = (doInvoke e (s.setFrames (.native { method := m, args := #[.double x], stage := 1, saved := #[], awaiting := true, answer := none, words := 0 } :: below)) acts2 mS #[.double x]).1 := by
    have hw3 : ((s.vm.classes[m.cls]?).bind fun k => Option.map (fun n => upcallWords k.name n.name) k.methods[m.idx]?).getD 0 = 0 := by
      have e9 : methM.name = "rint" := hmn
      simp [hkP, hxP, hkname, e9, upcallWords]
    unfold stepThread
    simp only [hf1, hov, hac, State.setFrames_setFrames]
    simp [entryFrame, argsToLocals, Value.category, hac, hr2, afterNative, hw3, State.setFrames_setFrames]
  -- the call
  have hfN : (s.setFrames (.native { method := m, args := #[.double x], stage := 1, saved := #[], awaiting := true, answer := none, words := 0 } :: below)).frames = [.native { method := m, args := #[.double x], stage := 1, saved := #[], awaiting := true, answer := none, words := 0 }] ++ below := hf1 _
  have eFirst : (s.setFrames (.native { method := m, args := #[.double x], stage := 1, saved := #[], awaiting := true, answer := none, words := 0 } :: below)).pushFrame (.invoking mS #[.double x]) = s.setFrames (.invoking mS #[.double x] :: .native { method := m, args := #[.double x], stage := 1, saved := #[], awaiting := true, answer := none, words := 0 } :: below) := by
    rw [State.pushFrame, hf1, State.setFrames_setFrames]
  have hroom9 : (s.setFrames (.invoking m #[.double x] :: below)).hasRoom e.platform rm_J9_rint_294c1 = true := by
    obtain ⟨th9, ht9, -⟩ := State.frames_cons hf
    rw [← hf, State.setFrames_self ht9]
    exact hroom
  have happS : (headSpec (lw_ws yJxfc994_rint_294c1 cJxfc994_rint_294c1 6 (some FieldType.double)) rm_Jxfc994_rint_294c1).appliesLoose yJxfc994_rint_294c1 e.platform ((s.setFrames (.native { method := m, args := #[.double x], stage := 1, saved := #[], awaiting := true, answer := none, words := 0 } :: below)).pushFrame (.invoking mS #[.double x])) = true := by
    rw [eFirst]
    refine (Spec.appliesLoose_iff (hf1 _)).mpr ⟨hrun, by simpa using hable, by simpa using halone, hnS, rfl, State.classRipe_of (s := s.setFrames _) hkS hiS, nv_room hcur (Nat.zero_le _) hmethM hcodeM hmethS hcodeS (by decide) (by rw [hlocalsM, hlocS]; decide) (by decide) (by decide) hroom9, ?_⟩
    rw [Cond.before_setFrames]
    refine atoms_intro (fun w hw => ?_)
    rcases List.mem_cons.mp hw with e1 | hw
    · rw [e1]; exact hcS
    · exact hts _ (List.mem_cons_of_mem _ hw)
  obtain ⟨o, s₂, hsteps, hrun2, hend, ⟨⟨⟨r, h', ho, hpost, hPW2⟩, hF2⟩, L, hFE, hL⟩⟩ := Steps.callFree (m_Jxfc994_rint_294c1 (D := D) (tc := tc) hl (h := h) hx hs hb sz) p ha hc hk (acts := acts2) hfN happS
    ⟨rfl, hsz, hPW, va_K.moved (u := s) (Vm.Alike.refl s.vm) hK, SW.same (u := s) rfl hS⟩ trivial
  obtain ⟨z, rfl, rfl, rfl⟩ := hpost
  subst ho
  rw [hf1] at hend
  replace hend : s₂.frames = .native { method := m, args := #[.double x], stage := 1, saved := #[], awaiting := false, answer := some (.returned (some (.double (sp_rint x)))), words := 0 } :: below := hend
  obtain ⟨-, hW2, hsame⟩ := hFE
  have hW2 : s.WarmedH s₂.vm := hW2
  have hal : s.vm.Alike s₂.vm := hW2.alike
  rw [eFirst] at hsame
  have hsame2 : s.sameButNew ({ s₂ with vm := s.vm } : State) L 0 0 := nv_same hsame
  obtain ⟨k', hk', ek⟩ := hal.2.2 _ _ hkP
  have hboot' : k'.loader = none := by rw [ek]; exact hbootP
  have hx' : k'.methods[m.idx]? = some methM := by rw [ek]; exact hxP
  have hrow' : NativeRow.find? p.tables.natives k'.name methM.name methM.desc = some rw_rint := by rw [ek]; exact hrow
  have hn9 : sp_rint x &&& 0x7fffffffffffffff ≤ 0x7ff0000000000000 := by
    obtain ⟨n9, -, -, -, -, i9⟩ := rint_int hs hb
    exact nn_of (dn_int i9)
  obtain ⟨acts3, hr3⟩ := rn_resume hn9 e s₂
  have hhears2 : s₂.hears m below = true := nv_hears hal hhears
  obtain ⟨fs, hfs⟩ := handOver_isSome (some (.double (sp_rint x))) hhears2
  have hcur2 : s₂.cur < s₂.threads.size := State.cur_lt_of_frames hend
  have hstep4 : (stepThread p.tables e s₂).1 = s₂.setFrames fs := by
    rw [nv_resumed (f := { method := m, args := #[.double x], stage := 1, saved := #[], awaiting := false, answer := some (.returned (some (.double (sp_rint x)))), words := 0 }) (o := .returned (some (.double (sp_rint x)))) hend hk' hboot' hx' hrow' rfl]
    show (afterNative e _ _ ((rw_rint.resume 1 #[] (.returned (some (.double (sp_rint x))))).run e s₂)).1 = _
    rw [hr3]
    exact doReturn_native (f := { method := m, args := #[.double x], stage := 1, saved := #[], awaiting := false, answer := some (.returned (some (.double (sp_rint x)))), words := 0 }) hend rfl hfs
  have e3 : ({ s₂ with vm := s.vm } : State) = { s.setFrames s₂.frames with heap := s₂.heap, slotsUsed := s₂.slotsUsed } := hsame2.1
  have hcs : s₂.curStatus? = some .runnable := by
    have h1 : s₂.curStatus? = ({ s₂ with vm := s.vm } : State).curStatus? := rfl
    rw [h1, e3]
    show (s.setFrames s₂.frames).curStatus? = _
    simpa using hable
  have hal2 : s₂.alone = true := by
    have h1 : s₂.alone = ({ s₂ with vm := s.vm } : State).alone := rfl
    rw [h1, e3]
    show (s.setFrames s₂.frames).alone = _
    simpa using halone
  have hended : Ended (s₂.setFrames fs) below (.returned (some (.double (sp_rint x)))) := by
    refine ended_of_handOver hfs hcur2 ?_
    have hh := hhears
    have hr9 : ∀ q, methM.sig.returnType = none → q := fun q h9 => by rw [hretM] at h9; cases h9
    rcases below with _ | ⟨y, r⟩
    · simp only [State.hears, hmethM, Option.any_some, Option.isNone_iff_eq_none] at hh
      exact hr9 _ hh
    · cases y
      case java g => exact Or.inr ⟨_, _, rfl, trivial⟩
      case native g => exact Or.inr ⟨_, _, rfl, trivial⟩
      case proc g => exact Or.inr ⟨_, _, rfl, trivial⟩
      all_goals
        simp only [State.hears, hmethM, Option.any_some, Option.isNone_iff_eq_none] at hh
        exact hr9 _ hh
  have hall : Steps p.tables e below s (s₂.setFrames fs) := by
    refine Steps.head hgo ⟨[.invoking m #[.double x]], hf, by simp, by simp⟩ ?_
    rw [hstep1]
    refine Steps.head ⟨hrun, by simpa using hable, by simpa using halone⟩ ⟨[.java (entryFrame m #[.double x] 2)], hf1 _, by simp, by simp⟩ ?_
    rw [hstep2]
    refine hsteps.trans ?_
    refine Steps.head ⟨hrun2, hcs, hal2⟩ ⟨[.native { method := m, args := #[.double x], stage := 1, saved := #[], awaiting := false, answer := some (.returned (some (.double (sp_rint x)))), words := 0 }], hend, by simp, by simp⟩ ?_
    rw [hstep4]
    exact Steps.refl _
  obtain ⟨n, hn, hw⟩ := hall
  refine ⟨n, .returned (some (.double (sp_rint x))), hw, by rw [hn]; exact hrun2, by rw [hn]; exact hended, ?_⟩
  rw [hn]
  refine ⟨⟨⟨_, _, rfl, ⟨_, rfl, rfl, rfl⟩, hPW2⟩, hF2⟩, L, ⟨⟨_, rfl⟩, hW2, ?_⟩, hL⟩
  refine ⟨?_, hsame2.2⟩
  show ({ (s₂.setFrames fs) with vm := s.vm } : State) = { s.setFrames (s₂.setFrames fs).frames with heap := s₂.heap, slotsUsed := s₂.slotsUsed }
  rw [State.frames_setFrames _ hcur2]
  have e4 : ({ (s₂.setFrames fs) with vm := s.vm } : State) = ({ s₂ with vm := s.vm } : State).setFrames fs := rfl
  rw [e4, e3]
  show ({ (s.setFrames s₂.frames).setFrames fs with heap := s₂.heap, slotsUsed := s₂.slotsUsed } : State) = _
  rw [State.setFrames_setFrames]

set_option maxHeartbeats 4000000 in
set_option maxRecDepth 100000 in
theorem m_X10_melts {l : Launch} {D : va_G} {tc : Nat → ClassId} (hl : l.stackTraces = false) {h : HM} {m0 kl wk : Nat} {L : Nat → Nat} {E : Nat → Nat} {M : Nat → Int32} {ca : Nat → Nat} {ga : Nat → Nat} {pa : Nat → Nat} {oa : Nat → Nat} {ra : Nat → Nat} {th : Int32} {nC : Nat} {cs : Nat → Int32 × Int32} {nG : Nat} {gs : Nat → GT} {nP : Nat} {ps : Nat → PT} {nO : Nat} {os : Nat → OT} {nR : Nat} {rs : Nat → RT} {k : KT} {dmp : Int32} {day : Int32} {pur : Int32} {rf : Int32} (YY : Mh tc m0 kl wk L E M ca ga pa oa ra th nC cs nG gs nP ps nO os nR rs k dmp day pur rf h) {j : Nat} (hj : j < nG) (hg : glzOk (gs j)) :
    CT l D tc yX10_melts cX10_melts 5 (some FieldType.int) rm_X10_melts [.ref m0, .int (nI j)] h (rI (fun z h' => h' = h ∧ z = sp_melts (gs j))) := by
  refine CT.start [some (.ref m0), some (.int (nI j)), none, none, none] (by decide) hl rfl rfl (fun K C M => ?_)
  obtain ⟨rfl, rfl, rfl, -⟩ := id M
  have C : CX K RX10 cX10_melts 5 rm_X10_melts := C
  obtain ⟨mm, mL, mk, mw, mCl, mGl, mPt, mOr, mRm, mn1, mn2, mn3⟩ := id YY
  obtain ⟨⟨n1, n2, n3, n4, n5, n6, n7, n8, n9, n10, n11, n12⟩, -, p1, p2⟩ := glz_all hg
  obtain ⟨n0, -, -, -, -, i3⟩ := rint_int p1 p2
  first | refine w_aload_n C dX10_melts_0 (by rfl) ?_ | refine w_aload_nN C dX10_melts_0 (by rfl) ?_
  refine gf_X10_16 C mm dX10_melts_1 ?_
  refine w_iload_n C dX10_melts_4 (by rfl) ?_
  refine cl_X10_58 C (m_get hl YY.lg YY.ag hj) YY.lg (by rfl) (by rfl) ⟨by decide, by decide⟩ (by rfl) dX10_melts_5 (fun z1 h1 p1 => ?_)
  obtain ⟨rfl, rfl⟩ := p1
  refine w_castI C (mGl j hj) gw_1313 dX10_melts_8 ?_
  first | refine w_astore_2 C dX10_melts_11 (by first | trivial | rfl) ?_ | refine w_astore_2N C dX10_melts_11 (by first | trivial | rfl) ?_
  first | refine w_aload_n C dX10_melts_12 (by rfl) ?_ | refine w_aload_nN C dX10_melts_12 (by rfl) ?_
  refine w_iconst (v := 0) C dX10_melts_13 (by rfl) ?_
  refine w_ialdn (j := 0) C (mGl j hj) (by decide) (by decide) dX10_melts_14 ?_
  rw [gI_0]
  first | refine w_aload_n C dX10_melts_15 (by rfl) ?_ | refine w_aload_nN C dX10_melts_15 (by rfl) ?_
  refine w_iconst (v := 1) C dX10_melts_16 (by rfl) ?_
  refine w_ialdn (j := 1) C (mGl j hj) (by decide) (by decide) dX10_melts_17 ?_
  rw [gI_1]
  refine w_iadd C dX10_melts_18 ?_
  refine w_i2d C dX10_melts_19 ?_
  refine w_dstore_3 C dX10_melts_20 (by first | trivial | rfl) ?_
  refine lc_X10_64 C dX10_melts_21 ?_
  refine lc_X10_66 C dX10_melts_24 ?_
  first | refine w_aload_n C dX10_melts_27 (by rfl) ?_ | refine w_aload_nN C dX10_melts_27 (by rfl) ?_
  refine w_iconst (v := 2) C dX10_melts_28 (by rfl) ?_
  refine w_ialdn (j := 2) C (mGl j hj) (by decide) (by decide) dX10_melts_29 ?_
  rw [gI_2]
  refine w_i2d C dX10_melts_30 ?_
  refine w_dload_n C dX10_melts_31 (by rfl) ?_
  refine w_ddiv C dX10_melts_32 n1 ?_
  refine w_dmul C dX10_melts_33 n2 ?_
  refine lc_X10_68 C dX10_melts_34 ?_
  first | refine w_aload_n C dX10_melts_37 (by rfl) ?_ | refine w_aload_nN C dX10_melts_37 (by rfl) ?_
  refine w_iconst (v := 3) C dX10_melts_38 (by rfl) ?_
  refine w_ialdn (j := 3) C (mGl j hj) (by decide) (by decide) dX10_melts_39 ?_
  rw [gI_3]
  refine w_i2d C dX10_melts_40 ?_
  refine w_dload_n C dX10_melts_41 (by rfl) ?_
  refine w_ddiv C dX10_melts_42 n3 ?_
  refine w_dmul C dX10_melts_43 n4 ?_
  refine w_dadd C dX10_melts_44 (nn_of n5) ?_
  refine cl_X10_70 C (m_J9_rint hl (x := sp_mx (gs j)) n5 p1 p2) (by rfl) (by rfl) ⟨by decide, by decide⟩ (by rfl) dX10_melts_45 (fun z5 h5 p5 => ?_)
  obtain ⟨rfl, rfl⟩ := p5
  refine w_dmin C (dNj (df_lit (by decide)).n) (dNj (dn_int i3)) gw_1338 (by rfl) (by rfl) (by rfl) (by rfl) ⟨by decide, by decide⟩ dX10_melts_48 ?_
  refine w_d2i C dX10_melts_51 ?_
  refine w_iret C M dX10_melts_52 ⟨by decide, by decide⟩ ⟨_, rfl, ?_⟩
  exact ⟨rfl, melts_eq p1 p2⟩

theorem upd_upd9 {α : Type} (f : Nat → α) (j : Nat) (x y : α) : vf_upd (vf_upd f j x) j y = vf_upd f j y := by
  funext i
  simp only [vf_upd]
  split <;> rfl

set_option maxHeartbeats 4000000 in
set_option maxRecDepth 100000 in
theorem m_X10_dip {l : Launch} {D : va_G} {tc : Nat → ClassId} (hl : l.stackTraces = false) {h : HM} {m0 kl wk : Nat} {L : Nat → Nat} {E : Nat → Nat} {M : Nat → Int32} {ca : Nat → Nat} {ga : Nat → Nat} {pa : Nat → Nat} {oa : Nat → Nat} {ra : Nat → Nat} {th : Int32} {nC : Nat} {cs : Nat → Int32 × Int32} {nG : Nat} {gs : Nat → GT} {nP : Nat} {ps : Nat → PT} {nO : Nat} {os : Nat → OT} {nR : Nat} {rs : Nat → RT} {k : KT} {dmp : Int32} {day : Int32} {pur : Int32} {rf : Int32} (YY : Mh tc m0 kl wk L E M ca ga pa oa ra th nC cs nG gs nP ps nO os nR rs k dmp day pur rf h) (hn : nP ≤ 14) (bG : nG ≤ 4) (hg : ∀ i, i < nG → glzOk (gs i)) {i gl : Int32} :
    CT l D tc yX10_dip cX10_dip 3 (some FieldType.int) rm_X10_dip [.ref m0, .int i, .int gl] h (rI (fun z h' => ((out9 i nP ∨ out9 gl nG) ∧ z = 0 ∧ MhE tc m0 kl wk 1 nC cs nG gs nP ps nO os nR rs k dmp day pur rf h') ∨ (∃ j g, j < nP ∧ i = nI j ∧ g < nG ∧ gl = nI g ∧ ((¬ qSt (ps j).2.2 = 2 ∧ z = 0 ∧ MhE tc m0 kl wk 2 nC cs nG gs nP ps nO os nR rs k dmp day pur rf h') ∨ (qSt (ps j).2.2 = 2 ∧ z = sp_melts (gs g) ∧ MhE tc m0 kl wk 0 nC cs nG gs nP (vf_upd ps j (sp_dipp g (ps j))) nO os nR rs k dmp day pur rf h'))))) := by
  refine CT.start [some (.ref m0), some (.int i), some (.int gl)] (by decide) hl rfl rfl (fun K C M => ?_)
  obtain ⟨rfl, rfl, rfl, -⟩ := id M
  have C : CX K RX10 cX10_dip 3 rm_X10_dip := C
  obtain ⟨mm, mL, mk, mw, mCl, mGl, mPt, mOr, mRm, mn1, mn2, mn3⟩ := id YY
  first | refine w_aload_n C dX10_dip_0 (by rfl) ?_ | refine w_aload_nN C dX10_dip_0 (by rfl) ?_
  first | refine w_aload_n C dX10_dip_1 (by rfl) ?_ | refine w_aload_nN C dX10_dip_1 (by rfl) ?_
  refine w_iload_n C dX10_dip_2 (by rfl) ?_
  refine cl_X10_104 C (m_X10_isNoPot hl YY (by omega)) mm (by rfl) (by rfl) ⟨by decide, by decide⟩ (by rfl) dX10_dip_3 (fun z1 h1 p1 => ?_)
  obtain ⟨rfl, p_3⟩ := p1
  rcases p_3 with ⟨rfl, c_3⟩ | ⟨rfl, j, hj, rfl⟩
  · 
    refine w_if_ne (tgt := 17) C dX10_dip_6 (by rfl) (fun c_6 => ?_) (fun c_6 => ?_)
    · try simp only [cg_ge, cg_gt, cl_gt, cl_le, cl_eq, cl_lt, cl_ge, bi_eq0, bi_ne0, bI_eq0, Decidable.not_not, Bool.not_eq_false] at c_6
      refine w_iconst (v := 1) C dX10_dip_17 (by rfl) ?_
      refine w_goto (tgt := 22) C dX10_dip_18 (by rfl) ?_
      refine w_iconst (v := 1) C dX10_dip_22 (by rfl) ?_
      refine cl_X10_88 C (m_X10_startT hl mm (by decide)) mm (by rfl) (by rfl) ⟨by decide, by decide⟩ (by rfl) dX10_dip_23 (fun z2 h2 p2 => ?_)
      obtain ⟨rfl, p2⟩ := p2
      have YY := YY.me (th2 := 1) (day2 := day) (dmp2 := dmp) (pur2 := pur) (rf2 := rf) p2
      obtain ⟨mm, mL, mk, mw, mCl, mGl, mPt, mOr, mRm, mn1, mn2, mn3⟩ := id YY
      refine w_if_ne (tgt := 60) C dX10_dip_26 (by rfl) (fun c_26 => ?_) (fun c_26 => ?_)
      · try simp only [cg_ge, cg_gt, cl_gt, cl_le, cl_eq, cl_lt, cl_ge, bi_eq0, bi_ne0, bI_eq0, Decidable.not_not, Bool.not_eq_false] at c_26
        refine w_iconst (v := 0) C dX10_dip_60 (by rfl) ?_
        refine w_iret C M dX10_dip_61 ⟨by decide, by decide⟩ ⟨_, rfl, ?_⟩
        exact Or.inl ⟨Or.inl c_3, rfl, YY.ex⟩
      · exact absurd c_26 (by decide)
    · exact absurd c_6 (by decide)
  · 
    refine w_if_ne (tgt := 17) C dX10_dip_6 (by rfl) (fun c_6 => ?_) (fun c_6 => ?_)
    · exact absurd rfl c_6
    · try simp only [cg_ge, cg_gt, cl_gt, cl_le, cl_eq, cl_lt, cl_ge, bi_eq0, bi_ne0, bI_eq0, Decidable.not_not, Bool.not_eq_false] at c_6
      first | refine w_aload_n C dX10_dip_9 (by rfl) ?_ | refine w_aload_nN C dX10_dip_9 (by rfl) ?_
      refine w_iload_n C dX10_dip_10 (by rfl) ?_
      refine cl_X10_141 C (m_X10_isNoGlaze hl YY (by omega)) mm (by rfl) (by rfl) ⟨by decide, by decide⟩ (by rfl) dX10_dip_11 (fun z3 h3 p3 => ?_)
      obtain ⟨rfl, p_11⟩ := p3
      rcases p_11 with ⟨rfl, c_11⟩ | ⟨rfl, g, hgn, rfl⟩
      · 
        refine w_if_eq (tgt := 21) C dX10_dip_14 (by rfl) (fun c_14 => ?_) (fun c_14 => ?_)
        · exact absurd c_14 (by decide)
        · try simp only [cg_ge, cg_gt, cl_gt, cl_le, cl_eq, cl_lt, cl_ge, bi_eq0, bi_ne0, bI_eq0, Decidable.not_not, Bool.not_eq_false] at c_14
          refine w_iconst (v := 1) C dX10_dip_17 (by rfl) ?_
          refine w_goto (tgt := 22) C dX10_dip_18 (by rfl) ?_
          refine w_iconst (v := 1) C dX10_dip_22 (by rfl) ?_
          refine cl_X10_88 C (m_X10_startT hl mm (by decide)) mm (by rfl) (by rfl) ⟨by decide, by decide⟩ (by rfl) dX10_dip_23 (fun z4 h4 p4 => ?_)
          obtain ⟨rfl, p4⟩ := p4
          have YY := YY.me (th2 := 1) (day2 := day) (dmp2 := dmp) (pur2 := pur) (rf2 := rf) p4
          obtain ⟨mm, mL, mk, mw, mCl, mGl, mPt, mOr, mRm, mn1, mn2, mn3⟩ := id YY
          refine w_if_ne (tgt := 60) C dX10_dip_26 (by rfl) (fun c_26 => ?_) (fun c_26 => ?_)
          · try simp only [cg_ge, cg_gt, cl_gt, cl_le, cl_eq, cl_lt, cl_ge, bi_eq0, bi_ne0, bI_eq0, Decidable.not_not, Bool.not_eq_false] at c_26
            refine w_iconst (v := 0) C dX10_dip_60 (by rfl) ?_
            refine w_iret C M dX10_dip_61 ⟨by decide, by decide⟩ ⟨_, rfl, ?_⟩
            exact Or.inl ⟨Or.inr c_11, rfl, YY.ex⟩
          · exact absurd c_26 (by decide)
      · 
        refine w_if_eq (tgt := 21) C dX10_dip_14 (by rfl) (fun c_14 => ?_) (fun c_14 => ?_)
        · try simp only [cg_ge, cg_gt, cl_gt, cl_le, cl_eq, cl_lt, cl_ge, bi_eq0, bi_ne0, bI_eq0, Decidable.not_not, Bool.not_eq_false] at c_14
          refine w_iconst (v := 0) C dX10_dip_21 (by rfl) ?_
          refine w_iconst (v := 1) C dX10_dip_22 (by rfl) ?_
          refine cl_X10_88 C (m_X10_startF hl mm) mm (by rfl) (by rfl) ⟨by decide, by decide⟩ (by rfl) dX10_dip_23 (fun z5 h5 p5 => ?_)
          obtain ⟨rfl, p5⟩ := p5
          have YY := YY.me (th2 := 0) (day2 := day) (dmp2 := dmp) (pur2 := pur) (rf2 := rf) p5
          obtain ⟨mm, mL, mk, mw, mCl, mGl, mPt, mOr, mRm, mn1, mn2, mn3⟩ := id YY
          refine w_if_ne (tgt := 60) C dX10_dip_26 (by rfl) (fun c_26 => ?_) (fun c_26 => ?_)
          · exact absurd c_26 (by decide)
          · try simp only [cg_ge, cg_gt, cl_gt, cl_le, cl_eq, cl_lt, cl_ge, bi_eq0, bi_ne0, bI_eq0, Decidable.not_not, Bool.not_eq_false] at c_26
            have hpj := mPt j hj
            first | refine w_aload_n C dX10_dip_29 (by rfl) ?_ | refine w_aload_nN C dX10_dip_29 (by rfl) ?_
            first | refine w_aload_n C dX10_dip_30 (by rfl) ?_ | refine w_aload_nN C dX10_dip_30 (by rfl) ?_
            refine gf_X10_19 C mm dX10_dip_31 ?_
            refine w_iload_n C dX10_dip_34 (by rfl) ?_
            refine cl_X10_58 C (m_get hl YY.lp YY.ap hj) YY.lp (by rfl) (by rfl) ⟨by decide, by decide⟩ (by rfl) dX10_dip_35 (fun z6 h6 p6 => ?_)
            obtain ⟨rfl, rfl⟩ := p6
            refine w_castS C hpj (r := (RX9, TX9, 12)) rfl gw_1152 dX10_dip_38 ?_
            refine gf_X10_124 C hpj dX10_dip_41 ?_
            refine w_iconst (v := 2) C dX10_dip_44 (by rfl) ?_
            refine w_icmp_eq (tgt := 52) C dX10_dip_45 (by rfl) (fun c_45 => ?_) (fun c_45 => ?_)
            · refine w_iconst (v := 0) C dX10_dip_52 (by rfl) ?_
              refine w_iconst (v := 2) C dX10_dip_53 (by rfl) ?_
              refine cl_X10_36 C (m_X10_refuseF hl mm) mm (by rfl) (by rfl) ⟨by decide, by decide⟩ (by rfl) dX10_dip_54 (fun z7 h7 p7 => ?_)
              obtain ⟨rfl, rfl⟩ := p7
              refine w_if_eq (tgt := 62) C dX10_dip_57 (by rfl) (fun c_57 => ?_) (fun c_57 => ?_)
              · try simp only [cg_ge, cg_gt, cl_gt, cl_le, cl_eq, cl_lt, cl_ge, bi_eq0, bi_ne0, bI_eq0, Decidable.not_not, Bool.not_eq_false] at c_57
                have hpj := mPt j hj
                first | refine w_aload_n C dX10_dip_62 (by rfl) ?_ | refine w_aload_nN C dX10_dip_62 (by rfl) ?_
                refine gf_X10_19 C mm dX10_dip_63 ?_
                refine w_iload_n C dX10_dip_66 (by rfl) ?_
                refine cl_X10_58 C (m_get hl YY.lp YY.ap hj) YY.lp (by rfl) (by rfl) ⟨by decide, by decide⟩ (by rfl) dX10_dip_67 (fun z8 h8 p8 => ?_)
                obtain ⟨rfl, rfl⟩ := p8
                refine w_castS C hpj (r := (RX9, TX9, 12)) rfl gw_1152 dX10_dip_70 ?_
                refine w_iconst (v := 3) C dX10_dip_73 (by rfl) ?_
                refine pf_X10_124 C hpj dX10_dip_74 (fun h9 u9 => ?_)
                have hpj := u9.self
                have u74 := u9
                have YY := YY.pot hj (p := ((ps j).1, (ps j).2.1, (qWd (ps j).2.2, qHg (ps j).2.2, qWl (ps j).2.2, 3, qWa (ps j).2.2, qCv (ps j).2.2, qSm (ps j).2.2, qMk (ps j).2.2, qSh (ps j).2.2, qCe (ps j).2.2))) u9
                obtain ⟨mm, mL, mk, mw, mCl, mGl, mPt, mOr, mRm, mn1, mn2, mn3⟩ := id YY
                first | refine w_aload_n C dX10_dip_77 (by rfl) ?_ | refine w_aload_nN C dX10_dip_77 (by rfl) ?_
                refine gf_X10_19 C mm dX10_dip_78 ?_
                refine w_iload_n C dX10_dip_81 (by rfl) ?_
                refine cl_X10_58 C (m_get hl YY.lp YY.ap hj) YY.lp (by rfl) (by rfl) ⟨by decide, by decide⟩ (by rfl) dX10_dip_82 (fun z10 h10 p10 => ?_)
                obtain ⟨rfl, rfl⟩ := p10
                refine w_castS C hpj (r := (RX9, TX9, 12)) rfl gw_1152 dX10_dip_85 ?_
                refine w_iload_n C dX10_dip_88 (by rfl) ?_
                refine pf_X10_144 C hpj dX10_dip_89 (fun h11 u11 => ?_)
                have hpj := u11.self
                have YY := YY.pot hj (p := sp_dipp g (ps j)) u11
                obtain ⟨mm, mL, mk, mw, mCl, mGl, mPt, mOr, mRm, mn1, mn2, mn3⟩ := id YY
                first | refine w_aload_n C dX10_dip_92 (by rfl) ?_ | refine w_aload_nN C dX10_dip_92 (by rfl) ?_
                refine w_iload_n C dX10_dip_93 (by rfl) ?_
                refine cl_X10_147 C (m_X10_melts hl YY hgn (hg g hgn)) mm (by rfl) (by rfl) ⟨by decide, by decide⟩ (by rfl) dX10_dip_94 (fun z12 h12 p12 => ?_)
                obtain ⟨rfl, rfl⟩ := p12
                refine w_iret C M dX10_dip_97 ⟨by decide, by decide⟩ ⟨_, rfl, ?_⟩
                have YY := YY
                rw [upd_upd9] at YY
                exact Or.inr ⟨j, g, hj, rfl, hgn, rfl, Or.inr ⟨c_45, rfl, YY.ex⟩⟩
              · exact absurd c_57 (by decide)
            · refine w_iconst (v := 1) C dX10_dip_48 (by rfl) ?_
              refine w_goto (tgt := 53) C dX10_dip_49 (by rfl) ?_
              refine w_iconst (v := 2) C dX10_dip_53 (by rfl) ?_
              refine cl_X10_36 C (m_X10_refuseT hl mm (by decide)) mm (by rfl) (by rfl) ⟨by decide, by decide⟩ (by rfl) dX10_dip_54 (fun z13 h13 p13 => ?_)
              obtain ⟨rfl, p13⟩ := p13
              have YY := YY.me (th2 := 2) (day2 := day) (dmp2 := dmp) (pur2 := pur) (rf2 := rf) p13
              obtain ⟨mm, mL, mk, mw, mCl, mGl, mPt, mOr, mRm, mn1, mn2, mn3⟩ := id YY
              refine w_if_eq (tgt := 62) C dX10_dip_57 (by rfl) (fun c_57 => ?_) (fun c_57 => ?_)
              · exact absurd c_57 (by decide)
              · try simp only [cg_ge, cg_gt, cl_gt, cl_le, cl_eq, cl_lt, cl_ge, bi_eq0, bi_ne0, bI_eq0, Decidable.not_not, Bool.not_eq_false] at c_57
                refine w_iconst (v := 0) C dX10_dip_60 (by rfl) ?_
                refine w_iret C M dX10_dip_61 ⟨by decide, by decide⟩ ⟨_, rfl, ?_⟩
                exact Or.inr ⟨j, g, hj, rfl, hgn, rfl, Or.inl ⟨c_45, rfl, YY.ex⟩⟩
        · exact absurd rfl c_14

theorem ofG_2 (g : GT) : sp_ofGlaze g (nI 2) = FP.i2d (sp_melts g) := rfl
theorem sa_n {g : GT} (hg : glzOk g) (h : ¬ g.2.2.1 = 0) : vf_n64 (FP.ddiv (FP.i2d g.2.2.2.1) (FP.i2d g.2.2.1)) := by
  obtain ⟨s, l, a, i, b1, b2, b3, b4, b5, e1, e2, e3, e4⟩ := glz_nat hg
  rw [e3] at h ⊢
  rw [e4]
  have a1 : 1 ≤ a := by
    rcases Nat.lt_or_ge 0 a with w | w
    · exact w
    · exact absurd (by rw [show a = 0 by omega]; rfl) h
  obtain ⟨f1, f2⟩ := i2d_ge a1 (by omega)
  exact nn_of (mg_fin (FP.Core.ddiv_mag (i2d_60 b4) f1 f2 (by decide) (by decide)) (by decide)).n

set_option maxHeartbeats 4000000 in
set_option maxRecDepth 100000 in
theorem m_X10_toldOfGlaze {l : Launch} {D : va_G} {tc : Nat → ClassId} (hl : l.stackTraces = false) {h : HM} {m0 kl wk : Nat} {L : Nat → Nat} {E : Nat → Nat} {M : Nat → Int32} {ca : Nat → Nat} {ga : Nat → Nat} {pa : Nat → Nat} {oa : Nat → Nat} {ra : Nat → Nat} {th : Int32} {nC : Nat} {cs : Nat → Int32 × Int32} {nG : Nat} {gs : Nat → GT} {nP : Nat} {ps : Nat → PT} {nO : Nat} {os : Nat → OT} {nR : Nat} {rs : Nat → RT} {k : KT} {dmp : Int32} {day : Int32} {pur : Int32} {rf : Int32} (YY : Mh tc m0 kl wk L E M ca ga pa oa ra th nC cs nG gs nP ps nO os nR rs k dmp day pur rf h) {j w : Nat} (hj : j < nG) (hw : w < 3) (hg : glzOk (gs j)) :
    CT l D tc yX10_toldOfGlaze cX10_toldOfGlaze 4 (some FieldType.double) rm_X10_toldOfGlaze [.ref m0, .int (nI j), .int (nI w)] h (rD (fun z h' => h' = h ∧ z = sp_ofGlaze (gs j) (nI w))) := by
  refine CT.start [some (.ref m0), some (.int (nI j)), some (.int (nI w)), none] (by decide) hl rfl rfl (fun K C M => ?_)
  obtain ⟨rfl, rfl, rfl, -⟩ := id M
  have C : CX K RX10 cX10_toldOfGlaze 4 rm_X10_toldOfGlaze := C
  obtain ⟨mm, mL, mk, mw, mCl, mGl, mPt, mOr, mRm, mn1, mn2, mn3⟩ := id YY
  first | refine w_aload_n C dX10_toldOfGlaze_0 (by rfl) ?_ | refine w_aload_nN C dX10_toldOfGlaze_0 (by rfl) ?_
  refine gf_X10_16 C mm dX10_toldOfGlaze_1 ?_
  refine w_iload_n C dX10_toldOfGlaze_4 (by rfl) ?_
  refine cl_X10_58 C (m_get hl YY.lg YY.ag hj) YY.lg (by rfl) (by rfl) ⟨by decide, by decide⟩ (by rfl) dX10_toldOfGlaze_5 (fun z1 h1 p1 => ?_)
  obtain ⟨rfl, rfl⟩ := p1
  refine w_castI C (mGl j hj) gw_1313 dX10_toldOfGlaze_8 ?_
  first | refine w_astore_3 C dX10_toldOfGlaze_11 (by first | trivial | rfl) ?_ | refine w_astore_3N C dX10_toldOfGlaze_11 (by first | trivial | rfl) ?_
  refine w_iload_n C dX10_toldOfGlaze_12 (by rfl) ?_
  refine w_if_ne (tgt := 24) C dX10_toldOfGlaze_13 (by rfl) (fun c_13 => ?_) (fun c_13 => ?_)
  · try simp only [cg_ge, cg_gt, cl_gt, cl_le, cl_eq, cl_lt, cl_ge, bi_eq0, bi_ne0, bI_eq0, Decidable.not_not, Bool.not_eq_false] at c_13
    refine w_iload_n C dX10_toldOfGlaze_24 (by rfl) ?_
    refine w_iconst (v := 1) C dX10_toldOfGlaze_25 (by rfl) ?_
    refine w_icmp_ne (tgt := 53) C dX10_toldOfGlaze_26 (by rfl) (fun c_26 => ?_) (fun c_26 => ?_)
    · first | refine w_aload_n C dX10_toldOfGlaze_53 (by rfl) ?_ | refine w_aload_nN C dX10_toldOfGlaze_53 (by rfl) ?_
      refine w_iload_n C dX10_toldOfGlaze_54 (by rfl) ?_
      refine cl_X10_147 C (m_X10_melts hl YY hj hg) mm (by rfl) (by rfl) ⟨by decide, by decide⟩ (by rfl) dX10_toldOfGlaze_55 (fun z2 h2 p2 => ?_)
      obtain ⟨rfl, rfl⟩ := p2
      refine w_i2d C dX10_toldOfGlaze_58 ?_
      refine w_dret C M dX10_toldOfGlaze_59 ⟨by decide, by decide⟩ ⟨_, rfl, ?_⟩
      refine ⟨rfl, ?_⟩
      rcases w with _ | _ | _ | w
      · exact absurd rfl c_13
      · exact absurd rfl c_26
      · rfl
      · omega
    · first | refine w_aload_n C dX10_toldOfGlaze_29 (by rfl) ?_ | refine w_aload_nN C dX10_toldOfGlaze_29 (by rfl) ?_
      refine w_iconst (v := 2) C dX10_toldOfGlaze_30 (by rfl) ?_
      refine w_ialdn (j := 2) C (mGl j hj) (by decide) (by decide) dX10_toldOfGlaze_31 ?_
      rw [gI_2]
      refine w_if_ne (tgt := 41) C dX10_toldOfGlaze_32 (by rfl) (fun c_32 => ?_) (fun c_32 => ?_)
      · try simp only [cg_ge, cg_gt, cl_gt, cl_le, cl_eq, cl_lt, cl_ge, bi_eq0, bi_ne0, bI_eq0, Decidable.not_not, Bool.not_eq_false] at c_32
        first | refine w_aload_n C dX10_toldOfGlaze_41 (by rfl) ?_ | refine w_aload_nN C dX10_toldOfGlaze_41 (by rfl) ?_
        refine w_iconst (v := 3) C dX10_toldOfGlaze_42 (by rfl) ?_
        refine w_ialdn (j := 3) C (mGl j hj) (by decide) (by decide) dX10_toldOfGlaze_43 ?_
        rw [gI_3]
        refine w_i2d C dX10_toldOfGlaze_44 ?_
        first | refine w_aload_n C dX10_toldOfGlaze_45 (by rfl) ?_ | refine w_aload_nN C dX10_toldOfGlaze_45 (by rfl) ?_
        refine w_iconst (v := 2) C dX10_toldOfGlaze_46 (by rfl) ?_
        refine w_ialdn (j := 2) C (mGl j hj) (by decide) (by decide) dX10_toldOfGlaze_47 ?_
        rw [gI_2]
        refine w_i2d C dX10_toldOfGlaze_48 ?_
        refine w_ddiv C dX10_toldOfGlaze_49 (sa_n hg c_32) ?_
        refine w_goto (tgt := 59) C dX10_toldOfGlaze_50 (by rfl) ?_
        refine w_dret C M dX10_toldOfGlaze_59 ⟨by decide, by decide⟩ ⟨_, rfl, ?_⟩
        refine ⟨rfl, ?_⟩
        rw [c_26]
        unfold sp_ofGlaze
        rw [if_neg (by decide), if_pos rfl]
        first
          | exact (if_pos c_32).symm
          | exact (if_neg c_32).symm
      · try simp only [cg_ge, cg_gt, cl_gt, cl_le, cl_eq, cl_lt, cl_ge, bi_eq0, bi_ne0, bI_eq0, Decidable.not_not, Bool.not_eq_false] at c_32
        refine lc_X10_273 C dX10_toldOfGlaze_35 ?_
        refine w_goto (tgt := 59) C dX10_toldOfGlaze_38 (by rfl) ?_
        refine w_dret C M dX10_toldOfGlaze_59 ⟨by decide, by decide⟩ ⟨_, rfl, ?_⟩
        refine ⟨rfl, ?_⟩
        rw [c_26]
        unfold sp_ofGlaze
        rw [if_neg (by decide), if_pos rfl]
        first
          | exact (if_pos c_32).symm
          | exact (if_neg c_32).symm
  · try simp only [cg_ge, cg_gt, cl_gt, cl_le, cl_eq, cl_lt, cl_ge, bi_eq0, bi_ne0, bI_eq0, Decidable.not_not, Bool.not_eq_false] at c_13
    first | refine w_aload_n C dX10_toldOfGlaze_16 (by rfl) ?_ | refine w_aload_nN C dX10_toldOfGlaze_16 (by rfl) ?_
    refine w_iload_n C dX10_toldOfGlaze_17 (by rfl) ?_
    refine cl_X10_230 C (m_X10_growth hl YY hj (glz_all hg).1) mm (by rfl) (by rfl) ⟨by decide, by decide⟩ (by rfl) dX10_toldOfGlaze_18 (fun z3 h3 p3 => ?_)
    obtain ⟨rfl, rfl⟩ := p3
    refine w_goto (tgt := 59) C dX10_toldOfGlaze_21 (by rfl) ?_
    refine w_dret C M dX10_toldOfGlaze_59 ⟨by decide, by decide⟩ ⟨_, rfl, ?_⟩
    refine ⟨rfl, ?_⟩
    rw [c_13]; rfl

set_option maxHeartbeats 4000000 in
set_option maxRecDepth 100000 in
theorem m_X10_ofGlaze {l : Launch} {D : va_G} {tc : Nat → ClassId} (hl : l.stackTraces = false) {h : HM} {m0 kl wk : Nat} {L : Nat → Nat} {E : Nat → Nat} {M : Nat → Int32} {ca : Nat → Nat} {ga : Nat → Nat} {pa : Nat → Nat} {oa : Nat → Nat} {ra : Nat → Nat} {th : Int32} {nC : Nat} {cs : Nat → Int32 × Int32} {nG : Nat} {gs : Nat → GT} {nP : Nat} {ps : Nat → PT} {nO : Nat} {os : Nat → OT} {nR : Nat} {rs : Nat → RT} {k : KT} {dmp : Int32} {day : Int32} {pur : Int32} {rf : Int32} (YY : Mh tc m0 kl wk L E M ca ga pa oa ra th nC cs nG gs nP ps nO os nR rs k dmp day pur rf h) (bG : nG ≤ 4) (hg : ∀ i, i < nG → glzOk (gs i)) {i what : Int32} :
    CT l D tc yX10_ofGlaze cX10_ofGlaze 3 (some FieldType.double) rm_X10_ofGlaze [.ref m0, .int i, .int what] h (rD (fun z h' => (out9 i nG ∧ z = FP.dconst0 ∧ MhE tc m0 kl wk 1 nC cs nG gs nP ps nO os nR rs k dmp day pur rf h') ∨ (∃ g, g < nG ∧ i = nI g ∧ ((¬ (0 ≤ what ∧ what ≤ 2) ∧ z = FP.dconst0 ∧ MhE tc m0 kl wk 2 nC cs nG gs nP ps nO os nR rs k dmp day pur rf h') ∨ ((0 ≤ what ∧ what ≤ 2) ∧ z = sp_ofGlaze (gs g) what ∧ MhE tc m0 kl wk 0 nC cs nG gs nP ps nO os nR rs k dmp day pur rf h'))))) := by
  refine CT.start [some (.ref m0), some (.int i), some (.int what)] (by decide) hl rfl rfl (fun K C M => ?_)
  obtain ⟨rfl, rfl, rfl, -⟩ := id M
  have C : CX K RX10 cX10_ofGlaze 3 rm_X10_ofGlaze := C
  obtain ⟨mm, mL, mk, mw, mCl, mGl, mPt, mOr, mRm, mn1, mn2, mn3⟩ := id YY
  first | refine w_aload_n C dX10_ofGlaze_0 (by rfl) ?_ | refine w_aload_nN C dX10_ofGlaze_0 (by rfl) ?_
  first | refine w_aload_n C dX10_ofGlaze_1 (by rfl) ?_ | refine w_aload_nN C dX10_ofGlaze_1 (by rfl) ?_
  refine w_iload_n C dX10_ofGlaze_2 (by rfl) ?_
  refine cl_X10_141 C (m_X10_isNoGlaze hl YY (by omega)) mm (by rfl) (by rfl) ⟨by decide, by decide⟩ (by rfl) dX10_ofGlaze_3 (fun z1 h1 p1 => ?_)
  obtain ⟨rfl, p_3⟩ := p1
  rcases p_3 with ⟨rfl, c_3⟩ | ⟨rfl, j, hj, rfl⟩
  · 
    refine w_iconst (v := 1) C dX10_ofGlaze_6 (by rfl) ?_
    refine cl_X10_88 C (m_X10_startT hl mm (by decide)) mm (by rfl) (by rfl) ⟨by decide, by decide⟩ (by rfl) dX10_ofGlaze_7 (fun z2 h2 p2 => ?_)
    obtain ⟨rfl, p2⟩ := p2
    have YY := YY.me (th2 := 1) (day2 := day) (dmp2 := dmp) (pur2 := pur) (rf2 := rf) p2
    obtain ⟨mm, mL, mk, mw, mCl, mGl, mPt, mOr, mRm, mn1, mn2, mn3⟩ := id YY
    refine w_if_ne (tgt := 35) C dX10_ofGlaze_10 (by rfl) (fun c_10 => ?_) (fun c_10 => ?_)
    · try simp only [cg_ge, cg_gt, cl_gt, cl_le, cl_eq, cl_lt, cl_ge, bi_eq0, bi_ne0, bI_eq0, Decidable.not_not, Bool.not_eq_false] at c_10
      refine w_dconst0 C dX10_ofGlaze_35 ?_
      refine w_goto (tgt := 45) C dX10_ofGlaze_36 (by rfl) ?_
      refine w_dret C M dX10_ofGlaze_45 ⟨by decide, by decide⟩ ⟨_, rfl, ?_⟩
      exact Or.inl ⟨c_3, rfl, YY.ex⟩
    · exact absurd c_10 (by decide)
  · 
    refine w_iconst (v := 1) C dX10_ofGlaze_6 (by rfl) ?_
    refine cl_X10_88 C (m_X10_startF hl mm) mm (by rfl) (by rfl) ⟨by decide, by decide⟩ (by rfl) dX10_ofGlaze_7 (fun z3 h3 p3 => ?_)
    obtain ⟨rfl, p3⟩ := p3
    have YY := YY.me (th2 := 0) (day2 := day) (dmp2 := dmp) (pur2 := pur) (rf2 := rf) p3
    obtain ⟨mm, mL, mk, mw, mCl, mGl, mPt, mOr, mRm, mn1, mn2, mn3⟩ := id YY
    refine w_if_ne (tgt := 35) C dX10_ofGlaze_10 (by rfl) (fun c_10 => ?_) (fun c_10 => ?_)
    · exact absurd c_10 (by decide)
    · try simp only [cg_ge, cg_gt, cl_gt, cl_le, cl_eq, cl_lt, cl_ge, bi_eq0, bi_ne0, bI_eq0, Decidable.not_not, Bool.not_eq_false] at c_10
      first | refine w_aload_n C dX10_ofGlaze_13 (by rfl) ?_ | refine w_aload_nN C dX10_ofGlaze_13 (by rfl) ?_
      refine w_iload_n C dX10_ofGlaze_14 (by rfl) ?_
      refine w_iconst (v := 0) C dX10_ofGlaze_15 (by rfl) ?_
      refine w_iconst (v := 2) C dX10_ofGlaze_16 (by rfl) ?_
      refine cl_X10_44 C (m_X10_isIn hl) (by rfl) (by rfl) ⟨by decide, by decide⟩ (by rfl) dX10_ofGlaze_17 (fun z4 h4 p4 => ?_)
      obtain ⟨rfl, rfl⟩ := p4
      refine w_if_ne (tgt := 27) C dX10_ofGlaze_20 (by rfl) (fun c_20 => ?_) (fun c_20 => ?_)
      · try simp only [cg_ge, cg_gt, cl_gt, cl_le, cl_eq, cl_lt, cl_ge, bi_eq0, bi_ne0, bI_eq0, Decidable.not_not, Bool.not_eq_false] at c_20
        refine w_iconst (v := 0) C dX10_ofGlaze_27 (by rfl) ?_
        refine w_iconst (v := 2) C dX10_ofGlaze_28 (by rfl) ?_
        refine cl_X10_36 C (m_X10_refuseF hl mm) mm (by rfl) (by rfl) ⟨by decide, by decide⟩ (by rfl) dX10_ofGlaze_29 (fun z5 h5 p5 => ?_)
        obtain ⟨rfl, rfl⟩ := p5
        refine w_if_eq (tgt := 39) C dX10_ofGlaze_32 (by rfl) (fun c_32 => ?_) (fun c_32 => ?_)
        · try simp only [cg_ge, cg_gt, cl_gt, cl_le, cl_eq, cl_lt, cl_ge, bi_eq0, bi_ne0, bI_eq0, Decidable.not_not, Bool.not_eq_false] at c_32
          have c_20b := c_20
          obtain ⟨w, hw, rfl⟩ := rng9 (n := 2) (by decide) c_20
          first | refine w_aload_n C dX10_ofGlaze_39 (by rfl) ?_ | refine w_aload_nN C dX10_ofGlaze_39 (by rfl) ?_
          refine w_iload_n C dX10_ofGlaze_40 (by rfl) ?_
          refine w_iload_n C dX10_ofGlaze_41 (by rfl) ?_
          refine cl_X10_275 C (m_X10_toldOfGlaze hl YY hj hw (hg j hj)) mm (by rfl) (by rfl) ⟨by decide, by decide⟩ (by rfl) dX10_ofGlaze_42 (fun z6 h6 p6 => ?_)
          obtain ⟨rfl, rfl⟩ := p6
          refine w_dret C M dX10_ofGlaze_45 ⟨by decide, by decide⟩ ⟨_, rfl, ?_⟩
          exact Or.inr ⟨j, hj, rfl, Or.inr ⟨c_20b, rfl, YY.ex⟩⟩
        · exact absurd c_32 (by decide)
      · try simp only [cg_ge, cg_gt, cl_gt, cl_le, cl_eq, cl_lt, cl_ge, bi_eq0, bi_ne0, bI_eq0, Decidable.not_not, Bool.not_eq_false] at c_20
        refine w_iconst (v := 1) C dX10_ofGlaze_23 (by rfl) ?_
        refine w_goto (tgt := 28) C dX10_ofGlaze_24 (by rfl) ?_
        refine w_iconst (v := 2) C dX10_ofGlaze_28 (by rfl) ?_
        refine cl_X10_36 C (m_X10_refuseT hl mm (by decide)) mm (by rfl) (by rfl) ⟨by decide, by decide⟩ (by rfl) dX10_ofGlaze_29 (fun z7 h7 p7 => ?_)
        obtain ⟨rfl, p7⟩ := p7
        have YY := YY.me (th2 := 2) (day2 := day) (dmp2 := dmp) (pur2 := pur) (rf2 := rf) p7
        obtain ⟨mm, mL, mk, mw, mCl, mGl, mPt, mOr, mRm, mn1, mn2, mn3⟩ := id YY
        refine w_if_eq (tgt := 39) C dX10_ofGlaze_32 (by rfl) (fun c_32 => ?_) (fun c_32 => ?_)
        · exact absurd c_32 (by decide)
        · try simp only [cg_ge, cg_gt, cl_gt, cl_le, cl_eq, cl_lt, cl_ge, bi_eq0, bi_ne0, bI_eq0, Decidable.not_not, Bool.not_eq_false] at c_32
          refine w_dconst0 C dX10_ofGlaze_35 ?_
          refine w_goto (tgt := 45) C dX10_ofGlaze_36 (by rfl) ?_
          refine w_dret C M dX10_ofGlaze_45 ⟨by decide, by decide⟩ ⟨_, rfl, ?_⟩
          exact Or.inr ⟨j, hj, rfl, Or.inl ⟨c_20, rfl, YY.ex⟩⟩
