/-! METHODS WITH HANDLERS -/
def lw_wh (y : MethodName) (cc : ByteArray) (nL : Nat) (ret : Option FieldType) (hh : List (Nat × Nat × Nat × Nat)) : List Cond := .codeWith y cc nL ret hh :: lw_G
/-- which of the three exceptions is none of another's -/
def NCs (U : State) : Prop := va_Nc "java/lang/IllegalArgumentException" "java/lang/IllegalStateException" U ∧ va_Nc "java/lang/IllegalStateException" "java/lang/IllegalArgumentException" U ∧ va_Nc "java/lang/IllegalArgumentException" "java/lang/IndexOutOfBoundsException" U ∧ va_Nc "java/lang/IllegalStateException" "java/lang/IndexOutOfBoundsException" U ∧ va_Nc "java/lang/IndexOutOfBoundsException" "java/lang/IllegalArgumentException" U ∧ va_Nc "java/lang/IndexOutOfBoundsException" "java/lang/IllegalStateException" U
theorem NCs.moved {u U : State} (hvm : u.vm.Alike U.vm) (h : NCs u) : NCs U := ⟨h.1.moved hvm, h.2.1.moved hvm, h.2.2.1.moved hvm, h.2.2.2.1.moved hvm, h.2.2.2.2.1.moved hvm, h.2.2.2.2.2.moved hvm⟩
def PcN (D : va_G) (tc : Nat → ClassId) (args : List Value) (h : HM) (sz : Nat) : Array Value → State → Prop := fun a U => PcH D tc args h sz a U ∧ NCs U
/-- a contract of a method that catches what it calls -/
def CTW (l : Launch) (D : va_G) (tc : Nat → ClassId) (y : MethodName) (cc : ByteArray) (nL : Nat) (ret : Option FieldType) (hh : List (Nat × Nat × Nat × Nat)) (rm : Room) (args : List Value) (h : HM) (post : Option Value → HM → Prop) : Prop :=
  ∀ sz : Nat, vx_Met l y (lw_wh y cc nL ret hh) rm (PcN D tc args h sz) (QcH D h sz post) (XcH D h sz (fun _ _ => False)) rm.cells rm.slots (dm h sz)
theorem CTW.start {l : Launch} {D : va_G} {tc : Nat → ClassId} {y : MethodName} {cc : ByteArray} {nL : Nat} {ret : Option FieldType} {hh : List (Nat × Nat × Nat × Nat)} {rm : Room} {args : List Value} {h : HM} {post : Option Value → HM → Prop} (lv : List (Option Value)) (hy : plainName y.cls = true) (hl : l.stackTraces = false)
    (he : lvE args ++ List.replicate (nL - (lvE args).length) none = lv) (hn : lv.length = nL)
    (body : ∀ K : KC, CX K y.cls cc nL rm → MX K D tc l rm ret h post y.name → (Kc K).exceptionTable.toList = tableOf hh → NCs (Ks K) → WW K (0, 0) 0 lv [] h) : CTW l D tc y cc nL ret hh rm args h post := by
  intro sz
  refine vx_ofWH (cc := cc) (maxL := nL) (ret := ret) (hh := hh) hy rfl ?_
  intro p e s m args9 below meth c s₁ B hml hv
  obtain ⟨⟨rfl, hsz, hP, hK, hS⟩, hN⟩ := hv
  subst hsz
  have hin : meth.name = y.name := (name_of_methodNamed B.named B.method).1
  have hts := atoms_spec (ws := lw_wh y cc nL ret hh) B.pre
  have ht := vx_table (x := y) B (hts _ List.mem_cons_self)
  have hD : PW D (dm h s.heap.size) h s.heap := hP.weaken (fun a e9 ha => Or.inl ⟨e9, ha⟩)
  have key := body (p, l, e, rm, s, m, args.toArray, below, meth, c, D, tc, dm h s.heap.size, vx_MQ below (QcH D h s.heap.size post) (XcH D h s.heap.size (fun _ _ => False)) args.toArray s rm.cells rm.slots (dm h s.heap.size))
    ⟨B.exec, B.bytes, hml, findClass_of_methodNamed B.named, fun w hw => hts w (List.mem_cons_of_mem _ hw), hK, fun q hq => Or.inr hq, rfl, hS, hl⟩
    ⟨rfl, rfl, rfl, rfl, B.returns, B.notSynchronized, hin, Or.inr ⟨_, rfl⟩⟩ ht hN
  rw [lg_entry_eq]
  exact key s.heap [] _ hD va_S.rf (lvE_start he hn)
section CATCH
variable {K : KC} {n : Nat × Nat} {pc : Nat} {lv : List (Option Value)} {st : List Value} {h : HM} {own : String} {cc : ByteArray} {nL : Nat} {R : Room}
theorem w_catch (C : CX K own cc nL R) {E : String} (pre : List ExceptionTableEntry) (x : ExceptionTableEntry) (suf : List ExceptionTableEntry) (hsplit : (Kc K).exceptionTable.toList = pre ++ x :: suf)
    (hpass : ∀ z ∈ pre, covers z pc = false ∨ (z.catchType ≠ 0 ∧ ∃ nm : String, Cond.classLink own z.catchType nm ∈ lw_G ∧ va_Nc E nm (Ks K))) (hx : covers x pc = true) (h0 : x.catchType ≠ 0)
    (w1 : Cond.classLink own x.catchType E ∈ lw_G) (w2 : Cond.castable E E ∈ lw_tbl) (kk : ∀ q : Nat, WW K n x.handlerPc lv [.ref q] h) : WX K n pc lv st h E := by
  intro H locs ls q ce hP hS hl hq hv hE
  refine vx_catch C.2.2.2.1 pre x suf hsplit (fun z hz => ?_) hx h0 (C.2.2.2.2.1 _ w1) (va_Nw.use (A := Kar K) rfl (sw_cast C _ _ w2)) hq hv hE (kk q H locs ls hP hS hl)
  rcases hpass z hz with a | ⟨a1, nm, a2, a3⟩
  · exact Or.inl a
  · exact Or.inr ⟨a1, nm, C.2.2.2.2.1 _ a2, a3⟩
theorem PcN_blind (D : va_G) (tc : Nat → ClassId) (args : List Value) (h : HM) (sz : Nat) : FrameBlind (PcN D tc args h sz) := by
  intro a U g mk ⟨h1, h2⟩
  exact ⟨PcH_blind D tc args h sz a U g mk h1, h2.moved (Vm.Alike.refl U.vm)⟩
theorem goodIn_wh {y : MethodName} {cc : ByteArray} {nL : Nat} {ret : Option FieldType} {hh : List (Nat × Nat × Nat × Nat)} (h : Cond.codeWith y cc nL ret hh ∈ lw_G) : GoodIn lw_G (lw_wh y cc nL ret hh) := fun w hw => by
  rcases List.mem_cons.mp hw with e | hw
  · rw [e]; exact ⟨h, good_of_word (G_good h)⟩
  · exact ⟨hw, good_of_word (G_good hw)⟩
end CATCH
