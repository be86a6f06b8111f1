/-! CONTRACTS over abstract heaps, their starts, ends and calls -/
section SWS
variable {tc : Nat → ClassId} {A B : Nat → Prop} {U u s : State} {H H1 : Heap}
theorem SW.same (hv : u.vm = U.vm) (h : SW tc A u H) : SW tc A U H := by
  have al : u.vm.Alike U.vm := by rw [hv]; exact Vm.Alike.refl _
  obtain ⟨s0, ⟨a1, a2⟩, f1, f2, g1, g2, g3, g5, o2, o3, o4, o5, o6, w9⟩ := h
  exact ⟨va_T.moved al s0, ⟨va_Z.moved al a1, va_T.moved al a2⟩, vx_Zq.moved al f1, vx_Zq.moved al f2,
    fun C T w => va_Nw.same rfl hv (g1 C T w), fun a i b n d q w => va_Nw.same rfl hv (g2 a i b n d q w), fun a i y q w => va_Nw.same rfl hv (g3 a i y q w), fun o k tx w => by obtain ⟨a, ha⟩ := g5 o k tx w; exact ⟨a, vk_R.same hv.symm ha⟩,
    o2.moved al, o3.moved al, o4.moved al, o5.moved al, o6.moved al, fun y w => va_Nw.same rfl hv (w9 y w)⟩
theorem SW.warm (hW : s.WarmedH U.vm) (h : SW tc A s H) : SW tc A U H := by
  have al : s.vm.Alike U.vm := hW.alike
  obtain ⟨s0, ⟨a1, a2⟩, f1, f2, g1, g2, g3, g5, o2, o3, o4, o5, o6, w9⟩ := h
  exact ⟨va_T.moved al s0, ⟨va_Z.moved al a1, va_T.moved al a2⟩, vx_Zq.moved al f1, vx_Zq.moved al f2,
    fun C T w => va_Nw.warmC hW (g1 C T w), fun a i b n d q w => va_Nw.warmF hW (g2 a i b n d q w), fun a i y q w => va_Nw.warmM hW (g3 a i y q w), fun o k tx w => by obtain ⟨a, ha⟩ := g5 o k tx w; exact ⟨a, vk_R.warm hW ha⟩,
    o2.moved al, o3.moved al, o4.moved al, o5.moved al, o6.moved al, fun y w => va_Nw.warmD hW (w9 y w)⟩
theorem SW.kept (h : SW tc A U H) (hq : ∀ a : Nat, a < H.size → ¬ A a → H1[a]? = H[a]?) : SW tc A U H1 := by
  obtain ⟨s0, ⟨a1, a2⟩, f1, f2, g⟩ := h
  exact ⟨s0.kept hq, ⟨a1.kept hq, a2.kept hq⟩, f1.kept hq, f2.kept hq, g⟩
theorem SW.narrow (h : SW tc A U H) (hAB : ∀ q, B q → A q) : SW tc B U H := by
  obtain ⟨s0, ⟨a1, a2⟩, f1, f2, g⟩ := h
  exact ⟨s0.narrow hAB, ⟨a1.narrow hAB, a2.narrow hAB⟩, f1.narrow hAB, f2.narrow hAB, g⟩
end SWS
/-- a method's start: the heap h, and what stands fast -/
def PcH (D : va_G) (tc : Nat → ClassId) (args : List Value) (h : HM) (sz : Nat) : Array Value → State → Prop := va_Pc args (fun U => U.heap.size = sz ∧ PW D (fun _ => True) h U.heap ∧ KW D tc U ∧ SW tc (dm h sz) U U.heap)
/-- its end: the answer r, the heap h' -/
def QcH (D : va_G) (h : HM) (sz : Nat) (post : Option Value → HM → Prop) : Array Value → State → Outcome → State → Prop := fun _ st oc t => (∃ (r : Option Value) (h' : HM), oc = .returned r ∧ post r h' ∧ PW D (dm h sz) h' t.heap) ∧ va_F (dm h sz) st t
def XcH (D : va_G) (h : HM) (sz : Nat) (px : String → HM → Prop) : String → State → State → Prop := fun E st t => (∃ h' : HM, px E h' ∧ PW D (dm h sz) h' t.heap) ∧ va_F (dm h sz) st t
/-- a contract: from the heap h, with these arguments, the method returns, and post holds of the answer and the heap -/
def CT (l : Launch) (D : va_G) (tc : Nat → ClassId) (y : MethodName) (cc : ByteArray) (nL : Nat) (ret : Option FieldType) (rm : Room) (args : List Value) (h : HM) (post : Option Value → HM → Prop) : Prop :=
  ∀ sz : Nat, Met l y (lw_ws y cc nL ret) rm (PcH D tc args h sz) (QcH D h sz post) rm.cells rm.slots (dm h sz)
/-- a contract of a method that returns or throws -/
def CTX (l : Launch) (D : va_G) (tc : Nat → ClassId) (y : MethodName) (cc : ByteArray) (nL : Nat) (ret : Option FieldType) (rm : Room) (args : List Value) (h : HM) (post : Option Value → HM → Prop) (px : String → HM → Prop) : Prop :=
  ∀ sz : Nat, vx_Met l y (lw_ws y cc nL ret) rm (PcH D tc args h sz) (QcH D h sz post) (XcH D h sz px) rm.cells rm.slots (dm h sz)
theorem PcH_blind (D : va_G) (tc : Nat → ClassId) (args : List Value) (h : HM) (sz : Nat) : FrameBlind (PcH D tc args h sz) := by
  intro a U g mk ⟨h1, h2, h3, h4, h5⟩
  exact ⟨h1, h2, h3, va_K.moved (u := U) (U := U.calling g mk a) (Vm.Alike.refl U.vm) h4, SW.same (u := U) (U := U.calling g mk a) rfl h5⟩
/-- the locals at a method's start -/
def lvE : List Value → List (Option Value)
  | [] => []
  | v :: vs => if v.category = 2 then some v :: none :: lvE vs else some v :: lvE vs
theorem lvE_len : ∀ vs : List Value, (lvE vs).length = (lg_sl vs).length
  | [] => rfl
  | v :: vs => by
    by_cases hc : v.category = 2
    · simp [lvE, lg_sl, hc, lvE_len vs]
    · simp [lvE, lg_sl, hc, lvE_len vs]
theorem lvE_at : ∀ (vs : List Value) (i j : Nat) (v : Value), (lvE vs)[j]? = some (some v) → (i + j, v) ∈ lv_args i vs
  | [], i, j, v, h => by simp [lvE] at h
  | w :: vs, i, j, v, h => by
    by_cases hc : w.category = 2
    · simp only [lvE, hc, if_true] at h
      simp only [lv_args, hc, if_true]
      match j, h with
      | 0, h => simp at h; simp [h]
      | 1, h => simp at h
      | j + 2, h =>
        have := lvE_at vs (i + 2) j v (by simpa using h)
        exact List.mem_cons_of_mem _ (by rw [show i + (j + 2) = i + 2 + j by omega]; exact this)
    · simp only [lvE, hc, if_false] at h
      simp only [lv_args, hc, if_false]
      match j, h with
      | 0, h => simp at h; simp [h]
      | j + 1, h =>
        have := lvE_at vs (i + 1) j v (by simpa using h)
        exact List.mem_cons_of_mem _ (by rw [show i + (j + 1) = i + 1 + j by omega]; exact this)
theorem lvE_start {vs : List Value} {n : Nat} {lv : List (Option Value)} (he : lvE vs ++ List.replicate (n - (lvE vs).length) none = lv) (hl : lv.length = n) : lvh ((lg_sl vs ++ List.replicate (n - (lg_sl vs).length) Slot.unset).toArray) lv := by
  have h1 : (lg_sl vs).length ≤ n := by
    rw [← lvE_len, ← hl, ← he, List.length_append]
    omega
  obtain ⟨a, b, c⟩ := lv_entry vs h1
  refine ⟨a.trans hl.symm, b, fun i v hi => ?_⟩
  rw [← he] at hi
  by_cases hlt : i < (lvE vs).length
  · rw [List.getElem?_append_left hlt] at hi
    have := lvE_at vs 0 i v hi
    rw [Nat.zero_add] at this
    exact c (i, v) this
  · rw [List.getElem?_append_right (by omega), List.getElem?_replicate] at hi
    split at hi <;> cases hi
/-- what a method's body has in hand: whose start it is, and what is owed at its end -/
def MX (K : KC) (D : va_G) (tc : Nat → ClassId) (l : Launch) (rm : Room) (ret : Option FieldType) (h : HM) (post : Option Value → HM → Prop) (nm : String) : Prop :=
  D = KD K ∧ tc = Kt K ∧ l = Kl K ∧ KA K = dm h (Ks K).heap.size ∧ (Kme K).sig.returnType = ret ∧ (Kme K).locks = false ∧ (Kme K).name = nm ∧
  (KQ K = MQ (Kbe K) (QcH (KD K) h (Ks K).heap.size post) (Kar K) (Ks K) rm.cells rm.slots (dm h (Ks K).heap.size) ∨ ∃ px, KQ K = vx_MQ (Kbe K) (QcH (KD K) h (Ks K).heap.size post) (XcH (KD K) h (Ks K).heap.size px) (Kar K) (Ks K) rm.cells rm.slots (dm h (Ks K).heap.size))
/-- what a body that may throw has beside -/
def MXX (K : KC) (rm : Room) (h : HM) (post : Option Value → HM → Prop) (px : String → HM → Prop) : Prop :=
  KA K = dm h (Ks K).heap.size ∧ (Kme K).locks = false ∧ (∀ z ∈ (Kc K).exceptionTable.toList, False) ∧ KQ K = vx_MQ (Kbe K) (QcH (KD K) h (Ks K).heap.size post) (XcH (KD K) h (Ks K).heap.size px) (Kar K) (Ks K) rm.cells rm.slots (dm h (Ks K).heap.size)
theorem CT.start {l : Launch} {D : va_G} {tc : Nat → ClassId} {y : MethodName} {cc : ByteArray} {nL : Nat} {ret : Option FieldType} {rm : Room} {args : List Value} {h : HM} {post : Option Value → HM → Prop} (lv : List (Option Value)) (hy : plainName y.cls = true) (hl : l.stackTraces = false)
    (he : lvE args ++ List.replicate (nL - (lvE args).length) none = lv) (hn : lv.length = nL)
    (body : ∀ K : KC, CX K y.cls cc nL rm → MX K D tc l rm ret h post y.name → WW K (0, 0) 0 lv [] h) : CT l D tc y cc nL ret rm args h post := by
  intro sz
  refine Met.ofW (cc := cc) (maxL := nL) (ret := ret) hy rfl ?_
  intro p e s m args9 below meth c s₁ B hml hv
  obtain ⟨rfl, hsz, hP, hK, hS⟩ := hv
  subst hsz
  have hin : meth.name = y.name := (name_of_methodNamed B.named B.method).1
  have hts := atoms_spec (ws := lw_ws y cc nL ret) B.pre
  have hD : PW D (dm h s.heap.size) h s.heap := hP.weaken (fun a e9 ha => Or.inl ⟨e9, ha⟩)
  have key := body (p, l, e, rm, s, m, args.toArray, below, meth, c, D, tc, dm h s.heap.size, MQ below (QcH D h s.heap.size post) args.toArray s rm.cells rm.slots (dm h s.heap.size))
    ⟨B.exec, B.bytes, hml, findClass_of_methodNamed B.named, fun w hw => hts w (List.mem_cons_of_mem _ hw), hK, fun q hq => Or.inr hq, rfl, hS, hl⟩
    ⟨rfl, rfl, rfl, rfl, B.returns, B.notSynchronized, hin, Or.inl rfl⟩
  rw [lg_entry_eq]
  exact key s.heap [] _ hD va_S.rf (lvE_start he hn)
theorem CTX.start {l : Launch} {D : va_G} {tc : Nat → ClassId} {y : MethodName} {cc : ByteArray} {nL : Nat} {ret : Option FieldType} {rm : Room} {args : List Value} {h : HM} {post : Option Value → HM → Prop} {px : String → HM → Prop} (lv : List (Option Value)) (hy : plainName y.cls = true) (hl : l.stackTraces = false)
    (he : lvE args ++ List.replicate (nL - (lvE args).length) none = lv) (hn : lv.length = nL)
    (body : ∀ K : KC, CX K y.cls cc nL rm → MX K D tc l rm ret h post y.name → MXX K rm h post px → WW K (0, 0) 0 lv [] h) : CTX l D tc y cc nL ret rm args h post px := by
  intro sz
  refine vx_ofW (cc := cc) (maxL := nL) (ret := ret) hy rfl ?_
  intro p e s m args9 below meth c s₁ B hml ht hv
  obtain ⟨rfl, hsz, hP, hK, hS⟩ := hv
  subst hsz
  have hin : meth.name = y.name := (name_of_methodNamed B.named B.method).1
  have hts := atoms_spec (ws := lw_ws y cc nL ret) B.pre
  have hD : PW D (dm h s.heap.size) h s.heap := hP.weaken (fun a e9 ha => Or.inl ⟨e9, ha⟩)
  have key := body (p, l, e, rm, s, m, args.toArray, below, meth, c, D, tc, dm h s.heap.size, vx_MQ below (QcH D h s.heap.size post) (XcH D h s.heap.size px) args.toArray s rm.cells rm.slots (dm h s.heap.size))
    ⟨B.exec, B.bytes, hml, findClass_of_methodNamed B.named, fun w hw => hts w (List.mem_cons_of_mem _ hw), hK, fun q hq => Or.inr hq, rfl, hS, hl⟩
    ⟨rfl, rfl, rfl, rfl, B.returns, B.notSynchronized, hin, Or.inr ⟨px, rfl⟩⟩
    ⟨rfl, B.notSynchronized, ht, rfl⟩
  rw [lg_entry_eq]
  exact key s.heap [] _ hD va_S.rf (lvE_start he hn)
section ENDS
variable {K : KC} {n : Nat × Nat} {pc : Nat} {lv lv' : List (Option Value)} {st : List Value} {h h0 : HM} {own nm : String} {cc : ByteArray} {nL : Nat} {R rm : Room} {D : va_G} {tc : Nat → ClassId} {l : Launch} {ret : Option FieldType} {post : Option Value → HM → Prop}
theorem w_endQ (M : MX K D tc l rm ret h0 post nm) {g : JFrame} {H : Heap} {locs : List Loc}
    (k : W (Kp K) (Kl K) (Ke K) (KR K) (Ks K) (Km K) (Kar K) (Kbe K) (Kme K) (Kc K) H locs rm.cells rm.slots (MQ (Kbe K) (QcH (KD K) h0 (Ks K).heap.size post) (Kar K) (Ks K) rm.cells rm.slots (dm h0 (Ks K).heap.size)) g) :
    W (Kp K) (Kl K) (Ke K) (KR K) (Ks K) (Km K) (Kar K) (Kbe K) (Kme K) (Kc K) H locs rm.cells rm.slots (KQ K) g := by
  obtain ⟨-, -, -, -, -, -, -, h9 | ⟨px, h9⟩⟩ := M
  · rw [h9]; exact k
  · rw [h9]; exact vx_ret k
theorem w_qc {A : Nat → Prop} (M : MX K D tc l rm ret h0 post nm) {H : Heap} {locs : List Loc} (hP : PW (KD K) (KA K) h H) (hS : va_S (KA K) (Ks K).heap H locs) {r : Option Value} (hp : post r h) : ∀ t : State, t.heap = H → (Ks K).WarmedH t.vm → QcH (KD K) h0 (Ks K).heap.size post (Kar K) (Ks K) (.returned r) t := by
  obtain ⟨-, -, -, hA, -⟩ := M
  intro t ht hW
  rw [hA] at hP hS
  exact ⟨⟨r, h, rfl, hp, by rw [ht]; exact hP⟩, hS.F ht⟩
theorem w_ql (M : MX K D tc l rm ret h0 post nm) {H : Heap} {locs : List Loc} (hS : va_S (KA K) (Ks K).heap H locs) : ∀ q ∈ locs, dm h0 (Ks K).heap.size q.base := by
  obtain ⟨-, -, -, hA, -⟩ := M
  rw [hA] at hS
  exact hS.2.2
theorem w_iret (C : CX K own cc nL R) (M : MX K D tc l rm (some .int) h0 post nm) {v : Int32} (hd : decode cc pc = .ok (.ireturn, 1)) (hn : n.1 ≤ rm.cells ∧ n.2 ≤ rm.slots) (hp : post (some (.int v)) h) : WW K n pc lv [.int v] h := fun H locs ls hP hS hl =>
  W.widen hn.1 hn.2 (w_endQ M (W.iret C.1 C.2.1 M.2.2.2.2.1 (w_qc (A := KA K) M hP hS hp) (w_ql M hS) hd M.2.2.2.2.2.1))
theorem w_zret (C : CX K own cc nL R) (M : MX K D tc l rm (some .boolean) h0 post nm) {v : Int32} (hd : decode cc pc = .ok (.ireturn, 1)) (hn : n.1 ≤ rm.cells ∧ n.2 ≤ rm.slots) (hv : narrow .boolean (.int v) = .int v) (hp : post (some (.int v)) h) : WW K n pc lv [.int v] h := fun H locs ls hP hS hl =>
  W.widen hn.1 hn.2 (w_endQ M (W.zret C.1 C.2.1 M.2.2.2.2.1 hv (w_qc (A := KA K) M hP hS hp) (w_ql M hS) hd M.2.2.2.2.2.1))
theorem w_lret (C : CX K own cc nL R) (M : MX K D tc l rm (some .long) h0 post nm) {v : Int64} (hd : decode cc pc = .ok (.lreturn, 1)) (hn : n.1 ≤ rm.cells ∧ n.2 ≤ rm.slots) (hp : post (some (.long v)) h) : WW K n pc lv [.long v] h := fun H locs ls hP hS hl =>
  W.widen hn.1 hn.2 (w_endQ M (W.lret C.1 C.2.1 M.2.2.2.2.1 (w_qc (A := KA K) M hP hS hp) (w_ql M hS) hd M.2.2.2.2.2.1))
theorem w_dret (C : CX K own cc nL R) (M : MX K D tc l rm (some .double) h0 post nm) {v : UInt64} (hd : decode cc pc = .ok (.dreturn, 1)) (hn : n.1 ≤ rm.cells ∧ n.2 ≤ rm.slots) (hp : post (some (.double v)) h) : WW K n pc lv [.double v] h := fun H locs ls hP hS hl =>
  W.widen hn.1 hn.2 (w_endQ M (W.dret C.1 C.2.1 M.2.2.2.2.1 (w_qc (A := KA K) M hP hS hp) (w_ql M hS) hd M.2.2.2.2.2.1))
theorem w_fret (C : CX K own cc nL R) (M : MX K D tc l rm (some .float) h0 post nm) {v : UInt32} (hd : decode cc pc = .ok (.freturn, 1)) (hn : n.1 ≤ rm.cells ∧ n.2 ≤ rm.slots) (hp : post (some (.float v)) h) : WW K n pc lv [.float v] h := fun H locs ls hP hS hl =>
  W.widen hn.1 hn.2 (w_endQ M (W.fret C.1 C.2.1 M.2.2.2.2.1 (w_qc (A := KA K) M hP hS hp) (w_ql M hS) hd M.2.2.2.2.2.1))
theorem w_aret (C : CX K own cc nL R) {rt : FieldType} (M : MX K D tc l rm (some rt) h0 post nm) {v : Value} (hd : decode cc pc = .ok (.areturn, 1)) (hn : n.1 ≤ rm.cells ∧ n.2 ≤ rm.slots) (hrt : (∃ n, rt = .object n) ∨ ∃ t, rt = .array t) (hv : v = .null ∨ ∃ a, v = .ref a) (hp : post (some v) h) : WW K n pc lv [v] h := fun H locs ls hP hS hl =>
  W.widen hn.1 hn.2 (w_endQ M (W.aret C.1 C.2.1 M.2.2.2.2.1 hrt hv (w_qc (A := KA K) M hP hS hp) (w_ql M hS) hd M.2.2.2.2.2.1))
theorem w_vret (C : CX K own cc nL R) (M : MX K D tc l rm none h0 post nm) (hd : decode cc pc = .ok (.return_, 1)) (hn : n.1 ≤ rm.cells ∧ n.2 ≤ rm.slots) (hp : post none h) : WW K n pc lv [] h := fun H locs ls hP hS hl =>
  W.widen hn.1 hn.2 (w_endQ M (W.vret C.1 C.2.1 M.2.2.2.2.1 (w_qc (A := KA K) M hP hS hp) (w_ql M hS) hd M.2.2.2.2.2.1))
end ENDS
