/-- a frame over which an exception of that name goes -/
def WX (K : KC) (n : Nat × Nat) (pc : Nat) (lv : List (Option Value)) (st : List Value) (h : HM) (E : String) : Prop :=
  ∀ (H : Heap) (locs : List Loc) (ls : Array Slot) (q : Addr) (ce : Cell), PW (KD K) (KA K) h H → va_S (KA K) (Ks K).heap H locs → lvh ls lv → H[q]? = some ce → ce.vm = .none → (Ks K).vm.findClass E = some ce.cls →
    vx_W (Kp K) (Kl K) (Ke K) (KR K) (Ks K) (Km K) (Kar K) (Kbe K) (Kme K) (Kc K) H locs n.1 n.2 (KQ K) (F0 (Km K) pc ls st) q
theorem goodIn_ws {y : MethodName} {cc : ByteArray} {nL : Nat} {ret : Option FieldType} (h : Cond.code y cc nL ret ∈ lw_G) : GoodIn lw_G (lw_ws y cc nL ret) := fun w hw => by
  rcases List.mem_cons.mp hw with e | hw
  · rw [e]; exact ⟨h, good_of_word (G_good h)⟩
  · exact ⟨hw, good_of_word (G_good hw)⟩
/-- what is decided of a callee's name -/
def okY (y : MethodName) (k : Nat) : Bool := decide (y.cls ≠ "java/lang/invoke/MethodHandle") && decide (y.cls ≠ "java/lang/invoke/VarHandle") && ((parseMethodDescriptor y.desc).map (fun d => d.parameters.length) == some k)
theorem okY_spec {y : MethodName} {k : Nat} (h : okY y k = true) : y.cls ≠ "java/lang/invoke/MethodHandle" ∧ y.cls ≠ "java/lang/invoke/VarHandle" ∧ (parseMethodDescriptor y.desc).map (fun d => d.parameters.length) = some k := by
  simp only [okY, Bool.and_eq_true, decide_eq_true_eq, beq_iff_eq] at h
  exact ⟨h.1.1, h.1.2, h.2⟩
/-- what is decided of the room: the callee's in the caller's -/
def okR (rm R : Room) (nL' : Nat) : Bool := Nat.ble (rm.frames + 1) R.frames && Nat.ble (8 + (nL' + 11) + rm.locals) R.locals
theorem okR_spec {rm R : Room} {nL' : Nat} (h : okR rm R nL' = true) : rm.frames + 1 ≤ R.frames ∧ 8 + (nL' + 11) + rm.locals ≤ R.locals := by
  simp only [okR, Bool.and_eq_true, Nat.ble_eq] at h
  exact h
def okS (st : List Value) : Bool := Nat.ble (st.map fun v => v.category).sum 8
section RUNS
variable {K : KC} {n : Nat × Nat} {pc : Nat} {lv lv' : List (Option Value)} {st st0 : List Value} {h : HM} {own : String} {cc : ByteArray} {nL : Nat} {R : Room}
theorem cx_fix (C : CX K own cc nL R) : CallFix (Kp K) (Km K) (Kc K) cc nL (Ks K) (Kar K) lw_G own := ⟨C.1, C.2.1, C.2.2.1, C.2.2.2.1, C.2.2.2.2.1⟩
theorem dm_sub (C : CX K own cc nL R) {H : Heap} {locs : List Loc} (hP : PW (KD K) (KA K) h H) (hS : va_S (KA K) (Ks K).heap H locs) : ∀ q, dm h H.size q → KA K q := by
  intro q hq
  rcases hq with ⟨e, he⟩ | hq
  · exact hP.inA he
  · exact C.2.2.2.2.2.2.1 q (Nat.le_trans hS.1 hq)
theorem cx_pre (C : CX K own cc nL R) {H : Heap} {locs : List Loc} (hP : PW (KD K) (KA K) h H) (hS : va_S (KA K) (Ks K).heap H locs) (As : List Value) : ∀ U : State, U.heap = H → (Ks K).WarmedH U.vm → PcH (KD K) (Kt K) As h H.size As.toArray U := by
  intro U hU hW
  refine ⟨rfl, by rw [hU], by rw [hU]; exact hP.weaken (fun _ _ _ => trivial), va_K.moved hW.alike C.2.2.2.2.2.1, ?_⟩
  rw [hU]
  exact SW.warm hW ((C.2.2.2.2.2.2.2.2.1.kept (fun a h1 h2 => hS.2.1 a h1 h2)).narrow (dm_sub C hP hS))
theorem w_run (C : CX K own cc nL R) {H : Heap} {locs : List Loc} {ls : Array Slot} (hP : PW (KD K) (KA K) h H) (hS : va_S (KA K) (Ks K).heap H locs) (hl : lvh ls lv) {mc ms : Nat} {post : Option Value → HM → Prop} {a : Array Value}
    (hr : va_Run (Kp K) (Kl K) (Ke K) (KR K) (Ks K) (Km K) (Kar K) (Kbe K) (Kme K) (Kc K) H locs n.1 n.2 mc ms (F0 (Km K) pc ls st0) st (QcH (KD K) h H.size post a) (dm h H.size))
    (kk : ∀ (r : Option Value) (h' : HM), post r h' → WW K (n.1 + mc, n.2 + ms) (pc + 3) lv (r.toList ++ st) h') : W (Kp K) (Kl K) (Ke K) (KR K) (Ks K) (Km K) (Kar K) (Kbe K) (Kme K) (Kc K) H locs n.1 n.2 (KQ K) (F0 (Km K) pc ls st0) := by
  intro T hT X
  obtain ⟨v, st₀, t, T', L, h0, X', hL, e1, e2, ⟨⟨r, h', hv, hp, hP'⟩, hF⟩, st⟩ := hr T hT X
  cases hv
  have hA := dm_sub C hP hS
  obtain ⟨k1, k2, k3⟩ := vx_keep h0 e1 hS (fun q _ z => hA q z) (fun q z => hA q z) hL hF
  obtain ⟨t2, a1, b1⟩ := kk v h' hp T'.heap (locs ++ L) ls (by rw [e1]; exact hP'.weaken (fun a e9 ha => hA a (hP'.inA ha))) k3 hl T' rfl X'
  exact ⟨t2, st t2 a1, b1⟩
theorem w_run5 (C : CX K own cc nL R) {H : Heap} {locs : List Loc} {ls : Array Slot} (hP : PW (KD K) (KA K) h H) (hS : va_S (KA K) (Ks K).heap H locs) (hl : lvh ls lv) {mc ms : Nat} {post : Option Value → HM → Prop} {a : Array Value}
    (hr : va_Run5 (Kp K) (Kl K) (Ke K) (KR K) (Ks K) (Km K) (Kar K) (Kbe K) (Kme K) (Kc K) H locs n.1 n.2 mc ms (F0 (Km K) pc ls st0) st (QcH (KD K) h H.size post a) (dm h H.size))
    (kk : ∀ (r : Option Value) (h' : HM), post r h' → WW K (n.1 + mc, n.2 + ms) (pc + 5) lv (r.toList ++ st) h') : W (Kp K) (Kl K) (Ke K) (KR K) (Ks K) (Km K) (Kar K) (Kbe K) (Kme K) (Kc K) H locs n.1 n.2 (KQ K) (F0 (Km K) pc ls st0) := by
  intro T hT X
  obtain ⟨v, st₀, t, T', L, h0, X', hL, e1, e2, ⟨⟨r, h', hv, hp, hP'⟩, hF⟩, st⟩ := hr T hT X
  cases hv
  have hA := dm_sub C hP hS
  obtain ⟨k1, k2, k3⟩ := vx_keep h0 e1 hS (fun q _ z => hA q z) (fun q z => hA q z) hL hF
  obtain ⟨t2, a1, b1⟩ := kk v h' hp T'.heap (locs ++ L) ls (by rw [e1]; exact hP'.weaken (fun a e9 ha => hA a (hP'.inA ha))) k3 hl T' rfl X'
  exact ⟨t2, st t2 a1, b1⟩
theorem w_runX (C : CX K own cc nL R) {H : Heap} {locs : List Loc} {ls : Array Slot} (hP : PW (KD K) (KA K) h H) (hS : va_S (KA K) (Ks K).heap H locs) (hl : lvh ls lv) {mc ms : Nat} {post : Option Value → HM → Prop} {px : String → HM → Prop} {a : Array Value}
    (hr : vx_Run (Kp K) (Kl K) (Ke K) (KR K) (Ks K) (Km K) (Kar K) (Kbe K) (Kme K) (Kc K) H locs n.1 n.2 mc ms (F0 (Km K) pc ls st0) st (QcH (KD K) h H.size post a) (XcH (KD K) h H.size px) (dm h H.size))
    (kk : ∀ (r : Option Value) (h' : HM), post r h' → WW K (n.1 + mc, n.2 + ms) (pc + 3) lv (r.toList ++ st) h')
    (kx : ∀ (E : String) (h' : HM), px E h' → WX K (n.1 + mc, n.2 + ms) pc lv st h' E) : W (Kp K) (Kl K) (Ke K) (KR K) (Ks K) (Km K) (Kar K) (Kbe K) (Kme K) (Kc K) H locs n.1 n.2 (KQ K) (F0 (Km K) pc ls st0) := by
  intro T hT X
  have hA := dm_sub C hP hS
  rcases hr T hT X with ⟨v, st₀, t, T', L, h0, X', hL, e1, e2, ⟨⟨r, h', hv, hp, hP'⟩, hF⟩, st⟩ | ⟨q, st₀, t, T', L, E, ce, h0, X', hL, e1, e2, ⟨⟨h', hp, hP'⟩, hF⟩, hce, hcv, hcl, st⟩
  · cases hv
    obtain ⟨k1, k2, k3⟩ := vx_keep h0 e1 hS (fun q _ z => hA q z) (fun q z => hA q z) hL hF
    obtain ⟨t2, a1, b1⟩ := kk v h' hp T'.heap (locs ++ L) ls (by rw [e1]; exact hP'.weaken (fun a e9 ha => hA a (hP'.inA ha))) k3 hl T' rfl X'
    exact ⟨t2, st t2 a1, b1⟩
  · obtain ⟨k1, k2, k3⟩ := vx_keep h0 e1 hS (fun q _ z => hA q z) (fun q z => hA q z) hL hF
    obtain ⟨t2, a1, b1⟩ := kx E h' hp T'.heap (locs ++ L) ls q ce (by rw [e1]; exact hP'.weaken (fun a e9 ha => hA a (hP'.inA ha))) k3 hl (by rw [e1]; exact hce) hcv hcl T' rfl X'
    exact ⟨t2, st.trans a1, b1⟩
theorem h_recv {H : Heap} (C : CX K own cc nL R) {b ci : Nat} {fs : List Value} {r : vw_C} (hP : PW (KD K) (KA K) h H) (hb : h b = some (.inr (ci, fs))) (hc : vwCl[ci]? = some r) : ∃ cell : Cell, H[b]? = some cell ∧ cell.vm.isStatics = false ∧ (Ks K).vm.findClass r.1 = some cell.cls := by
  obtain ⟨ws, k9, e1, p1, p2, -⟩ := hP.cel1 hb
  exact va_recv C.2.2.2.2.2.1 p1 hc e1
variable {y : MethodName} {cc' : ByteArray} {nL' idx : Nat} {ret' : Option FieldType} {rm : Room} {As : List Value} {post : Option Value → HM → Prop} {px : String → HM → Prop}
theorem w_S (C : CX K own cc nL R) (hM : CT (Kl K) (KD K) (Kt K) y cc' nL' ret' rm As h post) (w1 : Cond.methodLink own idx y ∈ lw_G) (w2 : Cond.static y ∈ lw_G) (w3 : Cond.initialized y.cls ∈ lw_G) (w4 : Cond.code y cc' nL' ret' ∈ lw_G)
    (hy : okY y As.length = true) (hR : okR rm R nL' = true) (hc : okS st = true) (hn : n.1 + rm.cells ≤ R.cells ∧ n.2 + rm.slots ≤ R.slots) (hnl : lv.length = nL) (hst : st0 = As.reverse ++ st) (hd : decode cc pc = .ok (.invokestatic idx, 3))
    (kk : ∀ (r : Option Value) (h' : HM), post r h' → WW K (n.1 + rm.cells, n.2 + rm.slots) (pc + 3) lv (r.toList ++ st) h') : WW K n pc lv st0 h := by
  intro H locs ls hP hS hl
  have hR9 := C.2.2.2.2.2.2.2.1
  refine w_run C hP hS hl (va_runS (cx_fix C) (hM H.size) ⟨callB_of As.length C.2.2.2.2.1 (goodIn_ws w4) rfl rfl rfl (C.2.2.2.2.1 _ w3) (C.2.2.2.2.1 _ w1) (okY_spec hy) (by rw [hR9]; exact okR_spec hR), C.2.2.2.2.1 _ w2⟩ ⟨PcH_blind _ _ _ _ _, cx_pre C hP hS As⟩ rfl rfl (hl.1.trans hnl) hst (lv_room (by simpa [okS] using hc)) hd (by rw [hR9]; exact hn)) kk
theorem w_V (C : CX K own cc nL R) {b ci : Nat} {fs : List Value} {r : vw_C} (hM : CT (Kl K) (KD K) (Kt K) y cc' nL' ret' rm (.ref b :: As) h post) (hb : h b = some (.inr (ci, fs))) (hcl : vwCl[ci]? = some r) (w1 : Cond.methodLink own idx y ∈ lw_G) (w2 : Cond.instanceMethod y ∈ lw_G) (w3 : Cond.initialized y.cls ∈ lw_G) (w4 : Cond.code y cc' nL' ret' ∈ lw_G) (w5 : Cond.selects r.1 y y ∈ lw_G)
    (hy : okY y As.length = true) (hR : okR rm R nL' = true) (hc : okS st = true) (hn : n.1 + rm.cells ≤ R.cells ∧ n.2 + rm.slots ≤ R.slots) (hnl : lv.length = nL) (hst : st0 = As.reverse ++ .ref b :: st) (hd : decode cc pc = .ok (.invokevirtual idx, 3))
    (kk : ∀ (r : Option Value) (h' : HM), post r h' → WW K (n.1 + rm.cells, n.2 + rm.slots) (pc + 3) lv (r.toList ++ st) h') : WW K n pc lv st0 h := by
  intro H locs ls hP hS hl
  have hR9 := C.2.2.2.2.2.2.2.1
  refine w_run C hP hS hl (va_runV (cx_fix C) (hM H.size) ⟨callB_of As.length C.2.2.2.2.1 (goodIn_ws w4) rfl rfl rfl (C.2.2.2.2.1 _ w3) (C.2.2.2.2.1 _ w1) (okY_spec hy) (by rw [hR9]; exact okR_spec hR), C.2.2.2.2.1 _ w2, C.2.2.2.2.1 _ w5⟩ ⟨PcH_blind _ _ _ _ _, h_recv C hP hb hcl, cx_pre C hP hS (.ref b :: As)⟩ rfl rfl (hl.1.trans hnl) hst (lv_room (by simpa [okS] using hc)) hd (by rw [hR9]; exact hn)) kk
theorem w_I (C : CX K own cc nL R) {b : Nat} (hM : CT (Kl K) (KD K) (Kt K) y cc' nL' none rm (.ref b :: As) h post) (hin : y.name = "<init>") (w1 : Cond.methodLink own idx y ∈ lw_G) (w2 : Cond.instanceMethod y ∈ lw_G) (w3 : Cond.initialized y.cls ∈ lw_G) (w4 : Cond.code y cc' nL' none ∈ lw_G)
    (hy : okY y As.length = true) (hR : okR rm R nL' = true) (hc : okS st = true) (hn : n.1 + rm.cells ≤ R.cells ∧ n.2 + rm.slots ≤ R.slots) (hnl : lv.length = nL) (hst : st0 = As.reverse ++ .ref b :: st) (hd : decode cc pc = .ok (.invokespecial idx, 3))
    (kk : ∀ (r : Option Value) (h' : HM), post r h' → WW K (n.1 + rm.cells, n.2 + rm.slots) (pc + 3) lv (r.toList ++ st) h') : WW K n pc lv st0 h := by
  intro H locs ls hP hS hl
  have hR9 := C.2.2.2.2.2.2.2.1
  refine w_run C hP hS hl (va_runI (cx_fix C) (hM H.size) ⟨callB_of As.length C.2.2.2.2.1 (goodIn_ws w4) rfl rfl rfl (C.2.2.2.2.1 _ w3) (C.2.2.2.2.1 _ w1) (okY_spec hy) (by rw [hR9]; exact okR_spec hR), hin, C.2.2.2.2.1 _ w2⟩ ⟨PcH_blind _ _ _ _ _, cx_pre C hP hS (.ref b :: As)⟩ rfl rfl (hl.1.trans hnl) hst (lv_room (by simpa [okS] using hc)) hd (by rw [hR9]; exact hn)) kk
theorem w_SX (C : CX K own cc nL R) (hM : CTX (Kl K) (KD K) (Kt K) y cc' nL' ret' rm As h post px) (w1 : Cond.methodLink own idx y ∈ lw_G) (w2 : Cond.static y ∈ lw_G) (w3 : Cond.initialized y.cls ∈ lw_G) (w4 : Cond.code y cc' nL' ret' ∈ lw_G)
    (hy : okY y As.length = true) (hR : okR rm R nL' = true) (hc : okS st = true) (hn : n.1 + rm.cells ≤ R.cells ∧ n.2 + rm.slots ≤ R.slots) (hnl : lv.length = nL) (hst : st0 = As.reverse ++ st) (hd : decode cc pc = .ok (.invokestatic idx, 3))
    (kk : ∀ (r : Option Value) (h' : HM), post r h' → WW K (n.1 + rm.cells, n.2 + rm.slots) (pc + 3) lv (r.toList ++ st) h')
    (kx : ∀ (E : String) (h' : HM), px E h' → WX K (n.1 + rm.cells, n.2 + rm.slots) pc lv st h' E) : WW K n pc lv st0 h := by
  intro H locs ls hP hS hl
  have hR9 := C.2.2.2.2.2.2.2.1
  refine w_runX C hP hS hl (vx_runS (cx_fix C) (hM H.size) ⟨callB_of As.length C.2.2.2.2.1 (goodIn_ws w4) rfl rfl rfl (C.2.2.2.2.1 _ w3) (C.2.2.2.2.1 _ w1) (okY_spec hy) (by rw [hR9]; exact okR_spec hR), C.2.2.2.2.1 _ w2⟩ ⟨PcH_blind _ _ _ _ _, cx_pre C hP hS As⟩ rfl rfl (hl.1.trans hnl) hst (lv_room (by simpa [okS] using hc)) hd (by rw [hR9]; exact hn)) kk kx
theorem w_VX (C : CX K own cc nL R) {b ci : Nat} {fs : List Value} {r : vw_C} (hM : CTX (Kl K) (KD K) (Kt K) y cc' nL' ret' rm (.ref b :: As) h post px) (hb : h b = some (.inr (ci, fs))) (hcl : vwCl[ci]? = some r) (w1 : Cond.methodLink own idx y ∈ lw_G) (w2 : Cond.instanceMethod y ∈ lw_G) (w3 : Cond.initialized y.cls ∈ lw_G) (w4 : Cond.code y cc' nL' ret' ∈ lw_G) (w5 : Cond.selects r.1 y y ∈ lw_G)
    (hy : okY y As.length = true) (hR : okR rm R nL' = true) (hc : okS st = true) (hn : n.1 + rm.cells ≤ R.cells ∧ n.2 + rm.slots ≤ R.slots) (hnl : lv.length = nL) (hst : st0 = As.reverse ++ .ref b :: st) (hd : decode cc pc = .ok (.invokevirtual idx, 3))
    (kk : ∀ (r : Option Value) (h' : HM), post r h' → WW K (n.1 + rm.cells, n.2 + rm.slots) (pc + 3) lv (r.toList ++ st) h')
    (kx : ∀ (E : String) (h' : HM), px E h' → WX K (n.1 + rm.cells, n.2 + rm.slots) pc lv st h' E) : WW K n pc lv st0 h := by
  intro H locs ls hP hS hl
  have hR9 := C.2.2.2.2.2.2.2.1
  refine w_runX C hP hS hl (vx_runV (cx_fix C) (hM H.size) ⟨callB_of As.length C.2.2.2.2.1 (goodIn_ws w4) rfl rfl rfl (C.2.2.2.2.1 _ w3) (C.2.2.2.2.1 _ w1) (okY_spec hy) (by rw [hR9]; exact okR_spec hR), C.2.2.2.2.1 _ w2, C.2.2.2.2.1 _ w5⟩ ⟨PcH_blind _ _ _ _ _, h_recv C hP hb hcl, cx_pre C hP hS (.ref b :: As)⟩ rfl rfl (hl.1.trans hnl) hst (lv_room (by simpa [okS] using hc)) hd (by rw [hR9]; exact hn)) kk kx
/-- it goes on to the caller -/
theorem w_prop {h0 : HM} {post9 : Option Value → HM → Prop} {px9 : String → HM → Prop} {E : String} (X : MXX K rm h0 post9 px9) (hn : n.1 ≤ rm.cells ∧ n.2 ≤ rm.slots) (hp : px9 E h) : WX K n pc lv st h E := by
  intro H locs ls q ce hP hS hl hq hv hE
  obtain ⟨hA, hlk, ht, hQ⟩ := X
  rw [hQ]
  rw [hA] at hP hS
  exact vx_out (fun z hz => (ht z hz).elim) hlk hq hv hE (fun t ht _ => ⟨⟨h, hp, by rw [ht]; exact hP⟩, hS.F ht⟩) hS.2.2 hn.1 hn.2
end RUNS
