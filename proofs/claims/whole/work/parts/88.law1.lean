/-! THE LAW'S WALK: what its calls need -/
/-- the law's two rows of answers -/
def LO (tc : Nat → ClassId) (o3 o4 : Nat) (fL : Nat → Int64) (fD : Nat → UInt64) (h : HM) : Prop := h o3 = some (.inl (tc 1, 1, .inr (.inl fL))) ∧ h o4 = some (.inl (tc 2, 1, .inr (.inr (.inr (.inl fD)))))
/-- the law's heap: the class's yard, the reference's, the two rows -/
def LJ (tc : Nat → ClassId) (y0 m0 o3 o4 kl wk c : Nat) (h : HM) : Prop := ∃ (hA hB hO : HM) (fL : Nat → Int64) (fD : Nat → UInt64) (th : Int32), h = hj hA (hj hB hO) ∧ D2 hA hB ∧ D2 hA hO ∧ D2 hB hO ∧ LO tc o3 o4 fL fD hO ∧ J9 tc y0 m0 kl wk c th hA hB
/-- the script: a row that was there before, of L ints -/
def LX (K : KC) (b L : Nat) (xs : Nat → Int32) : Prop := va_X b L xs (Ks K) (Ks K).heap ∧ b < (Ks K).heap.size ∧ ¬ KA K b
section LAW1
variable {K : KC} {n : Nat × Nat} {pc : Nat} {lv : List (Option Value)} {st st0 : List Value} {h : HM} {own : String} {cc : ByteArray} {nL : Nat} {R : Room}
theorem w_sld (C : CX K own cc nL R) {b L : Nat} {xs : Nat → Int32} (X : LX K b L xs) {i : Int32} (hin : vp_in i L) (hd : decode cc pc = .ok (.iaload, 1)) (k : WW K n (pc + 1) lv (.int (xs i.toNatClampNeg) :: st) h) : WW K n pc lv (.int i :: .ref b :: st) h :=
  fun H locs ls hP hS hl => va_sld C.1 C.2.1 X.1 X.2.1 X.2.2 hS hin hd (k H locs ls hP hS hl)
theorem w_slen (C : CX K own cc nL R) {b L : Nat} {xs : Nat → Int32} (X : LX K b L xs) (hd : decode cc pc = .ok (.arraylength, 1)) (k : WW K n (pc + 1) lv (.int (Int32.ofNat L) :: st) h) : WW K n pc lv (.ref b :: st) h :=
  fun H locs ls hP hS hl => va_slen C.1 C.2.1 X.1 X.2.1 X.2.2 hS hd (k H locs ls hP hS hl)
theorem w_SWI (C : CX K own cc nL R) (hN : NCs (Ks K)) {y : MethodName} {cc' : ByteArray} {nL' : Nat} {ret' : Option FieldType} {hh : List (Nat × Nat × Nat × Nat)} {rm : Room} {As : List Value} {p : Int32 → HM → Prop} {idx : Nat} (hM : CTW (Kl K) (KD K) (Kt K) y cc' nL' ret' hh rm As h (rI p)) (w1 : Cond.methodLink own idx y ∈ lw_G) (w2 : Cond.static y ∈ lw_G) (w3 : Cond.initialized y.cls ∈ lw_G) (w4 : Cond.codeWith y cc' nL' ret' hh ∈ lw_G)
    (hy : okY y As.length = true) (hR : okR rm R nL' = true) (hn : n.1 + rm.cells ≤ R.cells ∧ n.2 + rm.slots ≤ R.slots) (hnl : lv.length = nL) (hst : st0 = As.reverse) (hd : decode cc pc = .ok (.invokestatic idx, 3))
    (kk : ∀ (z : Int32) (h' : HM), p z h' → WW K (n.1 + rm.cells, n.2 + rm.slots) (pc + 3) lv [.int z] h') : WW K n pc lv st0 h :=
  w_SW (st := []) C hN hM w1 w2 w3 w4 hy hR rfl hn hnl (hst.trans (List.append_nil _).symm) hd (fun r h' q => by obtain ⟨z, rfl, q⟩ := q; exact kk z h' q)
end LAW1
theorem lg_cmp_self (x : Int64) : lg_cmp x x = 0 := (lg_cmp_eq x x).mpr rfl
theorem J9.y {tc : Nat → ClassId} {y0 m0 kl wk c : Nat} {th : Int32} {hA hB : HM} (j : J9 tc y0 m0 kl wk c th hA hB) : ∃ fs : List Value, hA y0 = some (.inr (9, fs)) := by
  obtain ⟨cA, gA, pA, oA, pr, ra, re, rw9, tr, tw, ca, ga, pa, oa, f, hb, hbt, dmt, kt, nC, cs, nG, gs, nP, ps, nO, os, nR, rs, k, dmp, day, pur, rf, Y, -, -⟩ := j
  exact ⟨_, Y.1⟩
theorem J9.m {tc : Nat → ClassId} {y0 m0 kl wk c : Nat} {th : Int32} {hA hB : HM} (j : J9 tc y0 m0 kl wk c th hA hB) : ∃ fs : List Value, hB m0 = some (.inr (12, fs)) := by
  obtain ⟨cA, gA, pA, oA, pr, ra, re, rw9, tr, tw, ca, ga, pa, oa, f, hb, hbt, dmt, kt, nC, cs, nG, gs, nP, ps, nO, os, nR, rs, k, dmp, day, pur, rf, -, ⟨L, E0, M0, ca2, ga2, pa2, oa2, ra2, YY⟩, -⟩ := j
  exact ⟨_, YY.1⟩
section LAW2
variable {tc : Nat → ClassId} {o3 o4 y0 m0 kl wk c : Nat} {fL : Nat → Int64} {fD : Nat → UInt64} {hA hB hO : HM}
/-- what a wrapper leaves: the yard alone has changed, and the row of answers holds the answer -/
def AW {α β : Type} (tc : Nat → ClassId) (o3 o4 : Nat) (hB : HM) (p : α → HM → Prop) (px : String → HM → Prop) (codes : List (String × Int32)) (ans : (Nat → Int64) → (Nat → UInt64) → β) (g : α → β) (z : Int32) (h' : HM) : Prop :=
  ∃ (hA' hO' : HM) (fL' : Nat → Int64) (fD' : Nat → UInt64), h' = hj hA' (hj hB hO') ∧ D2 hA' hB ∧ D2 hA' hO' ∧ D2 hB hO' ∧ LO tc o3 o4 fL' fD' hO' ∧ ((z = 0 ∧ ∃ v, p v hA' ∧ ans fL' fD' = g v) ∨ (∃ E, px E hA' ∧ (E, z) ∈ codes))
theorem la_L {p : Int32 → HM → Prop} {px : String → HM → Prop} {codes : List (String × Int32)} {g : Int32 → Int64} (dBO : D2 hB hO) (O : LO tc o3 o4 fL fD hO) {z : Int32} {h' : HM}
    (w : (z = 0 ∧ ∃ v hA', p v hA' ∧ (∀ a e, hj hB hO a = some e → hA' a = none) ∧ h' = hj hA' (hu (hj hB hO) o3 (.inl (tc 1, 1, .inr (.inl (vp_updL fL 0 (g v))))))) ∨ (∃ E hA', px E hA' ∧ (E, z) ∈ codes ∧ (∀ a e, hj hB hO a = some e → hA' a = none) ∧ h' = hj hA' (hj hB hO))) :
    AW tc o3 o4 hB p px codes (fun f _ => f 0) g z h' := by
  have n3 : hB o3 = none := dBO _ _ O.1
  rcases w with ⟨rfl, v, hA', hp, dj, rfl⟩ | ⟨E, hA', hp, hc, dj, rfl⟩
  · have dj : D2 hA' (hj hB hO) := dj
    have dO := D2.r dj dBO
    refine ⟨hA', hu hO o3 _, vp_updL fL 0 (g v), fD, by rw [hj_hu n3], D2.l dj, dj_hu dO O.1, dj_hu dBO O.1, ⟨hu_self _ _ _, ?_⟩, Or.inl ⟨rfl, v, hp, if_pos rfl⟩⟩
    exact hu_o O.2 O.1 (by intro q; simp at q)
  · have dj : D2 hA' (hj hB hO) := dj
    exact ⟨hA', hO, fL, fD, rfl, D2.l dj, D2.r dj dBO, dBO, O, Or.inr ⟨E, hp, hc⟩⟩
theorem la_D {p : UInt64 → HM → Prop} {px : String → HM → Prop} {codes : List (String × Int32)} (dBO : D2 hB hO) (O : LO tc o3 o4 fL fD hO) {z : Int32} {h' : HM}
    (w : (z = 0 ∧ ∃ v hA', p v hA' ∧ (∀ a e, hj hB hO a = some e → hA' a = none) ∧ h' = hj hA' (hu (hj hB hO) o4 (.inl (tc 2, 1, .inr (.inr (.inr (.inl (vf_upd fD 0 v)))))))) ∨ (∃ E hA', px E hA' ∧ (E, z) ∈ codes ∧ (∀ a e, hj hB hO a = some e → hA' a = none) ∧ h' = hj hA' (hj hB hO))) :
    AW tc o3 o4 hB p px codes (fun _ f => f 0) (fun v => v) z h' := by
  have n4 : hB o4 = none := dBO _ _ O.2
  rcases w with ⟨rfl, v, hA', hp, dj, rfl⟩ | ⟨E, hA', hp, hc, dj, rfl⟩
  · have dj : D2 hA' (hj hB hO) := dj
    have dO := D2.r dj dBO
    refine ⟨hA', hu hO o4 _, fL, vf_upd fD 0 v, by rw [hj_hu n4], D2.l dj, dj_hu dO O.2, dj_hu dBO O.2, ⟨?_, hu_self _ _ _⟩, Or.inl ⟨rfl, v, hp, if_pos rfl⟩⟩
    exact hu_o O.1 O.2 (by intro q; simp at q)
  · have dj : D2 hA' (hj hB hO) := dj
    exact ⟨hA', hO, fL, fD, rfl, D2.l dj, D2.r dj dBO, dBO, O, Or.inr ⟨E, hp, hc⟩⟩
/-- the numbers of the exceptions: none is 0, each exception has one -/
def okCd (codes : List (String × Int32)) : Bool := codes.all (fun a => !(a.2 == 0) && codes.all (fun b => !(a.1 == b.1) || a.2 == b.2))
theorem okCd_spec {codes : List (String × Int32)} (h : okCd codes = true) {E : String} {x y : Int32} (hx : (E, x) ∈ codes) (hy : (E, y) ∈ codes) : x = y ∧ ¬ x = 0 := by
  have h1 := List.all_eq_true.mp h _ hx
  simp only [Bool.and_eq_true, Bool.not_eq_true', beq_eq_false_iff_ne] at h1
  have h2 := List.all_eq_true.mp h1.2 _ hy
  simp only [beq_self_eq_true, Bool.not_true, Bool.false_or, beq_iff_eq] at h2
  exact ⟨h2, h1.1⟩
/-- the class's call and the reference's: what the reference threw is what the wrapper said, and where nothing was thrown the answers are alike -/
theorem la_J {α β : Type} {p : α → HM → Prop} {px : String → HM → Prop} {q : α → HM → Prop} {codes : List (String × Int32)} (hcd : okCd codes = true)
    (j1 : ∀ v hA', p v hA' → ∀ z hB', q z hB' → z = v ∧ J9 tc y0 m0 kl wk (c + 1) 0 hA' hB') (j2 : ∀ E hA', px E hA' → ∀ z hB', q z hB' → ∃ t9, (E, t9) ∈ codes ∧ J9 tc y0 m0 kl wk (c + 1) t9 hA' hB')
    {g : α → β} {a : β} {k9 : Int32} (w : (k9 = 0 ∧ ∃ v, p v hA ∧ a = g v) ∨ (∃ E, px E hA ∧ (E, k9) ∈ codes)) {z : α} (hq : q z hB) : J9 tc y0 m0 kl wk (c + 1) k9 hA hB ∧ (k9 = 0 → a = g z) := by
  rcases w with ⟨rfl, v, hp, ha⟩ | ⟨E, hp, hE⟩
  · obtain ⟨e, j⟩ := j1 v hA hp z hB hq
    exact ⟨j, fun _ => by rw [e]; exact ha⟩
  · obtain ⟨t9, ht, j⟩ := j2 E hA hp z hB hq
    obtain ⟨e1, e2⟩ := okCd_spec hcd hE ht
    subst e1
    exact ⟨j, fun e0 => absurd e0 e2⟩
end LAW2
section FRAMEA
variable {l : Launch} {D : va_G} {tc : Nat → ClassId} {y : MethodName} {cc : ByteArray} {nL : Nat} {ret : Option FieldType} {rm : Room} {args : List Value} {hA hB hO h1 h2 : HM}
theorem CT.fAI {p : Int32 → HM → Prop} (d : D2 h1 h2) (hM : CT l D tc y cc nL ret rm args h1 (rI p)) : CT l D tc y cc nL ret rm args (hj h1 h2) (rI (fun z h' => ∃ h1', p z h1' ∧ h' = hj h1' h2 ∧ D2 h1' h2)) :=
  (CT.frame d hM).mono (fun r h' ⟨h1', hp, e, d⟩ => by obtain ⟨z, rfl, q⟩ := hp; exact ⟨z, rfl, h1', q, e, d⟩)
theorem CT.fAL {p : Int64 → HM → Prop} (d : D2 h1 h2) (hM : CT l D tc y cc nL ret rm args h1 (rL p)) : CT l D tc y cc nL ret rm args (hj h1 h2) (rL (fun z h' => ∃ h1', p z h1' ∧ h' = hj h1' h2 ∧ D2 h1' h2)) :=
  (CT.frame d hM).mono (fun r h' ⟨h1', hp, e, d⟩ => by obtain ⟨z, rfl, q⟩ := hp; exact ⟨z, rfl, h1', q, e, d⟩)
theorem CT.fBV {p : HM → Prop} (dAB : D2 hA hB) (dAO : D2 hA hO) (dBO : D2 hB hO) (hM : CT l D tc y cc nL ret rm args hB (rV p)) : CT l D tc y cc nL ret rm args (hj hA (hj hB hO)) (rV (fun h' => ∃ hB', p hB' ∧ h' = hj hA (hj hB' hO) ∧ D2 hA hB' ∧ D2 hB' hO)) :=
  (CT.fB dAB dAO dBO hM).mono (fun r h' ⟨hB', hp, q⟩ => by obtain ⟨rfl, hp⟩ := hp; exact ⟨rfl, hB', hp, q⟩)
end FRAMEA
/-- a double compared with itself -/
theorem dc_self {x : UInt64} : Op.cmpValue (FP.dcmp x x) .l = 0 ∨ ¬ Op.cmpValue (FP.dcmp x x) .l = 0 := Classical.em _
