/-! BOTH SIDES TOGETHER -/
/-- the class's yard and the reference's, alike, after c calls; the reference has thrown th -/
def J9 (tc : Nat → ClassId) (y0 m0 kl wk c : Nat) (th : Int32) (hA hB : HM) : Prop := ∃ (cA : Nat) (gA : Nat) (pA : Nat) (oA : Nat) (pr : Nat) (ra : Nat) (re : Nat) (rw : Nat) (tr : Nat) (tw : Nat) (ca : Nat → Nat) (ga : Nat → Nat) (pa : Nat → Nat) (oa : Nat → Nat) (f : Nat → Option Nat) (hb : UInt64) (hbt : UInt64) (dmt : Int32) (kt : KT) (nC : Nat) (cs : Nat → Int32 × Int32) (nG : Nat) (gs : Nat → GT) (nP : Nat) (ps : Nat → PT) (nO : Nat) (os : Nat → OT) (nR : Nat) (rs : Nat → RT) (k : KT) (dmp : Int32) (day : Int32) (pur : Int32) (rf : Int32), Yh tc y0 cA gA pA oA pr ra re rw tr tw ca ga pa oa f hb hbt dmt kt nC cs nG gs nP ps nO os nR rs k dmp day pur rf hA ∧ MhE tc m0 kl wk th nC cs nG gs nP ps nO os nR rs k dmp day pur rf hB ∧ okSt c nC cs nG gs nP ps nO nR rs k

theorem jt_clay {l : Launch} {D : va_G} {tc : Nat → ClassId} (hl : l.stackTraces = false) {y0 m0 kl wk c : Nat} {th : Int32} {hA hB : HM} (j9 : J9 tc y0 m0 kl wk c th hA hB) {t g : Int32} :
    ∃ (p : Int32 → HM → Prop) (px : String → HM → Prop) (q : Int32 → HM → Prop), CTX l D tc yX7_clay cX7_clay 3 (some FieldType.int) rm_X7_clay [.ref y0, .int t, .int g] hA (rI p) px ∧ CT l D tc yX10_clay cX10_clay 3 (some FieldType.int) rm_X10_clay [.ref m0, .int t, .int g] hB (rI q) ∧ (∀ E h9, px E h9 → E = "java/lang/IllegalArgumentException" ∨ E = "java/lang/IllegalStateException") ∧
      (∀ v hA', p v hA' → ∀ z hB', q z hB' → z = v ∧ J9 tc y0 m0 kl wk (c + 1) 0 hA' hB') ∧ (∀ E hA', px E hA' → ∀ z hB', q z hB' → ∃ t9, (E, t9) ∈ ([("java/lang/IllegalArgumentException", 1), ("java/lang/IllegalStateException", 2)] : List (String × Int32)) ∧ J9 tc y0 m0 kl wk (c + 1) t9 hA' hB') := by
  obtain ⟨cA, gA, pA, oA, pr, ra, re, rw, tr, tw, ca, ga, pa, oa, f, hb, hbt, dmt, kt, nC, cs, nG, gs, nP, ps, nO, os, nR, rs, k, dmp, day, pur, rf, Y, ⟨L, E0, M0, ca2, ga2, pa2, oa2, ra2, YY⟩, o⟩ := j9
  obtain ⟨a1, a2, a3, a4, a5, a6, a7, a8, a9, a10, pw, p1, p2⟩ := id o
  refine ⟨_, _, _, m_X7_clay hl Y a1 (fun i hi => (a7 i hi).1), m_X10_clay hl YY a1, ?_, ?_, ?_⟩
  · intro E h9 px
    rcases px with px | px
    · exact Or.inl px.1
    · exact Or.inr px.1
  · rintro v hA' ⟨h1, h2, rfl, q, Y2⟩ z hB' (m | m | m)
    · exact absurd h1 m.1
    · exact absurd h2 m.2.1
    · exact ⟨m.2.2.1, ⟨_, _, _, _, _, _, _, _, _, _, _, _, _, _, _, _, _, _, _, _, _, _, _, _, _, _, _, _, _, _, _, _, _, _, Y2, m.2.2.2, o.clay h1 h2⟩⟩
  · rintro E hA' (⟨rfl, rfl, h1⟩ | ⟨rfl, rfl, h1, h2⟩) z hB' (m | m | m)
    · exact ⟨1, by simp, ⟨_, _, _, _, _, _, _, _, _, _, _, _, _, _, _, _, _, _, _, _, _, _, _, _, _, _, _, _, _, _, _, _, _, _, Y, m.2.2, o.same⟩⟩
    · exact absurd m.1 h1
    · exact absurd m.1 h1
    · exact absurd h1 m.1
    · exact ⟨2, by simp, ⟨_, _, _, _, _, _, _, _, _, _, _, _, _, _, _, _, _, _, _, _, _, _, _, _, _, _, _, _, _, _, _, _, _, _, Y, m.2.2.2, o.same⟩⟩
    · exact absurd m.2.1 h2
