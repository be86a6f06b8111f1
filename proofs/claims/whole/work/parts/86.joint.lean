/-! BOTH SIDES TOGETHER -/
/-- the class's yard and the reference's, alike, after c calls; the reference has thrown th -/
def J9 (tc : Nat → ClassId) (y0 m0 kl wk c : Nat) (th : Int32) (hA hB : HM) : Prop := ∃ (cA : Nat) (gA : Nat) (pA : Nat) (oA : Nat) (pr : Nat) (ra : Nat) (re : Nat) (rw : Nat) (tr : Nat) (tw : Nat) (ca : Nat → Nat) (ga : Nat → Nat) (pa : Nat → Nat) (oa : Nat → Nat) (f : Nat → Option Nat) (hb : UInt64) (hbt : UInt64) (dmt : Int32) (kt : KT) (nC : Nat) (cs : Nat → Int32 × Int32) (nG : Nat) (gs : Nat → GT) (nP : Nat) (ps : Nat → PT) (nO : Nat) (os : Nat → OT) (nR : Nat) (rs : Nat → RT) (k : KT) (dmp : Int32) (day : Int32) (pur : Int32) (rf : Int32), Yh tc y0 cA gA pA oA pr ra re rw tr tw ca ga pa oa f hb hbt dmt kt nC cs nG gs nP ps nO os nR rs k dmp day pur rf hA ∧ MhE tc m0 kl wk th nC cs nG gs nP ps nO os nR rs k dmp day pur rf hB ∧ okSt c nC cs nG gs nP ps nO nR rs k

theorem jt_clay {l : Launch} {D : va_G} {tc : Nat → ClassId} (hl : l.stackTraces = false) {y0 m0 kl wk c : Nat} {th : Int32} {hA hB : HM} (j9 : J9 tc y0 m0 kl wk c th hA hB) {t g : Int32} :
    ∃ (p : Int32 → HM → Prop) (px : String → HM → Prop) (q : Int32 → HM → Prop), CTX l D tc yX7_clay cX7_clay 3 (some FieldType.int) rm_X7_clay [.ref y0, .int t, .int g] hA (rI p) px ∧ CT l D tc yX10_clay cX10_clay 3 (some FieldType.int) rm_X10_clay [.ref m0, .int t, .int g] hB (rI q) ∧ (∀ E h9, px E h9 → E = "java/lang/IllegalArgumentException" ∨ E = "java/lang/IllegalStateException") ∧
      (∀ v hA', p v hA' → ∀ z hB', q z hB' → z = v ∧ J9 tc y0 m0 kl wk (c + 1) 0 hA' hB') ∧ (∀ E hA', px E hA' → ∀ z hB', q z hB' → ∃ t9, (E, t9) ∈ ([("java/lang/IllegalArgumentException", 1), ("java/lang/IllegalStateException", 2)] : List (String × Int32)) ∧ J9 tc y0 m0 kl wk (c + 1) t9 hA' hB') := by
  obtain ⟨cA, gA, pA, oA, pr, ra, re, rw, tr, tw, ca, ga, pa, oa, f, hb, hbt, dmt, kt, nC, cs, nG, gs, nP, ps, nO, os, nR, rs, k, dmp, day, pur, rf, Y, ⟨L, E0, M0, ca2, ga2, pa2, oa2, ra2, YY⟩, o⟩ := j9
  obtain ⟨a1, a2, a3, a4, a5, a6, a7, a8, a9, a10, pw, p1, p2⟩ := id o
  refine ⟨_, _, _, m_X7_clay hl Y a1 (fun i hi => (a7 i hi).1), m_X10_clay hl YY a1, ?_, ?_, ?_⟩
  · intro E h9 px
    rcases px with px | px
    · exact Or.inl px.1
    · exact Or.inr px.1
  · rintro v hA' ⟨h1, h2, rfl, q, Y2⟩ z hB' (m | m | m)
    · exact absurd h1 m.1
    · exact absurd h2 m.2.1
    · exact ⟨m.2.2.1, ⟨_, _, _, _, _, _, _, _, _, _, _, _, _, _, _, _, _, _, _, _, _, _, _, _, _, _, _, _, _, _, _, _, _, _, Y2, m.2.2.2, o.clay h1 h2⟩⟩
  · rintro E hA' (⟨rfl, rfl, h1⟩ | ⟨rfl, rfl, h1, h2⟩) z hB' (m | m | m)
    · exact ⟨1, by simp, ⟨_, _, _, _, _, _, _, _, _, _, _, _, _, _, _, _, _, _, _, _, _, _, _, _, _, _, _, _, _, _, _, _, _, _, Y, m.2.2, o.same⟩⟩
    · exact absurd m.1 h1
    · exact absurd m.1 h1
    · exact absurd h1 m.1
    · exact ⟨2, by simp, ⟨_, _, _, _, _, _, _, _, _, _, _, _, _, _, _, _, _, _, _, _, _, _, _, _, _, _, _, _, _, _, _, _, _, _, Y, m.2.2.2, o.same⟩⟩
    · exact absurd m.2.1 h2

theorem jt_bell {l : Launch} {D : va_G} {tc : Nat → ClassId} (hl : l.stackTraces = false) {y0 m0 kl wk c : Nat} {th : Int32} {hA hB : HM} (j9 : J9 tc y0 m0 kl wk c th hA hB)  :
    ∃ (p : Int32 → HM → Prop) (q : Int32 → HM → Prop), CT l D tc yX7_bell cX7_bell 1 (some FieldType.int) rm_X7_bell [.ref y0] hA (rI p) ∧ CT l D tc yX10_bell cX10_bell 1 (some FieldType.int) rm_X10_bell [.ref m0] hB (rI q) ∧
      (∀ v hA', p v hA' → ∀ z hB', q z hB' → z = v ∧ J9 tc y0 m0 kl wk (c + 1) 0 hA' hB') := by
  obtain ⟨cA, gA, pA, oA, pr, ra, re, rw, tr, tw, ca, ga, pa, oa, f, hb, hbt, dmt, kt, nC, cs, nG, gs, nP, ps, nO, os, nR, rs, k, dmp, day, pur, rf, Y, ⟨L, E0, M0, ca2, ga2, pa2, oa2, ra2, YY⟩, o⟩ := j9
  obtain ⟨a1, a2, a3, a4, a5, a6, a7, a8, a9, a10, pw, p1, p2⟩ := id o
  refine ⟨_, _, m_X7_bell hl Y, m_X10_bell hl YY, ?_⟩
  rintro v hA' ⟨h1, Y2⟩ z hB' ⟨h2, M⟩
  exact ⟨h2.trans h1.symm, ⟨_, _, _, _, _, _, _, _, _, _, _, _, _, _, _, _, _, _, _, _, _, _, _, _, _, _, _, _, _, _, _, _, _, _, Y2, M, o.same⟩⟩

theorem jt_door {l : Launch} {D : va_G} {tc : Nat → ClassId} (hl : l.stackTraces = false) {y0 m0 kl wk c : Nat} {th : Int32} {hA hB : HM} (j9 : J9 tc y0 m0 kl wk c th hA hB) {b : Bool} :
    ∃ (p : Int32 → HM → Prop) (q : Int32 → HM → Prop), CT l D tc yX7_door cX7_door 3 (some FieldType.boolean) rm_X7_door [.ref y0, .int (bi b)] hA (rI p) ∧ CT l D tc yX10_door cX10_door 3 (some FieldType.boolean) rm_X10_door [.ref m0, .int (bi b)] hB (rI q) ∧
      (∀ v hA', p v hA' → ∀ z hB', q z hB' → z = v ∧ J9 tc y0 m0 kl wk (c + 1) 0 hA' hB') := by
  obtain ⟨cA, gA, pA, oA, pr, ra, re, rw, tr, tw, ca, ga, pa, oa, f, hb, hbt, dmt, kt, nC, cs, nG, gs, nP, ps, nO, os, nR, rs, k, dmp, day, pur, rf, Y, ⟨L, E0, M0, ca2, ga2, pa2, oa2, ra2, YY⟩, o⟩ := j9
  obtain ⟨a1, a2, a3, a4, a5, a6, a7, a8, a9, a10, pw, p1, p2⟩ := id o
  refine ⟨_, _, m_X7_door hl Y, m_X10_door hl YY, ?_⟩
  rintro v hA' ⟨h1, Y2⟩ z hB' ⟨h2, M⟩
  exact ⟨h2.trans h1.symm, ⟨_, _, _, _, _, _, _, _, _, _, _, _, _, _, _, _, _, _, _, _, _, _, _, _, _, _, _, _, _, _, _, _, _, _, Y2, M, o.door⟩⟩

theorem jt_glaze {l : Launch} {D : va_G} {tc : Nat → ClassId} (hl : l.stackTraces = false) {y0 m0 kl wk c : Nat} {th : Int32} {hA hB : HM} (j9 : J9 tc y0 m0 kl wk c th hA hB) {g0 : GT} :
    ∃ (p : Int32 → HM → Prop) (px : String → HM → Prop) (q : Int32 → HM → Prop), CTX l D tc yX7_glaze cX7_glaze 6 (some FieldType.int) rm_X7_glaze [.ref y0, .int g0.1, .int g0.2.1, .int g0.2.2.1, .int g0.2.2.2.1, .int g0.2.2.2.2] hA (rI p) px ∧ CT l D tc yX10_glaze cX10_glaze 12 (some FieldType.int) rm_X10_glaze [.ref m0, .int g0.1, .int g0.2.1, .int g0.2.2.1, .int g0.2.2.2.1, .int g0.2.2.2.2] hB (rI q) ∧ (∀ E h9, px E h9 → E = "java/lang/IllegalArgumentException" ∨ E = "java/lang/IllegalStateException") ∧
      (∀ v hA', p v hA' → ∀ z hB', q z hB' → z = v ∧ J9 tc y0 m0 kl wk (c + 1) 0 hA' hB') ∧ (∀ E hA', px E hA' → ∀ z hB', q z hB' → ∃ t9, (E, t9) ∈ ([("java/lang/IllegalArgumentException", 1), ("java/lang/IllegalStateException", 2)] : List (String × Int32)) ∧ J9 tc y0 m0 kl wk (c + 1) t9 hA' hB') := by
  obtain ⟨cA, gA, pA, oA, pr, ra, re, rw, tr, tw, ca, ga, pa, oa, f, hb, hbt, dmt, kt, nC, cs, nG, gs, nP, ps, nO, os, nR, rs, k, dmp, day, pur, rf, Y, ⟨L, E0, M0, ca2, ga2, pa2, oa2, ra2, YY⟩, o⟩ := j9
  obtain ⟨a1, a2, a3, a4, a5, a6, a7, a8, a9, a10, pw, p1, p2⟩ := id o
  refine ⟨_, _, _, m_X7_glaze hl Y a2 (fun i hi => (a7 i hi).2.1) (fun h => (glz_all h).1), m_X10_glaze hl YY a2, ?_, ?_, ?_⟩
  · intro E h9 px
    rcases px with px | px
    · exact Or.inl px.1
    · exact Or.inr px.1
  · rintro v hA' ⟨h1, h2, h3, q, Y2⟩ z hB' (m | m | m)
    · exact absurd h1 m.1
    · exact absurd h2 m.2.1
    · exact ⟨m.2.2.1.trans h3.symm, ⟨_, _, _, _, _, _, _, _, _, _, _, _, _, _, _, _, _, _, _, _, _, _, _, _, _, _, _, _, _, _, _, _, _, _, Y2, m.2.2.2, o.glaze h1 h2⟩⟩
  · rintro E hA' (⟨rfl, rfl, h1⟩ | ⟨rfl, rfl, h1, h2⟩) z hB' (m | m | m)
    · exact ⟨1, by simp, ⟨_, _, _, _, _, _, _, _, _, _, _, _, _, _, _, _, _, _, _, _, _, _, _, _, _, _, _, _, _, _, _, _, _, _, Y, m.2.2, o.same⟩⟩
    · exact absurd m.1 h1
    · exact absurd m.1 h1
    · exact absurd h1 m.1
    · exact ⟨2, by simp, ⟨_, _, _, _, _, _, _, _, _, _, _, _, _, _, _, _, _, _, _, _, _, _, _, _, _, _, _, _, _, _, _, _, _, _, Y, m.2.2.2, o.same⟩⟩
    · exact absurd m.2.1 h2

theorem jt_forget {l : Launch} {D : va_G} {tc : Nat → ClassId} (hl : l.stackTraces = false) {y0 m0 kl wk c : Nat} {th : Int32} {hA hB : HM} (j9 : J9 tc y0 m0 kl wk c th hA hB)  :
    ∃ (p : Int32 → HM → Prop) (px : String → HM → Prop) (q : Int32 → HM → Prop), CTX l D tc yX7_forget cX7_forget 2 (some FieldType.int) rm_X7_forget [.ref y0] hA (rI p) px ∧ CT l D tc yX10_forget cX10_forget 2 (some FieldType.int) rm_X10_forget [.ref m0] hB (rI q) ∧ (∀ E h9, px E h9 → E = "java/lang/IllegalStateException") ∧
      (∀ v hA', p v hA' → ∀ z hB', q z hB' → z = v ∧ J9 tc y0 m0 kl wk (c + 1) 0 hA' hB') ∧ (∀ E hA', px E hA' → ∀ z hB', q z hB' → ∃ t9, (E, t9) ∈ ([("java/lang/IllegalStateException", 1)] : List (String × Int32)) ∧ J9 tc y0 m0 kl wk (c + 1) t9 hA' hB') := by
  obtain ⟨cA, gA, pA, oA, pr, ra, re, rw, tr, tw, ca, ga, pa, oa, f, hb, hbt, dmt, kt, nC, cs, nG, gs, nP, ps, nO, os, nR, rs, k, dmp, day, pur, rf, Y, ⟨L, E0, M0, ca2, ga2, pa2, oa2, ra2, YY⟩, o⟩ := j9
  obtain ⟨a1, a2, a3, a4, a5, a6, a7, a8, a9, a10, pw, p1, p2⟩ := id o
  refine ⟨_, _, _, m_X7_forget hl Y, m_X10_forget hl YY, ?_, ?_, ?_⟩
  · intro E h9 px
    exact px.1
  · rintro v hA' ⟨h1, h2, Y2⟩ z hB' (m | m)
    · exact absurd (m.1.symm.trans h1) (by decide)
    · exact ⟨m.2.1.trans h2.symm, ⟨_, _, _, _, _, _, _, _, _, _, _, _, _, _, _, _, _, _, _, _, _, _, _, _, _, _, _, _, _, _, _, _, _, _, Y2, m.2.2, (o.forget h1)⟩⟩
  · rintro E hA' ⟨rfl, rfl, h1⟩ z hB' (m | m)
    · exact ⟨1, by simp, ⟨_, _, _, _, _, _, _, _, _, _, _, _, _, _, _, _, _, _, _, _, _, _, _, _, _, _, _, _, _, _, _, _, _, _, Y, m.2.2, o.same⟩⟩
    · exact absurd (h1.symm.trans m.1) (by decide)

theorem jt_damper {l : Launch} {D : va_G} {tc : Nat → ClassId} (hl : l.stackTraces = false) {y0 m0 kl wk c : Nat} {th : Int32} {hA hB : HM} (j9 : J9 tc y0 m0 kl wk c th hA hB) {d : Int32} :
    ∃ (p : Int32 → HM → Prop) (px : String → HM → Prop) (q : Int32 → HM → Prop), CTX l D tc yX7_damper cX7_damper 3 (some FieldType.int) rm_X7_damper [.ref y0, .int d] hA (rI p) px ∧ CT l D tc yX10_damper cX10_damper 3 (some FieldType.int) rm_X10_damper [.ref m0, .int d] hB (rI q) ∧ (∀ E h9, px E h9 → E = "java/lang/IllegalArgumentException") ∧
      (∀ v hA', p v hA' → ∀ z hB', q z hB' → z = v ∧ J9 tc y0 m0 kl wk (c + 1) 0 hA' hB') ∧ (∀ E hA', px E hA' → ∀ z hB', q z hB' → ∃ t9, (E, t9) ∈ ([("java/lang/IllegalArgumentException", 1)] : List (String × Int32)) ∧ J9 tc y0 m0 kl wk (c + 1) t9 hA' hB') := by
  obtain ⟨cA, gA, pA, oA, pr, ra, re, rw, tr, tw, ca, ga, pa, oa, f, hb, hbt, dmt, kt, nC, cs, nG, gs, nP, ps, nO, os, nR, rs, k, dmp, day, pur, rf, Y, ⟨L, E0, M0, ca2, ga2, pa2, oa2, ra2, YY⟩, o⟩ := j9
  obtain ⟨a1, a2, a3, a4, a5, a6, a7, a8, a9, a10, pw, p1, p2⟩ := id o
  refine ⟨_, _, _, m_X7_damper hl Y, m_X10_damper hl YY, ?_, ?_, ?_⟩
  · intro E h9 px
    exact px.1
  · rintro v hA' ⟨h1, h2, Y2⟩ z hB' (m | m)
    · exact absurd h1 m.1
    · exact ⟨m.2.1.trans h2.symm, ⟨_, _, _, _, _, _, _, _, _, _, _, _, _, _, _, _, _, _, _, _, _, _, _, _, _, _, _, _, _, _, _, _, _, _, Y2, m.2.2, o.same⟩⟩
  · rintro E hA' ⟨rfl, rfl, h1⟩ z hB' (m | m)
    · exact ⟨1, by simp, ⟨_, _, _, _, _, _, _, _, _, _, _, _, _, _, _, _, _, _, _, _, _, _, _, _, _, _, _, _, _, _, _, _, _, _, Y, m.2.2, o.same⟩⟩
    · exact absurd m.1 h1

theorem jt_cover {l : Launch} {D : va_G} {tc : Nat → ClassId} (hl : l.stackTraces = false) {y0 m0 kl wk c : Nat} {th : Int32} {hA hB : HM} (j9 : J9 tc y0 m0 kl wk c th hA hB) {i : Int32} {b : Bool} :
    ∃ (p : Int32 → HM → Prop) (px : String → HM → Prop) (q : Int32 → HM → Prop), CTX l D tc yX7_cover cX7_cover 5 (some FieldType.boolean) rm_X7_cover [.ref y0, .int i, .int (bi b)] hA (rI p) px ∧ CT l D tc yX10_cover cX10_cover 4 (some FieldType.boolean) rm_X10_cover [.ref m0, .int i, .int (bi b)] hB (rI q) ∧ (∀ E h9, px E h9 → E = "java/lang/IndexOutOfBoundsException") ∧
      (∀ v hA', p v hA' → ∀ z hB', q z hB' → z = v ∧ J9 tc y0 m0 kl wk (c + 1) 0 hA' hB') ∧ (∀ E hA', px E hA' → ∀ z hB', q z hB' → ∃ t9, (E, t9) ∈ ([("java/lang/IndexOutOfBoundsException", 1)] : List (String × Int32)) ∧ J9 tc y0 m0 kl wk (c + 1) t9 hA' hB') := by
  obtain ⟨cA, gA, pA, oA, pr, ra, re, rw, tr, tw, ca, ga, pa, oa, f, hb, hbt, dmt, kt, nC, cs, nG, gs, nP, ps, nO, os, nR, rs, k, dmp, day, pur, rf, Y, ⟨L, E0, M0, ca2, ga2, pa2, oa2, ra2, YY⟩, o⟩ := j9
  obtain ⟨a1, a2, a3, a4, a5, a6, a7, a8, a9, a10, pw, p1, p2⟩ := id o
  refine ⟨_, _, _, m_X7_cover hl Y a3, m_X10_cover hl YY a3, ?_, ?_, ?_⟩
  · intro E h9 px
    exact px.1
  · rintro v hA' ⟨j, hj, e, h1, Y2⟩ z hB' (m | ⟨j9, hj9, e9, m⟩)
    · exact absurd (e ▸ m.1) (not_out hj (by omega))
    · obtain rfl : j = j9 := nI_inj (by omega) (by omega) (e.symm.trans e9)
      exact ⟨m.1.trans h1.symm, ⟨_, _, _, _, _, _, _, _, _, _, _, _, _, _, _, _, _, _, _, _, _, _, _, _, _, _, _, _, _, _, _, _, _, _, Y2, m.2, (o.upd9 ((a7 j hj).cvr b))⟩⟩
  · rintro E hA' ⟨rfl, rfl, h1⟩ z hB' (m | ⟨j9, hj9, e9, m⟩)
    · exact ⟨1, by simp, ⟨_, _, _, _, _, _, _, _, _, _, _, _, _, _, _, _, _, _, _, _, _, _, _, _, _, _, _, _, _, _, _, _, _, _, Y, m.2.2, o.same⟩⟩
    · exact absurd (e9 ▸ h1) (not_out hj9 (by omega))

theorem jt_pot {l : Launch} {D : va_G} {tc : Nat → ClassId} (hl : l.stackTraces = false) {y0 m0 kl wk c : Nat} {th : Int32} {hA hB : HM} (j9 : J9 tc y0 m0 kl wk c th hA hB) {cl wd hg wl : Int32} :
    ∃ (p : Int32 → HM → Prop) (px : String → HM → Prop) (q : Int32 → HM → Prop), CTX l D tc yX7_pot cX7_pot 7 (some FieldType.int) rm_X7_pot [.ref y0, .int cl, .int wd, .int hg, .int wl] hA (rI p) px ∧ CT l D tc yX10_pot cX10_pot 5 (some FieldType.int) rm_X10_pot [.ref m0, .int cl, .int wd, .int hg, .int wl] hB (rI q) ∧ (∀ E h9, px E h9 → E = "java/lang/IndexOutOfBoundsException" ∨ E = "java/lang/IllegalArgumentException" ∨ E = "java/lang/IllegalStateException") ∧
      (∀ v hA', p v hA' → ∀ z hB', q z hB' → z = v ∧ J9 tc y0 m0 kl wk (c + 1) 0 hA' hB') ∧ (∀ E hA', px E hA' → ∀ z hB', q z hB' → ∃ t9, (E, t9) ∈ ([("java/lang/IndexOutOfBoundsException", 1), ("java/lang/IllegalArgumentException", 2), ("java/lang/IllegalStateException", 3)] : List (String × Int32)) ∧ J9 tc y0 m0 kl wk (c + 1) t9 hA' hB') := by
  obtain ⟨cA, gA, pA, oA, pr, ra, re, rw, tr, tw, ca, ga, pa, oa, f, hb, hbt, dmt, kt, nC, cs, nG, gs, nP, ps, nO, os, nR, rs, k, dmp, day, pur, rf, Y, ⟨L, E0, M0, ca2, ga2, pa2, oa2, ra2, YY⟩, o⟩ := j9
  obtain ⟨a1, a2, a3, a4, a5, a6, a7, a8, a9, a10, pw, p1, p2⟩ := id o
  refine ⟨_, _, _, m_X7_pot hl Y a1 a3, m_X10_pot hl YY a1 a3, ?_, ?_, ?_⟩
  · intro E h9 px
    rcases px with px | px | px
    · exact Or.inl px.1
    · exact Or.inr (Or.inl px.1)
    · exact Or.inr (Or.inr px.1)
  · rintro v hA' ⟨j, hj, e, h1, h2, h3, q, Y2⟩ z hB' (m | ⟨j9, hj9, e9, m | m | m⟩)
    · exact absurd (e ▸ m.1) (not_out hj (by omega))
    · exact absurd h1 m.1
    · exact absurd h2 m.2.1
    · obtain rfl : j = j9 := nI_inj (by omega) (by omega) (e.symm.trans e9)
      exact ⟨m.2.2.1.trans h3.symm, ⟨_, _, _, _, _, _, _, _, _, _, _, _, _, _, _, _, _, _, _, _, _, _, _, _, _, _, _, _, _, _, _, _, _, _, Y2, m.2.2.2, (o.pot (new_pot hj h1) h2)⟩⟩
  · rintro E hA' (⟨rfl, rfl, h1⟩ | ⟨rfl, rfl, h1, h2⟩ | ⟨rfl, rfl, h1, h2, h3⟩) z hB' (m | ⟨j9, hj9, e9, m | m | m⟩)
    · exact ⟨1, by simp, ⟨_, _, _, _, _, _, _, _, _, _, _, _, _, _, _, _, _, _, _, _, _, _, _, _, _, _, _, _, _, _, _, _, _, _, Y, m.2.2, o.same⟩⟩
    · exact absurd (e9 ▸ h1) (not_out hj9 (by omega))
    · exact absurd (e9 ▸ h1) (not_out hj9 (by omega))
    · exact absurd (e9 ▸ h1) (not_out hj9 (by omega))
    · exact absurd m.1 h1
    · exact ⟨2, by simp, ⟨_, _, _, _, _, _, _, _, _, _, _, _, _, _, _, _, _, _, _, _, _, _, _, _, _, _, _, _, _, _, _, _, _, _, Y, m.2.2, o.same⟩⟩
    · exact absurd m.1 h2
    · exact absurd m.1 h2
    · exact absurd m.1 h1
    · exact absurd h2 m.1
    · exact ⟨3, by simp, ⟨_, _, _, _, _, _, _, _, _, _, _, _, _, _, _, _, _, _, _, _, _, _, _, _, _, _, _, _, _, _, _, _, _, _, Y, m.2.2.2, o.same⟩⟩
    · exact absurd m.2.1 h3

theorem jt_take {l : Launch} {D : va_G} {tc : Nat → ClassId} (hl : l.stackTraces = false) {y0 m0 kl wk c : Nat} {th : Int32} {hA hB : HM} (j9 : J9 tc y0 m0 kl wk c th hA hB) {i : Int32} :
    ∃ (p : Int32 → HM → Prop) (px : String → HM → Prop) (q : Int32 → HM → Prop), CTX l D tc yX7_take cX7_take 4 (some FieldType.int) rm_X7_take [.ref y0, .int i] hA (rI p) px ∧ CT l D tc yX10_take cX10_take 3 (some FieldType.int) rm_X10_take [.ref m0, .int i] hB (rI q) ∧ (∀ E h9, px E h9 → E = "java/lang/IndexOutOfBoundsException" ∨ E = "java/lang/IllegalStateException") ∧
      (∀ v hA', p v hA' → ∀ z hB', q z hB' → z = v ∧ J9 tc y0 m0 kl wk (c + 1) 0 hA' hB') ∧ (∀ E hA', px E hA' → ∀ z hB', q z hB' → ∃ t9, (E, t9) ∈ ([("java/lang/IndexOutOfBoundsException", 1), ("java/lang/IllegalStateException", 2)] : List (String × Int32)) ∧ J9 tc y0 m0 kl wk (c + 1) t9 hA' hB') := by
  obtain ⟨cA, gA, pA, oA, pr, ra, re, rw, tr, tw, ca, ga, pa, oa, f, hb, hbt, dmt, kt, nC, cs, nG, gs, nP, ps, nO, os, nR, rs, k, dmp, day, pur, rf, Y, ⟨L, E0, M0, ca2, ga2, pa2, oa2, ra2, YY⟩, o⟩ := j9
  obtain ⟨a1, a2, a3, a4, a5, a6, a7, a8, a9, a10, pw, p1, p2⟩ := id o
  refine ⟨_, _, _, m_X7_take hl Y a3, m_X10_take hl YY a3, ?_, ?_, ?_⟩
  · intro E h9 px
    rcases px with px | px
    · exact Or.inl px.1
    · exact Or.inr px.1
  · rintro v hA' ⟨j, hj, e, h1, h2, h3, Y2⟩ z hB' (m | ⟨j9, hj9, e9, m | m⟩)
    · exact absurd (e ▸ m.1) (not_out hj (by omega))
    · obtain rfl : j = j9 := nI_inj (by omega) (by omega) (e.symm.trans e9)
      rcases m.1 with w | w
      · exact absurd h1 ((hot_iff a8.1).mp w)
      · exact absurd w h2
    · obtain rfl : j = j9 := nI_inj (by omega) (by omega) (e.symm.trans e9)
      exact ⟨m.2.2.1.trans h3.symm, ⟨_, _, _, _, _, _, _, _, _, _, _, _, _, _, _, _, _, _, _, _, _, _, _, _, _, _, _, _, _, _, _, _, _, _, Y2, m.2.2.2, (o.upd9 (a7 j hj).lvd)⟩⟩
  · rintro E hA' (⟨rfl, rfl, h1⟩ | ⟨rfl, rfl, j, hj, e, h1⟩) z hB' (m | ⟨j9, hj9, e9, m | m⟩)
    · exact ⟨1, by simp, ⟨_, _, _, _, _, _, _, _, _, _, _, _, _, _, _, _, _, _, _, _, _, _, _, _, _, _, _, _, _, _, _, _, _, _, Y, m.2.2, o.same⟩⟩
    · exact absurd (e9 ▸ h1) (not_out hj9 (by omega))
    · exact absurd (e9 ▸ h1) (not_out hj9 (by omega))
    · exact absurd (e ▸ m.1) (not_out hj (by omega))
    · exact ⟨2, by simp, ⟨_, _, _, _, _, _, _, _, _, _, _, _, _, _, _, _, _, _, _, _, _, _, _, _, _, _, _, _, _, _, _, _, _, _, Y, m.2.2, o.same⟩⟩
    · obtain rfl : j = j9 := nI_inj (by omega) (by omega) (e.symm.trans e9)
      refine absurd ⟨Decidable.not_not.mp fun w => m.1 ((hot_iff a8.1).mpr w), m.2.1⟩ h1
