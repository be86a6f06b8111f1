/-! BOTH SIDES TOGETHER -/
/-- the class's yard and the reference's, alike, after c calls; the reference has thrown th -/
def J9 (tc : Nat → ClassId) (y0 m0 kl wk c : Nat) (th : Int32) (hA hB : HM) : Prop := ∃ (cA : Nat) (gA : Nat) (pA : Nat) (oA : Nat) (pr : Nat) (ra : Nat) (re : Nat) (rw : Nat) (tr : Nat) (tw : Nat) (ca : Nat → Nat) (ga : Nat → Nat) (pa : Nat → Nat) (oa : Nat → Nat) (f : Nat → Option Nat) (hb : UInt64) (hbt : UInt64) (dmt : Int32) (kt : KT) (nC : Nat) (cs : Nat → Int32 × Int32) (nG : Nat) (gs : Nat → GT) (nP : Nat) (ps : Nat → PT) (nO : Nat) (os : Nat → OT) (nR : Nat) (rs : Nat → RT) (k : KT) (dmp : Int32) (day : Int32) (pur : Int32) (rf : Int32), Yh tc y0 cA gA pA oA pr ra re rw tr tw ca ga pa oa f hb hbt dmt kt nC cs nG gs nP ps nO os nR rs k dmp day pur rf hA ∧ MhE tc m0 kl wk th nC cs nG gs nP ps nO os nR rs k dmp day pur rf hB ∧ okSt c nC cs nG gs nP ps nO nR rs k

theorem jt_clay {l : Launch} {D : va_G} {tc : Nat → ClassId} (hl : l.stackTraces = false) {y0 m0 kl wk c : Nat} {th : Int32} {hA hB : HM} (j9 : J9 tc y0 m0 kl wk c th hA hB) {t g : Int32} :
    ∃ (p : Int32 → HM → Prop) (px : String → HM → Prop) (q : Int32 → HM → Prop), CTX l D tc yX7_clay cX7_clay 3 (some FieldType.int) rm_X7_clay [.ref y0, .int t, .int g] hA (rI p) px ∧ CT l D tc yX10_clay cX10_clay 3 (some FieldType.int) rm_X10_clay [.ref m0, .int t, .int g] hB (rI q) ∧ (∀ E h9, px E h9 → E = "java/lang/IllegalArgumentException" ∨ E = "java/lang/IllegalStateException") ∧
      (∀ v hA', p v hA' → ∀ z hB', q z hB' → z = v ∧ J9 tc y0 m0 kl wk (c + 1) 0 hA' hB') ∧ (∀ E hA', px E hA' → ∀ z hB', q z hB' → ∃ t9, (E, t9) ∈ ([("java/lang/IllegalArgumentException", 1), ("java/lang/IllegalStateException", 2)] : List (String × Int32)) ∧ J9 tc y0 m0 kl wk (c + 1) t9 hA' hB') := by
  obtain ⟨cA, gA, pA, oA, pr, ra, re, rw, tr, tw, ca, ga, pa, oa, f, hb, hbt, dmt, kt, nC, cs, nG, gs, nP, ps, nO, os, nR, rs, k, dmp, day, pur, rf, Y, ⟨L, E0, M0, ca2, ga2, pa2, oa2, ra2, YY⟩, o⟩ := j9
  obtain ⟨a1, a2, a3, a4, a5, a6, a7, a8, a9, a10, pw, p1, p2⟩ := id o
  refine ⟨_, _, _, m_X7_clay hl Y a1 (fun i hi => (a7 i hi).1), m_X10_clay hl YY a1, ?_, ?_, ?_⟩
  · intro E h9 px
    rcases px with px | px
    · exact Or.inl px.1
    · exact Or.inr px.1
  · rintro v hA' ⟨h1, h2, rfl, q, Y2⟩ z hB' (m | m | m)
    · exact absurd h1 m.1
    · exact absurd h2 m.2.1
    · exact ⟨m.2.2.1, ⟨_, _, _, _, _, _, _, _, _, _, _, _, _, _, _, _, _, _, _, _, _, _, _, _, _, _, _, _, _, _, _, _, _, _, Y2, m.2.2.2, o.clay h1 h2⟩⟩
  · rintro E hA' (⟨rfl, rfl, h1⟩ | ⟨rfl, rfl, h1, h2⟩) z hB' (m | m | m)
    · exact ⟨1, by simp, ⟨_, _, _, _, _, _, _, _, _, _, _, _, _, _, _, _, _, _, _, _, _, _, _, _, _, _, _, _, _, _, _, _, _, _, Y, m.2.2, o.same⟩⟩
    · exact absurd m.1 h1
    · exact absurd m.1 h1
    · exact absurd h1 m.1
    · exact ⟨2, by simp, ⟨_, _, _, _, _, _, _, _, _, _, _, _, _, _, _, _, _, _, _, _, _, _, _, _, _, _, _, _, _, _, _, _, _, _, Y, m.2.2.2, o.same⟩⟩
    · exact absurd m.2.1 h2

theorem jt_bell {l : Launch} {D : va_G} {tc : Nat → ClassId} (hl : l.stackTraces = false) {y0 m0 kl wk c : Nat} {th : Int32} {hA hB : HM} (j9 : J9 tc y0 m0 kl wk c th hA hB)  :
    ∃ (p : Int32 → HM → Prop) (q : Int32 → HM → Prop), CT l D tc yX7_bell cX7_bell 1 (some FieldType.int) rm_X7_bell [.ref y0] hA (rI p) ∧ CT l D tc yX10_bell cX10_bell 1 (some FieldType.int) rm_X10_bell [.ref m0] hB (rI q) ∧
      (∀ v hA', p v hA' → ∀ z hB', q z hB' → z = v ∧ J9 tc y0 m0 kl wk (c + 1) 0 hA' hB') := by
  obtain ⟨cA, gA, pA, oA, pr, ra, re, rw, tr, tw, ca, ga, pa, oa, f, hb, hbt, dmt, kt, nC, cs, nG, gs, nP, ps, nO, os, nR, rs, k, dmp, day, pur, rf, Y, ⟨L, E0, M0, ca2, ga2, pa2, oa2, ra2, YY⟩, o⟩ := j9
  obtain ⟨a1, a2, a3, a4, a5, a6, a7, a8, a9, a10, pw, p1, p2⟩ := id o
  refine ⟨_, _, m_X7_bell hl Y, m_X10_bell hl YY, ?_⟩
  rintro v hA' ⟨h1, Y2⟩ z hB' ⟨h2, M⟩
  exact ⟨h2.trans h1.symm, ⟨_, _, _, _, _, _, _, _, _, _, _, _, _, _, _, _, _, _, _, _, _, _, _, _, _, _, _, _, _, _, _, _, _, _, Y2, M, o.same⟩⟩

theorem jt_door {l : Launch} {D : va_G} {tc : Nat → ClassId} (hl : l.stackTraces = false) {y0 m0 kl wk c : Nat} {th : Int32} {hA hB : HM} (j9 : J9 tc y0 m0 kl wk c th hA hB) {b : Bool} :
    ∃ (p : Int32 → HM → Prop) (q : Int32 → HM → Prop), CT l D tc yX7_door cX7_door 3 (some FieldType.boolean) rm_X7_door [.ref y0, .int (bi b)] hA (rI p) ∧ CT l D tc yX10_door cX10_door 3 (some FieldType.boolean) rm_X10_door [.ref m0, .int (bi b)] hB (rI q) ∧
      (∀ v hA', p v hA' → ∀ z hB', q z hB' → z = v ∧ J9 tc y0 m0 kl wk (c + 1) 0 hA' hB') := by
  obtain ⟨cA, gA, pA, oA, pr, ra, re, rw, tr, tw, ca, ga, pa, oa, f, hb, hbt, dmt, kt, nC, cs, nG, gs, nP, ps, nO, os, nR, rs, k, dmp, day, pur, rf, Y, ⟨L, E0, M0, ca2, ga2, pa2, oa2, ra2, YY⟩, o⟩ := j9
  obtain ⟨a1, a2, a3, a4, a5, a6, a7, a8, a9, a10, pw, p1, p2⟩ := id o
  refine ⟨_, _, m_X7_door hl Y, m_X10_door hl YY, ?_⟩
  rintro v hA' ⟨h1, Y2⟩ z hB' ⟨h2, M⟩
  exact ⟨h2.trans h1.symm, ⟨_, _, _, _, _, _, _, _, _, _, _, _, _, _, _, _, _, _, _, _, _, _, _, _, _, _, _, _, _, _, _, _, _, _, Y2, M, o.door⟩⟩

theorem jt_glaze {l : Launch} {D : va_G} {tc : Nat → ClassId} (hl : l.stackTraces = false) {y0 m0 kl wk c : Nat} {th : Int32} {hA hB : HM} (j9 : J9 tc y0 m0 kl wk c th hA hB) {g0 : GT} :
    ∃ (p : Int32 → HM → Prop) (px : String → HM → Prop) (q : Int32 → HM → Prop), CTX l D tc yX7_glaze cX7_glaze 6 (some FieldType.int) rm_X7_glaze [.ref y0, .int g0.1, .int g0.2.1, .int g0.2.2.1, .int g0.2.2.2.1, .int g0.2.2.2.2] hA (rI p) px ∧ CT l D tc yX10_glaze cX10_glaze 12 (some FieldType.int) rm_X10_glaze [.ref m0, .int g0.1, .int g0.2.1, .int g0.2.2.1, .int g0.2.2.2.1, .int g0.2.2.2.2] hB (rI q) ∧ (∀ E h9, px E h9 → E = "java/lang/IllegalArgumentException" ∨ E = "java/lang/IllegalStateException") ∧
      (∀ v hA', p v hA' → ∀ z hB', q z hB' → z = v ∧ J9 tc y0 m0 kl wk (c + 1) 0 hA' hB') ∧ (∀ E hA', px E hA' → ∀ z hB', q z hB' → ∃ t9, (E, t9) ∈ ([("java/lang/IllegalArgumentException", 1), ("java/lang/IllegalStateException", 2)] : List (String × Int32)) ∧ J9 tc y0 m0 kl wk (c + 1) t9 hA' hB') := by
  obtain ⟨cA, gA, pA, oA, pr, ra, re, rw, tr, tw, ca, ga, pa, oa, f, hb, hbt, dmt, kt, nC, cs, nG, gs, nP, ps, nO, os, nR, rs, k, dmp, day, pur, rf, Y, ⟨L, E0, M0, ca2, ga2, pa2, oa2, ra2, YY⟩, o⟩ := j9
  obtain ⟨a1, a2, a3, a4, a5, a6, a7, a8, a9, a10, pw, p1, p2⟩ := id o
  refine ⟨_, _, _, m_X7_glaze hl Y a2 (fun i hi => (a7 i hi).2.1) (fun h => (glz_all h).1), m_X10_glaze hl YY a2, ?_, ?_, ?_⟩
  · intro E h9 px
    rcases px with px | px
    · exact Or.inl px.1
    · exact Or.inr px.1
  · rintro v hA' ⟨h1, h2, h3, q, Y2⟩ z hB' (m | m | m)
    · exact absurd h1 m.1
    · exact absurd h2 m.2.1
    · exact ⟨m.2.2.1.trans h3.symm, ⟨_, _, _, _, _, _, _, _, _, _, _, _, _, _, _, _, _, _, _, _, _, _, _, _, _, _, _, _, _, _, _, _, _, _, Y2, m.2.2.2, o.glaze h1 h2⟩⟩
  · rintro E hA' (⟨rfl, rfl, h1⟩ | ⟨rfl, rfl, h1, h2⟩) z hB' (m | m | m)
    · exact ⟨1, by simp, ⟨_, _, _, _, _, _, _, _, _, _, _, _, _, _, _, _, _, _, _, _, _, _, _, _, _, _, _, _, _, _, _, _, _, _, Y, m.2.2, o.same⟩⟩
    · exact absurd m.1 h1
    · exact absurd m.1 h1
    · exact absurd h1 m.1
    · exact ⟨2, by simp, ⟨_, _, _, _, _, _, _, _, _, _, _, _, _, _, _, _, _, _, _, _, _, _, _, _, _, _, _, _, _, _, _, _, _, _, Y, m.2.2.2, o.same⟩⟩
    · exact absurd m.2.1 h2

theorem jt_forget {l : Launch} {D : va_G} {tc : Nat → ClassId} (hl : l.stackTraces = false) {y0 m0 kl wk c : Nat} {th : Int32} {hA hB : HM} (j9 : J9 tc y0 m0 kl wk c th hA hB)  :
    ∃ (p : Int32 → HM → Prop) (px : String → HM → Prop) (q : Int32 → HM → Prop), CTX l D tc yX7_forget cX7_forget 2 (some FieldType.int) rm_X7_forget [.ref y0] hA (rI p) px ∧ CT l D tc yX10_forget cX10_forget 2 (some FieldType.int) rm_X10_forget [.ref m0] hB (rI q) ∧ (∀ E h9, px E h9 → E = "java/lang/IllegalStateException") ∧
      (∀ v hA', p v hA' → ∀ z hB', q z hB' → z = v ∧ J9 tc y0 m0 kl wk (c + 1) 0 hA' hB') ∧ (∀ E hA', px E hA' → ∀ z hB', q z hB' → ∃ t9, (E, t9) ∈ ([("java/lang/IllegalStateException", 1)] : List (String × Int32)) ∧ J9 tc y0 m0 kl wk (c + 1) t9 hA' hB') := by
  obtain ⟨cA, gA, pA, oA, pr, ra, re, rw, tr, tw, ca, ga, pa, oa, f, hb, hbt, dmt, kt, nC, cs, nG, gs, nP, ps, nO, os, nR, rs, k, dmp, day, pur, rf, Y, ⟨L, E0, M0, ca2, ga2, pa2, oa2, ra2, YY⟩, o⟩ := j9
  obtain ⟨a1, a2, a3, a4, a5, a6, a7, a8, a9, a10, pw, p1, p2⟩ := id o
  refine ⟨_, _, _, m_X7_forget hl Y, m_X10_forget hl YY, ?_, ?_, ?_⟩
  · intro E h9 px
    exact px.1
  · rintro v hA' ⟨h1, h2, Y2⟩ z hB' (m | m)
    · exact absurd (m.1.symm.trans h1) (by decide)
    · exact ⟨m.2.1.trans h2.symm, ⟨_, _, _, _, _, _, _, _, _, _, _, _, _, _, _, _, _, _, _, _, _, _, _, _, _, _, _, _, _, _, _, _, _, _, Y2, m.2.2, (o.forget h1)⟩⟩
  · rintro E hA' ⟨rfl, rfl, h1⟩ z hB' (m | m)
    · exact ⟨1, by simp, ⟨_, _, _, _, _, _, _, _, _, _, _, _, _, _, _, _, _, _, _, _, _, _, _, _, _, _, _, _, _, _, _, _, _, _, Y, m.2.2, o.same⟩⟩
    · exact absurd (h1.symm.trans m.1) (by decide)

theorem jt_damper {l : Launch} {D : va_G} {tc : Nat → ClassId} (hl : l.stackTraces = false) {y0 m0 kl wk c : Nat} {th : Int32} {hA hB : HM} (j9 : J9 tc y0 m0 kl wk c th hA hB) {d : Int32} :
    ∃ (p : Int32 → HM → Prop) (px : String → HM → Prop) (q : Int32 → HM → Prop), CTX l D tc yX7_damper cX7_damper 3 (some FieldType.int) rm_X7_damper [.ref y0, .int d] hA (rI p) px ∧ CT l D tc yX10_damper cX10_damper 3 (some FieldType.int) rm_X10_damper [.ref m0, .int d] hB (rI q) ∧ (∀ E h9, px E h9 → E = "java/lang/IllegalArgumentException") ∧
      (∀ v hA', p v hA' → ∀ z hB', q z hB' → z = v ∧ J9 tc y0 m0 kl wk (c + 1) 0 hA' hB') ∧ (∀ E hA', px E hA' → ∀ z hB', q z hB' → ∃ t9, (E, t9) ∈ ([("java/lang/IllegalArgumentException", 1)] : List (String × Int32)) ∧ J9 tc y0 m0 kl wk (c + 1) t9 hA' hB') := by
  obtain ⟨cA, gA, pA, oA, pr, ra, re, rw, tr, tw, ca, ga, pa, oa, f, hb, hbt, dmt, kt, nC, cs, nG, gs, nP, ps, nO, os, nR, rs, k, dmp, day, pur, rf, Y, ⟨L, E0, M0, ca2, ga2, pa2, oa2, ra2, YY⟩, o⟩ := j9
  obtain ⟨a1, a2, a3, a4, a5, a6, a7, a8, a9, a10, pw, p1, p2⟩ := id o
  refine ⟨_, _, _, m_X7_damper hl Y, m_X10_damper hl YY, ?_, ?_, ?_⟩
  · intro E h9 px
    exact px.1
  · rintro v hA' ⟨h1, h2, Y2⟩ z hB' (m | m)
    · exact absurd h1 m.1
    · exact ⟨m.2.1.trans h2.symm, ⟨_, _, _, _, _, _, _, _, _, _, _, _, _, _, _, _, _, _, _, _, _, _, _, _, _, _, _, _, _, _, _, _, _, _, Y2, m.2.2, o.same⟩⟩
  · rintro E hA' ⟨rfl, rfl, h1⟩ z hB' (m | m)
    · exact ⟨1, by simp, ⟨_, _, _, _, _, _, _, _, _, _, _, _, _, _, _, _, _, _, _, _, _, _, _, _, _, _, _, _, _, _, _, _, _, _, Y, m.2.2, o.same⟩⟩
    · exact absurd m.1 h1

theorem jt_cover {l : Launch} {D : va_G} {tc : Nat → ClassId} (hl : l.stackTraces = false) {y0 m0 kl wk c : Nat} {th : Int32} {hA hB : HM} (j9 : J9 tc y0 m0 kl wk c th hA hB) {i : Int32} {b : Bool} :
    ∃ (p : Int32 → HM → Prop) (px : String → HM → Prop) (q : Int32 → HM → Prop), CTX l D tc yX7_cover cX7_cover 5 (some FieldType.boolean) rm_X7_cover [.ref y0, .int i, .int (bi b)] hA (rI p) px ∧ CT l D tc yX10_cover cX10_cover 4 (some FieldType.boolean) rm_X10_cover [.ref m0, .int i, .int (bi b)] hB (rI q) ∧ (∀ E h9, px E h9 → E = "java/lang/IndexOutOfBoundsException") ∧
      (∀ v hA', p v hA' → ∀ z hB', q z hB' → z = v ∧ J9 tc y0 m0 kl wk (c + 1) 0 hA' hB') ∧ (∀ E hA', px E hA' → ∀ z hB', q z hB' → ∃ t9, (E, t9) ∈ ([("java/lang/IndexOutOfBoundsException", 1)] : List (String × Int32)) ∧ J9 tc y0 m0 kl wk (c + 1) t9 hA' hB') := by
  obtain ⟨cA, gA, pA, oA, pr, ra, re, rw, tr, tw, ca, ga, pa, oa, f, hb, hbt, dmt, kt, nC, cs, nG, gs, nP, ps, nO, os, nR, rs, k, dmp, day, pur, rf, Y, ⟨L, E0, M0, ca2, ga2, pa2, oa2, ra2, YY⟩, o⟩ := j9
  obtain ⟨a1, a2, a3, a4, a5, a6, a7, a8, a9, a10, pw, p1, p2⟩ := id o
  refine ⟨_, _, _, m_X7_cover hl Y a3, m_X10_cover hl YY a3, ?_, ?_, ?_⟩
  · intro E h9 px
    exact px.1
  · rintro v hA' ⟨j, hj, e, h1, Y2⟩ z hB' (m | ⟨j9, hj9, e9, m⟩)
    · exact absurd (e ▸ m.1) (not_out hj (by omega))
    · obtain rfl : j = j9 := nI_inj (by omega) (by omega) (e.symm.trans e9)
      exact ⟨m.1.trans h1.symm, ⟨_, _, _, _, _, _, _, _, _, _, _, _, _, _, _, _, _, _, _, _, _, _, _, _, _, _, _, _, _, _, _, _, _, _, Y2, m.2, (o.upd9 ((a7 j hj).cvr b))⟩⟩
  · rintro E hA' ⟨rfl, rfl, h1⟩ z hB' (m | ⟨j9, hj9, e9, m⟩)
    · exact ⟨1, by simp, ⟨_, _, _, _, _, _, _, _, _, _, _, _, _, _, _, _, _, _, _, _, _, _, _, _, _, _, _, _, _, _, _, _, _, _, Y, m.2.2, o.same⟩⟩
    · exact absurd (e9 ▸ h1) (not_out hj9 (by omega))

theorem jt_pot {l : Launch} {D : va_G} {tc : Nat → ClassId} (hl : l.stackTraces = false) {y0 m0 kl wk c : Nat} {th : Int32} {hA hB : HM} (j9 : J9 tc y0 m0 kl wk c th hA hB) {cl wd hg wl : Int32} :
    ∃ (p : Int32 → HM → Prop) (px : String → HM → Prop) (q : Int32 → HM → Prop), CTX l D tc yX7_pot cX7_pot 7 (some FieldType.int) rm_X7_pot [.ref y0, .int cl, .int wd, .int hg, .int wl] hA (rI p) px ∧ CT l D tc yX10_pot cX10_pot 5 (some FieldType.int) rm_X10_pot [.ref m0, .int cl, .int wd, .int hg, .int wl] hB (rI q) ∧ (∀ E h9, px E h9 → E = "java/lang/IndexOutOfBoundsException" ∨ E = "java/lang/IllegalArgumentException" ∨ E = "java/lang/IllegalStateException") ∧
      (∀ v hA', p v hA' → ∀ z hB', q z hB' → z = v ∧ J9 tc y0 m0 kl wk (c + 1) 0 hA' hB') ∧ (∀ E hA', px E hA' → ∀ z hB', q z hB' → ∃ t9, (E, t9) ∈ ([("java/lang/IndexOutOfBoundsException", 1), ("java/lang/IllegalArgumentException", 2), ("java/lang/IllegalStateException", 3)] : List (String × Int32)) ∧ J9 tc y0 m0 kl wk (c + 1) t9 hA' hB') := by
  obtain ⟨cA, gA, pA, oA, pr, ra, re, rw, tr, tw, ca, ga, pa, oa, f, hb, hbt, dmt, kt, nC, cs, nG, gs, nP, ps, nO, os, nR, rs, k, dmp, day, pur, rf, Y, ⟨L, E0, M0, ca2, ga2, pa2, oa2, ra2, YY⟩, o⟩ := j9
  obtain ⟨a1, a2, a3, a4, a5, a6, a7, a8, a9, a10, pw, p1, p2⟩ := id o
  refine ⟨_, _, _, m_X7_pot hl Y a1 a3, m_X10_pot hl YY a1 a3, ?_, ?_, ?_⟩
  · intro E h9 px
    rcases px with px | px | px
    · exact Or.inl px.1
    · exact Or.inr (Or.inl px.1)
    · exact Or.inr (Or.inr px.1)
  · rintro v hA' ⟨j, hj, e, h1, h2, h3, q, Y2⟩ z hB' (m | ⟨j9, hj9, e9, m | m | m⟩)
    · exact absurd (e ▸ m.1) (not_out hj (by omega))
    · exact absurd h1 m.1
    · exact absurd h2 m.2.1
    · obtain rfl : j = j9 := nI_inj (by omega) (by omega) (e.symm.trans e9)
      exact ⟨m.2.2.1.trans h3.symm, ⟨_, _, _, _, _, _, _, _, _, _, _, _, _, _, _, _, _, _, _, _, _, _, _, _, _, _, _, _, _, _, _, _, _, _, Y2, m.2.2.2, (o.pot (new_pot hj h1) h2)⟩⟩
  · rintro E hA' (⟨rfl, rfl, h1⟩ | ⟨rfl, rfl, h1, h2⟩ | ⟨rfl, rfl, h1, h2, h3⟩) z hB' (m | ⟨j9, hj9, e9, m | m | m⟩)
    · exact ⟨1, by simp, ⟨_, _, _, _, _, _, _, _, _, _, _, _, _, _, _, _, _, _, _, _, _, _, _, _, _, _, _, _, _, _, _, _, _, _, Y, m.2.2, o.same⟩⟩
    · exact absurd (e9 ▸ h1) (not_out hj9 (by omega))
    · exact absurd (e9 ▸ h1) (not_out hj9 (by omega))
    · exact absurd (e9 ▸ h1) (not_out hj9 (by omega))
    · exact absurd m.1 h1
    · exact ⟨2, by simp, ⟨_, _, _, _, _, _, _, _, _, _, _, _, _, _, _, _, _, _, _, _, _, _, _, _, _, _, _, _, _, _, _, _, _, _, Y, m.2.2, o.same⟩⟩
    · exact absurd m.1 h2
    · exact absurd m.1 h2
    · exact absurd m.1 h1
    · exact absurd h2 m.1
    · exact ⟨3, by simp, ⟨_, _, _, _, _, _, _, _, _, _, _, _, _, _, _, _, _, _, _, _, _, _, _, _, _, _, _, _, _, _, _, _, _, _, Y, m.2.2.2, o.same⟩⟩
    · exact absurd m.2.1 h3

theorem jt_take {l : Launch} {D : va_G} {tc : Nat → ClassId} (hl : l.stackTraces = false) {y0 m0 kl wk c : Nat} {th : Int32} {hA hB : HM} (j9 : J9 tc y0 m0 kl wk c th hA hB) {i : Int32} :
    ∃ (p : Int32 → HM → Prop) (px : String → HM → Prop) (q : Int32 → HM → Prop), CTX l D tc yX7_take cX7_take 4 (some FieldType.int) rm_X7_take [.ref y0, .int i] hA (rI p) px ∧ CT l D tc yX10_take cX10_take 3 (some FieldType.int) rm_X10_take [.ref m0, .int i] hB (rI q) ∧ (∀ E h9, px E h9 → E = "java/lang/IndexOutOfBoundsException" ∨ E = "java/lang/IllegalStateException") ∧
      (∀ v hA', p v hA' → ∀ z hB', q z hB' → z = v ∧ J9 tc y0 m0 kl wk (c + 1) 0 hA' hB') ∧ (∀ E hA', px E hA' → ∀ z hB', q z hB' → ∃ t9, (E, t9) ∈ ([("java/lang/IndexOutOfBoundsException", 1), ("java/lang/IllegalStateException", 2)] : List (String × Int32)) ∧ J9 tc y0 m0 kl wk (c + 1) t9 hA' hB') := by
  obtain ⟨cA, gA, pA, oA, pr, ra, re, rw, tr, tw, ca, ga, pa, oa, f, hb, hbt, dmt, kt, nC, cs, nG, gs, nP, ps, nO, os, nR, rs, k, dmp, day, pur, rf, Y, ⟨L, E0, M0, ca2, ga2, pa2, oa2, ra2, YY⟩, o⟩ := j9
  obtain ⟨a1, a2, a3, a4, a5, a6, a7, a8, a9, a10, pw, p1, p2⟩ := id o
  refine ⟨_, _, _, m_X7_take hl Y a3, m_X10_take hl YY a3, ?_, ?_, ?_⟩
  · intro E h9 px
    rcases px with px | px
    · exact Or.inl px.1
    · exact Or.inr px.1
  · rintro v hA' ⟨j, hj, e, h1, h2, h3, Y2⟩ z hB' (m | ⟨j9, hj9, e9, m | m⟩)
    · exact absurd (e ▸ m.1) (not_out hj (by omega))
    · obtain rfl : j = j9 := nI_inj (by omega) (by omega) (e.symm.trans e9)
      rcases m.1 with w | w
      · exact absurd h1 ((hot_iff a8.1).mp w)
      · exact absurd w h2
    · obtain rfl : j = j9 := nI_inj (by omega) (by omega) (e.symm.trans e9)
      exact ⟨m.2.2.1.trans h3.symm, ⟨_, _, _, _, _, _, _, _, _, _, _, _, _, _, _, _, _, _, _, _, _, _, _, _, _, _, _, _, _, _, _, _, _, _, Y2, m.2.2.2, (o.upd9 (a7 j hj).lvd)⟩⟩
  · rintro E hA' (⟨rfl, rfl, h1⟩ | ⟨rfl, rfl, j, hj, e, h1⟩) z hB' (m | ⟨j9, hj9, e9, m | m⟩)
    · exact ⟨1, by simp, ⟨_, _, _, _, _, _, _, _, _, _, _, _, _, _, _, _, _, _, _, _, _, _, _, _, _, _, _, _, _, _, _, _, _, _, Y, m.2.2, o.same⟩⟩
    · exact absurd (e9 ▸ h1) (not_out hj9 (by omega))
    · exact absurd (e9 ▸ h1) (not_out hj9 (by omega))
    · exact absurd (e ▸ m.1) (not_out hj (by omega))
    · exact ⟨2, by simp, ⟨_, _, _, _, _, _, _, _, _, _, _, _, _, _, _, _, _, _, _, _, _, _, _, _, _, _, _, _, _, _, _, _, _, _, Y, m.2.2, o.same⟩⟩
    · obtain rfl : j = j9 := nI_inj (by omega) (by omega) (e.symm.trans e9)
      refine absurd ⟨Decidable.not_not.mp fun w => m.1 ((hot_iff a8.1).mpr w), m.2.1⟩ h1

theorem jt_ramp {l : Launch} {D : va_G} {tc : Nat → ClassId} (hl : l.stackTraces = false) {y0 m0 kl wk c : Nat} {th : Int32} {hA hB : HM} (j9 : J9 tc y0 m0 kl wk c th hA hB) {r0 t0 d0 : Int32} :
    ∃ (p : Int32 → HM → Prop) (px : String → HM → Prop) (q : Int32 → HM → Prop), CTX l D tc yX7_ramp cX7_ramp 4 (some FieldType.int) rm_X7_ramp [.ref y0, .int r0, .int t0, .int d0] hA (rI p) px ∧ CT l D tc yX10_ramp cX10_ramp 4 (some FieldType.int) rm_X10_ramp [.ref m0, .int r0, .int t0, .int d0] hB (rI q) ∧ (∀ E h9, px E h9 → E = "java/lang/IllegalArgumentException" ∨ E = "java/lang/IllegalStateException") ∧
      (∀ v hA', p v hA' → ∀ z hB', q z hB' → z = v ∧ J9 tc y0 m0 kl wk (c + 1) 0 hA' hB') ∧ (∀ E hA', px E hA' → ∀ z hB', q z hB' → ∃ t9, (E, t9) ∈ ([("java/lang/IllegalArgumentException", 1), ("java/lang/IllegalStateException", 2)] : List (String × Int32)) ∧ J9 tc y0 m0 kl wk (c + 1) t9 hA' hB') := by
  obtain ⟨cA, gA, pA, oA, pr, ra, re, rw, tr, tw, ca, ga, pa, oa, f, hb, hbt, dmt, kt, nC, cs, nG, gs, nP, ps, nO, os, nR, rs, k, dmp, day, pur, rf, Y, ⟨L, E0, M0, ca2, ga2, pa2, oa2, ra2, YY⟩, o⟩ := j9
  obtain ⟨a1, a2, a3, a4, a5, a6, a7, a8, a9, a10, pw, p1, p2⟩ := id o
  refine ⟨_, _, _, m_X7_ramp hl Y a10.1, m_X10_ramp hl YY a10.1, ?_, ?_, ?_⟩
  · intro E h9 px
    rcases px with px | px
    · exact Or.inl px.1
    · exact Or.inr px.1
  · rintro v hA' ⟨h1, h2, h3, h4, q, Y2⟩ z hB' (m | m | m)
    · exact absurd h1 m.1
    · rcases m.2.1 with w | w
      · exact absurd (w.symm.trans h2) (by decide)
      · exact absurd h3 w
    · exact ⟨m.2.2.2.1.trans h4.symm, ⟨_, _, _, _, _, _, _, _, _, _, _, _, _, _, _, _, _, _, _, _, _, _, _, _, _, _, _, _, _, _, _, _, _, _, Y2, m.2.2.2.2, (o.ramp h1 h3)⟩⟩
  · rintro E hA' (⟨rfl, rfl, h1⟩ | ⟨rfl, rfl, h1, h2⟩) z hB' (m | m | m)
    · exact ⟨1, by simp, ⟨_, _, _, _, _, _, _, _, _, _, _, _, _, _, _, _, _, _, _, _, _, _, _, _, _, _, _, _, _, _, _, _, _, _, Y, m.2.2, o.same⟩⟩
    · exact absurd m.1 h1
    · exact absurd m.1 h1
    · exact absurd h1 m.1
    · exact ⟨2, by simp, ⟨_, _, _, _, _, _, _, _, _, _, _, _, _, _, _, _, _, _, _, _, _, _, _, _, _, _, _, _, _, _, _, _, _, _, Y, m.2.2.2, o.same⟩⟩
    · rcases h2 with w | w
      · exact absurd (w.symm.trans m.2.1) (by decide)
      · exact absurd m.2.2.1 w

theorem jt_light {l : Launch} {D : va_G} {tc : Nat → ClassId} (hl : l.stackTraces = false) {y0 m0 kl wk c : Nat} {th : Int32} {hA hB : HM} (j9 : J9 tc y0 m0 kl wk c th hA hB)  :
    ∃ (p : Int32 → HM → Prop) (px : String → HM → Prop) (q : Int32 → HM → Prop), CTX l D tc yX7_light cX7_light 3 (some FieldType.int) rm_X7_light [.ref y0] hA (rI p) px ∧ CT l D tc yX10_light cX10_light 1 (some FieldType.int) rm_X10_light [.ref m0] hB (rI q) ∧ (∀ E h9, px E h9 → E = "java/lang/IllegalStateException") ∧
      (∀ v hA', p v hA' → ∀ z hB', q z hB' → z = v ∧ J9 tc y0 m0 kl wk (c + 1) 0 hA' hB') ∧ (∀ E hA', px E hA' → ∀ z hB', q z hB' → ∃ t9, (E, t9) ∈ ([("java/lang/IllegalStateException", 1)] : List (String × Int32)) ∧ J9 tc y0 m0 kl wk (c + 1) t9 hA' hB') := by
  obtain ⟨cA, gA, pA, oA, pr, ra, re, rw, tr, tw, ca, ga, pa, oa, f, hb, hbt, dmt, kt, nC, cs, nG, gs, nP, ps, nO, os, nR, rs, k, dmp, day, pur, rf, Y, ⟨L, E0, M0, ca2, ga2, pa2, oa2, ra2, YY⟩, o⟩ := j9
  obtain ⟨a1, a2, a3, a4, a5, a6, a7, a8, a9, a10, pw, p1, p2⟩ := id o
  refine ⟨_, _, _, m_X7_light hl Y a10.1, m_X10_light hl YY a3 a10.1 (fun i hi => (a7 i hi).sh), ?_, ?_, ?_⟩
  · intro E h9 px
    exact px.1
  · rintro v hA' ⟨h1, h2, h3, Y2⟩ z hB' (m | m)
    · rcases m.1 with w | w
      · exact absurd (w.symm.trans h1) (by decide)
      · exact absurd w h2
    · exact ⟨m.2.2.1.trans h3.symm, ⟨_, _, _, _, _, _, _, _, _, _, _, _, _, _, _, _, _, _, _, _, _, _, _, _, _, _, _, _, _, _, _, _, _, _, Y2, m.2.2.2, (o.light h2)⟩⟩
  · rintro E hA' ⟨rfl, rfl, h1⟩ z hB' (m | m)
    · exact ⟨1, by simp, ⟨_, _, _, _, _, _, _, _, _, _, _, _, _, _, _, _, _, _, _, _, _, _, _, _, _, _, _, _, _, _, _, _, _, _, Y, m.2.2, o.same⟩⟩
    · rcases h1 with w | w
      · exact absurd (w.symm.trans m.1) (by decide)
      · exact absurd w m.2.1

theorem jt_dip {l : Launch} {D : va_G} {tc : Nat → ClassId} (hl : l.stackTraces = false) {y0 m0 kl wk c : Nat} {th : Int32} {hA hB : HM} (j9 : J9 tc y0 m0 kl wk c th hA hB) {i gl : Int32} :
    ∃ (p : Int32 → HM → Prop) (px : String → HM → Prop) (q : Int32 → HM → Prop), CTX l D tc yX7_dip cX7_dip 5 (some FieldType.int) rm_X7_dip [.ref y0, .int i, .int gl] hA (rI p) px ∧ CT l D tc yX10_dip cX10_dip 3 (some FieldType.int) rm_X10_dip [.ref m0, .int i, .int gl] hB (rI q) ∧ (∀ E h9, px E h9 → E = "java/lang/IndexOutOfBoundsException" ∨ E = "java/lang/IllegalStateException") ∧
      (∀ v hA', p v hA' → ∀ z hB', q z hB' → z = v ∧ J9 tc y0 m0 kl wk (c + 1) 0 hA' hB') ∧ (∀ E hA', px E hA' → ∀ z hB', q z hB' → ∃ t9, (E, t9) ∈ ([("java/lang/IndexOutOfBoundsException", 1), ("java/lang/IllegalStateException", 2)] : List (String × Int32)) ∧ J9 tc y0 m0 kl wk (c + 1) t9 hA' hB') := by
  obtain ⟨cA, gA, pA, oA, pr, ra, re, rw, tr, tw, ca, ga, pa, oa, f, hb, hbt, dmt, kt, nC, cs, nG, gs, nP, ps, nO, os, nR, rs, k, dmp, day, pur, rf, Y, ⟨L, E0, M0, ca2, ga2, pa2, oa2, ra2, YY⟩, o⟩ := j9
  obtain ⟨a1, a2, a3, a4, a5, a6, a7, a8, a9, a10, pw, p1, p2⟩ := id o
  refine ⟨_, _, _, m_X7_dip hl Y a3 a2, m_X10_dip hl YY a3 a2 a6, ?_, ?_, ?_⟩
  · intro E h9 px
    rcases px with px | px
    · exact Or.inl px.1
    · exact Or.inr px.1
  · rintro v hA' ⟨j, g, hj, e, hg, f1, h1, h2, Y2⟩ z hB' (m | ⟨j9, g9, hj9, e9, hg9, f9, m | m⟩)
    · rcases m.1 with w | w
      · exact absurd (e ▸ w) (not_out hj (by omega))
      · exact absurd (f1 ▸ w) (not_out hg (by omega))
    · obtain rfl : j = j9 := nI_inj (by omega) (by omega) (e.symm.trans e9)
      exact absurd h1 m.1
    · obtain rfl : j = j9 := nI_inj (by omega) (by omega) (e.symm.trans e9)
      obtain rfl : g = g9 := nI_inj (by omega) (by omega) (f1.symm.trans f9)
      exact ⟨m.2.1.trans h2.symm, ⟨_, _, _, _, _, _, _, _, _, _, _, _, _, _, _, _, _, _, _, _, _, _, _, _, _, _, _, _, _, _, _, _, _, _, Y2, m.2.2, (o.upd9 ((a7 j hj).dipp hg))⟩⟩
  · rintro E hA' (⟨rfl, rfl, h1⟩ | ⟨rfl, rfl, j, g, hj, e, hg, f1, h1⟩) z hB' (m | ⟨j9, g9, hj9, e9, hg9, f9, m | m⟩)
    · exact ⟨1, by simp, ⟨_, _, _, _, _, _, _, _, _, _, _, _, _, _, _, _, _, _, _, _, _, _, _, _, _, _, _, _, _, _, _, _, _, _, Y, m.2.2, o.same⟩⟩
    · rcases h1 with w | w
      · exact absurd (e9 ▸ w) (not_out hj9 (by omega))
      · exact absurd (f9 ▸ w) (not_out hg9 (by omega))
    · rcases h1 with w | w
      · exact absurd (e9 ▸ w) (not_out hj9 (by omega))
      · exact absurd (f9 ▸ w) (not_out hg9 (by omega))
    · rcases m.1 with w | w
      · exact absurd (e ▸ w) (not_out hj (by omega))
      · exact absurd (f1 ▸ w) (not_out hg (by omega))
    · exact ⟨2, by simp, ⟨_, _, _, _, _, _, _, _, _, _, _, _, _, _, _, _, _, _, _, _, _, _, _, _, _, _, _, _, _, _, _, _, _, _, Y, m.2.2, o.same⟩⟩
    · obtain rfl : j = j9 := nI_inj (by omega) (by omega) (e.symm.trans e9)
      exact absurd m.1 h1

theorem jt_order {l : Launch} {D : va_G} {tc : Nat → ClassId} (hl : l.stackTraces = false) {y0 m0 kl wk c : Nat} {th : Int32} {hA hB : HM} (j9 : J9 tc y0 m0 kl wk c th hA hB) {gl c0 ds pz : Int32} :
    ∃ (p : Int32 → HM → Prop) (px : String → HM → Prop) (q : Int32 → HM → Prop), CTX l D tc yX7_order cX7_order 6 (some FieldType.int) rm_X7_order [.ref y0, .int gl, .int c0, .int ds, .int pz] hA (rI p) px ∧ CT l D tc yX10_order cX10_order 5 (some FieldType.int) rm_X10_order [.ref m0, .int gl, .int c0, .int ds, .int pz] hB (rI q) ∧ (∀ E h9, px E h9 → E = "java/lang/IndexOutOfBoundsException" ∨ E = "java/lang/IllegalArgumentException" ∨ E = "java/lang/IllegalStateException") ∧
      (∀ v hA', p v hA' → ∀ z hB', q z hB' → z = v ∧ J9 tc y0 m0 kl wk (c + 1) 0 hA' hB') ∧ (∀ E hA', px E hA' → ∀ z hB', q z hB' → ∃ t9, (E, t9) ∈ ([("java/lang/IndexOutOfBoundsException", 1), ("java/lang/IllegalArgumentException", 2), ("java/lang/IllegalStateException", 3)] : List (String × Int32)) ∧ J9 tc y0 m0 kl wk (c + 1) t9 hA' hB') := by
  obtain ⟨cA, gA, pA, oA, pr, ra, re, rw, tr, tw, ca, ga, pa, oa, f, hb, hbt, dmt, kt, nC, cs, nG, gs, nP, ps, nO, os, nR, rs, k, dmp, day, pur, rf, Y, ⟨L, E0, M0, ca2, ga2, pa2, oa2, ra2, YY⟩, o⟩ := j9
  obtain ⟨a1, a2, a3, a4, a5, a6, a7, a8, a9, a10, pw, p1, p2⟩ := id o
  refine ⟨_, _, _, m_X7_order hl Y a2 a4, m_X10_order hl YY a2 a4, ?_, ?_, ?_⟩
  · intro E h9 px
    rcases px with px | px | px
    · exact Or.inl px.1
    · exact Or.inr (Or.inl px.1)
    · exact Or.inr (Or.inr px.1)
  · rintro v hA' ⟨j, hj, e, h1, h2, h3, q, Y2⟩ z hB' (m | ⟨j9, hj9, e9, m | m | m⟩)
    · exact absurd (e ▸ m.1) (not_out hj (by omega))
    · exact absurd h1 m.1
    · exact absurd h2 m.2.1
    · obtain rfl : j = j9 := nI_inj (by omega) (by omega) (e.symm.trans e9)
      exact ⟨m.2.2.1.trans h3.symm, ⟨_, _, _, _, _, _, _, _, _, _, _, _, _, _, _, _, _, _, _, _, _, _, _, _, _, _, _, _, _, _, _, _, _, _, Y2, m.2.2.2, (o.order h2)⟩⟩
  · rintro E hA' (⟨rfl, rfl, h1⟩ | ⟨rfl, rfl, h1, h2⟩ | ⟨rfl, rfl, h1, h2, h3⟩) z hB' (m | ⟨j9, hj9, e9, m | m | m⟩)
    · exact ⟨1, by simp, ⟨_, _, _, _, _, _, _, _, _, _, _, _, _, _, _, _, _, _, _, _, _, _, _, _, _, _, _, _, _, _, _, _, _, _, Y, m.2.2, o.same⟩⟩
    · exact absurd (e9 ▸ h1) (not_out hj9 (by omega))
    · exact absurd (e9 ▸ h1) (not_out hj9 (by omega))
    · exact absurd (e9 ▸ h1) (not_out hj9 (by omega))
    · exact absurd m.1 h1
    · exact ⟨2, by simp, ⟨_, _, _, _, _, _, _, _, _, _, _, _, _, _, _, _, _, _, _, _, _, _, _, _, _, _, _, _, _, _, _, _, _, _, Y, m.2.2, o.same⟩⟩
    · exact absurd m.1 h2
    · exact absurd m.1 h2
    · exact absurd m.1 h1
    · exact absurd h2 m.1
    · exact ⟨3, by simp, ⟨_, _, _, _, _, _, _, _, _, _, _, _, _, _, _, _, _, _, _, _, _, _, _, _, _, _, _, _, _, _, _, _, _, _, Y, m.2.2.2, o.same⟩⟩
    · exact absurd m.2.1 h3

theorem jt_meet {l : Launch} {D : va_G} {tc : Nat → ClassId} (hl : l.stackTraces = false) {y0 m0 kl wk c : Nat} {th : Int32} {hA hB : HM} (j9 : J9 tc y0 m0 kl wk c th hA hB) {i pt : Int32} :
    ∃ (p : Int32 → HM → Prop) (px : String → HM → Prop) (q : Int32 → HM → Prop), CTX l D tc yX7_meet cX7_meet 6 (some FieldType.int) rm_X7_meet [.ref y0, .int i, .int pt] hA (rI p) px ∧ CT l D tc yX10_meet cX10_meet 7 (some FieldType.int) rm_X10_meet [.ref m0, .int i, .int pt] hB (rI q) ∧ (∀ E h9, px E h9 → E = "java/lang/IndexOutOfBoundsException" ∨ E = "java/lang/IllegalStateException") ∧
      (∀ v hA', p v hA' → ∀ z hB', q z hB' → z = v ∧ J9 tc y0 m0 kl wk (c + 1) 0 hA' hB') ∧ (∀ E hA', px E hA' → ∀ z hB', q z hB' → ∃ t9, (E, t9) ∈ ([("java/lang/IndexOutOfBoundsException", 1), ("java/lang/IllegalStateException", 2)] : List (String × Int32)) ∧ J9 tc y0 m0 kl wk (c + 1) t9 hA' hB') := by
  obtain ⟨cA, gA, pA, oA, pr, ra, re, rw, tr, tw, ca, ga, pa, oa, f, hb, hbt, dmt, kt, nC, cs, nG, gs, nP, ps, nO, os, nR, rs, k, dmp, day, pur, rf, Y, ⟨L, E0, M0, ca2, ga2, pa2, oa2, ra2, YY⟩, o⟩ := j9
  obtain ⟨a1, a2, a3, a4, a5, a6, a7, a8, a9, a10, pw, p1, p2⟩ := id o
  refine ⟨_, _, _, m_X7_meet hl Y a4 a3 (fun i hi => (a7 i hi).2.1), m_X10_meet hl YY a3 a4 (fun i hi => (a7 i hi).gl), ?_, ?_, ?_⟩
  · intro E h9 px
    rcases px with px | px
    · exact Or.inl px.1
    · exact Or.inr px.1
  · rintro v hA' ⟨j, g, hj, e, hg, f1, h1, h2, Y2⟩ z hB' (m | ⟨j9, g9, hj9, e9, hg9, f9, m | m⟩)
    · rcases m.1 with w | w
      · exact absurd (e ▸ w) (not_out hj (by omega))
      · exact absurd (f1 ▸ w) (not_out hg (by omega))
    · obtain rfl : j = j9 := nI_inj (by omega) (by omega) (e.symm.trans e9)
      obtain rfl : g = g9 := nI_inj (by omega) (by omega) (f1.symm.trans f9)
      exact absurd h1 m.1
    · obtain rfl : j = j9 := nI_inj (by omega) (by omega) (e.symm.trans e9)
      obtain rfl : g = g9 := nI_inj (by omega) (by omega) (f1.symm.trans f9)
      exact ⟨m.2.1.trans h2.symm, ⟨_, _, _, _, _, _, _, _, _, _, _, _, _, _, _, _, _, _, _, _, _, _, _, _, _, _, _, _, _, _, _, _, _, _, Y2, m.2.2, (o.upd9 ((a7 g hg).sold h1.2.1))⟩⟩
  · rintro E hA' (⟨rfl, rfl, h1⟩ | ⟨rfl, rfl, j, g, hj, e, hg, f1, h1⟩) z hB' (m | ⟨j9, g9, hj9, e9, hg9, f9, m | m⟩)
    · exact ⟨1, by simp, ⟨_, _, _, _, _, _, _, _, _, _, _, _, _, _, _, _, _, _, _, _, _, _, _, _, _, _, _, _, _, _, _, _, _, _, Y, m.2.2, o.same⟩⟩
    · rcases h1 with w | w
      · exact absurd (e9 ▸ w) (not_out hj9 (by omega))
      · exact absurd (f9 ▸ w) (not_out hg9 (by omega))
    · rcases h1 with w | w
      · exact absurd (e9 ▸ w) (not_out hj9 (by omega))
      · exact absurd (f9 ▸ w) (not_out hg9 (by omega))
    · rcases m.1 with w | w
      · exact absurd (e ▸ w) (not_out hj (by omega))
      · exact absurd (f1 ▸ w) (not_out hg (by omega))
    · exact ⟨2, by simp, ⟨_, _, _, _, _, _, _, _, _, _, _, _, _, _, _, _, _, _, _, _, _, _, _, _, _, _, _, _, _, _, _, _, _, _, Y, m.2.2, o.same⟩⟩
    · obtain rfl : j = j9 := nI_inj (by omega) (by omega) (e.symm.trans e9)
      obtain rfl : g = g9 := nI_inj (by omega) (by omega) (f1.symm.trans f9)
      exact absurd m.1 h1

theorem le_w {w n : Int32} {m : Int} (e : n.toInt = m) : (0 ≤ w ∧ w ≤ n) ↔ (0 ≤ w.toInt ∧ w.toInt ≤ m) := by
  subst e
  rw [Int32.le_iff_toInt_le, Int32.le_iff_toInt_le]
  exact Iff.rfl
theorem okPt.wf {nC nG : Nat} {p : PT} (h : okPt nC nG p) : FP.Core.FFin (qWa p.2.2) := (lose_okq (air := 1) (by decide) h.q).2.2.elim fun n e => by
  obtain ⟨k, n1, _, _, e1, _⟩ := e
  rw [e1]
  exact wt_n n1

theorem jt_dry {l : Launch} {D : va_G} {tc : Nat → ClassId} (hl : l.stackTraces = false) {y0 m0 kl wk c : Nat} {th : Int32} {hA hB : HM} (j9 : J9 tc y0 m0 kl wk c th hA hB) {ds air : Int32} :
    ∃ (p : Int32 → HM → Prop) (px : String → HM → Prop) (q : Int32 → HM → Prop), CTX l D tc yX7_dry cX7_dry 4 (some FieldType.int) rm_X7_dry [.ref y0, .int ds, .int air] hA (rI p) px ∧ CT l D tc yX10_dry cX10_dry 6 (some FieldType.int) rm_X10_dry [.ref m0, .int ds, .int air] hB (rI q) ∧ (∀ E h9, px E h9 → E = "java/lang/IllegalArgumentException" ∨ E = "java/lang/IllegalStateException") ∧
      (∀ v hA', p v hA' → ∀ z hB', q z hB' → z = v ∧ J9 tc y0 m0 kl wk (c + 1) 0 hA' hB') ∧ (∀ E hA', px E hA' → ∀ z hB', q z hB' → ∃ t9, (E, t9) ∈ ([("java/lang/IllegalArgumentException", 1), ("java/lang/IllegalStateException", 2)] : List (String × Int32)) ∧ J9 tc y0 m0 kl wk (c + 1) t9 hA' hB') := by
  obtain ⟨cA, gA, pA, oA, pr, ra, re, rw, tr, tw, ca, ga, pa, oa, f, hb, hbt, dmt, kt, nC, cs, nG, gs, nP, ps, nO, os, nR, rs, k, dmp, day, pur, rf, Y, ⟨L, E0, M0, ca2, ga2, pa2, oa2, ra2, YY⟩, o⟩ := j9
  obtain ⟨a1, a2, a3, a4, a5, a6, a7, a8, a9, a10, pw, p1, p2⟩ := id o
  refine ⟨_, _, _, m_X7_dry hl Y (fun b1 b2 j i hi => (lose_okq ⟨b1, b2⟩ ((okPs.dps a7 ⟨b1, b2⟩ j) i hi).q).1), m_X10_dry hl YY a3 (fun i hi => (a7 i hi).q), ?_, ?_, ?_⟩
  · intro E h9 px
    rcases px with px | px
    · exact Or.inl px.1
    · exact Or.inr px.1
  · rintro v hA' ⟨h1, h2, j, hj, e, h3, Y2⟩ z hB' (m | m | ⟨g1, g2, j9, hj9, e9, m⟩)
    · exact absurd h1 m.1
    · exact absurd m.2.1 h2
    · obtain rfl : j = j9 := nI_inj (by omega) (by omega) (e.symm.trans e9)
      exact ⟨m.1.trans h3.symm, ⟨_, _, _, _, _, _, _, _, _, _, _, _, _, _, _, _, _, _, _, _, _, _, _, _, _, _, _, _, _, _, _, _, _, _, Y2, m.2, (o.dry h1.2)⟩⟩
  · rintro E hA' (⟨rfl, rfl, h1⟩ | ⟨rfl, rfl, h1, h2⟩) z hB' (m | m | m)
    · exact ⟨1, by simp, ⟨_, _, _, _, _, _, _, _, _, _, _, _, _, _, _, _, _, _, _, _, _, _, _, _, _, _, _, _, _, _, _, _, _, _, Y, m.2.2, o.same⟩⟩
    · exact absurd m.1 h1
    · exact absurd m.1 h1
    · exact absurd h1 m.1
    · exact ⟨2, by simp, ⟨_, _, _, _, _, _, _, _, _, _, _, _, _, _, _, _, _, _, _, _, _, _, _, _, _, _, _, _, _, _, _, _, _, _, Y, m.2.2.2, o.same⟩⟩
    · exact absurd h2 m.2.1

theorem jt_many {l : Launch} {D : va_G} {tc : Nat → ClassId} (hl : l.stackTraces = false) {y0 m0 kl wk c : Nat} {th : Int32} {hA hB : HM} (j9 : J9 tc y0 m0 kl wk c th hA hB) {what : Int32} :
    ∃ (p : Int32 → HM → Prop) (px : String → HM → Prop) (q : Int32 → HM → Prop), CTX l D tc yX7_many cX7_many 2 (some FieldType.int) rm_X7_many [.ref y0, .int what] hA (rI p) px ∧ CT l D tc yX10_many cX10_many 2 (some FieldType.int) rm_X10_many [.ref m0, .int what] hB (rI q) ∧ (∀ E h9, px E h9 → E = "java/lang/IllegalArgumentException") ∧
      (∀ v hA', p v hA' → ∀ z hB', q z hB' → z = v ∧ J9 tc y0 m0 kl wk (c + 1) 0 hA' hB') ∧ (∀ E hA', px E hA' → ∀ z hB', q z hB' → ∃ t9, (E, t9) ∈ ([("java/lang/IllegalArgumentException", 1)] : List (String × Int32)) ∧ J9 tc y0 m0 kl wk (c + 1) t9 hA' hB') := by
  obtain ⟨cA, gA, pA, oA, pr, ra, re, rw, tr, tw, ca, ga, pa, oa, f, hb, hbt, dmt, kt, nC, cs, nG, gs, nP, ps, nO, os, nR, rs, k, dmp, day, pur, rf, Y, ⟨L, E0, M0, ca2, ga2, pa2, oa2, ra2, YY⟩, o⟩ := j9
  obtain ⟨a1, a2, a3, a4, a5, a6, a7, a8, a9, a10, pw, p1, p2⟩ := id o
  refine ⟨_, _, _, m_X7_many hl Y, m_X10_many hl YY a3 a4, ?_, ?_, ?_⟩
  · intro E h9 px
    exact px.1
  · rintro v hA' ⟨rfl, h1, h2⟩ z hB' (m | m)
    · exact absurd ((le_w (n := 15) (m := 15) (by decide)).mpr h1) m.1
    · exact ⟨m.2.1.trans h2.symm, ⟨_, _, _, _, _, _, _, _, _, _, _, _, _, _, _, _, _, _, _, _, _, _, _, _, _, _, _, _, _, _, _, _, _, _, Y, m.2.2, o.same⟩⟩
  · rintro E hA' ⟨rfl, rfl, h1⟩ z hB' (m | m)
    · exact ⟨1, by simp, ⟨_, _, _, _, _, _, _, _, _, _, _, _, _, _, _, _, _, _, _, _, _, _, _, _, _, _, _, _, _, _, _, _, _, _, Y, m.2.2, o.same⟩⟩
    · exact absurd ((le_w (n := 15) (m := 15) (by decide)).mp m.1) h1

theorem jt_kiln {l : Launch} {D : va_G} {tc : Nat → ClassId} (hl : l.stackTraces = false) {y0 m0 kl wk c : Nat} {th : Int32} {hA hB : HM} (j9 : J9 tc y0 m0 kl wk c th hA hB) {what : Int32} :
    ∃ (p : UInt64 → HM → Prop) (px : String → HM → Prop) (q : UInt64 → HM → Prop), CTX l D tc yX7_kiln cX7_kiln 2 (some FieldType.double) rm_X7_kiln [.ref y0, .int what] hA (rD p) px ∧ CT l D tc yX10_kiln cX10_kiln 2 (some FieldType.double) rm_X10_kiln [.ref m0, .int what] hB (rD q) ∧ (∀ E h9, px E h9 → E = "java/lang/IllegalArgumentException") ∧
      (∀ v hA', p v hA' → ∀ z hB', q z hB' → z = v ∧ J9 tc y0 m0 kl wk (c + 1) 0 hA' hB') ∧ (∀ E hA', px E hA' → ∀ z hB', q z hB' → ∃ t9, (E, t9) ∈ ([("java/lang/IllegalArgumentException", 1)] : List (String × Int32)) ∧ J9 tc y0 m0 kl wk (c + 1) t9 hA' hB') := by
  obtain ⟨cA, gA, pA, oA, pr, ra, re, rw, tr, tw, ca, ga, pa, oa, f, hb, hbt, dmt, kt, nC, cs, nG, gs, nP, ps, nO, os, nR, rs, k, dmp, day, pur, rf, Y, ⟨L, E0, M0, ca2, ga2, pa2, oa2, ra2, YY⟩, o⟩ := j9
  obtain ⟨a1, a2, a3, a4, a5, a6, a7, a8, a9, a10, pw, p1, p2⟩ := id o
  refine ⟨_, _, _, m_X7_kiln hl Y a8.1 a8.2.1, m_X10_kiln hl YY a8, ?_, ?_, ?_⟩
  · intro E h9 px
    exact px.1
  · rintro v hA' ⟨rfl, h1, h2⟩ z hB' (m | m)
    · exact absurd ((le_w (n := 5) (m := 5) (by decide)).mpr h1) m.1
    · exact ⟨m.2.1.trans h2.symm, ⟨_, _, _, _, _, _, _, _, _, _, _, _, _, _, _, _, _, _, _, _, _, _, _, _, _, _, _, _, _, _, _, _, _, _, Y, m.2.2, o.same⟩⟩
  · rintro E hA' ⟨rfl, rfl, h1⟩ z hB' (m | m)
    · exact ⟨1, by simp, ⟨_, _, _, _, _, _, _, _, _, _, _, _, _, _, _, _, _, _, _, _, _, _, _, _, _, _, _, _, _, _, _, _, _, _, Y, m.2.2, o.same⟩⟩
    · exact absurd ((le_w (n := 5) (m := 5) (by decide)).mp m.1) h1

theorem jt_ofPot {l : Launch} {D : va_G} {tc : Nat → ClassId} (hl : l.stackTraces = false) {y0 m0 kl wk c : Nat} {th : Int32} {hA hB : HM} (j9 : J9 tc y0 m0 kl wk c th hA hB) {i what : Int32} :
    ∃ (p : Int32 → HM → Prop) (px : String → HM → Prop) (q : Int32 → HM → Prop), CTX l D tc yX7_ofPot cX7_ofPot 4 (some FieldType.int) rm_X7_ofPot [.ref y0, .int i, .int what] hA (rI p) px ∧ CT l D tc yX10_ofPot cX10_ofPot 3 (some FieldType.int) rm_X10_ofPot [.ref m0, .int i, .int what] hB (rI q) ∧ (∀ E h9, px E h9 → E = "java/lang/IndexOutOfBoundsException" ∨ E = "java/lang/IllegalArgumentException") ∧
      (∀ v hA', p v hA' → ∀ z hB', q z hB' → z = v ∧ J9 tc y0 m0 kl wk (c + 1) 0 hA' hB') ∧ (∀ E hA', px E hA' → ∀ z hB', q z hB' → ∃ t9, (E, t9) ∈ ([("java/lang/IndexOutOfBoundsException", 1), ("java/lang/IllegalArgumentException", 2)] : List (String × Int32)) ∧ J9 tc y0 m0 kl wk (c + 1) t9 hA' hB') := by
  obtain ⟨cA, gA, pA, oA, pr, ra, re, rw, tr, tw, ca, ga, pa, oa, f, hb, hbt, dmt, kt, nC, cs, nG, gs, nP, ps, nO, os, nR, rs, k, dmp, day, pur, rf, Y, ⟨L, E0, M0, ca2, ga2, pa2, oa2, ra2, YY⟩, o⟩ := j9
  obtain ⟨a1, a2, a3, a4, a5, a6, a7, a8, a9, a10, pw, p1, p2⟩ := id o
  refine ⟨_, _, _, m_X7_ofPot hl Y a3 (fun i hi => (a7 i hi).2.1), m_X10_ofPot hl YY a3 (fun i hi => (a7 i hi).gl), ?_, ?_, ?_⟩
  · intro E h9 px
    rcases px with px | px
    · exact Or.inl px.1
    · exact Or.inr px.1
  · rintro v hA' ⟨rfl, j, hj, e, h1, h2⟩ z hB' (m | ⟨j9, hj9, e9, m | m⟩)
    · exact absurd (e ▸ m.1) (not_out hj (by omega))
    · exact absurd ((le_w (n := 7) (m := 7) (by decide)).mpr h1) m.1
    · obtain rfl : j = j9 := nI_inj (by omega) (by omega) (e.symm.trans e9)
      exact ⟨m.2.1.trans h2.symm, ⟨_, _, _, _, _, _, _, _, _, _, _, _, _, _, _, _, _, _, _, _, _, _, _, _, _, _, _, _, _, _, _, _, _, _, Y, m.2.2, o.same⟩⟩
  · rintro E hA' (⟨rfl, rfl, h1⟩ | ⟨rfl, rfl, h1, h2⟩) z hB' (m | ⟨j9, hj9, e9, m | m⟩)
    · exact ⟨1, by simp, ⟨_, _, _, _, _, _, _, _, _, _, _, _, _, _, _, _, _, _, _, _, _, _, _, _, _, _, _, _, _, _, _, _, _, _, Y, m.2.2, o.same⟩⟩
    · exact absurd (e9 ▸ h1) (not_out hj9 (by omega))
    · exact absurd (e9 ▸ h1) (not_out hj9 (by omega))
    · exact absurd m.1 h1
    · exact ⟨2, by simp, ⟨_, _, _, _, _, _, _, _, _, _, _, _, _, _, _, _, _, _, _, _, _, _, _, _, _, _, _, _, _, _, _, _, _, _, Y, m.2.2, o.same⟩⟩
    · exact absurd ((le_w (n := 7) (m := 7) (by decide)).mp m.1) h2

theorem jt_ofShelf {l : Launch} {D : va_G} {tc : Nat → ClassId} (hl : l.stackTraces = false) {y0 m0 kl wk c : Nat} {th : Int32} {hA hB : HM} (j9 : J9 tc y0 m0 kl wk c th hA hB) {i what : Int32} :
    ∃ (p : Int32 → HM → Prop) (px : String → HM → Prop) (q : Int32 → HM → Prop), CTX l D tc yX7_ofShelf cX7_ofShelf 3 (some FieldType.int) rm_X7_ofShelf [.ref y0, .int i, .int what] hA (rI p) px ∧ CT l D tc yX10_ofShelf cX10_ofShelf 3 (some FieldType.int) rm_X10_ofShelf [.ref m0, .int i, .int what] hB (rI q) ∧ (∀ E h9, px E h9 → E = "java/lang/IndexOutOfBoundsException" ∨ E = "java/lang/IllegalArgumentException") ∧
      (∀ v hA', p v hA' → ∀ z hB', q z hB' → z = v ∧ J9 tc y0 m0 kl wk (c + 1) 0 hA' hB') ∧ (∀ E hA', px E hA' → ∀ z hB', q z hB' → ∃ t9, (E, t9) ∈ ([("java/lang/IndexOutOfBoundsException", 1), ("java/lang/IllegalArgumentException", 2)] : List (String × Int32)) ∧ J9 tc y0 m0 kl wk (c + 1) t9 hA' hB') := by
  obtain ⟨cA, gA, pA, oA, pr, ra, re, rw, tr, tw, ca, ga, pa, oa, f, hb, hbt, dmt, kt, nC, cs, nG, gs, nP, ps, nO, os, nR, rs, k, dmp, day, pur, rf, Y, ⟨L, E0, M0, ca2, ga2, pa2, oa2, ra2, YY⟩, o⟩ := j9
  obtain ⟨a1, a2, a3, a4, a5, a6, a7, a8, a9, a10, pw, p1, p2⟩ := id o
  refine ⟨_, _, _, m_X7_ofShelf hl Y, m_X10_ofShelf hl YY a3 (fun i hi => (a7 i hi).ce), ?_, ?_, ?_⟩
  · intro E h9 px
    rcases px with px | px
    · exact Or.inl px.1
    · exact Or.inr px.1
  · rintro v hA' ⟨rfl, j, hj, e, h1, h2⟩ z hB' (m | ⟨j9, hj9, e9, m | m⟩)
    · exact absurd (e ▸ m.1) (not_out hj (by omega))
    · exact absurd ((le_w (n := 3) (m := 3) (by decide)).mpr h1) m.1
    · obtain rfl : j = j9 := nI_inj (by omega) (by omega) (e.symm.trans e9)
      exact ⟨m.2.1.trans h2.symm, ⟨_, _, _, _, _, _, _, _, _, _, _, _, _, _, _, _, _, _, _, _, _, _, _, _, _, _, _, _, _, _, _, _, _, _, Y, m.2.2, o.same⟩⟩
  · rintro E hA' (⟨rfl, rfl, h1⟩ | ⟨rfl, rfl, h1, h2⟩) z hB' (m | ⟨j9, hj9, e9, m | m⟩)
    · exact ⟨1, by simp, ⟨_, _, _, _, _, _, _, _, _, _, _, _, _, _, _, _, _, _, _, _, _, _, _, _, _, _, _, _, _, _, _, _, _, _, Y, m.2.2, o.same⟩⟩
    · exact absurd (e9 ▸ h1) (not_out hj9 (by omega))
    · exact absurd (e9 ▸ h1) (not_out hj9 (by omega))
    · exact absurd m.1 h1
    · exact ⟨2, by simp, ⟨_, _, _, _, _, _, _, _, _, _, _, _, _, _, _, _, _, _, _, _, _, _, _, _, _, _, _, _, _, _, _, _, _, _, Y, m.2.2, o.same⟩⟩
    · exact absurd ((le_w (n := 3) (m := 3) (by decide)).mp m.1) h2

theorem jt_water {l : Launch} {D : va_G} {tc : Nat → ClassId} (hl : l.stackTraces = false) {y0 m0 kl wk c : Nat} {th : Int32} {hA hB : HM} (j9 : J9 tc y0 m0 kl wk c th hA hB) {i : Int32} :
    ∃ (p : UInt64 → HM → Prop) (px : String → HM → Prop) (q : UInt64 → HM → Prop), CTX l D tc yX7_water cX7_water 2 (some FieldType.double) rm_X7_water [.ref y0, .int i] hA (rD p) px ∧ CT l D tc yX10_water cX10_water 2 (some FieldType.double) rm_X10_water [.ref m0, .int i] hB (rD q) ∧ (∀ E h9, px E h9 → E = "java/lang/IndexOutOfBoundsException") ∧
      (∀ v hA', p v hA' → ∀ z hB', q z hB' → z = v ∧ J9 tc y0 m0 kl wk (c + 1) 0 hA' hB') ∧ (∀ E hA', px E hA' → ∀ z hB', q z hB' → ∃ t9, (E, t9) ∈ ([("java/lang/IndexOutOfBoundsException", 1)] : List (String × Int32)) ∧ J9 tc y0 m0 kl wk (c + 1) t9 hA' hB') := by
  obtain ⟨cA, gA, pA, oA, pr, ra, re, rw, tr, tw, ca, ga, pa, oa, f, hb, hbt, dmt, kt, nC, cs, nG, gs, nP, ps, nO, os, nR, rs, k, dmp, day, pur, rf, Y, ⟨L, E0, M0, ca2, ga2, pa2, oa2, ra2, YY⟩, o⟩ := j9
  obtain ⟨a1, a2, a3, a4, a5, a6, a7, a8, a9, a10, pw, p1, p2⟩ := id o
  refine ⟨_, _, _, m_X7_water hl Y a3 (fun i hi => (a7 i hi).wf), m_X10_water hl YY a3 (fun i hi => (a7 i hi).wf), ?_, ?_, ?_⟩
  · intro E h9 px
    exact px.1
  · rintro v hA' ⟨rfl, j, hj, e, h1⟩ z hB' (m | ⟨j9, hj9, e9, m⟩)
    · exact absurd (e ▸ m.1) (not_out hj (by omega))
    · obtain rfl : j = j9 := nI_inj (by omega) (by omega) (e.symm.trans e9)
      exact ⟨m.1.trans h1.symm, ⟨_, _, _, _, _, _, _, _, _, _, _, _, _, _, _, _, _, _, _, _, _, _, _, _, _, _, _, _, _, _, _, _, _, _, Y, m.2, o.same⟩⟩
  · rintro E hA' ⟨rfl, rfl, h1⟩ z hB' (m | ⟨j9, hj9, e9, m⟩)
    · exact ⟨1, by simp, ⟨_, _, _, _, _, _, _, _, _, _, _, _, _, _, _, _, _, _, _, _, _, _, _, _, _, _, _, _, _, _, _, _, _, _, Y, m.2.2, o.same⟩⟩
    · exact absurd (e9 ▸ h1) (not_out hj9 (by omega))

theorem jt_wouldEnd {l : Launch} {D : va_G} {tc : Nat → ClassId} (hl : l.stackTraces = false) {y0 m0 kl wk c : Nat} {th : Int32} {hA hB : HM} (j9 : J9 tc y0 m0 kl wk c th hA hB)  :
    ∃ (p : Int32 → HM → Prop) (q : Int32 → HM → Prop), CT l D tc yX7_wouldEnd cX7_wouldEnd 2 (some FieldType.int) rm_X7_wouldEnd [.ref y0] hA (rI p) ∧ CT l D tc yX10_wouldEnd cX10_wouldEnd 1 (some FieldType.int) rm_X10_wouldEnd [.ref m0] hB (rI q) ∧
      (∀ v hA', p v hA' → ∀ z hB', q z hB' → z = v ∧ J9 tc y0 m0 kl wk (c + 1) 0 hA' hB') := by
  obtain ⟨cA, gA, pA, oA, pr, ra, re, rw, tr, tw, ca, ga, pa, oa, f, hb, hbt, dmt, kt, nC, cs, nG, gs, nP, ps, nO, os, nR, rs, k, dmp, day, pur, rf, Y, ⟨L, E0, M0, ca2, ga2, pa2, oa2, ra2, YY⟩, o⟩ := j9
  obtain ⟨a1, a2, a3, a4, a5, a6, a7, a8, a9, a10, pw, p1, p2⟩ := id o
  refine ⟨_, _, m_X7_wouldEnd hl Y a8 a9 a10, m_X10_wouldEnd hl YY a8 a9 a10, ?_⟩
  rintro v hA' ⟨h1, hb9, kt9, Y2⟩ z hB' ⟨h2, M⟩
  exact ⟨h2.trans (end_like.symm.trans h1.symm), ⟨_, _, _, _, _, _, _, _, _, _, _, _, _, _, _, _, _, _, _, _, _, _, _, _, _, _, _, _, _, _, _, _, _, _, Y2, M, o.same⟩⟩

theorem one_le {n : Nat} (h : 1 ≤ n) (h2 : n < 2 ^ 31) : (1 : Int32) ≤ nI n := by
  rw [Int32.le_iff_toInt_le, nI_toInt h2]
  show (1 : Int) ≤ n
  omega
theorem le_60 {n : Nat} (h : n ≤ 60) : nI n ≤ (60 : Int32) := by
  rw [Int32.le_iff_toInt_le, nI_toInt (by omega)]
  show (n : Int) ≤ 60
  omega

theorem jt_ofGlaze {l : Launch} {D : va_G} {tc : Nat → ClassId} (hl : l.stackTraces = false) {y0 m0 kl wk c : Nat} {th : Int32} {hA hB : HM} (j9 : J9 tc y0 m0 kl wk c th hA hB) {i what : Int32} :
    ∃ (p : UInt64 → HM → Prop) (px : String → HM → Prop) (q : UInt64 → HM → Prop), CTX l D tc yX7_ofGlaze cX7_ofGlaze 4 (some FieldType.double) rm_X7_ofGlaze [.ref y0, .int i, .int what] hA (rD p) px ∧ CT l D tc yX10_ofGlaze cX10_ofGlaze 3 (some FieldType.double) rm_X10_ofGlaze [.ref m0, .int i, .int what] hB (rD q) ∧ (∀ E h9, px E h9 → E = "java/lang/IndexOutOfBoundsException" ∨ E = "java/lang/IllegalArgumentException") ∧
      (∀ v hA', p v hA' → ∀ z hB', q z hB' → z = v ∧ J9 tc y0 m0 kl wk (c + 1) 0 hA' hB') ∧ (∀ E hA', px E hA' → ∀ z hB', q z hB' → ∃ t9, (E, t9) ∈ ([("java/lang/IndexOutOfBoundsException", 1), ("java/lang/IllegalArgumentException", 2)] : List (String × Int32)) ∧ J9 tc y0 m0 kl wk (c + 1) t9 hA' hB') := by
  obtain ⟨cA, gA, pA, oA, pr, ra, re, rw, tr, tw, ca, ga, pa, oa, f, hb, hbt, dmt, kt, nC, cs, nG, gs, nP, ps, nO, os, nR, rs, k, dmp, day, pur, rf, Y, ⟨L, E0, M0, ca2, ga2, pa2, oa2, ra2, YY⟩, o⟩ := j9
  obtain ⟨a1, a2, a3, a4, a5, a6, a7, a8, a9, a10, pw, p1, p2⟩ := id o
  refine ⟨_, _, _, m_X7_ofGlaze hl Y a2 (fun i hi => sa_n (a6 i hi)), m_X10_ofGlaze hl YY a2 a6, ?_, ?_, ?_⟩
  · intro E h9 px
    rcases px with px | px
    · exact Or.inl px.1
    · exact Or.inr px.1
  · rintro v hA' ⟨rfl, j, hj, e, h1, h2⟩ z hB' (m | ⟨j9, hj9, e9, m | m⟩)
    · exact absurd (e ▸ m.1) (not_out hj (by omega))
    · exact absurd ((le_w (n := 2) (m := 2) (by decide)).mpr h1) m.1
    · obtain rfl : j = j9 := nI_inj (by omega) (by omega) (e.symm.trans e9)
      exact ⟨m.2.1.trans h2.symm, ⟨_, _, _, _, _, _, _, _, _, _, _, _, _, _, _, _, _, _, _, _, _, _, _, _, _, _, _, _, _, _, _, _, _, _, Y, m.2.2, o.same⟩⟩
  · rintro E hA' (⟨rfl, rfl, h1⟩ | ⟨rfl, rfl, h1, h2⟩) z hB' (m | ⟨j9, hj9, e9, m | m⟩)
    · exact ⟨1, by simp, ⟨_, _, _, _, _, _, _, _, _, _, _, _, _, _, _, _, _, _, _, _, _, _, _, _, _, _, _, _, _, _, _, _, _, _, Y, m.2.2, o.same⟩⟩
    · exact absurd (e9 ▸ h1) (not_out hj9 (by omega))
    · exact absurd (e9 ▸ h1) (not_out hj9 (by omega))
    · exact absurd m.1 h1
    · exact ⟨2, by simp, ⟨_, _, _, _, _, _, _, _, _, _, _, _, _, _, _, _, _, _, _, _, _, _, _, _, _, _, _, _, _, _, _, _, _, _, Y, m.2.2, o.same⟩⟩
    · exact absurd ((le_w (n := 2) (m := 2) (by decide)).mp m.1) h2

theorem jt_wouldHold {l : Launch} {D : va_G} {tc : Nat → ClassId} (hl : l.stackTraces = false) {y0 m0 kl wk c : Nat} {th : Int32} {hA hB : HM} (j9 : J9 tc y0 m0 kl wk c th hA hB) {i : Int32} :
    ∃ (p : Int32 → HM → Prop) (px : String → HM → Prop) (q : Int32 → HM → Prop), CTX l D tc yX7_wouldHold cX7_wouldHold 4 (some FieldType.int) rm_X7_wouldHold [.ref y0, .int i] hA (rI p) px ∧ CT l D tc yX10_wouldHold cX10_wouldHold 2 (some FieldType.int) rm_X10_wouldHold [.ref m0, .int i] hB (rI q) ∧ (∀ E h9, px E h9 → E = "java/lang/IndexOutOfBoundsException") ∧
      (∀ v hA', p v hA' → ∀ z hB', q z hB' → z = v ∧ J9 tc y0 m0 kl wk (c + 1) 0 hA' hB') ∧ (∀ E hA', px E hA' → ∀ z hB', q z hB' → ∃ t9, (E, t9) ∈ ([("java/lang/IndexOutOfBoundsException", 1)] : List (String × Int32)) ∧ J9 tc y0 m0 kl wk (c + 1) t9 hA' hB') := by
  obtain ⟨cA, gA, pA, oA, pr, ra, re, rw, tr, tw, ca, ga, pa, oa, f, hb, hbt, dmt, kt, nC, cs, nG, gs, nP, ps, nO, os, nR, rs, k, dmp, day, pur, rf, Y, ⟨L, E0, M0, ca2, ga2, pa2, oa2, ra2, YY⟩, o⟩ := j9
  obtain ⟨a1, a2, a3, a4, a5, a6, a7, a8, a9, a10, pw, p1, p2⟩ := id o
  refine ⟨_, _, _, m_X7_wouldHold hl Y, m_X10_wouldHold hl YY a3 (fun i hi => (a7 i hi).ce) (fun i hi => (a7 i hi).sum), ?_, ?_, ?_⟩
  · intro E h9 px
    exact px.1
  · rintro v hA' ⟨rfl, j, n, hj, e, h1, h2, h3⟩ z hB' (m | ⟨j9, hj9, e9, m⟩)
    · exact absurd (e ▸ m.1) (not_out hj (by omega))
    · obtain rfl : j = j9 := nI_inj (by omega) (by omega) (e.symm.trans e9)
      exact ⟨m.1.trans (h3.trans (hold_at h1 h2)).symm, ⟨_, _, _, _, _, _, _, _, _, _, _, _, _, _, _, _, _, _, _, _, _, _, _, _, _, _, _, _, _, _, _, _, _, _, Y, m.2, o.same⟩⟩
  · rintro E hA' ⟨rfl, rfl, h1⟩ z hB' (m | ⟨j9, hj9, e9, m⟩)
    · exact ⟨1, by simp, ⟨_, _, _, _, _, _, _, _, _, _, _, _, _, _, _, _, _, _, _, _, _, _, _, _, _, _, _, _, _, _, _, _, _, _, Y, m.2.2, o.same⟩⟩
    · exact absurd (e9 ▸ h1) (not_out hj9 (by omega))

theorem jt_wouldCone {l : Launch} {D : va_G} {tc : Nat → ClassId} (hl : l.stackTraces = false) {y0 m0 kl wk c : Nat} {th : Int32} {hA hB : HM} (j9 : J9 tc y0 m0 kl wk c th hA hB) {i st : Int32} :
    ∃ (p : Int32 → HM → Prop) (px : String → HM → Prop) (q : Int32 → HM → Prop), CTX l D tc yX7_wouldCone cX7_wouldCone 4 (some FieldType.int) rm_X7_wouldCone [.ref y0, .int i, .int st] hA (rI p) px ∧ CT l D tc yX10_wouldCone cX10_wouldCone 3 (some FieldType.int) rm_X10_wouldCone [.ref m0, .int i, .int st] hB (rI q) ∧ (∀ E h9, px E h9 → E = "java/lang/IndexOutOfBoundsException" ∨ E = "java/lang/IllegalArgumentException") ∧
      (∀ v hA', p v hA' → ∀ z hB', q z hB' → z = v ∧ J9 tc y0 m0 kl wk (c + 1) 0 hA' hB') ∧ (∀ E hA', px E hA' → ∀ z hB', q z hB' → ∃ t9, (E, t9) ∈ ([("java/lang/IndexOutOfBoundsException", 1), ("java/lang/IllegalArgumentException", 2)] : List (String × Int32)) ∧ J9 tc y0 m0 kl wk (c + 1) t9 hA' hB') := by
  obtain ⟨cA, gA, pA, oA, pr, ra, re, rw, tr, tw, ca, ga, pa, oa, f, hb, hbt, dmt, kt, nC, cs, nG, gs, nP, ps, nO, os, nR, rs, k, dmp, day, pur, rf, Y, ⟨L, E0, M0, ca2, ga2, pa2, oa2, ra2, YY⟩, o⟩ := j9
  obtain ⟨a1, a2, a3, a4, a5, a6, a7, a8, a9, a10, pw, p1, p2⟩ := id o
  refine ⟨_, _, _, m_X7_wouldCone hl Y a8 a9 a10, m_X10_wouldCone hl YY a8 a9 a10, ?_, ?_, ?_⟩
  · intro E h9 px
    rcases px with px | px
    · exact Or.inl px.1
    · exact Or.inr px.1
  · rintro v hA' ⟨j, n, hj, e, hn, f1, h1, hb9, kt9, Y2⟩ z hB' (m | ⟨j9, hj9, e9, m | ⟨n9, hn9, f9, m⟩⟩)
    · exact absurd (e ▸ m.1) (not_out hj (by omega))
    · exact absurd (f1 ▸ ⟨one_le (by omega) (by omega), le_60 (by omega)⟩) m.1
    · obtain rfl : j = j9 := nI_inj (by omega) (by omega) (e.symm.trans e9)
      obtain rfl : n = n9 := nI_inj (by omega) (by omega) (f1.symm.trans f9)
      exact ⟨m.1.trans (h1.trans (wc_like hj)).symm, ⟨_, _, _, _, _, _, _, _, _, _, _, _, _, _, _, _, _, _, _, _, _, _, _, _, _, _, _, _, _, _, _, _, _, _, Y2, m.2, o.same⟩⟩
  · rintro E hA' (⟨rfl, rfl, h1⟩ | ⟨rfl, rfl, h1, h2⟩) z hB' (m | ⟨j9, hj9, e9, m | ⟨n9, hn9, f9, m⟩⟩)
    · exact ⟨1, by simp, ⟨_, _, _, _, _, _, _, _, _, _, _, _, _, _, _, _, _, _, _, _, _, _, _, _, _, _, _, _, _, _, _, _, _, _, Y, m.2.2, o.same⟩⟩
    · exact absurd (e9 ▸ h1) (not_out hj9 (by omega))
    · exact absurd (e9 ▸ h1) (not_out hj9 (by omega))
    · exact absurd m.1 h1
    · exact ⟨2, by simp, ⟨_, _, _, _, _, _, _, _, _, _, _, _, _, _, _, _, _, _, _, _, _, _, _, _, _, _, _, _, _, _, _, _, _, _, Y, m.2.2, o.same⟩⟩
    · exact absurd (f9 ▸ ⟨one_le (by omega) (by omega), le_60 (by omega)⟩) h2

theorem jt_burn {l : Launch} {D : va_G} {tc : Nat → ClassId} (hl : l.stackTraces = false) {y0 m0 kl wk c : Nat} {th : Int32} {hA hB : HM} (j9 : J9 tc y0 m0 kl wk c th hA hB) {st : Int32} :
    ∃ (p : Int32 → HM → Prop) (px : String → HM → Prop) (q : Int32 → HM → Prop), CTX l D tc yX7_burn cX7_burn 3 (some FieldType.boolean) rm_X7_burn [.ref y0, .int st] hA (rI p) px ∧ CT l D tc yX10_burn cX10_burn 7 (some FieldType.boolean) rm_X10_burn [.ref m0, .int st] hB (rI q) ∧ (∀ E h9, px E h9 → E = "java/lang/IllegalArgumentException") ∧
      (∀ v hA', p v hA' → ∀ z hB', q z hB' → z = v ∧ J9 tc y0 m0 kl wk (c + 1) 0 hA' hB') ∧ (∀ E hA', px E hA' → ∀ z hB', q z hB' → ∃ t9, (E, t9) ∈ ([("java/lang/IllegalArgumentException", 1)] : List (String × Int32)) ∧ J9 tc y0 m0 kl wk (c + 1) t9 hA' hB') := by
  obtain ⟨cA, gA, pA, oA, pr, ra, re, rw, tr, tw, ca, ga, pa, oa, f, hb, hbt, dmt, kt, nC, cs, nG, gs, nP, ps, nO, os, nR, rs, k, dmp, day, pur, rf, Y, ⟨L, E0, M0, ca2, ga2, pa2, oa2, ra2, YY⟩, o⟩ := j9
  obtain ⟨a1, a2, a3, a4, a5, a6, a7, a8, a9, a10, pw, p1, p2⟩ := id o
  refine ⟨_, _, _, m_X7_burn hl Y a8 a9 a10 (fun i hi h => (a7 i hi).sh.resolve_left h) (fun i hi => nn_of (a7 i hi).wall), m_X10_burn hl YY a3 a8 a9 a10 (fun i hi => (a7 i hi).sh) (fun i hi => (a7 i hi).wall), ?_, ?_, ?_⟩
  · intro E h9 px
    exact px.1
  · rintro v hA' ⟨n, hn, f1, h1, hb9, Y2⟩ z hB' (m | ⟨n9, hn9, f9, m⟩)
    · exact absurd (f1 ▸ ⟨one_le (by omega) (by omega), le_60 (by omega)⟩) m.1
    · obtain rfl : n = n9 := nI_inj (by omega) (by omega) (f1.symm.trans f9)
      exact ⟨m.1.trans h1.symm, ⟨_, _, _, _, _, _, _, _, _, _, _, _, _, _, _, _, _, _, _, _, _, _, _, _, _, _, _, _, _, _, _, _, _, _, Y2, m.2, o.burn⟩⟩
  · rintro E hA' ⟨rfl, rfl, h1⟩ z hB' (m | ⟨n9, hn9, f9, m⟩)
    · exact ⟨1, by simp, ⟨_, _, _, _, _, _, _, _, _, _, _, _, _, _, _, _, _, _, _, _, _, _, _, _, _, _, _, _, _, _, _, _, _, _, Y, m.2.2, o.same⟩⟩
    · exact absurd (f9 ▸ ⟨one_le (by omega) (by omega), le_60 (by omega)⟩) h1

theorem jt_best {l : Launch} {D : va_G} {tc : Nat → ClassId} (hl : l.stackTraces = false) {y0 m0 kl wk c : Nat} {th : Int32} {hA hB : HM} (j9 : J9 tc y0 m0 kl wk c th hA hB) {cl cone : Int32} :
    ∃ (p : Int32 → HM → Prop) (px : String → HM → Prop) (q : Int32 → HM → Prop), CTX l D tc yX7_best cX7_best 9 (some FieldType.int) rm_X7_best [.ref y0, .int cl, .int cone] hA (rI p) px ∧ CT l D tc yX10_best cX10_best 7 (some FieldType.int) rm_X10_best [.ref m0, .int cl, .int cone] hB (rI q) ∧ (∀ E h9, px E h9 → E = "java/lang/IndexOutOfBoundsException" ∨ E = "java/lang/IllegalArgumentException") ∧
      (∀ v hA', p v hA' → ∀ z hB', q z hB' → z = v ∧ J9 tc y0 m0 kl wk (c + 1) 0 hA' hB') ∧ (∀ E hA', px E hA' → ∀ z hB', q z hB' → ∃ t9, (E, t9) ∈ ([("java/lang/IndexOutOfBoundsException", 1), ("java/lang/IllegalArgumentException", 2)] : List (String × Int32)) ∧ J9 tc y0 m0 kl wk (c + 1) t9 hA' hB') := by
  obtain ⟨cA, gA, pA, oA, pr, ra, re, rw, tr, tw, ca, ga, pa, oa, f, hb, hbt, dmt, kt, nC, cs, nG, gs, nP, ps, nO, os, nR, rs, k, dmp, day, pur, rf, Y, ⟨L, E0, M0, ca2, ga2, pa2, oa2, ra2, YY⟩, o⟩ := j9
  obtain ⟨a1, a2, a3, a4, a5, a6, a7, a8, a9, a10, pw, p1, p2⟩ := id o
  have gn : ∀ c, c < nC → ∀ g, g < nG → vf_n64 (FP.dsub (sp_growth (gs g)) (sp_cg (cs c).2)) ∧ vf_n64 (FP.dsub (sp_cg (cs c).2) (sp_growth (gs g))) := fun c hc g hg =>
    ⟨nn_of (dsub_n (glz_all (a6 g hg)).2.1.n (cg_fin (a5 c hc).2)), nn_of (dsub_n (cg_fin (a5 c hc).2).n (glz_all (a6 g hg)).2.1)⟩
  refine ⟨_, _, _, m_X7_best hl Y a1 gn, m_X10_best hl YY a1 a2 a5 a6, ?_, ?_, ?_⟩
  · intro E h9 px
    rcases px with px | px
    · exact Or.inl px.1
    · exact Or.inr px.1
  · rintro v hA' ⟨rfl, j, hj, e, h1, h2⟩ z hB' (m | ⟨j9, hj9, e9, m | m⟩)
    · exact absurd (e ▸ m.1) (not_out hj (by omega))
    · exact absurd h1 m.1
    · obtain rfl : j = j9 := nI_inj (by omega) (by omega) (e.symm.trans e9)
      exact ⟨m.2.1.trans h2.symm, ⟨_, _, _, _, _, _, _, _, _, _, _, _, _, _, _, _, _, _, _, _, _, _, _, _, _, _, _, _, _, _, _, _, _, _, Y, m.2.2, o.same⟩⟩
  · rintro E hA' (⟨rfl, rfl, h1⟩ | ⟨rfl, rfl, h1, h2⟩) z hB' (m | ⟨j9, hj9, e9, m | m⟩)
    · exact ⟨1, by simp, ⟨_, _, _, _, _, _, _, _, _, _, _, _, _, _, _, _, _, _, _, _, _, _, _, _, _, _, _, _, _, _, _, _, _, _, Y, m.2.2, o.same⟩⟩
    · exact absurd (e9 ▸ h1) (not_out hj9 (by omega))
    · exact absurd (e9 ▸ h1) (not_out hj9 (by omega))
    · exact absurd m.1 h1
    · exact ⟨2, by simp, ⟨_, _, _, _, _, _, _, _, _, _, _, _, _, _, _, _, _, _, _, _, _, _, _, _, _, _, _, _, _, _, _, _, _, _, Y, m.2.2, o.same⟩⟩
    · exact absurd m.1 h2

theorem jt_unload {l : Launch} {D : va_G} {tc : Nat → ClassId} (hl : l.stackTraces = false) {y0 m0 kl wk c : Nat} {th : Int32} {hA hB : HM} (j9 : J9 tc y0 m0 kl wk c th hA hB) (hc5 : c ≤ 519)  :
    ∃ (p : Int32 → HM → Prop) (px : String → HM → Prop) (q : Int32 → HM → Prop), CTX l D tc yX7_unload cX7_unload 6 (some FieldType.int) rm_X7_unload [.ref y0] hA (rI p) px ∧ CT l D tc yX10_unload cX10_unload 4 (some FieldType.int) rm_X10_unload [.ref m0] hB (rI q) ∧ (∀ E h9, px E h9 → E = "java/lang/IllegalStateException") ∧
      (∀ v hA', p v hA' → ∀ z hB', q z hB' → z = v ∧ J9 tc y0 m0 kl wk (c + 1) 0 hA' hB') ∧ (∀ E hA', px E hA' → ∀ z hB', q z hB' → ∃ t9, (E, t9) ∈ ([("java/lang/IllegalStateException", 1)] : List (String × Int32)) ∧ J9 tc y0 m0 kl wk (c + 1) t9 hA' hB') := by
  obtain ⟨cA, gA, pA, oA, pr, ra, re, rw, tr, tw, ca, ga, pa, oa, f, hb, hbt, dmt, kt, nC, cs, nG, gs, nP, ps, nO, os, nR, rs, k, dmp, day, pur, rf, Y, ⟨L, E0, M0, ca2, ga2, pa2, oa2, ra2, YY⟩, o⟩ := j9
  obtain ⟨a1, a2, a3, a4, a5, a6, a7, a8, a9, a10, pw, p1, p2⟩ := id o
  have gn : ∀ c, c < nC → ∀ g, g < nG → vf_n64 (FP.dsub (sp_growth (gs g)) (sp_cg (cs c).2)) ∧ vf_n64 (FP.dsub (sp_cg (cs c).2) (sp_growth (gs g))) := fun c hc g hg =>
    ⟨nn_of (dsub_n (glz_all (a6 g hg)).2.1.n (cg_fin (a5 c hc).2)), nn_of (dsub_n (cg_fin (a5 c hc).2).n (glz_all (a6 g hg)).2.1)⟩
  refine ⟨_, _, _, m_X7_unload hl Y (fun i hi => (a7 i hi).1) (fun i hi => (a7 i hi).2.1) (fun i hi h => (a7 i hi).sh.resolve_left h) gn a8.2.1, m_X10_unload hl YY a3 (fun i hi => (a7 i hi).sh) (fun i hi => (a7 i hi).1) a5 (fun i hi => (a7 i hi).gl) (fun i hi => (a7 i hi).g1) a6 a8.2.1, ?_, ?_, ?_⟩
  · intro E h9 px
    exact px.1
  · rintro v hA' ⟨h1, h2, Y2⟩ z hB' (m | m)
    · exact absurd h1 ((hot_iff a8.1).mp m.1)
    · exact ⟨m.2.1.trans h2.symm, ⟨_, _, _, _, _, _, _, _, _, _, _, _, _, _, _, _, _, _, _, _, _, _, _, _, _, _, _, _, _, _, _, _, _, _, Y2, m.2.2, (o.unload hc5)⟩⟩
  · rintro E hA' ⟨rfl, rfl, h1⟩ z hB' (m | m)
    · exact ⟨1, by simp, ⟨_, _, _, _, _, _, _, _, _, _, _, _, _, _, _, _, _, _, _, _, _, _, _, _, _, _, _, _, _, _, _, _, _, _, Y, m.2.2, o.same⟩⟩
    · exact absurd ((hot_iff a8.1).mpr h1) m.1

theorem jt_digest {l : Launch} {D : va_G} {tc : Nat → ClassId} (hl : l.stackTraces = false) {y0 m0 kl wk c : Nat} {th : Int32} {hA hB : HM} (j9 : J9 tc y0 m0 kl wk c th hA hB) (hc5 : c ≤ 519) :
    ∃ (p : Int64 → HM → Prop) (px : String → HM → Prop) (q : Int64 → HM → Prop), CTX l D tc yX7_digest cX7_digest 4 (some FieldType.long) rm_X7_digest [.ref y0] hA (rL p) px ∧ CT l D tc yX10_digest cX10_digest 5 (some FieldType.long) rm_X10_digest [.ref m0] hB (rL q) ∧ (∀ E h9, px E h9 → False) ∧
      (∀ v hA', p v hA' → ∀ z hB', q z hB' → z = v ∧ J9 tc y0 m0 kl wk (c + 1) 0 hA' hB') ∧ (∀ E hA', px E hA' → ∀ z hB', q z hB' → ∃ t9, (E, t9) ∈ ([("x", 1)] : List (String × Int32)) ∧ J9 tc y0 m0 kl wk (c + 1) t9 hA' hB') := by
  obtain ⟨cA, gA, pA, oA, pr, ra, re, rw, tr, tw, ca, ga, pa, oa, f, hb, hbt, dmt, kt, nC, cs, nG, gs, nP, ps, nO, os, nR, rs, k, dmp, day, pur, rf, Y, ⟨L, E0, M0, ca2, ga2, pa2, oa2, ra2, YY⟩, o⟩ := j9
  obtain ⟨a1, a2, a3, a4, a5, a6, a7, a8, a9, a10, pw, p1, p2⟩ := id o
  refine ⟨_, _, _, m_X7_digest hl Y a3 a2 (fun i hi => (a7 i hi).2.1) a8 a9 a10 (fun i hi => (a7 i hi).wf) (fun i hi => sa_n (a6 i hi)) (fun i hi => (glz_all (a6 i hi)).2.1), m_X10_digest hl YY a3 a4 a2 (fun i hi => (a7 i hi).gl) (fun i hi => (a7 i hi).q) a6 (fun i hi => (a7 i hi).ce) (fun i hi => (a7 i hi).sum) a8 a9 a10 p2 (by omega), ?_, ?_, ?_⟩
  · exact fun E h9 px => px.elim
  · rintro v hA' ⟨h1, hb9, kt9, Y2⟩ z hB' ⟨h2, M⟩
    exact ⟨h2.trans h1.symm, ⟨_, _, _, _, _, _, _, _, _, _, _, _, _, _, _, _, _, _, _, _, _, _, _, _, _, _, _, _, _, _, _, _, _, _, Y2, M, o.same⟩⟩
  · exact fun E h9 px => px.elim

theorem set_iff {k : KT} {nP : Nat} {ps : Nat → PT} {s c w : Nat} {q : QT} (hn : nP ≤ 14) (hC : ∀ i, i < nP → okCe (ps i).2.2) (hs : s < 3) (hc : c ≤ 9) (w1 : 1 ≤ w) (w2 : w ≤ 5) (e : qWd q = nI w) (hk : okk k) :
    sp_setok k nP ps s (nI c) q ↔ sp_pre k (nI s) (nI c) q ∧ sp_sb false nP ps (nI s) (nI c) (qWd q).toNatClampNeg = false := by
  have hv : ¬ nI s = -1 := by
    rcases (show s = 0 ∨ s = 1 ∨ s = 2 by omega) with rfl | rfl | rfl <;> decide
  have hw : (qWd q).toNatClampNeg = w := by
    rw [e]
    show (nI w).toInt.toNat = w
    rw [nI_toInt (by omega)]
    omega
  have h10 : nI c + qWd q ≤ 10 → c + w ≤ 10 := fun h => by
    rw [e, nI_add, Int32.le_iff_toInt_le, nI_toInt (by omega)] at h
    have h' : ((c + w : Nat) : Int) ≤ 10 := h
    omega
  rw [hw]
  constructor
  · rintro ⟨h1, ⟨h2, h3⟩, h4, h5, h6⟩
    refine ⟨⟨fun x => (hot_iff hk.1).mp x h1, h3, h2, h4, h5⟩, ?_⟩
    rw [e] at h6
    exact (set_eq hn hv hC w1 w2 (h10 h5)).mp h6
  · rintro ⟨⟨h1, h3, h2, h4, h5⟩, h6⟩
    refine ⟨Decidable.not_not.mp fun x => h1 ((hot_iff hk.1).mpr x), ⟨h2, h3⟩, h4, h5, ?_⟩
    rw [e]
    exact (set_eq hn hv hC w1 w2 (h10 h5)).mpr h6

theorem jt_set {l : Launch} {D : va_G} {tc : Nat → ClassId} (hl : l.stackTraces = false) {y0 m0 kl wk c : Nat} {th : Int32} {hA hB : HM} (j9 : J9 tc y0 m0 kl wk c th hA hB) {i sh ce : Int32} :
    ∃ (p : Int32 → HM → Prop) (px : String → HM → Prop) (q : Int32 → HM → Prop), CTX l D tc yX7_set cX7_set 6 (some FieldType.int) rm_X7_set [.ref y0, .int i, .int sh, .int ce] hA (rI p) px ∧ CT l D tc yX10_set cX10_set 7 (some FieldType.int) rm_X10_set [.ref m0, .int i, .int sh, .int ce] hB (rI q) ∧ (∀ E h9, px E h9 → E = "java/lang/IndexOutOfBoundsException" ∨ E = "java/lang/IllegalStateException") ∧
      (∀ v hA', p v hA' → ∀ z hB', q z hB' → z = v ∧ J9 tc y0 m0 kl wk (c + 1) 0 hA' hB') ∧ (∀ E hA', px E hA' → ∀ z hB', q z hB' → ∃ t9, (E, t9) ∈ ([("java/lang/IndexOutOfBoundsException", 1), ("java/lang/IllegalStateException", 2)] : List (String × Int32)) ∧ J9 tc y0 m0 kl wk (c + 1) t9 hA' hB') := by
  obtain ⟨cA, gA, pA, oA, pr, ra, re, rw, tr, tw, ca, ga, pa, oa, f, hb, hbt, dmt, kt, nC, cs, nG, gs, nP, ps, nO, os, nR, rs, k, dmp, day, pur, rf, Y, ⟨L, E0, M0, ca2, ga2, pa2, oa2, ra2, YY⟩, o⟩ := j9
  obtain ⟨a1, a2, a3, a4, a5, a6, a7, a8, a9, a10, pw, p1, p2⟩ := id o
  refine ⟨_, _, _, m_X7_set hl Y a3, m_X10_set hl YY a3 (fun i hi => (a7 i hi).wd), ?_, ?_, ?_⟩
  · intro E h9 px
    rcases px with px | px
    · exact Or.inl px.1
    · exact Or.inr px.1
  · rintro v hA' ⟨j, s, hj, e, hs, f1, g, h1, h2, Y2⟩ z hB' (m | ⟨j9, s9, hj9, e9, hs9, f9, g9, m | m⟩)
    · rcases m.1 with w | w | w
      · exact absurd (e ▸ w) (not_out hj (by omega))
      · exact absurd (f1 ▸ w) (not_out hs (by omega))
      · exact absurd g w
    · obtain rfl : j = j9 := nI_inj (by omega) (by omega) (e.symm.trans e9)
      obtain rfl : s = s9 := nI_inj (by omega) (by omega) (f1.symm.trans f9)
      obtain ⟨cn, c1, rfl⟩ := nI_i (x := ce) (N := 10) (by have := Int32.le_iff_toInt_le.mp g.1; exact this) (by have := Int32.le_iff_toInt_le.mp g.2; have t : ce.toInt ≤ 9 := this; omega)
      obtain ⟨w, ⟨w1, w2⟩, ew⟩ := (a7 j hj).wd
      have si := set_iff (ps := ps) (q := (ps j).2.2) a3 (fun i hi => (a7 i hi).ce) hs (show cn ≤ 9 by omega) w1 w2 ew a8
      exact absurd (si.mp h1) m.1
    · obtain rfl : j = j9 := nI_inj (by omega) (by omega) (e.symm.trans e9)
      obtain rfl : s = s9 := nI_inj (by omega) (by omega) (f1.symm.trans f9)
      obtain ⟨cn, c1, rfl⟩ := nI_i (x := ce) (N := 10) (by have := Int32.le_iff_toInt_le.mp g.1; exact this) (by have := Int32.le_iff_toInt_le.mp g.2; have t : ce.toInt ≤ 9 := this; omega)
      obtain ⟨w, ⟨w1, w2⟩, ew⟩ := (a7 j hj).wd
      have si := set_iff (ps := ps) (q := (ps j).2.2) a3 (fun i hi => (a7 i hi).ce) hs (show cn ≤ 9 by omega) w1 w2 ew a8
      have hv : ¬ nI s = -1 := by
        rcases (show s = 0 ∨ s = 1 ∨ s = 2 by omega) with rfl | rfl | rfl <;> decide
      have w3 : cn + w ≤ 10 := by
        have h := h1.2.2.2.1
        rw [ew, nI_add, Int32.le_iff_toInt_le, nI_toInt (by omega)] at h
        have h' : ((cn + w : Nat) : Int) ≤ 10 := h
        omega
      have o2 := o.upd9 (j := j) ((a7 j hj).setp hs w1 w2 w3 ew)
      exact ⟨m.2.1.trans ((free_eq a3 hv (fun i hi => (o2.2.2.2.2.2.2.1 i hi).ce)).trans h2.symm), ⟨_, _, _, _, _, _, _, _, _, _, _, _, _, _, _, _, _, _, _, _, _, _, _, _, _, _, _, _, _, _, _, _, _, _, Y2, m.2.2, o2⟩⟩
  · rintro E hA' (⟨rfl, rfl, h1⟩ | ⟨rfl, rfl, j, s, hj, e, hs, f1, g, h1⟩) z hB' (m | ⟨j9, s9, hj9, e9, hs9, f9, g9, m | m⟩)
    · exact ⟨1, by simp, ⟨_, _, _, _, _, _, _, _, _, _, _, _, _, _, _, _, _, _, _, _, _, _, _, _, _, _, _, _, _, _, _, _, _, _, Y, m.2.2, o.same⟩⟩
    · rcases h1 with w | w | w
      · exact absurd (e9 ▸ w) (not_out hj9 (by omega))
      · exact absurd (f9 ▸ w) (not_out hs9 (by omega))
      · exact absurd g9 w
    · rcases h1 with w | w | w
      · exact absurd (e9 ▸ w) (not_out hj9 (by omega))
      · exact absurd (f9 ▸ w) (not_out hs9 (by omega))
      · exact absurd g9 w
    · rcases m.1 with w | w | w
      · exact absurd (e ▸ w) (not_out hj (by omega))
      · exact absurd (f1 ▸ w) (not_out hs (by omega))
      · exact absurd g w
    · exact ⟨2, by simp, ⟨_, _, _, _, _, _, _, _, _, _, _, _, _, _, _, _, _, _, _, _, _, _, _, _, _, _, _, _, _, _, _, _, _, _, Y, m.2.2, o.same⟩⟩
    · obtain rfl : j = j9 := nI_inj (by omega) (by omega) (e.symm.trans e9)
      obtain rfl : s = s9 := nI_inj (by omega) (by omega) (f1.symm.trans f9)
      obtain ⟨cn, c1, rfl⟩ := nI_i (x := ce) (N := 10) (by have := Int32.le_iff_toInt_le.mp g.1; exact this) (by have := Int32.le_iff_toInt_le.mp g.2; have t : ce.toInt ≤ 9 := this; omega)
      obtain ⟨w, ⟨w1, w2⟩, ew⟩ := (a7 j hj).wd
      have si := set_iff (ps := ps) (q := (ps j).2.2) a3 (fun i hi => (a7 i hi).ce) hs (show cn ≤ 9 by omega) w1 w2 ew a8
      exact absurd (si.mpr m.1) h1
