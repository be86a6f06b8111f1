/-! THE YARD IN THE LAW'S HEAP -/
def os0 : Nat → OT := fun _ => (0, 0, 0, 0, false)
/-- a yard without orders, and what stands fast of it -/
def JY (tc : Nat → ClassId) (y0 c nC : Nat) (cs : Nat → Int32 × Int32) (nG : Nat) (gs : Nat → GT) (nP : Nat) (ps : Nat → PT) (nR : Nat) (rs : Nat → RT) (k : KT) (dmp day : Int32) (h : HM) : Prop :=
  (∃ (cA gA pA oA pr ra re rw9 tr tw : Nat) (ca ga pa oa : Nat → Nat) (f : Nat → Option Nat) (hb hbt : UInt64) (dmt : Int32) (kt : KT), Yh tc y0 cA gA pA oA pr ra re rw9 tr tw ca ga pa oa f hb hbt dmt kt nC cs nG gs nP ps 0 os0 nR rs k dmp day 0 0 h) ∧ okSt c nC cs nG gs nP ps 0 nR rs k
/-- beside it the law's two rows -/
def LJ (tc : Nat → ClassId) (y0 o2 o3 : Nat) (fw : Nat → UInt64) (fz : Nat → Int32) (c : Nat) (cs : Nat → Int32 × Int32) (gs : Nat → GT) (ps : Nat → PT) (nR : Nat) (rs : Nat → RT) (k : KT) (dmp day : Int32) (h : HM) : Prop :=
  ∃ hA hO : HM, h = hj hA hO ∧ D2 hA hO ∧ JY tc y0 c 1 cs 3 gs 10 ps nR rs k dmp day hA ∧ hO o2 = some (.inl (tc 2, 10, .inr (.inr (.inr (.inl fw))))) ∧ hO o3 = some (.inl (tc 1, 10, .inl fz))
theorem LJ.y {tc : Nat → ClassId} {h : HM} {y0 o2 o3 c : Nat} {fw : Nat → UInt64} {fz : Nat → Int32} {cs : Nat → Int32 × Int32} {gs : Nat → GT} {ps : Nat → PT} {nR : Nat} {rs : Nat → RT} {k : KT} {dmp day : Int32} (J : LJ tc y0 o2 o3 fw fz c cs gs ps nR rs k dmp day h) : ∃ fs : List Value, h y0 = some (.inr (6, fs)) := by
  obtain ⟨hA, hO, rfl, d, ⟨⟨cA, gA, pA, oA, pr, ra, re, rw9, tr, tw, ca, ga, pa, oa, f, hb, hbt, dmt, kt, Y⟩, o⟩, u2, u3⟩ := J
  exact ⟨_, hj_l Y.1⟩
theorem LJ.ok {tc : Nat → ClassId} {h : HM} {y0 o2 o3 c : Nat} {fw : Nat → UInt64} {fz : Nat → Int32} {cs : Nat → Int32 × Int32} {gs : Nat → GT} {ps : Nat → PT} {nR : Nat} {rs : Nat → RT} {k : KT} {dmp day : Int32} (J : LJ tc y0 o2 o3 fw fz c cs gs ps nR rs k dmp day h) : okSt c 1 cs 3 gs 10 ps 0 nR rs k := by
  obtain ⟨hA, hO, rfl, d, ⟨⟨cA, gA, pA, oA, pr, ra, re, rw9, tr, tw, ca, ga, pa, oa, f, hb, hbt, dmt, kt, Y⟩, o⟩, u2, u3⟩ := J
  exact o
theorem LJ.w {tc : Nat → ClassId} {h : HM} {y0 o2 o3 c : Nat} {fw : Nat → UInt64} {fz : Nat → Int32} {cs : Nat → Int32 × Int32} {gs : Nat → GT} {ps : Nat → PT} {nR : Nat} {rs : Nat → RT} {k : KT} {dmp day : Int32} (J : LJ tc y0 o2 o3 fw fz c cs gs ps nR rs k dmp day h) : h o2 = some (.inl (tc 2, 10, .inr (.inr (.inr (.inl fw))))) ∧ h o3 = some (.inl (tc 1, 10, .inl fz)) := by
  obtain ⟨hA, hO, rfl, d, ⟨⟨cA, gA, pA, oA, pr, ra, re, rw9, tr, tw, ca, ga, pa, oa, f, hb, hbt, dmt, kt, Y⟩, o⟩, u2, u3⟩ := J
  exact ⟨hj_r u2 (d _ _ u2), hj_r u3 (d _ _ u3)⟩
theorem LJ.w2 {tc : Nat → ClassId} {h h' : HM} {y0 o2 o3 c : Nat} {fw : Nat → UInt64} {fz : Nat → Int32} {cs : Nat → Int32 × Int32} {gs : Nat → GT} {ps : Nat → PT} {nR : Nat} {rs : Nat → RT} {k : KT} {dmp day : Int32} (J : LJ tc y0 o2 o3 fw fz c cs gs ps nR rs k dmp day h) {j : Nat} {x : UInt64} (u : Up h o2 (.inl (tc 2, 10, .inr (.inr (.inr (.inl (vf_upd fw j x)))))) h') : LJ tc y0 o2 o3 (vf_upd fw j x) fz c cs gs ps nR rs k dmp day h' := by
  obtain ⟨hA, hO, rfl, d, ⟨⟨cA, gA, pA, oA, pr, ra, re, rw9, tr, tw, ca, ga, pa, oa, f, hb, hbt, dmt, kt, Y⟩, o⟩, u2, u3⟩ := J
  have n2 := d _ _ u2
  refine ⟨hA, hu hO o2 _, by rw [u, hj_hu n2], dj_hu d u2, ⟨⟨_, _, _, _, _, _, _, _, _, _, _, _, _, _, _, _, _, _, _, Y⟩, o⟩, hu_self _ _ _, hu_o u3 u2 (by intro q; simp at q)⟩
theorem LJ.w3 {tc : Nat → ClassId} {h h' : HM} {y0 o2 o3 c : Nat} {fw : Nat → UInt64} {fz : Nat → Int32} {cs : Nat → Int32 × Int32} {gs : Nat → GT} {ps : Nat → PT} {nR : Nat} {rs : Nat → RT} {k : KT} {dmp day : Int32} (J : LJ tc y0 o2 o3 fw fz c cs gs ps nR rs k dmp day h) {j : Nat} {x : Int32} (u : Up h o3 (.inl (tc 1, 10, .inl (upd fz j x))) h') : LJ tc y0 o2 o3 fw (upd fz j x) c cs gs ps nR rs k dmp day h' := by
  obtain ⟨hA, hO, rfl, d, ⟨⟨cA, gA, pA, oA, pr, ra, re, rw9, tr, tw, ca, ga, pa, oa, f, hb, hbt, dmt, kt, Y⟩, o⟩, u2, u3⟩ := J
  have n3 := d _ _ u3
  refine ⟨hA, hu hO o3 _, by rw [u, hj_hu n3], dj_hu d u3, ⟨⟨_, _, _, _, _, _, _, _, _, _, _, _, _, _, _, _, _, _, _, Y⟩, o⟩, hu_o u2 u3 (by intro q; simp at q), hu_self _ _ _⟩

theorem q_many {l : Launch} {D : va_G} {tc : Nat → ClassId} (hl : l.stackTraces = false) {h : HM} {y0 o2 o3 c : Nat} {fw : Nat → UInt64} {fz : Nat → Int32} {cs : Nat → Int32 × Int32} {gs : Nat → GT} {ps : Nat → PT} {nR : Nat} {rs : Nat → RT} {k : KT} {dmp day : Int32} (J : LJ tc y0 o2 o3 fw fz c cs gs ps nR rs k dmp day h) {v : Int32} (hv : 0 ≤ v.toInt ∧ v.toInt ≤ 15) :
    CTX l D tc yX7_many cX7_many 2 (some FieldType.int) rm_X7_many [.ref y0, .int v] h (rI (fun z h' => h' = h ∧ z = sp_many 10 ps 0 os0 nR k day 0 0 v)) (fun E h' => False) := by
  obtain ⟨hA, hO, rfl, d, ⟨⟨cA, gA, pA, oA, pr, ra, re, rw9, tr, tw, ca, ga, pa, oa, f, hb, hbt, dmt, kt, Y⟩, o⟩, u2, u3⟩ := J
  obtain ⟨a1, a2, a3, a4, a5, a6, a7, a8, a9, a10, pw, p1, p2⟩ := id o
  refine (CTX.frame d (m_X7_many hl Y rfl)).mono (fun r h' q => ?_) (fun E h' q => ?_)
  · obtain ⟨hA1, ⟨z, rfl, q⟩, rfl, d9⟩ := q
    refine ⟨z, rfl, ?_⟩
    obtain ⟨rfl, -, rfl⟩ := q
    exact ⟨rfl, rfl⟩
  · obtain ⟨hA1, q, rfl, d9⟩ := q
    exact q.2.2 hv

theorem q_kiln {l : Launch} {D : va_G} {tc : Nat → ClassId} (hl : l.stackTraces = false) {h : HM} {y0 o2 o3 c : Nat} {fw : Nat → UInt64} {fz : Nat → Int32} {cs : Nat → Int32 × Int32} {gs : Nat → GT} {ps : Nat → PT} {nR : Nat} {rs : Nat → RT} {k : KT} {dmp day : Int32} (J : LJ tc y0 o2 o3 fw fz c cs gs ps nR rs k dmp day h) {v : Int32} (hv : 0 ≤ v.toInt ∧ v.toInt ≤ 5) :
    CTX l D tc yX7_kiln cX7_kiln 2 (some FieldType.double) rm_X7_kiln [.ref y0, .int v] h (rD (fun z h' => h' = h ∧ z = sp_kiln k v)) (fun E h' => False) := by
  obtain ⟨hA, hO, rfl, d, ⟨⟨cA, gA, pA, oA, pr, ra, re, rw9, tr, tw, ca, ga, pa, oa, f, hb, hbt, dmt, kt, Y⟩, o⟩, u2, u3⟩ := J
  obtain ⟨a1, a2, a3, a4, a5, a6, a7, a8, a9, a10, pw, p1, p2⟩ := id o
  refine (CTX.frame d (m_X7_kiln hl Y a8.1 a8.2.1)).mono (fun r h' q => ?_) (fun E h' q => ?_)
  · obtain ⟨hA1, ⟨z, rfl, q⟩, rfl, d9⟩ := q
    refine ⟨z, rfl, ?_⟩
    obtain ⟨rfl, -, rfl⟩ := q
    exact ⟨rfl, rfl⟩
  · obtain ⟨hA1, q, rfl, d9⟩ := q
    exact q.2.2 hv

theorem q_ofPot {l : Launch} {D : va_G} {tc : Nat → ClassId} (hl : l.stackTraces = false) {h : HM} {y0 o2 o3 c : Nat} {fw : Nat → UInt64} {fz : Nat → Int32} {cs : Nat → Int32 × Int32} {gs : Nat → GT} {ps : Nat → PT} {nR : Nat} {rs : Nat → RT} {k : KT} {dmp day : Int32} (J : LJ tc y0 o2 o3 fw fz c cs gs ps nR rs k dmp day h) {j : Nat} (hj : j < 10) {v : Int32} (hv : 0 ≤ v.toInt ∧ v.toInt ≤ 7) :
    CTX l D tc yX7_ofPot cX7_ofPot 4 (some FieldType.int) rm_X7_ofPot [.ref y0, .int (nI j), .int v] h (rI (fun z h' => h' = h ∧ z = sp_ofPot gs (ps j) v)) (fun E h' => False) := by
  obtain ⟨hA, hO, rfl, d, ⟨⟨cA, gA, pA, oA, pr, ra, re, rw9, tr, tw, ca, ga, pa, oa, f, hb, hbt, dmt, kt, Y⟩, o⟩, u2, u3⟩ := J
  obtain ⟨a1, a2, a3, a4, a5, a6, a7, a8, a9, a10, pw, p1, p2⟩ := id o
  refine (CTX.frame d (m_X7_ofPot hl Y a3 (fun i hi => (a7 i hi).2.1))).mono (fun r h' q => ?_) (fun E h' q => ?_)
  · obtain ⟨hA1, ⟨z, rfl, q⟩, rfl, d9⟩ := q
    refine ⟨z, rfl, ?_⟩
    obtain ⟨rfl, j2, hj2, e2, -, rfl⟩ := q
    obtain rfl := nI_inj (by omega) (by omega) e2
    exact ⟨rfl, rfl⟩
  · obtain ⟨hA1, q, rfl, d9⟩ := q
    rcases q with ⟨-, -, w⟩ | ⟨-, -, -, w⟩
    · exact not_out hj (by decide) w
    · exact w hv

theorem q_water {l : Launch} {D : va_G} {tc : Nat → ClassId} (hl : l.stackTraces = false) {h : HM} {y0 o2 o3 c : Nat} {fw : Nat → UInt64} {fz : Nat → Int32} {cs : Nat → Int32 × Int32} {gs : Nat → GT} {ps : Nat → PT} {nR : Nat} {rs : Nat → RT} {k : KT} {dmp day : Int32} (J : LJ tc y0 o2 o3 fw fz c cs gs ps nR rs k dmp day h) {j : Nat} (hj : j < 10) :
    CTX l D tc yX7_water cX7_water 2 (some FieldType.double) rm_X7_water [.ref y0, .int (nI j)] h (rD (fun z h' => h' = h ∧ z = FP.f2d (qWa (ps j).2.2))) (fun E h' => False) := by
  obtain ⟨hA, hO, rfl, d, ⟨⟨cA, gA, pA, oA, pr, ra, re, rw9, tr, tw, ca, ga, pa, oa, f, hb, hbt, dmt, kt, Y⟩, o⟩, u2, u3⟩ := J
  obtain ⟨a1, a2, a3, a4, a5, a6, a7, a8, a9, a10, pw, p1, p2⟩ := id o
  refine (CTX.frame d (m_X7_water hl Y a3 (fun i hi => (a7 i hi).wf))).mono (fun r h' q => ?_) (fun E h' q => ?_)
  · obtain ⟨hA1, ⟨z, rfl, q⟩, rfl, d9⟩ := q
    refine ⟨z, rfl, ?_⟩
    obtain ⟨rfl, j2, hj2, e2, rfl⟩ := q
    obtain rfl := nI_inj (by omega) (by omega) e2
    exact ⟨rfl, rfl⟩
  · obtain ⟨hA1, q, rfl, d9⟩ := q
    exact not_out hj (by decide) q.2.2

theorem q_ofShelf {l : Launch} {D : va_G} {tc : Nat → ClassId} (hl : l.stackTraces = false) {h : HM} {y0 o2 o3 c : Nat} {fw : Nat → UInt64} {fz : Nat → Int32} {cs : Nat → Int32 × Int32} {gs : Nat → GT} {ps : Nat → PT} {nR : Nat} {rs : Nat → RT} {k : KT} {dmp day : Int32} (J : LJ tc y0 o2 o3 fw fz c cs gs ps nR rs k dmp day h) {s : Nat} (hs : s < 3) {v : Int32} (hv : 0 ≤ v.toInt ∧ v.toInt ≤ 3) :
    CTX l D tc yX7_ofShelf cX7_ofShelf 3 (some FieldType.int) rm_X7_ofShelf [.ref y0, .int (nI s), .int v] h (rI (fun z h' => h' = h ∧ z = sp_shelf k 10 ps s v)) (fun E h' => False) := by
  obtain ⟨hA, hO, rfl, d, ⟨⟨cA, gA, pA, oA, pr, ra, re, rw9, tr, tw, ca, ga, pa, oa, f, hb, hbt, dmt, kt, Y⟩, o⟩, u2, u3⟩ := J
  obtain ⟨a1, a2, a3, a4, a5, a6, a7, a8, a9, a10, pw, p1, p2⟩ := id o
  refine (CTX.frame d (m_X7_ofShelf hl Y)).mono (fun r h' q => ?_) (fun E h' q => ?_)
  · obtain ⟨hA1, ⟨z, rfl, q⟩, rfl, d9⟩ := q
    refine ⟨z, rfl, ?_⟩
    obtain ⟨rfl, j2, hj2, e2, -, rfl⟩ := q
    obtain rfl := nI_inj (by omega) (by omega) e2
    exact ⟨rfl, rfl⟩
  · obtain ⟨hA1, q, rfl, d9⟩ := q
    rcases q with ⟨-, -, w⟩ | ⟨-, -, -, w⟩
    · exact not_out hs (by decide) w
    · exact w hv

theorem q_wouldCone {l : Launch} {D : va_G} {tc : Nat → ClassId} (hl : l.stackTraces = false) {h : HM} {y0 o2 o3 c : Nat} {fw : Nat → UInt64} {fz : Nat → Int32} {cs : Nat → Int32 × Int32} {gs : Nat → GT} {ps : Nat → PT} {nR : Nat} {rs : Nat → RT} {k : KT} {dmp day : Int32} (J : LJ tc y0 o2 o3 fw fz c cs gs ps nR rs k dmp day h) {s m : Nat} (hs : s < 3) (h1 : 1 ≤ m) (h2 : m ≤ 60) :
    CTX l D tc yX7_wouldCone cX7_wouldCone 4 (some FieldType.int) rm_X7_wouldCone [.ref y0, .int (nI s), .int (nI m)] h (rI (fun z h' => (∃ r, r ≤ 12 ∧ z = nI r) ∧ LJ tc y0 o2 o3 fw fz c cs gs ps nR rs k dmp day h')) (fun E h' => False) := by
  obtain ⟨hA, hO, rfl, d, ⟨⟨cA, gA, pA, oA, pr, ra, re, rw9, tr, tw, ca, ga, pa, oa, f, hb, hbt, dmt, kt, Y⟩, o⟩, u2, u3⟩ := J
  obtain ⟨a1, a2, a3, a4, a5, a6, a7, a8, a9, a10, pw, p1, p2⟩ := id o
  refine (CTX.frame d (m_X7_wouldCone hl Y a8 a9 a10)).mono (fun r h' q => ?_) (fun E h' q => ?_)
  · obtain ⟨hA1, ⟨z, rfl, q⟩, rfl, d9⟩ := q
    refine ⟨z, rfl, ?_⟩
    obtain ⟨s2, m2, hs2, e2, hm2, e3, rfl, hb9, kt9, Y9⟩ := q
    exact ⟨cone_nat _ 12, ⟨_, hO, rfl, d9, ⟨⟨_, _, _, _, _, _, _, _, _, _, _, _, _, _, _, _, _, _, _, Y9⟩, o⟩, u2, u3⟩⟩
  · obtain ⟨hA1, q, rfl, d9⟩ := q
    rcases q with ⟨-, -, w⟩ | ⟨-, -, -, w⟩
    · exact not_out hs (by decide) w
    · exact w ⟨one_le h1 (by omega), le_60 h2⟩

theorem q_wouldHold {l : Launch} {D : va_G} {tc : Nat → ClassId} (hl : l.stackTraces = false) {h : HM} {y0 o2 o3 c : Nat} {fw : Nat → UInt64} {fz : Nat → Int32} {cs : Nat → Int32 × Int32} {gs : Nat → GT} {ps : Nat → PT} {nR : Nat} {rs : Nat → RT} {k : KT} {dmp day : Int32} (J : LJ tc y0 o2 o3 fw fz c cs gs ps nR rs k dmp day h) {s : Nat} (hs : s < 3) :
    CTX l D tc yX7_wouldHold cX7_wouldHold 4 (some FieldType.int) rm_X7_wouldHold [.ref y0, .int (nI s)] h (rI (fun z h' => h' = h ∧ ∃ r, r ≤ 10 ∧ z = nI r)) (fun E h' => False) := by
  obtain ⟨hA, hO, rfl, d, ⟨⟨cA, gA, pA, oA, pr, ra, re, rw9, tr, tw, ca, ga, pa, oa, f, hb, hbt, dmt, kt, Y⟩, o⟩, u2, u3⟩ := J
  obtain ⟨a1, a2, a3, a4, a5, a6, a7, a8, a9, a10, pw, p1, p2⟩ := id o
  refine (CTX.frame d (m_X7_wouldHold hl Y)).mono (fun r h' q => ?_) (fun E h' q => ?_)
  · obtain ⟨hA1, ⟨z, rfl, q⟩, rfl, d9⟩ := q
    refine ⟨z, rfl, ?_⟩
    obtain ⟨rfl, s2, n, hs2, e2, e3, hn, rfl⟩ := q
    exact ⟨rfl, wh_10 _ n hn⟩
  · obtain ⟨hA1, q, rfl, d9⟩ := q
    exact not_out hs (by decide) q.2.2

theorem q_best {l : Launch} {D : va_G} {tc : Nat → ClassId} (hl : l.stackTraces = false) {h : HM} {y0 o2 o3 c : Nat} {fw : Nat → UInt64} {fz : Nat → Int32} {cs : Nat → Int32 × Int32} {gs : Nat → GT} {ps : Nat → PT} {nR : Nat} {rs : Nat → RT} {k : KT} {dmp day : Int32} (J : LJ tc y0 o2 o3 fw fz c cs gs ps nR rs k dmp day h) {n : Nat} (h1 : 1 ≤ n) (h2 : n ≤ 12) :
    CTX l D tc yX7_best cX7_best 9 (some FieldType.int) rm_X7_best [.ref y0, .int (nI 0), .int (nI n)] h (rI (fun z h' => h' = h ∧ (z = -1 ∨ ∃ r, r < 3 ∧ z = nI r))) (fun E h' => False) := by
  obtain ⟨hA, hO, rfl, d, ⟨⟨cA, gA, pA, oA, pr, ra, re, rw9, tr, tw, ca, ga, pa, oa, f, hb, hbt, dmt, kt, Y⟩, o⟩, u2, u3⟩ := J
  obtain ⟨a1, a2, a3, a4, a5, a6, a7, a8, a9, a10, pw, p1, p2⟩ := id o
  have gn : ∀ c, c < 1 → ∀ g, g < 3 → vf_n64 (FP.dsub (sp_growth (gs g)) (sp_cg (cs c).2)) ∧ vf_n64 (FP.dsub (sp_cg (cs c).2) (sp_growth (gs g))) := fun c hc g hg =>
    ⟨nn_of (dsub_n (glz_all (a6 g hg)).2.1.n (cg_fin (a5 c hc).2)), nn_of (dsub_n (cg_fin (a5 c hc).2).n (glz_all (a6 g hg)).2.1)⟩
  refine (CTX.frame d (m_X7_best hl Y a1 gn)).mono (fun r h' q => ?_) (fun E h' q => ?_)
  · obtain ⟨hA1, ⟨z, rfl, q⟩, rfl, d9⟩ := q
    refine ⟨z, rfl, ?_⟩
    obtain ⟨rfl, c2, hc2, e2, hc, rfl⟩ := q
    refine ⟨rfl, ?_⟩
    cases e : sp_best gs (sp_cg (cs c2).2) (nI n) 3 4 with
    | none => exact Or.inl rfl
    | some b => exact Or.inr ⟨b, best_lt _ _ e, rfl⟩
  · obtain ⟨hA1, q, rfl, d9⟩ := q
    rcases q with ⟨-, -, w⟩ | ⟨-, -, -, w⟩
    · exact not_out (j := 0) (n := 1) (by decide) (by decide) w
    · refine w ⟨one_le h1 (by omega), ?_⟩
      rw [Int32.le_iff_toInt_le, nI_toInt (by omega)]
      show (n : Int) ≤ 12
      omega

theorem q_digest {l : Launch} {D : va_G} {tc : Nat → ClassId} (hl : l.stackTraces = false) {h : HM} {y0 o2 o3 c : Nat} {fw : Nat → UInt64} {fz : Nat → Int32} {cs : Nat → Int32 × Int32} {gs : Nat → GT} {ps : Nat → PT} {nR : Nat} {rs : Nat → RT} {k : KT} {dmp day : Int32} (J : LJ tc y0 o2 o3 fw fz c cs gs ps nR rs k dmp day h)  :
    CTX l D tc yX7_digest cX7_digest 4 (some FieldType.long) rm_X7_digest [.ref y0] h (rL (fun z h' => z = sp_digest 3 gs 10 ps 0 os0 nR rs k day 0 0 ∧ LJ tc y0 o2 o3 fw fz c cs gs ps nR rs k dmp day h')) (fun E h' => False) := by
  obtain ⟨hA, hO, rfl, d, ⟨⟨cA, gA, pA, oA, pr, ra, re, rw9, tr, tw, ca, ga, pa, oa, f, hb, hbt, dmt, kt, Y⟩, o⟩, u2, u3⟩ := J
  obtain ⟨a1, a2, a3, a4, a5, a6, a7, a8, a9, a10, pw, p1, p2⟩ := id o
  refine (CTX.frame d (m_X7_digest hl Y a3 a2 (fun i hi => (a7 i hi).2.1) a8 a9 a10 (fun i hi => (a7 i hi).wf) (fun i hi => sa_n (a6 i hi)) (fun i hi => (glz_all (a6 i hi)).2.1) rfl)).mono (fun r h' q => ?_) (fun E h' q => ?_)
  · obtain ⟨hA1, ⟨z, rfl, q⟩, rfl, d9⟩ := q
    refine ⟨z, rfl, ?_⟩
    obtain ⟨rfl, hb9, kt9, Y9⟩ := q
    exact ⟨rfl, ⟨_, hO, rfl, d9, ⟨⟨_, _, _, _, _, _, _, _, _, _, _, _, _, _, _, _, _, _, _, Y9⟩, o⟩, u2, u3⟩⟩
  · obtain ⟨hA1, q, rfl, d9⟩ := q
    exact q.elim
