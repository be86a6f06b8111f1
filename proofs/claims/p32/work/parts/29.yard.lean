/-! THE YARD OF THE CLASS THAT LANDED, IN THE HEAP -/
/-- a pot: its clay, its glaze, its numbers -/
abbrev PT : Type := Nat × Option Nat × QT
/-- an order: glaze, colour, due, price, met -/
abbrev OT : Type := Nat × Int32 × Int32 × Int32 × Bool
abbrev row9 (n : Nat) (a : Nat → Nat) : Nat → Option Nat := fun i => if i < n then some (a i) else none
def sp_cg (q : Int32) : UInt64 := FP.ddiv (FP.i2d q) 4616189618054758400
abbrev yCell (cA gA pA oA nC nG nP nO pr re tr : Nat) (day pur rf : Int32) : va_E := .inr (6, [.ref cA, .ref gA, .ref pA, .ref oA, .int (nI nC), .int (nI nG), .int (nI nP), .int (nI nO), .ref pr, .ref re, .ref tr, .int day, .int pur, .int rf])
abbrev gC9 (i : Nat) (g : GT) : va_E := gCell i g.2.2.1 g.2.2.2.1 g.2.2.2.2 (sp_melts g) (sp_growth g)
abbrev pC9 (ca ga : Nat → Nat) (p : PT) : va_E := potC (.ref (ca p.1)) (va_rf (p.2.1.map ga)) p.2.2
abbrev oC9 (o : OT) : va_E := oCell (nI o.1) o.2.1 o.2.2.1 o.2.2.2.1 o.2.2.2.2
def Yh (tc : Nat → ClassId) (y0 cA gA pA oA pr ra re rw tr tw : Nat) (ca ga pa oa : Nat → Nat) (f : Nat → Option Nat) (hb : UInt64) (hbt : UInt64) (dmt : Int32) (kt : KT) (nC : Nat) (cs : Nat → Int32 × Int32) (nG : Nat) (gs : Nat → GT) (nP : Nat) (ps : Nat → PT) (nO : Nat) (os : Nat → OT) (nR : Nat) (rs : Nat → RT) (k : KT) (dmp : Int32) (day : Int32) (pur : Int32) (rf : Int32) (h : HM) : Prop :=
  h y0 = some (yCell cA gA pA oA nC nG nP nO pr re tr day pur rf) ∧
  h cA = some (qCell (tc 3) 3 (row9 nC ca)) ∧ h gA = some (qCell (tc 4) 4 (row9 nG ga)) ∧ h pA = some (qCell (tc 6) 14 (row9 nP pa)) ∧ h oA = some (qCell (tc 5) 6 (row9 nO oa)) ∧
  h pr = some (pCell ra nR) ∧ h ra = some (qCell (tc 7) 5 f) ∧ h re = some (kCell pr rw hb dmp k) ∧ h rw = some (wCell tc (kW k)) ∧ h tr = some (kCell pr tw hbt dmt kt) ∧ h tw = some (wCell tc (kW kt)) ∧
  (∀ i, i < nC → h (ca i) = some (cCell (cs i).1 (sp_cg (cs i).2))) ∧
  (∀ i, i < nG → h (ga i) = some (gC9 i (gs i))) ∧
  (∀ i, i < nP → h (pa i) = some (pC9 ca ga (ps i))) ∧
  (∀ i, i < nO → h (oa i) = some (oC9 (os i))) ∧
  RS h nR f rs ∧
  re ≠ tr ∧ rw ≠ tw ∧ (∀ i j, i < nP → j < nP → pa i = pa j → i = j) ∧ (∀ i j, i < nO → j < nO → oa i = oa j → i = j)
theorem ne_of {h : HM} {a b : Nat} {z e : va_E} (hb : h b = some z) (ha : h a = some e) (n : z ≠ e) : b ≠ a := fun w => by rw [w, ha] at hb; injection hb with hb; exact n hb.symm
theorem not2 {a b c : Nat} (h1 : a ≠ b) (h2 : a ≠ c) : a ∉ [b, c] := by simp [h1, h2]
theorem not1 {a b : Nat} (h1 : a ≠ b) : a ∉ [b] := by simp [h1]

theorem Yh.pot {tc : Nat → ClassId} {h h' : HM} {y0 cA gA pA oA pr ra re rw tr tw : Nat} {ca ga pa oa : Nat → Nat} {f : Nat → Option Nat} {hb : UInt64} {hbt : UInt64} {dmt : Int32} {kt : KT} {nC : Nat} {cs : Nat → Int32 × Int32} {nG : Nat} {gs : Nat → GT} {nP : Nat} {ps : Nat → PT} {nO : Nat} {os : Nat → OT} {nR : Nat} {rs : Nat → RT} {k : KT} {dmp : Int32} {day : Int32} {pur : Int32} {rf : Int32} (Y : Yh tc y0 cA gA pA oA pr ra re rw tr tw ca ga pa oa f hb hbt dmt kt nC cs nG gs nP ps nO os nR rs k dmp day pur rf h) {i : Nat} (hi : i < nP) {p : PT} (u : Up h (pa i) (pC9 ca ga p) h') : Yh tc y0 cA gA pA oA pr ra re rw tr tw ca ga pa oa f hb hbt dmt kt nC cs nG gs nP (vf_upd ps i p) nO os nR rs k dmp day pur rf h' := by
  obtain ⟨yy, yc, yg, yp, yo, ypr, yra, yre, yrw, ytr, ytw, yC, yG, yP, yO, yR, yn1, yn2, yn3, yn4⟩ := Y
  have e := yP i hi
  refine ⟨u.oth yy e (by intro q; simp at q), u.oth yc e (by intro q; simp at q), u.oth yg e (by intro q; simp at q), u.oth yp e (by intro q; simp at q), u.oth yo e (by intro q; simp at q), u.oth ypr e (by intro q; simp at q), u.oth yra e (by intro q; simp at q), u.oth yre e (by intro q; simp at q), u.oth yrw e (by intro q; simp at q), u.oth ytr e (by intro q; simp at q), u.oth ytw e (by intro q; simp at q), fun j hj => u.oth (yC j hj) e (by intro q; simp at q), fun j hj => u.oth (yG j hj) e (by intro q; simp at q), fun j hj => ?_, fun j hj => u.oth (yO j hj) e (by intro q; simp at q), yR.up u e (fun r => by intro q; simp at q), yn1, yn2, yn3, yn4⟩
  by_cases w : j = i
  · subst w; rw [show vf_upd ps j p j = p from if_pos rfl]; exact u.self
  · rw [show vf_upd ps i p j = ps j from if_neg w]
    exact (u.ne (fun q => w (yn3 j i hj hi q))).trans (yP j hj)

theorem Yh.real {tc : Nat → ClassId} {h h' : HM} {y0 cA gA pA oA pr ra re rw tr tw : Nat} {ca ga pa oa : Nat → Nat} {f : Nat → Option Nat} {hb : UInt64} {hbt : UInt64} {dmt : Int32} {kt : KT} {nC : Nat} {cs : Nat → Int32 × Int32} {nG : Nat} {gs : Nat → GT} {nP : Nat} {ps : Nat → PT} {nO : Nat} {os : Nat → OT} {nR : Nat} {rs : Nat → RT} {k : KT} {dmp : Int32} {day : Int32} {pur : Int32} {rf : Int32} (Y : Yh tc y0 cA gA pA oA pr ra re rw tr tw ca ga pa oa f hb hbt dmt kt nC cs nG gs nP ps nO os nR rs k dmp day pur rf h) {hb2 : UInt64} {dm2 : Int32} {k2 : KT} (u1 : h' re = some (kCell pr rw hb2 dm2 k2)) (u2 : h' rw = some (wCell tc (kW k2))) (u : Fr [re, rw] h h') : Yh tc y0 cA gA pA oA pr ra re rw tr tw ca ga pa oa f hb2 hbt dmt kt nC cs nG gs nP ps nO os nR rs k2 dm2 day pur rf h' := by
  obtain ⟨yy, yc, yg, yp, yo, ypr, yra, yre, yrw, ytr, ytw, yC, yG, yP, yO, yR, yn1, yn2, yn3, yn4⟩ := Y
  have N : ∀ {b : Nat} {z : va_E}, h b = some z → z ≠ kCell pr rw hb dmp k → z ≠ wCell tc (kW k) → h' b = some z := fun hb1 n1 n2 => u _ _ (not2 (ne_of hb1 yre n1) (ne_of hb1 yrw n2)) hb1
  refine ⟨N yy (by intro q; simp at q) (by intro q; simp at q), N yc (by intro q; simp at q) (by intro q; simp at q), N yg (by intro q; simp at q) (by intro q; simp at q), N yp (by intro q; simp at q) (by intro q; simp at q), N yo (by intro q; simp at q) (by intro q; simp at q), N ypr (by intro q; simp at q) (by intro q; simp at q), N yra (by intro q; simp at q) (by intro q; simp at q), u1, u2, u _ _ (not2 (Ne.symm yn1) (ne_of ytr yrw (by intro q; simp at q))) ytr, u _ _ (not2 (ne_of ytw yre (by intro q; simp at q)) (Ne.symm yn2)) ytw, fun j hj => N (yC j hj) (by intro q; simp at q) (by intro q; simp at q), fun j hj => N (yG j hj) (by intro q; simp at q) (by intro q; simp at q), fun j hj => N (yP j hj) (by intro q; simp at q) (by intro q; simp at q), fun j hj => N (yO j hj) (by intro q; simp at q) (by intro q; simp at q), fun j hj => ?_, yn1, yn2, yn3, yn4⟩
  obtain ⟨r, r1, r2⟩ := yR j hj
  exact ⟨r, r1, N r2 (by intro q; simp at q) (by intro q; simp at q)⟩

theorem Yh.trial {tc : Nat → ClassId} {h h' : HM} {y0 cA gA pA oA pr ra re rw tr tw : Nat} {ca ga pa oa : Nat → Nat} {f : Nat → Option Nat} {hb : UInt64} {hbt : UInt64} {dmt : Int32} {kt : KT} {nC : Nat} {cs : Nat → Int32 × Int32} {nG : Nat} {gs : Nat → GT} {nP : Nat} {ps : Nat → PT} {nO : Nat} {os : Nat → OT} {nR : Nat} {rs : Nat → RT} {k : KT} {dmp : Int32} {day : Int32} {pur : Int32} {rf : Int32} (Y : Yh tc y0 cA gA pA oA pr ra re rw tr tw ca ga pa oa f hb hbt dmt kt nC cs nG gs nP ps nO os nR rs k dmp day pur rf h) {hb2 : UInt64} {dm2 : Int32} {k2 : KT} (u1 : h' tr = some (kCell pr tw hb2 dm2 k2)) (u2 : h' tw = some (wCell tc (kW k2))) (u : Fr [tr, tw] h h') : Yh tc y0 cA gA pA oA pr ra re rw tr tw ca ga pa oa f hb hb2 dm2 k2 nC cs nG gs nP ps nO os nR rs k dmp day pur rf h' := by
  obtain ⟨yy, yc, yg, yp, yo, ypr, yra, yre, yrw, ytr, ytw, yC, yG, yP, yO, yR, yn1, yn2, yn3, yn4⟩ := Y
  have N : ∀ {b : Nat} {z : va_E}, h b = some z → z ≠ kCell pr tw hbt dmt kt → z ≠ wCell tc (kW kt) → h' b = some z := fun hb1 n1 n2 => u _ _ (not2 (ne_of hb1 ytr n1) (ne_of hb1 ytw n2)) hb1
  refine ⟨N yy (by intro q; simp at q) (by intro q; simp at q), N yc (by intro q; simp at q) (by intro q; simp at q), N yg (by intro q; simp at q) (by intro q; simp at q), N yp (by intro q; simp at q) (by intro q; simp at q), N yo (by intro q; simp at q) (by intro q; simp at q), N ypr (by intro q; simp at q) (by intro q; simp at q), N yra (by intro q; simp at q) (by intro q; simp at q), u _ _ (not2 yn1 (ne_of yre ytw (by intro q; simp at q))) yre, u _ _ (not2 (ne_of yrw ytr (by intro q; simp at q)) yn2) yrw, u1, u2, fun j hj => N (yC j hj) (by intro q; simp at q) (by intro q; simp at q), fun j hj => N (yG j hj) (by intro q; simp at q) (by intro q; simp at q), fun j hj => N (yP j hj) (by intro q; simp at q) (by intro q; simp at q), fun j hj => N (yO j hj) (by intro q; simp at q) (by intro q; simp at q), fun j hj => ?_, yn1, yn2, yn3, yn4⟩
  obtain ⟨r, r1, r2⟩ := yR j hj
  exact ⟨r, r1, N r2 (by intro q; simp at q) (by intro q; simp at q)⟩

theorem Yh.me {tc : Nat → ClassId} {h h' : HM} {y0 cA gA pA oA pr ra re rw tr tw : Nat} {ca ga pa oa : Nat → Nat} {f : Nat → Option Nat} {hb : UInt64} {hbt : UInt64} {dmt : Int32} {kt : KT} {nC : Nat} {cs : Nat → Int32 × Int32} {nG : Nat} {gs : Nat → GT} {nP : Nat} {ps : Nat → PT} {nO : Nat} {os : Nat → OT} {nR : Nat} {rs : Nat → RT} {k : KT} {dmp : Int32} {day : Int32} {pur : Int32} {rf : Int32} (Y : Yh tc y0 cA gA pA oA pr ra re rw tr tw ca ga pa oa f hb hbt dmt kt nC cs nG gs nP ps nO os nR rs k dmp day pur rf h) {day2 pur2 rf2 : Int32} (u : Up h y0 (yCell cA gA pA oA nC nG nP nO pr re tr day2 pur2 rf2) h') : Yh tc y0 cA gA pA oA pr ra re rw tr tw ca ga pa oa f hb hbt dmt kt nC cs nG gs nP ps nO os nR rs k dmp day2 pur2 rf2 h' := by
  obtain ⟨yy, yc, yg, yp, yo, ypr, yra, yre, yrw, ytr, ytw, yC, yG, yP, yO, yR, yn1, yn2, yn3, yn4⟩ := Y
  exact ⟨u.self, u.oth yc yy (by intro q; simp at q), u.oth yg yy (by intro q; simp at q), u.oth yp yy (by intro q; simp at q), u.oth yo yy (by intro q; simp at q), u.oth ypr yy (by intro q; simp at q), u.oth yra yy (by intro q; simp at q), u.oth yre yy (by intro q; simp at q), u.oth yrw yy (by intro q; simp at q), u.oth ytr yy (by intro q; simp at q), u.oth ytw yy (by intro q; simp at q), fun j hj => u.oth (yC j hj) yy (by intro q; simp at q), fun j hj => u.oth (yG j hj) yy (by intro q; simp at q), fun j hj => u.oth (yP j hj) yy (by intro q; simp at q), fun j hj => u.oth (yO j hj) yy (by intro q; simp at q), yR.up u yy (fun r => by intro q; simp at q), yn1, yn2, yn3, yn4⟩

theorem Yh.met {tc : Nat → ClassId} {h h' : HM} {y0 cA gA pA oA pr ra re rw tr tw : Nat} {ca ga pa oa : Nat → Nat} {f : Nat → Option Nat} {hb : UInt64} {hbt : UInt64} {dmt : Int32} {kt : KT} {nC : Nat} {cs : Nat → Int32 × Int32} {nG : Nat} {gs : Nat → GT} {nP : Nat} {ps : Nat → PT} {nO : Nat} {os : Nat → OT} {nR : Nat} {rs : Nat → RT} {k : KT} {dmp : Int32} {day : Int32} {pur : Int32} {rf : Int32} (Y : Yh tc y0 cA gA pA oA pr ra re rw tr tw ca ga pa oa f hb hbt dmt kt nC cs nG gs nP ps nO os nR rs k dmp day pur rf h) {i : Nat} (hi : i < nO) {o : OT} (u : Up h (oa i) (oC9 o) h') : Yh tc y0 cA gA pA oA pr ra re rw tr tw ca ga pa oa f hb hbt dmt kt nC cs nG gs nP ps nO (vf_upd os i o) nR rs k dmp day pur rf h' := by
  obtain ⟨yy, yc, yg, yp, yo, ypr, yra, yre, yrw, ytr, ytw, yC, yG, yP, yO, yR, yn1, yn2, yn3, yn4⟩ := Y
  have e := yO i hi
  refine ⟨u.oth yy e (by intro q; simp at q), u.oth yc e (by intro q; simp at q), u.oth yg e (by intro q; simp at q), u.oth yp e (by intro q; simp at q), u.oth yo e (by intro q; simp at q), u.oth ypr e (by intro q; simp at q), u.oth yra e (by intro q; simp at q), u.oth yre e (by intro q; simp at q), u.oth yrw e (by intro q; simp at q), u.oth ytr e (by intro q; simp at q), u.oth ytw e (by intro q; simp at q), fun j hj => u.oth (yC j hj) e (by intro q; simp at q), fun j hj => u.oth (yG j hj) e (by intro q; simp at q), fun j hj => u.oth (yP j hj) e (by intro q; simp at q), fun j hj => ?_, yR.up u e (fun r => by intro q; simp at q), yn1, yn2, yn3, yn4⟩
  by_cases w : j = i
  · subst w; rw [show vf_upd os j o j = o from if_pos rfl]; exact u.self
  · rw [show vf_upd os i o j = os j from if_neg w]
    exact (u.ne (fun q => w (yn4 j i hj hi q))).trans (yO j hj)
