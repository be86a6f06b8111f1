/-! A CLAY, A GLAZE, A POT, A RAMP, AN ORDER MORE -/
theorem row9_up {n N : Nat} {a : Nat → Nat} {q : Nat} : va_up (row9 n a) n (some q) = row9 (n + 1) (vf_upd a n q) := by
  funext i
  simp only [va_up, row9, vf_upd]
  by_cases h : i = n
  · subst h; simp
  · by_cases g : i < n
    · rw [if_neg h, if_pos g, if_pos (by omega), if_neg h]
    · rw [if_neg h, if_neg g, if_neg (by omega)]

theorem Yh.clay {tc : Nat → ClassId} {h h' : HM} {y0 cA gA pA oA pr ra re rw tr tw : Nat} {ca ga pa oa : Nat → Nat} {f : Nat → Option Nat} {hb : UInt64} {hbt : UInt64} {dmt : Int32} {kt : KT} {nC : Nat} {cs : Nat → Int32 × Int32} {nG : Nat} {gs : Nat → GT} {nP : Nat} {ps : Nat → PT} {nO : Nat} {os : Nat → OT} {nR : Nat} {rs : Nat → RT} {k : KT} {dmp : Int32} {day : Int32} {pur : Int32} {rf : Int32} (Y : Yh tc y0 cA gA pA oA pr ra re rw tr tw ca ga pa oa f hb hbt dmt kt nC cs nG gs nP ps nO os nR rs k dmp day pur rf h) {q : Nat} {c : Int32 × Int32} (hq : h q = none) (hP : ∀ i, i < nP → (ps i).1 < nC) (u0 : h' q = some (cCell c.1 (sp_cg c.2))) (u1 : h' cA = some (qCell (tc 3) 3 (row9 (nC + 1) (vf_upd ca nC q)))) (u2 : h' y0 = some (yCell cA gA pA oA (nC + 1) nG nP nO pr re tr day pur rf)) (u : Fr [y0, cA] h h') : Yh tc y0 cA gA pA oA pr ra re rw tr tw (vf_upd ca nC q) ga pa oa f hb hbt dmt kt (nC + 1) (vf_upd cs nC c) nG gs nP ps nO os nR rs k dmp day pur rf h' := by
  obtain ⟨yy, yc, yg, yp, yo, ypr, yra, yre, yrw, ytr, ytw, yC, yG, yP, yO, yR, yn1, yn2, yn3, yn4⟩ := Y
  have N : ∀ {b : Nat} {z : va_E}, h b = some z → z ≠ yCell cA gA pA oA nC nG nP nO pr re tr day pur rf → z ≠ qCell (tc 3) 3 (row9 nC ca) → h' b = some z := fun hb1 n1 n2 => u _ _ (not2 (ne_of hb1 yy n1) (ne_of hb1 yc n2)) hb1
  have NA : ∀ {b : Nat} {cA9 : ClassId} {m : Nat} {f9 : Nat → Option Nat}, h b = some (qCell cA9 m f9) → b ≠ cA → h' b = some (qCell cA9 m f9) := fun hb1 n1 => u _ _ (not2 (ne_of hb1 yy (by intro q; simp at q)) n1) hb1
  refine ⟨u2, u1, NA yg (ne_of yg yc (by intro w; simp at w)), NA yp (ne_of yp yc (by intro w; simp at w)), NA yo (ne_of yo yc (by intro w; simp at w)), N ypr (by intro q; simp at q) (by intro q; simp at q), NA yra (ne_of yra yc (by intro w; simp at w)), N yre (by intro q; simp at q) (by intro q; simp at q), N yrw (by intro q; simp at q) (by intro q; simp at q), N ytr (by intro q; simp at q) (by intro q; simp at q), N ytw (by intro q; simp at q) (by intro q; simp at q), fun j hj => ?_, fun j hj => N (yG j hj) (by intro q; simp at q) (by intro q; simp at q), fun j hj => ?_, fun j hj => N (yO j hj) (by intro q; simp at q) (by intro q; simp at q), fun j hj => ?_, yn1, yn2, yn3, yn4⟩
  · by_cases w : j = nC
    · subst w
      rw [show vf_upd ca j q j = q from if_pos rfl, show vf_upd cs j c j = c from if_pos rfl]
      exact u0
    · rw [show vf_upd ca nC q j = ca j from if_neg w, show vf_upd cs nC c j = cs j from if_neg w]
      exact N (yC j (by omega)) (by intro q; simp at q) (by intro q; simp at q)
  · have w : ¬ (ps j).1 = nC := by have := hP j hj; omega
    show h' (pa j) = some (potC (.ref (vf_upd ca nC q (ps j).1)) _ _)
    rw [show vf_upd ca nC q (ps j).1 = ca (ps j).1 from if_neg w]
    exact N (yP j hj) (by intro q; simp at q) (by intro q; simp at q)
  · obtain ⟨r, r1, r2⟩ := yR j hj
    exact ⟨r, r1, N r2 (by intro q; simp at q) (by intro q; simp at q)⟩
