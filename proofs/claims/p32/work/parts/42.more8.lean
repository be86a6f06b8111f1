/-! AN ORDER, A GLAZE MORE -/
theorem Yh.order {tc : Nat → ClassId} {h h' : HM} {y0 cA gA pA oA pr ra re rw tr tw : Nat} {ca ga pa oa : Nat → Nat} {f : Nat → Option Nat} {hb : UInt64} {hbt : UInt64} {dmt : Int32} {kt : KT} {nC : Nat} {cs : Nat → Int32 × Int32} {nG : Nat} {gs : Nat → GT} {nP : Nat} {ps : Nat → PT} {nO : Nat} {os : Nat → OT} {nR : Nat} {rs : Nat → RT} {k : KT} {dmp : Int32} {day : Int32} {pur : Int32} {rf : Int32} (Y : Yh tc y0 cA gA pA oA pr ra re rw tr tw ca ga pa oa f hb hbt dmt kt nC cs nG gs nP ps nO os nR rs k dmp day pur rf h) {q : Nat} {o : OT} (hq : h q = none) (u0 : h' q = some (oC9 o)) (u1 : h' oA = some (qCell (tc 5) 6 (row9 (nO + 1) (vf_upd oa nO q)))) (u2 : h' y0 = some (yCell cA gA pA oA nC nG nP (nO + 1) pr re tr day pur rf)) (u : Fr [y0, oA] h h') : Yh tc y0 cA gA pA oA pr ra re rw tr tw ca ga pa (vf_upd oa nO q) f hb hbt dmt kt nC cs nG gs nP ps (nO + 1) (vf_upd os nO o) nR rs k dmp day pur rf h' := by
  obtain ⟨yy, yc, yg, yp, yo, ypr, yra, yre, yrw, ytr, ytw, yC, yG, yP, yO, yR, yn1, yn2, yn3, yn4⟩ := Y
  have N : ∀ {b : Nat} {z : va_E}, h b = some z → z ≠ yCell cA gA pA oA nC nG nP nO pr re tr day pur rf → z ≠ qCell (tc 5) 6 (row9 nO oa) → h' b = some z := fun hb1 n1 n2 => u _ _ (not2 (ne_of hb1 yy n1) (ne_of hb1 yo n2)) hb1
  have NA : ∀ {b : Nat} {cA9 : ClassId} {m : Nat} {f9 : Nat → Option Nat}, h b = some (qCell cA9 m f9) → b ≠ oA → h' b = some (qCell cA9 m f9) := fun hb1 n1 => u _ _ (not2 (ne_of hb1 yy (by intro q; simp at q)) n1) hb1
  have NE : ∀ {b : Nat} {cA9 : ClassId} {m : Nat} {f9 : Nat → Option Nat}, h b = some (qCell cA9 m f9) → m ≠ 6 → b ≠ oA := fun hb1 n1 => ne_of hb1 yo (by intro w; simp at w; exact n1 w.2.1)
  have nq : ∀ j, j < nO → oa j ≠ q := fun j hj w => by have := yO j hj; rw [w, hq] at this; cases this
  refine ⟨u2, NA yc (NE yc (by decide)), NA yg (NE yg (by decide)), NA yp (NE yp (by decide)), u1, N ypr (by intro q; simp at q) (by intro q; simp at q), NA yra (NE yra (by decide)), N yre (by intro q; simp at q) (by intro q; simp at q), N yrw (by intro q; simp at q) (by intro q; simp at q), N ytr (by intro q; simp at q) (by intro q; simp at q), N ytw (by intro q; simp at q) (by intro q; simp at q), fun j hj => N (yC j hj) (by intro q; simp at q) (by intro q; simp at q), fun j hj => N (yG j hj) (by intro q; simp at q) (by intro q; simp at q), fun j hj => N (yP j hj) (by intro q; simp at q) (by intro q; simp at q), fun j hj => ?_, fun j hj => ?_, yn1, yn2, yn3, fun i j hi hj w => ?_⟩
  · by_cases w : j = nO
    · subst w
      rw [show vf_upd oa j q j = q from if_pos rfl, show vf_upd os j o j = o from if_pos rfl]
      exact u0
    · rw [show vf_upd oa nO q j = oa j from if_neg w, show vf_upd os nO o j = os j from if_neg w]
      exact N (yO j (by omega)) (by intro q; simp at q) (by intro q; simp at q)
  · obtain ⟨r, r1, r2⟩ := yR j hj
    exact ⟨r, r1, N r2 (by intro q; simp at q) (by intro q; simp at q)⟩
  · by_cases wi : i = nO
    · by_cases wj : j = nO
      · omega
      · rw [show vf_upd oa nO q i = q from if_pos wi, show vf_upd oa nO q j = oa j from if_neg wj] at w
        exact absurd w.symm (nq j (by omega))
    · by_cases wj : j = nO
      · rw [show vf_upd oa nO q i = oa i from if_neg wi, show vf_upd oa nO q j = q from if_pos wj] at w
        exact absurd w (nq i (by omega))
      · rw [show vf_upd oa nO q i = oa i from if_neg wi, show vf_upd oa nO q j = oa j from if_neg wj] at w
        exact yn4 i j (by omega) (by omega) w

theorem Yh.glaze {tc : Nat → ClassId} {h h' : HM} {y0 cA gA pA oA pr ra re rw tr tw : Nat} {ca ga pa oa : Nat → Nat} {f : Nat → Option Nat} {hb : UInt64} {hbt : UInt64} {dmt : Int32} {kt : KT} {nC : Nat} {cs : Nat → Int32 × Int32} {nG : Nat} {gs : Nat → GT} {nP : Nat} {ps : Nat → PT} {nO : Nat} {os : Nat → OT} {nR : Nat} {rs : Nat → RT} {k : KT} {dmp : Int32} {day : Int32} {pur : Int32} {rf : Int32} (Y : Yh tc y0 cA gA pA oA pr ra re rw tr tw ca ga pa oa f hb hbt dmt kt nC cs nG gs nP ps nO os nR rs k dmp day pur rf h) {q : Nat} {g : GT} (hq : h q = none) (hPG : ∀ i, i < nP → ∀ g, (ps i).2.1 = some g → g < nG) (u0 : h' q = some (gC9 nG g)) (u1 : h' gA = some (qCell (tc 4) 4 (row9 (nG + 1) (vf_upd ga nG q)))) (u2 : h' y0 = some (yCell cA gA pA oA nC (nG + 1) nP nO pr re tr day pur rf)) (u : Fr [y0, gA] h h') : Yh tc y0 cA gA pA oA pr ra re rw tr tw ca (vf_upd ga nG q) pa oa f hb hbt dmt kt nC cs (nG + 1) (vf_upd gs nG g) nP ps nO os nR rs k dmp day pur rf h' := by
  obtain ⟨yy, yc, yg, yp, yo, ypr, yra, yre, yrw, ytr, ytw, yC, yG, yP, yO, yR, yn1, yn2, yn3, yn4⟩ := Y
  have N : ∀ {b : Nat} {z : va_E}, h b = some z → z ≠ yCell cA gA pA oA nC nG nP nO pr re tr day pur rf → z ≠ qCell (tc 4) 4 (row9 nG ga) → h' b = some z := fun hb1 n1 n2 => u _ _ (not2 (ne_of hb1 yy n1) (ne_of hb1 yg n2)) hb1
  have NA : ∀ {b : Nat} {cA9 : ClassId} {m : Nat} {f9 : Nat → Option Nat}, h b = some (qCell cA9 m f9) → b ≠ gA → h' b = some (qCell cA9 m f9) := fun hb1 n1 => u _ _ (not2 (ne_of hb1 yy (by intro q; simp at q)) n1) hb1
  have NE : ∀ {b : Nat} {cA9 : ClassId} {m : Nat} {f9 : Nat → Option Nat}, h b = some (qCell cA9 m f9) → m ≠ 4 → b ≠ gA := fun hb1 n1 => ne_of hb1 yg (by intro w; simp at w; exact n1 w.2.1)
  refine ⟨u2, NA yc (NE yc (by decide)), u1, NA yp (NE yp (by decide)), NA yo (NE yo (by decide)), N ypr (by intro q; simp at q) (by intro q; simp at q), NA yra (NE yra (by decide)), N yre (by intro q; simp at q) (by intro q; simp at q), N yrw (by intro q; simp at q) (by intro q; simp at q), N ytr (by intro q; simp at q) (by intro q; simp at q), N ytw (by intro q; simp at q) (by intro q; simp at q), fun j hj => N (yC j hj) (by intro q; simp at q) (by intro q; simp at q), fun j hj => ?_, fun j hj => ?_, fun j hj => N (yO j hj) (by intro q; simp at q) (by intro q; simp at q), fun j hj => ?_, yn1, yn2, yn3, yn4⟩
  · by_cases w : j = nG
    · subst w
      rw [show vf_upd ga j q j = q from if_pos rfl, show vf_upd gs j g j = g from if_pos rfl]
      exact u0
    · rw [show vf_upd ga nG q j = ga j from if_neg w, show vf_upd gs nG g j = gs j from if_neg w]
      exact N (yG j (by omega)) (by intro q; simp at q) (by intro q; simp at q)
  · have e : (ps j).2.1.map (vf_upd ga nG q) = (ps j).2.1.map ga := by
      cases hx : (ps j).2.1 with
      | none => rfl
      | some g9 =>
        have := hPG j hj g9 hx
        show some (vf_upd ga nG q g9) = some (ga g9)
        rw [show vf_upd ga nG q g9 = ga g9 from if_neg (by omega)]
    show h' (pa j) = some (potC _ (va_rf ((ps j).2.1.map (vf_upd ga nG q))) _)
    rw [e]
    exact N (yP j hj) (by intro q; simp at q) (by intro q; simp at q)
  · obtain ⟨r, r1, r2⟩ := yR j hj
    exact ⟨r, r1, N r2 (by intro q; simp at q) (by intro q; simp at q)⟩

-- none in p32: X7_order
