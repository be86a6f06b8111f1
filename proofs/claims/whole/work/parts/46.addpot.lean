/-! A POT MORE -/
theorem Yh.addpot {tc : Nat → ClassId} {h h' : HM} {y0 cA gA pA oA pr ra re rw tr tw : Nat} {ca ga pa oa : Nat → Nat} {f : Nat → Option Nat} {hb : UInt64} {hbt : UInt64} {dmt : Int32} {kt : KT} {nC : Nat} {cs : Nat → Int32 × Int32} {nG : Nat} {gs : Nat → GT} {nP : Nat} {ps : Nat → PT} {nO : Nat} {os : Nat → OT} {nR : Nat} {rs : Nat → RT} {k : KT} {dmp : Int32} {day : Int32} {pur : Int32} {rf : Int32} (Y : Yh tc y0 cA gA pA oA pr ra re rw tr tw ca ga pa oa f hb hbt dmt kt nC cs nG gs nP ps nO os nR rs k dmp day pur rf h) {q : Nat} {p : PT} (hq : h q = none) (u0 : h' q = some (pC9 ca ga p)) (u1 : h' pA = some (qCell (tc 6) 14 (row9 (nP + 1) (vf_upd pa nP q)))) (u2 : h' y0 = some (yCell cA gA pA oA nC nG (nP + 1) nO pr re tr day pur rf)) (u : Fr [y0, pA] h h') : Yh tc y0 cA gA pA oA pr ra re rw tr tw ca ga (vf_upd pa nP q) oa f hb hbt dmt kt nC cs nG gs (nP + 1) (vf_upd ps nP p) nO os nR rs k dmp day pur rf h' := by
  obtain ⟨yy, yc, yg, yp, yo, ypr, yra, yre, yrw, ytr, ytw, yC, yG, yP, yO, yR, yn1, yn2, yn3, yn4⟩ := Y
  have N : ∀ {b : Nat} {z : va_E}, h b = some z → z ≠ yCell cA gA pA oA nC nG nP nO pr re tr day pur rf → z ≠ qCell (tc 6) 14 (row9 nP pa) → h' b = some z := fun hb1 n1 n2 => u _ _ (not2 (ne_of hb1 yy n1) (ne_of hb1 yp n2)) hb1
  have NA : ∀ {b : Nat} {cA9 : ClassId} {m : Nat} {f9 : Nat → Option Nat}, h b = some (qCell cA9 m f9) → m ≠ 14 → h' b = some (qCell cA9 m f9) := fun hb1 n1 => u _ _ (not2 (ne_of hb1 yy (by intro q; simp at q)) (ne_of hb1 yp (by intro w; simp at w; exact n1 w.2.1))) hb1
  have nq : ∀ j, j < nP → pa j ≠ q := fun j hj w => by have := yP j hj; rw [w, hq] at this; cases this
  refine ⟨u2, NA yc (by decide), NA yg (by decide), u1, NA yo (by decide), N ypr (by intro q; simp at q) (by intro q; simp at q), NA yra (by decide), N yre (by intro q; simp at q) (by intro q; simp at q), N yrw (by intro q; simp at q) (by intro q; simp at q), N ytr (by intro q; simp at q) (by intro q; simp at q), N ytw (by intro q; simp at q) (by intro q; simp at q), fun j hj => N (yC j hj) (by intro q; simp at q) (by intro q; simp at q), fun j hj => N (yG j hj) (by intro q; simp at q) (by intro q; simp at q), fun j hj => ?_, fun j hj => N (yO j hj) (by intro q; simp at q) (by intro q; simp at q), fun j hj => ?_, yn1, yn2, fun i j hi hj w => ?_, yn4⟩
  · by_cases w : j = nP
    · subst w
      rw [show vf_upd pa j q j = q from if_pos rfl, show vf_upd ps j p j = p from if_pos rfl]
      exact u0
    · rw [show vf_upd pa nP q j = pa j from if_neg w, show vf_upd ps nP p j = ps j from if_neg w]
      exact N (yP j (by omega)) (by intro q; simp at q) (by intro q; simp at q)
  · obtain ⟨r, r1, r2⟩ := yR j hj
    exact ⟨r, r1, N r2 (by intro q; simp at q) (by intro q; simp at q)⟩
  · by_cases wi : i = nP
    · by_cases wj : j = nP
      · omega
      · rw [show vf_upd pa nP q i = q from if_pos wi, show vf_upd pa nP q j = pa j from if_neg wj] at w
        exact absurd w.symm (nq j (by omega))
    · by_cases wj : j = nP
      · rw [show vf_upd pa nP q i = pa i from if_neg wi, show vf_upd pa nP q j = q from if_pos wj] at w
        exact absurd w (nq i (by omega))
      · rw [show vf_upd pa nP q i = pa i from if_neg wi, show vf_upd pa nP q j = pa j from if_neg wj] at w
        exact yn3 i j (by omega) (by omega) w
