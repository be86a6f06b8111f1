/-! THE LAW'S ROADS -/
theorem dd_no1 {a z : UInt64} {G : Prop} (e : a = z) (h1 : ¬ FP.dcmp a z = some .eq) (h2 : Op.cmpValue (FP.dcmp a a) .l = 0) : G := by
  subst e
  exact absurd (cl_eq.mp h2) h1
theorem dd_no2 {a z : UInt64} {G : Prop} (e : a = z) (h1 : ¬ FP.dcmp a z = some .eq) (h2 : ¬ ¬ Op.cmpValue (FP.dcmp z z) .l = 0) : G := by
  subst e
  exact absurd (cl_eq.mp (Classical.not_not.mp h2)) h1

set_option maxHeartbeats 4000000 in
set_option maxRecDepth 100000 in
theorem lr_clay {K : KC} (C : CX K RL cL_law 9 room_1) (hl : (Kl K).stackTraces = false) (hN : NCs (Ks K)) {n : Nat × Nat} (n1 : n.1 + 1000 ≤ 757560) (n2 : n.2 + 5000 ≤ 6823425) {b L y0 m0 o3 o4 kl wk c : Nat} {xs : Nat → Int32} (X : LX K b L xs) {i : Int32} (v : ∀ k : Int32, 0 ≤ k.toInt → k.toInt ≤ 5 → vp_in (i + k) L) (hc5 : c ≤ 519) {h : HM} (J : LJ (Kt K) y0 m0 o3 o4 kl wk c h)
    (kk : ∀ (c' : Nat), c' ≤ c + 1 → ∀ h' : HM, LJ (Kt K) y0 m0 o3 o4 kl wk c' h' → WW K (n.1 + 1000, n.2 + 5000) 2002 [some (.ref b), some (.ref y0), some (.ref m0), some (.ref o3), some (.ref o4), some (.int i), none, none, none] [] h') : WW K n 176 [some (.ref b), some (.ref y0), some (.ref m0), some (.ref o3), some (.ref o4), some (.int i), none, none, none] [] h := by
  obtain ⟨hA, hB, hO, fL, fD, th, rfl, dAB, dAO, dBO, O, j9⟩ := J
  obtain ⟨fs1, hy⟩ := j9.y
  obtain ⟨fs2, hm⟩ := j9.m
  first | refine w_aload_n C dL_law_176 (by rfl) ?_ | refine w_aload_nN C dL_law_176 (by rfl) ?_
  first | refine w_aload_n C dL_law_177 (by rfl) ?_ | refine w_aload_nN C dL_law_177 (by rfl) ?_
  refine w_iload C dL_law_178 (by rfl) ?_
  refine w_iconst (v := 1) C dL_law_180 (by rfl) ?_
  refine w_iadd C dL_law_181 ?_
  refine w_sld C X (v 1 (by decide) (by decide)) dL_law_182 ?_
  first | refine w_aload_n C dL_law_183 (by rfl) ?_ | refine w_aload_nN C dL_law_183 (by rfl) ?_
  refine w_iload C dL_law_184 (by rfl) ?_
  refine w_iconst (v := 2) C dL_law_186 (by rfl) ?_
  refine w_iadd C dL_law_187 ?_
  refine w_sld C X (v 2 (by decide) (by decide)) dL_law_188 ?_
  first | refine w_aload_n C dL_law_189 (by rfl) ?_ | refine w_aload_nN C dL_law_189 (by rfl) ?_
  obtain ⟨p9, px9, q9, hM1, hM2, hcd, j1, j2⟩ := jt_clay (D := KD K) hl j9 (t := (xs (i + 1).toNatClampNeg)) (g := (xs (i + 2).toNatClampNeg))
  refine w_SWI C hN (m_L_clay hl (D2.mk9 dAB dAO) hy (hj_r O.1 (dBO _ _ O.1)) hM1 hcd) gw_518 gw_519 gw_50 gw_520 (by decide +kernel) (by rfl) ⟨by dsimp only [rm_L_clay, rm_X10_clay, rm_X10_thrown, room_1]; omega, by dsimp only [rm_L_clay, rm_X10_clay, rm_X10_thrown, room_1]; omega⟩ (by rfl) rfl dL_law_190 (fun k9 hw aw => ?_)
  obtain ⟨hA1, hO1, fL1, fD1, e1, dAB1, dAO1, dBO1, O1, aw⟩ := la_L (g := (fun v => v.toInt64)) dBO O aw
  subst e1
  refine w_istore_6 C dL_law_193 (by first | trivial | rfl) ?_
  first | refine w_aload_n C dL_law_195 (by rfl) ?_ | refine w_aload_nN C dL_law_195 (by rfl) ?_
  first | refine w_aload_n C dL_law_196 (by rfl) ?_ | refine w_aload_nN C dL_law_196 (by rfl) ?_
  refine w_iload C dL_law_197 (by rfl) ?_
  refine w_iconst (v := 1) C dL_law_199 (by rfl) ?_
  refine w_iadd C dL_law_200 ?_
  refine w_sld C X (v 1 (by decide) (by decide)) dL_law_201 ?_
  first | refine w_aload_n C dL_law_202 (by rfl) ?_ | refine w_aload_nN C dL_law_202 (by rfl) ?_
  refine w_iload C dL_law_203 (by rfl) ?_
  refine w_iconst (v := 2) C dL_law_205 (by rfl) ?_
  refine w_iadd C dL_law_206 ?_
  refine w_sld C X (v 2 (by decide) (by decide)) dL_law_207 ?_
  refine cl_L_109 C (CT.fBI dAB1 dAO1 dBO1 hM2) (hj_r (hj_l hm) (dAB1 _ _ hm)) (by rfl) (by rfl) ⟨by dsimp only [rm_L_clay, rm_X10_clay, rm_X10_thrown, room_1]; omega, by dsimp only [rm_L_clay, rm_X10_clay, rm_X10_thrown, room_1]; omega⟩ (by rfl) dL_law_208 (fun z2 h1 p1 => ?_)
  obtain ⟨hB1, hq, e1, dAB2, dBO2⟩ := p1
  subst e1
  obtain ⟨j9, e9⟩ := la_J (by decide +kernel) j1 j2 aw hq
  have e9 : k9 = 0 → fL1 0 = z2.toInt64 := e9
  obtain ⟨fs2, hm⟩ := j9.m
  refine w_istore_7 C dL_law_211 (by first | trivial | rfl) ?_
  first | refine w_aload_n C dL_law_213 (by rfl) ?_ | refine w_aload_nN C dL_law_213 (by rfl) ?_
  refine cl_L_110 C (CT.fBI dAB2 dAO1 dBO2 (jt_thrown hl j9)) (hj_r (hj_l hm) (dAB2 _ _ hm)) (by rfl) (by rfl) ⟨by dsimp only [rm_L_clay, rm_X10_clay, rm_X10_thrown, room_1]; omega, by dsimp only [rm_L_clay, rm_X10_clay, rm_X10_thrown, room_1]; omega⟩ (by rfl) dL_law_214 (fun z3 h2 p2 => ?_)
  obtain ⟨hB2, ⟨e1, e3⟩, e2, dAB3, dBO3⟩ := p2
  subst e1
  subst e2
  refine w_iload C dL_law_217 (by rfl) ?_
  refine w_icmp_eq (tgt := 224) C dL_law_219 (by rfl) (fun c_219 => ?_) (fun c_219 => ?_)
  · refine w_iload C dL_law_224 (by rfl) ?_
    refine w_if_ne (tgt := 241) C dL_law_226 (by rfl) (fun c_226 => ?_) (fun c_226 => ?_)
    · try simp only [cg_ge, cg_gt, cl_gt, cl_le, cl_eq, cl_lt, cl_ge, bi_eq0, bi_ne0, bI_eq0, Decidable.not_not, Bool.not_eq_false] at c_226
      refine w_goto (tgt := 2002) C dL_law_241 (by rfl) ?_
      exact w_sub (w_widen (kk (c + 1) (Nat.le_refl _) _ ⟨_, _, _, _, _, _, rfl, dAB3, dAO1, dBO3, O1, j9⟩) (by dsimp only [rm_L_clay, rm_X10_clay, rm_X10_thrown]; omega) (by dsimp only [rm_L_clay, rm_X10_clay, rm_X10_thrown]; omega)) (by repeat' first | exact trivial | rfl | constructor)
    · try simp only [cg_ge, cg_gt, cl_gt, cl_le, cl_eq, cl_lt, cl_ge, bi_eq0, bi_ne0, bI_eq0, Decidable.not_not, Bool.not_eq_false] at c_226
      first | refine w_aload_n C dL_law_229 (by rfl) ?_ | refine w_aload_nN C dL_law_229 (by rfl) ?_
      refine w_iconst (v := 0) C dL_law_230 (by rfl) ?_
      refine w_laldn (j := 0) C (hj_r (hj_r O1.1 (dBO3 _ _ O1.1)) (D2.mk9 dAB3 dAO1 _ _ (hj_r O1.1 (dBO3 _ _ O1.1)))) (by decide) (by decide) dL_law_231 ?_
      refine w_iload C dL_law_232 (by rfl) ?_
      refine w_i2l C dL_law_234 ?_
      refine w_lcmp C dL_law_235 ?_
      refine w_if_eq (tgt := 241) C dL_law_236 (by rfl) (fun c_236 => ?_) (fun c_236 => ?_)
      · try simp only [cg_ge, cg_gt, cl_gt, cl_le, cl_eq, cl_lt, cl_ge, bi_eq0, bi_ne0, bI_eq0, Decidable.not_not, Bool.not_eq_false] at c_236
        refine w_goto (tgt := 2002) C dL_law_241 (by rfl) ?_
        exact w_sub (w_widen (kk (c + 1) (Nat.le_refl _) _ ⟨_, _, _, _, _, _, rfl, dAB3, dAO1, dBO3, O1, j9⟩) (by dsimp only [rm_L_clay, rm_X10_clay, rm_X10_thrown]; omega) (by dsimp only [rm_L_clay, rm_X10_clay, rm_X10_thrown]; omega)) (by repeat' first | exact trivial | rfl | constructor)
      · exact absurd (by rw [e9 c_226]; exact lg_cmp_self _) c_236
  · exact absurd e3 c_219

set_option maxHeartbeats 4000000 in
set_option maxRecDepth 100000 in
theorem lr_cover {K : KC} (C : CX K RL cL_law 9 room_1) (hl : (Kl K).stackTraces = false) (hN : NCs (Ks K)) {n : Nat × Nat} (n1 : n.1 + 1000 ≤ 757560) (n2 : n.2 + 5000 ≤ 6823425) {b L y0 m0 o3 o4 kl wk c : Nat} {xs : Nat → Int32} (X : LX K b L xs) {i : Int32} (v : ∀ k : Int32, 0 ≤ k.toInt → k.toInt ≤ 5 → vp_in (i + k) L) (hc5 : c ≤ 519) {h : HM} (J : LJ (Kt K) y0 m0 o3 o4 kl wk c h)
    (kk : ∀ (c' : Nat), c' ≤ c + 1 → ∀ h' : HM, LJ (Kt K) y0 m0 o3 o4 kl wk c' h' → WW K (n.1 + 1000, n.2 + 5000) 2002 [some (.ref b), some (.ref y0), some (.ref m0), some (.ref o3), some (.ref o4), some (.int i), none, none, none] [] h') : WW K n 440 [some (.ref b), some (.ref y0), some (.ref m0), some (.ref o3), some (.ref o4), some (.int i), none, none, none] [] h := by
  obtain ⟨hA, hB, hO, fL, fD, th, rfl, dAB, dAO, dBO, O, j9⟩ := J
  obtain ⟨fs1, hy⟩ := j9.y
  obtain ⟨fs2, hm⟩ := j9.m
  first | refine w_aload_n C dL_law_440 (by rfl) ?_ | refine w_aload_nN C dL_law_440 (by rfl) ?_
  first | refine w_aload_n C dL_law_441 (by rfl) ?_ | refine w_aload_nN C dL_law_441 (by rfl) ?_
  refine w_iload C dL_law_442 (by rfl) ?_
  refine w_iconst (v := 1) C dL_law_444 (by rfl) ?_
  refine w_iadd C dL_law_445 ?_
  refine w_sld C X (v 1 (by decide) (by decide)) dL_law_446 ?_
  first | refine w_aload_n C dL_law_447 (by rfl) ?_ | refine w_aload_nN C dL_law_447 (by rfl) ?_
  refine w_iload C dL_law_448 (by rfl) ?_
  refine w_iconst (v := 2) C dL_law_450 (by rfl) ?_
  refine w_iadd C dL_law_451 ?_
  refine w_sld C X (v 2 (by decide) (by decide)) dL_law_452 ?_
  refine w_if_eq (tgt := 460) C dL_law_453 (by rfl) (fun c_453 => ?_) (fun c_453 => ?_)
  · try simp only [cg_ge, cg_gt, cl_gt, cl_le, cl_eq, cl_lt, cl_ge, bi_eq0, bi_ne0, bI_eq0, Decidable.not_not, Bool.not_eq_false] at c_453
    refine w_iconst (v := 0) C dL_law_460 (by rfl) ?_
    first | refine w_aload_n C dL_law_461 (by rfl) ?_ | refine w_aload_nN C dL_law_461 (by rfl) ?_
    obtain ⟨p9, px9, q9, hM1, hM2, hcd, j1, j2⟩ := jt_cover (D := KD K) hl j9 (i := (xs (i + 1).toNatClampNeg)) (b := false)
    refine w_SWI C hN (m_L_cover hl (D2.mk9 dAB dAO) hy (hj_r O.1 (dBO _ _ O.1)) hM1 hcd) gw_681 gw_682 gw_50 gw_683 (by decide +kernel) (by rfl) ⟨by dsimp only [rm_L_cover, rm_X10_cover, rm_X10_thrown, room_1]; omega, by dsimp only [rm_L_cover, rm_X10_cover, rm_X10_thrown, room_1]; omega⟩ (by rfl) rfl dL_law_462 (fun k9 hw aw => ?_)
    obtain ⟨hA1, hO1, fL1, fD1, e1, dAB1, dAO1, dBO1, O1, aw⟩ := la_L (g := (fun v => if v = 0 then 0 else 1)) dBO O aw
    subst e1
    refine w_istore_6 C dL_law_465 (by first | trivial | rfl) ?_
    first | refine w_aload_n C dL_law_467 (by rfl) ?_ | refine w_aload_nN C dL_law_467 (by rfl) ?_
    first | refine w_aload_n C dL_law_468 (by rfl) ?_ | refine w_aload_nN C dL_law_468 (by rfl) ?_
    refine w_iload C dL_law_469 (by rfl) ?_
    refine w_iconst (v := 1) C dL_law_471 (by rfl) ?_
    refine w_iadd C dL_law_472 ?_
    refine w_sld C X (v 1 (by decide) (by decide)) dL_law_473 ?_
    first | refine w_aload_n C dL_law_474 (by rfl) ?_ | refine w_aload_nN C dL_law_474 (by rfl) ?_
    refine w_iload C dL_law_475 (by rfl) ?_
    refine w_iconst (v := 2) C dL_law_477 (by rfl) ?_
    refine w_iadd C dL_law_478 ?_
    refine w_sld C X (v 2 (by decide) (by decide)) dL_law_479 ?_
    refine w_if_eq (tgt := 487) C dL_law_480 (by rfl) (fun c_480 => ?_) (fun c_480 => ?_)
    · try simp only [cg_ge, cg_gt, cl_gt, cl_le, cl_eq, cl_lt, cl_ge, bi_eq0, bi_ne0, bI_eq0, Decidable.not_not, Bool.not_eq_false] at c_480
      refine w_iconst (v := 0) C dL_law_487 (by rfl) ?_
      refine cl_L_124 C (CT.fBI dAB1 dAO1 dBO1 hM2) (hj_r (hj_l hm) (dAB1 _ _ hm)) (by rfl) (by rfl) ⟨by dsimp only [rm_L_cover, rm_X10_cover, rm_X10_thrown, room_1]; omega, by dsimp only [rm_L_cover, rm_X10_cover, rm_X10_thrown, room_1]; omega⟩ (by rfl) dL_law_488 (fun z2 h1 p1 => ?_)
      obtain ⟨hB1, hq, e1, dAB2, dBO2⟩ := p1
      subst e1
      obtain ⟨j9, e9⟩ := la_J (by decide +kernel) j1 j2 aw hq
      have e9 : k9 = 0 → fL1 0 = if z2 = 0 then 0 else 1 := e9
      obtain ⟨fs2, hm⟩ := j9.m
      refine w_istore_7 C dL_law_491 (by first | trivial | rfl) ?_
      first | refine w_aload_n C dL_law_493 (by rfl) ?_ | refine w_aload_nN C dL_law_493 (by rfl) ?_
      refine cl_L_110 C (CT.fBI dAB2 dAO1 dBO2 (jt_thrown hl j9)) (hj_r (hj_l hm) (dAB2 _ _ hm)) (by rfl) (by rfl) ⟨by dsimp only [rm_L_cover, rm_X10_cover, rm_X10_thrown, room_1]; omega, by dsimp only [rm_L_cover, rm_X10_cover, rm_X10_thrown, room_1]; omega⟩ (by rfl) dL_law_494 (fun z3 h2 p2 => ?_)
      obtain ⟨hB2, ⟨e1, e3⟩, e2, dAB3, dBO3⟩ := p2
      subst e1
      subst e2
      refine w_iload C dL_law_497 (by rfl) ?_
      refine w_icmp_eq (tgt := 504) C dL_law_499 (by rfl) (fun c_499 => ?_) (fun c_499 => ?_)
      · refine w_iload C dL_law_504 (by rfl) ?_
        refine w_if_ne (tgt := 528) C dL_law_506 (by rfl) (fun c_506 => ?_) (fun c_506 => ?_)
        · try simp only [cg_ge, cg_gt, cl_gt, cl_le, cl_eq, cl_lt, cl_ge, bi_eq0, bi_ne0, bI_eq0, Decidable.not_not, Bool.not_eq_false] at c_506
          refine w_goto (tgt := 2002) C dL_law_528 (by rfl) ?_
          exact w_sub (w_widen (kk (c + 1) (Nat.le_refl _) _ ⟨_, _, _, _, _, _, rfl, dAB3, dAO1, dBO3, O1, j9⟩) (by dsimp only [rm_L_cover, rm_X10_cover, rm_X10_thrown]; omega) (by dsimp only [rm_L_cover, rm_X10_cover, rm_X10_thrown]; omega)) (by repeat' first | exact trivial | rfl | constructor)
        · try simp only [cg_ge, cg_gt, cl_gt, cl_le, cl_eq, cl_lt, cl_ge, bi_eq0, bi_ne0, bI_eq0, Decidable.not_not, Bool.not_eq_false] at c_506
          first | refine w_aload_n C dL_law_509 (by rfl) ?_ | refine w_aload_nN C dL_law_509 (by rfl) ?_
          refine w_iconst (v := 0) C dL_law_510 (by rfl) ?_
          refine w_laldn (j := 0) C (hj_r (hj_r O1.1 (dBO3 _ _ O1.1)) (D2.mk9 dAB3 dAO1 _ _ (hj_r O1.1 (dBO3 _ _ O1.1)))) (by decide) (by decide) dL_law_511 ?_
          refine w_iload C dL_law_512 (by rfl) ?_
          refine w_if_eq (tgt := 521) C dL_law_514 (by rfl) (fun c_514 => ?_) (fun c_514 => ?_)
          · try simp only [cg_ge, cg_gt, cl_gt, cl_le, cl_eq, cl_lt, cl_ge, bi_eq0, bi_ne0, bI_eq0, Decidable.not_not, Bool.not_eq_false] at c_514
            refine w_lconst (v := 0) C dL_law_521 (by rfl) ?_
            refine w_lcmp C dL_law_522 ?_
            refine w_if_eq (tgt := 528) C dL_law_523 (by rfl) (fun c_523 => ?_) (fun c_523 => ?_)
            · try simp only [cg_ge, cg_gt, cl_gt, cl_le, cl_eq, cl_lt, cl_ge, bi_eq0, bi_ne0, bI_eq0, Decidable.not_not, Bool.not_eq_false] at c_523
              refine w_goto (tgt := 2002) C dL_law_528 (by rfl) ?_
              exact w_sub (w_widen (kk (c + 1) (Nat.le_refl _) _ ⟨_, _, _, _, _, _, rfl, dAB3, dAO1, dBO3, O1, j9⟩) (by dsimp only [rm_L_cover, rm_X10_cover, rm_X10_thrown]; omega) (by dsimp only [rm_L_cover, rm_X10_cover, rm_X10_thrown]; omega)) (by repeat' first | exact trivial | rfl | constructor)
            · exact absurd (by rw [e9 c_506, if_pos c_514]; exact lg_cmp_self _) c_523
          · try simp only [cg_ge, cg_gt, cl_gt, cl_le, cl_eq, cl_lt, cl_ge, bi_eq0, bi_ne0, bI_eq0, Decidable.not_not, Bool.not_eq_false] at c_514
            refine w_lconst (v := 1) C dL_law_517 (by rfl) ?_
            refine w_goto (tgt := 522) C dL_law_518 (by rfl) ?_
            refine w_lcmp C dL_law_522 ?_
            refine w_if_eq (tgt := 528) C dL_law_523 (by rfl) (fun c_523 => ?_) (fun c_523 => ?_)
            · try simp only [cg_ge, cg_gt, cl_gt, cl_le, cl_eq, cl_lt, cl_ge, bi_eq0, bi_ne0, bI_eq0, Decidable.not_not, Bool.not_eq_false] at c_523
              refine w_goto (tgt := 2002) C dL_law_528 (by rfl) ?_
              exact w_sub (w_widen (kk (c + 1) (Nat.le_refl _) _ ⟨_, _, _, _, _, _, rfl, dAB3, dAO1, dBO3, O1, j9⟩) (by dsimp only [rm_L_cover, rm_X10_cover, rm_X10_thrown]; omega) (by dsimp only [rm_L_cover, rm_X10_cover, rm_X10_thrown]; omega)) (by repeat' first | exact trivial | rfl | constructor)
            · exact absurd (by rw [e9 c_506, if_neg c_514]; exact lg_cmp_self _) c_523
      · exact absurd e3 c_499
    · exact absurd c_453 c_480
  · try simp only [cg_ge, cg_gt, cl_gt, cl_le, cl_eq, cl_lt, cl_ge, bi_eq0, bi_ne0, bI_eq0, Decidable.not_not, Bool.not_eq_false] at c_453
    refine w_iconst (v := 1) C dL_law_456 (by rfl) ?_
    refine w_goto (tgt := 461) C dL_law_457 (by rfl) ?_
    first | refine w_aload_n C dL_law_461 (by rfl) ?_ | refine w_aload_nN C dL_law_461 (by rfl) ?_
    obtain ⟨p9, px9, q9, hM1, hM2, hcd, j1, j2⟩ := jt_cover (D := KD K) hl j9 (i := (xs (i + 1).toNatClampNeg)) (b := true)
    refine w_SWI C hN (m_L_cover hl (D2.mk9 dAB dAO) hy (hj_r O.1 (dBO _ _ O.1)) hM1 hcd) gw_681 gw_682 gw_50 gw_683 (by decide +kernel) (by rfl) ⟨by dsimp only [rm_L_cover, rm_X10_cover, rm_X10_thrown, room_1]; omega, by dsimp only [rm_L_cover, rm_X10_cover, rm_X10_thrown, room_1]; omega⟩ (by rfl) rfl dL_law_462 (fun k9 hw aw => ?_)
    obtain ⟨hA1, hO1, fL1, fD1, e1, dAB1, dAO1, dBO1, O1, aw⟩ := la_L (g := (fun v => if v = 0 then 0 else 1)) dBO O aw
    subst e1
    refine w_istore_6 C dL_law_465 (by first | trivial | rfl) ?_
    first | refine w_aload_n C dL_law_467 (by rfl) ?_ | refine w_aload_nN C dL_law_467 (by rfl) ?_
    first | refine w_aload_n C dL_law_468 (by rfl) ?_ | refine w_aload_nN C dL_law_468 (by rfl) ?_
    refine w_iload C dL_law_469 (by rfl) ?_
    refine w_iconst (v := 1) C dL_law_471 (by rfl) ?_
    refine w_iadd C dL_law_472 ?_
    refine w_sld C X (v 1 (by decide) (by decide)) dL_law_473 ?_
    first | refine w_aload_n C dL_law_474 (by rfl) ?_ | refine w_aload_nN C dL_law_474 (by rfl) ?_
    refine w_iload C dL_law_475 (by rfl) ?_
    refine w_iconst (v := 2) C dL_law_477 (by rfl) ?_
    refine w_iadd C dL_law_478 ?_
    refine w_sld C X (v 2 (by decide) (by decide)) dL_law_479 ?_
    refine w_if_eq (tgt := 487) C dL_law_480 (by rfl) (fun c_480 => ?_) (fun c_480 => ?_)
    · exact absurd c_480 c_453
    · try simp only [cg_ge, cg_gt, cl_gt, cl_le, cl_eq, cl_lt, cl_ge, bi_eq0, bi_ne0, bI_eq0, Decidable.not_not, Bool.not_eq_false] at c_480
      refine w_iconst (v := 1) C dL_law_483 (by rfl) ?_
      refine w_goto (tgt := 488) C dL_law_484 (by rfl) ?_
      refine cl_L_124 C (CT.fBI dAB1 dAO1 dBO1 hM2) (hj_r (hj_l hm) (dAB1 _ _ hm)) (by rfl) (by rfl) ⟨by dsimp only [rm_L_cover, rm_X10_cover, rm_X10_thrown, room_1]; omega, by dsimp only [rm_L_cover, rm_X10_cover, rm_X10_thrown, room_1]; omega⟩ (by rfl) dL_law_488 (fun z2 h3 p3 => ?_)
      obtain ⟨hB1, hq, e1, dAB2, dBO2⟩ := p3
      subst e1
      obtain ⟨j9, e9⟩ := la_J (by decide +kernel) j1 j2 aw hq
      have e9 : k9 = 0 → fL1 0 = if z2 = 0 then 0 else 1 := e9
      obtain ⟨fs2, hm⟩ := j9.m
      refine w_istore_7 C dL_law_491 (by first | trivial | rfl) ?_
      first | refine w_aload_n C dL_law_493 (by rfl) ?_ | refine w_aload_nN C dL_law_493 (by rfl) ?_
      refine cl_L_110 C (CT.fBI dAB2 dAO1 dBO2 (jt_thrown hl j9)) (hj_r (hj_l hm) (dAB2 _ _ hm)) (by rfl) (by rfl) ⟨by dsimp only [rm_L_cover, rm_X10_cover, rm_X10_thrown, room_1]; omega, by dsimp only [rm_L_cover, rm_X10_cover, rm_X10_thrown, room_1]; omega⟩ (by rfl) dL_law_494 (fun z3 h4 p4 => ?_)
      obtain ⟨hB2, ⟨e1, e3⟩, e2, dAB3, dBO3⟩ := p4
      subst e1
      subst e2
      refine w_iload C dL_law_497 (by rfl) ?_
      refine w_icmp_eq (tgt := 504) C dL_law_499 (by rfl) (fun c_499 => ?_) (fun c_499 => ?_)
      · refine w_iload C dL_law_504 (by rfl) ?_
        refine w_if_ne (tgt := 528) C dL_law_506 (by rfl) (fun c_506 => ?_) (fun c_506 => ?_)
        · try simp only [cg_ge, cg_gt, cl_gt, cl_le, cl_eq, cl_lt, cl_ge, bi_eq0, bi_ne0, bI_eq0, Decidable.not_not, Bool.not_eq_false] at c_506
          refine w_goto (tgt := 2002) C dL_law_528 (by rfl) ?_
          exact w_sub (w_widen (kk (c + 1) (Nat.le_refl _) _ ⟨_, _, _, _, _, _, rfl, dAB3, dAO1, dBO3, O1, j9⟩) (by dsimp only [rm_L_cover, rm_X10_cover, rm_X10_thrown]; omega) (by dsimp only [rm_L_cover, rm_X10_cover, rm_X10_thrown]; omega)) (by repeat' first | exact trivial | rfl | constructor)
        · try simp only [cg_ge, cg_gt, cl_gt, cl_le, cl_eq, cl_lt, cl_ge, bi_eq0, bi_ne0, bI_eq0, Decidable.not_not, Bool.not_eq_false] at c_506
          first | refine w_aload_n C dL_law_509 (by rfl) ?_ | refine w_aload_nN C dL_law_509 (by rfl) ?_
          refine w_iconst (v := 0) C dL_law_510 (by rfl) ?_
          refine w_laldn (j := 0) C (hj_r (hj_r O1.1 (dBO3 _ _ O1.1)) (D2.mk9 dAB3 dAO1 _ _ (hj_r O1.1 (dBO3 _ _ O1.1)))) (by decide) (by decide) dL_law_511 ?_
          refine w_iload C dL_law_512 (by rfl) ?_
          refine w_if_eq (tgt := 521) C dL_law_514 (by rfl) (fun c_514 => ?_) (fun c_514 => ?_)
          · try simp only [cg_ge, cg_gt, cl_gt, cl_le, cl_eq, cl_lt, cl_ge, bi_eq0, bi_ne0, bI_eq0, Decidable.not_not, Bool.not_eq_false] at c_514
            refine w_lconst (v := 0) C dL_law_521 (by rfl) ?_
            refine w_lcmp C dL_law_522 ?_
            refine w_if_eq (tgt := 528) C dL_law_523 (by rfl) (fun c_523 => ?_) (fun c_523 => ?_)
            · try simp only [cg_ge, cg_gt, cl_gt, cl_le, cl_eq, cl_lt, cl_ge, bi_eq0, bi_ne0, bI_eq0, Decidable.not_not, Bool.not_eq_false] at c_523
              refine w_goto (tgt := 2002) C dL_law_528 (by rfl) ?_
              exact w_sub (w_widen (kk (c + 1) (Nat.le_refl _) _ ⟨_, _, _, _, _, _, rfl, dAB3, dAO1, dBO3, O1, j9⟩) (by dsimp only [rm_L_cover, rm_X10_cover, rm_X10_thrown]; omega) (by dsimp only [rm_L_cover, rm_X10_cover, rm_X10_thrown]; omega)) (by repeat' first | exact trivial | rfl | constructor)
            · exact absurd (by rw [e9 c_506, if_pos c_514]; exact lg_cmp_self _) c_523
          · try simp only [cg_ge, cg_gt, cl_gt, cl_le, cl_eq, cl_lt, cl_ge, bi_eq0, bi_ne0, bI_eq0, Decidable.not_not, Bool.not_eq_false] at c_514
            refine w_lconst (v := 1) C dL_law_517 (by rfl) ?_
            refine w_goto (tgt := 522) C dL_law_518 (by rfl) ?_
            refine w_lcmp C dL_law_522 ?_
            refine w_if_eq (tgt := 528) C dL_law_523 (by rfl) (fun c_523 => ?_) (fun c_523 => ?_)
            · try simp only [cg_ge, cg_gt, cl_gt, cl_le, cl_eq, cl_lt, cl_ge, bi_eq0, bi_ne0, bI_eq0, Decidable.not_not, Bool.not_eq_false] at c_523
              refine w_goto (tgt := 2002) C dL_law_528 (by rfl) ?_
              exact w_sub (w_widen (kk (c + 1) (Nat.le_refl _) _ ⟨_, _, _, _, _, _, rfl, dAB3, dAO1, dBO3, O1, j9⟩) (by dsimp only [rm_L_cover, rm_X10_cover, rm_X10_thrown]; omega) (by dsimp only [rm_L_cover, rm_X10_cover, rm_X10_thrown]; omega)) (by repeat' first | exact trivial | rfl | constructor)
            · exact absurd (by rw [e9 c_506, if_neg c_514]; exact lg_cmp_self _) c_523
      · exact absurd e3 c_499

set_option maxHeartbeats 4000000 in
set_option maxRecDepth 100000 in
theorem lr_door {K : KC} (C : CX K RL cL_law 9 room_1) (hl : (Kl K).stackTraces = false) (hN : NCs (Ks K)) {n : Nat × Nat} (n1 : n.1 + 1000 ≤ 757560) (n2 : n.2 + 5000 ≤ 6823425) {b L y0 m0 o3 o4 kl wk c : Nat} {xs : Nat → Int32} (X : LX K b L xs) {i : Int32} (v : ∀ k : Int32, 0 ≤ k.toInt → k.toInt ≤ 5 → vp_in (i + k) L) (hc5 : c ≤ 519) {h : HM} (J : LJ (Kt K) y0 m0 o3 o4 kl wk c h)
    (kk : ∀ (c' : Nat), c' ≤ c + 1 → ∀ h' : HM, LJ (Kt K) y0 m0 o3 o4 kl wk c' h' → WW K (n.1 + 1000, n.2 + 5000) 2002 [some (.ref b), some (.ref y0), some (.ref m0), some (.ref o3), some (.ref o4), some (.int i), none, none, none] [] h') : WW K n 1090 [some (.ref b), some (.ref y0), some (.ref m0), some (.ref o3), some (.ref o4), some (.int i), none, none, none] [] h := by
  obtain ⟨hA, hB, hO, fL, fD, th, rfl, dAB, dAO, dBO, O, j9⟩ := J
  obtain ⟨fs1, hy⟩ := j9.y
  obtain ⟨fs2, hm⟩ := j9.m
  first | refine w_aload_n C dL_law_1090 (by rfl) ?_ | refine w_aload_nN C dL_law_1090 (by rfl) ?_
  first | refine w_aload_n C dL_law_1091 (by rfl) ?_ | refine w_aload_nN C dL_law_1091 (by rfl) ?_
  refine w_iload C dL_law_1092 (by rfl) ?_
  refine w_iconst (v := 1) C dL_law_1094 (by rfl) ?_
  refine w_iadd C dL_law_1095 ?_
  refine w_sld C X (v 1 (by decide) (by decide)) dL_law_1096 ?_
  refine w_if_eq (tgt := 1104) C dL_law_1097 (by rfl) (fun c_1097 => ?_) (fun c_1097 => ?_)
  · try simp only [cg_ge, cg_gt, cl_gt, cl_le, cl_eq, cl_lt, cl_ge, bi_eq0, bi_ne0, bI_eq0, Decidable.not_not, Bool.not_eq_false] at c_1097
    refine w_iconst (v := 0) C dL_law_1104 (by rfl) ?_
    obtain ⟨p9, q9, hM1, hM2, j1⟩ := jt_door (D := KD K) hl j9 (b := false)
    refine cl_L_155 C (CT.fAI (D2.mk9 dAB dAO) hM1) (hj_l hy) (by rfl) (by rfl) ⟨by dsimp only [rm_X7_door, rm_X10_door, room_1]; omega, by dsimp only [rm_X7_door, rm_X10_door, room_1]; omega⟩ (by rfl) dL_law_1105 (fun z1 h1 p1 => ?_)
    obtain ⟨hA1, hp, e1, d1⟩ := p1
    subst e1
    have dAB3 := D2.l d1
    have dAO1 := D2.r d1 dBO
    first | refine w_aload_n C dL_law_1108 (by rfl) ?_ | refine w_aload_nN C dL_law_1108 (by rfl) ?_
    first | refine w_aload_n C dL_law_1109 (by rfl) ?_ | refine w_aload_nN C dL_law_1109 (by rfl) ?_
    refine w_iload C dL_law_1110 (by rfl) ?_
    refine w_iconst (v := 1) C dL_law_1112 (by rfl) ?_
    refine w_iadd C dL_law_1113 ?_
    refine w_sld C X (v 1 (by decide) (by decide)) dL_law_1114 ?_
    refine w_if_eq (tgt := 1122) C dL_law_1115 (by rfl) (fun c_1115 => ?_) (fun c_1115 => ?_)
    · try simp only [cg_ge, cg_gt, cl_gt, cl_le, cl_eq, cl_lt, cl_ge, bi_eq0, bi_ne0, bI_eq0, Decidable.not_not, Bool.not_eq_false] at c_1115
      refine w_iconst (v := 0) C dL_law_1122 (by rfl) ?_
      refine cl_L_159 C (CT.fBI dAB3 dAO1 dBO hM2) (hj_r (hj_l hm) (dAB3 _ _ hm)) (by rfl) (by rfl) ⟨by dsimp only [rm_X7_door, rm_X10_door, room_1]; omega, by dsimp only [rm_X7_door, rm_X10_door, room_1]; omega⟩ (by rfl) dL_law_1123 (fun z2 h2 p2 => ?_)
      obtain ⟨hB1, hq, e1, dAB2, dBO2⟩ := p2
      subst e1
      obtain ⟨e9, j9⟩ := j1 _ _ hp _ _ hq
      refine w_icmp_eq (tgt := 2002) C dL_law_1126 (by rfl) (fun c_1126 => ?_) (fun c_1126 => ?_)
      · exact w_sub (w_widen (kk (c + 1) (Nat.le_refl _) _ ⟨_, _, _, _, _, _, rfl, dAB2, dAO1, dBO2, O, j9⟩) (by dsimp only [rm_X7_door, rm_X10_door]; omega) (by dsimp only [rm_X7_door, rm_X10_door]; omega)) (by repeat' first | exact trivial | rfl | constructor)
      · exact absurd e9.symm c_1126
    · exact absurd c_1097 c_1115
  · try simp only [cg_ge, cg_gt, cl_gt, cl_le, cl_eq, cl_lt, cl_ge, bi_eq0, bi_ne0, bI_eq0, Decidable.not_not, Bool.not_eq_false] at c_1097
    refine w_iconst (v := 1) C dL_law_1100 (by rfl) ?_
    refine w_goto (tgt := 1105) C dL_law_1101 (by rfl) ?_
    obtain ⟨p9, q9, hM1, hM2, j1⟩ := jt_door (D := KD K) hl j9 (b := true)
    refine cl_L_155 C (CT.fAI (D2.mk9 dAB dAO) hM1) (hj_l hy) (by rfl) (by rfl) ⟨by dsimp only [rm_X7_door, rm_X10_door, room_1]; omega, by dsimp only [rm_X7_door, rm_X10_door, room_1]; omega⟩ (by rfl) dL_law_1105 (fun z1 h3 p3 => ?_)
    obtain ⟨hA1, hp, e1, d1⟩ := p3
    subst e1
    have dAB3 := D2.l d1
    have dAO1 := D2.r d1 dBO
    first | refine w_aload_n C dL_law_1108 (by rfl) ?_ | refine w_aload_nN C dL_law_1108 (by rfl) ?_
    first | refine w_aload_n C dL_law_1109 (by rfl) ?_ | refine w_aload_nN C dL_law_1109 (by rfl) ?_
    refine w_iload C dL_law_1110 (by rfl) ?_
    refine w_iconst (v := 1) C dL_law_1112 (by rfl) ?_
    refine w_iadd C dL_law_1113 ?_
    refine w_sld C X (v 1 (by decide) (by decide)) dL_law_1114 ?_
    refine w_if_eq (tgt := 1122) C dL_law_1115 (by rfl) (fun c_1115 => ?_) (fun c_1115 => ?_)
    · exact absurd c_1115 c_1097
    · try simp only [cg_ge, cg_gt, cl_gt, cl_le, cl_eq, cl_lt, cl_ge, bi_eq0, bi_ne0, bI_eq0, Decidable.not_not, Bool.not_eq_false] at c_1115
      refine w_iconst (v := 1) C dL_law_1118 (by rfl) ?_
      refine w_goto (tgt := 1123) C dL_law_1119 (by rfl) ?_
      refine cl_L_159 C (CT.fBI dAB3 dAO1 dBO hM2) (hj_r (hj_l hm) (dAB3 _ _ hm)) (by rfl) (by rfl) ⟨by dsimp only [rm_X7_door, rm_X10_door, room_1]; omega, by dsimp only [rm_X7_door, rm_X10_door, room_1]; omega⟩ (by rfl) dL_law_1123 (fun z2 h4 p4 => ?_)
      obtain ⟨hB1, hq, e1, dAB2, dBO2⟩ := p4
      subst e1
      obtain ⟨e9, j9⟩ := j1 _ _ hp _ _ hq
      refine w_icmp_eq (tgt := 2002) C dL_law_1126 (by rfl) (fun c_1126 => ?_) (fun c_1126 => ?_)
      · exact w_sub (w_widen (kk (c + 1) (Nat.le_refl _) _ ⟨_, _, _, _, _, _, rfl, dAB2, dAO1, dBO2, O, j9⟩) (by dsimp only [rm_X7_door, rm_X10_door]; omega) (by dsimp only [rm_X7_door, rm_X10_door]; omega)) (by repeat' first | exact trivial | rfl | constructor)
      · exact absurd e9.symm c_1126

set_option maxHeartbeats 4000000 in
set_option maxRecDepth 100000 in
theorem lr_water {K : KC} (C : CX K RL cL_law 9 room_1) (hl : (Kl K).stackTraces = false) (hN : NCs (Ks K)) {n : Nat × Nat} (n1 : n.1 + 1000 ≤ 757560) (n2 : n.2 + 5000 ≤ 6823425) {b L y0 m0 o3 o4 kl wk c : Nat} {xs : Nat → Int32} (X : LX K b L xs) {i : Int32} (v : ∀ k : Int32, 0 ≤ k.toInt → k.toInt ≤ 5 → vp_in (i + k) L) (hc5 : c ≤ 519) {h : HM} (J : LJ (Kt K) y0 m0 o3 o4 kl wk c h)
    (kk : ∀ (c' : Nat), c' ≤ c + 1 → ∀ h' : HM, LJ (Kt K) y0 m0 o3 o4 kl wk c' h' → WW K (n.1 + 1000, n.2 + 5000) 2002 [some (.ref b), some (.ref y0), some (.ref m0), some (.ref o3), some (.ref o4), some (.int i), none, none, none] [] h') : WW K n 1416 [some (.ref b), some (.ref y0), some (.ref m0), some (.ref o3), some (.ref o4), some (.int i), none, none, none] [] h := by
  obtain ⟨hA, hB, hO, fL, fD, th, rfl, dAB, dAO, dBO, O, j9⟩ := J
  obtain ⟨fs1, hy⟩ := j9.y
  obtain ⟨fs2, hm⟩ := j9.m
  first | refine w_aload_n C dL_law_1416 (by rfl) ?_ | refine w_aload_nN C dL_law_1416 (by rfl) ?_
  first | refine w_aload_n C dL_law_1417 (by rfl) ?_ | refine w_aload_nN C dL_law_1417 (by rfl) ?_
  refine w_iload C dL_law_1418 (by rfl) ?_
  refine w_iconst (v := 1) C dL_law_1420 (by rfl) ?_
  refine w_iadd C dL_law_1421 ?_
  refine w_sld C X (v 1 (by decide) (by decide)) dL_law_1422 ?_
  first | refine w_aload C dL_law_1423 (by rfl) ?_ | refine w_aloadN C dL_law_1423 (by rfl) ?_
  obtain ⟨p9, px9, q9, hM1, hM2, hcd, j1, j2⟩ := jt_water (D := KD K) hl j9 (i := (xs (i + 1).toNatClampNeg))
  refine w_SWI C hN (m_L_water hl (D2.mk9 dAB dAO) hy (hj_r O.2 (dBO _ _ O.2)) hM1 hcd) gw_896 gw_897 gw_50 gw_898 (by decide +kernel) (by rfl) ⟨by dsimp only [rm_L_water, rm_X10_water, rm_X10_thrown, room_1]; omega, by dsimp only [rm_L_water, rm_X10_water, rm_X10_thrown, room_1]; omega⟩ (by rfl) rfl dL_law_1425 (fun k9 hw aw => ?_)
  obtain ⟨hA1, hO1, fL1, fD1, e1, dAB1, dAO1, dBO1, O1, aw⟩ := la_D dBO O aw
  subst e1
  refine w_istore_6 C dL_law_1428 (by first | trivial | rfl) ?_
  first | refine w_aload_n C dL_law_1430 (by rfl) ?_ | refine w_aload_nN C dL_law_1430 (by rfl) ?_
  first | refine w_aload_n C dL_law_1431 (by rfl) ?_ | refine w_aload_nN C dL_law_1431 (by rfl) ?_
  refine w_iload C dL_law_1432 (by rfl) ?_
  refine w_iconst (v := 1) C dL_law_1434 (by rfl) ?_
  refine w_iadd C dL_law_1435 ?_
  refine w_sld C X (v 1 (by decide) (by decide)) dL_law_1436 ?_
  refine cl_L_179 C (CT.fBD dAB1 dAO1 dBO1 hM2) (hj_r (hj_l hm) (dAB1 _ _ hm)) (by rfl) (by rfl) ⟨by dsimp only [rm_L_water, rm_X10_water, rm_X10_thrown, room_1]; omega, by dsimp only [rm_L_water, rm_X10_water, rm_X10_thrown, room_1]; omega⟩ (by rfl) dL_law_1437 (fun z2 h1 p1 => ?_)
  obtain ⟨hB1, hq, e1, dAB2, dBO2⟩ := p1
  subst e1
  obtain ⟨j9, e9⟩ := la_J (by decide +kernel) j1 j2 aw hq
  have e9 : k9 = 0 → fD1 0 = z2 := e9
  obtain ⟨fs2, hm⟩ := j9.m
  refine w_dstore_7 C dL_law_1440 (by first | trivial | rfl) ?_
  first | refine w_aload_n C dL_law_1442 (by rfl) ?_ | refine w_aload_nN C dL_law_1442 (by rfl) ?_
  refine cl_L_110 C (CT.fBI dAB2 dAO1 dBO2 (jt_thrown hl j9)) (hj_r (hj_l hm) (dAB2 _ _ hm)) (by rfl) (by rfl) ⟨by dsimp only [rm_L_water, rm_X10_water, rm_X10_thrown, room_1]; omega, by dsimp only [rm_L_water, rm_X10_water, rm_X10_thrown, room_1]; omega⟩ (by rfl) dL_law_1443 (fun z3 h2 p2 => ?_)
  obtain ⟨hB2, ⟨e1, e3⟩, e2, dAB3, dBO3⟩ := p2
  subst e1
  subst e2
  refine w_iload C dL_law_1446 (by rfl) ?_
  refine w_icmp_eq (tgt := 1453) C dL_law_1448 (by rfl) (fun c_1448 => ?_) (fun c_1448 => ?_)
  · refine w_iload C dL_law_1453 (by rfl) ?_
    refine w_if_ne (tgt := 1490) C dL_law_1455 (by rfl) (fun c_1455 => ?_) (fun c_1455 => ?_)
    · try simp only [cg_ge, cg_gt, cl_gt, cl_le, cl_eq, cl_lt, cl_ge, bi_eq0, bi_ne0, bI_eq0, Decidable.not_not, Bool.not_eq_false] at c_1455
      refine w_goto (tgt := 2002) C dL_law_1490 (by rfl) ?_
      exact w_sub (w_widen (kk (c + 1) (Nat.le_refl _) _ ⟨_, _, _, _, _, _, rfl, dAB3, dAO1, dBO3, O1, j9⟩) (by dsimp only [rm_L_water, rm_X10_water, rm_X10_thrown]; omega) (by dsimp only [rm_L_water, rm_X10_water, rm_X10_thrown]; omega)) (by repeat' first | exact trivial | rfl | constructor)
    · try simp only [cg_ge, cg_gt, cl_gt, cl_le, cl_eq, cl_lt, cl_ge, bi_eq0, bi_ne0, bI_eq0, Decidable.not_not, Bool.not_eq_false] at c_1455
      first | refine w_aload C dL_law_1458 (by rfl) ?_ | refine w_aloadN C dL_law_1458 (by rfl) ?_
      refine w_iconst (v := 0) C dL_law_1460 (by rfl) ?_
      refine w_daldn (j := 0) C (hj_r (hj_r O1.2 (dBO3 _ _ O1.2)) (D2.mk9 dAB3 dAO1 _ _ (hj_r O1.2 (dBO3 _ _ O1.2)))) (by decide) (by decide) dL_law_1461 ?_
      refine w_dload C dL_law_1462 (by rfl) ?_
      refine w_dcmp C dL_law_1464 ?_
      refine w_if_eq (tgt := 1490) C dL_law_1465 (by rfl) (fun c_1465 => ?_) (fun c_1465 => ?_)
      · try simp only [cg_ge, cg_gt, cl_gt, cl_le, cl_eq, cl_lt, cl_ge, bi_eq0, bi_ne0, bI_eq0, Decidable.not_not, Bool.not_eq_false] at c_1465
        refine w_goto (tgt := 2002) C dL_law_1490 (by rfl) ?_
        exact w_sub (w_widen (kk (c + 1) (Nat.le_refl _) _ ⟨_, _, _, _, _, _, rfl, dAB3, dAO1, dBO3, O1, j9⟩) (by dsimp only [rm_L_water, rm_X10_water, rm_X10_thrown]; omega) (by dsimp only [rm_L_water, rm_X10_water, rm_X10_thrown]; omega)) (by repeat' first | exact trivial | rfl | constructor)
      · try simp only [cg_ge, cg_gt, cl_gt, cl_le, cl_eq, cl_lt, cl_ge, bi_eq0, bi_ne0, bI_eq0, Decidable.not_not, Bool.not_eq_false] at c_1465
        first | refine w_aload C dL_law_1468 (by rfl) ?_ | refine w_aloadN C dL_law_1468 (by rfl) ?_
        refine w_iconst (v := 0) C dL_law_1470 (by rfl) ?_
        refine w_daldn (j := 0) C (hj_r (hj_r O1.2 (dBO3 _ _ O1.2)) (D2.mk9 dAB3 dAO1 _ _ (hj_r O1.2 (dBO3 _ _ O1.2)))) (by decide) (by decide) dL_law_1471 ?_
        first | refine w_aload C dL_law_1472 (by rfl) ?_ | refine w_aloadN C dL_law_1472 (by rfl) ?_
        refine w_iconst (v := 0) C dL_law_1474 (by rfl) ?_
        refine w_daldn (j := 0) C (hj_r (hj_r O1.2 (dBO3 _ _ O1.2)) (D2.mk9 dAB3 dAO1 _ _ (hj_r O1.2 (dBO3 _ _ O1.2)))) (by decide) (by decide) dL_law_1475 ?_
        refine w_dcmp C dL_law_1476 ?_
        refine w_if_eq (tgt := 1488) C dL_law_1477 (by rfl) (fun c_1477 => ?_) (fun c_1477 => ?_)
        · exact dd_no1 (e9 c_1455) c_1465 c_1477
        · try simp only [cg_ge, cg_gt, cl_gt, cl_le, cl_eq, cl_lt, cl_ge, bi_eq0, bi_ne0, bI_eq0, Decidable.not_not, Bool.not_eq_false] at c_1477
          refine w_dload C dL_law_1480 (by rfl) ?_
          refine w_dload C dL_law_1482 (by rfl) ?_
          refine w_dcmp C dL_law_1484 ?_
          refine w_if_ne (tgt := 1490) C dL_law_1485 (by rfl) (fun c_1485 => ?_) (fun c_1485 => ?_)
          · try simp only [cg_ge, cg_gt, cl_gt, cl_le, cl_eq, cl_lt, cl_ge, bi_eq0, bi_ne0, bI_eq0, Decidable.not_not, Bool.not_eq_false] at c_1485
            refine w_goto (tgt := 2002) C dL_law_1490 (by rfl) ?_
            exact w_sub (w_widen (kk (c + 1) (Nat.le_refl _) _ ⟨_, _, _, _, _, _, rfl, dAB3, dAO1, dBO3, O1, j9⟩) (by dsimp only [rm_L_water, rm_X10_water, rm_X10_thrown]; omega) (by dsimp only [rm_L_water, rm_X10_water, rm_X10_thrown]; omega)) (by repeat' first | exact trivial | rfl | constructor)
          · exact dd_no2 (e9 c_1455) c_1465 c_1485
  · exact absurd e3 c_1448

set_option maxHeartbeats 4000000 in
set_option maxRecDepth 100000 in
theorem lr_digest {K : KC} (C : CX K RL cL_law 9 room_1) (hl : (Kl K).stackTraces = false) (hN : NCs (Ks K)) {n : Nat × Nat} (n1 : n.1 + 1000 ≤ 757560) (n2 : n.2 + 5000 ≤ 6823425) {b L y0 m0 o3 o4 kl wk c : Nat} {xs : Nat → Int32} (X : LX K b L xs) {i : Int32} (v : ∀ k : Int32, 0 ≤ k.toInt → k.toInt ≤ 5 → vp_in (i + k) L) (hc5 : c ≤ 519) {h : HM} (J : LJ (Kt K) y0 m0 o3 o4 kl wk c h)
    (kk : ∀ (c' : Nat), c' ≤ c + 1 → ∀ h' : HM, LJ (Kt K) y0 m0 o3 o4 kl wk c' h' → WW K (n.1 + 1000, n.2 + 5000) 2002 [some (.ref b), some (.ref y0), some (.ref m0), some (.ref o3), some (.ref o4), some (.int i), none, none, none] [] h') : WW K n 1988 [some (.ref b), some (.ref y0), some (.ref m0), some (.ref o3), some (.ref o4), some (.int i), none, none, none] [] h := by
  obtain ⟨hA, hB, hO, fL, fD, th, rfl, dAB, dAO, dBO, O, j9⟩ := J
  obtain ⟨fs1, hy⟩ := j9.y
  obtain ⟨fs2, hm⟩ := j9.m
  first | refine w_aload_n C dL_law_1988 (by rfl) ?_ | refine w_aload_nN C dL_law_1988 (by rfl) ?_
  obtain ⟨p9, q9, hM1, hM2, j1⟩ := jt_digest (D := KD K) hl j9 hc5 
  refine cl_L_206 C (CT.fAL (D2.mk9 dAB dAO) hM1) (hj_l hy) (by rfl) (by rfl) ⟨by dsimp only [rm_X7_digest, rm_X10_digest, room_1]; omega, by dsimp only [rm_X7_digest, rm_X10_digest, room_1]; omega⟩ (by rfl) dL_law_1989 (fun z1 h1 p1 => ?_)
  obtain ⟨hA1, hp, e1, d1⟩ := p1
  subst e1
  have dAB3 := D2.l d1
  have dAO1 := D2.r d1 dBO
  first | refine w_aload_n C dL_law_1992 (by rfl) ?_ | refine w_aload_nN C dL_law_1992 (by rfl) ?_
  refine cl_L_210 C (CT.fBL dAB3 dAO1 dBO hM2) (hj_r (hj_l hm) (dAB3 _ _ hm)) (by rfl) (by rfl) ⟨by dsimp only [rm_X7_digest, rm_X10_digest, room_1]; omega, by dsimp only [rm_X7_digest, rm_X10_digest, room_1]; omega⟩ (by rfl) dL_law_1993 (fun z2 h2 p2 => ?_)
  obtain ⟨hB1, hq, e1, dAB2, dBO2⟩ := p2
  subst e1
  obtain ⟨e9, j9⟩ := j1 _ _ hp _ _ hq
  refine w_lcmp C dL_law_1996 ?_
  refine w_if_eq (tgt := 2002) C dL_law_1997 (by rfl) (fun c_1997 => ?_) (fun c_1997 => ?_)
  · try simp only [cg_ge, cg_gt, cl_gt, cl_le, cl_eq, cl_lt, cl_ge, bi_eq0, bi_ne0, bI_eq0, Decidable.not_not, Bool.not_eq_false] at c_1997
    exact w_sub (w_widen (kk (c + 1) (Nat.le_refl _) _ ⟨_, _, _, _, _, _, rfl, dAB2, dAO1, dBO2, O, j9⟩) (by dsimp only [rm_X7_digest, rm_X10_digest]; omega) (by dsimp only [rm_X7_digest, rm_X10_digest]; omega)) (by repeat' first | exact trivial | rfl | constructor)
  · exact absurd (by rw [e9]; exact lg_cmp_self _) c_1997
