/-! THE LAW'S ROADS -/
theorem dd_no1 {a z : UInt64} {G : Prop} (e : a = z) (h1 : ¬ FP.dcmp a z = some .eq) (h2 : Op.cmpValue (FP.dcmp a a) .l = 0) : G := by
  subst e
  exact absurd (cl_eq.mp h2) h1
theorem dd_no2 {a z : UInt64} {G : Prop} (e : a = z) (h1 : ¬ FP.dcmp a z = some .eq) (h2 : Op.cmpValue (FP.dcmp z z) .l = 0) : G := by
  subst e
  exact absurd (cl_eq.mp h2) h1
theorem CTX.fAL {l : Launch} {D : va_G} {tc : Nat → ClassId} {y : MethodName} {cc : ByteArray} {nL : Nat} {ret : Option FieldType} {rm : Room} {args : List Value} {h1 h2 : HM} {p : Int64 → HM → Prop} {px : String → HM → Prop} (d : D2 h1 h2) (hM : CTX l D tc y cc nL ret rm args h1 (rL p) px) : CTX l D tc y cc nL ret rm args (hj h1 h2) (rL (fun z h' => ∃ h1', p z h1' ∧ h' = hj h1' h2 ∧ D2 h1' h2)) (fun E h' => ∃ h1', px E h1' ∧ h' = hj h1' h2 ∧ ∀ a e, h2 a = some e → h1' a = none) :=
  (CTX.frame d hM).mono (fun r h' ⟨h1', hp, e, d⟩ => by obtain ⟨z, rfl, q⟩ := hp; exact ⟨z, rfl, h1', q, e, d⟩) (fun E h' q => q)

set_option maxHeartbeats 4000000 in
set_option maxRecDepth 100000 in
theorem lr_clay {K : KC} (C : CX K RL cL_law 9 room_1) (hl : (Kl K).stackTraces = false) (hN : NCs (Ks K)) {n : Nat × Nat} (n1 : n.1 + 1000 ≤ 757560) (n2 : n.2 + 5000 ≤ 6823425) {b L y0 m0 o3 o4 kl wk c : Nat} {xs : Nat → Int32} (X : LX K b L xs) {i : Int32} (v : ∀ k : Int32, 0 ≤ k.toInt → k.toInt ≤ 5 → vp_in (i + k) L) (hc5 : c ≤ 519) {h : HM} (J : LJ (Kt K) y0 m0 o3 o4 kl wk c h)
    (kk : ∀ (c' : Nat), c' ≤ c + 1 → ∀ h' : HM, LJ (Kt K) y0 m0 o3 o4 kl wk c' h' → WW K (n.1 + 1000, n.2 + 5000) 2002 [some (.ref b), some (.ref y0), some (.ref m0), some (.ref o3), some (.ref o4), some (.int i), none, none, none] [] h') : WW K n 176 [some (.ref b), some (.ref y0), some (.ref m0), some (.ref o3), some (.ref o4), some (.int i), none, none, none] [] h := by
  obtain ⟨hA, hB, hO, fL, fD, th, rfl, dAB, dAO, dBO, O, j9⟩ := J
  obtain ⟨fs1, hy⟩ := j9.y
  obtain ⟨fs2, hm⟩ := j9.m
  first | refine w_aload_n C dL_law_176 (by rfl) ?_ | refine w_aload_nN C dL_law_176 (by rfl) ?_
  first | refine w_aload_n C dL_law_177 (by rfl) ?_ | refine w_aload_nN C dL_law_177 (by rfl) ?_
  refine w_iload C dL_law_178 (by rfl) ?_
  refine w_iconst (v := 1) C dL_law_180 (by rfl) ?_
  refine w_iadd C dL_law_181 ?_
  refine w_sld C X (v 1 (by decide) (by decide)) dL_law_182 ?_
  first | refine w_aload_n C dL_law_183 (by rfl) ?_ | refine w_aload_nN C dL_law_183 (by rfl) ?_
  refine w_iload C dL_law_184 (by rfl) ?_
  refine w_iconst (v := 2) C dL_law_186 (by rfl) ?_
  refine w_iadd C dL_law_187 ?_
  refine w_sld C X (v 2 (by decide) (by decide)) dL_law_188 ?_
  first | refine w_aload_n C dL_law_189 (by rfl) ?_ | refine w_aload_nN C dL_law_189 (by rfl) ?_
  obtain ⟨p9, px9, q9, hM1, hM2, hcd, j1, j2⟩ := jt_clay (D := KD K) hl j9 (t := (xs (i + 1).toNatClampNeg)) (g := (xs (i + 2).toNatClampNeg))
  refine w_SWI C hN (m_L_clay hl (D2.mk9 dAB dAO) hy (hj_r O.1 (dBO _ _ O.1)) hM1 hcd) gw_518 gw_519 gw_50 gw_520 (show okY yL_clay 4 = true by decide +kernel) (by rfl) ⟨by dsimp only [rm_L_clay, rm_X10_clay, rm_X10_thrown, room_1]; omega, by dsimp only [rm_L_clay, rm_X10_clay, rm_X10_thrown, room_1]; omega⟩ (by rfl) rfl dL_law_190 (fun k9 hw aw => ?_)
  obtain ⟨hA1, hO1, fL1, fD1, e1, dAB1, dAO1, dBO1, O1, aw2⟩ := la_L (g := (fun v => v.toInt64)) dBO O aw
  subst e1
  refine w_istore_6 C dL_law_193 (by first | trivial | rfl) ?_
  first | refine w_aload_n C dL_law_195 (by rfl) ?_ | refine w_aload_nN C dL_law_195 (by rfl) ?_
  first | refine w_aload_n C dL_law_196 (by rfl) ?_ | refine w_aload_nN C dL_law_196 (by rfl) ?_
  refine w_iload C dL_law_197 (by rfl) ?_
  refine w_iconst (v := 1) C dL_law_199 (by rfl) ?_
  refine w_iadd C dL_law_200 ?_
  refine w_sld C X (v 1 (by decide) (by decide)) dL_law_201 ?_
  first | refine w_aload_n C dL_law_202 (by rfl) ?_ | refine w_aload_nN C dL_law_202 (by rfl) ?_
  refine w_iload C dL_law_203 (by rfl) ?_
  refine w_iconst (v := 2) C dL_law_205 (by rfl) ?_
  refine w_iadd C dL_law_206 ?_
  refine w_sld C X (v 2 (by decide) (by decide)) dL_law_207 ?_
  refine cl_L_109 C (CT.fBI dAB1 dAO1 dBO1 hM2) (hj_r (hj_l hm) (dAB1 _ _ hm)) (by rfl) (by rfl) ⟨by dsimp only [rm_L_clay, rm_X10_clay, rm_X10_thrown, room_1]; omega, by dsimp only [rm_L_clay, rm_X10_clay, rm_X10_thrown, room_1]; omega⟩ (by rfl) dL_law_208 (fun z2 h1 p1 => ?_)
  obtain ⟨hB1, hq, e1, dAB2, dBO2⟩ := p1
  subst e1
  obtain ⟨j9, e9⟩ := la_J (by decide +kernel) j1 j2 aw2 hq
  have e9 : k9 = 0 → fL1 0 = z2.toInt64 := e9
  obtain ⟨fs2, hm⟩ := j9.m
  refine w_istore_7 C dL_law_211 (by first | trivial | rfl) ?_
  first | refine w_aload_n C dL_law_213 (by rfl) ?_ | refine w_aload_nN C dL_law_213 (by rfl) ?_
  refine cl_L_110 C (CT.fBI dAB2 dAO1 dBO2 (jt_thrown hl j9)) (hj_r (hj_l hm) (dAB2 _ _ hm)) (by rfl) (by rfl) ⟨by dsimp only [rm_L_clay, rm_X10_clay, rm_X10_thrown, room_1]; omega, by dsimp only [rm_L_clay, rm_X10_clay, rm_X10_thrown, room_1]; omega⟩ (by rfl) dL_law_214 (fun z3 h2 p2 => ?_)
  obtain ⟨hB2, ⟨e1, e3⟩, e2, dAB3, dBO3⟩ := p2
  subst e1
  subst e2
  refine w_iload C dL_law_217 (by rfl) ?_
  refine w_icmp_eq (tgt := 224) C dL_law_219 (by rfl) (fun c_219 => ?_) (fun c_219 => ?_)
  · refine w_iload C dL_law_224 (by rfl) ?_
    refine w_if_ne (tgt := 241) C dL_law_226 (by rfl) (fun c_226 => ?_) (fun c_226 => ?_)
    · try simp only [cg_ge, cg_gt, cl_gt, cl_le, cl_eq, cl_lt, cl_ge, bi_eq0, bi_ne0, bI_eq0, Decidable.not_not, Bool.not_eq_false] at c_226
      refine w_goto (tgt := 2002) C dL_law_241 (by rfl) ?_
      exact w_sub (w_widen (kk (c + 1) (Nat.le_refl _) _ ⟨_, _, _, _, _, _, rfl, dAB3, dAO1, dBO3, O1, j9⟩) (by dsimp only [rm_L_clay, rm_X10_clay, rm_X10_thrown]; omega) (by dsimp only [rm_L_clay, rm_X10_clay, rm_X10_thrown]; omega)) (by repeat' first | exact trivial | rfl | constructor)
    · try simp only [cg_ge, cg_gt, cl_gt, cl_le, cl_eq, cl_lt, cl_ge, bi_eq0, bi_ne0, bI_eq0, Decidable.not_not, Bool.not_eq_false] at c_226
      first | refine w_aload_n C dL_law_229 (by rfl) ?_ | refine w_aload_nN C dL_law_229 (by rfl) ?_
      refine w_iconst (v := 0) C dL_law_230 (by rfl) ?_
      refine w_laldn (j := 0) C (hj_r (hj_r O1.1 (dBO3 _ _ O1.1)) (D2.mk9 dAB3 dAO1 _ _ (hj_r O1.1 (dBO3 _ _ O1.1)))) (by decide) (by decide) dL_law_231 ?_
      refine w_iload C dL_law_232 (by rfl) ?_
      refine w_i2l C dL_law_234 ?_
      refine w_lcmp C dL_law_235 ?_
      refine w_if_eq (tgt := 241) C dL_law_236 (by rfl) (fun c_236 => ?_) (fun c_236 => ?_)
      · try simp only [cg_ge, cg_gt, cl_gt, cl_le, cl_eq, cl_lt, cl_ge, bi_eq0, bi_ne0, bI_eq0, Decidable.not_not, Bool.not_eq_false] at c_236
        refine w_goto (tgt := 2002) C dL_law_241 (by rfl) ?_
        exact w_sub (w_widen (kk (c + 1) (Nat.le_refl _) _ ⟨_, _, _, _, _, _, rfl, dAB3, dAO1, dBO3, O1, j9⟩) (by dsimp only [rm_L_clay, rm_X10_clay, rm_X10_thrown]; omega) (by dsimp only [rm_L_clay, rm_X10_clay, rm_X10_thrown]; omega)) (by repeat' first | exact trivial | rfl | constructor)
      · exact absurd (by rw [e9 c_226]; exact lg_cmp_self _) c_236
  · exact absurd e3 c_219

set_option maxHeartbeats 4000000 in
set_option maxRecDepth 100000 in
theorem lr_glaze {K : KC} (C : CX K RL cL_law 9 room_1) (hl : (Kl K).stackTraces = false) (hN : NCs (Ks K)) {n : Nat × Nat} (n1 : n.1 + 1000 ≤ 757560) (n2 : n.2 + 5000 ≤ 6823425) {b L y0 m0 o3 o4 kl wk c : Nat} {xs : Nat → Int32} (X : LX K b L xs) {i : Int32} (v : ∀ k : Int32, 0 ≤ k.toInt → k.toInt ≤ 5 → vp_in (i + k) L) (hc5 : c ≤ 519) {h : HM} (J : LJ (Kt K) y0 m0 o3 o4 kl wk c h)
    (kk : ∀ (c' : Nat), c' ≤ c + 1 → ∀ h' : HM, LJ (Kt K) y0 m0 o3 o4 kl wk c' h' → WW K (n.1 + 1000, n.2 + 5000) 2002 [some (.ref b), some (.ref y0), some (.ref m0), some (.ref o3), some (.ref o4), some (.int i), none, none, none] [] h') : WW K n 244 [some (.ref b), some (.ref y0), some (.ref m0), some (.ref o3), some (.ref o4), some (.int i), none, none, none] [] h := by
  obtain ⟨hA, hB, hO, fL, fD, th, rfl, dAB, dAO, dBO, O, j9⟩ := J
  obtain ⟨fs1, hy⟩ := j9.y
  obtain ⟨fs2, hm⟩ := j9.m
  first | refine w_aload_n C dL_law_244 (by rfl) ?_ | refine w_aload_nN C dL_law_244 (by rfl) ?_
  first | refine w_aload_n C dL_law_245 (by rfl) ?_ | refine w_aload_nN C dL_law_245 (by rfl) ?_
  refine w_iload C dL_law_246 (by rfl) ?_
  refine w_iconst (v := 1) C dL_law_248 (by rfl) ?_
  refine w_iadd C dL_law_249 ?_
  refine w_sld C X (v 1 (by decide) (by decide)) dL_law_250 ?_
  first | refine w_aload_n C dL_law_251 (by rfl) ?_ | refine w_aload_nN C dL_law_251 (by rfl) ?_
  refine w_iload C dL_law_252 (by rfl) ?_
  refine w_iconst (v := 2) C dL_law_254 (by rfl) ?_
  refine w_iadd C dL_law_255 ?_
  refine w_sld C X (v 2 (by decide) (by decide)) dL_law_256 ?_
  first | refine w_aload_n C dL_law_257 (by rfl) ?_ | refine w_aload_nN C dL_law_257 (by rfl) ?_
  refine w_iload C dL_law_258 (by rfl) ?_
  refine w_iconst (v := 3) C dL_law_260 (by rfl) ?_
  refine w_iadd C dL_law_261 ?_
  refine w_sld C X (v 3 (by decide) (by decide)) dL_law_262 ?_
  first | refine w_aload_n C dL_law_263 (by rfl) ?_ | refine w_aload_nN C dL_law_263 (by rfl) ?_
  refine w_iload C dL_law_264 (by rfl) ?_
  refine w_iconst (v := 4) C dL_law_266 (by rfl) ?_
  refine w_iadd C dL_law_267 ?_
  refine w_sld C X (v 4 (by decide) (by decide)) dL_law_268 ?_
  first | refine w_aload_n C dL_law_269 (by rfl) ?_ | refine w_aload_nN C dL_law_269 (by rfl) ?_
  refine w_iload C dL_law_270 (by rfl) ?_
  refine w_iconst (v := 5) C dL_law_272 (by rfl) ?_
  refine w_iadd C dL_law_273 ?_
  refine w_sld C X (v 5 (by decide) (by decide)) dL_law_274 ?_
  first | refine w_aload_n C dL_law_275 (by rfl) ?_ | refine w_aload_nN C dL_law_275 (by rfl) ?_
  obtain ⟨p9, px9, q9, hM1, hM2, hcd, j1, j2⟩ := jt_glaze (D := KD K) hl j9 (g0 := ((xs (i + 1).toNatClampNeg), (xs (i + 2).toNatClampNeg), (xs (i + 3).toNatClampNeg), (xs (i + 4).toNatClampNeg), (xs (i + 5).toNatClampNeg)))
  refine w_SWI C hN (m_L_glaze hl (D2.mk9 dAB dAO) hy (hj_r O.1 (dBO _ _ O.1)) hM1 hcd) gw_559 gw_560 gw_50 gw_561 (show okY yL_glaze 7 = true by decide +kernel) (by rfl) ⟨by dsimp only [rm_L_glaze, rm_X10_glaze, rm_X10_thrown, room_1]; omega, by dsimp only [rm_L_glaze, rm_X10_glaze, rm_X10_thrown, room_1]; omega⟩ (by rfl) rfl dL_law_276 (fun k9 hw aw => ?_)
  obtain ⟨hA1, hO1, fL1, fD1, e1, dAB1, dAO1, dBO1, O1, aw2⟩ := la_L (g := (fun v => v.toInt64)) dBO O aw
  subst e1
  refine w_istore_6 C dL_law_279 (by first | trivial | rfl) ?_
  first | refine w_aload_n C dL_law_281 (by rfl) ?_ | refine w_aload_nN C dL_law_281 (by rfl) ?_
  first | refine w_aload_n C dL_law_282 (by rfl) ?_ | refine w_aload_nN C dL_law_282 (by rfl) ?_
  refine w_iload C dL_law_283 (by rfl) ?_
  refine w_iconst (v := 1) C dL_law_285 (by rfl) ?_
  refine w_iadd C dL_law_286 ?_
  refine w_sld C X (v 1 (by decide) (by decide)) dL_law_287 ?_
  first | refine w_aload_n C dL_law_288 (by rfl) ?_ | refine w_aload_nN C dL_law_288 (by rfl) ?_
  refine w_iload C dL_law_289 (by rfl) ?_
  refine w_iconst (v := 2) C dL_law_291 (by rfl) ?_
  refine w_iadd C dL_law_292 ?_
  refine w_sld C X (v 2 (by decide) (by decide)) dL_law_293 ?_
  first | refine w_aload_n C dL_law_294 (by rfl) ?_ | refine w_aload_nN C dL_law_294 (by rfl) ?_
  refine w_iload C dL_law_295 (by rfl) ?_
  refine w_iconst (v := 3) C dL_law_297 (by rfl) ?_
  refine w_iadd C dL_law_298 ?_
  refine w_sld C X (v 3 (by decide) (by decide)) dL_law_299 ?_
  first | refine w_aload_n C dL_law_300 (by rfl) ?_ | refine w_aload_nN C dL_law_300 (by rfl) ?_
  refine w_iload C dL_law_301 (by rfl) ?_
  refine w_iconst (v := 4) C dL_law_303 (by rfl) ?_
  refine w_iadd C dL_law_304 ?_
  refine w_sld C X (v 4 (by decide) (by decide)) dL_law_305 ?_
  first | refine w_aload_n C dL_law_306 (by rfl) ?_ | refine w_aload_nN C dL_law_306 (by rfl) ?_
  refine w_iload C dL_law_307 (by rfl) ?_
  refine w_iconst (v := 5) C dL_law_309 (by rfl) ?_
  refine w_iadd C dL_law_310 ?_
  refine w_sld C X (v 5 (by decide) (by decide)) dL_law_311 ?_
  refine cl_L_116 C (CT.fBI dAB1 dAO1 dBO1 hM2) (hj_r (hj_l hm) (dAB1 _ _ hm)) (by rfl) (by rfl) ⟨by dsimp only [rm_L_glaze, rm_X10_glaze, rm_X10_thrown, room_1]; omega, by dsimp only [rm_L_glaze, rm_X10_glaze, rm_X10_thrown, room_1]; omega⟩ (by rfl) dL_law_312 (fun z2 h1 p1 => ?_)
  obtain ⟨hB1, hq, e1, dAB2, dBO2⟩ := p1
  subst e1
  obtain ⟨j9, e9⟩ := la_J (by decide +kernel) j1 j2 aw2 hq
  have e9 : k9 = 0 → fL1 0 = z2.toInt64 := e9
  obtain ⟨fs2, hm⟩ := j9.m
  refine w_istore_7 C dL_law_315 (by first | trivial | rfl) ?_
  first | refine w_aload_n C dL_law_317 (by rfl) ?_ | refine w_aload_nN C dL_law_317 (by rfl) ?_
  refine cl_L_110 C (CT.fBI dAB2 dAO1 dBO2 (jt_thrown hl j9)) (hj_r (hj_l hm) (dAB2 _ _ hm)) (by rfl) (by rfl) ⟨by dsimp only [rm_L_glaze, rm_X10_glaze, rm_X10_thrown, room_1]; omega, by dsimp only [rm_L_glaze, rm_X10_glaze, rm_X10_thrown, room_1]; omega⟩ (by rfl) dL_law_318 (fun z3 h2 p2 => ?_)
  obtain ⟨hB2, ⟨e1, e3⟩, e2, dAB3, dBO3⟩ := p2
  subst e1
  subst e2
  refine w_iload C dL_law_321 (by rfl) ?_
  refine w_icmp_eq (tgt := 328) C dL_law_323 (by rfl) (fun c_323 => ?_) (fun c_323 => ?_)
  · refine w_iload C dL_law_328 (by rfl) ?_
    refine w_if_ne (tgt := 345) C dL_law_330 (by rfl) (fun c_330 => ?_) (fun c_330 => ?_)
    · try simp only [cg_ge, cg_gt, cl_gt, cl_le, cl_eq, cl_lt, cl_ge, bi_eq0, bi_ne0, bI_eq0, Decidable.not_not, Bool.not_eq_false] at c_330
      refine w_goto (tgt := 2002) C dL_law_345 (by rfl) ?_
      exact w_sub (w_widen (kk (c + 1) (Nat.le_refl _) _ ⟨_, _, _, _, _, _, rfl, dAB3, dAO1, dBO3, O1, j9⟩) (by dsimp only [rm_L_glaze, rm_X10_glaze, rm_X10_thrown]; omega) (by dsimp only [rm_L_glaze, rm_X10_glaze, rm_X10_thrown]; omega)) (by repeat' first | exact trivial | rfl | constructor)
    · try simp only [cg_ge, cg_gt, cl_gt, cl_le, cl_eq, cl_lt, cl_ge, bi_eq0, bi_ne0, bI_eq0, Decidable.not_not, Bool.not_eq_false] at c_330
      first | refine w_aload_n C dL_law_333 (by rfl) ?_ | refine w_aload_nN C dL_law_333 (by rfl) ?_
      refine w_iconst (v := 0) C dL_law_334 (by rfl) ?_
      refine w_laldn (j := 0) C (hj_r (hj_r O1.1 (dBO3 _ _ O1.1)) (D2.mk9 dAB3 dAO1 _ _ (hj_r O1.1 (dBO3 _ _ O1.1)))) (by decide) (by decide) dL_law_335 ?_
      refine w_iload C dL_law_336 (by rfl) ?_
      refine w_i2l C dL_law_338 ?_
      refine w_lcmp C dL_law_339 ?_
      refine w_if_eq (tgt := 345) C dL_law_340 (by rfl) (fun c_340 => ?_) (fun c_340 => ?_)
      · try simp only [cg_ge, cg_gt, cl_gt, cl_le, cl_eq, cl_lt, cl_ge, bi_eq0, bi_ne0, bI_eq0, Decidable.not_not, Bool.not_eq_false] at c_340
        refine w_goto (tgt := 2002) C dL_law_345 (by rfl) ?_
        exact w_sub (w_widen (kk (c + 1) (Nat.le_refl _) _ ⟨_, _, _, _, _, _, rfl, dAB3, dAO1, dBO3, O1, j9⟩) (by dsimp only [rm_L_glaze, rm_X10_glaze, rm_X10_thrown]; omega) (by dsimp only [rm_L_glaze, rm_X10_glaze, rm_X10_thrown]; omega)) (by repeat' first | exact trivial | rfl | constructor)
      · exact absurd (by rw [e9 c_330]; exact lg_cmp_self _) c_340
  · exact absurd e3 c_323

set_option maxHeartbeats 4000000 in
set_option maxRecDepth 100000 in
theorem lr_pot {K : KC} (C : CX K RL cL_law 9 room_1) (hl : (Kl K).stackTraces = false) (hN : NCs (Ks K)) {n : Nat × Nat} (n1 : n.1 + 1000 ≤ 757560) (n2 : n.2 + 5000 ≤ 6823425) {b L y0 m0 o3 o4 kl wk c : Nat} {xs : Nat → Int32} (X : LX K b L xs) {i : Int32} (v : ∀ k : Int32, 0 ≤ k.toInt → k.toInt ≤ 5 → vp_in (i + k) L) (hc5 : c ≤ 519) {h : HM} (J : LJ (Kt K) y0 m0 o3 o4 kl wk c h)
    (kk : ∀ (c' : Nat), c' ≤ c + 1 → ∀ h' : HM, LJ (Kt K) y0 m0 o3 o4 kl wk c' h' → WW K (n.1 + 1000, n.2 + 5000) 2002 [some (.ref b), some (.ref y0), some (.ref m0), some (.ref o3), some (.ref o4), some (.int i), none, none, none] [] h') : WW K n 348 [some (.ref b), some (.ref y0), some (.ref m0), some (.ref o3), some (.ref o4), some (.int i), none, none, none] [] h := by
  obtain ⟨hA, hB, hO, fL, fD, th, rfl, dAB, dAO, dBO, O, j9⟩ := J
  obtain ⟨fs1, hy⟩ := j9.y
  obtain ⟨fs2, hm⟩ := j9.m
  first | refine w_aload_n C dL_law_348 (by rfl) ?_ | refine w_aload_nN C dL_law_348 (by rfl) ?_
  first | refine w_aload_n C dL_law_349 (by rfl) ?_ | refine w_aload_nN C dL_law_349 (by rfl) ?_
  refine w_iload C dL_law_350 (by rfl) ?_
  refine w_iconst (v := 1) C dL_law_352 (by rfl) ?_
  refine w_iadd C dL_law_353 ?_
  refine w_sld C X (v 1 (by decide) (by decide)) dL_law_354 ?_
  first | refine w_aload_n C dL_law_355 (by rfl) ?_ | refine w_aload_nN C dL_law_355 (by rfl) ?_
  refine w_iload C dL_law_356 (by rfl) ?_
  refine w_iconst (v := 2) C dL_law_358 (by rfl) ?_
  refine w_iadd C dL_law_359 ?_
  refine w_sld C X (v 2 (by decide) (by decide)) dL_law_360 ?_
  first | refine w_aload_n C dL_law_361 (by rfl) ?_ | refine w_aload_nN C dL_law_361 (by rfl) ?_
  refine w_iload C dL_law_362 (by rfl) ?_
  refine w_iconst (v := 3) C dL_law_364 (by rfl) ?_
  refine w_iadd C dL_law_365 ?_
  refine w_sld C X (v 3 (by decide) (by decide)) dL_law_366 ?_
  first | refine w_aload_n C dL_law_367 (by rfl) ?_ | refine w_aload_nN C dL_law_367 (by rfl) ?_
  refine w_iload C dL_law_368 (by rfl) ?_
  refine w_iconst (v := 4) C dL_law_370 (by rfl) ?_
  refine w_iadd C dL_law_371 ?_
  refine w_sld C X (v 4 (by decide) (by decide)) dL_law_372 ?_
  first | refine w_aload_n C dL_law_373 (by rfl) ?_ | refine w_aload_nN C dL_law_373 (by rfl) ?_
  obtain ⟨p9, px9, q9, hM1, hM2, hcd, j1, j2⟩ := jt_pot (D := KD K) hl j9 (cl := (xs (i + 1).toNatClampNeg)) (wd := (xs (i + 2).toNatClampNeg)) (hg := (xs (i + 3).toNatClampNeg)) (wl := (xs (i + 4).toNatClampNeg))
  refine w_SWI C hN (m_L_pot hl (D2.mk9 dAB dAO) hy (hj_r O.1 (dBO _ _ O.1)) hM1 hcd) gw_612 gw_613 gw_50 gw_614 (show okY yL_pot 6 = true by decide +kernel) (by rfl) ⟨by dsimp only [rm_L_pot, rm_X10_pot, rm_X10_thrown, room_1]; omega, by dsimp only [rm_L_pot, rm_X10_pot, rm_X10_thrown, room_1]; omega⟩ (by rfl) rfl dL_law_374 (fun k9 hw aw => ?_)
  obtain ⟨hA1, hO1, fL1, fD1, e1, dAB1, dAO1, dBO1, O1, aw2⟩ := la_L (g := (fun v => v.toInt64)) dBO O aw
  subst e1
  refine w_istore_6 C dL_law_377 (by first | trivial | rfl) ?_
  first | refine w_aload_n C dL_law_379 (by rfl) ?_ | refine w_aload_nN C dL_law_379 (by rfl) ?_
  first | refine w_aload_n C dL_law_380 (by rfl) ?_ | refine w_aload_nN C dL_law_380 (by rfl) ?_
  refine w_iload C dL_law_381 (by rfl) ?_
  refine w_iconst (v := 1) C dL_law_383 (by rfl) ?_
  refine w_iadd C dL_law_384 ?_
  refine w_sld C X (v 1 (by decide) (by decide)) dL_law_385 ?_
  first | refine w_aload_n C dL_law_386 (by rfl) ?_ | refine w_aload_nN C dL_law_386 (by rfl) ?_
  refine w_iload C dL_law_387 (by rfl) ?_
  refine w_iconst (v := 2) C dL_law_389 (by rfl) ?_
  refine w_iadd C dL_law_390 ?_
  refine w_sld C X (v 2 (by decide) (by decide)) dL_law_391 ?_
  first | refine w_aload_n C dL_law_392 (by rfl) ?_ | refine w_aload_nN C dL_law_392 (by rfl) ?_
  refine w_iload C dL_law_393 (by rfl) ?_
  refine w_iconst (v := 3) C dL_law_395 (by rfl) ?_
  refine w_iadd C dL_law_396 ?_
  refine w_sld C X (v 3 (by decide) (by decide)) dL_law_397 ?_
  first | refine w_aload_n C dL_law_398 (by rfl) ?_ | refine w_aload_nN C dL_law_398 (by rfl) ?_
  refine w_iload C dL_law_399 (by rfl) ?_
  refine w_iconst (v := 4) C dL_law_401 (by rfl) ?_
  refine w_iadd C dL_law_402 ?_
  refine w_sld C X (v 4 (by decide) (by decide)) dL_law_403 ?_
  refine cl_L_120 C (CT.fBI dAB1 dAO1 dBO1 hM2) (hj_r (hj_l hm) (dAB1 _ _ hm)) (by rfl) (by rfl) ⟨by dsimp only [rm_L_pot, rm_X10_pot, rm_X10_thrown, room_1]; omega, by dsimp only [rm_L_pot, rm_X10_pot, rm_X10_thrown, room_1]; omega⟩ (by rfl) dL_law_404 (fun z2 h1 p1 => ?_)
  obtain ⟨hB1, hq, e1, dAB2, dBO2⟩ := p1
  subst e1
  obtain ⟨j9, e9⟩ := la_J (by decide +kernel) j1 j2 aw2 hq
  have e9 : k9 = 0 → fL1 0 = z2.toInt64 := e9
  obtain ⟨fs2, hm⟩ := j9.m
  refine w_istore_7 C dL_law_407 (by first | trivial | rfl) ?_
  first | refine w_aload_n C dL_law_409 (by rfl) ?_ | refine w_aload_nN C dL_law_409 (by rfl) ?_
  refine cl_L_110 C (CT.fBI dAB2 dAO1 dBO2 (jt_thrown hl j9)) (hj_r (hj_l hm) (dAB2 _ _ hm)) (by rfl) (by rfl) ⟨by dsimp only [rm_L_pot, rm_X10_pot, rm_X10_thrown, room_1]; omega, by dsimp only [rm_L_pot, rm_X10_pot, rm_X10_thrown, room_1]; omega⟩ (by rfl) dL_law_410 (fun z3 h2 p2 => ?_)
  obtain ⟨hB2, ⟨e1, e3⟩, e2, dAB3, dBO3⟩ := p2
  subst e1
  subst e2
  refine w_iload C dL_law_413 (by rfl) ?_
  refine w_icmp_eq (tgt := 420) C dL_law_415 (by rfl) (fun c_415 => ?_) (fun c_415 => ?_)
  · refine w_iload C dL_law_420 (by rfl) ?_
    refine w_if_ne (tgt := 437) C dL_law_422 (by rfl) (fun c_422 => ?_) (fun c_422 => ?_)
    · try simp only [cg_ge, cg_gt, cl_gt, cl_le, cl_eq, cl_lt, cl_ge, bi_eq0, bi_ne0, bI_eq0, Decidable.not_not, Bool.not_eq_false] at c_422
      refine w_goto (tgt := 2002) C dL_law_437 (by rfl) ?_
      exact w_sub (w_widen (kk (c + 1) (Nat.le_refl _) _ ⟨_, _, _, _, _, _, rfl, dAB3, dAO1, dBO3, O1, j9⟩) (by dsimp only [rm_L_pot, rm_X10_pot, rm_X10_thrown]; omega) (by dsimp only [rm_L_pot, rm_X10_pot, rm_X10_thrown]; omega)) (by repeat' first | exact trivial | rfl | constructor)
    · try simp only [cg_ge, cg_gt, cl_gt, cl_le, cl_eq, cl_lt, cl_ge, bi_eq0, bi_ne0, bI_eq0, Decidable.not_not, Bool.not_eq_false] at c_422
      first | refine w_aload_n C dL_law_425 (by rfl) ?_ | refine w_aload_nN C dL_law_425 (by rfl) ?_
      refine w_iconst (v := 0) C dL_law_426 (by rfl) ?_
      refine w_laldn (j := 0) C (hj_r (hj_r O1.1 (dBO3 _ _ O1.1)) (D2.mk9 dAB3 dAO1 _ _ (hj_r O1.1 (dBO3 _ _ O1.1)))) (by decide) (by decide) dL_law_427 ?_
      refine w_iload C dL_law_428 (by rfl) ?_
      refine w_i2l C dL_law_430 ?_
      refine w_lcmp C dL_law_431 ?_
      refine w_if_eq (tgt := 437) C dL_law_432 (by rfl) (fun c_432 => ?_) (fun c_432 => ?_)
      · try simp only [cg_ge, cg_gt, cl_gt, cl_le, cl_eq, cl_lt, cl_ge, bi_eq0, bi_ne0, bI_eq0, Decidable.not_not, Bool.not_eq_false] at c_432
        refine w_goto (tgt := 2002) C dL_law_437 (by rfl) ?_
        exact w_sub (w_widen (kk (c + 1) (Nat.le_refl _) _ ⟨_, _, _, _, _, _, rfl, dAB3, dAO1, dBO3, O1, j9⟩) (by dsimp only [rm_L_pot, rm_X10_pot, rm_X10_thrown]; omega) (by dsimp only [rm_L_pot, rm_X10_pot, rm_X10_thrown]; omega)) (by repeat' first | exact trivial | rfl | constructor)
      · exact absurd (by rw [e9 c_422]; exact lg_cmp_self _) c_432
  · exact absurd e3 c_415

set_option maxHeartbeats 4000000 in
set_option maxRecDepth 100000 in
theorem lr_cover {K : KC} (C : CX K RL cL_law 9 room_1) (hl : (Kl K).stackTraces = false) (hN : NCs (Ks K)) {n : Nat × Nat} (n1 : n.1 + 1000 ≤ 757560) (n2 : n.2 + 5000 ≤ 6823425) {b L y0 m0 o3 o4 kl wk c : Nat} {xs : Nat → Int32} (X : LX K b L xs) {i : Int32} (v : ∀ k : Int32, 0 ≤ k.toInt → k.toInt ≤ 5 → vp_in (i + k) L) (hc5 : c ≤ 519) {h : HM} (J : LJ (Kt K) y0 m0 o3 o4 kl wk c h)
    (kk : ∀ (c' : Nat), c' ≤ c + 1 → ∀ h' : HM, LJ (Kt K) y0 m0 o3 o4 kl wk c' h' → WW K (n.1 + 1000, n.2 + 5000) 2002 [some (.ref b), some (.ref y0), some (.ref m0), some (.ref o3), some (.ref o4), some (.int i), none, none, none] [] h') : WW K n 440 [some (.ref b), some (.ref y0), some (.ref m0), some (.ref o3), some (.ref o4), some (.int i), none, none, none] [] h := by
  obtain ⟨hA, hB, hO, fL, fD, th, rfl, dAB, dAO, dBO, O, j9⟩ := J
  obtain ⟨fs1, hy⟩ := j9.y
  obtain ⟨fs2, hm⟩ := j9.m
  first | refine w_aload_n C dL_law_440 (by rfl) ?_ | refine w_aload_nN C dL_law_440 (by rfl) ?_
  first | refine w_aload_n C dL_law_441 (by rfl) ?_ | refine w_aload_nN C dL_law_441 (by rfl) ?_
  refine w_iload C dL_law_442 (by rfl) ?_
  refine w_iconst (v := 1) C dL_law_444 (by rfl) ?_
  refine w_iadd C dL_law_445 ?_
  refine w_sld C X (v 1 (by decide) (by decide)) dL_law_446 ?_
  first | refine w_aload_n C dL_law_447 (by rfl) ?_ | refine w_aload_nN C dL_law_447 (by rfl) ?_
  refine w_iload C dL_law_448 (by rfl) ?_
  refine w_iconst (v := 2) C dL_law_450 (by rfl) ?_
  refine w_iadd C dL_law_451 ?_
  refine w_sld C X (v 2 (by decide) (by decide)) dL_law_452 ?_
  refine w_if_eq (tgt := 460) C dL_law_453 (by rfl) (fun c_453 => ?_) (fun c_453 => ?_)
  · try simp only [cg_ge, cg_gt, cl_gt, cl_le, cl_eq, cl_lt, cl_ge, bi_eq0, bi_ne0, bI_eq0, Decidable.not_not, Bool.not_eq_false] at c_453
    refine w_iconst (v := 0) C dL_law_460 (by rfl) ?_
    first | refine w_aload_n C dL_law_461 (by rfl) ?_ | refine w_aload_nN C dL_law_461 (by rfl) ?_
    obtain ⟨p9, px9, q9, hM1, hM2, hcd, j1, j2⟩ := jt_cover (D := KD K) hl j9 (i := (xs (i + 1).toNatClampNeg)) (b := false)
    refine w_SWI C hN (m_L_cover hl (D2.mk9 dAB dAO) hy (hj_r O.1 (dBO _ _ O.1)) hM1 hcd) gw_681 gw_682 gw_50 gw_683 (show okY yL_cover 4 = true by decide +kernel) (by rfl) ⟨by dsimp only [rm_L_cover, rm_X10_cover, rm_X10_thrown, room_1]; omega, by dsimp only [rm_L_cover, rm_X10_cover, rm_X10_thrown, room_1]; omega⟩ (by rfl) rfl dL_law_462 (fun k9 hw aw => ?_)
    obtain ⟨hA1, hO1, fL1, fD1, e1, dAB1, dAO1, dBO1, O1, aw2⟩ := la_L (g := (fun v => if v = 0 then 0 else 1)) dBO O aw
    subst e1
    refine w_istore_6 C dL_law_465 (by first | trivial | rfl) ?_
    first | refine w_aload_n C dL_law_467 (by rfl) ?_ | refine w_aload_nN C dL_law_467 (by rfl) ?_
    first | refine w_aload_n C dL_law_468 (by rfl) ?_ | refine w_aload_nN C dL_law_468 (by rfl) ?_
    refine w_iload C dL_law_469 (by rfl) ?_
    refine w_iconst (v := 1) C dL_law_471 (by rfl) ?_
    refine w_iadd C dL_law_472 ?_
    refine w_sld C X (v 1 (by decide) (by decide)) dL_law_473 ?_
    first | refine w_aload_n C dL_law_474 (by rfl) ?_ | refine w_aload_nN C dL_law_474 (by rfl) ?_
    refine w_iload C dL_law_475 (by rfl) ?_
    refine w_iconst (v := 2) C dL_law_477 (by rfl) ?_
    refine w_iadd C dL_law_478 ?_
    refine w_sld C X (v 2 (by decide) (by decide)) dL_law_479 ?_
    refine w_if_eq (tgt := 487) C dL_law_480 (by rfl) (fun c_480 => ?_) (fun c_480 => ?_)
    · try simp only [cg_ge, cg_gt, cl_gt, cl_le, cl_eq, cl_lt, cl_ge, bi_eq0, bi_ne0, bI_eq0, Decidable.not_not, Bool.not_eq_false] at c_480
      refine w_iconst (v := 0) C dL_law_487 (by rfl) ?_
      refine cl_L_124 C (CT.fBI dAB1 dAO1 dBO1 hM2) (hj_r (hj_l hm) (dAB1 _ _ hm)) (by rfl) (by rfl) ⟨by dsimp only [rm_L_cover, rm_X10_cover, rm_X10_thrown, room_1]; omega, by dsimp only [rm_L_cover, rm_X10_cover, rm_X10_thrown, room_1]; omega⟩ (by rfl) dL_law_488 (fun z2 h1 p1 => ?_)
      obtain ⟨hB1, hq, e1, dAB2, dBO2⟩ := p1
      subst e1
      obtain ⟨j9, e9⟩ := la_J (by decide +kernel) j1 j2 aw2 hq
      have e9 : k9 = 0 → fL1 0 = if z2 = 0 then 0 else 1 := e9
      obtain ⟨fs2, hm⟩ := j9.m
      refine w_istore_7 C dL_law_491 (by first | trivial | rfl) ?_
      first | refine w_aload_n C dL_law_493 (by rfl) ?_ | refine w_aload_nN C dL_law_493 (by rfl) ?_
      refine cl_L_110 C (CT.fBI dAB2 dAO1 dBO2 (jt_thrown hl j9)) (hj_r (hj_l hm) (dAB2 _ _ hm)) (by rfl) (by rfl) ⟨by dsimp only [rm_L_cover, rm_X10_cover, rm_X10_thrown, room_1]; omega, by dsimp only [rm_L_cover, rm_X10_cover, rm_X10_thrown, room_1]; omega⟩ (by rfl) dL_law_494 (fun z3 h2 p2 => ?_)
      obtain ⟨hB2, ⟨e1, e3⟩, e2, dAB3, dBO3⟩ := p2
      subst e1
      subst e2
      refine w_iload C dL_law_497 (by rfl) ?_
      refine w_icmp_eq (tgt := 504) C dL_law_499 (by rfl) (fun c_499 => ?_) (fun c_499 => ?_)
      · refine w_iload C dL_law_504 (by rfl) ?_
        refine w_if_ne (tgt := 528) C dL_law_506 (by rfl) (fun c_506 => ?_) (fun c_506 => ?_)
        · try simp only [cg_ge, cg_gt, cl_gt, cl_le, cl_eq, cl_lt, cl_ge, bi_eq0, bi_ne0, bI_eq0, Decidable.not_not, Bool.not_eq_false] at c_506
          refine w_goto (tgt := 2002) C dL_law_528 (by rfl) ?_
          exact w_sub (w_widen (kk (c + 1) (Nat.le_refl _) _ ⟨_, _, _, _, _, _, rfl, dAB3, dAO1, dBO3, O1, j9⟩) (by dsimp only [rm_L_cover, rm_X10_cover, rm_X10_thrown]; omega) (by dsimp only [rm_L_cover, rm_X10_cover, rm_X10_thrown]; omega)) (by repeat' first | exact trivial | rfl | constructor)
        · try simp only [cg_ge, cg_gt, cl_gt, cl_le, cl_eq, cl_lt, cl_ge, bi_eq0, bi_ne0, bI_eq0, Decidable.not_not, Bool.not_eq_false] at c_506
          first | refine w_aload_n C dL_law_509 (by rfl) ?_ | refine w_aload_nN C dL_law_509 (by rfl) ?_
          refine w_iconst (v := 0) C dL_law_510 (by rfl) ?_
          refine w_laldn (j := 0) C (hj_r (hj_r O1.1 (dBO3 _ _ O1.1)) (D2.mk9 dAB3 dAO1 _ _ (hj_r O1.1 (dBO3 _ _ O1.1)))) (by decide) (by decide) dL_law_511 ?_
          refine w_iload C dL_law_512 (by rfl) ?_
          refine w_if_eq (tgt := 521) C dL_law_514 (by rfl) (fun c_514 => ?_) (fun c_514 => ?_)
          · try simp only [cg_ge, cg_gt, cl_gt, cl_le, cl_eq, cl_lt, cl_ge, bi_eq0, bi_ne0, bI_eq0, Decidable.not_not, Bool.not_eq_false] at c_514
            refine w_lconst (v := 0) C dL_law_521 (by rfl) ?_
            refine w_lcmp C dL_law_522 ?_
            refine w_if_eq (tgt := 528) C dL_law_523 (by rfl) (fun c_523 => ?_) (fun c_523 => ?_)
            · try simp only [cg_ge, cg_gt, cl_gt, cl_le, cl_eq, cl_lt, cl_ge, bi_eq0, bi_ne0, bI_eq0, Decidable.not_not, Bool.not_eq_false] at c_523
              refine w_goto (tgt := 2002) C dL_law_528 (by rfl) ?_
              exact w_sub (w_widen (kk (c + 1) (Nat.le_refl _) _ ⟨_, _, _, _, _, _, rfl, dAB3, dAO1, dBO3, O1, j9⟩) (by dsimp only [rm_L_cover, rm_X10_cover, rm_X10_thrown]; omega) (by dsimp only [rm_L_cover, rm_X10_cover, rm_X10_thrown]; omega)) (by repeat' first | exact trivial | rfl | constructor)
            · exact absurd (by rw [e9 c_506, if_pos c_514]; exact lg_cmp_self _) c_523
          · try simp only [cg_ge, cg_gt, cl_gt, cl_le, cl_eq, cl_lt, cl_ge, bi_eq0, bi_ne0, bI_eq0, Decidable.not_not, Bool.not_eq_false] at c_514
            refine w_lconst (v := 1) C dL_law_517 (by rfl) ?_
            refine w_goto (tgt := 522) C dL_law_518 (by rfl) ?_
            refine w_lcmp C dL_law_522 ?_
            refine w_if_eq (tgt := 528) C dL_law_523 (by rfl) (fun c_523 => ?_) (fun c_523 => ?_)
            · try simp only [cg_ge, cg_gt, cl_gt, cl_le, cl_eq, cl_lt, cl_ge, bi_eq0, bi_ne0, bI_eq0, Decidable.not_not, Bool.not_eq_false] at c_523
              refine w_goto (tgt := 2002) C dL_law_528 (by rfl) ?_
              exact w_sub (w_widen (kk (c + 1) (Nat.le_refl _) _ ⟨_, _, _, _, _, _, rfl, dAB3, dAO1, dBO3, O1, j9⟩) (by dsimp only [rm_L_cover, rm_X10_cover, rm_X10_thrown]; omega) (by dsimp only [rm_L_cover, rm_X10_cover, rm_X10_thrown]; omega)) (by repeat' first | exact trivial | rfl | constructor)
            · exact absurd (by rw [e9 c_506, if_neg c_514]; exact lg_cmp_self _) c_523
      · exact absurd e3 c_499
    · exact absurd c_453 c_480
  · try simp only [cg_ge, cg_gt, cl_gt, cl_le, cl_eq, cl_lt, cl_ge, bi_eq0, bi_ne0, bI_eq0, Decidable.not_not, Bool.not_eq_false] at c_453
    refine w_iconst (v := 1) C dL_law_456 (by rfl) ?_
    refine w_goto (tgt := 461) C dL_law_457 (by rfl) ?_
    first | refine w_aload_n C dL_law_461 (by rfl) ?_ | refine w_aload_nN C dL_law_461 (by rfl) ?_
    obtain ⟨p9, px9, q9, hM1, hM2, hcd, j1, j2⟩ := jt_cover (D := KD K) hl j9 (i := (xs (i + 1).toNatClampNeg)) (b := true)
    refine w_SWI C hN (m_L_cover hl (D2.mk9 dAB dAO) hy (hj_r O.1 (dBO _ _ O.1)) hM1 hcd) gw_681 gw_682 gw_50 gw_683 (show okY yL_cover 4 = true by decide +kernel) (by rfl) ⟨by dsimp only [rm_L_cover, rm_X10_cover, rm_X10_thrown, room_1]; omega, by dsimp only [rm_L_cover, rm_X10_cover, rm_X10_thrown, room_1]; omega⟩ (by rfl) rfl dL_law_462 (fun k9 hw aw => ?_)
    obtain ⟨hA1, hO1, fL1, fD1, e1, dAB1, dAO1, dBO1, O1, aw2⟩ := la_L (g := (fun v => if v = 0 then 0 else 1)) dBO O aw
    subst e1
    refine w_istore_6 C dL_law_465 (by first | trivial | rfl) ?_
    first | refine w_aload_n C dL_law_467 (by rfl) ?_ | refine w_aload_nN C dL_law_467 (by rfl) ?_
    first | refine w_aload_n C dL_law_468 (by rfl) ?_ | refine w_aload_nN C dL_law_468 (by rfl) ?_
    refine w_iload C dL_law_469 (by rfl) ?_
    refine w_iconst (v := 1) C dL_law_471 (by rfl) ?_
    refine w_iadd C dL_law_472 ?_
    refine w_sld C X (v 1 (by decide) (by decide)) dL_law_473 ?_
    first | refine w_aload_n C dL_law_474 (by rfl) ?_ | refine w_aload_nN C dL_law_474 (by rfl) ?_
    refine w_iload C dL_law_475 (by rfl) ?_
    refine w_iconst (v := 2) C dL_law_477 (by rfl) ?_
    refine w_iadd C dL_law_478 ?_
    refine w_sld C X (v 2 (by decide) (by decide)) dL_law_479 ?_
    refine w_if_eq (tgt := 487) C dL_law_480 (by rfl) (fun c_480 => ?_) (fun c_480 => ?_)
    · exact absurd c_480 c_453
    · try simp only [cg_ge, cg_gt, cl_gt, cl_le, cl_eq, cl_lt, cl_ge, bi_eq0, bi_ne0, bI_eq0, Decidable.not_not, Bool.not_eq_false] at c_480
      refine w_iconst (v := 1) C dL_law_483 (by rfl) ?_
      refine w_goto (tgt := 488) C dL_law_484 (by rfl) ?_
      refine cl_L_124 C (CT.fBI dAB1 dAO1 dBO1 hM2) (hj_r (hj_l hm) (dAB1 _ _ hm)) (by rfl) (by rfl) ⟨by dsimp only [rm_L_cover, rm_X10_cover, rm_X10_thrown, room_1]; omega, by dsimp only [rm_L_cover, rm_X10_cover, rm_X10_thrown, room_1]; omega⟩ (by rfl) dL_law_488 (fun z2 h3 p3 => ?_)
      obtain ⟨hB1, hq, e1, dAB2, dBO2⟩ := p3
      subst e1
      obtain ⟨j9, e9⟩ := la_J (by decide +kernel) j1 j2 aw2 hq
      have e9 : k9 = 0 → fL1 0 = if z2 = 0 then 0 else 1 := e9
      obtain ⟨fs2, hm⟩ := j9.m
      refine w_istore_7 C dL_law_491 (by first | trivial | rfl) ?_
      first | refine w_aload_n C dL_law_493 (by rfl) ?_ | refine w_aload_nN C dL_law_493 (by rfl) ?_
      refine cl_L_110 C (CT.fBI dAB2 dAO1 dBO2 (jt_thrown hl j9)) (hj_r (hj_l hm) (dAB2 _ _ hm)) (by rfl) (by rfl) ⟨by dsimp only [rm_L_cover, rm_X10_cover, rm_X10_thrown, room_1]; omega, by dsimp only [rm_L_cover, rm_X10_cover, rm_X10_thrown, room_1]; omega⟩ (by rfl) dL_law_494 (fun z3 h4 p4 => ?_)
      obtain ⟨hB2, ⟨e1, e3⟩, e2, dAB3, dBO3⟩ := p4
      subst e1
      subst e2
      refine w_iload C dL_law_497 (by rfl) ?_
      refine w_icmp_eq (tgt := 504) C dL_law_499 (by rfl) (fun c_499 => ?_) (fun c_499 => ?_)
      · refine w_iload C dL_law_504 (by rfl) ?_
        refine w_if_ne (tgt := 528) C dL_law_506 (by rfl) (fun c_506 => ?_) (fun c_506 => ?_)
        · try simp only [cg_ge, cg_gt, cl_gt, cl_le, cl_eq, cl_lt, cl_ge, bi_eq0, bi_ne0, bI_eq0, Decidable.not_not, Bool.not_eq_false] at c_506
          refine w_goto (tgt := 2002) C dL_law_528 (by rfl) ?_
          exact w_sub (w_widen (kk (c + 1) (Nat.le_refl _) _ ⟨_, _, _, _, _, _, rfl, dAB3, dAO1, dBO3, O1, j9⟩) (by dsimp only [rm_L_cover, rm_X10_cover, rm_X10_thrown]; omega) (by dsimp only [rm_L_cover, rm_X10_cover, rm_X10_thrown]; omega)) (by repeat' first | exact trivial | rfl | constructor)
        · try simp only [cg_ge, cg_gt, cl_gt, cl_le, cl_eq, cl_lt, cl_ge, bi_eq0, bi_ne0, bI_eq0, Decidable.not_not, Bool.not_eq_false] at c_506
          first | refine w_aload_n C dL_law_509 (by rfl) ?_ | refine w_aload_nN C dL_law_509 (by rfl) ?_
          refine w_iconst (v := 0) C dL_law_510 (by rfl) ?_
          refine w_laldn (j := 0) C (hj_r (hj_r O1.1 (dBO3 _ _ O1.1)) (D2.mk9 dAB3 dAO1 _ _ (hj_r O1.1 (dBO3 _ _ O1.1)))) (by decide) (by decide) dL_law_511 ?_
          refine w_iload C dL_law_512 (by rfl) ?_
          refine w_if_eq (tgt := 521) C dL_law_514 (by rfl) (fun c_514 => ?_) (fun c_514 => ?_)
          · try simp only [cg_ge, cg_gt, cl_gt, cl_le, cl_eq, cl_lt, cl_ge, bi_eq0, bi_ne0, bI_eq0, Decidable.not_not, Bool.not_eq_false] at c_514
            refine w_lconst (v := 0) C dL_law_521 (by rfl) ?_
            refine w_lcmp C dL_law_522 ?_
            refine w_if_eq (tgt := 528) C dL_law_523 (by rfl) (fun c_523 => ?_) (fun c_523 => ?_)
            · try simp only [cg_ge, cg_gt, cl_gt, cl_le, cl_eq, cl_lt, cl_ge, bi_eq0, bi_ne0, bI_eq0, Decidable.not_not, Bool.not_eq_false] at c_523
              refine w_goto (tgt := 2002) C dL_law_528 (by rfl) ?_
              exact w_sub (w_widen (kk (c + 1) (Nat.le_refl _) _ ⟨_, _, _, _, _, _, rfl, dAB3, dAO1, dBO3, O1, j9⟩) (by dsimp only [rm_L_cover, rm_X10_cover, rm_X10_thrown]; omega) (by dsimp only [rm_L_cover, rm_X10_cover, rm_X10_thrown]; omega)) (by repeat' first | exact trivial | rfl | constructor)
            · exact absurd (by rw [e9 c_506, if_pos c_514]; exact lg_cmp_self _) c_523
          · try simp only [cg_ge, cg_gt, cl_gt, cl_le, cl_eq, cl_lt, cl_ge, bi_eq0, bi_ne0, bI_eq0, Decidable.not_not, Bool.not_eq_false] at c_514
            refine w_lconst (v := 1) C dL_law_517 (by rfl) ?_
            refine w_goto (tgt := 522) C dL_law_518 (by rfl) ?_
            refine w_lcmp C dL_law_522 ?_
            refine w_if_eq (tgt := 528) C dL_law_523 (by rfl) (fun c_523 => ?_) (fun c_523 => ?_)
            · try simp only [cg_ge, cg_gt, cl_gt, cl_le, cl_eq, cl_lt, cl_ge, bi_eq0, bi_ne0, bI_eq0, Decidable.not_not, Bool.not_eq_false] at c_523
              refine w_goto (tgt := 2002) C dL_law_528 (by rfl) ?_
              exact w_sub (w_widen (kk (c + 1) (Nat.le_refl _) _ ⟨_, _, _, _, _, _, rfl, dAB3, dAO1, dBO3, O1, j9⟩) (by dsimp only [rm_L_cover, rm_X10_cover, rm_X10_thrown]; omega) (by dsimp only [rm_L_cover, rm_X10_cover, rm_X10_thrown]; omega)) (by repeat' first | exact trivial | rfl | constructor)
            · exact absurd (by rw [e9 c_506, if_neg c_514]; exact lg_cmp_self _) c_523
      · exact absurd e3 c_499

set_option maxHeartbeats 4000000 in
set_option maxRecDepth 100000 in
theorem lr_dry {K : KC} (C : CX K RL cL_law 9 room_1) (hl : (Kl K).stackTraces = false) (hN : NCs (Ks K)) {n : Nat × Nat} (n1 : n.1 + 1000 ≤ 757560) (n2 : n.2 + 5000 ≤ 6823425) {b L y0 m0 o3 o4 kl wk c : Nat} {xs : Nat → Int32} (X : LX K b L xs) {i : Int32} (v : ∀ k : Int32, 0 ≤ k.toInt → k.toInt ≤ 5 → vp_in (i + k) L) (hc5 : c ≤ 519) {h : HM} (J : LJ (Kt K) y0 m0 o3 o4 kl wk c h)
    (kk : ∀ (c' : Nat), c' ≤ c + 1 → ∀ h' : HM, LJ (Kt K) y0 m0 o3 o4 kl wk c' h' → WW K (n.1 + 1000, n.2 + 5000) 2002 [some (.ref b), some (.ref y0), some (.ref m0), some (.ref o3), some (.ref o4), some (.int i), none, none, none] [] h') : WW K n 531 [some (.ref b), some (.ref y0), some (.ref m0), some (.ref o3), some (.ref o4), some (.int i), none, none, none] [] h := by
  obtain ⟨hA, hB, hO, fL, fD, th, rfl, dAB, dAO, dBO, O, j9⟩ := J
  obtain ⟨fs1, hy⟩ := j9.y
  obtain ⟨fs2, hm⟩ := j9.m
  first | refine w_aload_n C dL_law_531 (by rfl) ?_ | refine w_aload_nN C dL_law_531 (by rfl) ?_
  first | refine w_aload_n C dL_law_532 (by rfl) ?_ | refine w_aload_nN C dL_law_532 (by rfl) ?_
  refine w_iload C dL_law_533 (by rfl) ?_
  refine w_iconst (v := 1) C dL_law_535 (by rfl) ?_
  refine w_iadd C dL_law_536 ?_
  refine w_sld C X (v 1 (by decide) (by decide)) dL_law_537 ?_
  first | refine w_aload_n C dL_law_538 (by rfl) ?_ | refine w_aload_nN C dL_law_538 (by rfl) ?_
  refine w_iload C dL_law_539 (by rfl) ?_
  refine w_iconst (v := 2) C dL_law_541 (by rfl) ?_
  refine w_iadd C dL_law_542 ?_
  refine w_sld C X (v 2 (by decide) (by decide)) dL_law_543 ?_
  first | refine w_aload_n C dL_law_544 (by rfl) ?_ | refine w_aload_nN C dL_law_544 (by rfl) ?_
  obtain ⟨p9, px9, q9, hM1, hM2, hcd, j1, j2⟩ := jt_dry (D := KD K) hl j9 (ds := (xs (i + 1).toNatClampNeg)) (air := (xs (i + 2).toNatClampNeg))
  refine w_SWI C hN (m_L_dry hl (D2.mk9 dAB dAO) hy (hj_r O.1 (dBO _ _ O.1)) hM1 hcd) gw_688 gw_689 gw_50 gw_690 (show okY yL_dry 4 = true by decide +kernel) (by rfl) ⟨by dsimp only [rm_L_dry, rm_X10_dry, rm_X10_thrown, room_1]; omega, by dsimp only [rm_L_dry, rm_X10_dry, rm_X10_thrown, room_1]; omega⟩ (by rfl) rfl dL_law_545 (fun k9 hw aw => ?_)
  obtain ⟨hA1, hO1, fL1, fD1, e1, dAB1, dAO1, dBO1, O1, aw2⟩ := la_L (g := (fun v => v.toInt64)) dBO O aw
  subst e1
  refine w_istore_6 C dL_law_548 (by first | trivial | rfl) ?_
  first | refine w_aload_n C dL_law_550 (by rfl) ?_ | refine w_aload_nN C dL_law_550 (by rfl) ?_
  first | refine w_aload_n C dL_law_551 (by rfl) ?_ | refine w_aload_nN C dL_law_551 (by rfl) ?_
  refine w_iload C dL_law_552 (by rfl) ?_
  refine w_iconst (v := 1) C dL_law_554 (by rfl) ?_
  refine w_iadd C dL_law_555 ?_
  refine w_sld C X (v 1 (by decide) (by decide)) dL_law_556 ?_
  first | refine w_aload_n C dL_law_557 (by rfl) ?_ | refine w_aload_nN C dL_law_557 (by rfl) ?_
  refine w_iload C dL_law_558 (by rfl) ?_
  refine w_iconst (v := 2) C dL_law_560 (by rfl) ?_
  refine w_iadd C dL_law_561 ?_
  refine w_sld C X (v 2 (by decide) (by decide)) dL_law_562 ?_
  refine cl_L_127 C (CT.fBI dAB1 dAO1 dBO1 hM2) (hj_r (hj_l hm) (dAB1 _ _ hm)) (by rfl) (by rfl) ⟨by dsimp only [rm_L_dry, rm_X10_dry, rm_X10_thrown, room_1]; omega, by dsimp only [rm_L_dry, rm_X10_dry, rm_X10_thrown, room_1]; omega⟩ (by rfl) dL_law_563 (fun z2 h1 p1 => ?_)
  obtain ⟨hB1, hq, e1, dAB2, dBO2⟩ := p1
  subst e1
  obtain ⟨j9, e9⟩ := la_J (by decide +kernel) j1 j2 aw2 hq
  have e9 : k9 = 0 → fL1 0 = z2.toInt64 := e9
  obtain ⟨fs2, hm⟩ := j9.m
  refine w_istore_7 C dL_law_566 (by first | trivial | rfl) ?_
  first | refine w_aload_n C dL_law_568 (by rfl) ?_ | refine w_aload_nN C dL_law_568 (by rfl) ?_
  refine cl_L_110 C (CT.fBI dAB2 dAO1 dBO2 (jt_thrown hl j9)) (hj_r (hj_l hm) (dAB2 _ _ hm)) (by rfl) (by rfl) ⟨by dsimp only [rm_L_dry, rm_X10_dry, rm_X10_thrown, room_1]; omega, by dsimp only [rm_L_dry, rm_X10_dry, rm_X10_thrown, room_1]; omega⟩ (by rfl) dL_law_569 (fun z3 h2 p2 => ?_)
  obtain ⟨hB2, ⟨e1, e3⟩, e2, dAB3, dBO3⟩ := p2
  subst e1
  subst e2
  refine w_iload C dL_law_572 (by rfl) ?_
  refine w_icmp_eq (tgt := 579) C dL_law_574 (by rfl) (fun c_574 => ?_) (fun c_574 => ?_)
  · refine w_iload C dL_law_579 (by rfl) ?_
    refine w_if_ne (tgt := 596) C dL_law_581 (by rfl) (fun c_581 => ?_) (fun c_581 => ?_)
    · try simp only [cg_ge, cg_gt, cl_gt, cl_le, cl_eq, cl_lt, cl_ge, bi_eq0, bi_ne0, bI_eq0, Decidable.not_not, Bool.not_eq_false] at c_581
      refine w_goto (tgt := 2002) C dL_law_596 (by rfl) ?_
      exact w_sub (w_widen (kk (c + 1) (Nat.le_refl _) _ ⟨_, _, _, _, _, _, rfl, dAB3, dAO1, dBO3, O1, j9⟩) (by dsimp only [rm_L_dry, rm_X10_dry, rm_X10_thrown]; omega) (by dsimp only [rm_L_dry, rm_X10_dry, rm_X10_thrown]; omega)) (by repeat' first | exact trivial | rfl | constructor)
    · try simp only [cg_ge, cg_gt, cl_gt, cl_le, cl_eq, cl_lt, cl_ge, bi_eq0, bi_ne0, bI_eq0, Decidable.not_not, Bool.not_eq_false] at c_581
      first | refine w_aload_n C dL_law_584 (by rfl) ?_ | refine w_aload_nN C dL_law_584 (by rfl) ?_
      refine w_iconst (v := 0) C dL_law_585 (by rfl) ?_
      refine w_laldn (j := 0) C (hj_r (hj_r O1.1 (dBO3 _ _ O1.1)) (D2.mk9 dAB3 dAO1 _ _ (hj_r O1.1 (dBO3 _ _ O1.1)))) (by decide) (by decide) dL_law_586 ?_
      refine w_iload C dL_law_587 (by rfl) ?_
      refine w_i2l C dL_law_589 ?_
      refine w_lcmp C dL_law_590 ?_
      refine w_if_eq (tgt := 596) C dL_law_591 (by rfl) (fun c_591 => ?_) (fun c_591 => ?_)
      · try simp only [cg_ge, cg_gt, cl_gt, cl_le, cl_eq, cl_lt, cl_ge, bi_eq0, bi_ne0, bI_eq0, Decidable.not_not, Bool.not_eq_false] at c_591
        refine w_goto (tgt := 2002) C dL_law_596 (by rfl) ?_
        exact w_sub (w_widen (kk (c + 1) (Nat.le_refl _) _ ⟨_, _, _, _, _, _, rfl, dAB3, dAO1, dBO3, O1, j9⟩) (by dsimp only [rm_L_dry, rm_X10_dry, rm_X10_thrown]; omega) (by dsimp only [rm_L_dry, rm_X10_dry, rm_X10_thrown]; omega)) (by repeat' first | exact trivial | rfl | constructor)
      · exact absurd (by rw [e9 c_581]; exact lg_cmp_self _) c_591
  · exact absurd e3 c_574

set_option maxHeartbeats 4000000 in
set_option maxRecDepth 100000 in
theorem lr_dip {K : KC} (C : CX K RL cL_law 9 room_1) (hl : (Kl K).stackTraces = false) (hN : NCs (Ks K)) {n : Nat × Nat} (n1 : n.1 + 1000 ≤ 757560) (n2 : n.2 + 5000 ≤ 6823425) {b L y0 m0 o3 o4 kl wk c : Nat} {xs : Nat → Int32} (X : LX K b L xs) {i : Int32} (v : ∀ k : Int32, 0 ≤ k.toInt → k.toInt ≤ 5 → vp_in (i + k) L) (hc5 : c ≤ 519) {h : HM} (J : LJ (Kt K) y0 m0 o3 o4 kl wk c h)
    (kk : ∀ (c' : Nat), c' ≤ c + 1 → ∀ h' : HM, LJ (Kt K) y0 m0 o3 o4 kl wk c' h' → WW K (n.1 + 1000, n.2 + 5000) 2002 [some (.ref b), some (.ref y0), some (.ref m0), some (.ref o3), some (.ref o4), some (.int i), none, none, none] [] h') : WW K n 599 [some (.ref b), some (.ref y0), some (.ref m0), some (.ref o3), some (.ref o4), some (.int i), none, none, none] [] h := by
  obtain ⟨hA, hB, hO, fL, fD, th, rfl, dAB, dAO, dBO, O, j9⟩ := J
  obtain ⟨fs1, hy⟩ := j9.y
  obtain ⟨fs2, hm⟩ := j9.m
  first | refine w_aload_n C dL_law_599 (by rfl) ?_ | refine w_aload_nN C dL_law_599 (by rfl) ?_
  first | refine w_aload_n C dL_law_600 (by rfl) ?_ | refine w_aload_nN C dL_law_600 (by rfl) ?_
  refine w_iload C dL_law_601 (by rfl) ?_
  refine w_iconst (v := 1) C dL_law_603 (by rfl) ?_
  refine w_iadd C dL_law_604 ?_
  refine w_sld C X (v 1 (by decide) (by decide)) dL_law_605 ?_
  first | refine w_aload_n C dL_law_606 (by rfl) ?_ | refine w_aload_nN C dL_law_606 (by rfl) ?_
  refine w_iload C dL_law_607 (by rfl) ?_
  refine w_iconst (v := 2) C dL_law_609 (by rfl) ?_
  refine w_iadd C dL_law_610 ?_
  refine w_sld C X (v 2 (by decide) (by decide)) dL_law_611 ?_
  first | refine w_aload_n C dL_law_612 (by rfl) ?_ | refine w_aload_nN C dL_law_612 (by rfl) ?_
  obtain ⟨p9, px9, q9, hM1, hM2, hcd, j1, j2⟩ := jt_dip (D := KD K) hl j9 (i := (xs (i + 1).toNatClampNeg)) (gl := (xs (i + 2).toNatClampNeg))
  refine w_SWI C hN (m_L_dip hl (D2.mk9 dAB dAO) hy (hj_r O.1 (dBO _ _ O.1)) hM1 hcd) gw_707 gw_708 gw_50 gw_709 (show okY yL_dip 4 = true by decide +kernel) (by rfl) ⟨by dsimp only [rm_L_dip, rm_X10_dip, rm_X10_thrown, room_1]; omega, by dsimp only [rm_L_dip, rm_X10_dip, rm_X10_thrown, room_1]; omega⟩ (by rfl) rfl dL_law_613 (fun k9 hw aw => ?_)
  obtain ⟨hA1, hO1, fL1, fD1, e1, dAB1, dAO1, dBO1, O1, aw2⟩ := la_L (g := (fun v => v.toInt64)) dBO O aw
  subst e1
  refine w_istore_6 C dL_law_616 (by first | trivial | rfl) ?_
  first | refine w_aload_n C dL_law_618 (by rfl) ?_ | refine w_aload_nN C dL_law_618 (by rfl) ?_
  first | refine w_aload_n C dL_law_619 (by rfl) ?_ | refine w_aload_nN C dL_law_619 (by rfl) ?_
  refine w_iload C dL_law_620 (by rfl) ?_
  refine w_iconst (v := 1) C dL_law_622 (by rfl) ?_
  refine w_iadd C dL_law_623 ?_
  refine w_sld C X (v 1 (by decide) (by decide)) dL_law_624 ?_
  first | refine w_aload_n C dL_law_625 (by rfl) ?_ | refine w_aload_nN C dL_law_625 (by rfl) ?_
  refine w_iload C dL_law_626 (by rfl) ?_
  refine w_iconst (v := 2) C dL_law_628 (by rfl) ?_
  refine w_iadd C dL_law_629 ?_
  refine w_sld C X (v 2 (by decide) (by decide)) dL_law_630 ?_
  refine cl_L_130 C (CT.fBI dAB1 dAO1 dBO1 hM2) (hj_r (hj_l hm) (dAB1 _ _ hm)) (by rfl) (by rfl) ⟨by dsimp only [rm_L_dip, rm_X10_dip, rm_X10_thrown, room_1]; omega, by dsimp only [rm_L_dip, rm_X10_dip, rm_X10_thrown, room_1]; omega⟩ (by rfl) dL_law_631 (fun z2 h1 p1 => ?_)
  obtain ⟨hB1, hq, e1, dAB2, dBO2⟩ := p1
  subst e1
  obtain ⟨j9, e9⟩ := la_J (by decide +kernel) j1 j2 aw2 hq
  have e9 : k9 = 0 → fL1 0 = z2.toInt64 := e9
  obtain ⟨fs2, hm⟩ := j9.m
  refine w_istore_7 C dL_law_634 (by first | trivial | rfl) ?_
  first | refine w_aload_n C dL_law_636 (by rfl) ?_ | refine w_aload_nN C dL_law_636 (by rfl) ?_
  refine cl_L_110 C (CT.fBI dAB2 dAO1 dBO2 (jt_thrown hl j9)) (hj_r (hj_l hm) (dAB2 _ _ hm)) (by rfl) (by rfl) ⟨by dsimp only [rm_L_dip, rm_X10_dip, rm_X10_thrown, room_1]; omega, by dsimp only [rm_L_dip, rm_X10_dip, rm_X10_thrown, room_1]; omega⟩ (by rfl) dL_law_637 (fun z3 h2 p2 => ?_)
  obtain ⟨hB2, ⟨e1, e3⟩, e2, dAB3, dBO3⟩ := p2
  subst e1
  subst e2
  refine w_iload C dL_law_640 (by rfl) ?_
  refine w_icmp_eq (tgt := 647) C dL_law_642 (by rfl) (fun c_642 => ?_) (fun c_642 => ?_)
  · refine w_iload C dL_law_647 (by rfl) ?_
    refine w_if_ne (tgt := 664) C dL_law_649 (by rfl) (fun c_649 => ?_) (fun c_649 => ?_)
    · try simp only [cg_ge, cg_gt, cl_gt, cl_le, cl_eq, cl_lt, cl_ge, bi_eq0, bi_ne0, bI_eq0, Decidable.not_not, Bool.not_eq_false] at c_649
      refine w_goto (tgt := 2002) C dL_law_664 (by rfl) ?_
      exact w_sub (w_widen (kk (c + 1) (Nat.le_refl _) _ ⟨_, _, _, _, _, _, rfl, dAB3, dAO1, dBO3, O1, j9⟩) (by dsimp only [rm_L_dip, rm_X10_dip, rm_X10_thrown]; omega) (by dsimp only [rm_L_dip, rm_X10_dip, rm_X10_thrown]; omega)) (by repeat' first | exact trivial | rfl | constructor)
    · try simp only [cg_ge, cg_gt, cl_gt, cl_le, cl_eq, cl_lt, cl_ge, bi_eq0, bi_ne0, bI_eq0, Decidable.not_not, Bool.not_eq_false] at c_649
      first | refine w_aload_n C dL_law_652 (by rfl) ?_ | refine w_aload_nN C dL_law_652 (by rfl) ?_
      refine w_iconst (v := 0) C dL_law_653 (by rfl) ?_
      refine w_laldn (j := 0) C (hj_r (hj_r O1.1 (dBO3 _ _ O1.1)) (D2.mk9 dAB3 dAO1 _ _ (hj_r O1.1 (dBO3 _ _ O1.1)))) (by decide) (by decide) dL_law_654 ?_
      refine w_iload C dL_law_655 (by rfl) ?_
      refine w_i2l C dL_law_657 ?_
      refine w_lcmp C dL_law_658 ?_
      refine w_if_eq (tgt := 664) C dL_law_659 (by rfl) (fun c_659 => ?_) (fun c_659 => ?_)
      · try simp only [cg_ge, cg_gt, cl_gt, cl_le, cl_eq, cl_lt, cl_ge, bi_eq0, bi_ne0, bI_eq0, Decidable.not_not, Bool.not_eq_false] at c_659
        refine w_goto (tgt := 2002) C dL_law_664 (by rfl) ?_
        exact w_sub (w_widen (kk (c + 1) (Nat.le_refl _) _ ⟨_, _, _, _, _, _, rfl, dAB3, dAO1, dBO3, O1, j9⟩) (by dsimp only [rm_L_dip, rm_X10_dip, rm_X10_thrown]; omega) (by dsimp only [rm_L_dip, rm_X10_dip, rm_X10_thrown]; omega)) (by repeat' first | exact trivial | rfl | constructor)
      · exact absurd (by rw [e9 c_649]; exact lg_cmp_self _) c_659
  · exact absurd e3 c_642

set_option maxHeartbeats 4000000 in
set_option maxRecDepth 100000 in
theorem lr_set {K : KC} (C : CX K RL cL_law 9 room_1) (hl : (Kl K).stackTraces = false) (hN : NCs (Ks K)) {n : Nat × Nat} (n1 : n.1 + 1000 ≤ 757560) (n2 : n.2 + 5000 ≤ 6823425) {b L y0 m0 o3 o4 kl wk c : Nat} {xs : Nat → Int32} (X : LX K b L xs) {i : Int32} (v : ∀ k : Int32, 0 ≤ k.toInt → k.toInt ≤ 5 → vp_in (i + k) L) (hc5 : c ≤ 519) {h : HM} (J : LJ (Kt K) y0 m0 o3 o4 kl wk c h)
    (kk : ∀ (c' : Nat), c' ≤ c + 1 → ∀ h' : HM, LJ (Kt K) y0 m0 o3 o4 kl wk c' h' → WW K (n.1 + 1000, n.2 + 5000) 2002 [some (.ref b), some (.ref y0), some (.ref m0), some (.ref o3), some (.ref o4), some (.int i), none, none, none] [] h') : WW K n 667 [some (.ref b), some (.ref y0), some (.ref m0), some (.ref o3), some (.ref o4), some (.int i), none, none, none] [] h := by
  obtain ⟨hA, hB, hO, fL, fD, th, rfl, dAB, dAO, dBO, O, j9⟩ := J
  obtain ⟨fs1, hy⟩ := j9.y
  obtain ⟨fs2, hm⟩ := j9.m
  first | refine w_aload_n C dL_law_667 (by rfl) ?_ | refine w_aload_nN C dL_law_667 (by rfl) ?_
  first | refine w_aload_n C dL_law_668 (by rfl) ?_ | refine w_aload_nN C dL_law_668 (by rfl) ?_
  refine w_iload C dL_law_669 (by rfl) ?_
  refine w_iconst (v := 1) C dL_law_671 (by rfl) ?_
  refine w_iadd C dL_law_672 ?_
  refine w_sld C X (v 1 (by decide) (by decide)) dL_law_673 ?_
  first | refine w_aload_n C dL_law_674 (by rfl) ?_ | refine w_aload_nN C dL_law_674 (by rfl) ?_
  refine w_iload C dL_law_675 (by rfl) ?_
  refine w_iconst (v := 2) C dL_law_677 (by rfl) ?_
  refine w_iadd C dL_law_678 ?_
  refine w_sld C X (v 2 (by decide) (by decide)) dL_law_679 ?_
  first | refine w_aload_n C dL_law_680 (by rfl) ?_ | refine w_aload_nN C dL_law_680 (by rfl) ?_
  refine w_iload C dL_law_681 (by rfl) ?_
  refine w_iconst (v := 3) C dL_law_683 (by rfl) ?_
  refine w_iadd C dL_law_684 ?_
  refine w_sld C X (v 3 (by decide) (by decide)) dL_law_685 ?_
  first | refine w_aload_n C dL_law_686 (by rfl) ?_ | refine w_aload_nN C dL_law_686 (by rfl) ?_
  obtain ⟨p9, px9, q9, hM1, hM2, hcd, j1, j2⟩ := jt_set (D := KD K) hl j9 (i := (xs (i + 1).toNatClampNeg)) (sh := (xs (i + 2).toNatClampNeg)) (ce := (xs (i + 3).toNatClampNeg))
  refine w_SWI C hN (m_L_set hl (D2.mk9 dAB dAO) hy (hj_r O.1 (dBO _ _ O.1)) hM1 hcd) gw_715 gw_716 gw_50 gw_717 (show okY yL_set 5 = true by decide +kernel) (by rfl) ⟨by dsimp only [rm_L_set, rm_X10_set, rm_X10_thrown, room_1]; omega, by dsimp only [rm_L_set, rm_X10_set, rm_X10_thrown, room_1]; omega⟩ (by rfl) rfl dL_law_687 (fun k9 hw aw => ?_)
  obtain ⟨hA1, hO1, fL1, fD1, e1, dAB1, dAO1, dBO1, O1, aw2⟩ := la_L (g := (fun v => v.toInt64)) dBO O aw
  subst e1
  refine w_istore_6 C dL_law_690 (by first | trivial | rfl) ?_
  first | refine w_aload_n C dL_law_692 (by rfl) ?_ | refine w_aload_nN C dL_law_692 (by rfl) ?_
  first | refine w_aload_n C dL_law_693 (by rfl) ?_ | refine w_aload_nN C dL_law_693 (by rfl) ?_
  refine w_iload C dL_law_694 (by rfl) ?_
  refine w_iconst (v := 1) C dL_law_696 (by rfl) ?_
  refine w_iadd C dL_law_697 ?_
  refine w_sld C X (v 1 (by decide) (by decide)) dL_law_698 ?_
  first | refine w_aload_n C dL_law_699 (by rfl) ?_ | refine w_aload_nN C dL_law_699 (by rfl) ?_
  refine w_iload C dL_law_700 (by rfl) ?_
  refine w_iconst (v := 2) C dL_law_702 (by rfl) ?_
  refine w_iadd C dL_law_703 ?_
  refine w_sld C X (v 2 (by decide) (by decide)) dL_law_704 ?_
  first | refine w_aload_n C dL_law_705 (by rfl) ?_ | refine w_aload_nN C dL_law_705 (by rfl) ?_
  refine w_iload C dL_law_706 (by rfl) ?_
  refine w_iconst (v := 3) C dL_law_708 (by rfl) ?_
  refine w_iadd C dL_law_709 ?_
  refine w_sld C X (v 3 (by decide) (by decide)) dL_law_710 ?_
  refine cl_L_134 C (CT.fBI dAB1 dAO1 dBO1 hM2) (hj_r (hj_l hm) (dAB1 _ _ hm)) (by rfl) (by rfl) ⟨by dsimp only [rm_L_set, rm_X10_set, rm_X10_thrown, room_1]; omega, by dsimp only [rm_L_set, rm_X10_set, rm_X10_thrown, room_1]; omega⟩ (by rfl) dL_law_711 (fun z2 h1 p1 => ?_)
  obtain ⟨hB1, hq, e1, dAB2, dBO2⟩ := p1
  subst e1
  obtain ⟨j9, e9⟩ := la_J (by decide +kernel) j1 j2 aw2 hq
  have e9 : k9 = 0 → fL1 0 = z2.toInt64 := e9
  obtain ⟨fs2, hm⟩ := j9.m
  refine w_istore_7 C dL_law_714 (by first | trivial | rfl) ?_
  first | refine w_aload_n C dL_law_716 (by rfl) ?_ | refine w_aload_nN C dL_law_716 (by rfl) ?_
  refine cl_L_110 C (CT.fBI dAB2 dAO1 dBO2 (jt_thrown hl j9)) (hj_r (hj_l hm) (dAB2 _ _ hm)) (by rfl) (by rfl) ⟨by dsimp only [rm_L_set, rm_X10_set, rm_X10_thrown, room_1]; omega, by dsimp only [rm_L_set, rm_X10_set, rm_X10_thrown, room_1]; omega⟩ (by rfl) dL_law_717 (fun z3 h2 p2 => ?_)
  obtain ⟨hB2, ⟨e1, e3⟩, e2, dAB3, dBO3⟩ := p2
  subst e1
  subst e2
  refine w_iload C dL_law_720 (by rfl) ?_
  refine w_icmp_eq (tgt := 727) C dL_law_722 (by rfl) (fun c_722 => ?_) (fun c_722 => ?_)
  · refine w_iload C dL_law_727 (by rfl) ?_
    refine w_if_ne (tgt := 744) C dL_law_729 (by rfl) (fun c_729 => ?_) (fun c_729 => ?_)
    · try simp only [cg_ge, cg_gt, cl_gt, cl_le, cl_eq, cl_lt, cl_ge, bi_eq0, bi_ne0, bI_eq0, Decidable.not_not, Bool.not_eq_false] at c_729
      refine w_goto (tgt := 2002) C dL_law_744 (by rfl) ?_
      exact w_sub (w_widen (kk (c + 1) (Nat.le_refl _) _ ⟨_, _, _, _, _, _, rfl, dAB3, dAO1, dBO3, O1, j9⟩) (by dsimp only [rm_L_set, rm_X10_set, rm_X10_thrown]; omega) (by dsimp only [rm_L_set, rm_X10_set, rm_X10_thrown]; omega)) (by repeat' first | exact trivial | rfl | constructor)
    · try simp only [cg_ge, cg_gt, cl_gt, cl_le, cl_eq, cl_lt, cl_ge, bi_eq0, bi_ne0, bI_eq0, Decidable.not_not, Bool.not_eq_false] at c_729
      first | refine w_aload_n C dL_law_732 (by rfl) ?_ | refine w_aload_nN C dL_law_732 (by rfl) ?_
      refine w_iconst (v := 0) C dL_law_733 (by rfl) ?_
      refine w_laldn (j := 0) C (hj_r (hj_r O1.1 (dBO3 _ _ O1.1)) (D2.mk9 dAB3 dAO1 _ _ (hj_r O1.1 (dBO3 _ _ O1.1)))) (by decide) (by decide) dL_law_734 ?_
      refine w_iload C dL_law_735 (by rfl) ?_
      refine w_i2l C dL_law_737 ?_
      refine w_lcmp C dL_law_738 ?_
      refine w_if_eq (tgt := 744) C dL_law_739 (by rfl) (fun c_739 => ?_) (fun c_739 => ?_)
      · try simp only [cg_ge, cg_gt, cl_gt, cl_le, cl_eq, cl_lt, cl_ge, bi_eq0, bi_ne0, bI_eq0, Decidable.not_not, Bool.not_eq_false] at c_739
        refine w_goto (tgt := 2002) C dL_law_744 (by rfl) ?_
        exact w_sub (w_widen (kk (c + 1) (Nat.le_refl _) _ ⟨_, _, _, _, _, _, rfl, dAB3, dAO1, dBO3, O1, j9⟩) (by dsimp only [rm_L_set, rm_X10_set, rm_X10_thrown]; omega) (by dsimp only [rm_L_set, rm_X10_set, rm_X10_thrown]; omega)) (by repeat' first | exact trivial | rfl | constructor)
      · exact absurd (by rw [e9 c_729]; exact lg_cmp_self _) c_739
  · exact absurd e3 c_722

set_option maxHeartbeats 4000000 in
set_option maxRecDepth 100000 in
theorem lr_take {K : KC} (C : CX K RL cL_law 9 room_1) (hl : (Kl K).stackTraces = false) (hN : NCs (Ks K)) {n : Nat × Nat} (n1 : n.1 + 1000 ≤ 757560) (n2 : n.2 + 5000 ≤ 6823425) {b L y0 m0 o3 o4 kl wk c : Nat} {xs : Nat → Int32} (X : LX K b L xs) {i : Int32} (v : ∀ k : Int32, 0 ≤ k.toInt → k.toInt ≤ 5 → vp_in (i + k) L) (hc5 : c ≤ 519) {h : HM} (J : LJ (Kt K) y0 m0 o3 o4 kl wk c h)
    (kk : ∀ (c' : Nat), c' ≤ c + 1 → ∀ h' : HM, LJ (Kt K) y0 m0 o3 o4 kl wk c' h' → WW K (n.1 + 1000, n.2 + 5000) 2002 [some (.ref b), some (.ref y0), some (.ref m0), some (.ref o3), some (.ref o4), some (.int i), none, none, none] [] h') : WW K n 747 [some (.ref b), some (.ref y0), some (.ref m0), some (.ref o3), some (.ref o4), some (.int i), none, none, none] [] h := by
  obtain ⟨hA, hB, hO, fL, fD, th, rfl, dAB, dAO, dBO, O, j9⟩ := J
  obtain ⟨fs1, hy⟩ := j9.y
  obtain ⟨fs2, hm⟩ := j9.m
  first | refine w_aload_n C dL_law_747 (by rfl) ?_ | refine w_aload_nN C dL_law_747 (by rfl) ?_
  first | refine w_aload_n C dL_law_748 (by rfl) ?_ | refine w_aload_nN C dL_law_748 (by rfl) ?_
  refine w_iload C dL_law_749 (by rfl) ?_
  refine w_iconst (v := 1) C dL_law_751 (by rfl) ?_
  refine w_iadd C dL_law_752 ?_
  refine w_sld C X (v 1 (by decide) (by decide)) dL_law_753 ?_
  first | refine w_aload_n C dL_law_754 (by rfl) ?_ | refine w_aload_nN C dL_law_754 (by rfl) ?_
  obtain ⟨p9, px9, q9, hM1, hM2, hcd, j1, j2⟩ := jt_take (D := KD K) hl j9 (i := (xs (i + 1).toNatClampNeg))
  refine w_SWI C hN (m_L_take hl (D2.mk9 dAB dAO) hy (hj_r O.1 (dBO _ _ O.1)) hM1 hcd) gw_731 gw_732 gw_50 gw_733 (show okY yL_take 3 = true by decide +kernel) (by rfl) ⟨by dsimp only [rm_L_take, rm_X10_take, rm_X10_thrown, room_1]; omega, by dsimp only [rm_L_take, rm_X10_take, rm_X10_thrown, room_1]; omega⟩ (by rfl) rfl dL_law_755 (fun k9 hw aw => ?_)
  obtain ⟨hA1, hO1, fL1, fD1, e1, dAB1, dAO1, dBO1, O1, aw2⟩ := la_L (g := (fun v => v.toInt64)) dBO O aw
  subst e1
  refine w_istore_6 C dL_law_758 (by first | trivial | rfl) ?_
  first | refine w_aload_n C dL_law_760 (by rfl) ?_ | refine w_aload_nN C dL_law_760 (by rfl) ?_
  first | refine w_aload_n C dL_law_761 (by rfl) ?_ | refine w_aload_nN C dL_law_761 (by rfl) ?_
  refine w_iload C dL_law_762 (by rfl) ?_
  refine w_iconst (v := 1) C dL_law_764 (by rfl) ?_
  refine w_iadd C dL_law_765 ?_
  refine w_sld C X (v 1 (by decide) (by decide)) dL_law_766 ?_
  refine cl_L_138 C (CT.fBI dAB1 dAO1 dBO1 hM2) (hj_r (hj_l hm) (dAB1 _ _ hm)) (by rfl) (by rfl) ⟨by dsimp only [rm_L_take, rm_X10_take, rm_X10_thrown, room_1]; omega, by dsimp only [rm_L_take, rm_X10_take, rm_X10_thrown, room_1]; omega⟩ (by rfl) dL_law_767 (fun z2 h1 p1 => ?_)
  obtain ⟨hB1, hq, e1, dAB2, dBO2⟩ := p1
  subst e1
  obtain ⟨j9, e9⟩ := la_J (by decide +kernel) j1 j2 aw2 hq
  have e9 : k9 = 0 → fL1 0 = z2.toInt64 := e9
  obtain ⟨fs2, hm⟩ := j9.m
  refine w_istore_7 C dL_law_770 (by first | trivial | rfl) ?_
  first | refine w_aload_n C dL_law_772 (by rfl) ?_ | refine w_aload_nN C dL_law_772 (by rfl) ?_
  refine cl_L_110 C (CT.fBI dAB2 dAO1 dBO2 (jt_thrown hl j9)) (hj_r (hj_l hm) (dAB2 _ _ hm)) (by rfl) (by rfl) ⟨by dsimp only [rm_L_take, rm_X10_take, rm_X10_thrown, room_1]; omega, by dsimp only [rm_L_take, rm_X10_take, rm_X10_thrown, room_1]; omega⟩ (by rfl) dL_law_773 (fun z3 h2 p2 => ?_)
  obtain ⟨hB2, ⟨e1, e3⟩, e2, dAB3, dBO3⟩ := p2
  subst e1
  subst e2
  refine w_iload C dL_law_776 (by rfl) ?_
  refine w_icmp_eq (tgt := 783) C dL_law_778 (by rfl) (fun c_778 => ?_) (fun c_778 => ?_)
  · refine w_iload C dL_law_783 (by rfl) ?_
    refine w_if_ne (tgt := 800) C dL_law_785 (by rfl) (fun c_785 => ?_) (fun c_785 => ?_)
    · try simp only [cg_ge, cg_gt, cl_gt, cl_le, cl_eq, cl_lt, cl_ge, bi_eq0, bi_ne0, bI_eq0, Decidable.not_not, Bool.not_eq_false] at c_785
      refine w_goto (tgt := 2002) C dL_law_800 (by rfl) ?_
      exact w_sub (w_widen (kk (c + 1) (Nat.le_refl _) _ ⟨_, _, _, _, _, _, rfl, dAB3, dAO1, dBO3, O1, j9⟩) (by dsimp only [rm_L_take, rm_X10_take, rm_X10_thrown]; omega) (by dsimp only [rm_L_take, rm_X10_take, rm_X10_thrown]; omega)) (by repeat' first | exact trivial | rfl | constructor)
    · try simp only [cg_ge, cg_gt, cl_gt, cl_le, cl_eq, cl_lt, cl_ge, bi_eq0, bi_ne0, bI_eq0, Decidable.not_not, Bool.not_eq_false] at c_785
      first | refine w_aload_n C dL_law_788 (by rfl) ?_ | refine w_aload_nN C dL_law_788 (by rfl) ?_
      refine w_iconst (v := 0) C dL_law_789 (by rfl) ?_
      refine w_laldn (j := 0) C (hj_r (hj_r O1.1 (dBO3 _ _ O1.1)) (D2.mk9 dAB3 dAO1 _ _ (hj_r O1.1 (dBO3 _ _ O1.1)))) (by decide) (by decide) dL_law_790 ?_
      refine w_iload C dL_law_791 (by rfl) ?_
      refine w_i2l C dL_law_793 ?_
      refine w_lcmp C dL_law_794 ?_
      refine w_if_eq (tgt := 800) C dL_law_795 (by rfl) (fun c_795 => ?_) (fun c_795 => ?_)
      · try simp only [cg_ge, cg_gt, cl_gt, cl_le, cl_eq, cl_lt, cl_ge, bi_eq0, bi_ne0, bI_eq0, Decidable.not_not, Bool.not_eq_false] at c_795
        refine w_goto (tgt := 2002) C dL_law_800 (by rfl) ?_
        exact w_sub (w_widen (kk (c + 1) (Nat.le_refl _) _ ⟨_, _, _, _, _, _, rfl, dAB3, dAO1, dBO3, O1, j9⟩) (by dsimp only [rm_L_take, rm_X10_take, rm_X10_thrown]; omega) (by dsimp only [rm_L_take, rm_X10_take, rm_X10_thrown]; omega)) (by repeat' first | exact trivial | rfl | constructor)
      · exact absurd (by rw [e9 c_785]; exact lg_cmp_self _) c_795
  · exact absurd e3 c_778

set_option maxHeartbeats 4000000 in
set_option maxRecDepth 100000 in
theorem lr_ramp {K : KC} (C : CX K RL cL_law 9 room_1) (hl : (Kl K).stackTraces = false) (hN : NCs (Ks K)) {n : Nat × Nat} (n1 : n.1 + 1000 ≤ 757560) (n2 : n.2 + 5000 ≤ 6823425) {b L y0 m0 o3 o4 kl wk c : Nat} {xs : Nat → Int32} (X : LX K b L xs) {i : Int32} (v : ∀ k : Int32, 0 ≤ k.toInt → k.toInt ≤ 5 → vp_in (i + k) L) (hc5 : c ≤ 519) {h : HM} (J : LJ (Kt K) y0 m0 o3 o4 kl wk c h)
    (kk : ∀ (c' : Nat), c' ≤ c + 1 → ∀ h' : HM, LJ (Kt K) y0 m0 o3 o4 kl wk c' h' → WW K (n.1 + 1000, n.2 + 5000) 2002 [some (.ref b), some (.ref y0), some (.ref m0), some (.ref o3), some (.ref o4), some (.int i), none, none, none] [] h') : WW K n 803 [some (.ref b), some (.ref y0), some (.ref m0), some (.ref o3), some (.ref o4), some (.int i), none, none, none] [] h := by
  obtain ⟨hA, hB, hO, fL, fD, th, rfl, dAB, dAO, dBO, O, j9⟩ := J
  obtain ⟨fs1, hy⟩ := j9.y
  obtain ⟨fs2, hm⟩ := j9.m
  first | refine w_aload_n C dL_law_803 (by rfl) ?_ | refine w_aload_nN C dL_law_803 (by rfl) ?_
  first | refine w_aload_n C dL_law_804 (by rfl) ?_ | refine w_aload_nN C dL_law_804 (by rfl) ?_
  refine w_iload C dL_law_805 (by rfl) ?_
  refine w_iconst (v := 1) C dL_law_807 (by rfl) ?_
  refine w_iadd C dL_law_808 ?_
  refine w_sld C X (v 1 (by decide) (by decide)) dL_law_809 ?_
  first | refine w_aload_n C dL_law_810 (by rfl) ?_ | refine w_aload_nN C dL_law_810 (by rfl) ?_
  refine w_iload C dL_law_811 (by rfl) ?_
  refine w_iconst (v := 2) C dL_law_813 (by rfl) ?_
  refine w_iadd C dL_law_814 ?_
  refine w_sld C X (v 2 (by decide) (by decide)) dL_law_815 ?_
  first | refine w_aload_n C dL_law_816 (by rfl) ?_ | refine w_aload_nN C dL_law_816 (by rfl) ?_
  refine w_iload C dL_law_817 (by rfl) ?_
  refine w_iconst (v := 3) C dL_law_819 (by rfl) ?_
  refine w_iadd C dL_law_820 ?_
  refine w_sld C X (v 3 (by decide) (by decide)) dL_law_821 ?_
  first | refine w_aload_n C dL_law_822 (by rfl) ?_ | refine w_aload_nN C dL_law_822 (by rfl) ?_
  obtain ⟨p9, px9, q9, hM1, hM2, hcd, j1, j2⟩ := jt_ramp (D := KD K) hl j9 (r0 := (xs (i + 1).toNatClampNeg)) (t0 := (xs (i + 2).toNatClampNeg)) (d0 := (xs (i + 3).toNatClampNeg))
  refine w_SWI C hN (m_L_ramp hl (D2.mk9 dAB dAO) hy (hj_r O.1 (dBO _ _ O.1)) hM1 hcd) gw_743 gw_744 gw_50 gw_745 (show okY yL_ramp 5 = true by decide +kernel) (by rfl) ⟨by dsimp only [rm_L_ramp, rm_X10_ramp, rm_X10_thrown, room_1]; omega, by dsimp only [rm_L_ramp, rm_X10_ramp, rm_X10_thrown, room_1]; omega⟩ (by rfl) rfl dL_law_823 (fun k9 hw aw => ?_)
  obtain ⟨hA1, hO1, fL1, fD1, e1, dAB1, dAO1, dBO1, O1, aw2⟩ := la_L (g := (fun v => v.toInt64)) dBO O aw
  subst e1
  refine w_istore_6 C dL_law_826 (by first | trivial | rfl) ?_
  first | refine w_aload_n C dL_law_828 (by rfl) ?_ | refine w_aload_nN C dL_law_828 (by rfl) ?_
  first | refine w_aload_n C dL_law_829 (by rfl) ?_ | refine w_aload_nN C dL_law_829 (by rfl) ?_
  refine w_iload C dL_law_830 (by rfl) ?_
  refine w_iconst (v := 1) C dL_law_832 (by rfl) ?_
  refine w_iadd C dL_law_833 ?_
  refine w_sld C X (v 1 (by decide) (by decide)) dL_law_834 ?_
  first | refine w_aload_n C dL_law_835 (by rfl) ?_ | refine w_aload_nN C dL_law_835 (by rfl) ?_
  refine w_iload C dL_law_836 (by rfl) ?_
  refine w_iconst (v := 2) C dL_law_838 (by rfl) ?_
  refine w_iadd C dL_law_839 ?_
  refine w_sld C X (v 2 (by decide) (by decide)) dL_law_840 ?_
  first | refine w_aload_n C dL_law_841 (by rfl) ?_ | refine w_aload_nN C dL_law_841 (by rfl) ?_
  refine w_iload C dL_law_842 (by rfl) ?_
  refine w_iconst (v := 3) C dL_law_844 (by rfl) ?_
  refine w_iadd C dL_law_845 ?_
  refine w_sld C X (v 3 (by decide) (by decide)) dL_law_846 ?_
  refine cl_L_141 C (CT.fBI dAB1 dAO1 dBO1 hM2) (hj_r (hj_l hm) (dAB1 _ _ hm)) (by rfl) (by rfl) ⟨by dsimp only [rm_L_ramp, rm_X10_ramp, rm_X10_thrown, room_1]; omega, by dsimp only [rm_L_ramp, rm_X10_ramp, rm_X10_thrown, room_1]; omega⟩ (by rfl) dL_law_847 (fun z2 h1 p1 => ?_)
  obtain ⟨hB1, hq, e1, dAB2, dBO2⟩ := p1
  subst e1
  obtain ⟨j9, e9⟩ := la_J (by decide +kernel) j1 j2 aw2 hq
  have e9 : k9 = 0 → fL1 0 = z2.toInt64 := e9
  obtain ⟨fs2, hm⟩ := j9.m
  refine w_istore_7 C dL_law_850 (by first | trivial | rfl) ?_
  first | refine w_aload_n C dL_law_852 (by rfl) ?_ | refine w_aload_nN C dL_law_852 (by rfl) ?_
  refine cl_L_110 C (CT.fBI dAB2 dAO1 dBO2 (jt_thrown hl j9)) (hj_r (hj_l hm) (dAB2 _ _ hm)) (by rfl) (by rfl) ⟨by dsimp only [rm_L_ramp, rm_X10_ramp, rm_X10_thrown, room_1]; omega, by dsimp only [rm_L_ramp, rm_X10_ramp, rm_X10_thrown, room_1]; omega⟩ (by rfl) dL_law_853 (fun z3 h2 p2 => ?_)
  obtain ⟨hB2, ⟨e1, e3⟩, e2, dAB3, dBO3⟩ := p2
  subst e1
  subst e2
  refine w_iload C dL_law_856 (by rfl) ?_
  refine w_icmp_eq (tgt := 863) C dL_law_858 (by rfl) (fun c_858 => ?_) (fun c_858 => ?_)
  · refine w_iload C dL_law_863 (by rfl) ?_
    refine w_if_ne (tgt := 880) C dL_law_865 (by rfl) (fun c_865 => ?_) (fun c_865 => ?_)
    · try simp only [cg_ge, cg_gt, cl_gt, cl_le, cl_eq, cl_lt, cl_ge, bi_eq0, bi_ne0, bI_eq0, Decidable.not_not, Bool.not_eq_false] at c_865
      refine w_goto (tgt := 2002) C dL_law_880 (by rfl) ?_
      exact w_sub (w_widen (kk (c + 1) (Nat.le_refl _) _ ⟨_, _, _, _, _, _, rfl, dAB3, dAO1, dBO3, O1, j9⟩) (by dsimp only [rm_L_ramp, rm_X10_ramp, rm_X10_thrown]; omega) (by dsimp only [rm_L_ramp, rm_X10_ramp, rm_X10_thrown]; omega)) (by repeat' first | exact trivial | rfl | constructor)
    · try simp only [cg_ge, cg_gt, cl_gt, cl_le, cl_eq, cl_lt, cl_ge, bi_eq0, bi_ne0, bI_eq0, Decidable.not_not, Bool.not_eq_false] at c_865
      first | refine w_aload_n C dL_law_868 (by rfl) ?_ | refine w_aload_nN C dL_law_868 (by rfl) ?_
      refine w_iconst (v := 0) C dL_law_869 (by rfl) ?_
      refine w_laldn (j := 0) C (hj_r (hj_r O1.1 (dBO3 _ _ O1.1)) (D2.mk9 dAB3 dAO1 _ _ (hj_r O1.1 (dBO3 _ _ O1.1)))) (by decide) (by decide) dL_law_870 ?_
      refine w_iload C dL_law_871 (by rfl) ?_
      refine w_i2l C dL_law_873 ?_
      refine w_lcmp C dL_law_874 ?_
      refine w_if_eq (tgt := 880) C dL_law_875 (by rfl) (fun c_875 => ?_) (fun c_875 => ?_)
      · try simp only [cg_ge, cg_gt, cl_gt, cl_le, cl_eq, cl_lt, cl_ge, bi_eq0, bi_ne0, bI_eq0, Decidable.not_not, Bool.not_eq_false] at c_875
        refine w_goto (tgt := 2002) C dL_law_880 (by rfl) ?_
        exact w_sub (w_widen (kk (c + 1) (Nat.le_refl _) _ ⟨_, _, _, _, _, _, rfl, dAB3, dAO1, dBO3, O1, j9⟩) (by dsimp only [rm_L_ramp, rm_X10_ramp, rm_X10_thrown]; omega) (by dsimp only [rm_L_ramp, rm_X10_ramp, rm_X10_thrown]; omega)) (by repeat' first | exact trivial | rfl | constructor)
      · exact absurd (by rw [e9 c_865]; exact lg_cmp_self _) c_875
  · exact absurd e3 c_858

set_option maxHeartbeats 4000000 in
set_option maxRecDepth 100000 in
theorem lr_forget {K : KC} (C : CX K RL cL_law 9 room_1) (hl : (Kl K).stackTraces = false) (hN : NCs (Ks K)) {n : Nat × Nat} (n1 : n.1 + 1000 ≤ 757560) (n2 : n.2 + 5000 ≤ 6823425) {b L y0 m0 o3 o4 kl wk c : Nat} {xs : Nat → Int32} (X : LX K b L xs) {i : Int32} (v : ∀ k : Int32, 0 ≤ k.toInt → k.toInt ≤ 5 → vp_in (i + k) L) (hc5 : c ≤ 519) {h : HM} (J : LJ (Kt K) y0 m0 o3 o4 kl wk c h)
    (kk : ∀ (c' : Nat), c' ≤ c + 1 → ∀ h' : HM, LJ (Kt K) y0 m0 o3 o4 kl wk c' h' → WW K (n.1 + 1000, n.2 + 5000) 2002 [some (.ref b), some (.ref y0), some (.ref m0), some (.ref o3), some (.ref o4), some (.int i), none, none, none] [] h') : WW K n 883 [some (.ref b), some (.ref y0), some (.ref m0), some (.ref o3), some (.ref o4), some (.int i), none, none, none] [] h := by
  obtain ⟨hA, hB, hO, fL, fD, th, rfl, dAB, dAO, dBO, O, j9⟩ := J
  obtain ⟨fs1, hy⟩ := j9.y
  obtain ⟨fs2, hm⟩ := j9.m
  first | refine w_aload_n C dL_law_883 (by rfl) ?_ | refine w_aload_nN C dL_law_883 (by rfl) ?_
  first | refine w_aload_n C dL_law_884 (by rfl) ?_ | refine w_aload_nN C dL_law_884 (by rfl) ?_
  obtain ⟨p9, px9, q9, hM1, hM2, hcd, j1, j2⟩ := jt_forget (D := KD K) hl j9 
  refine w_SWI C hN (m_L_forget hl (D2.mk9 dAB dAO) hy (hj_r O.1 (dBO _ _ O.1)) hM1 hcd) gw_771 gw_772 gw_50 gw_773 (show okY yL_forget 2 = true by decide +kernel) (by rfl) ⟨by dsimp only [rm_L_forget, rm_X10_forget, rm_X10_thrown, room_1]; omega, by dsimp only [rm_L_forget, rm_X10_forget, rm_X10_thrown, room_1]; omega⟩ (by rfl) rfl dL_law_885 (fun k9 hw aw => ?_)
  obtain ⟨hA1, hO1, fL1, fD1, e1, dAB1, dAO1, dBO1, O1, aw2⟩ := la_L (g := (fun v => v.toInt64)) dBO O aw
  subst e1
  refine w_istore_6 C dL_law_888 (by first | trivial | rfl) ?_
  first | refine w_aload_n C dL_law_890 (by rfl) ?_ | refine w_aload_nN C dL_law_890 (by rfl) ?_
  refine cl_L_145 C (CT.fBI dAB1 dAO1 dBO1 hM2) (hj_r (hj_l hm) (dAB1 _ _ hm)) (by rfl) (by rfl) ⟨by dsimp only [rm_L_forget, rm_X10_forget, rm_X10_thrown, room_1]; omega, by dsimp only [rm_L_forget, rm_X10_forget, rm_X10_thrown, room_1]; omega⟩ (by rfl) dL_law_891 (fun z2 h1 p1 => ?_)
  obtain ⟨hB1, hq, e1, dAB2, dBO2⟩ := p1
  subst e1
  obtain ⟨j9, e9⟩ := la_J (by decide +kernel) j1 j2 aw2 hq
  have e9 : k9 = 0 → fL1 0 = z2.toInt64 := e9
  obtain ⟨fs2, hm⟩ := j9.m
  refine w_istore_7 C dL_law_894 (by first | trivial | rfl) ?_
  first | refine w_aload_n C dL_law_896 (by rfl) ?_ | refine w_aload_nN C dL_law_896 (by rfl) ?_
  refine cl_L_110 C (CT.fBI dAB2 dAO1 dBO2 (jt_thrown hl j9)) (hj_r (hj_l hm) (dAB2 _ _ hm)) (by rfl) (by rfl) ⟨by dsimp only [rm_L_forget, rm_X10_forget, rm_X10_thrown, room_1]; omega, by dsimp only [rm_L_forget, rm_X10_forget, rm_X10_thrown, room_1]; omega⟩ (by rfl) dL_law_897 (fun z3 h2 p2 => ?_)
  obtain ⟨hB2, ⟨e1, e3⟩, e2, dAB3, dBO3⟩ := p2
  subst e1
  subst e2
  refine w_iload C dL_law_900 (by rfl) ?_
  refine w_icmp_eq (tgt := 907) C dL_law_902 (by rfl) (fun c_902 => ?_) (fun c_902 => ?_)
  · refine w_iload C dL_law_907 (by rfl) ?_
    refine w_if_ne (tgt := 924) C dL_law_909 (by rfl) (fun c_909 => ?_) (fun c_909 => ?_)
    · try simp only [cg_ge, cg_gt, cl_gt, cl_le, cl_eq, cl_lt, cl_ge, bi_eq0, bi_ne0, bI_eq0, Decidable.not_not, Bool.not_eq_false] at c_909
      refine w_goto (tgt := 2002) C dL_law_924 (by rfl) ?_
      exact w_sub (w_widen (kk (c + 1) (Nat.le_refl _) _ ⟨_, _, _, _, _, _, rfl, dAB3, dAO1, dBO3, O1, j9⟩) (by dsimp only [rm_L_forget, rm_X10_forget, rm_X10_thrown]; omega) (by dsimp only [rm_L_forget, rm_X10_forget, rm_X10_thrown]; omega)) (by repeat' first | exact trivial | rfl | constructor)
    · try simp only [cg_ge, cg_gt, cl_gt, cl_le, cl_eq, cl_lt, cl_ge, bi_eq0, bi_ne0, bI_eq0, Decidable.not_not, Bool.not_eq_false] at c_909
      first | refine w_aload_n C dL_law_912 (by rfl) ?_ | refine w_aload_nN C dL_law_912 (by rfl) ?_
      refine w_iconst (v := 0) C dL_law_913 (by rfl) ?_
      refine w_laldn (j := 0) C (hj_r (hj_r O1.1 (dBO3 _ _ O1.1)) (D2.mk9 dAB3 dAO1 _ _ (hj_r O1.1 (dBO3 _ _ O1.1)))) (by decide) (by decide) dL_law_914 ?_
      refine w_iload C dL_law_915 (by rfl) ?_
      refine w_i2l C dL_law_917 ?_
      refine w_lcmp C dL_law_918 ?_
      refine w_if_eq (tgt := 924) C dL_law_919 (by rfl) (fun c_919 => ?_) (fun c_919 => ?_)
      · try simp only [cg_ge, cg_gt, cl_gt, cl_le, cl_eq, cl_lt, cl_ge, bi_eq0, bi_ne0, bI_eq0, Decidable.not_not, Bool.not_eq_false] at c_919
        refine w_goto (tgt := 2002) C dL_law_924 (by rfl) ?_
        exact w_sub (w_widen (kk (c + 1) (Nat.le_refl _) _ ⟨_, _, _, _, _, _, rfl, dAB3, dAO1, dBO3, O1, j9⟩) (by dsimp only [rm_L_forget, rm_X10_forget, rm_X10_thrown]; omega) (by dsimp only [rm_L_forget, rm_X10_forget, rm_X10_thrown]; omega)) (by repeat' first | exact trivial | rfl | constructor)
      · exact absurd (by rw [e9 c_909]; exact lg_cmp_self _) c_919
  · exact absurd e3 c_902
