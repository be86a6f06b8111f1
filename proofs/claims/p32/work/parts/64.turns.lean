/-! TURN BY TURN -/
set_option maxHeartbeats 4000000 in
set_option maxRecDepth 100000 in
theorem lt_turn {K : KC} (C : CX K RL cL_law 12 room_1) (hl : (Kl K).stackTraces = false) {h : HM} {n : Nat × Nat} (n1 : n.1 + 400 ≤ 600000) (n2 : n.2 + 3000 ≤ 7000000) {y0 o2 o3 c : Nat} {fw : Nat → UInt64} {fz : Nat → Int32} {cs : Nat → Int32 × Int32} {gs : Nat → GT} {ps : Nat → PT} {nR : Nat} {rs : Nat → RT} {k : KT} {dmp day : Int32} {f t : Nat} (hL : scL (Kt K) ≤ 260) (hft : f ≤ 4200) (hap : aps 10 ps) (hwd : ∀ i, i < 10 → qWd (ps i).2.2 = 1 + lbl (lcl (Kt K) (nI i)) 4) (hw : f2w ps ps 0 fw) (hz : f2z ps ps 0 fz) (hc5 : c ≤ 500) (J : LJ (Kt K) y0 o2 o3 fw fz c cs gs ps nR rs k dmp day h) (I : IV k day f) (ht : t < 70) (kt : ∀ (c2 : Nat) (ps2 : Nat → PT) (nR2 : Nat) (rs2 : Nat → RT) (k2 : KT) (dmp2 day2 : Int32) (f2 : Nat) (hh : HM) (fw2 : Nat → UInt64) (fz2 : Nat → Int32), c2 ≤ c + 1 → LJ (Kt K) y0 o2 o3 fw2 fz2 c2 cs gs ps2 nR2 rs2 k2 dmp2 day2 hh → rel9 ps ps2 → IV k2 day2 f2 → f2 ≤ f + 60 → f2w ps2 ps2 0 fw2 → f2z ps2 ps2 0 fz2 → WW K (n.1 + 259, n.2 + 1634) 218 [some (.ref (Kt K 11)), some (.ref y0), some (.ref o2), some (.ref o3), some (.int (nI f2)), some (.int (kC k2)), some (.int (nI (t + 1))), none, none, none, none, none] [] hh) : WW K n 218 [some (.ref (Kt K 11)), some (.ref y0), some (.ref o2), some (.ref o3), some (.int (nI f)), some (.int (kC k)), some (.int (nI t)), none, none, none, none, none] [] h := by
  obtain ⟨fs, hy0⟩ := J.y
  have o := J.ok
  refine w_iload C dL_law_218 (by rfl) ?_
  refine w_bipush (v := (70)) C dL_law_220 (by rfl) ?_
  refine w_icmp_ge (tgt := 793) C dL_law_222 (by rfl) (fun c_222 => ?_) (fun c_222 => ?_)
  · exact absurd ht (fun w => nI_ge w (by decide) c_222)
  · first | refine w_aload_n C dL_law_225 (by rfl) ?_ | refine w_aload_nN C dL_law_225 (by rfl) ?_
    refine w_iload C dL_law_226 (by rfl) ?_
    refine w_bipush (v := (16)) C dL_law_228 (by rfl) ?_
    refine w_irem C dL_law_230 (by decide) ?_
    rw [show nI t - nI t / 16 * 16 = nI (t % 16) from rem_nat (N := 16) (by omega) (by decide) (by decide)]
    refine cl_L_12 C (m_L_cell hl (a := nI (t % 16)) (by rw [nI_toInt (by omega)]; omega) hL) (by rfl) (by rfl) ⟨show n.1 + 0 ≤ 637138 by omega, show n.2 + 0 ≤ 7190283 by omega⟩ (by rfl) dL_law_231 (fun z9 h1 p1 => ?_)
    obtain ⟨rfl, rfl⟩ := p1
    refine w_bipush (v := (67)) C dL_law_234 (by rfl) ?_
    refine w_iload C dL_law_236 (by rfl) ?_
    refine w_imul C dL_law_238 ?_
    refine w_iadd C dL_law_239 ?_
    generalize lcl (Kt K) (nI (t % 16)) + 67 * nI t = x
    refine w_istore_7 C dL_law_240 (by first | trivial | rfl) ?_
    refine w_iload C dL_law_242 (by rfl) ?_
    refine w_iconst (v := 3) C dL_law_244 (by rfl) ?_
    refine w_ishr C dL_law_245 ?_
    refine w_bipush (v := (10)) C dL_law_246 (by rfl) ?_
    refine cl_L_18 C (m_L_below hl (x >>> (3 &&& 31)) 10 (by decide)) (by rfl) (by rfl) ⟨show n.1 + 0 + 0 ≤ 637138 by omega, show n.2 + 0 + 0 ≤ 7190283 by omega⟩ (by rfl) dL_law_248 (fun z2 h2 p2 => ?_)
    obtain ⟨rfl, rfl⟩ := p2
    obtain ⟨bp, hbp, ebp⟩ := lbl_nat (x >>> (3 &&& 31)) (N := 10) (by decide) (by decide)
    rw [show lbl (x >>> (3 &&& 31)) 10 = nI bp from ebp]
    refine w_istore_8 C dL_law_251 (by first | trivial | rfl) ?_
    first | refine w_aload_n C dL_law_253 (by rfl) ?_ | refine w_aload_nN C dL_law_253 (by rfl) ?_
    refine w_iconst (v := 2) C dL_law_254 (by rfl) ?_
    refine cx_L_35 C (q_many hl J (by decide)) hy0 (by rfl) (by rfl) ⟨show n.1 + 0 + 0 + 1 ≤ 637138 by omega, show n.2 + 0 + 0 + 6 ≤ 7190283 by omega⟩ (by rfl) dL_law_255 (fun z3 h3 p3 => ?_) (fun E hx px => px.elim)
    obtain ⟨rfl, e9⟩ := p3
    rw [many_2] at e9
    rw [e9]
    refine w_if_ne (tgt := 277) C dL_law_258 (by rfl) (fun c_258 => ?_) (fun c_258 => ?_)
    · try simp only [cg_ge, cg_gt, cl_gt, cl_le, cl_eq, cl_lt, cl_ge, bi_eq0, bi_ne0, bI_eq0, Decidable.not_not, Bool.not_eq_false] at c_258
      refine w_iconst (v := 0) C dL_law_277 (by rfl) ?_
      refine w_istore_9 C dL_law_278 (by first | trivial | rfl) ?_
      refine w_iconst (v := 0) C dL_law_280 (by rfl) ?_
      refine w_istore_10 C dL_law_281 (by first | trivial | rfl) ?_
      refine w_iload C dL_law_283 (by rfl) ?_
      refine w_bipush (v := (9)) C dL_law_285 (by rfl) ?_
      refine cl_L_18 C (m_L_below hl x 9 (by decide)) (by rfl) (by rfl) ⟨show n.1 + 0 + 0 + 1 + 0 ≤ 637138 by omega, show n.2 + 0 + 0 + 6 + 0 ≤ 7190283 by omega⟩ (by rfl) dL_law_287 (fun z4 h4 p4 => ?_)
      obtain ⟨rfl, rfl⟩ := p4
      obtain ⟨b9, hb9, eb9⟩ := lbl_nat x (N := 9) (by decide) (by decide)
      rw [show lbl x 9 = nI b9 from eb9]
      refine w_widen (n' := (n.1 + 4, n.2 + 24)) ?_ (show n.1 + 0 + 0 + 1 + 0 ≤ n.1 + 4 by omega) (show n.2 + 0 + 0 + 6 + 0 ≤ n.2 + 24 by omega)
      have n3 : (n.1 + 4) + 300 ≤ 600000 := by omega
      have n4 : (n.2 + 24) + 2000 ≤ 7000000 := by omega
      rcases (show b9 = 0 ∨ b9 = 1 ∨ b9 = 2 ∨ b9 = 3 ∨ b9 = 4 ∨ b9 = 5 ∨ b9 = 6 ∨ b9 = 7 ∨ b9 = 8 by omega) with e | e | e | e | e | e | e | e | e <;> subst e
      · refine w_tableIn (tgt := 336) (off := 46) C dL_law_290 (by decide) (by decide) (by rfl) (by rfl) ?_
        exact lr_dry (n := (n.1 + 4, n.2 + 24)) C hl n3 n4 hc5 J I hbp (fun w => absurd rfl w) (fun m h' hm T => lt_checks (n := (n.1 + 14, n.2 + 84)) (nR := nR) (rs := rs) (dmp := dmp) (day := day) C hl (show (n.1 + 14) + 300 ≤ 600000 by omega) (show (n.2 + 84) + 2000 ≤ 7000000 by omega) hm hL hft hap hwd hw hz T kt)
      · refine w_tableIn (tgt := 378) (off := 88) C dL_law_290 (by decide) (by decide) (by rfl) (by rfl) ?_
        exact lr_cover (n := (n.1 + 4, n.2 + 24)) C hl n3 n4 hc5 J I hbp (fun w => absurd rfl w) (fun m h' hm T => lt_checks (n := (n.1 + 14, n.2 + 84)) (nR := nR) (rs := rs) (dmp := dmp) (day := day) C hl (show (n.1 + 14) + 300 ≤ 600000 by omega) (show (n.2 + 84) + 2000 ≤ 7000000 by omega) hm hL hft hap hwd hw hz T kt)
      · refine w_tableIn (tgt := 404) (off := 114) C dL_law_290 (by decide) (by decide) (by rfl) (by rfl) ?_
        exact lr_place (n := (n.1 + 4, n.2 + 24)) C hl n3 n4 hc5 J I hbp (fun w => absurd rfl w) (fun m h' hm T => lt_checks (n := (n.1 + 14, n.2 + 84)) (nR := nR) (rs := rs) (dmp := dmp) (day := day) C hl (show (n.1 + 14) + 300 ≤ 600000 by omega) (show (n.2 + 84) + 2000 ≤ 7000000 by omega) hm hL hft hap hwd hw hz T kt)
      · refine w_tableIn (tgt := 404) (off := 114) C dL_law_290 (by decide) (by decide) (by rfl) (by rfl) ?_
        exact lr_place (n := (n.1 + 4, n.2 + 24)) C hl n3 n4 hc5 J I hbp (fun w => absurd rfl w) (fun m h' hm T => lt_checks (n := (n.1 + 14, n.2 + 84)) (nR := nR) (rs := rs) (dmp := dmp) (day := day) C hl (show (n.1 + 14) + 300 ≤ 600000 by omega) (show (n.2 + 84) + 2000 ≤ 7000000 by omega) hm hL hft hap hwd hw hz T kt)
      · refine w_tableIn (tgt := 431) (off := 141) C dL_law_290 (by decide) (by decide) (by rfl) (by rfl) ?_
        exact lr_ramp (n := (n.1 + 4, n.2 + 24)) C hl n3 n4 hc5 J I hbp (fun w => absurd rfl w) (fun m h' hm T => lt_checks (n := (n.1 + 14, n.2 + 84)) (nR := nR) (rs := rs) (dmp := dmp) (day := day) C hl (show (n.1 + 14) + 300 ≤ 600000 by omega) (show (n.2 + 84) + 2000 ≤ 7000000 by omega) hm hL hft hap hwd hw hz T kt)
      · refine w_tableIn (tgt := 491) (off := 201) C dL_law_290 (by decide) (by decide) (by rfl) (by rfl) ?_
        exact lr_light (n := (n.1 + 4, n.2 + 24)) C hl n3 n4 hc5 J I hbp (fun w => absurd rfl w) (fun m h' hm T => lt_checks (n := (n.1 + 14, n.2 + 84)) (nR := nR) (rs := rs) (dmp := dmp) (day := day) C hl (show (n.1 + 14) + 300 ≤ 600000 by omega) (show (n.2 + 84) + 2000 ≤ 7000000 by omega) hm hL hft hap hwd hw hz T kt)
      · refine w_tableIn (tgt := 515) (off := 225) C dL_law_290 (by decide) (by decide) (by rfl) (by rfl) ?_
        exact lr_door (n := (n.1 + 4, n.2 + 24)) C hl n3 n4 hc5 J I hbp (fun w => absurd rfl w) (fun m h' hm T => lt_checks (n := (n.1 + 14, n.2 + 84)) (nR := nR) (rs := rs) (dmp := dmp) (day := day) C hl (show (n.1 + 14) + 300 ≤ 600000 by omega) (show (n.2 + 84) + 2000 ≤ 7000000 by omega) hm hL hft hap hwd hw hz T kt)
      · refine w_tableIn (tgt := 539) (off := 249) C dL_law_290 (by decide) (by decide) (by rfl) (by rfl) ?_
        exact lr_unload (n := (n.1 + 4, n.2 + 24)) C hl n3 n4 hc5 J I hbp (fun w => absurd rfl w) (fun m h' hm T => lt_checks (n := (n.1 + 14, n.2 + 84)) (nR := nR) (rs := rs) (dmp := dmp) (day := day) C hl (show (n.1 + 14) + 300 ≤ 600000 by omega) (show (n.2 + 84) + 2000 ≤ 7000000 by omega) hm hL hft hap hwd hw hz T kt)
      · refine w_tableOut (tgt := 568) C dL_law_290 (by decide) (by rfl) ?_
        exact lr_burn (n := (n.1 + 4, n.2 + 24)) C hl n3 n4 hc5 J I hbp (fun w => absurd rfl w) (fun m h' hm T => lt_checks (n := (n.1 + 14, n.2 + 84)) (nR := nR) (rs := rs) (dmp := dmp) (day := day) C hl (show (n.1 + 14) + 300 ≤ 600000 by omega) (show (n.2 + 84) + 2000 ≤ 7000000 by omega) hm hL hft hap hwd hw hz T kt)
    · try simp only [cg_ge, cg_gt, cl_gt, cl_le, cl_eq, cl_lt, cl_ge, bi_eq0, bi_ne0, bI_eq0, Decidable.not_not, Bool.not_eq_false] at c_258
      first | refine w_aload_n C dL_law_261 (by rfl) ?_ | refine w_aload_nN C dL_law_261 (by rfl) ?_
      refine w_iconst (v := 0) C dL_law_262 (by rfl) ?_
      refine cx_L_39 C (q_kiln hl J (by decide)) hy0 (by rfl) (by rfl) ⟨show n.1 + 0 + 0 + 1 + 1 ≤ 637138 by omega, show n.2 + 0 + 0 + 6 + 6 ≤ 7190283 by omega⟩ (by rfl) dL_law_263 (fun z5 h5 p5 => ?_) (fun E hx px => px.elim)
      obtain ⟨rfl, rfl⟩ := p5
      rw [show sp_kiln k 0 = kH k from rfl]
      refine lc_L_43 C dL_law_266 ?_
      refine w_dcmp C dL_law_269 ?_
      refine w_if_ge (tgt := 277) C dL_law_270 (by rfl) (fun c_270 => ?_) (fun c_270 => ?_)
      · try simp only [cg_ge, cg_gt, cl_gt, cl_le, cl_eq, cl_lt, cl_ge, bi_eq0, bi_ne0, bI_eq0, Decidable.not_not, Bool.not_eq_false] at c_270
        refine w_iconst (v := 0) C dL_law_277 (by rfl) ?_
        refine w_istore_9 C dL_law_278 (by first | trivial | rfl) ?_
        refine w_iconst (v := 0) C dL_law_280 (by rfl) ?_
        refine w_istore_10 C dL_law_281 (by first | trivial | rfl) ?_
        refine w_iload C dL_law_283 (by rfl) ?_
        refine w_bipush (v := (9)) C dL_law_285 (by rfl) ?_
        refine cl_L_18 C (m_L_below hl x 9 (by decide)) (by rfl) (by rfl) ⟨show n.1 + 0 + 0 + 1 + 1 + 0 ≤ 637138 by omega, show n.2 + 0 + 0 + 6 + 6 + 0 ≤ 7190283 by omega⟩ (by rfl) dL_law_287 (fun z6 h6 p6 => ?_)
        obtain ⟨rfl, rfl⟩ := p6
        obtain ⟨b9, hb9, eb9⟩ := lbl_nat x (N := 9) (by decide) (by decide)
        rw [show lbl x 9 = nI b9 from eb9]
        refine w_widen (n' := (n.1 + 4, n.2 + 24)) ?_ (show n.1 + 0 + 0 + 1 + 1 + 0 ≤ n.1 + 4 by omega) (show n.2 + 0 + 0 + 6 + 6 + 0 ≤ n.2 + 24 by omega)
        have n3 : (n.1 + 4) + 300 ≤ 600000 := by omega
        have n4 : (n.2 + 24) + 2000 ≤ 7000000 := by omega
        rcases (show b9 = 0 ∨ b9 = 1 ∨ b9 = 2 ∨ b9 = 3 ∨ b9 = 4 ∨ b9 = 5 ∨ b9 = 6 ∨ b9 = 7 ∨ b9 = 8 by omega) with e | e | e | e | e | e | e | e | e <;> subst e
        · refine w_tableIn (tgt := 336) (off := 46) C dL_law_290 (by decide) (by decide) (by rfl) (by rfl) ?_
          exact lr_dry (n := (n.1 + 4, n.2 + 24)) C hl n3 n4 hc5 J I hbp (fun w => absurd rfl w) (fun m h' hm T => lt_checks (n := (n.1 + 14, n.2 + 84)) (nR := nR) (rs := rs) (dmp := dmp) (day := day) C hl (show (n.1 + 14) + 300 ≤ 600000 by omega) (show (n.2 + 84) + 2000 ≤ 7000000 by omega) hm hL hft hap hwd hw hz T kt)
        · refine w_tableIn (tgt := 378) (off := 88) C dL_law_290 (by decide) (by decide) (by rfl) (by rfl) ?_
          exact lr_cover (n := (n.1 + 4, n.2 + 24)) C hl n3 n4 hc5 J I hbp (fun w => absurd rfl w) (fun m h' hm T => lt_checks (n := (n.1 + 14, n.2 + 84)) (nR := nR) (rs := rs) (dmp := dmp) (day := day) C hl (show (n.1 + 14) + 300 ≤ 600000 by omega) (show (n.2 + 84) + 2000 ≤ 7000000 by omega) hm hL hft hap hwd hw hz T kt)
        · refine w_tableIn (tgt := 404) (off := 114) C dL_law_290 (by decide) (by decide) (by rfl) (by rfl) ?_
          exact lr_place (n := (n.1 + 4, n.2 + 24)) C hl n3 n4 hc5 J I hbp (fun w => absurd rfl w) (fun m h' hm T => lt_checks (n := (n.1 + 14, n.2 + 84)) (nR := nR) (rs := rs) (dmp := dmp) (day := day) C hl (show (n.1 + 14) + 300 ≤ 600000 by omega) (show (n.2 + 84) + 2000 ≤ 7000000 by omega) hm hL hft hap hwd hw hz T kt)
        · refine w_tableIn (tgt := 404) (off := 114) C dL_law_290 (by decide) (by decide) (by rfl) (by rfl) ?_
          exact lr_place (n := (n.1 + 4, n.2 + 24)) C hl n3 n4 hc5 J I hbp (fun w => absurd rfl w) (fun m h' hm T => lt_checks (n := (n.1 + 14, n.2 + 84)) (nR := nR) (rs := rs) (dmp := dmp) (day := day) C hl (show (n.1 + 14) + 300 ≤ 600000 by omega) (show (n.2 + 84) + 2000 ≤ 7000000 by omega) hm hL hft hap hwd hw hz T kt)
        · refine w_tableIn (tgt := 431) (off := 141) C dL_law_290 (by decide) (by decide) (by rfl) (by rfl) ?_
          exact lr_ramp (n := (n.1 + 4, n.2 + 24)) C hl n3 n4 hc5 J I hbp (fun w => absurd rfl w) (fun m h' hm T => lt_checks (n := (n.1 + 14, n.2 + 84)) (nR := nR) (rs := rs) (dmp := dmp) (day := day) C hl (show (n.1 + 14) + 300 ≤ 600000 by omega) (show (n.2 + 84) + 2000 ≤ 7000000 by omega) hm hL hft hap hwd hw hz T kt)
        · refine w_tableIn (tgt := 491) (off := 201) C dL_law_290 (by decide) (by decide) (by rfl) (by rfl) ?_
          exact lr_light (n := (n.1 + 4, n.2 + 24)) C hl n3 n4 hc5 J I hbp (fun w => absurd rfl w) (fun m h' hm T => lt_checks (n := (n.1 + 14, n.2 + 84)) (nR := nR) (rs := rs) (dmp := dmp) (day := day) C hl (show (n.1 + 14) + 300 ≤ 600000 by omega) (show (n.2 + 84) + 2000 ≤ 7000000 by omega) hm hL hft hap hwd hw hz T kt)
        · refine w_tableIn (tgt := 515) (off := 225) C dL_law_290 (by decide) (by decide) (by rfl) (by rfl) ?_
          exact lr_door (n := (n.1 + 4, n.2 + 24)) C hl n3 n4 hc5 J I hbp (fun w => absurd rfl w) (fun m h' hm T => lt_checks (n := (n.1 + 14, n.2 + 84)) (nR := nR) (rs := rs) (dmp := dmp) (day := day) C hl (show (n.1 + 14) + 300 ≤ 600000 by omega) (show (n.2 + 84) + 2000 ≤ 7000000 by omega) hm hL hft hap hwd hw hz T kt)
        · refine w_tableIn (tgt := 539) (off := 249) C dL_law_290 (by decide) (by decide) (by rfl) (by rfl) ?_
          exact lr_unload (n := (n.1 + 4, n.2 + 24)) C hl n3 n4 hc5 J I hbp (fun w => absurd rfl w) (fun m h' hm T => lt_checks (n := (n.1 + 14, n.2 + 84)) (nR := nR) (rs := rs) (dmp := dmp) (day := day) C hl (show (n.1 + 14) + 300 ≤ 600000 by omega) (show (n.2 + 84) + 2000 ≤ 7000000 by omega) hm hL hft hap hwd hw hz T kt)
        · refine w_tableOut (tgt := 568) C dL_law_290 (by decide) (by rfl) ?_
          exact lr_burn (n := (n.1 + 4, n.2 + 24)) C hl n3 n4 hc5 J I hbp (fun w => absurd rfl w) (fun m h' hm T => lt_checks (n := (n.1 + 14, n.2 + 84)) (nR := nR) (rs := rs) (dmp := dmp) (day := day) C hl (show (n.1 + 14) + 300 ≤ 600000 by omega) (show (n.2 + 84) + 2000 ≤ 7000000 by omega) hm hL hft hap hwd hw hz T kt)
      · try simp only [cg_ge, cg_gt, cl_gt, cl_le, cl_eq, cl_lt, cl_ge, bi_eq0, bi_ne0, bI_eq0, Decidable.not_not, Bool.not_eq_false] at c_270
        refine w_iconst (v := 1) C dL_law_273 (by rfl) ?_
        refine w_goto (tgt := 278) C dL_law_274 (by rfl) ?_
        refine w_istore_9 C dL_law_278 (by first | trivial | rfl) ?_
        refine w_iconst (v := 0) C dL_law_280 (by rfl) ?_
        refine w_istore_10 C dL_law_281 (by first | trivial | rfl) ?_
        refine w_iload C dL_law_283 (by rfl) ?_
        refine w_bipush (v := (9)) C dL_law_285 (by rfl) ?_
        refine cl_L_18 C (m_L_below hl x 9 (by decide)) (by rfl) (by rfl) ⟨show n.1 + 0 + 0 + 1 + 1 + 0 ≤ 637138 by omega, show n.2 + 0 + 0 + 6 + 6 + 0 ≤ 7190283 by omega⟩ (by rfl) dL_law_287 (fun z7 h7 p7 => ?_)
        obtain ⟨rfl, rfl⟩ := p7
        obtain ⟨b9, hb9, eb9⟩ := lbl_nat x (N := 9) (by decide) (by decide)
        rw [show lbl x 9 = nI b9 from eb9]
        refine w_widen (n' := (n.1 + 4, n.2 + 24)) ?_ (show n.1 + 0 + 0 + 1 + 1 + 0 ≤ n.1 + 4 by omega) (show n.2 + 0 + 0 + 6 + 6 + 0 ≤ n.2 + 24 by omega)
        have n3 : (n.1 + 4) + 300 ≤ 600000 := by omega
        have n4 : (n.2 + 24) + 2000 ≤ 7000000 := by omega
        rcases (show b9 = 0 ∨ b9 = 1 ∨ b9 = 2 ∨ b9 = 3 ∨ b9 = 4 ∨ b9 = 5 ∨ b9 = 6 ∨ b9 = 7 ∨ b9 = 8 by omega) with e | e | e | e | e | e | e | e | e <;> subst e
        · refine w_tableIn (tgt := 336) (off := 46) C dL_law_290 (by decide) (by decide) (by rfl) (by rfl) ?_
          exact lr_dry (n := (n.1 + 4, n.2 + 24)) C hl n3 n4 hc5 J I hbp (fun _ => ⟨c_258, c_270⟩) (fun m h' hm T => lt_checks (n := (n.1 + 14, n.2 + 84)) (nR := nR) (rs := rs) (dmp := dmp) (day := day) C hl (show (n.1 + 14) + 300 ≤ 600000 by omega) (show (n.2 + 84) + 2000 ≤ 7000000 by omega) hm hL hft hap hwd hw hz T kt)
        · refine w_tableIn (tgt := 378) (off := 88) C dL_law_290 (by decide) (by decide) (by rfl) (by rfl) ?_
          exact lr_cover (n := (n.1 + 4, n.2 + 24)) C hl n3 n4 hc5 J I hbp (fun _ => ⟨c_258, c_270⟩) (fun m h' hm T => lt_checks (n := (n.1 + 14, n.2 + 84)) (nR := nR) (rs := rs) (dmp := dmp) (day := day) C hl (show (n.1 + 14) + 300 ≤ 600000 by omega) (show (n.2 + 84) + 2000 ≤ 7000000 by omega) hm hL hft hap hwd hw hz T kt)
        · refine w_tableIn (tgt := 404) (off := 114) C dL_law_290 (by decide) (by decide) (by rfl) (by rfl) ?_
          exact lr_place (n := (n.1 + 4, n.2 + 24)) C hl n3 n4 hc5 J I hbp (fun _ => ⟨c_258, c_270⟩) (fun m h' hm T => lt_checks (n := (n.1 + 14, n.2 + 84)) (nR := nR) (rs := rs) (dmp := dmp) (day := day) C hl (show (n.1 + 14) + 300 ≤ 600000 by omega) (show (n.2 + 84) + 2000 ≤ 7000000 by omega) hm hL hft hap hwd hw hz T kt)
        · refine w_tableIn (tgt := 404) (off := 114) C dL_law_290 (by decide) (by decide) (by rfl) (by rfl) ?_
          exact lr_place (n := (n.1 + 4, n.2 + 24)) C hl n3 n4 hc5 J I hbp (fun _ => ⟨c_258, c_270⟩) (fun m h' hm T => lt_checks (n := (n.1 + 14, n.2 + 84)) (nR := nR) (rs := rs) (dmp := dmp) (day := day) C hl (show (n.1 + 14) + 300 ≤ 600000 by omega) (show (n.2 + 84) + 2000 ≤ 7000000 by omega) hm hL hft hap hwd hw hz T kt)
        · refine w_tableIn (tgt := 431) (off := 141) C dL_law_290 (by decide) (by decide) (by rfl) (by rfl) ?_
          exact lr_ramp (n := (n.1 + 4, n.2 + 24)) C hl n3 n4 hc5 J I hbp (fun _ => ⟨c_258, c_270⟩) (fun m h' hm T => lt_checks (n := (n.1 + 14, n.2 + 84)) (nR := nR) (rs := rs) (dmp := dmp) (day := day) C hl (show (n.1 + 14) + 300 ≤ 600000 by omega) (show (n.2 + 84) + 2000 ≤ 7000000 by omega) hm hL hft hap hwd hw hz T kt)
        · refine w_tableIn (tgt := 491) (off := 201) C dL_law_290 (by decide) (by decide) (by rfl) (by rfl) ?_
          exact lr_light (n := (n.1 + 4, n.2 + 24)) C hl n3 n4 hc5 J I hbp (fun _ => ⟨c_258, c_270⟩) (fun m h' hm T => lt_checks (n := (n.1 + 14, n.2 + 84)) (nR := nR) (rs := rs) (dmp := dmp) (day := day) C hl (show (n.1 + 14) + 300 ≤ 600000 by omega) (show (n.2 + 84) + 2000 ≤ 7000000 by omega) hm hL hft hap hwd hw hz T kt)
        · refine w_tableIn (tgt := 515) (off := 225) C dL_law_290 (by decide) (by decide) (by rfl) (by rfl) ?_
          exact lr_door (n := (n.1 + 4, n.2 + 24)) C hl n3 n4 hc5 J I hbp (fun _ => ⟨c_258, c_270⟩) (fun m h' hm T => lt_checks (n := (n.1 + 14, n.2 + 84)) (nR := nR) (rs := rs) (dmp := dmp) (day := day) C hl (show (n.1 + 14) + 300 ≤ 600000 by omega) (show (n.2 + 84) + 2000 ≤ 7000000 by omega) hm hL hft hap hwd hw hz T kt)
        · refine w_tableIn (tgt := 539) (off := 249) C dL_law_290 (by decide) (by decide) (by rfl) (by rfl) ?_
          exact lr_unload (n := (n.1 + 4, n.2 + 24)) C hl n3 n4 hc5 J I hbp (fun _ => ⟨c_258, c_270⟩) (fun m h' hm T => lt_checks (n := (n.1 + 14, n.2 + 84)) (nR := nR) (rs := rs) (dmp := dmp) (day := day) C hl (show (n.1 + 14) + 300 ≤ 600000 by omega) (show (n.2 + 84) + 2000 ≤ 7000000 by omega) hm hL hft hap hwd hw hz T kt)
        · refine w_tableOut (tgt := 568) C dL_law_290 (by decide) (by rfl) ?_
          exact lr_burn (n := (n.1 + 4, n.2 + 24)) C hl n3 n4 hc5 J I hbp (fun _ => ⟨c_258, c_270⟩) (fun m h' hm T => lt_checks (n := (n.1 + 14, n.2 + 84)) (nR := nR) (rs := rs) (dmp := dmp) (day := day) C hl (show (n.1 + 14) + 300 ≤ 600000 by omega) (show (n.2 + 84) + 2000 ≤ 7000000 by omega) hm hL hft hap hwd hw hz T kt)

set_option maxHeartbeats 4000000 in
set_option maxRecDepth 100000 in
theorem lt_end {K : KC} (C : CX K RL cL_law 12 room_1) (hl : (Kl K).stackTraces = false) {h : HM} {n : Nat × Nat} (n1 : n.1 + 1000 ≤ 600000) (n2 : n.2 + 5000 ≤ 7000000) {y0 o2 o3 c : Nat} {fw : Nat → UInt64} {fz : Nat → Int32} {cs : Nat → Int32 × Int32} {gs : Nat → GT} {ps : Nat → PT} {nR : Nat} {rs : Nat → RT} {k : KT} {dmp day : Int32} {f t : Nat} (J : LJ (Kt K) y0 o2 o3 fw fz c cs gs ps nR rs k dmp day h) (kfin : ∀ (n : Nat × Nat) (lv : List (Option Value)) (h : HM), n.1 ≤ 637138 → n.2 ≤ 7190283 → WW K n 844 lv [.int 1] h) : WW K n 793 [some (.ref (Kt K 11)), some (.ref y0), some (.ref o2), some (.ref o3), some (.int (nI f)), some (.int (kC k)), some (.int (nI t)), none, none, none, none, none] [] h := by
  obtain ⟨fs, hy0⟩ := J.y
  first | refine w_aload_n C dL_law_793 (by rfl) ?_ | refine w_aload_nN C dL_law_793 (by rfl) ?_
  refine cx_L_90 C (q_digest hl J) hy0 (by rfl) (by rfl) ⟨show n.1 + 305 ≤ 637138 by omega, show n.2 + 1830 ≤ 7190283 by omega⟩ (by rfl) dL_law_794 (fun z1 h1 p1 => ?_) (fun E hx px => px.elim)
  obtain ⟨e9, J2⟩ := p1
  generalize hD : sp_digest 3 gs 10 ps 0 os0 nR rs k day 0 0 = dg at e9
  rw [e9]
  obtain ⟨fs2, hy2⟩ := J2.y
  refine w_lstore_6 C dL_law_797 (by first | trivial | rfl) ?_
  first | refine w_aload_n C dL_law_799 (by rfl) ?_ | refine w_aload_nN C dL_law_799 (by rfl) ?_
  refine w_iconst (v := 1) C dL_law_800 (by rfl) ?_
  refine w_bipush (v := (60)) C dL_law_801 (by rfl) ?_
  refine cx_L_94 C (q_wouldCone hl J2 (s := 1) (m := 60) (by decide) (by decide) (by decide)) hy2 (by rfl) (by rfl) ⟨show n.1 + 305 + 2 ≤ 637138 by omega, show n.2 + 1830 + 12 ≤ 7190283 by omega⟩ (by rfl) dL_law_803 (fun z2 h2 p2 => ?_) (fun E hx px => px.elim)
  obtain ⟨⟨r1, l1, e1⟩, J3⟩ := p2
  rw [e1]
  obtain ⟨fs3, hy3⟩ := J3.y
  refine w_if_lt (tgt := 843) C dL_law_806 (by rfl) (fun c_806 => ?_) (fun c_806 => ?_)
  · exact absurd c_806 (fun w => (nI_lt0 (by omega)).mp w)
  · try simp only [cg_ge, cg_gt, cl_gt, cl_le, cl_eq, cl_lt, cl_ge, bi_eq0, bi_ne0, bI_eq0, Decidable.not_not, Bool.not_eq_false] at c_806
    first | refine w_aload_n C dL_law_809 (by rfl) ?_ | refine w_aload_nN C dL_law_809 (by rfl) ?_
    refine w_iconst (v := 0) C dL_law_810 (by rfl) ?_
    refine cx_L_97 C (q_wouldHold hl J3 (s := 0) (by decide)) hy3 (by rfl) (by rfl) ⟨show n.1 + 305 + 2 + 1 ≤ 637138 by omega, show n.2 + 1830 + 12 + 6 ≤ 7190283 by omega⟩ (by rfl) dL_law_811 (fun z3 h3 p3 => ?_) (fun E hx px => px.elim)
    obtain ⟨rfl, r2, l2, e2⟩ := p3
    rw [e2]
    refine w_bipush (v := (10)) C dL_law_814 (by rfl) ?_
    refine w_icmp_gt (tgt := 843) C dL_law_816 (by rfl) (fun c_816 => ?_) (fun c_816 => ?_)
    · exact absurd c_816 (not_lt9 (a := 10) l2 (by decide))
    · first | refine w_aload_n C dL_law_819 (by rfl) ?_ | refine w_aload_nN C dL_law_819 (by rfl) ?_
      refine w_iconst (v := 0) C dL_law_820 (by rfl) ?_
      refine w_iconst (v := 3) C dL_law_821 (by rfl) ?_
      refine cx_L_100 C (q_best hl J3 (n := 3) (by decide) (by decide)) hy3 (by rfl) (by rfl) ⟨show n.1 + 305 + 2 + 1 + 2 ≤ 637138 by omega, show n.2 + 1830 + 12 + 6 + 12 ≤ 7190283 by omega⟩ (by rfl) dL_law_822 (fun z4 h4 p4 => ?_) (fun E hx px => px.elim)
      obtain ⟨rfl, e3⟩ := p4
      refine w_iconst (v := (-1)) C dL_law_825 (by rfl) ?_
      refine w_icmp_lt (tgt := 843) C dL_law_826 (by rfl) (fun c_826 => ?_) (fun c_826 => ?_)
      · exact absurd c_826 (by
          rcases e3 with e3 | ⟨r3, l3, e3⟩
          · rw [e3]; decide
          · rw [e3]; exact Int32.not_lt.mpr (by rw [Int32.le_iff_toInt_le, nI_toInt (by omega)]; exact Int.le_trans (show (-1 : Int32).toInt ≤ 0 by decide) (by omega)))
      · first | refine w_aload_n C dL_law_829 (by rfl) ?_ | refine w_aload_nN C dL_law_829 (by rfl) ?_
        refine cx_L_90 C (q_digest hl J3) hy3 (by rfl) (by rfl) ⟨show n.1 + 305 + 2 + 1 + 2 + 305 ≤ 637138 by omega, show n.2 + 1830 + 12 + 6 + 12 + 1830 ≤ 7190283 by omega⟩ (by rfl) dL_law_830 (fun z5 h5 p5 => ?_) (fun E hx px => px.elim)
        obtain ⟨e8, J4⟩ := p5
        rw [hD] at e8
        rw [e8]
        refine w_lload C dL_law_833 (by rfl) ?_
        refine w_lcmp C dL_law_835 ?_
        refine w_if_ne (tgt := 843) C dL_law_836 (by rfl) (fun c_836 => ?_) (fun c_836 => ?_)
        · exact absurd ((lg_cmp_eq dg dg).mpr rfl) c_836
        · try simp only [cg_ge, cg_gt, cl_gt, cl_le, cl_eq, cl_lt, cl_ge, bi_eq0, bi_ne0, bI_eq0, Decidable.not_not, Bool.not_eq_false] at c_836
          refine w_iconst (v := 1) C dL_law_839 (by rfl) ?_
          refine w_goto (tgt := 844) C dL_law_840 (by rfl) ?_
          exact kfin _ _ _ (by show n.1 + 305 + 2 + 1 + 2 + 305 ≤ 637138; omega) (by show n.2 + 1830 + 12 + 6 + 12 + 1830 ≤ 7190283; omega)

theorem lt_turns {K : KC} (C : CX K RL cL_law 12 room_1) (hl : (Kl K).stackTraces = false) {y0 o2 o3 : Nat} {cs : Nat → Int32 × Int32} {gs : Nat → GT} (hL : scL (Kt K) ≤ 260)
    (kfin : ∀ (n : Nat × Nat) (lv : List (Option Value)) (h : HM), n.1 ≤ 637138 → n.2 ≤ 7190283 → WW K n 844 lv [.int 1] h) :
    ∀ r t : Nat, t + r = 70 → ∀ (n : Nat × Nat) (c : Nat) (ps : Nat → PT) (nR : Nat) (rs : Nat → RT) (k : KT) (dmp day : Int32) (fw : Nat → UInt64) (fz : Nat → Int32) (f : Nat) (h : HM), n.1 ≤ 200 + 300 * t → n.2 ≤ 2000 + 2000 * t → c ≤ 14 + t → f ≤ 60 * t → LJ (Kt K) y0 o2 o3 fw fz c cs gs ps nR rs k dmp day h → aps 10 ps → (∀ i, i < 10 → qWd (ps i).2.2 = 1 + lbl (lcl (Kt K) (nI i)) 4) → f2w ps ps 0 fw → f2z ps ps 0 fz → IV k day f → WW K n 218 [some (.ref (Kt K 11)), some (.ref y0), some (.ref o2), some (.ref o3), some (.int (nI f)), some (.int (kC k)), some (.int (nI t)), none, none, none, none, none] [] h := by
  intro r
  induction r with
  | zero =>
    intro t ht n c ps nR rs k dmp day fw fz f h n1 n2 hc hf J hap hwd hw hz I
    obtain rfl : t = 70 := by omega
    refine w_iload C dL_law_218 (by rfl) ?_
    refine w_bipush (v := (70)) C dL_law_220 (by rfl) ?_
    refine w_icmp_ge (tgt := 793) C dL_law_222 (by rfl) (fun c_222 => ?_) (fun c_222 => absurd (by decide) c_222)
    exact lt_end C hl (by omega) (by omega) J kfin
  | succ r ih =>
    intro t ht n c ps nR rs k dmp day fw fz f h n1 n2 hc hf J hap hwd hw hz I
    exact lt_turn C hl (by omega) (by omega) hL (by omega) hap hwd hw hz (by omega) J I (by omega) (fun c2 ps2 nR2 rs2 k2 dmp2 day2 f2 hh fw2 fz2 hc2 J2 R2 I2 hf2 hw2 hz2 =>
      ih (t + 1) (by omega) _ c2 ps2 nR2 rs2 k2 dmp2 day2 fw2 fz2 f2 hh (by show n.1 + 259 ≤ _; omega) (by show n.2 + 1634 ≤ _; omega) (by omega) (by omega) J2 (R2.2.2 hap) (fun i hi => (R2.2.1 i hi).trans (hwd i hi)) hw2 hz2 I2)
