/-! THE LAW'S ROADS: one turn's change -/
section ROWS11
variable {K : KC} {n : Nat × Nat} {pc : Nat} {st : List Value} {h : HM} {own : String} {cc : ByteArray} {nL : Nat} {R : Room}
theorem w_istore_11 {a0 a1 a2 a3 a4 a5 a6 a7 a8 a9 a10 b : Option Value} {t : List (Option Value)} (C : CX K own cc nL R) {x : Int32} (hd : decode cc pc = .ok (.istore 11, 2)) (hp : lvOk (some a10)) (k : WW K n (pc + 2) (a0 :: a1 :: a2 :: a3 :: a4 :: a5 :: a6 :: a7 :: a8 :: a9 :: a10 :: some (.int x) :: t) st h) : WW K n pc (a0 :: a1 :: a2 :: a3 :: a4 :: a5 :: a6 :: a7 :: a8 :: a9 :: a10 :: b :: t) (.int x :: st) h := w_istore0 (i := 11) C hd (by simp) (Or.inr ⟨10, rfl, hp⟩) k
theorem w_iinc_11 {a0 a1 a2 a3 a4 a5 a6 a7 a8 a9 a10 : Option Value} {t : List (Option Value)} (C : CX K own cc nL R) {d : Int} {x v : Int32} (hd : decode cc pc = .ok (.iinc 11 d, 3)) (hv : x + Int32.ofInt d = v) (hp : lvOk (some a10)) (k : WW K n (pc + 3) (a0 :: a1 :: a2 :: a3 :: a4 :: a5 :: a6 :: a7 :: a8 :: a9 :: a10 :: some (.int v) :: t) st h) : WW K n pc (a0 :: a1 :: a2 :: a3 :: a4 :: a5 :: a6 :: a7 :: a8 :: a9 :: a10 :: some (.int x) :: t) st h := w_iinc0 (i := 11) C hd rfl hv (Or.inr ⟨10, rfl, hp⟩) k
end ROWS11
theorem many_0 {nP : Nat} {ps : Nat → PT} {nO : Nat} {os : Nat → OT} {nR : Nat} {k : KT} {day pur rf : Int32} : sp_many nP ps nO os nR k day pur rf 0 = day := by
  unfold sp_many
  exact if_pos rfl
theorem many_1 {nP : Nat} {ps : Nat → PT} {nO : Nat} {os : Nat → OT} {nR : Nat} {k : KT} {day pur rf : Int32} : sp_many nP ps nO os nR k day pur rf 1 = kC k := by
  unfold sp_many
  rw [if_neg (by decide)]
  exact if_pos rfl
theorem many_2 {nP : Nat} {ps : Nat → PT} {nO : Nat} {os : Nat → OT} {nR : Nat} {k : KT} {day pur rf : Int32} : sp_many nP ps nO os nR k day pur rf 2 = bi (kL k) := by
  unfold sp_many
  rw [if_neg (by decide)]
  rw [if_neg (by decide)]
  exact if_pos rfl
theorem many_5 {nP : Nat} {ps : Nat → PT} {nO : Nat} {os : Nat → OT} {nR : Nat} {k : KT} {day pur rf : Int32} : sp_many nP ps nO os nR k day pur rf 5 = nI nR := by
  unfold sp_many
  rw [if_neg (by decide)]
  rw [if_neg (by decide)]
  rw [if_neg (by decide)]
  rw [if_neg (by decide)]
  rw [if_neg (by decide)]
  exact if_pos rfl
theorem many_10 {nP : Nat} {ps : Nat → PT} {nO : Nat} {os : Nat → OT} {nR : Nat} {k : KT} {day pur rf : Int32} : sp_many nP ps nO os nR k day pur rf 10 = kF k := by
  unfold sp_many
  rw [if_neg (by decide)]
  rw [if_neg (by decide)]
  rw [if_neg (by decide)]
  rw [if_neg (by decide)]
  rw [if_neg (by decide)]
  rw [if_neg (by decide)]
  rw [if_neg (by decide)]
  rw [if_neg (by decide)]
  rw [if_neg (by decide)]
  rw [if_neg (by decide)]
  exact if_pos rfl

/-- what stands fast of the kiln, the day and the fuel -/
def IV (k : KT) (day : Int32) (f : Nat) : Prop := 20 * dO ≤ dz (kH k) ∧ (∃ d, d ≤ 200 ∧ day = nI d) ∧ kF k = nI f
/-- where a turn has come to, m steps on -/
def TT (tc : Nat → ClassId) (y0 o2 o3 : Nat) (fw : Nat → UInt64) (fz : Nat → Int32) (c : Nat) (cs : Nat → Int32 × Int32) (gs : Nat → GT) (ps : Nat → PT) (f : Nat) (k : KT) (m : Nat) (h : HM) : Prop :=
  ∃ (c2 : Nat) (ps2 : Nat → PT) (nR2 : Nat) (rs2 : Nat → RT) (k2 : KT) (dmp2 day2 : Int32) (f2 : Nat), c2 ≤ c + 1 ∧ LJ tc y0 o2 o3 fw fz c2 cs gs ps2 nR2 rs2 k2 dmp2 day2 h ∧ rel9 ps ps2 ∧ IV k2 day2 f2 ∧ kC k2 = kC k + nI m ∧ f ≤ f2 ∧ f2 ≤ f + 2 * m
theorem bi_cI {c : Prop} [Decidable c] : (if c then (1 : Int32) else 0) = bi (decide c) := by by_cases h : c <;> simp [h, bi]
theorem rel_dry {nR c : Nat} {cs : Nat → Int32 × Int32} {gs : Nat → GT} {ps : Nat → PT} {rs : Nat → RT} {k : KT} (o : okSt c 1 cs 3 gs 10 ps 0 nR rs k) {air : Int32} (ha : 1 ≤ air ∧ air ≤ 8) (m : Nat) : rel9 ps (sp_dps air 10 ps m) := by
  obtain ⟨-, a2, a3⟩ := dps_all (by decide) ha o.qs m
  exact ⟨a2, a3.wd, fun a => a.congr a3⟩
theorem rel_burn {nR c : Nat} {cs : Nat → Int32 × Int32} {gs : Nat → GT} {ps : Nat → PT} {rs : Nat → RT} {k : KT} (o : okSt c 1 cs 3 gs 10 ps 0 nR rs k) (dmp : Int32) (m : Nat) : rel9 ps (sp_bps nR rs k dmp 10 ps m) := by
  obtain ⟨-, a2, a3⟩ := bps_all (nR := nR) (rs := rs) (k := k) (dmp := dmp) (by decide) o.qs m
  exact ⟨a2, a3.wd, fun a => a.congr a3⟩
theorem rel_unload {nR c : Nat} {cs : Nat → Int32 × Int32} {gs : Nat → GT} {ps : Nat → PT} {rs : Nat → RT} {k : KT} (o : okSt c 1 cs 3 gs 10 ps 0 nR rs k) : rel9 ps (sp_each 10 (sp_unl cs gs k) ps 14) := by
  obtain ⟨a1, a2, a3⟩ := unl_all (gs := gs) (k := k) (by decide) o.2.2.2.2.2.2.1 o.2.2.2.2.1
  exact ⟨a1, a2, fun _ => a3⟩

set_option maxHeartbeats 4000000 in
set_option maxRecDepth 100000 in
theorem lr_dry {K : KC} (C : CX K RL cL_law 12 room_1) (hl : (Kl K).stackTraces = false) {h : HM} {n : Nat × Nat} (n1 : n.1 + 300 ≤ 600000) (n2 : n.2 + 2000 ≤ 7000000) {y0 o2 o3 c : Nat} {fw : Nat → UInt64} {fz : Nat → Int32} {cs : Nat → Int32 × Int32} {gs : Nat → GT} {ps : Nat → PT} {nR : Nat} {rs : Nat → RT} {k : KT} {dmp day : Int32} {f t : Nat} {x : Int32} {p : Nat} {ic : Int32} (hc5 : c ≤ 500) (J : LJ (Kt K) y0 o2 o3 fw fz c cs gs ps nR rs k dmp day h) (I : IV k day f) (hp : p < 10) (hic : ¬ ic = 0 → kL k = false ∧ dlt (kH k) 4636737291354636288) (kk : ∀ (m : Nat) (h' : HM), m ≤ 30 → TT (Kt K) y0 o2 o3 fw fz c cs gs ps f k m h' → WW K (n.1 + 10, n.2 + 60) 622 [some (.ref (Kt K 11)), some (.ref y0), some (.ref o2), some (.ref o3), some (.int (nI f)), some (.int (kC k)), some (.int (nI t)), none, none, none, some (.int (nI m)), none] [] h') : WW K n 336 [some (.ref (Kt K 11)), some (.ref y0), some (.ref o2), some (.ref o3), some (.int (nI f)), some (.int (kC k)), some (.int (nI t)), some (.int x), some (.int (nI p)), some (.int ic), some (.int 0), none] [] h := by
  obtain ⟨fs, hy0⟩ := J.y
  have o := J.ok
  obtain ⟨I1, ⟨d0, I2, I3⟩, I4⟩ := id I
  obtain ⟨a1, a2, a3, a4, a5, a6, a7, a8, a9, a10, pw, p1, p2⟩ := id o
  first | refine w_aload_n C dL_law_336 (by rfl) ?_ | refine w_aload_nN C dL_law_336 (by rfl) ?_
  refine w_iconst (v := 0) C dL_law_337 (by rfl) ?_
  refine cx_L_35 C (q_many hl J (by decide)) hy0 (by rfl) (by rfl) ⟨show n.1 + 1 ≤ 637138 by omega, show n.2 + 6 ≤ 7190283 by omega⟩ (by rfl) dL_law_338 (fun z1 h1 p1 => ?_) (fun E hx px => px.elim)
  obtain ⟨rfl, e9⟩ := p1
  rw [many_0] at e9
  rw [e9]
  refine w_sipush (v := (190)) C dL_law_341 (by rfl) ?_
  refine w_icmp_ge (tgt := 622) C dL_law_344 (by rfl) (fun c_344 => ?_) (fun c_344 => ?_)
  · refine w_widen (w_sub (kk 0 _ (by decide) ?_) (by repeat' first | exact trivial | rfl | constructor)) (show n.1 + 1 ≤ n.1 + 10 by omega) (show n.2 + 6 ≤ n.2 + 60 by omega)
    exact ⟨c, ps, nR, rs, k, dmp, day, f, Nat.le_succ c, J, rel_rf o, I, (Int32.add_zero _).symm, Nat.le_refl f, by omega⟩
  · have hd0 : d0 < 190 := by
      rw [I3] at c_344
      exact Nat.not_le.mp (fun q => c_344 (nI_le (a := 190) q (by omega)))
    first | refine w_aload_n C dL_law_347 (by rfl) ?_ | refine w_aload_nN C dL_law_347 (by rfl) ?_
    refine w_iconst (v := 1) C dL_law_348 (by rfl) ?_
    refine w_iload C dL_law_349 (by rfl) ?_
    refine w_iconst (v := 4) C dL_law_351 (by rfl) ?_
    refine w_ishr C dL_law_352 ?_
    refine w_bipush (v := (9)) C dL_law_353 (by rfl) ?_
    refine cl_L_18 C (m_L_below hl (x >>> (4 &&& 31)) 9 (by decide)) (by rfl) (by rfl) ⟨show n.1 + 1 + 0 ≤ 637138 by omega, show n.2 + 6 + 0 ≤ 7190283 by omega⟩ (by rfl) dL_law_355 (fun z2 h2 p2 => ?_)
    obtain ⟨rfl, rfl⟩ := p2
    obtain ⟨b1, hb1, eb1⟩ := lbl_nat (x >>> (4 &&& 31)) (N := 9) (by decide) (by decide)
    rw [show lbl (x >>> (4 &&& 31)) 9 = nI b1 from eb1]
    refine w_iadd C dL_law_358 ?_
    rw [show (1 : Int32) + nI b1 = nI (1 + b1) from nI_add 1 b1]
    refine w_iconst (v := 1) C dL_law_359 (by rfl) ?_
    refine w_iload C dL_law_360 (by rfl) ?_
    refine w_bipush (v := (6)) C dL_law_362 (by rfl) ?_
    refine w_ishr C dL_law_364 ?_
    refine w_bipush (v := (8)) C dL_law_365 (by rfl) ?_
    refine cl_L_18 C (m_L_below hl (x >>> (6 &&& 31)) 8 (by decide)) (by rfl) (by rfl) ⟨show n.1 + 1 + 0 + 0 ≤ 637138 by omega, show n.2 + 6 + 0 + 0 ≤ 7190283 by omega⟩ (by rfl) dL_law_367 (fun z3 h3 p3 => ?_)
    obtain ⟨rfl, rfl⟩ := p3
    obtain ⟨b2, hb2, eb2⟩ := lbl_nat (x >>> (6 &&& 31)) (N := 8) (by decide) (by decide)
    rw [show lbl (x >>> (6 &&& 31)) 8 = nI b2 from eb2]
    refine w_iadd C dL_law_370 ?_
    rw [show (1 : Int32) + nI b2 = nI (1 + b2) from nI_add 1 b2]
    refine cx_L_45 C (q_dry hl J (n := 1 + b1) (a := 1 + b2) (d9 := d0) (by omega) (by omega) (by omega) (by omega) hd0 I3) hy0 (by rfl) (by rfl) ⟨show n.1 + 1 + 0 + 0 + 1 ≤ 637138 by omega, show n.2 + 6 + 0 + 0 + 6 ≤ 7190283 by omega⟩ (by rfl) dL_law_371 (fun z4 h4 p4 => ?_) (fun E hx px => px.elim)
    have J2 := p4
    refine w_pop C dL_law_374 (by rfl) ?_
    refine w_goto (tgt := 622) C dL_law_375 (by rfl) ?_
    refine w_widen (w_sub (kk 0 _ (by decide) ?_) (by repeat' first | exact trivial | rfl | constructor)) (show n.1 + 1 + 0 + 0 + 1 ≤ n.1 + 10 by omega) (show n.2 + 6 + 0 + 0 + 6 ≤ n.2 + 60 by omega)
    exact ⟨c + 1, _, nR, rs, k, dmp, _, f, Nat.le_refl _, J2, rel_dry o (rng_nI (a := 1) (b := 8) (by omega) (by omega) (by decide)) _, ⟨I1, ⟨d0 + (1 + b1), by omega, rfl⟩, I4⟩, (Int32.add_zero _).symm, Nat.le_refl f, by omega⟩

set_option maxHeartbeats 4000000 in
set_option maxRecDepth 100000 in
theorem lr_cover {K : KC} (C : CX K RL cL_law 12 room_1) (hl : (Kl K).stackTraces = false) {h : HM} {n : Nat × Nat} (n1 : n.1 + 300 ≤ 600000) (n2 : n.2 + 2000 ≤ 7000000) {y0 o2 o3 c : Nat} {fw : Nat → UInt64} {fz : Nat → Int32} {cs : Nat → Int32 × Int32} {gs : Nat → GT} {ps : Nat → PT} {nR : Nat} {rs : Nat → RT} {k : KT} {dmp day : Int32} {f t : Nat} {x : Int32} {p : Nat} {ic : Int32} (hc5 : c ≤ 500) (J : LJ (Kt K) y0 o2 o3 fw fz c cs gs ps nR rs k dmp day h) (I : IV k day f) (hp : p < 10) (hic : ¬ ic = 0 → kL k = false ∧ dlt (kH k) 4636737291354636288) (kk : ∀ (m : Nat) (h' : HM), m ≤ 30 → TT (Kt K) y0 o2 o3 fw fz c cs gs ps f k m h' → WW K (n.1 + 10, n.2 + 60) 622 [some (.ref (Kt K 11)), some (.ref y0), some (.ref o2), some (.ref o3), some (.int (nI f)), some (.int (kC k)), some (.int (nI t)), none, none, none, some (.int (nI m)), none] [] h') : WW K n 378 [some (.ref (Kt K 11)), some (.ref y0), some (.ref o2), some (.ref o3), some (.int (nI f)), some (.int (kC k)), some (.int (nI t)), some (.int x), some (.int (nI p)), some (.int ic), some (.int 0), none] [] h := by
  obtain ⟨fs, hy0⟩ := J.y
  have o := J.ok
  obtain ⟨I1, ⟨d0, I2, I3⟩, I4⟩ := id I
  obtain ⟨a1, a2, a3, a4, a5, a6, a7, a8, a9, a10, pw, p1, p2⟩ := id o
  first | refine w_aload_n C dL_law_378 (by rfl) ?_ | refine w_aload_nN C dL_law_378 (by rfl) ?_
  refine w_iload C dL_law_379 (by rfl) ?_
  refine w_iload C dL_law_381 (by rfl) ?_
  refine w_iconst (v := 5) C dL_law_383 (by rfl) ?_
  refine w_ishr C dL_law_384 ?_
  refine w_iconst (v := 2) C dL_law_385 (by rfl) ?_
  refine cl_L_18 C (m_L_below hl (x >>> (5 &&& 31)) 2 (by decide)) (by rfl) (by rfl) ⟨show n.1 + 0 ≤ 637138 by omega, show n.2 + 0 ≤ 7190283 by omega⟩ (by rfl) dL_law_386 (fun z1 h1 p1 => ?_)
  obtain ⟨rfl, rfl⟩ := p1
  obtain ⟨b1, hb1, eb1⟩ := lbl_nat (x >>> (5 &&& 31)) (N := 2) (by decide) (by decide)
  rw [show lbl (x >>> (5 &&& 31)) 2 = nI b1 from eb1]
  refine w_if_ne (tgt := 396) C dL_law_389 (by rfl) (fun c_389 => ?_) (fun c_389 => ?_)
  · try simp only [cg_ge, cg_gt, cl_gt, cl_le, cl_eq, cl_lt, cl_ge, bi_eq0, bi_ne0, bI_eq0, Decidable.not_not, Bool.not_eq_false] at c_389
    refine w_iconst (v := 0) C dL_law_396 (by rfl) ?_
    refine cx_L_48 C (q_cover hl J hp (b := false)) hy0 (by rfl) (by rfl) ⟨show n.1 + 0 + 1 ≤ 637138 by omega, show n.2 + 0 + 6 ≤ 7190283 by omega⟩ (by rfl) dL_law_397 (fun z2 h2 p2 => ?_) (fun E hx px => px.elim)
    have J2 := p2
    refine w_pop C dL_law_400 (by rfl) ?_
    refine w_goto (tgt := 622) C dL_law_401 (by rfl) ?_
    refine w_widen (w_sub (kk 0 _ (by decide) ?_) (by repeat' first | exact trivial | rfl | constructor)) (show n.1 + 0 + 1 ≤ n.1 + 10 by omega) (show n.2 + 0 + 6 ≤ n.2 + 60 by omega)
    exact ⟨c + 1, _, nR, rs, k, dmp, day, f, Nat.le_refl _, J2, rel_cover o p false, I, (Int32.add_zero _).symm, Nat.le_refl f, by omega⟩
  · try simp only [cg_ge, cg_gt, cl_gt, cl_le, cl_eq, cl_lt, cl_ge, bi_eq0, bi_ne0, bI_eq0, Decidable.not_not, Bool.not_eq_false] at c_389
    refine w_iconst (v := 1) C dL_law_392 (by rfl) ?_
    refine w_goto (tgt := 397) C dL_law_393 (by rfl) ?_
    refine cx_L_48 C (q_cover hl J hp (b := true)) hy0 (by rfl) (by rfl) ⟨show n.1 + 0 + 1 ≤ 637138 by omega, show n.2 + 0 + 6 ≤ 7190283 by omega⟩ (by rfl) dL_law_397 (fun z3 h3 p3 => ?_) (fun E hx px => px.elim)
    have J2 := p3
    refine w_pop C dL_law_400 (by rfl) ?_
    refine w_goto (tgt := 622) C dL_law_401 (by rfl) ?_
    refine w_widen (w_sub (kk 0 _ (by decide) ?_) (by repeat' first | exact trivial | rfl | constructor)) (show n.1 + 0 + 1 ≤ n.1 + 10 by omega) (show n.2 + 0 + 6 ≤ n.2 + 60 by omega)
    exact ⟨c + 1, _, nR, rs, k, dmp, day, f, Nat.le_refl _, J2, rel_cover o p true, I, (Int32.add_zero _).symm, Nat.le_refl f, by omega⟩

set_option maxHeartbeats 4000000 in
set_option maxRecDepth 100000 in
theorem lr_place {K : KC} (C : CX K RL cL_law 12 room_1) (hl : (Kl K).stackTraces = false) {h : HM} {n : Nat × Nat} (n1 : n.1 + 300 ≤ 600000) (n2 : n.2 + 2000 ≤ 7000000) {y0 o2 o3 c : Nat} {fw : Nat → UInt64} {fz : Nat → Int32} {cs : Nat → Int32 × Int32} {gs : Nat → GT} {ps : Nat → PT} {nR : Nat} {rs : Nat → RT} {k : KT} {dmp day : Int32} {f t : Nat} {x : Int32} {p : Nat} {ic : Int32} (hc5 : c ≤ 500) (J : LJ (Kt K) y0 o2 o3 fw fz c cs gs ps nR rs k dmp day h) (I : IV k day f) (hp : p < 10) (hic : ¬ ic = 0 → kL k = false ∧ dlt (kH k) 4636737291354636288) (kk : ∀ (m : Nat) (h' : HM), m ≤ 30 → TT (Kt K) y0 o2 o3 fw fz c cs gs ps f k m h' → WW K (n.1 + 10, n.2 + 60) 622 [some (.ref (Kt K 11)), some (.ref y0), some (.ref o2), some (.ref o3), some (.int (nI f)), some (.int (kC k)), some (.int (nI t)), none, none, none, some (.int (nI m)), none] [] h') : WW K n 404 [some (.ref (Kt K 11)), some (.ref y0), some (.ref o2), some (.ref o3), some (.int (nI f)), some (.int (kC k)), some (.int (nI t)), some (.int x), some (.int (nI p)), some (.int ic), some (.int 0), none] [] h := by
  obtain ⟨fs, hy0⟩ := J.y
  have o := J.ok
  obtain ⟨I1, ⟨d0, I2, I3⟩, I4⟩ := id I
  obtain ⟨a1, a2, a3, a4, a5, a6, a7, a8, a9, a10, pw, p1, p2⟩ := id o
  first | refine w_aload_n C dL_law_404 (by rfl) ?_ | refine w_aload_nN C dL_law_404 (by rfl) ?_
  refine w_iload C dL_law_405 (by rfl) ?_
  refine w_iload C dL_law_407 (by rfl) ?_
  refine w_iconst (v := 4) C dL_law_409 (by rfl) ?_
  refine w_ishr C dL_law_410 ?_
  refine w_iconst (v := 3) C dL_law_411 (by rfl) ?_
  refine cl_L_18 C (m_L_below hl (x >>> (4 &&& 31)) 3 (by decide)) (by rfl) (by rfl) ⟨show n.1 + 0 ≤ 637138 by omega, show n.2 + 0 ≤ 7190283 by omega⟩ (by rfl) dL_law_412 (fun z1 h1 p1 => ?_)
  obtain ⟨rfl, rfl⟩ := p1
  obtain ⟨b1, hb1, eb1⟩ := lbl_nat (x >>> (4 &&& 31)) (N := 3) (by decide) (by decide)
  rw [show lbl (x >>> (4 &&& 31)) 3 = nI b1 from eb1]
  refine w_iload C dL_law_415 (by rfl) ?_
  refine w_bipush (v := (6)) C dL_law_417 (by rfl) ?_
  refine w_ishr C dL_law_419 ?_
  refine w_bipush (v := (10)) C dL_law_420 (by rfl) ?_
  refine cl_L_18 C (m_L_below hl (x >>> (6 &&& 31)) 10 (by decide)) (by rfl) (by rfl) ⟨show n.1 + 0 + 0 ≤ 637138 by omega, show n.2 + 0 + 0 ≤ 7190283 by omega⟩ (by rfl) dL_law_422 (fun z2 h2 p2 => ?_)
  obtain ⟨rfl, rfl⟩ := p2
  obtain ⟨b2, hb2, eb2⟩ := lbl_nat (x >>> (6 &&& 31)) (N := 10) (by decide) (by decide)
  rw [show lbl (x >>> (6 &&& 31)) 10 = nI b2 from eb2]
  refine w_SW (st := []) (As := [.ref y0, .int (nI p), .int (nI b1), .int (nI b2)]) C (m_L_place hl J hp hb1 hb2) gw_745 gw_746 gw_22 gw_747 (show okY yL_place 4 = true by decide +kernel) (by rfl) (by rfl) ⟨show n.1 + 0 + 0 + 6 ≤ 637138 by omega, show n.2 + 0 + 0 + 36 ≤ 7190283 by omega⟩ (by rfl) rfl dL_law_425 (fun r9 h2 q2 => ?_)
  obtain ⟨rfl, ps2, R2, J2⟩ := q2
  change WW _ _ _ _ [] _
  refine w_goto (tgt := 622) C dL_law_428 (by rfl) ?_
  refine w_widen (w_sub (kk 0 _ (by decide) ?_) (by repeat' first | exact trivial | rfl | constructor)) (show n.1 + 0 + 0 + 6 ≤ n.1 + 10 by omega) (show n.2 + 0 + 0 + 36 ≤ n.2 + 60 by omega)
  exact ⟨c + 1, _, nR, rs, k, dmp, day, f, Nat.le_refl _, J2, R2, I, (Int32.add_zero _).symm, Nat.le_refl f, by omega⟩

set_option maxHeartbeats 4000000 in
set_option maxRecDepth 100000 in
theorem lr_ramp {K : KC} (C : CX K RL cL_law 12 room_1) (hl : (Kl K).stackTraces = false) {h : HM} {n : Nat × Nat} (n1 : n.1 + 300 ≤ 600000) (n2 : n.2 + 2000 ≤ 7000000) {y0 o2 o3 c : Nat} {fw : Nat → UInt64} {fz : Nat → Int32} {cs : Nat → Int32 × Int32} {gs : Nat → GT} {ps : Nat → PT} {nR : Nat} {rs : Nat → RT} {k : KT} {dmp day : Int32} {f t : Nat} {x : Int32} {p : Nat} {ic : Int32} (hc5 : c ≤ 500) (J : LJ (Kt K) y0 o2 o3 fw fz c cs gs ps nR rs k dmp day h) (I : IV k day f) (hp : p < 10) (hic : ¬ ic = 0 → kL k = false ∧ dlt (kH k) 4636737291354636288) (kk : ∀ (m : Nat) (h' : HM), m ≤ 30 → TT (Kt K) y0 o2 o3 fw fz c cs gs ps f k m h' → WW K (n.1 + 10, n.2 + 60) 622 [some (.ref (Kt K 11)), some (.ref y0), some (.ref o2), some (.ref o3), some (.int (nI f)), some (.int (kC k)), some (.int (nI t)), none, none, none, some (.int (nI m)), none] [] h') : WW K n 431 [some (.ref (Kt K 11)), some (.ref y0), some (.ref o2), some (.ref o3), some (.int (nI f)), some (.int (kC k)), some (.int (nI t)), some (.int x), some (.int (nI p)), some (.int ic), some (.int 0), none] [] h := by
  obtain ⟨fs, hy0⟩ := J.y
  have o := J.ok
  obtain ⟨I1, ⟨d0, I2, I3⟩, I4⟩ := id I
  obtain ⟨a1, a2, a3, a4, a5, a6, a7, a8, a9, a10, pw, p1, p2⟩ := id o
  first | refine w_aload_n C dL_law_431 (by rfl) ?_ | refine w_aload_nN C dL_law_431 (by rfl) ?_
  refine w_iconst (v := 2) C dL_law_432 (by rfl) ?_
  refine cx_L_35 C (q_many hl J (by decide)) hy0 (by rfl) (by rfl) ⟨show n.1 + 1 ≤ 637138 by omega, show n.2 + 6 ≤ 7190283 by omega⟩ (by rfl) dL_law_433 (fun z1 h1 p1 => ?_) (fun E hx px => px.elim)
  obtain ⟨rfl, e9⟩ := p1
  rw [many_2] at e9
  rw [e9]
  refine w_if_ne (tgt := 622) C dL_law_436 (by rfl) (fun c_436 => ?_) (fun c_436 => ?_)
  · try simp only [cg_ge, cg_gt, cl_gt, cl_le, cl_eq, cl_lt, cl_ge, bi_eq0, bi_ne0, bI_eq0, Decidable.not_not, Bool.not_eq_false] at c_436
    refine w_widen (w_sub (kk 0 _ (by decide) ?_) (by repeat' first | exact trivial | rfl | constructor)) (show n.1 + 1 ≤ n.1 + 10 by omega) (show n.2 + 6 ≤ n.2 + 60 by omega)
    exact ⟨c, ps, nR, rs, k, dmp, day, f, Nat.le_succ c, J, rel_rf o, I, (Int32.add_zero _).symm, Nat.le_refl f, by omega⟩
  · try simp only [cg_ge, cg_gt, cl_gt, cl_le, cl_eq, cl_lt, cl_ge, bi_eq0, bi_ne0, bI_eq0, Decidable.not_not, Bool.not_eq_false] at c_436
    first | refine w_aload_n C dL_law_439 (by rfl) ?_ | refine w_aload_nN C dL_law_439 (by rfl) ?_
    refine w_iconst (v := 5) C dL_law_440 (by rfl) ?_
    refine cx_L_35 C (q_many hl J (by decide)) hy0 (by rfl) (by rfl) ⟨show n.1 + 1 + 1 ≤ 637138 by omega, show n.2 + 6 + 6 ≤ 7190283 by omega⟩ (by rfl) dL_law_441 (fun z2 h2 p2 => ?_) (fun E hx px => px.elim)
    obtain ⟨rfl, e9⟩ := p2
    rw [many_5] at e9
    rw [e9]
    refine w_iconst (v := 5) C dL_law_444 (by rfl) ?_
    refine w_icmp_ge (tgt := 622) C dL_law_445 (by rfl) (fun c_445 => ?_) (fun c_445 => ?_)
    · refine w_widen (w_sub (kk 0 _ (by decide) ?_) (by repeat' first | exact trivial | rfl | constructor)) (show n.1 + 1 + 1 ≤ n.1 + 10 by omega) (show n.2 + 6 + 6 ≤ n.2 + 60 by omega)
      exact ⟨c, ps, nR, rs, k, dmp, day, f, Nat.le_succ c, J, rel_rf o, I, (Int32.add_zero _).symm, Nat.le_refl f, by omega⟩
    · have hR5 : nR < 5 := Nat.not_le.mp (fun q => c_445 (nI_le (a := 5) q (by have := a10.1; omega)))
      first | refine w_aload_n C dL_law_448 (by rfl) ?_ | refine w_aload_nN C dL_law_448 (by rfl) ?_
      refine w_bipush (v := (10)) C dL_law_449 (by rfl) ?_
      refine w_iload C dL_law_451 (by rfl) ?_
      refine w_iconst (v := 3) C dL_law_453 (by rfl) ?_
      refine w_ishr C dL_law_454 ?_
      refine w_sipush (v := (191)) C dL_law_455 (by rfl) ?_
      refine cl_L_18 C (m_L_below hl (x >>> (3 &&& 31)) 191 (by decide)) (by rfl) (by rfl) ⟨show n.1 + 1 + 1 + 0 ≤ 637138 by omega, show n.2 + 6 + 6 + 0 ≤ 7190283 by omega⟩ (by rfl) dL_law_458 (fun z3 h3 p3 => ?_)
      obtain ⟨rfl, rfl⟩ := p3
      obtain ⟨b1, hb1, eb1⟩ := lbl_nat (x >>> (3 &&& 31)) (N := 191) (by decide) (by decide)
      rw [show lbl (x >>> (3 &&& 31)) 191 = nI b1 from eb1]
      refine w_iadd C dL_law_461 ?_
      rw [show (10 : Int32) + nI b1 = nI (10 + b1) from nI_add 10 b1]
      refine w_bipush (v := (100)) C dL_law_462 (by rfl) ?_
      refine w_iload C dL_law_464 (by rfl) ?_
      refine w_iconst (v := 5) C dL_law_466 (by rfl) ?_
      refine w_ishr C dL_law_467 ?_
      refine w_sipush (v := (1301)) C dL_law_468 (by rfl) ?_
      refine cl_L_18 C (m_L_below hl (x >>> (5 &&& 31)) 1301 (by decide)) (by rfl) (by rfl) ⟨show n.1 + 1 + 1 + 0 + 0 ≤ 637138 by omega, show n.2 + 6 + 6 + 0 + 0 ≤ 7190283 by omega⟩ (by rfl) dL_law_471 (fun z4 h4 p4 => ?_)
      obtain ⟨rfl, rfl⟩ := p4
      obtain ⟨b2, hb2, eb2⟩ := lbl_nat (x >>> (5 &&& 31)) (N := 1301) (by decide) (by decide)
      rw [show lbl (x >>> (5 &&& 31)) 1301 = nI b2 from eb2]
      refine w_iadd C dL_law_474 ?_
      rw [show (100 : Int32) + nI b2 = nI (100 + b2) from nI_add 100 b2]
      refine w_iload C dL_law_475 (by rfl) ?_
      refine w_bipush (v := (9)) C dL_law_477 (by rfl) ?_
      refine w_ishr C dL_law_479 ?_
      refine w_iconst (v := 5) C dL_law_480 (by rfl) ?_
      refine cl_L_18 C (m_L_below hl (x >>> (9 &&& 31)) 5 (by decide)) (by rfl) (by rfl) ⟨show n.1 + 1 + 1 + 0 + 0 + 0 ≤ 637138 by omega, show n.2 + 6 + 6 + 0 + 0 + 0 ≤ 7190283 by omega⟩ (by rfl) dL_law_481 (fun z5 h5 p5 => ?_)
      obtain ⟨rfl, rfl⟩ := p5
      obtain ⟨b3, hb3, eb3⟩ := lbl_nat (x >>> (9 &&& 31)) (N := 5) (by decide) (by decide)
      rw [show lbl (x >>> (9 &&& 31)) 5 = nI b3 from eb3]
      refine cx_L_56 C (q_ramp hl J ⟨rng_nI (a := 10) (b := 200) (by omega) (by omega) (by decide), rng_nI (a := 100) (b := 1400) (by omega) (by omega) (by decide), rng_nI (a := 0) (b := 20) (by omega) (by omega) (by decide)⟩ c_436 hR5) hy0 (by rfl) (by rfl) ⟨show n.1 + 1 + 1 + 0 + 0 + 0 + 1 ≤ 637138 by omega, show n.2 + 6 + 6 + 0 + 0 + 0 + 6 ≤ 7190283 by omega⟩ (by rfl) dL_law_484 (fun z6 h6 p6 => ?_) (fun E hx px => px.elim)
      have J2 := p6
      refine w_pop C dL_law_487 (by rfl) ?_
      refine w_goto (tgt := 622) C dL_law_488 (by rfl) ?_
      refine w_widen (w_sub (kk 0 _ (by decide) ?_) (by repeat' first | exact trivial | rfl | constructor)) (show n.1 + 1 + 1 + 0 + 0 + 0 + 1 ≤ n.1 + 10 by omega) (show n.2 + 6 + 6 + 0 + 0 + 0 + 6 ≤ n.2 + 60 by omega)
      exact ⟨c + 1, ps, _, _, k, dmp, day, f, Nat.le_refl _, J2, rel_rf o, I, (Int32.add_zero _).symm, Nat.le_refl f, by omega⟩

set_option maxHeartbeats 4000000 in
set_option maxRecDepth 100000 in
theorem lr_light {K : KC} (C : CX K RL cL_law 12 room_1) (hl : (Kl K).stackTraces = false) {h : HM} {n : Nat × Nat} (n1 : n.1 + 300 ≤ 600000) (n2 : n.2 + 2000 ≤ 7000000) {y0 o2 o3 c : Nat} {fw : Nat → UInt64} {fz : Nat → Int32} {cs : Nat → Int32 × Int32} {gs : Nat → GT} {ps : Nat → PT} {nR : Nat} {rs : Nat → RT} {k : KT} {dmp day : Int32} {f t : Nat} {x : Int32} {p : Nat} {ic : Int32} (hc5 : c ≤ 500) (J : LJ (Kt K) y0 o2 o3 fw fz c cs gs ps nR rs k dmp day h) (I : IV k day f) (hp : p < 10) (hic : ¬ ic = 0 → kL k = false ∧ dlt (kH k) 4636737291354636288) (kk : ∀ (m : Nat) (h' : HM), m ≤ 30 → TT (Kt K) y0 o2 o3 fw fz c cs gs ps f k m h' → WW K (n.1 + 10, n.2 + 60) 622 [some (.ref (Kt K 11)), some (.ref y0), some (.ref o2), some (.ref o3), some (.int (nI f)), some (.int (kC k)), some (.int (nI t)), none, none, none, some (.int (nI m)), none] [] h') : WW K n 491 [some (.ref (Kt K 11)), some (.ref y0), some (.ref o2), some (.ref o3), some (.int (nI f)), some (.int (kC k)), some (.int (nI t)), some (.int x), some (.int (nI p)), some (.int ic), some (.int 0), none] [] h := by
  obtain ⟨fs, hy0⟩ := J.y
  have o := J.ok
  obtain ⟨I1, ⟨d0, I2, I3⟩, I4⟩ := id I
  obtain ⟨a1, a2, a3, a4, a5, a6, a7, a8, a9, a10, pw, p1, p2⟩ := id o
  first | refine w_aload_n C dL_law_491 (by rfl) ?_ | refine w_aload_nN C dL_law_491 (by rfl) ?_
  refine w_iconst (v := 2) C dL_law_492 (by rfl) ?_
  refine cx_L_35 C (q_many hl J (by decide)) hy0 (by rfl) (by rfl) ⟨show n.1 + 1 ≤ 637138 by omega, show n.2 + 6 ≤ 7190283 by omega⟩ (by rfl) dL_law_493 (fun z1 h1 p1 => ?_) (fun E hx px => px.elim)
  obtain ⟨rfl, e9⟩ := p1
  rw [many_2] at e9
  rw [e9]
  refine w_if_ne (tgt := 622) C dL_law_496 (by rfl) (fun c_496 => ?_) (fun c_496 => ?_)
  · try simp only [cg_ge, cg_gt, cl_gt, cl_le, cl_eq, cl_lt, cl_ge, bi_eq0, bi_ne0, bI_eq0, Decidable.not_not, Bool.not_eq_false] at c_496
    refine w_widen (w_sub (kk 0 _ (by decide) ?_) (by repeat' first | exact trivial | rfl | constructor)) (show n.1 + 1 ≤ n.1 + 10 by omega) (show n.2 + 6 ≤ n.2 + 60 by omega)
    exact ⟨c, ps, nR, rs, k, dmp, day, f, Nat.le_succ c, J, rel_rf o, I, (Int32.add_zero _).symm, Nat.le_refl f, by omega⟩
  · try simp only [cg_ge, cg_gt, cl_gt, cl_le, cl_eq, cl_lt, cl_ge, bi_eq0, bi_ne0, bI_eq0, Decidable.not_not, Bool.not_eq_false] at c_496
    first | refine w_aload_n C dL_law_499 (by rfl) ?_ | refine w_aload_nN C dL_law_499 (by rfl) ?_
    refine w_iconst (v := 5) C dL_law_500 (by rfl) ?_
    refine cx_L_35 C (q_many hl J (by decide)) hy0 (by rfl) (by rfl) ⟨show n.1 + 1 + 1 ≤ 637138 by omega, show n.2 + 6 + 6 ≤ 7190283 by omega⟩ (by rfl) dL_law_501 (fun z2 h2 p2 => ?_) (fun E hx px => px.elim)
    obtain ⟨rfl, e9⟩ := p2
    rw [many_5] at e9
    rw [e9]
    refine w_if_le (tgt := 622) C dL_law_504 (by rfl) (fun c_504 => ?_) (fun c_504 => ?_)
    · try simp only [cg_ge, cg_gt, cl_gt, cl_le, cl_eq, cl_lt, cl_ge, bi_eq0, bi_ne0, bI_eq0, Decidable.not_not, Bool.not_eq_false] at c_504
      refine w_widen (w_sub (kk 0 _ (by decide) ?_) (by repeat' first | exact trivial | rfl | constructor)) (show n.1 + 1 + 1 ≤ n.1 + 10 by omega) (show n.2 + 6 + 6 ≤ n.2 + 60 by omega)
      exact ⟨c, ps, nR, rs, k, dmp, day, f, Nat.le_succ c, J, rel_rf o, I, (Int32.add_zero _).symm, Nat.le_refl f, by omega⟩
    · try simp only [cg_ge, cg_gt, cl_gt, cl_le, cl_eq, cl_lt, cl_ge, bi_eq0, bi_ne0, bI_eq0, Decidable.not_not, Bool.not_eq_false] at c_504
      have hR0 : ¬ nR = 0 := fun w => c_504 (by rw [w]; decide)
      first | refine w_aload_n C dL_law_507 (by rfl) ?_ | refine w_aload_nN C dL_law_507 (by rfl) ?_
      refine cx_L_60 C (q_light hl J c_496 hR0) hy0 (by rfl) (by rfl) ⟨show n.1 + 1 + 1 + 1 ≤ 637138 by omega, show n.2 + 6 + 6 + 6 ≤ 7190283 by omega⟩ (by rfl) dL_law_508 (fun z3 h3 p3 => ?_) (fun E hx px => px.elim)
      have J2 := p3
      refine w_pop C dL_law_511 (by rfl) ?_
      refine w_goto (tgt := 622) C dL_law_512 (by rfl) ?_
      refine w_widen (w_sub (kk 0 _ (by decide) ?_) (by repeat' first | exact trivial | rfl | constructor)) (show n.1 + 1 + 1 + 1 ≤ n.1 + 10 by omega) (show n.2 + 6 + 6 + 6 ≤ n.2 + 60 by omega)
      exact ⟨c + 1, ps, nR, rs, _, dmp, day, f, Nat.le_refl _, J2, rel_rf o, I, (Int32.add_zero _).symm, Nat.le_refl f, by omega⟩

set_option maxHeartbeats 4000000 in
set_option maxRecDepth 100000 in
theorem lr_door {K : KC} (C : CX K RL cL_law 12 room_1) (hl : (Kl K).stackTraces = false) {h : HM} {n : Nat × Nat} (n1 : n.1 + 300 ≤ 600000) (n2 : n.2 + 2000 ≤ 7000000) {y0 o2 o3 c : Nat} {fw : Nat → UInt64} {fz : Nat → Int32} {cs : Nat → Int32 × Int32} {gs : Nat → GT} {ps : Nat → PT} {nR : Nat} {rs : Nat → RT} {k : KT} {dmp day : Int32} {f t : Nat} {x : Int32} {p : Nat} {ic : Int32} (hc5 : c ≤ 500) (J : LJ (Kt K) y0 o2 o3 fw fz c cs gs ps nR rs k dmp day h) (I : IV k day f) (hp : p < 10) (hic : ¬ ic = 0 → kL k = false ∧ dlt (kH k) 4636737291354636288) (kk : ∀ (m : Nat) (h' : HM), m ≤ 30 → TT (Kt K) y0 o2 o3 fw fz c cs gs ps f k m h' → WW K (n.1 + 10, n.2 + 60) 622 [some (.ref (Kt K 11)), some (.ref y0), some (.ref o2), some (.ref o3), some (.int (nI f)), some (.int (kC k)), some (.int (nI t)), none, none, none, some (.int (nI m)), none] [] h') : WW K n 515 [some (.ref (Kt K 11)), some (.ref y0), some (.ref o2), some (.ref o3), some (.int (nI f)), some (.int (kC k)), some (.int (nI t)), some (.int x), some (.int (nI p)), some (.int ic), some (.int 0), none] [] h := by
  obtain ⟨fs, hy0⟩ := J.y
  have o := J.ok
  obtain ⟨I1, ⟨d0, I2, I3⟩, I4⟩ := id I
  obtain ⟨a1, a2, a3, a4, a5, a6, a7, a8, a9, a10, pw, p1, p2⟩ := id o
  first | refine w_aload_n C dL_law_515 (by rfl) ?_ | refine w_aload_nN C dL_law_515 (by rfl) ?_
  refine w_iload C dL_law_516 (by rfl) ?_
  refine w_iconst (v := 4) C dL_law_518 (by rfl) ?_
  refine w_ishr C dL_law_519 ?_
  refine w_iconst (v := 3) C dL_law_520 (by rfl) ?_
  refine cl_L_18 C (m_L_below hl (x >>> (4 &&& 31)) 3 (by decide)) (by rfl) (by rfl) ⟨show n.1 + 0 ≤ 637138 by omega, show n.2 + 0 ≤ 7190283 by omega⟩ (by rfl) dL_law_521 (fun z1 h1 p1 => ?_)
  obtain ⟨rfl, rfl⟩ := p1
  obtain ⟨b1, hb1, eb1⟩ := lbl_nat (x >>> (4 &&& 31)) (N := 3) (by decide) (by decide)
  rw [show lbl (x >>> (4 &&& 31)) 3 = nI b1 from eb1]
  refine w_if_ne (tgt := 531) C dL_law_524 (by rfl) (fun c_524 => ?_) (fun c_524 => ?_)
  · try simp only [cg_ge, cg_gt, cl_gt, cl_le, cl_eq, cl_lt, cl_ge, bi_eq0, bi_ne0, bI_eq0, Decidable.not_not, Bool.not_eq_false] at c_524
    refine w_iconst (v := 0) C dL_law_531 (by rfl) ?_
    refine cl_L_64 C (q_door hl J (b := false)) hy0 (by rfl) (by rfl) ⟨show n.1 + 0 + 0 ≤ 637138 by omega, show n.2 + 0 + 0 ≤ 7190283 by omega⟩ (by rfl) dL_law_532 (fun z2 h2 p2 => ?_)
    have J2 := p2
    refine w_pop C dL_law_535 (by rfl) ?_
    refine w_goto (tgt := 622) C dL_law_536 (by rfl) ?_
    refine w_widen (w_sub (kk 0 _ (by decide) ?_) (by repeat' first | exact trivial | rfl | constructor)) (show n.1 + 0 + 0 ≤ n.1 + 10 by omega) (show n.2 + 0 + 0 ≤ n.2 + 60 by omega)
    exact ⟨c + 1, ps, nR, rs, _, dmp, day, f, Nat.le_refl _, J2, rel_rf o, I, (Int32.add_zero _).symm, Nat.le_refl f, by omega⟩
  · try simp only [cg_ge, cg_gt, cl_gt, cl_le, cl_eq, cl_lt, cl_ge, bi_eq0, bi_ne0, bI_eq0, Decidable.not_not, Bool.not_eq_false] at c_524
    refine w_iconst (v := 1) C dL_law_527 (by rfl) ?_
    refine w_goto (tgt := 532) C dL_law_528 (by rfl) ?_
    refine cl_L_64 C (q_door hl J (b := true)) hy0 (by rfl) (by rfl) ⟨show n.1 + 0 + 0 ≤ 637138 by omega, show n.2 + 0 + 0 ≤ 7190283 by omega⟩ (by rfl) dL_law_532 (fun z3 h3 p3 => ?_)
    have J2 := p3
    refine w_pop C dL_law_535 (by rfl) ?_
    refine w_goto (tgt := 622) C dL_law_536 (by rfl) ?_
    refine w_widen (w_sub (kk 0 _ (by decide) ?_) (by repeat' first | exact trivial | rfl | constructor)) (show n.1 + 0 + 0 ≤ n.1 + 10 by omega) (show n.2 + 0 + 0 ≤ n.2 + 60 by omega)
    exact ⟨c + 1, ps, nR, rs, _, dmp, day, f, Nat.le_refl _, J2, rel_rf o, I, (Int32.add_zero _).symm, Nat.le_refl f, by omega⟩

set_option maxHeartbeats 4000000 in
set_option maxRecDepth 100000 in
theorem lr_unload {K : KC} (C : CX K RL cL_law 12 room_1) (hl : (Kl K).stackTraces = false) {h : HM} {n : Nat × Nat} (n1 : n.1 + 300 ≤ 600000) (n2 : n.2 + 2000 ≤ 7000000) {y0 o2 o3 c : Nat} {fw : Nat → UInt64} {fz : Nat → Int32} {cs : Nat → Int32 × Int32} {gs : Nat → GT} {ps : Nat → PT} {nR : Nat} {rs : Nat → RT} {k : KT} {dmp day : Int32} {f t : Nat} {x : Int32} {p : Nat} {ic : Int32} (hc5 : c ≤ 500) (J : LJ (Kt K) y0 o2 o3 fw fz c cs gs ps nR rs k dmp day h) (I : IV k day f) (hp : p < 10) (hic : ¬ ic = 0 → kL k = false ∧ dlt (kH k) 4636737291354636288) (kk : ∀ (m : Nat) (h' : HM), m ≤ 30 → TT (Kt K) y0 o2 o3 fw fz c cs gs ps f k m h' → WW K (n.1 + 10, n.2 + 60) 622 [some (.ref (Kt K 11)), some (.ref y0), some (.ref o2), some (.ref o3), some (.int (nI f)), some (.int (kC k)), some (.int (nI t)), none, none, none, some (.int (nI m)), none] [] h') : WW K n 539 [some (.ref (Kt K 11)), some (.ref y0), some (.ref o2), some (.ref o3), some (.int (nI f)), some (.int (kC k)), some (.int (nI t)), some (.int x), some (.int (nI p)), some (.int ic), some (.int 0), none] [] h := by
  obtain ⟨fs, hy0⟩ := J.y
  have o := J.ok
  obtain ⟨I1, ⟨d0, I2, I3⟩, I4⟩ := id I
  obtain ⟨a1, a2, a3, a4, a5, a6, a7, a8, a9, a10, pw, p1, p2⟩ := id o
  refine w_iload C dL_law_539 (by rfl) ?_
  refine w_if_eq (tgt := 552) C dL_law_541 (by rfl) (fun c_541 => ?_) (fun c_541 => ?_)
  · try simp only [cg_ge, cg_gt, cl_gt, cl_le, cl_eq, cl_lt, cl_ge, bi_eq0, bi_ne0, bI_eq0, Decidable.not_not, Bool.not_eq_false] at c_541
    first | refine w_aload_n C dL_law_552 (by rfl) ?_ | refine w_aload_nN C dL_law_552 (by rfl) ?_
    refine w_iload C dL_law_553 (by rfl) ?_
    refine w_iconst (v := 4) C dL_law_555 (by rfl) ?_
    refine w_ishr C dL_law_556 ?_
    refine w_iconst (v := 5) C dL_law_557 (by rfl) ?_
    refine cl_L_18 C (m_L_below hl (x >>> (4 &&& 31)) 5 (by decide)) (by rfl) (by rfl) ⟨show n.1 + 0 ≤ 637138 by omega, show n.2 + 0 ≤ 7190283 by omega⟩ (by rfl) dL_law_558 (fun z1 h1 p1 => ?_)
    obtain ⟨rfl, rfl⟩ := p1
    obtain ⟨b1, hb1, eb1⟩ := lbl_nat (x >>> (4 &&& 31)) (N := 5) (by decide) (by decide)
    rw [show lbl (x >>> (4 &&& 31)) 5 = nI b1 from eb1]
    refine cx_L_71 C (q_damper hl J (rng_nI (a := 0) (b := 4) (by omega) (by omega) (by decide))) hy0 (by rfl) (by rfl) ⟨show n.1 + 0 + 1 ≤ 637138 by omega, show n.2 + 0 + 6 ≤ 7190283 by omega⟩ (by rfl) dL_law_561 (fun z2 h2 p2 => ?_) (fun E hx px => px.elim)
    have J2 := p2
    refine w_pop C dL_law_564 (by rfl) ?_
    refine w_goto (tgt := 622) C dL_law_565 (by rfl) ?_
    refine w_widen (w_sub (kk 0 _ (by decide) ?_) (by repeat' first | exact trivial | rfl | constructor)) (show n.1 + 0 + 1 ≤ n.1 + 10 by omega) (show n.2 + 0 + 6 ≤ n.2 + 60 by omega)
    exact ⟨c + 1, ps, nR, rs, k, _, day, f, Nat.le_refl _, J2, rel_rf o, I, (Int32.add_zero _).symm, Nat.le_refl f, by omega⟩
  · try simp only [cg_ge, cg_gt, cl_gt, cl_le, cl_eq, cl_lt, cl_ge, bi_eq0, bi_ne0, bI_eq0, Decidable.not_not, Bool.not_eq_false] at c_541
    first | refine w_aload_n C dL_law_544 (by rfl) ?_ | refine w_aload_nN C dL_law_544 (by rfl) ?_
    refine cx_L_68 C (q_unload hl J (by omega) (hic c_541)) hy0 (by rfl) (by rfl) ⟨show n.1 + 1 ≤ 637138 by omega, show n.2 + 6 ≤ 7190283 by omega⟩ (by rfl) dL_law_545 (fun z3 h3 p3 => ?_) (fun E hx px => px.elim)
    have J2 := p3
    refine w_pop C dL_law_548 (by rfl) ?_
    refine w_goto (tgt := 622) C dL_law_549 (by rfl) ?_
    refine w_widen (w_sub (kk 0 _ (by decide) ?_) (by repeat' first | exact trivial | rfl | constructor)) (show n.1 + 1 ≤ n.1 + 10 by omega) (show n.2 + 6 ≤ n.2 + 60 by omega)
    exact ⟨c + 1, _, nR, rs, _, dmp, day, f, Nat.le_refl _, J2, rel_unload o, I, (Int32.add_zero _).symm, Nat.le_refl f, by omega⟩

set_option maxHeartbeats 4000000 in
set_option maxRecDepth 100000 in
theorem lr_burn {K : KC} (C : CX K RL cL_law 12 room_1) (hl : (Kl K).stackTraces = false) {h : HM} {n : Nat × Nat} (n1 : n.1 + 300 ≤ 600000) (n2 : n.2 + 2000 ≤ 7000000) {y0 o2 o3 c : Nat} {fw : Nat → UInt64} {fz : Nat → Int32} {cs : Nat → Int32 × Int32} {gs : Nat → GT} {ps : Nat → PT} {nR : Nat} {rs : Nat → RT} {k : KT} {dmp day : Int32} {f t : Nat} {x : Int32} {p : Nat} {ic : Int32} (hc5 : c ≤ 500) (J : LJ (Kt K) y0 o2 o3 fw fz c cs gs ps nR rs k dmp day h) (I : IV k day f) (hp : p < 10) (hic : ¬ ic = 0 → kL k = false ∧ dlt (kH k) 4636737291354636288) (kk : ∀ (m : Nat) (h' : HM), m ≤ 30 → TT (Kt K) y0 o2 o3 fw fz c cs gs ps f k m h' → WW K (n.1 + 10, n.2 + 60) 622 [some (.ref (Kt K 11)), some (.ref y0), some (.ref o2), some (.ref o3), some (.int (nI f)), some (.int (kC k)), some (.int (nI t)), none, none, none, some (.int (nI m)), none] [] h') : WW K n 568 [some (.ref (Kt K 11)), some (.ref y0), some (.ref o2), some (.ref o3), some (.int (nI f)), some (.int (kC k)), some (.int (nI t)), some (.int x), some (.int (nI p)), some (.int ic), some (.int 0), none] [] h := by
  obtain ⟨fs, hy0⟩ := J.y
  have o := J.ok
  obtain ⟨I1, ⟨d0, I2, I3⟩, I4⟩ := id I
  obtain ⟨a1, a2, a3, a4, a5, a6, a7, a8, a9, a10, pw, p1, p2⟩ := id o
  first | refine w_aload_n C dL_law_568 (by rfl) ?_ | refine w_aload_nN C dL_law_568 (by rfl) ?_
  refine w_iconst (v := 2) C dL_law_569 (by rfl) ?_
  refine cx_L_35 C (q_many hl J (by decide)) hy0 (by rfl) (by rfl) ⟨show n.1 + 1 ≤ 637138 by omega, show n.2 + 6 ≤ 7190283 by omega⟩ (by rfl) dL_law_570 (fun z1 h1 p1 => ?_) (fun E hx px => px.elim)
  obtain ⟨rfl, e9⟩ := p1
  rw [many_2] at e9
  rw [e9]
  refine w_iconst (v := 1) C dL_law_573 (by rfl) ?_
  refine w_icmp_ne (tgt := 581) C dL_law_574 (by rfl) (fun c_574 => ?_) (fun c_574 => ?_)
  · refine w_iconst (v := 0) C dL_law_581 (by rfl) ?_
    refine w_istore_11 C dL_law_582 (by first | trivial | rfl) ?_
    refine w_iconst (v := 1) C dL_law_584 (by rfl) ?_
    refine w_iload C dL_law_585 (by rfl) ?_
    refine w_iconst (v := 5) C dL_law_587 (by rfl) ?_
    refine w_ishr C dL_law_588 ?_
    refine w_bipush (v := (30)) C dL_law_589 (by rfl) ?_
    refine cl_L_18 C (m_L_below hl (x >>> (5 &&& 31)) 30 (by decide)) (by rfl) (by rfl) ⟨show n.1 + 1 + 0 ≤ 637138 by omega, show n.2 + 6 + 0 ≤ 7190283 by omega⟩ (by rfl) dL_law_591 (fun z2 h2 p2 => ?_)
    obtain ⟨rfl, rfl⟩ := p2
    obtain ⟨b1, hb1, eb1⟩ := lbl_nat (x >>> (5 &&& 31)) (N := 30) (by decide) (by decide)
    rw [show lbl (x >>> (5 &&& 31)) 30 = nI b1 from eb1]
    refine w_iadd C dL_law_594 ?_
    rw [show (1 : Int32) + nI b1 = nI (1 + b1) from nI_add 1 b1]
    refine w_istore_10 C dL_law_595 (by first | trivial | rfl) ?_
    first | refine w_aload_n C dL_law_597 (by rfl) ?_ | refine w_aload_nN C dL_law_597 (by rfl) ?_
    refine w_iload C dL_law_598 (by rfl) ?_
    refine cx_L_74 C (q_burn hl J (m := 1 + b1) (by omega) (by omega)) hy0 (by rfl) (by rfl) ⟨show n.1 + 1 + 0 + 1 ≤ 637138 by omega, show n.2 + 6 + 0 + 6 ≤ 7190283 by omega⟩ (by rfl) dL_law_600 (fun z3 h3 p3 => ?_) (fun E hx px => px.elim)
    have J2 := p3
    obtain ⟨r1, r2, ⟨f2, r3, r4, r5⟩, r6⟩ := run_all a8 a9 a10 I1 I4 (1 + b1)
    refine w_pop C dL_law_603 (by rfl) ?_
    refine w_iload C dL_law_604 (by rfl) ?_
    refine w_if_ne (tgt := 622) C dL_law_606 (by rfl) (fun c_606 => ?_) (fun c_606 => ?_)
    · exact absurd rfl c_606
    · try simp only [cg_ge, cg_gt, cl_gt, cl_le, cl_eq, cl_lt, cl_ge, bi_eq0, bi_ne0, bI_eq0, Decidable.not_not, Bool.not_eq_false] at c_606
      first | refine w_aload_n C dL_law_609 (by rfl) ?_ | refine w_aload_nN C dL_law_609 (by rfl) ?_
      refine w_bipush (v := (10)) C dL_law_610 (by rfl) ?_
      refine cx_L_35 C (q_many hl J2 (by decide)) J2.y.choose_spec (by rfl) (by rfl) ⟨show n.1 + 1 + 0 + 1 + 1 ≤ 637138 by omega, show n.2 + 6 + 0 + 6 + 6 ≤ 7190283 by omega⟩ (by rfl) dL_law_612 (fun z4 h4 p4 => ?_) (fun E hx px => px.elim)
      obtain ⟨rfl, e9⟩ := p4
      rw [many_10] at e9
      rw [e9]
      refine w_iload C dL_law_615 (by rfl) ?_
      refine w_icmp_eq (tgt := 622) C dL_law_617 (by rfl) (fun c_617 => ?_) (fun c_617 => ?_)
      · refine w_widen (w_sub (kk (1 + b1) _ (by omega) ?_) (by repeat' first | exact trivial | rfl | constructor)) (show n.1 + 1 + 0 + 1 + 1 ≤ n.1 + 10 by omega) (show n.2 + 6 + 0 + 6 + 6 ≤ n.2 + 60 by omega)
        exact ⟨c + 1, _, nR, rs, _, dmp, day, f2, Nat.le_refl _, J2, rel_burn o dmp _, ⟨r1, ⟨d0, I2, I3⟩, r5⟩, r2, r3, r4⟩
      · exact absurd (by
          have kl : kL k = false := by
            cases hh : kL k with
            | false => rfl
            | true => exact absurd (by rw [hh]; rfl) c_574
          rw [(r6 kl).2, I4]) c_617
  · refine w_iconst (v := 1) C dL_law_577 (by rfl) ?_
    refine w_goto (tgt := 582) C dL_law_578 (by rfl) ?_
    refine w_istore_11 C dL_law_582 (by first | trivial | rfl) ?_
    refine w_iconst (v := 1) C dL_law_584 (by rfl) ?_
    refine w_iload C dL_law_585 (by rfl) ?_
    refine w_iconst (v := 5) C dL_law_587 (by rfl) ?_
    refine w_ishr C dL_law_588 ?_
    refine w_bipush (v := (30)) C dL_law_589 (by rfl) ?_
    refine cl_L_18 C (m_L_below hl (x >>> (5 &&& 31)) 30 (by decide)) (by rfl) (by rfl) ⟨show n.1 + 1 + 0 ≤ 637138 by omega, show n.2 + 6 + 0 ≤ 7190283 by omega⟩ (by rfl) dL_law_591 (fun z5 h5 p5 => ?_)
    obtain ⟨rfl, rfl⟩ := p5
    obtain ⟨b1, hb1, eb1⟩ := lbl_nat (x >>> (5 &&& 31)) (N := 30) (by decide) (by decide)
    rw [show lbl (x >>> (5 &&& 31)) 30 = nI b1 from eb1]
    refine w_iadd C dL_law_594 ?_
    rw [show (1 : Int32) + nI b1 = nI (1 + b1) from nI_add 1 b1]
    refine w_istore_10 C dL_law_595 (by first | trivial | rfl) ?_
    first | refine w_aload_n C dL_law_597 (by rfl) ?_ | refine w_aload_nN C dL_law_597 (by rfl) ?_
    refine w_iload C dL_law_598 (by rfl) ?_
    refine cx_L_74 C (q_burn hl J (m := 1 + b1) (by omega) (by omega)) hy0 (by rfl) (by rfl) ⟨show n.1 + 1 + 0 + 1 ≤ 637138 by omega, show n.2 + 6 + 0 + 6 ≤ 7190283 by omega⟩ (by rfl) dL_law_600 (fun z6 h6 p6 => ?_) (fun E hx px => px.elim)
    have J2 := p6
    obtain ⟨r1, r2, ⟨f2, r3, r4, r5⟩, r6⟩ := run_all a8 a9 a10 I1 I4 (1 + b1)
    refine w_pop C dL_law_603 (by rfl) ?_
    refine w_iload C dL_law_604 (by rfl) ?_
    refine w_if_ne (tgt := 622) C dL_law_606 (by rfl) (fun c_606 => ?_) (fun c_606 => ?_)
    · try simp only [cg_ge, cg_gt, cl_gt, cl_le, cl_eq, cl_lt, cl_ge, bi_eq0, bi_ne0, bI_eq0, Decidable.not_not, Bool.not_eq_false] at c_606
      refine w_widen (w_sub (kk (1 + b1) _ (by omega) ?_) (by repeat' first | exact trivial | rfl | constructor)) (show n.1 + 1 + 0 + 1 ≤ n.1 + 10 by omega) (show n.2 + 6 + 0 + 6 ≤ n.2 + 60 by omega)
      exact ⟨c + 1, _, nR, rs, _, dmp, day, f2, Nat.le_refl _, J2, rel_burn o dmp _, ⟨r1, ⟨d0, I2, I3⟩, r5⟩, r2, r3, r4⟩
    · exact absurd c_606 (by decide)
