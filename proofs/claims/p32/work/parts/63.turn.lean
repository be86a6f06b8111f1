/-! THE LAW'S TURNS -/
theorem cg_lt9 {r : Option Ordering} : Op.cmpValue r .g < 0 ↔ r = some .lt := by rcases r with _ | (_ | _ | _) <;> decide
theorem mul2_nI (m : Nat) : (2 : Int32) * nI m = nI (2 * m) := (Int32.ofNat_mul 2 m).symm
theorem not_lt9 {a b : Nat} (h : b ≤ a) (ha : a < 2 ^ 31) : ¬ nI a < nI b := Int32.not_lt.mpr (by rw [Int32.le_iff_toInt_le, nI_toInt (by omega), nI_toInt ha]; omega)
/-- what the rows say of the first j pots (as they are now) and of the others (as they were) -/
def f2w (ps ps2 : Nat → PT) (j : Nat) (fw : Nat → UInt64) : Prop := ∀ i, i < 10 → fw i = if i < j then FP.f2d (qWa (ps2 i).2.2) else FP.f2d (qWa (ps i).2.2)
def f2z (ps ps2 : Nat → PT) (j : Nat) (fz : Nat → Int32) : Prop := ∀ i, i < 10 → fz i = if i < j then bi (decide (qSt (ps2 i).2.2 = 5)) else bi (decide (qSt (ps i).2.2 = 5))
theorem f2w.up {ps ps2 : Nat → PT} {j : Nat} {fw : Nat → UInt64} (h : f2w ps ps2 j fw) : f2w ps ps2 (j + 1) (vf_upd fw j (FP.f2d (qWa (ps2 j).2.2))) := by
  intro i hi
  unfold vf_upd
  by_cases e : i = j
  · subst e; rw [if_pos rfl, if_pos (by omega)]
  · rw [if_neg e, h i hi]
    by_cases w : i < j
    · rw [if_pos w, if_pos (by omega)]
    · rw [if_neg w, if_neg (by omega)]
theorem f2z.up {ps ps2 : Nat → PT} {j : Nat} {fz : Nat → Int32} (h : f2z ps ps2 j fz) {x : Int32} (hx : x = bi (decide (qSt (ps2 j).2.2 = 5))) : f2z ps ps2 (j + 1) (upd fz j x) := by
  intro i hi
  unfold upd
  by_cases e : i = j
  · subst e; rw [if_pos rfl, if_pos (by omega), hx]
  · rw [if_neg e, h i hi]
    by_cases w : i < j
    · rw [if_pos w, if_pos (by omega)]
    · rw [if_neg w, if_neg (by omega)]
theorem f2w.here {ps ps2 : Nat → PT} {j : Nat} {fw : Nat → UInt64} (h : f2w ps ps2 j fw) (hj : j < 10) : fw j = FP.f2d (qWa (ps j).2.2) := by rw [h j hj, if_neg (by omega)]
theorem f2z.here {ps ps2 : Nat → PT} {j : Nat} {fz : Nat → Int32} (h : f2z ps ps2 j fz) (hj : j < 10) : fz j = bi (decide (qSt (ps j).2.2 = 5)) := by rw [h j hj, if_neg (by omega)]
theorem wat_gt {q q' : QT} (h : wb1 q q') : ¬ FP.dcmp (FP.f2d (qWa q')) (FP.f2d (qWa q)) = some .gt := by
  obtain ⟨⟨n, n2, l, l2, e1, e2⟩, -⟩ := h
  rw [e1, e2, w2_at (by omega) l2, Option.some.injEq, Nat.compare_eq_gt]
  omega
theorem wat_0 {q q' : QT} (h : wb1 q q') : ¬ FP.dcmp (FP.f2d (qWa q')) FP.dconst0 = some .lt := by
  obtain ⟨⟨n, n2, l, l2, e1, e2⟩, -⟩ := h
  rw [e2]
  exact w2_0 ⟨n2, by omega⟩

set_option maxHeartbeats 4000000 in
set_option maxRecDepth 100000 in
theorem lt_loop {K : KC} (C : CX K RL cL_law 12 room_1) (hl : (Kl K).stackTraces = false) {n : Nat × Nat} (n1 : n.1 + 300 ≤ 600000) (n2 : n.2 + 2000 ≤ 7000000) {y0 o2 o3 c : Nat} {cs : Nat → Int32 × Int32} {gs : Nat → GT} {ps : Nat → PT} {nR : Nat} {rs : Nat → RT} {k : KT} {dmp day : Int32} {f t : Nat} {ps2 : Nat → PT} (hr : rel9 ps ps2)
    (kk : ∀ (hh : HM) (fw : Nat → UInt64) (fz : Nat → Int32), LJ (Kt K) y0 o2 o3 fw fz c cs gs ps2 nR rs k dmp day hh → f2w ps ps2 10 fw → f2z ps ps2 10 fz → WW K (n.1 + 175 + 70, n.2 + 1130 + 420) 787 [some (.ref (Kt K 11)), some (.ref y0), some (.ref o2), some (.ref o3), some (.int (nI f)), some (.int (kC k)), some (.int (nI t)), none, none, none, none, some (.int (nI 10))] [] hh)
    : ∀ j : Nat, j ≤ 10 → ∀ (hh : HM) (fw : Nat → UInt64) (fz : Nat → Int32),  (J : LJ (Kt K) y0 o2 o3 fw fz c cs gs ps2 nR rs k dmp day hh) → (hw : f2w ps ps2 j fw) → (hz : f2z ps ps2 j fz) → WW K (n.1 + 175 + 7 * j, n.2 + 1130 + 42 * j) 699 [some (.ref (Kt K 11)), some (.ref y0), some (.ref o2), some (.ref o3), some (.int (nI f)), some (.int (kC k)), some (.int (nI t)), none, none, none, none, some (.int (nI j))] [] hh := by
  refine up_ind ?_
  intro j hj ih hh fw fz J hw hz
  have wj := fun hj3 : j < 10 => hr.1 j hj3
  refine w_iload C dL_law_699 (by rfl) ?_
  refine w_bipush (v := (10)) C dL_law_701 (by rfl) ?_
  refine w_icmp_ge (tgt := 787) C dL_law_703 (by rfl) (fun c_703 => ?_) (fun c_703 => ?_)
  · have e3 : ¬ j < 10 := fun q => nI_ge q (by decide) c_703
    obtain rfl : j = 10 := by omega
    exact kk _ _ _ J hw hz
  · have hj3 : j < 10 := Nat.not_le.mp (fun q => c_703 (nI_le (a := 10) q (by omega)))
    obtain ⟨fs, hy0⟩ := J.y
    first | refine w_aload_n C dL_law_706 (by rfl) ?_ | refine w_aload_nN C dL_law_706 (by rfl) ?_
    refine w_iload C dL_law_707 (by rfl) ?_
    refine cx_L_84 C (q_water hl J hj3) J.y.choose_spec (by rfl) (by rfl) ⟨show n.1 + 175 + 7 * j + 1 ≤ 637138 by omega, show n.2 + 1130 + 42 * j + 6 ≤ 7190283 by omega⟩ (by rfl) dL_law_709 (fun z1 h1 p1 => ?_) (fun E hx px => px.elim)
    obtain ⟨rfl, rfl⟩ := p1
    first | refine w_aload_n C dL_law_712 (by rfl) ?_ | refine w_aload_nN C dL_law_712 (by rfl) ?_
    refine w_iload C dL_law_713 (by rfl) ?_
    refine w_daldn C J.w.1 hj3 (by decide) dL_law_715 ?_
    rw [hw.here hj3]
    refine w_dcmp C dL_law_716 ?_
    refine w_if_gt (tgt := 749) C dL_law_717 (by rfl) (fun c_717 => ?_) (fun c_717 => ?_)
    · exact absurd (cl_gt.mp c_717) (wat_gt (wj hj3))
    · try simp only [cg_ge, cg_gt, cl_gt, cl_le, cl_eq, cl_lt, cl_ge, bi_eq0, bi_ne0, bI_eq0, Decidable.not_not, Bool.not_eq_false] at c_717
      first | refine w_aload_n C dL_law_720 (by rfl) ?_ | refine w_aload_nN C dL_law_720 (by rfl) ?_
      refine w_iload C dL_law_721 (by rfl) ?_
      refine cx_L_84 C (q_water hl J hj3) J.y.choose_spec (by rfl) (by rfl) ⟨show n.1 + 175 + 7 * j + 1 + 1 ≤ 637138 by omega, show n.2 + 1130 + 42 * j + 6 + 6 ≤ 7190283 by omega⟩ (by rfl) dL_law_723 (fun z2 h2 p2 => ?_) (fun E hx px => px.elim)
      obtain ⟨rfl, rfl⟩ := p2
      refine w_dconst0 C dL_law_726 ?_
      refine w_dcmp C dL_law_727 ?_
      refine w_if_lt (tgt := 749) C dL_law_728 (by rfl) (fun c_728 => ?_) (fun c_728 => ?_)
      · exact absurd (cg_lt9.mp c_728) (wat_0 (wj hj3))
      · try simp only [cg_ge, cg_gt, cl_gt, cl_le, cl_eq, cl_lt, cl_ge, bi_eq0, bi_ne0, bI_eq0, Decidable.not_not, Bool.not_eq_false] at c_728
        first | refine w_aload_n C dL_law_731 (by rfl) ?_ | refine w_aload_nN C dL_law_731 (by rfl) ?_
        refine w_iload C dL_law_732 (by rfl) ?_
        refine w_zaldn C J.w.2 hj3 (by decide) dL_law_734 ?_
        rw [hz.here hj3]
        refine w_if_eq (tgt := 751) C dL_law_735 (by rfl) (fun c_735 => ?_) (fun c_735 => ?_)
        · try simp only [cg_ge, cg_gt, cl_gt, cl_le, cl_eq, cl_lt, cl_ge, bi_eq0, bi_ne0, bI_eq0, Decidable.not_not, Bool.not_eq_false] at c_735
          first | refine w_aload_n C dL_law_751 (by rfl) ?_ | refine w_aload_nN C dL_law_751 (by rfl) ?_
          refine w_iload C dL_law_752 (by rfl) ?_
          first | refine w_aload_n C dL_law_754 (by rfl) ?_ | refine w_aload_nN C dL_law_754 (by rfl) ?_
          refine w_iload C dL_law_755 (by rfl) ?_
          refine cx_L_84 C (q_water hl J hj3) J.y.choose_spec (by rfl) (by rfl) ⟨show n.1 + 175 + 7 * j + 1 + 1 + 1 ≤ 637138 by omega, show n.2 + 1130 + 42 * j + 6 + 6 + 6 ≤ 7190283 by omega⟩ (by rfl) dL_law_757 (fun z3 h3 p3 => ?_) (fun E hx px => px.elim)
          obtain ⟨rfl, rfl⟩ := p3
          refine w_dastn C J.w.1 hj3 (by decide) dL_law_760 (fun h9 u9 => ?_)
          have J2 := J.w2 u9
          first | refine w_aload_n C dL_law_761 (by rfl) ?_ | refine w_aload_nN C dL_law_761 (by rfl) ?_
          refine w_iload C dL_law_762 (by rfl) ?_
          first | refine w_aload_n C dL_law_764 (by rfl) ?_ | refine w_aload_nN C dL_law_764 (by rfl) ?_
          refine w_iload C dL_law_765 (by rfl) ?_
          refine w_iconst (v := 0) C dL_law_767 (by rfl) ?_
          refine cx_L_87 C (q_ofPot hl J2 hj3 (by decide)) J2.y.choose_spec (by rfl) (by rfl) ⟨show n.1 + 175 + 7 * j + 1 + 1 + 1 + 2 ≤ 637138 by omega, show n.2 + 1130 + 42 * j + 6 + 6 + 6 + 12 ≤ 7190283 by omega⟩ (by rfl) dL_law_768 (fun z4 h4 p4 => ?_) (fun E hx px => px.elim)
          obtain ⟨rfl, rfl⟩ := p4
          rw [show sp_ofPot gs (ps2 j) 0 = qSt (ps2 j).2.2 from rfl]
          refine w_iconst (v := 5) C dL_law_771 (by rfl) ?_
          refine w_icmp_ne (tgt := 779) C dL_law_772 (by rfl) (fun c_772 => ?_) (fun c_772 => ?_)
          · refine w_iconst (v := 0) C dL_law_779 (by rfl) ?_
            refine w_zastn C J2.w.2 hj3 (by decide) (Or.inl rfl) dL_law_780 (fun h10 u10 => ?_)
            refine w_iinc_11 (v := _ + (1)) C dL_law_781 (by rfl) (by first | trivial | rfl) ?_
            refine w_goto (tgt := 699) C dL_law_784 (by rfl) ?_
            rw [nI_1 j]
            refine w_widen (n' := (n.1 + 175 + 7 * (j + 1), n.2 + 1130 + 42 * (j + 1))) ?_ (by dsimp only [rm_X7_water, rm_X7_ofPot]; omega) (by dsimp only [rm_X7_water, rm_X7_ofPot]; omega)
            exact w_sub (ih hj3 _ _ _ (J2.w3 u10) hw.up (hz.up (by rw [decide_eq_false c_772]; rfl))) (by repeat' first | exact trivial | rfl | constructor)
          · refine w_iconst (v := 1) C dL_law_775 (by rfl) ?_
            refine w_goto (tgt := 780) C dL_law_776 (by rfl) ?_
            refine w_zastn C J2.w.2 hj3 (by decide) (Or.inr rfl) dL_law_780 (fun h10 u10 => ?_)
            refine w_iinc_11 (v := _ + (1)) C dL_law_781 (by rfl) (by first | trivial | rfl) ?_
            refine w_goto (tgt := 699) C dL_law_784 (by rfl) ?_
            rw [nI_1 j]
            refine w_widen (n' := (n.1 + 175 + 7 * (j + 1), n.2 + 1130 + 42 * (j + 1))) ?_ (by dsimp only [rm_X7_water, rm_X7_ofPot]; omega) (by dsimp only [rm_X7_water, rm_X7_ofPot]; omega)
            exact w_sub (ih hj3 _ _ _ (J2.w3 u10) hw.up (hz.up (by rw [decide_eq_true c_772]; rfl))) (by repeat' first | exact trivial | rfl | constructor)
        · try simp only [cg_ge, cg_gt, cl_gt, cl_le, cl_eq, cl_lt, cl_ge, bi_eq0, bi_ne0, bI_eq0, Decidable.not_not, Bool.not_eq_false] at c_735
          first | refine w_aload_n C dL_law_738 (by rfl) ?_ | refine w_aload_nN C dL_law_738 (by rfl) ?_
          refine w_iload C dL_law_739 (by rfl) ?_
          refine w_iconst (v := 0) C dL_law_741 (by rfl) ?_
          refine cx_L_87 C (q_ofPot hl J hj3 (by decide)) J.y.choose_spec (by rfl) (by rfl) ⟨show n.1 + 175 + 7 * j + 1 + 1 + 2 ≤ 637138 by omega, show n.2 + 1130 + 42 * j + 6 + 6 + 12 ≤ 7190283 by omega⟩ (by rfl) dL_law_742 (fun z5 h5 p5 => ?_) (fun E hx px => px.elim)
          obtain ⟨rfl, rfl⟩ := p5
          rw [show sp_ofPot gs (ps2 j) 0 = qSt (ps2 j).2.2 from rfl]
          refine w_iconst (v := 5) C dL_law_745 (by rfl) ?_
          refine w_icmp_eq (tgt := 751) C dL_law_746 (by rfl) (fun c_746 => ?_) (fun c_746 => ?_)
          · first | refine w_aload_n C dL_law_751 (by rfl) ?_ | refine w_aload_nN C dL_law_751 (by rfl) ?_
            refine w_iload C dL_law_752 (by rfl) ?_
            first | refine w_aload_n C dL_law_754 (by rfl) ?_ | refine w_aload_nN C dL_law_754 (by rfl) ?_
            refine w_iload C dL_law_755 (by rfl) ?_
            refine cx_L_84 C (q_water hl J hj3) J.y.choose_spec (by rfl) (by rfl) ⟨show n.1 + 175 + 7 * j + 1 + 1 + 2 + 1 ≤ 637138 by omega, show n.2 + 1130 + 42 * j + 6 + 6 + 12 + 6 ≤ 7190283 by omega⟩ (by rfl) dL_law_757 (fun z6 h6 p6 => ?_) (fun E hx px => px.elim)
            obtain ⟨rfl, rfl⟩ := p6
            refine w_dastn C J.w.1 hj3 (by decide) dL_law_760 (fun h9 u9 => ?_)
            have J2 := J.w2 u9
            first | refine w_aload_n C dL_law_761 (by rfl) ?_ | refine w_aload_nN C dL_law_761 (by rfl) ?_
            refine w_iload C dL_law_762 (by rfl) ?_
            first | refine w_aload_n C dL_law_764 (by rfl) ?_ | refine w_aload_nN C dL_law_764 (by rfl) ?_
            refine w_iload C dL_law_765 (by rfl) ?_
            refine w_iconst (v := 0) C dL_law_767 (by rfl) ?_
            refine cx_L_87 C (q_ofPot hl J2 hj3 (by decide)) J2.y.choose_spec (by rfl) (by rfl) ⟨show n.1 + 175 + 7 * j + 1 + 1 + 2 + 1 + 2 ≤ 637138 by omega, show n.2 + 1130 + 42 * j + 6 + 6 + 12 + 6 + 12 ≤ 7190283 by omega⟩ (by rfl) dL_law_768 (fun z7 h7 p7 => ?_) (fun E hx px => px.elim)
            obtain ⟨rfl, rfl⟩ := p7
            rw [show sp_ofPot gs (ps2 j) 0 = qSt (ps2 j).2.2 from rfl]
            refine w_iconst (v := 5) C dL_law_771 (by rfl) ?_
            refine w_icmp_ne (tgt := 779) C dL_law_772 (by rfl) (fun c_772 => ?_) (fun c_772 => ?_)
            · refine w_iconst (v := 0) C dL_law_779 (by rfl) ?_
              refine w_zastn C J2.w.2 hj3 (by decide) (Or.inl rfl) dL_law_780 (fun h10 u10 => ?_)
              refine w_iinc_11 (v := _ + (1)) C dL_law_781 (by rfl) (by first | trivial | rfl) ?_
              refine w_goto (tgt := 699) C dL_law_784 (by rfl) ?_
              rw [nI_1 j]
              refine w_widen (n' := (n.1 + 175 + 7 * (j + 1), n.2 + 1130 + 42 * (j + 1))) ?_ (by dsimp only [rm_X7_water, rm_X7_ofPot]; omega) (by dsimp only [rm_X7_water, rm_X7_ofPot]; omega)
              exact w_sub (ih hj3 _ _ _ (J2.w3 u10) hw.up (hz.up (by rw [decide_eq_false c_772]; rfl))) (by repeat' first | exact trivial | rfl | constructor)
            · refine w_iconst (v := 1) C dL_law_775 (by rfl) ?_
              refine w_goto (tgt := 780) C dL_law_776 (by rfl) ?_
              refine w_zastn C J2.w.2 hj3 (by decide) (Or.inr rfl) dL_law_780 (fun h10 u10 => ?_)
              refine w_iinc_11 (v := _ + (1)) C dL_law_781 (by rfl) (by first | trivial | rfl) ?_
              refine w_goto (tgt := 699) C dL_law_784 (by rfl) ?_
              rw [nI_1 j]
              refine w_widen (n' := (n.1 + 175 + 7 * (j + 1), n.2 + 1130 + 42 * (j + 1))) ?_ (by dsimp only [rm_X7_water, rm_X7_ofPot]; omega) (by dsimp only [rm_X7_water, rm_X7_ofPot]; omega)
              exact w_sub (ih hj3 _ _ _ (J2.w3 u10) hw.up (hz.up (by rw [decide_eq_true c_772]; rfl))) (by repeat' first | exact trivial | rfl | constructor)
          · exact absurd ((wj hj3).2 (of_decide_eq_true c_735)) c_746

set_option maxHeartbeats 4000000 in
set_option maxRecDepth 100000 in
theorem lt_checks {K : KC} (C : CX K RL cL_law 12 room_1) (hl : (Kl K).stackTraces = false) {h : HM} {n : Nat × Nat} (n1 : n.1 + 300 ≤ 600000) (n2 : n.2 + 2000 ≤ 7000000) {y0 o2 o3 c : Nat} {fw : Nat → UInt64} {fz : Nat → Int32} {cs : Nat → Int32 × Int32} {gs : Nat → GT} {ps : Nat → PT} {nR : Nat} {rs : Nat → RT} {k : KT} {dmp day : Int32} {f t m : Nat} (hm : m ≤ 30) (hL : scL (Kt K) ≤ 260) (hft : f ≤ 4200) (hap : aps 10 ps) (hwd : ∀ i, i < 10 → qWd (ps i).2.2 = 1 + lbl (lcl (Kt K) (nI i)) 4) (hw : f2w ps ps 0 fw) (hz : f2z ps ps 0 fz) (T : TT (Kt K) y0 o2 o3 fw fz c cs gs ps f k m h) (kk : ∀ (c2 : Nat) (ps2 : Nat → PT) (nR2 : Nat) (rs2 : Nat → RT) (k2 : KT) (dmp2 day2 : Int32) (f2 : Nat) (hh : HM) (fw2 : Nat → UInt64) (fz2 : Nat → Int32), c2 ≤ c + 1 → LJ (Kt K) y0 o2 o3 fw2 fz2 c2 cs gs ps2 nR2 rs2 k2 dmp2 day2 hh → rel9 ps ps2 → IV k2 day2 f2 → f2 ≤ f + 60 → f2w ps2 ps2 0 fw2 → f2z ps2 ps2 0 fz2 → WW K (n.1 + 245, n.2 + 1550) 218 [some (.ref (Kt K 11)), some (.ref y0), some (.ref o2), some (.ref o3), some (.int (nI f2)), some (.int (kC k2)), some (.int (nI (t + 1))), none, none, none, none, none] [] hh) : WW K n 622 [some (.ref (Kt K 11)), some (.ref y0), some (.ref o2), some (.ref o3), some (.int (nI f)), some (.int (kC k)), some (.int (nI t)), none, none, none, some (.int (nI m)), none] [] h := by
  obtain ⟨c2, ps2, nR2, rs2, k2, dmp2, day2, f2, hc2, J, hr, ⟨I1, I2, I3⟩, eC, b1, b2⟩ := T
  obtain ⟨fs, hy0⟩ := J.y
  have o := J.ok
  refine w_iload C dL_law_622 (by rfl) ?_
  refine w_iload C dL_law_624 (by rfl) ?_
  refine w_iadd C dL_law_626 ?_
  rw [← eC]
  refine w_istore_5 C dL_law_627 (by first | trivial | rfl) ?_
  first | refine w_aload_n C dL_law_629 (by rfl) ?_ | refine w_aload_nN C dL_law_629 (by rfl) ?_
  refine w_iconst (v := 1) C dL_law_630 (by rfl) ?_
  refine cx_L_35 C (q_many hl J (by decide)) hy0 (by rfl) (by rfl) ⟨show n.1 + 1 ≤ 637138 by omega, show n.2 + 6 ≤ 7190283 by omega⟩ (by rfl) dL_law_631 (fun z1 h1 p1 => ?_) (fun E hx px => px.elim)
  obtain ⟨rfl, e9⟩ := p1
  rw [many_1] at e9
  rw [e9]
  refine w_iload C dL_law_634 (by rfl) ?_
  refine w_icmp_ne (tgt := 686) C dL_law_636 (by rfl) (fun c_636 => ?_) (fun c_636 => ?_)
  · exact absurd rfl c_636
  · first | refine w_aload_n C dL_law_639 (by rfl) ?_ | refine w_aload_nN C dL_law_639 (by rfl) ?_
    refine w_bipush (v := (10)) C dL_law_640 (by rfl) ?_
    refine cx_L_35 C (q_many hl J (by decide)) hy0 (by rfl) (by rfl) ⟨show n.1 + 1 + 1 ≤ 637138 by omega, show n.2 + 6 + 6 ≤ 7190283 by omega⟩ (by rfl) dL_law_642 (fun z2 h2 p2 => ?_) (fun E hx px => px.elim)
    obtain ⟨rfl, e9⟩ := p2
    rw [many_10] at e9
    rw [e9]
    rw [I3]
    refine w_iload C dL_law_645 (by rfl) ?_
    refine w_icmp_lt (tgt := 686) C dL_law_647 (by rfl) (fun c_647 => ?_) (fun c_647 => ?_)
    · exact absurd c_647 (not_lt9 b1 (by omega))
    · first | refine w_aload_n C dL_law_650 (by rfl) ?_ | refine w_aload_nN C dL_law_650 (by rfl) ?_
      refine w_bipush (v := (10)) C dL_law_651 (by rfl) ?_
      refine cx_L_35 C (q_many hl J (by decide)) hy0 (by rfl) (by rfl) ⟨show n.1 + 1 + 1 + 1 ≤ 637138 by omega, show n.2 + 6 + 6 + 6 ≤ 7190283 by omega⟩ (by rfl) dL_law_653 (fun z3 h3 p3 => ?_) (fun E hx px => px.elim)
      obtain ⟨rfl, e9⟩ := p3
      rw [many_10] at e9
      rw [e9]
      rw [I3]
      refine w_iload C dL_law_656 (by rfl) ?_
      refine w_iconst (v := 2) C dL_law_658 (by rfl) ?_
      refine w_iload C dL_law_659 (by rfl) ?_
      refine w_imul C dL_law_661 ?_
      refine w_iadd C dL_law_662 ?_
      refine w_icmp_gt (tgt := 686) C dL_law_663 (by rfl) (fun c_663 => ?_) (fun c_663 => ?_)
      · exact absurd (by rw [mul2_nI, nI_add] at c_663; exact c_663) (not_lt9 b2 (by omega))
      · first | refine w_aload_n C dL_law_666 (by rfl) ?_ | refine w_aload_nN C dL_law_666 (by rfl) ?_
        refine w_iconst (v := 0) C dL_law_667 (by rfl) ?_
        refine cx_L_39 C (q_kiln hl J (by decide)) hy0 (by rfl) (by rfl) ⟨show n.1 + 1 + 1 + 1 + 1 ≤ 637138 by omega, show n.2 + 6 + 6 + 6 + 6 ≤ 7190283 by omega⟩ (by rfl) dL_law_668 (fun z4 h4 p4 => ?_) (fun E hx px => px.elim)
        obtain ⟨rfl, rfl⟩ := p4
        rw [show sp_kiln k2 0 = kH k2 from rfl]
        refine lc_L_78 C dL_law_671 ?_
        refine w_dcmp C dL_law_674 ?_
        refine w_if_lt (tgt := 686) C dL_law_675 (by rfl) (fun c_675 => ?_) (fun c_675 => ?_)
        · exact absurd (dcmp_lt9 o.2.2.2.2.2.2.2.1.1.1 (df_whole w20).n (cg_lt9.mp c_675)) (by rw [dz_whole w20]; exact Int.not_lt.mpr I1)
        · try simp only [cg_ge, cg_gt, cl_gt, cl_le, cl_eq, cl_lt, cl_ge, bi_eq0, bi_ne0, bI_eq0, Decidable.not_not, Bool.not_eq_false] at c_675
          first | refine w_aload_n C dL_law_678 (by rfl) ?_ | refine w_aload_nN C dL_law_678 (by rfl) ?_
          first | refine w_aload_n C dL_law_679 (by rfl) ?_ | refine w_aload_nN C dL_law_679 (by rfl) ?_
          refine cl_L_80 C (m_L_areApart hl J (hr.2.2 hap) (fun i hi => (hr.2.1 i hi).trans (hwd i hi)) hL) (by rfl) (by rfl) ⟨show n.1 + 1 + 1 + 1 + 1 + 170 ≤ 637138 by omega, show n.2 + 6 + 6 + 6 + 6 + 1100 ≤ 7190283 by omega⟩ (by rfl) dL_law_680 (fun z5 h5 p5 => ?_)
          obtain ⟨rfl, s9⟩ := p5
          refine w_heap ?_ s9
          refine w_if_ne (tgt := 688) C dL_law_683 (by rfl) (fun c_683 => ?_) (fun c_683 => ?_)
          · try simp only [cg_ge, cg_gt, cl_gt, cl_le, cl_eq, cl_lt, cl_ge, bi_eq0, bi_ne0, bI_eq0, Decidable.not_not, Bool.not_eq_false] at c_683
            first | refine w_aload_n C dL_law_688 (by rfl) ?_ | refine w_aload_nN C dL_law_688 (by rfl) ?_
            refine w_bipush (v := (10)) C dL_law_689 (by rfl) ?_
            refine cx_L_35 C (q_many hl J (by decide)) hy0 (by rfl) (by rfl) ⟨show n.1 + 1 + 1 + 1 + 1 + 170 + 1 ≤ 637138 by omega, show n.2 + 6 + 6 + 6 + 6 + 1100 + 6 ≤ 7190283 by omega⟩ (by rfl) dL_law_691 (fun z6 h6 p6 => ?_) (fun E hx px => px.elim)
            obtain ⟨rfl, e9⟩ := p6
            rw [many_10] at e9
            rw [e9]
            rw [I3]
            refine w_istore_4 C dL_law_694 (by first | trivial | rfl) ?_
            refine w_iconst (v := 0) C dL_law_696 (by rfl) ?_
            refine w_istore_11 C dL_law_697 (by first | trivial | rfl) ?_
            refine w_sub (lt_loop (k := k2) (t := t) (n := n) C hl n1 n2 hr (fun hh fw2 fz2 J9 w9 z9 => ?_) 0 (by decide) _ _ _ J (fun i hi => by rw [hw i hi, if_neg (by omega), if_neg (by omega)]) (fun i hi => by rw [hz i hi, if_neg (by omega), if_neg (by omega)])) (by repeat' first | exact trivial | rfl | constructor)
            refine w_iinc_6 (v := nI (t + 1)) C dL_law_787 (nI_1 t) (by first | trivial | rfl) ?_
            refine w_goto (tgt := 218) C dL_law_790 (by rfl) ?_
            exact w_sub (kk c2 ps2 nR2 rs2 k2 dmp2 day2 f2 hh fw2 fz2 hc2 J9 hr ⟨I1, I2, I3⟩ (by omega) (fun i hi => by rw [w9 i hi, if_pos hi, if_neg (by omega)]) (fun i hi => by rw [z9 i hi, if_pos hi, if_neg (by omega)])) (by repeat' first | exact trivial | rfl | constructor)
          · exact absurd c_683 (by decide)
