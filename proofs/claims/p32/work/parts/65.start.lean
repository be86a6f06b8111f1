/-! THE LAW'S BEGINNING -/
theorem LJ.mk9 {tc : Nat → ClassId} {hh : HM} {y0 o2 o3 c : Nat} {cs : Nat → Int32 × Int32} {gs : Nat → GT} {ps : Nat → PT} {nR : Nat} {rs : Nat → RT} {k : KT} {dmp day : Int32} (J : JY tc y0 c 1 cs 3 gs 10 ps nR rs k dmp day hh) (n2 : hh o2 = none) (n3 : hu hh o2 (.inl (tc 2, 10, .inr (.inr (.inr (.inl (fun _ => 0)))))) o3 = none) :
    LJ tc y0 o2 o3 (fun _ => 0) (fun _ => 0) c cs gs ps nR rs k dmp day (hu (hu hh o2 (.inl (tc 2, 10, .inr (.inr (.inr (.inl (fun _ => 0))))))) o3 (.inl (tc 1, 10, .inl (fun _ => 0)))) := by
  have e2 : hu hh o2 (.inl (tc 2, 10, .inr (.inr (.inr (.inl (fun _ => 0)))))) = hj hh (hu (fun _ => none) o2 (.inl (tc 2, 10, .inr (.inr (.inr (.inl (fun _ => 0))))))) := by rw [← hj_hu n2, hj_e]
  rw [e2] at n3 ⊢
  obtain ⟨m1, m2⟩ := hj_none n3
  exact ⟨hh, _, hj_hu m1, D2.hu9 (D2.hu9 D2.e9 n2) m1, J, hu_n (hu_self _ _ _) m2, hu_self _ _ _⟩
theorem wl_tbl : ∀ b : Fin 3, (1 : Int32) <<< (nI b.1 &&& 31) = 1 ∨ (1 : Int32) <<< (nI b.1 &&& 31) = 2 ∨ (1 : Int32) <<< (nI b.1 &&& 31) = 4 := by decide +kernel
/-- what the pots are as they are thrown -/
def np9 (tc : Nat → ClassId) (j : Nat) (ps : Nat → PT) : Prop := ∀ i, i < j → qWd (ps i).2.2 = 1 + lbl (lcl tc (nI i)) 4 ∧ qSh (ps i).2.2 = -1 ∧ qSt (ps i).2.2 = 0 ∧ qWa (ps i).2.2 = 1090519040
theorem np9.up {tc : Nat → ClassId} {j : Nat} {ps : Nat → PT} (h : np9 tc j ps) {c : Nat} {hg wl : Int32} : np9 tc (j + 1) (vf_upd ps j (c, none, (1 + lbl (lcl tc (nI j)) 4, hg, wl, 0, 1090519040, false, 0, 0, -1, -1))) := by
  intro i hi
  unfold vf_upd
  by_cases e : i = j
  · subst e; rw [if_pos rfl]; exact ⟨rfl, rfl, rfl, rfl⟩
  · rw [if_neg e]; exact h i (by omega)

theorem JY.y {tc : Nat → ClassId} {h : HM} {y0 c nC : Nat} {cs : Nat → Int32 × Int32} {nG : Nat} {gs : Nat → GT} {nP : Nat} {ps : Nat → PT} {nR : Nat} {rs : Nat → RT} {k : KT} {dmp day : Int32} (J : JY tc y0 c nC cs nG gs nP ps nR rs k dmp day h) : ∃ fs : List Value, h y0 = some (.inr (6, fs)) := by
  obtain ⟨⟨cA, gA, pA, oA, pr, ra, re, rw9, tr, tw, ca, ga, pa, oa, f, hb, hbt, dmt, kt, Y⟩, o⟩ := J
  exact ⟨_, Y.1⟩

set_option maxHeartbeats 4000000 in
set_option maxRecDepth 100000 in
theorem ls_glaze {K : KC} (C : CX K RL cL_law 12 room_1) (hl : (Kl K).stackTraces = false) {y0 : Nat} {cs : Nat → Int32 × Int32} {ps : Nat → PT} {rs : Nat → RT} (hL : scL (Kt K) ≤ 260)
    (kk : ∀ (hh : HM) (gs : Nat → GT), JY (Kt K) y0 4 1 cs 3 gs 0 ps 0 rs k0 0 0 hh → WW K (15, 104) 118 [some (.ref (Kt K 11)), some (.ref y0), some (.int (nI 3)), none, none, none, none, none, none, none, none, none] [] hh)
    : ∀ j : Nat, j ≤ 3 → ∀ (hh : HM) (gs : Nat → GT),  (J : JY (Kt K) y0 (1 + j) 1 cs j gs 0 ps 0 rs k0 0 0 hh) → WW K (12 + j, 86 + 6 * j) 40 [some (.ref (Kt K 11)), some (.ref y0), some (.int (nI j)), none, none, none, none, none, none, none, none, none] [] hh := by
  refine up_ind ?_
  intro j hj ih hh gs J
  obtain ⟨fs, hy0⟩ := JY.y J
  refine w_iload_n C dL_law_40 (by rfl) ?_
  refine w_iconst (v := 3) C dL_law_41 (by rfl) ?_
  refine w_icmp_ge (tgt := 118) C dL_law_42 (by rfl) (fun c_42 => ?_) (fun c_42 => ?_)
  · have e3 : ¬ j < 3 := fun q => nI_ge q (by decide) c_42
    obtain rfl : j = 3 := by omega
    exact kk _ _ J
  · have hj3 : j < 3 := Nat.not_le.mp (fun q => c_42 (nI_le (a := 3) q (by omega)))
    first | refine w_aload_n C dL_law_45 (by rfl) ?_ | refine w_aload_nN C dL_law_45 (by rfl) ?_
    refine w_iconst (v := 1) C dL_law_46 (by rfl) ?_
    first | refine w_aload_n C dL_law_47 (by rfl) ?_ | refine w_aload_nN C dL_law_47 (by rfl) ?_
    refine w_iload_n C dL_law_48 (by rfl) ?_
    refine cl_L_12 C (m_L_cell hl (a := nI j) (by first | decide | (rw [nI_toInt (by omega)]; omega)) hL) (by rfl) (by rfl) ⟨show 12 + j + 0 ≤ 637138 by omega, show 86 + 6 * j + 0 ≤ 7190283 by omega⟩ (by rfl) dL_law_49 (fun z9 h1 p1 => ?_)
    obtain ⟨rfl, rfl⟩ := p1
    refine w_bipush (v := (30)) C dL_law_52 (by rfl) ?_
    refine cl_L_18 C (m_L_below hl (lcl (Kt K) (nI j)) 30 (by decide)) (by rfl) (by rfl) ⟨show 12 + j + 0 + 0 ≤ 637138 by omega, show 86 + 6 * j + 0 + 0 ≤ 7190283 by omega⟩ (by rfl) dL_law_54 (fun z2 h2 p2 => ?_)
    obtain ⟨rfl, rfl⟩ := p2
    obtain ⟨b1, hb1, eb1⟩ := lbl_nat (lcl (Kt K) (nI j)) (N := 30) (by decide) (by decide)
    rw [show lbl (lcl (Kt K) (nI j)) 30 = nI b1 from eb1]
    refine w_iadd C dL_law_57 ?_
    rw [show (1 : Int32) + nI b1 = nI (1 + b1) from nI_add 1 b1]
    first | refine w_aload_n C dL_law_58 (by rfl) ?_ | refine w_aload_nN C dL_law_58 (by rfl) ?_
    refine w_iload_n C dL_law_59 (by rfl) ?_
    refine w_iconst (v := 3) C dL_law_60 (by rfl) ?_
    refine w_iadd C dL_law_61 ?_
    rw [show nI j + 3 = nI (j + 3) from nI_add j 3]
    refine cl_L_12 C (m_L_cell hl (a := nI (j + 3)) (by first | decide | (rw [nI_toInt (by omega)]; omega)) hL) (by rfl) (by rfl) ⟨show 12 + j + 0 + 0 + 0 ≤ 637138 by omega, show 86 + 6 * j + 0 + 0 + 0 ≤ 7190283 by omega⟩ (by rfl) dL_law_62 (fun z9 h3 p3 => ?_)
    obtain ⟨rfl, rfl⟩ := p3
    refine w_bipush (v := (30)) C dL_law_65 (by rfl) ?_
    refine cl_L_18 C (m_L_below hl (lcl (Kt K) (nI (j + 3))) 30 (by decide)) (by rfl) (by rfl) ⟨show 12 + j + 0 + 0 + 0 + 0 ≤ 637138 by omega, show 86 + 6 * j + 0 + 0 + 0 + 0 ≤ 7190283 by omega⟩ (by rfl) dL_law_67 (fun z4 h4 p4 => ?_)
    obtain ⟨rfl, rfl⟩ := p4
    obtain ⟨b2, hb2, eb2⟩ := lbl_nat (lcl (Kt K) (nI (j + 3))) (N := 30) (by decide) (by decide)
    rw [show lbl (lcl (Kt K) (nI (j + 3))) 30 = nI b2 from eb2]
    first | refine w_aload_n C dL_law_70 (by rfl) ?_ | refine w_aload_nN C dL_law_70 (by rfl) ?_
    refine w_iload_n C dL_law_71 (by rfl) ?_
    refine w_bipush (v := (6)) C dL_law_72 (by rfl) ?_
    refine w_iadd C dL_law_74 ?_
    rw [show nI j + 6 = nI (j + 6) from nI_add j 6]
    refine cl_L_12 C (m_L_cell hl (a := nI (j + 6)) (by first | decide | (rw [nI_toInt (by omega)]; omega)) hL) (by rfl) (by rfl) ⟨show 12 + j + 0 + 0 + 0 + 0 + 0 ≤ 637138 by omega, show 86 + 6 * j + 0 + 0 + 0 + 0 + 0 ≤ 7190283 by omega⟩ (by rfl) dL_law_75 (fun z9 h5 p5 => ?_)
    obtain ⟨rfl, rfl⟩ := p5
    refine w_bipush (v := (30)) C dL_law_78 (by rfl) ?_
    refine cl_L_18 C (m_L_below hl (lcl (Kt K) (nI (j + 6))) 30 (by decide)) (by rfl) (by rfl) ⟨show 12 + j + 0 + 0 + 0 + 0 + 0 + 0 ≤ 637138 by omega, show 86 + 6 * j + 0 + 0 + 0 + 0 + 0 + 0 ≤ 7190283 by omega⟩ (by rfl) dL_law_80 (fun z6 h6 p6 => ?_)
    obtain ⟨rfl, rfl⟩ := p6
    obtain ⟨b3, hb3, eb3⟩ := lbl_nat (lcl (Kt K) (nI (j + 6))) (N := 30) (by decide) (by decide)
    rw [show lbl (lcl (Kt K) (nI (j + 6))) 30 = nI b3 from eb3]
    first | refine w_aload_n C dL_law_83 (by rfl) ?_ | refine w_aload_nN C dL_law_83 (by rfl) ?_
    refine w_iload_n C dL_law_84 (by rfl) ?_
    refine w_bipush (v := (9)) C dL_law_85 (by rfl) ?_
    refine w_iadd C dL_law_87 ?_
    rw [show nI j + 9 = nI (j + 9) from nI_add j 9]
    refine cl_L_12 C (m_L_cell hl (a := nI (j + 9)) (by first | decide | (rw [nI_toInt (by omega)]; omega)) hL) (by rfl) (by rfl) ⟨show 12 + j + 0 + 0 + 0 + 0 + 0 + 0 + 0 ≤ 637138 by omega, show 86 + 6 * j + 0 + 0 + 0 + 0 + 0 + 0 + 0 ≤ 7190283 by omega⟩ (by rfl) dL_law_88 (fun z9 h7 p7 => ?_)
    obtain ⟨rfl, rfl⟩ := p7
    refine w_bipush (v := (61)) C dL_law_91 (by rfl) ?_
    refine cl_L_18 C (m_L_below hl (lcl (Kt K) (nI (j + 9))) 61 (by decide)) (by rfl) (by rfl) ⟨show 12 + j + 0 + 0 + 0 + 0 + 0 + 0 + 0 + 0 ≤ 637138 by omega, show 86 + 6 * j + 0 + 0 + 0 + 0 + 0 + 0 + 0 + 0 ≤ 7190283 by omega⟩ (by rfl) dL_law_93 (fun z8 h8 p8 => ?_)
    obtain ⟨rfl, rfl⟩ := p8
    obtain ⟨b4, hb4, eb4⟩ := lbl_nat (lcl (Kt K) (nI (j + 9))) (N := 61) (by decide) (by decide)
    rw [show lbl (lcl (Kt K) (nI (j + 9))) 61 = nI b4 from eb4]
    first | refine w_aload_n C dL_law_96 (by rfl) ?_ | refine w_aload_nN C dL_law_96 (by rfl) ?_
    refine w_iload_n C dL_law_97 (by rfl) ?_
    refine w_iconst (v := 2) C dL_law_98 (by rfl) ?_
    refine w_iadd C dL_law_99 ?_
    rw [show nI j + 2 = nI (j + 2) from nI_add j 2]
    refine cl_L_12 C (m_L_cell hl (a := nI (j + 2)) (by first | decide | (rw [nI_toInt (by omega)]; omega)) hL) (by rfl) (by rfl) ⟨show 12 + j + 0 + 0 + 0 + 0 + 0 + 0 + 0 + 0 + 0 ≤ 637138 by omega, show 86 + 6 * j + 0 + 0 + 0 + 0 + 0 + 0 + 0 + 0 + 0 ≤ 7190283 by omega⟩ (by rfl) dL_law_100 (fun z9 h9 p9 => ?_)
    obtain ⟨rfl, rfl⟩ := p9
    refine w_bipush (v := (10)) C dL_law_103 (by rfl) ?_
    refine cl_L_18 C (m_L_below hl (lcl (Kt K) (nI (j + 2))) 10 (by decide)) (by rfl) (by rfl) ⟨show 12 + j + 0 + 0 + 0 + 0 + 0 + 0 + 0 + 0 + 0 + 0 ≤ 637138 by omega, show 86 + 6 * j + 0 + 0 + 0 + 0 + 0 + 0 + 0 + 0 + 0 + 0 ≤ 7190283 by omega⟩ (by rfl) dL_law_105 (fun z10 h10 p10 => ?_)
    obtain ⟨rfl, rfl⟩ := p10
    obtain ⟨b5, hb5, eb5⟩ := lbl_nat (lcl (Kt K) (nI (j + 2))) (N := 10) (by decide) (by decide)
    rw [show lbl (lcl (Kt K) (nI (j + 2))) 10 = nI b5 from eb5]
    refine cx_L_25 C (i_glaze hl J (g0 := (nI (1 + b1), nI b2, nI b3, nI b4, nI b5)) ⟨⟨rng_nI (a := 0) (b := 60) (by omega) (by omega) (by decide), rng_nI (a := 0) (b := 60) (by omega) (by omega) (by decide), rng_nI (a := 0) (b := 60) (by omega) (by omega) (by decide), rng_nI (a := 0) (b := 60) (by omega) (by omega) (by decide), rng_nI (a := 0) (b := 60) (by omega) (by omega) (by decide)⟩, fun w => absurd ((nI_is0 (by omega)).mp w.1) (by omega)⟩ (by omega)) hy0 (by rfl) (by rfl) ⟨show 12 + j + 0 + 0 + 0 + 0 + 0 + 0 + 0 + 0 + 0 + 0 + 1 ≤ 637138 by omega, show 86 + 6 * j + 0 + 0 + 0 + 0 + 0 + 0 + 0 + 0 + 0 + 0 + 6 ≤ 7190283 by omega⟩ (by rfl) dL_law_108 (fun z11 h11 p11 => ?_) (fun E hx px => px.elim)
    have J2 := p11
    refine w_pop C dL_law_111 (by rfl) ?_
    refine w_iinc_2 (v := _ + (1)) C dL_law_112 (by rfl) (by first | trivial | rfl) ?_
    refine w_goto (tgt := 40) C dL_law_115 (by rfl) ?_
    rw [nI_1 j]
    refine w_widen (n' := (12 + (j + 1), 86 + 6 * (j + 1))) ?_ (show 12 + j + 0 + 0 + 0 + 0 + 0 + 0 + 0 + 0 + 0 + 0 + 1 ≤ 12 + (j + 1) by omega) (show 86 + 6 * j + 0 + 0 + 0 + 0 + 0 + 0 + 0 + 0 + 0 + 0 + 6 ≤ 86 + 6 * (j + 1) by omega)
    exact w_sub (ih hj3 _ _ J2) (by repeat' first | exact trivial | rfl | constructor)

set_option maxHeartbeats 4000000 in
set_option maxRecDepth 100000 in
theorem ls_pot {K : KC} (C : CX K RL cL_law 12 room_1) (hl : (Kl K).stackTraces = false) {y0 : Nat} {cs : Nat → Int32 × Int32} {gs : Nat → GT} {rs : Nat → RT} (hL : scL (Kt K) ≤ 260)
    (kk : ∀ (hh : HM) (ps : Nat → PT), JY (Kt K) y0 14 1 cs 3 gs 10 ps 0 rs k0 0 0 hh → np9 (Kt K) 10 ps → WW K (35, 284) 176 [some (.ref (Kt K 11)), some (.ref y0), some (.int (nI 10)), none, none, none, none, none, none, none, none, none] [] hh)
    : ∀ j : Nat, j ≤ 10 → ∀ (hh : HM) (ps : Nat → PT),  (J : JY (Kt K) y0 (4 + j) 1 cs 3 gs j ps 0 rs k0 0 0 hh) → (hq : np9 (Kt K) j ps) → WW K (15 + 2 * j, 104 + 18 * j) 120 [some (.ref (Kt K 11)), some (.ref y0), some (.int (nI j)), none, none, none, none, none, none, none, none, none] [] hh := by
  refine up_ind ?_
  intro j hj ih hh ps J hq
  obtain ⟨fs, hy0⟩ := JY.y J
  refine w_iload_n C dL_law_120 (by rfl) ?_
  refine w_bipush (v := (10)) C dL_law_121 (by rfl) ?_
  refine w_icmp_ge (tgt := 176) C dL_law_123 (by rfl) (fun c_123 => ?_) (fun c_123 => ?_)
  · have e3 : ¬ j < 10 := fun q => nI_ge q (by decide) c_123
    obtain rfl : j = 10 := by omega
    exact kk _ _ J hq
  · have hj3 : j < 10 := Nat.not_le.mp (fun q => c_123 (nI_le (a := 10) q (by omega)))
    first | refine w_aload_n C dL_law_126 (by rfl) ?_ | refine w_aload_nN C dL_law_126 (by rfl) ?_
    refine w_iconst (v := 0) C dL_law_127 (by rfl) ?_
    refine w_iconst (v := 1) C dL_law_128 (by rfl) ?_
    first | refine w_aload_n C dL_law_129 (by rfl) ?_ | refine w_aload_nN C dL_law_129 (by rfl) ?_
    refine w_iload_n C dL_law_130 (by rfl) ?_
    refine cl_L_12 C (m_L_cell hl (a := nI j) (by first | decide | (rw [nI_toInt (by omega)]; omega)) hL) (by rfl) (by rfl) ⟨show 15 + 2 * j + 0 ≤ 637138 by omega, show 104 + 18 * j + 0 ≤ 7190283 by omega⟩ (by rfl) dL_law_131 (fun z9 h1 p1 => ?_)
    obtain ⟨rfl, rfl⟩ := p1
    refine w_iconst (v := 4) C dL_law_134 (by rfl) ?_
    refine cl_L_18 C (m_L_below hl (lcl (Kt K) (nI j)) 4 (by decide)) (by rfl) (by rfl) ⟨show 15 + 2 * j + 0 + 0 ≤ 637138 by omega, show 104 + 18 * j + 0 + 0 ≤ 7190283 by omega⟩ (by rfl) dL_law_135 (fun z2 h2 p2 => ?_)
    obtain ⟨rfl, rfl⟩ := p2
    obtain ⟨b1, hb1, eb1⟩ := lbl_nat (lcl (Kt K) (nI j)) (N := 4) (by decide) (by decide)
    have hwd9 : (1 : Int32) ≤ 1 + lbl (lcl (Kt K) (nI j)) 4 ∧ 1 + lbl (lcl (Kt K) (nI j)) 4 ≤ 5 := by
      rw [show lbl (lcl (Kt K) (nI j)) 4 = nI b1 from eb1, show (1 : Int32) + nI b1 = nI (1 + b1) from nI_add 1 b1]
      exact rng_nI (a := 1) (b := 5) (by omega) (by omega) (by decide)
    refine w_iadd C dL_law_138 ?_
    refine w_iconst (v := 1) C dL_law_139 (by rfl) ?_
    first | refine w_aload_n C dL_law_140 (by rfl) ?_ | refine w_aload_nN C dL_law_140 (by rfl) ?_
    refine w_iload_n C dL_law_141 (by rfl) ?_
    refine w_iconst (v := 4) C dL_law_142 (by rfl) ?_
    refine w_iadd C dL_law_143 ?_
    rw [show nI j + 4 = nI (j + 4) from nI_add j 4]
    refine cl_L_12 C (m_L_cell hl (a := nI (j + 4)) (by first | decide | (rw [nI_toInt (by omega)]; omega)) hL) (by rfl) (by rfl) ⟨show 15 + 2 * j + 0 + 0 + 0 ≤ 637138 by omega, show 104 + 18 * j + 0 + 0 + 0 ≤ 7190283 by omega⟩ (by rfl) dL_law_144 (fun z9 h3 p3 => ?_)
    obtain ⟨rfl, rfl⟩ := p3
    refine w_iconst (v := 3) C dL_law_147 (by rfl) ?_
    refine cl_L_18 C (m_L_below hl (lcl (Kt K) (nI (j + 4))) 3 (by decide)) (by rfl) (by rfl) ⟨show 15 + 2 * j + 0 + 0 + 0 + 0 ≤ 637138 by omega, show 104 + 18 * j + 0 + 0 + 0 + 0 ≤ 7190283 by omega⟩ (by rfl) dL_law_148 (fun z4 h4 p4 => ?_)
    obtain ⟨rfl, rfl⟩ := p4
    obtain ⟨b2, hb2, eb2⟩ := lbl_nat (lcl (Kt K) (nI (j + 4))) (N := 3) (by decide) (by decide)
    rw [show lbl (lcl (Kt K) (nI (j + 4))) 3 = nI b2 from eb2]
    refine w_iadd C dL_law_151 ?_
    rw [show (1 : Int32) + nI b2 = nI (1 + b2) from nI_add 1 b2]
    refine w_iconst (v := 1) C dL_law_152 (by rfl) ?_
    first | refine w_aload_n C dL_law_153 (by rfl) ?_ | refine w_aload_nN C dL_law_153 (by rfl) ?_
    refine w_iload_n C dL_law_154 (by rfl) ?_
    refine w_bipush (v := (7)) C dL_law_155 (by rfl) ?_
    refine w_iadd C dL_law_157 ?_
    rw [show nI j + 7 = nI (j + 7) from nI_add j 7]
    refine cl_L_12 C (m_L_cell hl (a := nI (j + 7)) (by first | decide | (rw [nI_toInt (by omega)]; omega)) hL) (by rfl) (by rfl) ⟨show 15 + 2 * j + 0 + 0 + 0 + 0 + 0 ≤ 637138 by omega, show 104 + 18 * j + 0 + 0 + 0 + 0 + 0 ≤ 7190283 by omega⟩ (by rfl) dL_law_158 (fun z9 h5 p5 => ?_)
    obtain ⟨rfl, rfl⟩ := p5
    refine w_iconst (v := 3) C dL_law_161 (by rfl) ?_
    refine cl_L_18 C (m_L_below hl (lcl (Kt K) (nI (j + 7))) 3 (by decide)) (by rfl) (by rfl) ⟨show 15 + 2 * j + 0 + 0 + 0 + 0 + 0 + 0 ≤ 637138 by omega, show 104 + 18 * j + 0 + 0 + 0 + 0 + 0 + 0 ≤ 7190283 by omega⟩ (by rfl) dL_law_162 (fun z6 h6 p6 => ?_)
    obtain ⟨rfl, rfl⟩ := p6
    obtain ⟨b3, hb3, eb3⟩ := lbl_nat (lcl (Kt K) (nI (j + 7))) (N := 3) (by decide) (by decide)
    rw [show lbl (lcl (Kt K) (nI (j + 7))) 3 = nI b3 from eb3]
    refine w_ishl C dL_law_165 ?_
    refine cx_L_29 C (i_pot hl J (cl := 0) (by decide) (wd := 1 + lbl (lcl (Kt K) (nI j)) 4) (hg := nI (1 + b2)) (wl := 1 <<< (nI b3 &&& 31)) ⟨hwd9, rng_nI (a := 1) (b := 3) (by omega) (by omega) (by decide), wl_tbl ⟨b3, hb3⟩⟩ (by omega)) hy0 (by rfl) (by rfl) ⟨show 15 + 2 * j + 0 + 0 + 0 + 0 + 0 + 0 + 2 ≤ 637138 by omega, show 104 + 18 * j + 0 + 0 + 0 + 0 + 0 + 0 + 18 ≤ 7190283 by omega⟩ (by rfl) dL_law_166 (fun z7 h7 p7 => ?_) (fun E hx px => px.elim)
    have J2 := p7
    refine w_pop C dL_law_169 (by rfl) ?_
    refine w_iinc_2 (v := _ + (1)) C dL_law_170 (by rfl) (by first | trivial | rfl) ?_
    refine w_goto (tgt := 120) C dL_law_173 (by rfl) ?_
    rw [nI_1 j]
    refine w_widen (n' := (15 + 2 * (j + 1), 104 + 18 * (j + 1))) ?_ (show 15 + 2 * j + 0 + 0 + 0 + 0 + 0 + 0 + 2 ≤ 15 + 2 * (j + 1) by omega) (show 104 + 18 * j + 0 + 0 + 0 + 0 + 0 + 0 + 18 ≤ 104 + 18 * (j + 1) by omega)
    exact w_sub (ih hj3 _ _ J2 hq.up) (by repeat' first | exact trivial | rfl | constructor)

set_option maxHeartbeats 4000000 in
set_option maxRecDepth 100000 in
theorem ls_water {K : KC} (C : CX K RL cL_law 12 room_1) (hl : (Kl K).stackTraces = false) {y0 o2 o3 c : Nat} {fz : Nat → Int32} {cs : Nat → Int32 × Int32} {gs : Nat → GT} {ps : Nat → PT} {nR : Nat} {rs : Nat → RT} {k : KT} {dmp day : Int32}
    (kk : ∀ (hh : HM) (fw : Nat → UInt64), LJ (Kt K) y0 o2 o3 fw fz c cs gs ps nR rs k dmp day hh → (∀ i, i < 10 → fw i = 4620693217682128896) → WW K (37, 304) 209 [some (.ref (Kt K 11)), some (.ref y0), some (.ref o2), some (.ref o3), some (.int (nI 10)), none, none, none, none, none, none, none] [] hh)
    : ∀ j : Nat, j ≤ 10 → ∀ (hh : HM) (fw : Nat → UInt64),  (J : LJ (Kt K) y0 o2 o3 fw fz c cs gs ps nR rs k dmp day hh) → (hf : ∀ i, i < j → fw i = 4620693217682128896) → WW K (37, 304) 189 [some (.ref (Kt K 11)), some (.ref y0), some (.ref o2), some (.ref o3), some (.int (nI j)), none, none, none, none, none, none, none] [] hh := by
  refine up_ind ?_
  intro j hj ih hh fw J hf
  refine w_iload C dL_law_189 (by rfl) ?_
  refine w_bipush (v := (10)) C dL_law_191 (by rfl) ?_
  refine w_icmp_ge (tgt := 209) C dL_law_193 (by rfl) (fun c_193 => ?_) (fun c_193 => ?_)
  · have e3 : ¬ j < 10 := fun q => nI_ge q (by decide) c_193
    obtain rfl : j = 10 := by omega
    exact kk _ _ J hf
  · have hj3 : j < 10 := Nat.not_le.mp (fun q => c_193 (nI_le (a := 10) q (by omega)))
    first | refine w_aload_n C dL_law_196 (by rfl) ?_ | refine w_aload_nN C dL_law_196 (by rfl) ?_
    refine w_iload C dL_law_197 (by rfl) ?_
    refine lc_L_33 C dL_law_199 ?_
    refine w_dastn C J.w.1 hj3 (by decide) dL_law_202 (fun h9 u9 => ?_)
    have J2 := J.w2 u9
    refine w_iinc_4 (v := _ + (1)) C dL_law_203 (by rfl) (by first | trivial | rfl) ?_
    refine w_goto (tgt := 189) C dL_law_206 (by rfl) ?_
    rw [nI_1 j]
    refine w_sub (ih hj3 _ _ J2 (fun i hi => ?_)) (by repeat' first | exact trivial | rfl | constructor)
    unfold vf_upd
    by_cases e : i = j
    · rw [if_pos e]
    · rw [if_neg e]; exact hf i (by omega)

set_option maxHeartbeats 4000000 in
set_option maxRecDepth 100000 in
theorem law_start {K : KC} (C : CX K RL cL_law 12 room_1) (hl : (Kl K).stackTraces = false) (hL : scL (Kt K) ≤ 260) (kfin : ∀ (n : Nat × Nat) (lv : List (Option Value)) (h : HM), n.1 ≤ 637138 → n.2 ≤ 7190283 → WW K n 844 lv [.int 1] h) : WW K (0, 0) 0 [some (.ref (Kt K 11)), none, none, none, none, none, none, none, none, none, none, none] [] (fun _ => none) := by
  refine nw_L_9 C (by decide) (by decide) dL_law_0 (fun y0 h1 n1 u1 => ?_)
  have f_y0 := u1.self
  refine w_dup C dL_law_3 (by rfl) ?_
  refine cl_L_11 C (m_X7_init hl f_y0) (by rfl) (by rfl) ⟨by decide, by decide⟩ (by rfl) dL_law_4 (fun h2 p2 => ?_)
  obtain ⟨cA, gA, pA, oA, pr, ra, re, rw9, tr, tw, Y⟩ := p2
  have J : JY (Kt K) y0 0 0 (fun _ => (0, 0)) 0 (fun _ => (0, 0, 0, 0, 0)) 0 (fun _ => (0, none, q0T)) 0 (fun _ => (0, 0, 0)) k0 0 0 h2 := ⟨⟨_, _, _, _, _, _, _, _, _, _, _, _, _, _, _, _, _, _, _, Y⟩, okSt_new⟩
  obtain ⟨fs, hy0⟩ := JY.y J
  first | refine w_astore_1 C dL_law_7 (by first | trivial | rfl) ?_ | refine w_astore_1N C dL_law_7 (by first | trivial | rfl) ?_
  first | refine w_aload_n C dL_law_8 (by rfl) ?_ | refine w_aload_nN C dL_law_8 (by rfl) ?_
  refine w_iconst (v := 1) C dL_law_9 (by rfl) ?_
  first | refine w_aload_n C dL_law_10 (by rfl) ?_ | refine w_aload_nN C dL_law_10 (by rfl) ?_
  refine w_iconst (v := 0) C dL_law_11 (by rfl) ?_
  refine cl_L_12 C (m_L_cell hl (a := nI 0) (by first | decide | (rw [nI_toInt (by omega)]; omega)) hL) (by rfl) (by rfl) ⟨by decide, by decide⟩ (by rfl) dL_law_12 (fun z9 h3 p3 => ?_)
  obtain ⟨rfl, rfl⟩ := p3
  refine w_bipush (v := (12)) C dL_law_15 (by rfl) ?_
  refine cl_L_18 C (m_L_below hl (lcl (Kt K) (nI 0)) 12 (by decide)) (by rfl) (by rfl) ⟨by decide, by decide⟩ (by rfl) dL_law_17 (fun z4 h4 p4 => ?_)
  obtain ⟨rfl, rfl⟩ := p4
  obtain ⟨b1, hb1, eb1⟩ := lbl_nat (lcl (Kt K) (nI 0)) (N := 12) (by decide) (by decide)
  rw [show lbl (lcl (Kt K) (nI 0)) 12 = nI b1 from eb1]
  refine w_iadd C dL_law_20 ?_
  rw [show (1 : Int32) + nI b1 = nI (1 + b1) from nI_add 1 b1]
  refine w_bipush (v := (8)) C dL_law_21 (by rfl) ?_
  first | refine w_aload_n C dL_law_23 (by rfl) ?_ | refine w_aload_nN C dL_law_23 (by rfl) ?_
  refine w_iconst (v := 1) C dL_law_24 (by rfl) ?_
  refine cl_L_12 C (m_L_cell hl (a := nI 1) (by first | decide | (rw [nI_toInt (by omega)]; omega)) hL) (by rfl) (by rfl) ⟨by decide, by decide⟩ (by rfl) dL_law_25 (fun z9 h5 p5 => ?_)
  obtain ⟨rfl, rfl⟩ := p5
  refine w_bipush (v := (33)) C dL_law_28 (by rfl) ?_
  refine cl_L_18 C (m_L_below hl (lcl (Kt K) (nI 1)) 33 (by decide)) (by rfl) (by rfl) ⟨by decide, by decide⟩ (by rfl) dL_law_30 (fun z6 h6 p6 => ?_)
  obtain ⟨rfl, rfl⟩ := p6
  obtain ⟨b2, hb2, eb2⟩ := lbl_nat (lcl (Kt K) (nI 1)) (N := 33) (by decide) (by decide)
  rw [show lbl (lcl (Kt K) (nI 1)) 33 = nI b2 from eb2]
  refine w_iadd C dL_law_33 ?_
  rw [show (8 : Int32) + nI b2 = nI (8 + b2) from nI_add 8 b2]
  refine cx_L_22 C (i_clay hl J ⟨rng_nI (a := 1) (b := 12) (by omega) (by omega) (by decide), rng_nI (a := 8) (b := 40) (by omega) (by omega) (by decide)⟩ (by decide)) hy0 (by rfl) (by rfl) ⟨by decide, by decide⟩ (by rfl) dL_law_34 (fun z7 h7 p7 => ?_) (fun E hx px => px.elim)
  have J2 := p7
  refine w_pop C dL_law_37 (by rfl) ?_
  refine w_iconst (v := 0) C dL_law_38 (by rfl) ?_
  refine w_istore_2 C dL_law_39 (by first | trivial | rfl) ?_
  refine w_sub (ls_glaze C hl hL (fun hh gs J3 => ?_) 0 (by decide) _ _ J2) (by repeat' first | exact trivial | rfl | constructor)
  refine w_iconst (v := 0) C dL_law_118 (by rfl) ?_
  refine w_istore_2 C dL_law_119 (by first | trivial | rfl) ?_
  refine w_sub (ls_pot C hl hL (fun hh2 ps J4 hq => ?_) 0 (by decide) _ _ J3 (fun i hi => absurd hi (Nat.not_lt_zero i))) (by repeat' first | exact trivial | rfl | constructor)
  refine w_bipush (v := (10)) C dL_law_176 (by rfl) ?_
  refine w_newad (N := 10) C gw_130 (by decide) (by rfl) (by decide) (by decide) (by decide) dL_law_178 (fun o2 n2 => ?_)
  first | refine w_astore_2 C dL_law_180 (by first | trivial | rfl) ?_ | refine w_astore_2N C dL_law_180 (by first | trivial | rfl) ?_
  refine w_bipush (v := (10)) C dL_law_181 (by rfl) ?_
  refine w_newaz (N := 10) C gw_770 (by decide) (by rfl) (by decide) (by decide) (by decide) dL_law_183 (fun o3 n3 => ?_)
  have J5 := LJ.mk9 J4 n2 n3
  have o5 := J5.ok
  first | refine w_astore_3 C dL_law_185 (by first | trivial | rfl) ?_ | refine w_astore_3N C dL_law_185 (by first | trivial | rfl) ?_
  refine w_iconst (v := 0) C dL_law_186 (by rfl) ?_
  refine w_istore_4 C dL_law_187 (by first | trivial | rfl) ?_
  refine w_sub (ls_water C hl (fun hh3 fw J6 hw => ?_) 0 (by decide) _ _ J5 (fun i hi => absurd hi (Nat.not_lt_zero i))) (by repeat' first | exact trivial | rfl | constructor)
  refine w_iconst (v := 0) C dL_law_209 (by rfl) ?_
  refine w_istore_4 C dL_law_210 (by first | trivial | rfl) ?_
  refine w_iconst (v := 0) C dL_law_212 (by rfl) ?_
  refine w_istore_5 C dL_law_213 (by first | trivial | rfl) ?_
  refine w_iconst (v := 0) C dL_law_215 (by rfl) ?_
  refine w_istore_6 C dL_law_216 (by first | trivial | rfl) ?_
  refine w_sub (lt_turns C hl hL kfin 70 0 rfl (37, 304) 14 ps 0 (fun _ => (0, 0, 0)) k0 0 0 fw (fun _ => 0) 0 hh3 (by decide) (by decide) (by decide) (by decide) J6 (aps.off (fun i hi => (hq i hi).2.1)) (fun i hi => (hq i hi).1) (fun i hi => ?_) (fun i hi => ?_) ⟨?_, ⟨0, by decide, rfl⟩, rfl⟩) (by repeat' first | exact trivial | rfl | constructor)
  · rw [hw i hi, if_neg (Nat.not_lt_zero i), (hq i hi).2.2.2, wt_128, w2_8]
  · rw [if_neg (Nat.not_lt_zero i), (hq i hi).2.2.1]; rfl
  · show 20 * dO ≤ dz 4626322717216342016
    rw [dz_whole w20]
    exact Int.le_refl _
