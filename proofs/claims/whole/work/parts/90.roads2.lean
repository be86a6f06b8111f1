/-! THE LAW'S ROADS, MORE -/
set_option maxHeartbeats 4000000 in
set_option maxRecDepth 100000 in
theorem lr_light {K : KC} (C : CX K RL cL_law 9 room_1) (hl : (Kl K).stackTraces = false) (hN : NCs (Ks K)) {n : Nat × Nat} (n1 : n.1 + 1000 ≤ 757560) (n2 : n.2 + 5000 ≤ 6823425) {b L y0 m0 o3 o4 kl wk c : Nat} {xs : Nat → Int32} (X : LX K b L xs) {i : Int32} (v : ∀ k : Int32, 0 ≤ k.toInt → k.toInt ≤ 5 → vp_in (i + k) L) (hc5 : c ≤ 519) {h : HM} (J : LJ (Kt K) y0 m0 o3 o4 kl wk c h)
    (kk : ∀ (c' : Nat), c' ≤ c + 1 → ∀ h' : HM, LJ (Kt K) y0 m0 o3 o4 kl wk c' h' → WW K (n.1 + 1000, n.2 + 5000) 2002 [some (.ref b), some (.ref y0), some (.ref m0), some (.ref o3), some (.ref o4), some (.int i), none, none, none] [] h') : WW K n 927 [some (.ref b), some (.ref y0), some (.ref m0), some (.ref o3), some (.ref o4), some (.int i), none, none, none] [] h := by
  obtain ⟨hA, hB, hO, fL, fD, th, rfl, dAB, dAO, dBO, O, j9⟩ := J
  obtain ⟨fs1, hy⟩ := j9.y
  obtain ⟨fs2, hm⟩ := j9.m
  first | refine w_aload_n C dL_law_927 (by rfl) ?_ | refine w_aload_nN C dL_law_927 (by rfl) ?_
  first | refine w_aload_n C dL_law_928 (by rfl) ?_ | refine w_aload_nN C dL_law_928 (by rfl) ?_
  obtain ⟨p9, px9, q9, hM1, hM2, hcd, j1, j2⟩ := jt_light (D := KD K) hl j9 
  refine w_SWI C hN (m_L_light hl (D2.mk9 dAB dAO) hy (hj_r O.1 (dBO _ _ O.1)) hM1 hcd) gw_779 gw_780 gw_50 gw_781 (show okY yL_light 2 = true by decide +kernel) (by rfl) ⟨by dsimp only [rm_L_light, rm_X10_light, rm_X10_thrown, room_1]; omega, by dsimp only [rm_L_light, rm_X10_light, rm_X10_thrown, room_1]; omega⟩ (by rfl) rfl dL_law_929 (fun k9 hw aw => ?_)
  obtain ⟨hA1, hO1, fL1, fD1, e1, dAB1, dAO1, dBO1, O1, aw2⟩ := la_L (g := (fun v => v.toInt64)) dBO O aw
  subst e1
  refine w_istore_6 C dL_law_932 (by first | trivial | rfl) ?_
  first | refine w_aload_n C dL_law_934 (by rfl) ?_ | refine w_aload_nN C dL_law_934 (by rfl) ?_
  refine cl_L_148 C (CT.fBI dAB1 dAO1 dBO1 hM2) (hj_r (hj_l hm) (dAB1 _ _ hm)) (by rfl) (by rfl) ⟨by dsimp only [rm_L_light, rm_X10_light, rm_X10_thrown, room_1]; omega, by dsimp only [rm_L_light, rm_X10_light, rm_X10_thrown, room_1]; omega⟩ (by rfl) dL_law_935 (fun z2 h1 p1 => ?_)
  obtain ⟨hB1, hq, e1, dAB2, dBO2⟩ := p1
  subst e1
  obtain ⟨j9, e9⟩ := la_J (by decide +kernel) j1 j2 aw2 hq
  have e9 : k9 = 0 → fL1 0 = z2.toInt64 := e9
  obtain ⟨fs2, hm⟩ := j9.m
  refine w_istore_7 C dL_law_938 (by first | trivial | rfl) ?_
  first | refine w_aload_n C dL_law_940 (by rfl) ?_ | refine w_aload_nN C dL_law_940 (by rfl) ?_
  refine cl_L_110 C (CT.fBI dAB2 dAO1 dBO2 (jt_thrown hl j9)) (hj_r (hj_l hm) (dAB2 _ _ hm)) (by rfl) (by rfl) ⟨by dsimp only [rm_L_light, rm_X10_light, rm_X10_thrown, room_1]; omega, by dsimp only [rm_L_light, rm_X10_light, rm_X10_thrown, room_1]; omega⟩ (by rfl) dL_law_941 (fun z3 h2 p2 => ?_)
  obtain ⟨hB2, ⟨e1, e3⟩, e2, dAB3, dBO3⟩ := p2
  subst e1
  subst e2
  refine w_iload C dL_law_944 (by rfl) ?_
  refine w_icmp_eq (tgt := 951) C dL_law_946 (by rfl) (fun c_946 => ?_) (fun c_946 => ?_)
  · refine w_iload C dL_law_951 (by rfl) ?_
    refine w_if_ne (tgt := 968) C dL_law_953 (by rfl) (fun c_953 => ?_) (fun c_953 => ?_)
    · try simp only [cg_ge, cg_gt, cl_gt, cl_le, cl_eq, cl_lt, cl_ge, bi_eq0, bi_ne0, bI_eq0, Decidable.not_not, Bool.not_eq_false] at c_953
      refine w_goto (tgt := 2002) C dL_law_968 (by rfl) ?_
      exact w_sub (w_widen (kk (c + 1) (Nat.le_refl _) _ ⟨_, _, _, _, _, _, rfl, dAB3, dAO1, dBO3, O1, j9⟩) (by dsimp only [rm_L_light, rm_X10_light, rm_X10_thrown]; omega) (by dsimp only [rm_L_light, rm_X10_light, rm_X10_thrown]; omega)) (by repeat' first | exact trivial | rfl | constructor)
    · try simp only [cg_ge, cg_gt, cl_gt, cl_le, cl_eq, cl_lt, cl_ge, bi_eq0, bi_ne0, bI_eq0, Decidable.not_not, Bool.not_eq_false] at c_953
      first | refine w_aload_n C dL_law_956 (by rfl) ?_ | refine w_aload_nN C dL_law_956 (by rfl) ?_
      refine w_iconst (v := 0) C dL_law_957 (by rfl) ?_
      refine w_laldn (j := 0) C (hj_r (hj_r O1.1 (dBO3 _ _ O1.1)) (D2.mk9 dAB3 dAO1 _ _ (hj_r O1.1 (dBO3 _ _ O1.1)))) (by decide) (by decide) dL_law_958 ?_
      refine w_iload C dL_law_959 (by rfl) ?_
      refine w_i2l C dL_law_961 ?_
      refine w_lcmp C dL_law_962 ?_
      refine w_if_eq (tgt := 968) C dL_law_963 (by rfl) (fun c_963 => ?_) (fun c_963 => ?_)
      · try simp only [cg_ge, cg_gt, cl_gt, cl_le, cl_eq, cl_lt, cl_ge, bi_eq0, bi_ne0, bI_eq0, Decidable.not_not, Bool.not_eq_false] at c_963
        refine w_goto (tgt := 2002) C dL_law_968 (by rfl) ?_
        exact w_sub (w_widen (kk (c + 1) (Nat.le_refl _) _ ⟨_, _, _, _, _, _, rfl, dAB3, dAO1, dBO3, O1, j9⟩) (by dsimp only [rm_L_light, rm_X10_light, rm_X10_thrown]; omega) (by dsimp only [rm_L_light, rm_X10_light, rm_X10_thrown]; omega)) (by repeat' first | exact trivial | rfl | constructor)
      · exact absurd (by rw [e9 c_953]; exact lg_cmp_self _) c_963
  · exact absurd e3 c_946

set_option maxHeartbeats 4000000 in
set_option maxRecDepth 100000 in
theorem lr_burn {K : KC} (C : CX K RL cL_law 9 room_1) (hl : (Kl K).stackTraces = false) (hN : NCs (Ks K)) {n : Nat × Nat} (n1 : n.1 + 1000 ≤ 757560) (n2 : n.2 + 5000 ≤ 6823425) {b L y0 m0 o3 o4 kl wk c : Nat} {xs : Nat → Int32} (X : LX K b L xs) {i : Int32} (v : ∀ k : Int32, 0 ≤ k.toInt → k.toInt ≤ 5 → vp_in (i + k) L) (hc5 : c ≤ 519) {h : HM} (J : LJ (Kt K) y0 m0 o3 o4 kl wk c h)
    (kk : ∀ (c' : Nat), c' ≤ c + 1 → ∀ h' : HM, LJ (Kt K) y0 m0 o3 o4 kl wk c' h' → WW K (n.1 + 1000, n.2 + 5000) 2002 [some (.ref b), some (.ref y0), some (.ref m0), some (.ref o3), some (.ref o4), some (.int i), none, none, none] [] h') : WW K n 971 [some (.ref b), some (.ref y0), some (.ref m0), some (.ref o3), some (.ref o4), some (.int i), none, none, none] [] h := by
  obtain ⟨hA, hB, hO, fL, fD, th, rfl, dAB, dAO, dBO, O, j9⟩ := J
  obtain ⟨fs1, hy⟩ := j9.y
  obtain ⟨fs2, hm⟩ := j9.m
  first | refine w_aload_n C dL_law_971 (by rfl) ?_ | refine w_aload_nN C dL_law_971 (by rfl) ?_
  first | refine w_aload_n C dL_law_972 (by rfl) ?_ | refine w_aload_nN C dL_law_972 (by rfl) ?_
  refine w_iload C dL_law_973 (by rfl) ?_
  refine w_iconst (v := 1) C dL_law_975 (by rfl) ?_
  refine w_iadd C dL_law_976 ?_
  refine w_sld C X (v 1 (by decide) (by decide)) dL_law_977 ?_
  first | refine w_aload_n C dL_law_978 (by rfl) ?_ | refine w_aload_nN C dL_law_978 (by rfl) ?_
  obtain ⟨p9, px9, q9, hM1, hM2, hcd, j1, j2⟩ := jt_burn (D := KD K) hl j9 (st := (xs (i + 1).toNatClampNeg))
  refine w_SWI C hN (m_L_burn hl (D2.mk9 dAB dAO) hy (hj_r O.1 (dBO _ _ O.1)) hM1 hcd) gw_791 gw_792 gw_50 gw_793 (show okY yL_burn 3 = true by decide +kernel) (by rfl) ⟨by dsimp only [rm_L_burn, rm_X10_burn, rm_X10_thrown, room_1]; omega, by dsimp only [rm_L_burn, rm_X10_burn, rm_X10_thrown, room_1]; omega⟩ (by rfl) rfl dL_law_979 (fun k9 hw aw => ?_)
  obtain ⟨hA1, hO1, fL1, fD1, e1, dAB1, dAO1, dBO1, O1, aw2⟩ := la_L (g := (fun v => if v = 0 then 0 else 1)) dBO O aw
  subst e1
  refine w_istore_6 C dL_law_982 (by first | trivial | rfl) ?_
  first | refine w_aload_n C dL_law_984 (by rfl) ?_ | refine w_aload_nN C dL_law_984 (by rfl) ?_
  first | refine w_aload_n C dL_law_985 (by rfl) ?_ | refine w_aload_nN C dL_law_985 (by rfl) ?_
  refine w_iload C dL_law_986 (by rfl) ?_
  refine w_iconst (v := 1) C dL_law_988 (by rfl) ?_
  refine w_iadd C dL_law_989 ?_
  refine w_sld C X (v 1 (by decide) (by decide)) dL_law_990 ?_
  refine cl_L_151 C (CT.fBI dAB1 dAO1 dBO1 hM2) (hj_r (hj_l hm) (dAB1 _ _ hm)) (by rfl) (by rfl) ⟨by dsimp only [rm_L_burn, rm_X10_burn, rm_X10_thrown, room_1]; omega, by dsimp only [rm_L_burn, rm_X10_burn, rm_X10_thrown, room_1]; omega⟩ (by rfl) dL_law_991 (fun z2 h1 p1 => ?_)
  obtain ⟨hB1, hq, e1, dAB2, dBO2⟩ := p1
  subst e1
  obtain ⟨j9, e9⟩ := la_J (by decide +kernel) j1 j2 aw2 hq
  have e9 : k9 = 0 → fL1 0 = if z2 = 0 then 0 else 1 := e9
  obtain ⟨fs2, hm⟩ := j9.m
  refine w_istore_7 C dL_law_994 (by first | trivial | rfl) ?_
  first | refine w_aload_n C dL_law_996 (by rfl) ?_ | refine w_aload_nN C dL_law_996 (by rfl) ?_
  refine cl_L_110 C (CT.fBI dAB2 dAO1 dBO2 (jt_thrown hl j9)) (hj_r (hj_l hm) (dAB2 _ _ hm)) (by rfl) (by rfl) ⟨by dsimp only [rm_L_burn, rm_X10_burn, rm_X10_thrown, room_1]; omega, by dsimp only [rm_L_burn, rm_X10_burn, rm_X10_thrown, room_1]; omega⟩ (by rfl) dL_law_997 (fun z3 h2 p2 => ?_)
  obtain ⟨hB2, ⟨e1, e3⟩, e2, dAB3, dBO3⟩ := p2
  subst e1
  subst e2
  refine w_iload C dL_law_1000 (by rfl) ?_
  refine w_icmp_eq (tgt := 1007) C dL_law_1002 (by rfl) (fun c_1002 => ?_) (fun c_1002 => ?_)
  · refine w_iload C dL_law_1007 (by rfl) ?_
    refine w_if_ne (tgt := 1031) C dL_law_1009 (by rfl) (fun c_1009 => ?_) (fun c_1009 => ?_)
    · try simp only [cg_ge, cg_gt, cl_gt, cl_le, cl_eq, cl_lt, cl_ge, bi_eq0, bi_ne0, bI_eq0, Decidable.not_not, Bool.not_eq_false] at c_1009
      refine w_goto (tgt := 2002) C dL_law_1031 (by rfl) ?_
      exact w_sub (w_widen (kk (c + 1) (Nat.le_refl _) _ ⟨_, _, _, _, _, _, rfl, dAB3, dAO1, dBO3, O1, j9⟩) (by dsimp only [rm_L_burn, rm_X10_burn, rm_X10_thrown]; omega) (by dsimp only [rm_L_burn, rm_X10_burn, rm_X10_thrown]; omega)) (by repeat' first | exact trivial | rfl | constructor)
    · try simp only [cg_ge, cg_gt, cl_gt, cl_le, cl_eq, cl_lt, cl_ge, bi_eq0, bi_ne0, bI_eq0, Decidable.not_not, Bool.not_eq_false] at c_1009
      first | refine w_aload_n C dL_law_1012 (by rfl) ?_ | refine w_aload_nN C dL_law_1012 (by rfl) ?_
      refine w_iconst (v := 0) C dL_law_1013 (by rfl) ?_
      refine w_laldn (j := 0) C (hj_r (hj_r O1.1 (dBO3 _ _ O1.1)) (D2.mk9 dAB3 dAO1 _ _ (hj_r O1.1 (dBO3 _ _ O1.1)))) (by decide) (by decide) dL_law_1014 ?_
      refine w_iload C dL_law_1015 (by rfl) ?_
      refine w_if_eq (tgt := 1024) C dL_law_1017 (by rfl) (fun c_1017 => ?_) (fun c_1017 => ?_)
      · try simp only [cg_ge, cg_gt, cl_gt, cl_le, cl_eq, cl_lt, cl_ge, bi_eq0, bi_ne0, bI_eq0, Decidable.not_not, Bool.not_eq_false] at c_1017
        refine w_lconst (v := 0) C dL_law_1024 (by rfl) ?_
        refine w_lcmp C dL_law_1025 ?_
        refine w_if_eq (tgt := 1031) C dL_law_1026 (by rfl) (fun c_1026 => ?_) (fun c_1026 => ?_)
        · try simp only [cg_ge, cg_gt, cl_gt, cl_le, cl_eq, cl_lt, cl_ge, bi_eq0, bi_ne0, bI_eq0, Decidable.not_not, Bool.not_eq_false] at c_1026
          refine w_goto (tgt := 2002) C dL_law_1031 (by rfl) ?_
          exact w_sub (w_widen (kk (c + 1) (Nat.le_refl _) _ ⟨_, _, _, _, _, _, rfl, dAB3, dAO1, dBO3, O1, j9⟩) (by dsimp only [rm_L_burn, rm_X10_burn, rm_X10_thrown]; omega) (by dsimp only [rm_L_burn, rm_X10_burn, rm_X10_thrown]; omega)) (by repeat' first | exact trivial | rfl | constructor)
        · exact absurd (by rw [e9 c_1009, if_pos c_1017]; exact lg_cmp_self _) c_1026
      · try simp only [cg_ge, cg_gt, cl_gt, cl_le, cl_eq, cl_lt, cl_ge, bi_eq0, bi_ne0, bI_eq0, Decidable.not_not, Bool.not_eq_false] at c_1017
        refine w_lconst (v := 1) C dL_law_1020 (by rfl) ?_
        refine w_goto (tgt := 1025) C dL_law_1021 (by rfl) ?_
        refine w_lcmp C dL_law_1025 ?_
        refine w_if_eq (tgt := 1031) C dL_law_1026 (by rfl) (fun c_1026 => ?_) (fun c_1026 => ?_)
        · try simp only [cg_ge, cg_gt, cl_gt, cl_le, cl_eq, cl_lt, cl_ge, bi_eq0, bi_ne0, bI_eq0, Decidable.not_not, Bool.not_eq_false] at c_1026
          refine w_goto (tgt := 2002) C dL_law_1031 (by rfl) ?_
          exact w_sub (w_widen (kk (c + 1) (Nat.le_refl _) _ ⟨_, _, _, _, _, _, rfl, dAB3, dAO1, dBO3, O1, j9⟩) (by dsimp only [rm_L_burn, rm_X10_burn, rm_X10_thrown]; omega) (by dsimp only [rm_L_burn, rm_X10_burn, rm_X10_thrown]; omega)) (by repeat' first | exact trivial | rfl | constructor)
        · exact absurd (by rw [e9 c_1009, if_neg c_1017]; exact lg_cmp_self _) c_1026
  · exact absurd e3 c_1002

set_option maxHeartbeats 4000000 in
set_option maxRecDepth 100000 in
theorem lr_damper {K : KC} (C : CX K RL cL_law 9 room_1) (hl : (Kl K).stackTraces = false) (hN : NCs (Ks K)) {n : Nat × Nat} (n1 : n.1 + 1000 ≤ 757560) (n2 : n.2 + 5000 ≤ 6823425) {b L y0 m0 o3 o4 kl wk c : Nat} {xs : Nat → Int32} (X : LX K b L xs) {i : Int32} (v : ∀ k : Int32, 0 ≤ k.toInt → k.toInt ≤ 5 → vp_in (i + k) L) (hc5 : c ≤ 519) {h : HM} (J : LJ (Kt K) y0 m0 o3 o4 kl wk c h)
    (kk : ∀ (c' : Nat), c' ≤ c + 1 → ∀ h' : HM, LJ (Kt K) y0 m0 o3 o4 kl wk c' h' → WW K (n.1 + 1000, n.2 + 5000) 2002 [some (.ref b), some (.ref y0), some (.ref m0), some (.ref o3), some (.ref o4), some (.int i), none, none, none] [] h') : WW K n 1034 [some (.ref b), some (.ref y0), some (.ref m0), some (.ref o3), some (.ref o4), some (.int i), none, none, none] [] h := by
  obtain ⟨hA, hB, hO, fL, fD, th, rfl, dAB, dAO, dBO, O, j9⟩ := J
  obtain ⟨fs1, hy⟩ := j9.y
  obtain ⟨fs2, hm⟩ := j9.m
  first | refine w_aload_n C dL_law_1034 (by rfl) ?_ | refine w_aload_nN C dL_law_1034 (by rfl) ?_
  first | refine w_aload_n C dL_law_1035 (by rfl) ?_ | refine w_aload_nN C dL_law_1035 (by rfl) ?_
  refine w_iload C dL_law_1036 (by rfl) ?_
  refine w_iconst (v := 1) C dL_law_1038 (by rfl) ?_
  refine w_iadd C dL_law_1039 ?_
  refine w_sld C X (v 1 (by decide) (by decide)) dL_law_1040 ?_
  first | refine w_aload_n C dL_law_1041 (by rfl) ?_ | refine w_aload_nN C dL_law_1041 (by rfl) ?_
  obtain ⟨p9, px9, q9, hM1, hM2, hcd, j1, j2⟩ := jt_damper (D := KD K) hl j9 (d := (xs (i + 1).toNatClampNeg))
  refine w_SWI C hN (m_L_damper hl (D2.mk9 dAB dAO) hy (hj_r O.1 (dBO _ _ O.1)) hM1 hcd) gw_811 gw_812 gw_50 gw_813 (show okY yL_damper 3 = true by decide +kernel) (by rfl) ⟨by dsimp only [rm_L_damper, rm_X10_damper, rm_X10_thrown, room_1]; omega, by dsimp only [rm_L_damper, rm_X10_damper, rm_X10_thrown, room_1]; omega⟩ (by rfl) rfl dL_law_1042 (fun k9 hw aw => ?_)
  obtain ⟨hA1, hO1, fL1, fD1, e1, dAB1, dAO1, dBO1, O1, aw2⟩ := la_L (g := (fun v => v.toInt64)) dBO O aw
  subst e1
  refine w_istore_6 C dL_law_1045 (by first | trivial | rfl) ?_
  first | refine w_aload_n C dL_law_1047 (by rfl) ?_ | refine w_aload_nN C dL_law_1047 (by rfl) ?_
  first | refine w_aload_n C dL_law_1048 (by rfl) ?_ | refine w_aload_nN C dL_law_1048 (by rfl) ?_
  refine w_iload C dL_law_1049 (by rfl) ?_
  refine w_iconst (v := 1) C dL_law_1051 (by rfl) ?_
  refine w_iadd C dL_law_1052 ?_
  refine w_sld C X (v 1 (by decide) (by decide)) dL_law_1053 ?_
  refine cl_L_154 C (CT.fBI dAB1 dAO1 dBO1 hM2) (hj_r (hj_l hm) (dAB1 _ _ hm)) (by rfl) (by rfl) ⟨by dsimp only [rm_L_damper, rm_X10_damper, rm_X10_thrown, room_1]; omega, by dsimp only [rm_L_damper, rm_X10_damper, rm_X10_thrown, room_1]; omega⟩ (by rfl) dL_law_1054 (fun z2 h1 p1 => ?_)
  obtain ⟨hB1, hq, e1, dAB2, dBO2⟩ := p1
  subst e1
  obtain ⟨j9, e9⟩ := la_J (by decide +kernel) j1 j2 aw2 hq
  have e9 : k9 = 0 → fL1 0 = z2.toInt64 := e9
  obtain ⟨fs2, hm⟩ := j9.m
  refine w_istore_7 C dL_law_1057 (by first | trivial | rfl) ?_
  first | refine w_aload_n C dL_law_1059 (by rfl) ?_ | refine w_aload_nN C dL_law_1059 (by rfl) ?_
  refine cl_L_110 C (CT.fBI dAB2 dAO1 dBO2 (jt_thrown hl j9)) (hj_r (hj_l hm) (dAB2 _ _ hm)) (by rfl) (by rfl) ⟨by dsimp only [rm_L_damper, rm_X10_damper, rm_X10_thrown, room_1]; omega, by dsimp only [rm_L_damper, rm_X10_damper, rm_X10_thrown, room_1]; omega⟩ (by rfl) dL_law_1060 (fun z3 h2 p2 => ?_)
  obtain ⟨hB2, ⟨e1, e3⟩, e2, dAB3, dBO3⟩ := p2
  subst e1
  subst e2
  refine w_iload C dL_law_1063 (by rfl) ?_
  refine w_icmp_eq (tgt := 1070) C dL_law_1065 (by rfl) (fun c_1065 => ?_) (fun c_1065 => ?_)
  · refine w_iload C dL_law_1070 (by rfl) ?_
    refine w_if_ne (tgt := 1087) C dL_law_1072 (by rfl) (fun c_1072 => ?_) (fun c_1072 => ?_)
    · try simp only [cg_ge, cg_gt, cl_gt, cl_le, cl_eq, cl_lt, cl_ge, bi_eq0, bi_ne0, bI_eq0, Decidable.not_not, Bool.not_eq_false] at c_1072
      refine w_goto (tgt := 2002) C dL_law_1087 (by rfl) ?_
      exact w_sub (w_widen (kk (c + 1) (Nat.le_refl _) _ ⟨_, _, _, _, _, _, rfl, dAB3, dAO1, dBO3, O1, j9⟩) (by dsimp only [rm_L_damper, rm_X10_damper, rm_X10_thrown]; omega) (by dsimp only [rm_L_damper, rm_X10_damper, rm_X10_thrown]; omega)) (by repeat' first | exact trivial | rfl | constructor)
    · try simp only [cg_ge, cg_gt, cl_gt, cl_le, cl_eq, cl_lt, cl_ge, bi_eq0, bi_ne0, bI_eq0, Decidable.not_not, Bool.not_eq_false] at c_1072
      first | refine w_aload_n C dL_law_1075 (by rfl) ?_ | refine w_aload_nN C dL_law_1075 (by rfl) ?_
      refine w_iconst (v := 0) C dL_law_1076 (by rfl) ?_
      refine w_laldn (j := 0) C (hj_r (hj_r O1.1 (dBO3 _ _ O1.1)) (D2.mk9 dAB3 dAO1 _ _ (hj_r O1.1 (dBO3 _ _ O1.1)))) (by decide) (by decide) dL_law_1077 ?_
      refine w_iload C dL_law_1078 (by rfl) ?_
      refine w_i2l C dL_law_1080 ?_
      refine w_lcmp C dL_law_1081 ?_
      refine w_if_eq (tgt := 1087) C dL_law_1082 (by rfl) (fun c_1082 => ?_) (fun c_1082 => ?_)
      · try simp only [cg_ge, cg_gt, cl_gt, cl_le, cl_eq, cl_lt, cl_ge, bi_eq0, bi_ne0, bI_eq0, Decidable.not_not, Bool.not_eq_false] at c_1082
        refine w_goto (tgt := 2002) C dL_law_1087 (by rfl) ?_
        exact w_sub (w_widen (kk (c + 1) (Nat.le_refl _) _ ⟨_, _, _, _, _, _, rfl, dAB3, dAO1, dBO3, O1, j9⟩) (by dsimp only [rm_L_damper, rm_X10_damper, rm_X10_thrown]; omega) (by dsimp only [rm_L_damper, rm_X10_damper, rm_X10_thrown]; omega)) (by repeat' first | exact trivial | rfl | constructor)
      · exact absurd (by rw [e9 c_1072]; exact lg_cmp_self _) c_1082
  · exact absurd e3 c_1065

set_option maxHeartbeats 4000000 in
set_option maxRecDepth 100000 in
theorem lr_door {K : KC} (C : CX K RL cL_law 9 room_1) (hl : (Kl K).stackTraces = false) (hN : NCs (Ks K)) {n : Nat × Nat} (n1 : n.1 + 1000 ≤ 757560) (n2 : n.2 + 5000 ≤ 6823425) {b L y0 m0 o3 o4 kl wk c : Nat} {xs : Nat → Int32} (X : LX K b L xs) {i : Int32} (v : ∀ k : Int32, 0 ≤ k.toInt → k.toInt ≤ 5 → vp_in (i + k) L) (hc5 : c ≤ 519) {h : HM} (J : LJ (Kt K) y0 m0 o3 o4 kl wk c h)
    (kk : ∀ (c' : Nat), c' ≤ c + 1 → ∀ h' : HM, LJ (Kt K) y0 m0 o3 o4 kl wk c' h' → WW K (n.1 + 1000, n.2 + 5000) 2002 [some (.ref b), some (.ref y0), some (.ref m0), some (.ref o3), some (.ref o4), some (.int i), none, none, none] [] h') : WW K n 1090 [some (.ref b), some (.ref y0), some (.ref m0), some (.ref o3), some (.ref o4), some (.int i), none, none, none] [] h := by
  obtain ⟨hA, hB, hO, fL, fD, th, rfl, dAB, dAO, dBO, O, j9⟩ := J
  obtain ⟨fs1, hy⟩ := j9.y
  obtain ⟨fs2, hm⟩ := j9.m
  first | refine w_aload_n C dL_law_1090 (by rfl) ?_ | refine w_aload_nN C dL_law_1090 (by rfl) ?_
  first | refine w_aload_n C dL_law_1091 (by rfl) ?_ | refine w_aload_nN C dL_law_1091 (by rfl) ?_
  refine w_iload C dL_law_1092 (by rfl) ?_
  refine w_iconst (v := 1) C dL_law_1094 (by rfl) ?_
  refine w_iadd C dL_law_1095 ?_
  refine w_sld C X (v 1 (by decide) (by decide)) dL_law_1096 ?_
  refine w_if_eq (tgt := 1104) C dL_law_1097 (by rfl) (fun c_1097 => ?_) (fun c_1097 => ?_)
  · try simp only [cg_ge, cg_gt, cl_gt, cl_le, cl_eq, cl_lt, cl_ge, bi_eq0, bi_ne0, bI_eq0, Decidable.not_not, Bool.not_eq_false] at c_1097
    refine w_iconst (v := 0) C dL_law_1104 (by rfl) ?_
    obtain ⟨p9, q9, hM1, hM2, j1⟩ := jt_door (D := KD K) hl j9 (b := false)
    refine cl_L_155 C (CT.fAI (D2.mk9 dAB dAO) hM1) (hj_l hy) (by rfl) (by rfl) ⟨by dsimp only [rm_X7_door, rm_X10_door, room_1]; omega, by dsimp only [rm_X7_door, rm_X10_door, room_1]; omega⟩ (by rfl) dL_law_1105 (fun z1 h1 p1 => ?_)
    obtain ⟨hA1, hp, e1, d1⟩ := p1
    subst e1
    have dAB3 := D2.l d1
    have dAO1 := D2.r d1 dBO
    first | refine w_aload_n C dL_law_1108 (by rfl) ?_ | refine w_aload_nN C dL_law_1108 (by rfl) ?_
    first | refine w_aload_n C dL_law_1109 (by rfl) ?_ | refine w_aload_nN C dL_law_1109 (by rfl) ?_
    refine w_iload C dL_law_1110 (by rfl) ?_
    refine w_iconst (v := 1) C dL_law_1112 (by rfl) ?_
    refine w_iadd C dL_law_1113 ?_
    refine w_sld C X (v 1 (by decide) (by decide)) dL_law_1114 ?_
    refine w_if_eq (tgt := 1122) C dL_law_1115 (by rfl) (fun c_1115 => ?_) (fun c_1115 => ?_)
    · try simp only [cg_ge, cg_gt, cl_gt, cl_le, cl_eq, cl_lt, cl_ge, bi_eq0, bi_ne0, bI_eq0, Decidable.not_not, Bool.not_eq_false] at c_1115
      refine w_iconst (v := 0) C dL_law_1122 (by rfl) ?_
      refine cl_L_159 C (CT.fBI dAB3 dAO1 dBO hM2) (hj_r (hj_l hm) (dAB3 _ _ hm)) (by rfl) (by rfl) ⟨by dsimp only [rm_X7_door, rm_X10_door, room_1]; omega, by dsimp only [rm_X7_door, rm_X10_door, room_1]; omega⟩ (by rfl) dL_law_1123 (fun z2 h2 p2 => ?_)
      obtain ⟨hB1, hq, e1, dAB2, dBO2⟩ := p2
      subst e1
      obtain ⟨e9, j9⟩ := j1 _ _ hp _ _ hq
      refine w_icmp_eq (tgt := 2002) C dL_law_1126 (by rfl) (fun c_1126 => ?_) (fun c_1126 => ?_)
      · exact w_sub (w_widen (kk (c + 1) (Nat.le_refl _) _ ⟨_, _, _, _, _, _, rfl, dAB2, dAO1, dBO2, O, j9⟩) (by dsimp only [rm_X7_door, rm_X10_door]; omega) (by dsimp only [rm_X7_door, rm_X10_door]; omega)) (by repeat' first | exact trivial | rfl | constructor)
      · exact absurd e9.symm c_1126
    · exact absurd c_1097 c_1115
  · try simp only [cg_ge, cg_gt, cl_gt, cl_le, cl_eq, cl_lt, cl_ge, bi_eq0, bi_ne0, bI_eq0, Decidable.not_not, Bool.not_eq_false] at c_1097
    refine w_iconst (v := 1) C dL_law_1100 (by rfl) ?_
    refine w_goto (tgt := 1105) C dL_law_1101 (by rfl) ?_
    obtain ⟨p9, q9, hM1, hM2, j1⟩ := jt_door (D := KD K) hl j9 (b := true)
    refine cl_L_155 C (CT.fAI (D2.mk9 dAB dAO) hM1) (hj_l hy) (by rfl) (by rfl) ⟨by dsimp only [rm_X7_door, rm_X10_door, room_1]; omega, by dsimp only [rm_X7_door, rm_X10_door, room_1]; omega⟩ (by rfl) dL_law_1105 (fun z1 h3 p3 => ?_)
    obtain ⟨hA1, hp, e1, d1⟩ := p3
    subst e1
    have dAB3 := D2.l d1
    have dAO1 := D2.r d1 dBO
    first | refine w_aload_n C dL_law_1108 (by rfl) ?_ | refine w_aload_nN C dL_law_1108 (by rfl) ?_
    first | refine w_aload_n C dL_law_1109 (by rfl) ?_ | refine w_aload_nN C dL_law_1109 (by rfl) ?_
    refine w_iload C dL_law_1110 (by rfl) ?_
    refine w_iconst (v := 1) C dL_law_1112 (by rfl) ?_
    refine w_iadd C dL_law_1113 ?_
    refine w_sld C X (v 1 (by decide) (by decide)) dL_law_1114 ?_
    refine w_if_eq (tgt := 1122) C dL_law_1115 (by rfl) (fun c_1115 => ?_) (fun c_1115 => ?_)
    · exact absurd c_1115 c_1097
    · try simp only [cg_ge, cg_gt, cl_gt, cl_le, cl_eq, cl_lt, cl_ge, bi_eq0, bi_ne0, bI_eq0, Decidable.not_not, Bool.not_eq_false] at c_1115
      refine w_iconst (v := 1) C dL_law_1118 (by rfl) ?_
      refine w_goto (tgt := 1123) C dL_law_1119 (by rfl) ?_
      refine cl_L_159 C (CT.fBI dAB3 dAO1 dBO hM2) (hj_r (hj_l hm) (dAB3 _ _ hm)) (by rfl) (by rfl) ⟨by dsimp only [rm_X7_door, rm_X10_door, room_1]; omega, by dsimp only [rm_X7_door, rm_X10_door, room_1]; omega⟩ (by rfl) dL_law_1123 (fun z2 h4 p4 => ?_)
      obtain ⟨hB1, hq, e1, dAB2, dBO2⟩ := p4
      subst e1
      obtain ⟨e9, j9⟩ := j1 _ _ hp _ _ hq
      refine w_icmp_eq (tgt := 2002) C dL_law_1126 (by rfl) (fun c_1126 => ?_) (fun c_1126 => ?_)
      · exact w_sub (w_widen (kk (c + 1) (Nat.le_refl _) _ ⟨_, _, _, _, _, _, rfl, dAB2, dAO1, dBO2, O, j9⟩) (by dsimp only [rm_X7_door, rm_X10_door]; omega) (by dsimp only [rm_X7_door, rm_X10_door]; omega)) (by repeat' first | exact trivial | rfl | constructor)
      · exact absurd e9.symm c_1126

set_option maxHeartbeats 4000000 in
set_option maxRecDepth 100000 in
theorem lr_bell {K : KC} (C : CX K RL cL_law 9 room_1) (hl : (Kl K).stackTraces = false) (hN : NCs (Ks K)) {n : Nat × Nat} (n1 : n.1 + 1000 ≤ 757560) (n2 : n.2 + 5000 ≤ 6823425) {b L y0 m0 o3 o4 kl wk c : Nat} {xs : Nat → Int32} (X : LX K b L xs) {i : Int32} (v : ∀ k : Int32, 0 ≤ k.toInt → k.toInt ≤ 5 → vp_in (i + k) L) (hc5 : c ≤ 519) {h : HM} (J : LJ (Kt K) y0 m0 o3 o4 kl wk c h)
    (kk : ∀ (c' : Nat), c' ≤ c + 1 → ∀ h' : HM, LJ (Kt K) y0 m0 o3 o4 kl wk c' h' → WW K (n.1 + 1000, n.2 + 5000) 2002 [some (.ref b), some (.ref y0), some (.ref m0), some (.ref o3), some (.ref o4), some (.int i), none, none, none] [] h') : WW K n 1131 [some (.ref b), some (.ref y0), some (.ref m0), some (.ref o3), some (.ref o4), some (.int i), none, none, none] [] h := by
  obtain ⟨hA, hB, hO, fL, fD, th, rfl, dAB, dAO, dBO, O, j9⟩ := J
  obtain ⟨fs1, hy⟩ := j9.y
  obtain ⟨fs2, hm⟩ := j9.m
  first | refine w_aload_n C dL_law_1131 (by rfl) ?_ | refine w_aload_nN C dL_law_1131 (by rfl) ?_
  obtain ⟨p9, q9, hM1, hM2, j1⟩ := jt_bell (D := KD K) hl j9 
  refine cl_L_160 C (CT.fAI (D2.mk9 dAB dAO) hM1) (hj_l hy) (by rfl) (by rfl) ⟨by dsimp only [rm_X7_bell, rm_X10_bell, room_1]; omega, by dsimp only [rm_X7_bell, rm_X10_bell, room_1]; omega⟩ (by rfl) dL_law_1132 (fun z1 h1 p1 => ?_)
  obtain ⟨hA1, hp, e1, d1⟩ := p1
  subst e1
  have dAB3 := D2.l d1
  have dAO1 := D2.r d1 dBO
  first | refine w_aload_n C dL_law_1135 (by rfl) ?_ | refine w_aload_nN C dL_law_1135 (by rfl) ?_
  refine cl_L_163 C (CT.fBI dAB3 dAO1 dBO hM2) (hj_r (hj_l hm) (dAB3 _ _ hm)) (by rfl) (by rfl) ⟨by dsimp only [rm_X7_bell, rm_X10_bell, room_1]; omega, by dsimp only [rm_X7_bell, rm_X10_bell, room_1]; omega⟩ (by rfl) dL_law_1136 (fun z2 h2 p2 => ?_)
  obtain ⟨hB1, hq, e1, dAB2, dBO2⟩ := p2
  subst e1
  obtain ⟨e9, j9⟩ := j1 _ _ hp _ _ hq
  refine w_icmp_eq (tgt := 2002) C dL_law_1139 (by rfl) (fun c_1139 => ?_) (fun c_1139 => ?_)
  · exact w_sub (w_widen (kk (c + 1) (Nat.le_refl _) _ ⟨_, _, _, _, _, _, rfl, dAB2, dAO1, dBO2, O, j9⟩) (by dsimp only [rm_X7_bell, rm_X10_bell]; omega) (by dsimp only [rm_X7_bell, rm_X10_bell]; omega)) (by repeat' first | exact trivial | rfl | constructor)
  · exact absurd e9.symm c_1139

set_option maxHeartbeats 4000000 in
set_option maxRecDepth 100000 in
theorem lr_unload {K : KC} (C : CX K RL cL_law 9 room_1) (hl : (Kl K).stackTraces = false) (hN : NCs (Ks K)) {n : Nat × Nat} (n1 : n.1 + 1000 ≤ 757560) (n2 : n.2 + 5000 ≤ 6823425) {b L y0 m0 o3 o4 kl wk c : Nat} {xs : Nat → Int32} (X : LX K b L xs) {i : Int32} (v : ∀ k : Int32, 0 ≤ k.toInt → k.toInt ≤ 5 → vp_in (i + k) L) (hc5 : c ≤ 519) {h : HM} (J : LJ (Kt K) y0 m0 o3 o4 kl wk c h)
    (kk : ∀ (c' : Nat), c' ≤ c + 1 → ∀ h' : HM, LJ (Kt K) y0 m0 o3 o4 kl wk c' h' → WW K (n.1 + 1000, n.2 + 5000) 2002 [some (.ref b), some (.ref y0), some (.ref m0), some (.ref o3), some (.ref o4), some (.int i), none, none, none] [] h') : WW K n 1144 [some (.ref b), some (.ref y0), some (.ref m0), some (.ref o3), some (.ref o4), some (.int i), none, none, none] [] h := by
  obtain ⟨hA, hB, hO, fL, fD, th, rfl, dAB, dAO, dBO, O, j9⟩ := J
  obtain ⟨fs1, hy⟩ := j9.y
  obtain ⟨fs2, hm⟩ := j9.m
  first | refine w_aload_n C dL_law_1144 (by rfl) ?_ | refine w_aload_nN C dL_law_1144 (by rfl) ?_
  first | refine w_aload_n C dL_law_1145 (by rfl) ?_ | refine w_aload_nN C dL_law_1145 (by rfl) ?_
  obtain ⟨p9, px9, q9, hM1, hM2, hcd, j1, j2⟩ := jt_unload (D := KD K) hl j9 hc5 
  refine w_SWI C hN (m_L_unload hl (D2.mk9 dAB dAO) hy (hj_r O.1 (dBO _ _ O.1)) hM1 hcd) gw_819 gw_820 gw_50 gw_821 (show okY yL_unload 2 = true by decide +kernel) (by rfl) ⟨by dsimp only [rm_L_unload, rm_X10_unload, rm_X10_thrown, room_1]; omega, by dsimp only [rm_L_unload, rm_X10_unload, rm_X10_thrown, room_1]; omega⟩ (by rfl) rfl dL_law_1146 (fun k9 hw aw => ?_)
  obtain ⟨hA1, hO1, fL1, fD1, e1, dAB1, dAO1, dBO1, O1, aw2⟩ := la_L (g := (fun v => v.toInt64)) dBO O aw
  subst e1
  refine w_istore_6 C dL_law_1149 (by first | trivial | rfl) ?_
  first | refine w_aload_n C dL_law_1151 (by rfl) ?_ | refine w_aload_nN C dL_law_1151 (by rfl) ?_
  refine cl_L_166 C (CT.fBI dAB1 dAO1 dBO1 hM2) (hj_r (hj_l hm) (dAB1 _ _ hm)) (by rfl) (by rfl) ⟨by dsimp only [rm_L_unload, rm_X10_unload, rm_X10_thrown, room_1]; omega, by dsimp only [rm_L_unload, rm_X10_unload, rm_X10_thrown, room_1]; omega⟩ (by rfl) dL_law_1152 (fun z2 h1 p1 => ?_)
  obtain ⟨hB1, hq, e1, dAB2, dBO2⟩ := p1
  subst e1
  obtain ⟨j9, e9⟩ := la_J (by decide +kernel) j1 j2 aw2 hq
  have e9 : k9 = 0 → fL1 0 = z2.toInt64 := e9
  obtain ⟨fs2, hm⟩ := j9.m
  refine w_istore_7 C dL_law_1155 (by first | trivial | rfl) ?_
  first | refine w_aload_n C dL_law_1157 (by rfl) ?_ | refine w_aload_nN C dL_law_1157 (by rfl) ?_
  refine cl_L_110 C (CT.fBI dAB2 dAO1 dBO2 (jt_thrown hl j9)) (hj_r (hj_l hm) (dAB2 _ _ hm)) (by rfl) (by rfl) ⟨by dsimp only [rm_L_unload, rm_X10_unload, rm_X10_thrown, room_1]; omega, by dsimp only [rm_L_unload, rm_X10_unload, rm_X10_thrown, room_1]; omega⟩ (by rfl) dL_law_1158 (fun z3 h2 p2 => ?_)
  obtain ⟨hB2, ⟨e1, e3⟩, e2, dAB3, dBO3⟩ := p2
  subst e1
  subst e2
  refine w_iload C dL_law_1161 (by rfl) ?_
  refine w_icmp_eq (tgt := 1168) C dL_law_1163 (by rfl) (fun c_1163 => ?_) (fun c_1163 => ?_)
  · refine w_iload C dL_law_1168 (by rfl) ?_
    refine w_if_ne (tgt := 1185) C dL_law_1170 (by rfl) (fun c_1170 => ?_) (fun c_1170 => ?_)
    · try simp only [cg_ge, cg_gt, cl_gt, cl_le, cl_eq, cl_lt, cl_ge, bi_eq0, bi_ne0, bI_eq0, Decidable.not_not, Bool.not_eq_false] at c_1170
      refine w_goto (tgt := 2002) C dL_law_1185 (by rfl) ?_
      exact w_sub (w_widen (kk (c + 1) (Nat.le_refl _) _ ⟨_, _, _, _, _, _, rfl, dAB3, dAO1, dBO3, O1, j9⟩) (by dsimp only [rm_L_unload, rm_X10_unload, rm_X10_thrown]; omega) (by dsimp only [rm_L_unload, rm_X10_unload, rm_X10_thrown]; omega)) (by repeat' first | exact trivial | rfl | constructor)
    · try simp only [cg_ge, cg_gt, cl_gt, cl_le, cl_eq, cl_lt, cl_ge, bi_eq0, bi_ne0, bI_eq0, Decidable.not_not, Bool.not_eq_false] at c_1170
      first | refine w_aload_n C dL_law_1173 (by rfl) ?_ | refine w_aload_nN C dL_law_1173 (by rfl) ?_
      refine w_iconst (v := 0) C dL_law_1174 (by rfl) ?_
      refine w_laldn (j := 0) C (hj_r (hj_r O1.1 (dBO3 _ _ O1.1)) (D2.mk9 dAB3 dAO1 _ _ (hj_r O1.1 (dBO3 _ _ O1.1)))) (by decide) (by decide) dL_law_1175 ?_
      refine w_iload C dL_law_1176 (by rfl) ?_
      refine w_i2l C dL_law_1178 ?_
      refine w_lcmp C dL_law_1179 ?_
      refine w_if_eq (tgt := 1185) C dL_law_1180 (by rfl) (fun c_1180 => ?_) (fun c_1180 => ?_)
      · try simp only [cg_ge, cg_gt, cl_gt, cl_le, cl_eq, cl_lt, cl_ge, bi_eq0, bi_ne0, bI_eq0, Decidable.not_not, Bool.not_eq_false] at c_1180
        refine w_goto (tgt := 2002) C dL_law_1185 (by rfl) ?_
        exact w_sub (w_widen (kk (c + 1) (Nat.le_refl _) _ ⟨_, _, _, _, _, _, rfl, dAB3, dAO1, dBO3, O1, j9⟩) (by dsimp only [rm_L_unload, rm_X10_unload, rm_X10_thrown]; omega) (by dsimp only [rm_L_unload, rm_X10_unload, rm_X10_thrown]; omega)) (by repeat' first | exact trivial | rfl | constructor)
      · exact absurd (by rw [e9 c_1170]; exact lg_cmp_self _) c_1180
  · exact absurd e3 c_1163

set_option maxHeartbeats 4000000 in
set_option maxRecDepth 100000 in
theorem lr_order {K : KC} (C : CX K RL cL_law 9 room_1) (hl : (Kl K).stackTraces = false) (hN : NCs (Ks K)) {n : Nat × Nat} (n1 : n.1 + 1000 ≤ 757560) (n2 : n.2 + 5000 ≤ 6823425) {b L y0 m0 o3 o4 kl wk c : Nat} {xs : Nat → Int32} (X : LX K b L xs) {i : Int32} (v : ∀ k : Int32, 0 ≤ k.toInt → k.toInt ≤ 5 → vp_in (i + k) L) (hc5 : c ≤ 519) {h : HM} (J : LJ (Kt K) y0 m0 o3 o4 kl wk c h)
    (kk : ∀ (c' : Nat), c' ≤ c + 1 → ∀ h' : HM, LJ (Kt K) y0 m0 o3 o4 kl wk c' h' → WW K (n.1 + 1000, n.2 + 5000) 2002 [some (.ref b), some (.ref y0), some (.ref m0), some (.ref o3), some (.ref o4), some (.int i), none, none, none] [] h') : WW K n 1188 [some (.ref b), some (.ref y0), some (.ref m0), some (.ref o3), some (.ref o4), some (.int i), none, none, none] [] h := by
  obtain ⟨hA, hB, hO, fL, fD, th, rfl, dAB, dAO, dBO, O, j9⟩ := J
  obtain ⟨fs1, hy⟩ := j9.y
  obtain ⟨fs2, hm⟩ := j9.m
  first | refine w_aload_n C dL_law_1188 (by rfl) ?_ | refine w_aload_nN C dL_law_1188 (by rfl) ?_
  first | refine w_aload_n C dL_law_1189 (by rfl) ?_ | refine w_aload_nN C dL_law_1189 (by rfl) ?_
  refine w_iload C dL_law_1190 (by rfl) ?_
  refine w_iconst (v := 1) C dL_law_1192 (by rfl) ?_
  refine w_iadd C dL_law_1193 ?_
  refine w_sld C X (v 1 (by decide) (by decide)) dL_law_1194 ?_
  first | refine w_aload_n C dL_law_1195 (by rfl) ?_ | refine w_aload_nN C dL_law_1195 (by rfl) ?_
  refine w_iload C dL_law_1196 (by rfl) ?_
  refine w_iconst (v := 2) C dL_law_1198 (by rfl) ?_
  refine w_iadd C dL_law_1199 ?_
  refine w_sld C X (v 2 (by decide) (by decide)) dL_law_1200 ?_
  first | refine w_aload_n C dL_law_1201 (by rfl) ?_ | refine w_aload_nN C dL_law_1201 (by rfl) ?_
  refine w_iload C dL_law_1202 (by rfl) ?_
  refine w_iconst (v := 3) C dL_law_1204 (by rfl) ?_
  refine w_iadd C dL_law_1205 ?_
  refine w_sld C X (v 3 (by decide) (by decide)) dL_law_1206 ?_
  first | refine w_aload_n C dL_law_1207 (by rfl) ?_ | refine w_aload_nN C dL_law_1207 (by rfl) ?_
  refine w_iload C dL_law_1208 (by rfl) ?_
  refine w_iconst (v := 4) C dL_law_1210 (by rfl) ?_
  refine w_iadd C dL_law_1211 ?_
  refine w_sld C X (v 4 (by decide) (by decide)) dL_law_1212 ?_
  first | refine w_aload_n C dL_law_1213 (by rfl) ?_ | refine w_aload_nN C dL_law_1213 (by rfl) ?_
  obtain ⟨p9, px9, q9, hM1, hM2, hcd, j1, j2⟩ := jt_order (D := KD K) hl j9 (gl := (xs (i + 1).toNatClampNeg)) (c0 := (xs (i + 2).toNatClampNeg)) (ds := (xs (i + 3).toNatClampNeg)) (pz := (xs (i + 4).toNatClampNeg))
  refine w_SWI C hN (m_L_order hl (D2.mk9 dAB dAO) hy (hj_r O.1 (dBO _ _ O.1)) hM1 hcd) gw_840 gw_841 gw_50 gw_842 (show okY yL_order 6 = true by decide +kernel) (by rfl) ⟨by dsimp only [rm_L_order, rm_X10_order, rm_X10_thrown, room_1]; omega, by dsimp only [rm_L_order, rm_X10_order, rm_X10_thrown, room_1]; omega⟩ (by rfl) rfl dL_law_1214 (fun k9 hw aw => ?_)
  obtain ⟨hA1, hO1, fL1, fD1, e1, dAB1, dAO1, dBO1, O1, aw2⟩ := la_L (g := (fun v => v.toInt64)) dBO O aw
  subst e1
  refine w_istore_6 C dL_law_1217 (by first | trivial | rfl) ?_
  first | refine w_aload_n C dL_law_1219 (by rfl) ?_ | refine w_aload_nN C dL_law_1219 (by rfl) ?_
  first | refine w_aload_n C dL_law_1220 (by rfl) ?_ | refine w_aload_nN C dL_law_1220 (by rfl) ?_
  refine w_iload C dL_law_1221 (by rfl) ?_
  refine w_iconst (v := 1) C dL_law_1223 (by rfl) ?_
  refine w_iadd C dL_law_1224 ?_
  refine w_sld C X (v 1 (by decide) (by decide)) dL_law_1225 ?_
  first | refine w_aload_n C dL_law_1226 (by rfl) ?_ | refine w_aload_nN C dL_law_1226 (by rfl) ?_
  refine w_iload C dL_law_1227 (by rfl) ?_
  refine w_iconst (v := 2) C dL_law_1229 (by rfl) ?_
  refine w_iadd C dL_law_1230 ?_
  refine w_sld C X (v 2 (by decide) (by decide)) dL_law_1231 ?_
  first | refine w_aload_n C dL_law_1232 (by rfl) ?_ | refine w_aload_nN C dL_law_1232 (by rfl) ?_
  refine w_iload C dL_law_1233 (by rfl) ?_
  refine w_iconst (v := 3) C dL_law_1235 (by rfl) ?_
  refine w_iadd C dL_law_1236 ?_
  refine w_sld C X (v 3 (by decide) (by decide)) dL_law_1237 ?_
  first | refine w_aload_n C dL_law_1238 (by rfl) ?_ | refine w_aload_nN C dL_law_1238 (by rfl) ?_
  refine w_iload C dL_law_1239 (by rfl) ?_
  refine w_iconst (v := 4) C dL_law_1241 (by rfl) ?_
  refine w_iadd C dL_law_1242 ?_
  refine w_sld C X (v 4 (by decide) (by decide)) dL_law_1243 ?_
  refine cl_L_169 C (CT.fBI dAB1 dAO1 dBO1 hM2) (hj_r (hj_l hm) (dAB1 _ _ hm)) (by rfl) (by rfl) ⟨by dsimp only [rm_L_order, rm_X10_order, rm_X10_thrown, room_1]; omega, by dsimp only [rm_L_order, rm_X10_order, rm_X10_thrown, room_1]; omega⟩ (by rfl) dL_law_1244 (fun z2 h1 p1 => ?_)
  obtain ⟨hB1, hq, e1, dAB2, dBO2⟩ := p1
  subst e1
  obtain ⟨j9, e9⟩ := la_J (by decide +kernel) j1 j2 aw2 hq
  have e9 : k9 = 0 → fL1 0 = z2.toInt64 := e9
  obtain ⟨fs2, hm⟩ := j9.m
  refine w_istore_7 C dL_law_1247 (by first | trivial | rfl) ?_
  first | refine w_aload_n C dL_law_1249 (by rfl) ?_ | refine w_aload_nN C dL_law_1249 (by rfl) ?_
  refine cl_L_110 C (CT.fBI dAB2 dAO1 dBO2 (jt_thrown hl j9)) (hj_r (hj_l hm) (dAB2 _ _ hm)) (by rfl) (by rfl) ⟨by dsimp only [rm_L_order, rm_X10_order, rm_X10_thrown, room_1]; omega, by dsimp only [rm_L_order, rm_X10_order, rm_X10_thrown, room_1]; omega⟩ (by rfl) dL_law_1250 (fun z3 h2 p2 => ?_)
  obtain ⟨hB2, ⟨e1, e3⟩, e2, dAB3, dBO3⟩ := p2
  subst e1
  subst e2
  refine w_iload C dL_law_1253 (by rfl) ?_
  refine w_icmp_eq (tgt := 1260) C dL_law_1255 (by rfl) (fun c_1255 => ?_) (fun c_1255 => ?_)
  · refine w_iload C dL_law_1260 (by rfl) ?_
    refine w_if_ne (tgt := 1277) C dL_law_1262 (by rfl) (fun c_1262 => ?_) (fun c_1262 => ?_)
    · try simp only [cg_ge, cg_gt, cl_gt, cl_le, cl_eq, cl_lt, cl_ge, bi_eq0, bi_ne0, bI_eq0, Decidable.not_not, Bool.not_eq_false] at c_1262
      refine w_goto (tgt := 2002) C dL_law_1277 (by rfl) ?_
      exact w_sub (w_widen (kk (c + 1) (Nat.le_refl _) _ ⟨_, _, _, _, _, _, rfl, dAB3, dAO1, dBO3, O1, j9⟩) (by dsimp only [rm_L_order, rm_X10_order, rm_X10_thrown]; omega) (by dsimp only [rm_L_order, rm_X10_order, rm_X10_thrown]; omega)) (by repeat' first | exact trivial | rfl | constructor)
    · try simp only [cg_ge, cg_gt, cl_gt, cl_le, cl_eq, cl_lt, cl_ge, bi_eq0, bi_ne0, bI_eq0, Decidable.not_not, Bool.not_eq_false] at c_1262
      first | refine w_aload_n C dL_law_1265 (by rfl) ?_ | refine w_aload_nN C dL_law_1265 (by rfl) ?_
      refine w_iconst (v := 0) C dL_law_1266 (by rfl) ?_
      refine w_laldn (j := 0) C (hj_r (hj_r O1.1 (dBO3 _ _ O1.1)) (D2.mk9 dAB3 dAO1 _ _ (hj_r O1.1 (dBO3 _ _ O1.1)))) (by decide) (by decide) dL_law_1267 ?_
      refine w_iload C dL_law_1268 (by rfl) ?_
      refine w_i2l C dL_law_1270 ?_
      refine w_lcmp C dL_law_1271 ?_
      refine w_if_eq (tgt := 1277) C dL_law_1272 (by rfl) (fun c_1272 => ?_) (fun c_1272 => ?_)
      · try simp only [cg_ge, cg_gt, cl_gt, cl_le, cl_eq, cl_lt, cl_ge, bi_eq0, bi_ne0, bI_eq0, Decidable.not_not, Bool.not_eq_false] at c_1272
        refine w_goto (tgt := 2002) C dL_law_1277 (by rfl) ?_
        exact w_sub (w_widen (kk (c + 1) (Nat.le_refl _) _ ⟨_, _, _, _, _, _, rfl, dAB3, dAO1, dBO3, O1, j9⟩) (by dsimp only [rm_L_order, rm_X10_order, rm_X10_thrown]; omega) (by dsimp only [rm_L_order, rm_X10_order, rm_X10_thrown]; omega)) (by repeat' first | exact trivial | rfl | constructor)
      · exact absurd (by rw [e9 c_1262]; exact lg_cmp_self _) c_1272
  · exact absurd e3 c_1255

set_option maxHeartbeats 4000000 in
set_option maxRecDepth 100000 in
theorem lr_meet {K : KC} (C : CX K RL cL_law 9 room_1) (hl : (Kl K).stackTraces = false) (hN : NCs (Ks K)) {n : Nat × Nat} (n1 : n.1 + 1000 ≤ 757560) (n2 : n.2 + 5000 ≤ 6823425) {b L y0 m0 o3 o4 kl wk c : Nat} {xs : Nat → Int32} (X : LX K b L xs) {i : Int32} (v : ∀ k : Int32, 0 ≤ k.toInt → k.toInt ≤ 5 → vp_in (i + k) L) (hc5 : c ≤ 519) {h : HM} (J : LJ (Kt K) y0 m0 o3 o4 kl wk c h)
    (kk : ∀ (c' : Nat), c' ≤ c + 1 → ∀ h' : HM, LJ (Kt K) y0 m0 o3 o4 kl wk c' h' → WW K (n.1 + 1000, n.2 + 5000) 2002 [some (.ref b), some (.ref y0), some (.ref m0), some (.ref o3), some (.ref o4), some (.int i), none, none, none] [] h') : WW K n 1280 [some (.ref b), some (.ref y0), some (.ref m0), some (.ref o3), some (.ref o4), some (.int i), none, none, none] [] h := by
  obtain ⟨hA, hB, hO, fL, fD, th, rfl, dAB, dAO, dBO, O, j9⟩ := J
  obtain ⟨fs1, hy⟩ := j9.y
  obtain ⟨fs2, hm⟩ := j9.m
  first | refine w_aload_n C dL_law_1280 (by rfl) ?_ | refine w_aload_nN C dL_law_1280 (by rfl) ?_
  first | refine w_aload_n C dL_law_1281 (by rfl) ?_ | refine w_aload_nN C dL_law_1281 (by rfl) ?_
  refine w_iload C dL_law_1282 (by rfl) ?_
  refine w_iconst (v := 1) C dL_law_1284 (by rfl) ?_
  refine w_iadd C dL_law_1285 ?_
  refine w_sld C X (v 1 (by decide) (by decide)) dL_law_1286 ?_
  first | refine w_aload_n C dL_law_1287 (by rfl) ?_ | refine w_aload_nN C dL_law_1287 (by rfl) ?_
  refine w_iload C dL_law_1288 (by rfl) ?_
  refine w_iconst (v := 2) C dL_law_1290 (by rfl) ?_
  refine w_iadd C dL_law_1291 ?_
  refine w_sld C X (v 2 (by decide) (by decide)) dL_law_1292 ?_
  first | refine w_aload_n C dL_law_1293 (by rfl) ?_ | refine w_aload_nN C dL_law_1293 (by rfl) ?_
  obtain ⟨p9, px9, q9, hM1, hM2, hcd, j1, j2⟩ := jt_meet (D := KD K) hl j9 (i := (xs (i + 1).toNatClampNeg)) (pt := (xs (i + 2).toNatClampNeg))
  refine w_SWI C hN (m_L_meet hl (D2.mk9 dAB dAO) hy (hj_r O.1 (dBO _ _ O.1)) hM1 hcd) gw_873 gw_874 gw_50 gw_875 (show okY yL_meet 4 = true by decide +kernel) (by rfl) ⟨by dsimp only [rm_L_meet, rm_X10_meet, rm_X10_thrown, room_1]; omega, by dsimp only [rm_L_meet, rm_X10_meet, rm_X10_thrown, room_1]; omega⟩ (by rfl) rfl dL_law_1294 (fun k9 hw aw => ?_)
  obtain ⟨hA1, hO1, fL1, fD1, e1, dAB1, dAO1, dBO1, O1, aw2⟩ := la_L (g := (fun v => v.toInt64)) dBO O aw
  subst e1
  refine w_istore_6 C dL_law_1297 (by first | trivial | rfl) ?_
  first | refine w_aload_n C dL_law_1299 (by rfl) ?_ | refine w_aload_nN C dL_law_1299 (by rfl) ?_
  first | refine w_aload_n C dL_law_1300 (by rfl) ?_ | refine w_aload_nN C dL_law_1300 (by rfl) ?_
  refine w_iload C dL_law_1301 (by rfl) ?_
  refine w_iconst (v := 1) C dL_law_1303 (by rfl) ?_
  refine w_iadd C dL_law_1304 ?_
  refine w_sld C X (v 1 (by decide) (by decide)) dL_law_1305 ?_
  first | refine w_aload_n C dL_law_1306 (by rfl) ?_ | refine w_aload_nN C dL_law_1306 (by rfl) ?_
  refine w_iload C dL_law_1307 (by rfl) ?_
  refine w_iconst (v := 2) C dL_law_1309 (by rfl) ?_
  refine w_iadd C dL_law_1310 ?_
  refine w_sld C X (v 2 (by decide) (by decide)) dL_law_1311 ?_
  refine cl_L_172 C (CT.fBI dAB1 dAO1 dBO1 hM2) (hj_r (hj_l hm) (dAB1 _ _ hm)) (by rfl) (by rfl) ⟨by dsimp only [rm_L_meet, rm_X10_meet, rm_X10_thrown, room_1]; omega, by dsimp only [rm_L_meet, rm_X10_meet, rm_X10_thrown, room_1]; omega⟩ (by rfl) dL_law_1312 (fun z2 h1 p1 => ?_)
  obtain ⟨hB1, hq, e1, dAB2, dBO2⟩ := p1
  subst e1
  obtain ⟨j9, e9⟩ := la_J (by decide +kernel) j1 j2 aw2 hq
  have e9 : k9 = 0 → fL1 0 = z2.toInt64 := e9
  obtain ⟨fs2, hm⟩ := j9.m
  refine w_istore_7 C dL_law_1315 (by first | trivial | rfl) ?_
  first | refine w_aload_n C dL_law_1317 (by rfl) ?_ | refine w_aload_nN C dL_law_1317 (by rfl) ?_
  refine cl_L_110 C (CT.fBI dAB2 dAO1 dBO2 (jt_thrown hl j9)) (hj_r (hj_l hm) (dAB2 _ _ hm)) (by rfl) (by rfl) ⟨by dsimp only [rm_L_meet, rm_X10_meet, rm_X10_thrown, room_1]; omega, by dsimp only [rm_L_meet, rm_X10_meet, rm_X10_thrown, room_1]; omega⟩ (by rfl) dL_law_1318 (fun z3 h2 p2 => ?_)
  obtain ⟨hB2, ⟨e1, e3⟩, e2, dAB3, dBO3⟩ := p2
  subst e1
  subst e2
  refine w_iload C dL_law_1321 (by rfl) ?_
  refine w_icmp_eq (tgt := 1328) C dL_law_1323 (by rfl) (fun c_1323 => ?_) (fun c_1323 => ?_)
  · refine w_iload C dL_law_1328 (by rfl) ?_
    refine w_if_ne (tgt := 1345) C dL_law_1330 (by rfl) (fun c_1330 => ?_) (fun c_1330 => ?_)
    · try simp only [cg_ge, cg_gt, cl_gt, cl_le, cl_eq, cl_lt, cl_ge, bi_eq0, bi_ne0, bI_eq0, Decidable.not_not, Bool.not_eq_false] at c_1330
      refine w_goto (tgt := 2002) C dL_law_1345 (by rfl) ?_
      exact w_sub (w_widen (kk (c + 1) (Nat.le_refl _) _ ⟨_, _, _, _, _, _, rfl, dAB3, dAO1, dBO3, O1, j9⟩) (by dsimp only [rm_L_meet, rm_X10_meet, rm_X10_thrown]; omega) (by dsimp only [rm_L_meet, rm_X10_meet, rm_X10_thrown]; omega)) (by repeat' first | exact trivial | rfl | constructor)
    · try simp only [cg_ge, cg_gt, cl_gt, cl_le, cl_eq, cl_lt, cl_ge, bi_eq0, bi_ne0, bI_eq0, Decidable.not_not, Bool.not_eq_false] at c_1330
      first | refine w_aload_n C dL_law_1333 (by rfl) ?_ | refine w_aload_nN C dL_law_1333 (by rfl) ?_
      refine w_iconst (v := 0) C dL_law_1334 (by rfl) ?_
      refine w_laldn (j := 0) C (hj_r (hj_r O1.1 (dBO3 _ _ O1.1)) (D2.mk9 dAB3 dAO1 _ _ (hj_r O1.1 (dBO3 _ _ O1.1)))) (by decide) (by decide) dL_law_1335 ?_
      refine w_iload C dL_law_1336 (by rfl) ?_
      refine w_i2l C dL_law_1338 ?_
      refine w_lcmp C dL_law_1339 ?_
      refine w_if_eq (tgt := 1345) C dL_law_1340 (by rfl) (fun c_1340 => ?_) (fun c_1340 => ?_)
      · try simp only [cg_ge, cg_gt, cl_gt, cl_le, cl_eq, cl_lt, cl_ge, bi_eq0, bi_ne0, bI_eq0, Decidable.not_not, Bool.not_eq_false] at c_1340
        refine w_goto (tgt := 2002) C dL_law_1345 (by rfl) ?_
        exact w_sub (w_widen (kk (c + 1) (Nat.le_refl _) _ ⟨_, _, _, _, _, _, rfl, dAB3, dAO1, dBO3, O1, j9⟩) (by dsimp only [rm_L_meet, rm_X10_meet, rm_X10_thrown]; omega) (by dsimp only [rm_L_meet, rm_X10_meet, rm_X10_thrown]; omega)) (by repeat' first | exact trivial | rfl | constructor)
      · exact absurd (by rw [e9 c_1330]; exact lg_cmp_self _) c_1340
  · exact absurd e3 c_1323

set_option maxHeartbeats 4000000 in
set_option maxRecDepth 100000 in
theorem lr_ofPot {K : KC} (C : CX K RL cL_law 9 room_1) (hl : (Kl K).stackTraces = false) (hN : NCs (Ks K)) {n : Nat × Nat} (n1 : n.1 + 1000 ≤ 757560) (n2 : n.2 + 5000 ≤ 6823425) {b L y0 m0 o3 o4 kl wk c : Nat} {xs : Nat → Int32} (X : LX K b L xs) {i : Int32} (v : ∀ k : Int32, 0 ≤ k.toInt → k.toInt ≤ 5 → vp_in (i + k) L) (hc5 : c ≤ 519) {h : HM} (J : LJ (Kt K) y0 m0 o3 o4 kl wk c h)
    (kk : ∀ (c' : Nat), c' ≤ c + 1 → ∀ h' : HM, LJ (Kt K) y0 m0 o3 o4 kl wk c' h' → WW K (n.1 + 1000, n.2 + 5000) 2002 [some (.ref b), some (.ref y0), some (.ref m0), some (.ref o3), some (.ref o4), some (.int i), none, none, none] [] h') : WW K n 1348 [some (.ref b), some (.ref y0), some (.ref m0), some (.ref o3), some (.ref o4), some (.int i), none, none, none] [] h := by
  obtain ⟨hA, hB, hO, fL, fD, th, rfl, dAB, dAO, dBO, O, j9⟩ := J
  obtain ⟨fs1, hy⟩ := j9.y
  obtain ⟨fs2, hm⟩ := j9.m
  first | refine w_aload_n C dL_law_1348 (by rfl) ?_ | refine w_aload_nN C dL_law_1348 (by rfl) ?_
  first | refine w_aload_n C dL_law_1349 (by rfl) ?_ | refine w_aload_nN C dL_law_1349 (by rfl) ?_
  refine w_iload C dL_law_1350 (by rfl) ?_
  refine w_iconst (v := 1) C dL_law_1352 (by rfl) ?_
  refine w_iadd C dL_law_1353 ?_
  refine w_sld C X (v 1 (by decide) (by decide)) dL_law_1354 ?_
  first | refine w_aload_n C dL_law_1355 (by rfl) ?_ | refine w_aload_nN C dL_law_1355 (by rfl) ?_
  refine w_iload C dL_law_1356 (by rfl) ?_
  refine w_iconst (v := 2) C dL_law_1358 (by rfl) ?_
  refine w_iadd C dL_law_1359 ?_
  refine w_sld C X (v 2 (by decide) (by decide)) dL_law_1360 ?_
  first | refine w_aload_n C dL_law_1361 (by rfl) ?_ | refine w_aload_nN C dL_law_1361 (by rfl) ?_
  obtain ⟨p9, px9, q9, hM1, hM2, hcd, j1, j2⟩ := jt_ofPot (D := KD K) hl j9 (i := (xs (i + 1).toNatClampNeg)) (what := (xs (i + 2).toNatClampNeg))
  refine w_SWI C hN (m_L_ofPot hl (D2.mk9 dAB dAO) hy (hj_r O.1 (dBO _ _ O.1)) hM1 hcd) gw_892 gw_893 gw_50 gw_894 (show okY yL_ofPot 4 = true by decide +kernel) (by rfl) ⟨by dsimp only [rm_L_ofPot, rm_X10_ofPot, rm_X10_thrown, room_1]; omega, by dsimp only [rm_L_ofPot, rm_X10_ofPot, rm_X10_thrown, room_1]; omega⟩ (by rfl) rfl dL_law_1362 (fun k9 hw aw => ?_)
  obtain ⟨hA1, hO1, fL1, fD1, e1, dAB1, dAO1, dBO1, O1, aw2⟩ := la_L (g := (fun v => v.toInt64)) dBO O aw
  subst e1
  refine w_istore_6 C dL_law_1365 (by first | trivial | rfl) ?_
  first | refine w_aload_n C dL_law_1367 (by rfl) ?_ | refine w_aload_nN C dL_law_1367 (by rfl) ?_
  first | refine w_aload_n C dL_law_1368 (by rfl) ?_ | refine w_aload_nN C dL_law_1368 (by rfl) ?_
  refine w_iload C dL_law_1369 (by rfl) ?_
  refine w_iconst (v := 1) C dL_law_1371 (by rfl) ?_
  refine w_iadd C dL_law_1372 ?_
  refine w_sld C X (v 1 (by decide) (by decide)) dL_law_1373 ?_
  first | refine w_aload_n C dL_law_1374 (by rfl) ?_ | refine w_aload_nN C dL_law_1374 (by rfl) ?_
  refine w_iload C dL_law_1375 (by rfl) ?_
  refine w_iconst (v := 2) C dL_law_1377 (by rfl) ?_
  refine w_iadd C dL_law_1378 ?_
  refine w_sld C X (v 2 (by decide) (by decide)) dL_law_1379 ?_
  refine cl_L_175 C (CT.fBI dAB1 dAO1 dBO1 hM2) (hj_r (hj_l hm) (dAB1 _ _ hm)) (by rfl) (by rfl) ⟨by dsimp only [rm_L_ofPot, rm_X10_ofPot, rm_X10_thrown, room_1]; omega, by dsimp only [rm_L_ofPot, rm_X10_ofPot, rm_X10_thrown, room_1]; omega⟩ (by rfl) dL_law_1380 (fun z2 h1 p1 => ?_)
  obtain ⟨hB1, hq, e1, dAB2, dBO2⟩ := p1
  subst e1
  obtain ⟨j9, e9⟩ := la_J (by decide +kernel) j1 j2 aw2 hq
  have e9 : k9 = 0 → fL1 0 = z2.toInt64 := e9
  obtain ⟨fs2, hm⟩ := j9.m
  refine w_istore_7 C dL_law_1383 (by first | trivial | rfl) ?_
  first | refine w_aload_n C dL_law_1385 (by rfl) ?_ | refine w_aload_nN C dL_law_1385 (by rfl) ?_
  refine cl_L_110 C (CT.fBI dAB2 dAO1 dBO2 (jt_thrown hl j9)) (hj_r (hj_l hm) (dAB2 _ _ hm)) (by rfl) (by rfl) ⟨by dsimp only [rm_L_ofPot, rm_X10_ofPot, rm_X10_thrown, room_1]; omega, by dsimp only [rm_L_ofPot, rm_X10_ofPot, rm_X10_thrown, room_1]; omega⟩ (by rfl) dL_law_1386 (fun z3 h2 p2 => ?_)
  obtain ⟨hB2, ⟨e1, e3⟩, e2, dAB3, dBO3⟩ := p2
  subst e1
  subst e2
  refine w_iload C dL_law_1389 (by rfl) ?_
  refine w_icmp_eq (tgt := 1396) C dL_law_1391 (by rfl) (fun c_1391 => ?_) (fun c_1391 => ?_)
  · refine w_iload C dL_law_1396 (by rfl) ?_
    refine w_if_ne (tgt := 1413) C dL_law_1398 (by rfl) (fun c_1398 => ?_) (fun c_1398 => ?_)
    · try simp only [cg_ge, cg_gt, cl_gt, cl_le, cl_eq, cl_lt, cl_ge, bi_eq0, bi_ne0, bI_eq0, Decidable.not_not, Bool.not_eq_false] at c_1398
      refine w_goto (tgt := 2002) C dL_law_1413 (by rfl) ?_
      exact w_sub (w_widen (kk (c + 1) (Nat.le_refl _) _ ⟨_, _, _, _, _, _, rfl, dAB3, dAO1, dBO3, O1, j9⟩) (by dsimp only [rm_L_ofPot, rm_X10_ofPot, rm_X10_thrown]; omega) (by dsimp only [rm_L_ofPot, rm_X10_ofPot, rm_X10_thrown]; omega)) (by repeat' first | exact trivial | rfl | constructor)
    · try simp only [cg_ge, cg_gt, cl_gt, cl_le, cl_eq, cl_lt, cl_ge, bi_eq0, bi_ne0, bI_eq0, Decidable.not_not, Bool.not_eq_false] at c_1398
      first | refine w_aload_n C dL_law_1401 (by rfl) ?_ | refine w_aload_nN C dL_law_1401 (by rfl) ?_
      refine w_iconst (v := 0) C dL_law_1402 (by rfl) ?_
      refine w_laldn (j := 0) C (hj_r (hj_r O1.1 (dBO3 _ _ O1.1)) (D2.mk9 dAB3 dAO1 _ _ (hj_r O1.1 (dBO3 _ _ O1.1)))) (by decide) (by decide) dL_law_1403 ?_
      refine w_iload C dL_law_1404 (by rfl) ?_
      refine w_i2l C dL_law_1406 ?_
      refine w_lcmp C dL_law_1407 ?_
      refine w_if_eq (tgt := 1413) C dL_law_1408 (by rfl) (fun c_1408 => ?_) (fun c_1408 => ?_)
      · try simp only [cg_ge, cg_gt, cl_gt, cl_le, cl_eq, cl_lt, cl_ge, bi_eq0, bi_ne0, bI_eq0, Decidable.not_not, Bool.not_eq_false] at c_1408
        refine w_goto (tgt := 2002) C dL_law_1413 (by rfl) ?_
        exact w_sub (w_widen (kk (c + 1) (Nat.le_refl _) _ ⟨_, _, _, _, _, _, rfl, dAB3, dAO1, dBO3, O1, j9⟩) (by dsimp only [rm_L_ofPot, rm_X10_ofPot, rm_X10_thrown]; omega) (by dsimp only [rm_L_ofPot, rm_X10_ofPot, rm_X10_thrown]; omega)) (by repeat' first | exact trivial | rfl | constructor)
      · exact absurd (by rw [e9 c_1398]; exact lg_cmp_self _) c_1408
  · exact absurd e3 c_1391

set_option maxHeartbeats 4000000 in
set_option maxRecDepth 100000 in
theorem lr_water {K : KC} (C : CX K RL cL_law 9 room_1) (hl : (Kl K).stackTraces = false) (hN : NCs (Ks K)) {n : Nat × Nat} (n1 : n.1 + 1000 ≤ 757560) (n2 : n.2 + 5000 ≤ 6823425) {b L y0 m0 o3 o4 kl wk c : Nat} {xs : Nat → Int32} (X : LX K b L xs) {i : Int32} (v : ∀ k : Int32, 0 ≤ k.toInt → k.toInt ≤ 5 → vp_in (i + k) L) (hc5 : c ≤ 519) {h : HM} (J : LJ (Kt K) y0 m0 o3 o4 kl wk c h)
    (kk : ∀ (c' : Nat), c' ≤ c + 1 → ∀ h' : HM, LJ (Kt K) y0 m0 o3 o4 kl wk c' h' → WW K (n.1 + 1000, n.2 + 5000) 2002 [some (.ref b), some (.ref y0), some (.ref m0), some (.ref o3), some (.ref o4), some (.int i), none, none, none] [] h') : WW K n 1416 [some (.ref b), some (.ref y0), some (.ref m0), some (.ref o3), some (.ref o4), some (.int i), none, none, none] [] h := by
  obtain ⟨hA, hB, hO, fL, fD, th, rfl, dAB, dAO, dBO, O, j9⟩ := J
  obtain ⟨fs1, hy⟩ := j9.y
  obtain ⟨fs2, hm⟩ := j9.m
  first | refine w_aload_n C dL_law_1416 (by rfl) ?_ | refine w_aload_nN C dL_law_1416 (by rfl) ?_
  first | refine w_aload_n C dL_law_1417 (by rfl) ?_ | refine w_aload_nN C dL_law_1417 (by rfl) ?_
  refine w_iload C dL_law_1418 (by rfl) ?_
  refine w_iconst (v := 1) C dL_law_1420 (by rfl) ?_
  refine w_iadd C dL_law_1421 ?_
  refine w_sld C X (v 1 (by decide) (by decide)) dL_law_1422 ?_
  first | refine w_aload C dL_law_1423 (by rfl) ?_ | refine w_aloadN C dL_law_1423 (by rfl) ?_
  obtain ⟨p9, px9, q9, hM1, hM2, hcd, j1, j2⟩ := jt_water (D := KD K) hl j9 (i := (xs (i + 1).toNatClampNeg))
  refine w_SWI C hN (m_L_water hl (D2.mk9 dAB dAO) hy (hj_r O.2 (dBO _ _ O.2)) hM1 hcd) gw_896 gw_897 gw_50 gw_898 (show okY yL_water 3 = true by decide +kernel) (by rfl) ⟨by dsimp only [rm_L_water, rm_X10_water, rm_X10_thrown, room_1]; omega, by dsimp only [rm_L_water, rm_X10_water, rm_X10_thrown, room_1]; omega⟩ (by rfl) rfl dL_law_1425 (fun k9 hw aw => ?_)
  obtain ⟨hA1, hO1, fL1, fD1, e1, dAB1, dAO1, dBO1, O1, aw2⟩ := la_D dBO O aw
  subst e1
  refine w_istore_6 C dL_law_1428 (by first | trivial | rfl) ?_
  first | refine w_aload_n C dL_law_1430 (by rfl) ?_ | refine w_aload_nN C dL_law_1430 (by rfl) ?_
  first | refine w_aload_n C dL_law_1431 (by rfl) ?_ | refine w_aload_nN C dL_law_1431 (by rfl) ?_
  refine w_iload C dL_law_1432 (by rfl) ?_
  refine w_iconst (v := 1) C dL_law_1434 (by rfl) ?_
  refine w_iadd C dL_law_1435 ?_
  refine w_sld C X (v 1 (by decide) (by decide)) dL_law_1436 ?_
  refine cl_L_179 C (CT.fBD dAB1 dAO1 dBO1 hM2) (hj_r (hj_l hm) (dAB1 _ _ hm)) (by rfl) (by rfl) ⟨by dsimp only [rm_L_water, rm_X10_water, rm_X10_thrown, room_1]; omega, by dsimp only [rm_L_water, rm_X10_water, rm_X10_thrown, room_1]; omega⟩ (by rfl) dL_law_1437 (fun z2 h1 p1 => ?_)
  obtain ⟨hB1, hq, e1, dAB2, dBO2⟩ := p1
  subst e1
  obtain ⟨j9, e9⟩ := la_J (by decide +kernel) j1 j2 aw2 hq
  have e9 : k9 = 0 → fD1 0 = z2 := e9
  obtain ⟨fs2, hm⟩ := j9.m
  refine w_dstore_7 C dL_law_1440 (by first | trivial | rfl) ?_
  first | refine w_aload_n C dL_law_1442 (by rfl) ?_ | refine w_aload_nN C dL_law_1442 (by rfl) ?_
  refine cl_L_110 C (CT.fBI dAB2 dAO1 dBO2 (jt_thrown hl j9)) (hj_r (hj_l hm) (dAB2 _ _ hm)) (by rfl) (by rfl) ⟨by dsimp only [rm_L_water, rm_X10_water, rm_X10_thrown, room_1]; omega, by dsimp only [rm_L_water, rm_X10_water, rm_X10_thrown, room_1]; omega⟩ (by rfl) dL_law_1443 (fun z3 h2 p2 => ?_)
  obtain ⟨hB2, ⟨e1, e3⟩, e2, dAB3, dBO3⟩ := p2
  subst e1
  subst e2
  refine w_iload C dL_law_1446 (by rfl) ?_
  refine w_icmp_eq (tgt := 1453) C dL_law_1448 (by rfl) (fun c_1448 => ?_) (fun c_1448 => ?_)
  · refine w_iload C dL_law_1453 (by rfl) ?_
    refine w_if_ne (tgt := 1490) C dL_law_1455 (by rfl) (fun c_1455 => ?_) (fun c_1455 => ?_)
    · try simp only [cg_ge, cg_gt, cl_gt, cl_le, cl_eq, cl_lt, cl_ge, bi_eq0, bi_ne0, bI_eq0, Decidable.not_not, Bool.not_eq_false] at c_1455
      refine w_goto (tgt := 2002) C dL_law_1490 (by rfl) ?_
      exact w_sub (w_widen (kk (c + 1) (Nat.le_refl _) _ ⟨_, _, _, _, _, _, rfl, dAB3, dAO1, dBO3, O1, j9⟩) (by dsimp only [rm_L_water, rm_X10_water, rm_X10_thrown]; omega) (by dsimp only [rm_L_water, rm_X10_water, rm_X10_thrown]; omega)) (by repeat' first | exact trivial | rfl | constructor)
    · try simp only [cg_ge, cg_gt, cl_gt, cl_le, cl_eq, cl_lt, cl_ge, bi_eq0, bi_ne0, bI_eq0, Decidable.not_not, Bool.not_eq_false] at c_1455
      first | refine w_aload C dL_law_1458 (by rfl) ?_ | refine w_aloadN C dL_law_1458 (by rfl) ?_
      refine w_iconst (v := 0) C dL_law_1460 (by rfl) ?_
      refine w_daldn (j := 0) C (hj_r (hj_r O1.2 (dBO3 _ _ O1.2)) (D2.mk9 dAB3 dAO1 _ _ (hj_r O1.2 (dBO3 _ _ O1.2)))) (by decide) (by decide) dL_law_1461 ?_
      refine w_dload C dL_law_1462 (by rfl) ?_
      refine w_dcmp C dL_law_1464 ?_
      refine w_if_eq (tgt := 1490) C dL_law_1465 (by rfl) (fun c_1465 => ?_) (fun c_1465 => ?_)
      · try simp only [cg_ge, cg_gt, cl_gt, cl_le, cl_eq, cl_lt, cl_ge, bi_eq0, bi_ne0, bI_eq0, Decidable.not_not, Bool.not_eq_false] at c_1465
        refine w_goto (tgt := 2002) C dL_law_1490 (by rfl) ?_
        exact w_sub (w_widen (kk (c + 1) (Nat.le_refl _) _ ⟨_, _, _, _, _, _, rfl, dAB3, dAO1, dBO3, O1, j9⟩) (by dsimp only [rm_L_water, rm_X10_water, rm_X10_thrown]; omega) (by dsimp only [rm_L_water, rm_X10_water, rm_X10_thrown]; omega)) (by repeat' first | exact trivial | rfl | constructor)
      · try simp only [cg_ge, cg_gt, cl_gt, cl_le, cl_eq, cl_lt, cl_ge, bi_eq0, bi_ne0, bI_eq0, Decidable.not_not, Bool.not_eq_false] at c_1465
        first | refine w_aload C dL_law_1468 (by rfl) ?_ | refine w_aloadN C dL_law_1468 (by rfl) ?_
        refine w_iconst (v := 0) C dL_law_1470 (by rfl) ?_
        refine w_daldn (j := 0) C (hj_r (hj_r O1.2 (dBO3 _ _ O1.2)) (D2.mk9 dAB3 dAO1 _ _ (hj_r O1.2 (dBO3 _ _ O1.2)))) (by decide) (by decide) dL_law_1471 ?_
        first | refine w_aload C dL_law_1472 (by rfl) ?_ | refine w_aloadN C dL_law_1472 (by rfl) ?_
        refine w_iconst (v := 0) C dL_law_1474 (by rfl) ?_
        refine w_daldn (j := 0) C (hj_r (hj_r O1.2 (dBO3 _ _ O1.2)) (D2.mk9 dAB3 dAO1 _ _ (hj_r O1.2 (dBO3 _ _ O1.2)))) (by decide) (by decide) dL_law_1475 ?_
        refine w_dcmp C dL_law_1476 ?_
        refine w_if_eq (tgt := 1488) C dL_law_1477 (by rfl) (fun c_1477 => ?_) (fun c_1477 => ?_)
        · exact dd_no1 (e9 c_1455) c_1465 c_1477
        · try simp only [cg_ge, cg_gt, cl_gt, cl_le, cl_eq, cl_lt, cl_ge, bi_eq0, bi_ne0, bI_eq0, Decidable.not_not, Bool.not_eq_false] at c_1477
          refine w_dload C dL_law_1480 (by rfl) ?_
          refine w_dload C dL_law_1482 (by rfl) ?_
          refine w_dcmp C dL_law_1484 ?_
          refine w_if_ne (tgt := 1490) C dL_law_1485 (by rfl) (fun c_1485 => ?_) (fun c_1485 => ?_)
          · try simp only [cg_ge, cg_gt, cl_gt, cl_le, cl_eq, cl_lt, cl_ge, bi_eq0, bi_ne0, bI_eq0, Decidable.not_not, Bool.not_eq_false] at c_1485
            refine w_goto (tgt := 2002) C dL_law_1490 (by rfl) ?_
            exact w_sub (w_widen (kk (c + 1) (Nat.le_refl _) _ ⟨_, _, _, _, _, _, rfl, dAB3, dAO1, dBO3, O1, j9⟩) (by dsimp only [rm_L_water, rm_X10_water, rm_X10_thrown]; omega) (by dsimp only [rm_L_water, rm_X10_water, rm_X10_thrown]; omega)) (by repeat' first | exact trivial | rfl | constructor)
          · exact dd_no2 (e9 c_1455) c_1465 c_1485
  · exact absurd e3 c_1448
