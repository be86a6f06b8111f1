/-! THE LAW'S ROADS, MORE -/
set_option maxHeartbeats 4000000 in
set_option maxRecDepth 100000 in
theorem lr_ofGlaze {K : KC} (C : CX K RL cL_law 9 room_1) (hl : (Kl K).stackTraces = false) (hN : NCs (Ks K)) {n : Nat × Nat} (n1 : n.1 + 1000 ≤ 757560) (n2 : n.2 + 5000 ≤ 6823425) {b L y0 m0 o3 o4 kl wk c : Nat} {xs : Nat → Int32} (X : LX K b L xs) {i : Int32} (v : ∀ k : Int32, 0 ≤ k.toInt → k.toInt ≤ 5 → vp_in (i + k) L) (hc5 : c ≤ 519) {h : HM} (J : LJ (Kt K) y0 m0 o3 o4 kl wk c h)
    (kk : ∀ (c' : Nat), c' ≤ c + 1 → ∀ h' : HM, LJ (Kt K) y0 m0 o3 o4 kl wk c' h' → WW K (n.1 + 1000, n.2 + 5000) 2002 [some (.ref b), some (.ref y0), some (.ref m0), some (.ref o3), some (.ref o4), some (.int i), none, none, none] [] h') : WW K n 1493 [some (.ref b), some (.ref y0), some (.ref m0), some (.ref o3), some (.ref o4), some (.int i), none, none, none] [] h := by
  obtain ⟨hA, hB, hO, fL, fD, th, rfl, dAB, dAO, dBO, O, j9⟩ := J
  obtain ⟨fs1, hy⟩ := j9.y
  obtain ⟨fs2, hm⟩ := j9.m
  first | refine w_aload_n C dL_law_1493 (by rfl) ?_ | refine w_aload_nN C dL_law_1493 (by rfl) ?_
  first | refine w_aload_n C dL_law_1494 (by rfl) ?_ | refine w_aload_nN C dL_law_1494 (by rfl) ?_
  refine w_iload C dL_law_1495 (by rfl) ?_
  refine w_iconst (v := 1) C dL_law_1497 (by rfl) ?_
  refine w_iadd C dL_law_1498 ?_
  refine w_sld C X (v 1 (by decide) (by decide)) dL_law_1499 ?_
  first | refine w_aload_n C dL_law_1500 (by rfl) ?_ | refine w_aload_nN C dL_law_1500 (by rfl) ?_
  refine w_iload C dL_law_1501 (by rfl) ?_
  refine w_iconst (v := 2) C dL_law_1503 (by rfl) ?_
  refine w_iadd C dL_law_1504 ?_
  refine w_sld C X (v 2 (by decide) (by decide)) dL_law_1505 ?_
  first | refine w_aload C dL_law_1506 (by rfl) ?_ | refine w_aloadN C dL_law_1506 (by rfl) ?_
  obtain ⟨p9, px9, q9, hM1, hM2, hcd, j1, j2⟩ := jt_ofGlaze (D := KD K) hl j9 (i := (xs (i + 1).toNatClampNeg)) (what := (xs (i + 2).toNatClampNeg))
  refine w_SWI C hN (m_L_ofGlaze hl (D2.mk9 dAB dAO) hy (hj_r O.2 (dBO _ _ O.2)) hM1 hcd) gw_900 gw_901 gw_50 gw_902 (show okY yL_ofGlaze 4 = true by decide +kernel) (by rfl) ⟨by dsimp only [rm_L_ofGlaze, rm_X10_ofGlaze, rm_X10_thrown, room_1]; omega, by dsimp only [rm_L_ofGlaze, rm_X10_ofGlaze, rm_X10_thrown, room_1]; omega⟩ (by rfl) rfl dL_law_1508 (fun k9 hw aw => ?_)
  obtain ⟨hA1, hO1, fL1, fD1, e1, dAB1, dAO1, dBO1, O1, aw2⟩ := la_D dBO O aw
  subst e1
  refine w_istore_6 C dL_law_1511 (by first | trivial | rfl) ?_
  first | refine w_aload_n C dL_law_1513 (by rfl) ?_ | refine w_aload_nN C dL_law_1513 (by rfl) ?_
  first | refine w_aload_n C dL_law_1514 (by rfl) ?_ | refine w_aload_nN C dL_law_1514 (by rfl) ?_
  refine w_iload C dL_law_1515 (by rfl) ?_
  refine w_iconst (v := 1) C dL_law_1517 (by rfl) ?_
  refine w_iadd C dL_law_1518 ?_
  refine w_sld C X (v 1 (by decide) (by decide)) dL_law_1519 ?_
  first | refine w_aload_n C dL_law_1520 (by rfl) ?_ | refine w_aload_nN C dL_law_1520 (by rfl) ?_
  refine w_iload C dL_law_1521 (by rfl) ?_
  refine w_iconst (v := 2) C dL_law_1523 (by rfl) ?_
  refine w_iadd C dL_law_1524 ?_
  refine w_sld C X (v 2 (by decide) (by decide)) dL_law_1525 ?_
  refine cl_L_183 C (CT.fBD dAB1 dAO1 dBO1 hM2) (hj_r (hj_l hm) (dAB1 _ _ hm)) (by rfl) (by rfl) ⟨by dsimp only [rm_L_ofGlaze, rm_X10_ofGlaze, rm_X10_thrown, room_1]; omega, by dsimp only [rm_L_ofGlaze, rm_X10_ofGlaze, rm_X10_thrown, room_1]; omega⟩ (by rfl) dL_law_1526 (fun z2 h1 p1 => ?_)
  obtain ⟨hB1, hq, e1, dAB2, dBO2⟩ := p1
  subst e1
  obtain ⟨j9, e9⟩ := la_J (by decide +kernel) j1 j2 aw2 hq
  have e9 : k9 = 0 → fD1 0 = z2 := e9
  obtain ⟨fs2, hm⟩ := j9.m
  refine w_dstore_7 C dL_law_1529 (by first | trivial | rfl) ?_
  first | refine w_aload_n C dL_law_1531 (by rfl) ?_ | refine w_aload_nN C dL_law_1531 (by rfl) ?_
  refine cl_L_110 C (CT.fBI dAB2 dAO1 dBO2 (jt_thrown hl j9)) (hj_r (hj_l hm) (dAB2 _ _ hm)) (by rfl) (by rfl) ⟨by dsimp only [rm_L_ofGlaze, rm_X10_ofGlaze, rm_X10_thrown, room_1]; omega, by dsimp only [rm_L_ofGlaze, rm_X10_ofGlaze, rm_X10_thrown, room_1]; omega⟩ (by rfl) dL_law_1532 (fun z3 h2 p2 => ?_)
  obtain ⟨hB2, ⟨e1, e3⟩, e2, dAB3, dBO3⟩ := p2
  subst e1
  subst e2
  refine w_iload C dL_law_1535 (by rfl) ?_
  refine w_icmp_eq (tgt := 1542) C dL_law_1537 (by rfl) (fun c_1537 => ?_) (fun c_1537 => ?_)
  · refine w_iload C dL_law_1542 (by rfl) ?_
    refine w_if_ne (tgt := 1579) C dL_law_1544 (by rfl) (fun c_1544 => ?_) (fun c_1544 => ?_)
    · try simp only [cg_ge, cg_gt, cl_gt, cl_le, cl_eq, cl_lt, cl_ge, bi_eq0, bi_ne0, bI_eq0, Decidable.not_not, Bool.not_eq_false] at c_1544
      refine w_goto (tgt := 2002) C dL_law_1579 (by rfl) ?_
      exact w_sub (w_widen (kk (c + 1) (Nat.le_refl _) _ ⟨_, _, _, _, _, _, rfl, dAB3, dAO1, dBO3, O1, j9⟩) (by dsimp only [rm_L_ofGlaze, rm_X10_ofGlaze, rm_X10_thrown]; omega) (by dsimp only [rm_L_ofGlaze, rm_X10_ofGlaze, rm_X10_thrown]; omega)) (by repeat' first | exact trivial | rfl | constructor)
    · try simp only [cg_ge, cg_gt, cl_gt, cl_le, cl_eq, cl_lt, cl_ge, bi_eq0, bi_ne0, bI_eq0, Decidable.not_not, Bool.not_eq_false] at c_1544
      first | refine w_aload C dL_law_1547 (by rfl) ?_ | refine w_aloadN C dL_law_1547 (by rfl) ?_
      refine w_iconst (v := 0) C dL_law_1549 (by rfl) ?_
      refine w_daldn (j := 0) C (hj_r (hj_r O1.2 (dBO3 _ _ O1.2)) (D2.mk9 dAB3 dAO1 _ _ (hj_r O1.2 (dBO3 _ _ O1.2)))) (by decide) (by decide) dL_law_1550 ?_
      refine w_dload C dL_law_1551 (by rfl) ?_
      refine w_dcmp C dL_law_1553 ?_
      refine w_if_eq (tgt := 1579) C dL_law_1554 (by rfl) (fun c_1554 => ?_) (fun c_1554 => ?_)
      · try simp only [cg_ge, cg_gt, cl_gt, cl_le, cl_eq, cl_lt, cl_ge, bi_eq0, bi_ne0, bI_eq0, Decidable.not_not, Bool.not_eq_false] at c_1554
        refine w_goto (tgt := 2002) C dL_law_1579 (by rfl) ?_
        exact w_sub (w_widen (kk (c + 1) (Nat.le_refl _) _ ⟨_, _, _, _, _, _, rfl, dAB3, dAO1, dBO3, O1, j9⟩) (by dsimp only [rm_L_ofGlaze, rm_X10_ofGlaze, rm_X10_thrown]; omega) (by dsimp only [rm_L_ofGlaze, rm_X10_ofGlaze, rm_X10_thrown]; omega)) (by repeat' first | exact trivial | rfl | constructor)
      · try simp only [cg_ge, cg_gt, cl_gt, cl_le, cl_eq, cl_lt, cl_ge, bi_eq0, bi_ne0, bI_eq0, Decidable.not_not, Bool.not_eq_false] at c_1554
        first | refine w_aload C dL_law_1557 (by rfl) ?_ | refine w_aloadN C dL_law_1557 (by rfl) ?_
        refine w_iconst (v := 0) C dL_law_1559 (by rfl) ?_
        refine w_daldn (j := 0) C (hj_r (hj_r O1.2 (dBO3 _ _ O1.2)) (D2.mk9 dAB3 dAO1 _ _ (hj_r O1.2 (dBO3 _ _ O1.2)))) (by decide) (by decide) dL_law_1560 ?_
        first | refine w_aload C dL_law_1561 (by rfl) ?_ | refine w_aloadN C dL_law_1561 (by rfl) ?_
        refine w_iconst (v := 0) C dL_law_1563 (by rfl) ?_
        refine w_daldn (j := 0) C (hj_r (hj_r O1.2 (dBO3 _ _ O1.2)) (D2.mk9 dAB3 dAO1 _ _ (hj_r O1.2 (dBO3 _ _ O1.2)))) (by decide) (by decide) dL_law_1564 ?_
        refine w_dcmp C dL_law_1565 ?_
        refine w_if_eq (tgt := 1577) C dL_law_1566 (by rfl) (fun c_1566 => ?_) (fun c_1566 => ?_)
        · exact dd_no1 (e9 c_1544) c_1554 c_1566
        · try simp only [cg_ge, cg_gt, cl_gt, cl_le, cl_eq, cl_lt, cl_ge, bi_eq0, bi_ne0, bI_eq0, Decidable.not_not, Bool.not_eq_false] at c_1566
          refine w_dload C dL_law_1569 (by rfl) ?_
          refine w_dload C dL_law_1571 (by rfl) ?_
          refine w_dcmp C dL_law_1573 ?_
          refine w_if_ne (tgt := 1579) C dL_law_1574 (by rfl) (fun c_1574 => ?_) (fun c_1574 => ?_)
          · try simp only [cg_ge, cg_gt, cl_gt, cl_le, cl_eq, cl_lt, cl_ge, bi_eq0, bi_ne0, bI_eq0, Decidable.not_not, Bool.not_eq_false] at c_1574
            refine w_goto (tgt := 2002) C dL_law_1579 (by rfl) ?_
            exact w_sub (w_widen (kk (c + 1) (Nat.le_refl _) _ ⟨_, _, _, _, _, _, rfl, dAB3, dAO1, dBO3, O1, j9⟩) (by dsimp only [rm_L_ofGlaze, rm_X10_ofGlaze, rm_X10_thrown]; omega) (by dsimp only [rm_L_ofGlaze, rm_X10_ofGlaze, rm_X10_thrown]; omega)) (by repeat' first | exact trivial | rfl | constructor)
          · exact dd_no2 (e9 c_1544) c_1554 c_1574
  · exact absurd e3 c_1537

set_option maxHeartbeats 4000000 in
set_option maxRecDepth 100000 in
theorem lr_kiln {K : KC} (C : CX K RL cL_law 9 room_1) (hl : (Kl K).stackTraces = false) (hN : NCs (Ks K)) {n : Nat × Nat} (n1 : n.1 + 1000 ≤ 757560) (n2 : n.2 + 5000 ≤ 6823425) {b L y0 m0 o3 o4 kl wk c : Nat} {xs : Nat → Int32} (X : LX K b L xs) {i : Int32} (v : ∀ k : Int32, 0 ≤ k.toInt → k.toInt ≤ 5 → vp_in (i + k) L) (hc5 : c ≤ 519) {h : HM} (J : LJ (Kt K) y0 m0 o3 o4 kl wk c h)
    (kk : ∀ (c' : Nat), c' ≤ c + 1 → ∀ h' : HM, LJ (Kt K) y0 m0 o3 o4 kl wk c' h' → WW K (n.1 + 1000, n.2 + 5000) 2002 [some (.ref b), some (.ref y0), some (.ref m0), some (.ref o3), some (.ref o4), some (.int i), none, none, none] [] h') : WW K n 1582 [some (.ref b), some (.ref y0), some (.ref m0), some (.ref o3), some (.ref o4), some (.int i), none, none, none] [] h := by
  obtain ⟨hA, hB, hO, fL, fD, th, rfl, dAB, dAO, dBO, O, j9⟩ := J
  obtain ⟨fs1, hy⟩ := j9.y
  obtain ⟨fs2, hm⟩ := j9.m
  first | refine w_aload_n C dL_law_1582 (by rfl) ?_ | refine w_aload_nN C dL_law_1582 (by rfl) ?_
  first | refine w_aload_n C dL_law_1583 (by rfl) ?_ | refine w_aload_nN C dL_law_1583 (by rfl) ?_
  refine w_iload C dL_law_1584 (by rfl) ?_
  refine w_iconst (v := 1) C dL_law_1586 (by rfl) ?_
  refine w_iadd C dL_law_1587 ?_
  refine w_sld C X (v 1 (by decide) (by decide)) dL_law_1588 ?_
  first | refine w_aload C dL_law_1589 (by rfl) ?_ | refine w_aloadN C dL_law_1589 (by rfl) ?_
  obtain ⟨p9, px9, q9, hM1, hM2, hcd, j1, j2⟩ := jt_kiln (D := KD K) hl j9 (what := (xs (i + 1).toNatClampNeg))
  refine w_SWI C hN (m_L_kiln hl (D2.mk9 dAB dAO) hy (hj_r O.2 (dBO _ _ O.2)) hM1 hcd) gw_904 gw_905 gw_50 gw_906 (show okY yL_kiln 3 = true by decide +kernel) (by rfl) ⟨by dsimp only [rm_L_kiln, rm_X10_kiln, rm_X10_thrown, room_1]; omega, by dsimp only [rm_L_kiln, rm_X10_kiln, rm_X10_thrown, room_1]; omega⟩ (by rfl) rfl dL_law_1591 (fun k9 hw aw => ?_)
  obtain ⟨hA1, hO1, fL1, fD1, e1, dAB1, dAO1, dBO1, O1, aw2⟩ := la_D dBO O aw
  subst e1
  refine w_istore_6 C dL_law_1594 (by first | trivial | rfl) ?_
  first | refine w_aload_n C dL_law_1596 (by rfl) ?_ | refine w_aload_nN C dL_law_1596 (by rfl) ?_
  first | refine w_aload_n C dL_law_1597 (by rfl) ?_ | refine w_aload_nN C dL_law_1597 (by rfl) ?_
  refine w_iload C dL_law_1598 (by rfl) ?_
  refine w_iconst (v := 1) C dL_law_1600 (by rfl) ?_
  refine w_iadd C dL_law_1601 ?_
  refine w_sld C X (v 1 (by decide) (by decide)) dL_law_1602 ?_
  refine cl_L_186 C (CT.fBD dAB1 dAO1 dBO1 hM2) (hj_r (hj_l hm) (dAB1 _ _ hm)) (by rfl) (by rfl) ⟨by dsimp only [rm_L_kiln, rm_X10_kiln, rm_X10_thrown, room_1]; omega, by dsimp only [rm_L_kiln, rm_X10_kiln, rm_X10_thrown, room_1]; omega⟩ (by rfl) dL_law_1603 (fun z2 h1 p1 => ?_)
  obtain ⟨hB1, hq, e1, dAB2, dBO2⟩ := p1
  subst e1
  obtain ⟨j9, e9⟩ := la_J (by decide +kernel) j1 j2 aw2 hq
  have e9 : k9 = 0 → fD1 0 = z2 := e9
  obtain ⟨fs2, hm⟩ := j9.m
  refine w_dstore_7 C dL_law_1606 (by first | trivial | rfl) ?_
  first | refine w_aload_n C dL_law_1608 (by rfl) ?_ | refine w_aload_nN C dL_law_1608 (by rfl) ?_
  refine cl_L_110 C (CT.fBI dAB2 dAO1 dBO2 (jt_thrown hl j9)) (hj_r (hj_l hm) (dAB2 _ _ hm)) (by rfl) (by rfl) ⟨by dsimp only [rm_L_kiln, rm_X10_kiln, rm_X10_thrown, room_1]; omega, by dsimp only [rm_L_kiln, rm_X10_kiln, rm_X10_thrown, room_1]; omega⟩ (by rfl) dL_law_1609 (fun z3 h2 p2 => ?_)
  obtain ⟨hB2, ⟨e1, e3⟩, e2, dAB3, dBO3⟩ := p2
  subst e1
  subst e2
  refine w_iload C dL_law_1612 (by rfl) ?_
  refine w_icmp_eq (tgt := 1619) C dL_law_1614 (by rfl) (fun c_1614 => ?_) (fun c_1614 => ?_)
  · refine w_iload C dL_law_1619 (by rfl) ?_
    refine w_if_ne (tgt := 1656) C dL_law_1621 (by rfl) (fun c_1621 => ?_) (fun c_1621 => ?_)
    · try simp only [cg_ge, cg_gt, cl_gt, cl_le, cl_eq, cl_lt, cl_ge, bi_eq0, bi_ne0, bI_eq0, Decidable.not_not, Bool.not_eq_false] at c_1621
      refine w_goto (tgt := 2002) C dL_law_1656 (by rfl) ?_
      exact w_sub (w_widen (kk (c + 1) (Nat.le_refl _) _ ⟨_, _, _, _, _, _, rfl, dAB3, dAO1, dBO3, O1, j9⟩) (by dsimp only [rm_L_kiln, rm_X10_kiln, rm_X10_thrown]; omega) (by dsimp only [rm_L_kiln, rm_X10_kiln, rm_X10_thrown]; omega)) (by repeat' first | exact trivial | rfl | constructor)
    · try simp only [cg_ge, cg_gt, cl_gt, cl_le, cl_eq, cl_lt, cl_ge, bi_eq0, bi_ne0, bI_eq0, Decidable.not_not, Bool.not_eq_false] at c_1621
      first | refine w_aload C dL_law_1624 (by rfl) ?_ | refine w_aloadN C dL_law_1624 (by rfl) ?_
      refine w_iconst (v := 0) C dL_law_1626 (by rfl) ?_
      refine w_daldn (j := 0) C (hj_r (hj_r O1.2 (dBO3 _ _ O1.2)) (D2.mk9 dAB3 dAO1 _ _ (hj_r O1.2 (dBO3 _ _ O1.2)))) (by decide) (by decide) dL_law_1627 ?_
      refine w_dload C dL_law_1628 (by rfl) ?_
      refine w_dcmp C dL_law_1630 ?_
      refine w_if_eq (tgt := 1656) C dL_law_1631 (by rfl) (fun c_1631 => ?_) (fun c_1631 => ?_)
      · try simp only [cg_ge, cg_gt, cl_gt, cl_le, cl_eq, cl_lt, cl_ge, bi_eq0, bi_ne0, bI_eq0, Decidable.not_not, Bool.not_eq_false] at c_1631
        refine w_goto (tgt := 2002) C dL_law_1656 (by rfl) ?_
        exact w_sub (w_widen (kk (c + 1) (Nat.le_refl _) _ ⟨_, _, _, _, _, _, rfl, dAB3, dAO1, dBO3, O1, j9⟩) (by dsimp only [rm_L_kiln, rm_X10_kiln, rm_X10_thrown]; omega) (by dsimp only [rm_L_kiln, rm_X10_kiln, rm_X10_thrown]; omega)) (by repeat' first | exact trivial | rfl | constructor)
      · try simp only [cg_ge, cg_gt, cl_gt, cl_le, cl_eq, cl_lt, cl_ge, bi_eq0, bi_ne0, bI_eq0, Decidable.not_not, Bool.not_eq_false] at c_1631
        first | refine w_aload C dL_law_1634 (by rfl) ?_ | refine w_aloadN C dL_law_1634 (by rfl) ?_
        refine w_iconst (v := 0) C dL_law_1636 (by rfl) ?_
        refine w_daldn (j := 0) C (hj_r (hj_r O1.2 (dBO3 _ _ O1.2)) (D2.mk9 dAB3 dAO1 _ _ (hj_r O1.2 (dBO3 _ _ O1.2)))) (by decide) (by decide) dL_law_1637 ?_
        first | refine w_aload C dL_law_1638 (by rfl) ?_ | refine w_aloadN C dL_law_1638 (by rfl) ?_
        refine w_iconst (v := 0) C dL_law_1640 (by rfl) ?_
        refine w_daldn (j := 0) C (hj_r (hj_r O1.2 (dBO3 _ _ O1.2)) (D2.mk9 dAB3 dAO1 _ _ (hj_r O1.2 (dBO3 _ _ O1.2)))) (by decide) (by decide) dL_law_1641 ?_
        refine w_dcmp C dL_law_1642 ?_
        refine w_if_eq (tgt := 1654) C dL_law_1643 (by rfl) (fun c_1643 => ?_) (fun c_1643 => ?_)
        · exact dd_no1 (e9 c_1621) c_1631 c_1643
        · try simp only [cg_ge, cg_gt, cl_gt, cl_le, cl_eq, cl_lt, cl_ge, bi_eq0, bi_ne0, bI_eq0, Decidable.not_not, Bool.not_eq_false] at c_1643
          refine w_dload C dL_law_1646 (by rfl) ?_
          refine w_dload C dL_law_1648 (by rfl) ?_
          refine w_dcmp C dL_law_1650 ?_
          refine w_if_ne (tgt := 1656) C dL_law_1651 (by rfl) (fun c_1651 => ?_) (fun c_1651 => ?_)
          · try simp only [cg_ge, cg_gt, cl_gt, cl_le, cl_eq, cl_lt, cl_ge, bi_eq0, bi_ne0, bI_eq0, Decidable.not_not, Bool.not_eq_false] at c_1651
            refine w_goto (tgt := 2002) C dL_law_1656 (by rfl) ?_
            exact w_sub (w_widen (kk (c + 1) (Nat.le_refl _) _ ⟨_, _, _, _, _, _, rfl, dAB3, dAO1, dBO3, O1, j9⟩) (by dsimp only [rm_L_kiln, rm_X10_kiln, rm_X10_thrown]; omega) (by dsimp only [rm_L_kiln, rm_X10_kiln, rm_X10_thrown]; omega)) (by repeat' first | exact trivial | rfl | constructor)
          · exact dd_no2 (e9 c_1621) c_1631 c_1651
  · exact absurd e3 c_1614

set_option maxHeartbeats 4000000 in
set_option maxRecDepth 100000 in
theorem lr_ofShelf {K : KC} (C : CX K RL cL_law 9 room_1) (hl : (Kl K).stackTraces = false) (hN : NCs (Ks K)) {n : Nat × Nat} (n1 : n.1 + 1000 ≤ 757560) (n2 : n.2 + 5000 ≤ 6823425) {b L y0 m0 o3 o4 kl wk c : Nat} {xs : Nat → Int32} (X : LX K b L xs) {i : Int32} (v : ∀ k : Int32, 0 ≤ k.toInt → k.toInt ≤ 5 → vp_in (i + k) L) (hc5 : c ≤ 519) {h : HM} (J : LJ (Kt K) y0 m0 o3 o4 kl wk c h)
    (kk : ∀ (c' : Nat), c' ≤ c + 1 → ∀ h' : HM, LJ (Kt K) y0 m0 o3 o4 kl wk c' h' → WW K (n.1 + 1000, n.2 + 5000) 2002 [some (.ref b), some (.ref y0), some (.ref m0), some (.ref o3), some (.ref o4), some (.int i), none, none, none] [] h') : WW K n 1659 [some (.ref b), some (.ref y0), some (.ref m0), some (.ref o3), some (.ref o4), some (.int i), none, none, none] [] h := by
  obtain ⟨hA, hB, hO, fL, fD, th, rfl, dAB, dAO, dBO, O, j9⟩ := J
  obtain ⟨fs1, hy⟩ := j9.y
  obtain ⟨fs2, hm⟩ := j9.m
  first | refine w_aload_n C dL_law_1659 (by rfl) ?_ | refine w_aload_nN C dL_law_1659 (by rfl) ?_
  first | refine w_aload_n C dL_law_1660 (by rfl) ?_ | refine w_aload_nN C dL_law_1660 (by rfl) ?_
  refine w_iload C dL_law_1661 (by rfl) ?_
  refine w_iconst (v := 1) C dL_law_1663 (by rfl) ?_
  refine w_iadd C dL_law_1664 ?_
  refine w_sld C X (v 1 (by decide) (by decide)) dL_law_1665 ?_
  first | refine w_aload_n C dL_law_1666 (by rfl) ?_ | refine w_aload_nN C dL_law_1666 (by rfl) ?_
  refine w_iload C dL_law_1667 (by rfl) ?_
  refine w_iconst (v := 2) C dL_law_1669 (by rfl) ?_
  refine w_iadd C dL_law_1670 ?_
  refine w_sld C X (v 2 (by decide) (by decide)) dL_law_1671 ?_
  first | refine w_aload_n C dL_law_1672 (by rfl) ?_ | refine w_aload_nN C dL_law_1672 (by rfl) ?_
  obtain ⟨p9, px9, q9, hM1, hM2, hcd, j1, j2⟩ := jt_ofShelf (D := KD K) hl j9 (i := (xs (i + 1).toNatClampNeg)) (what := (xs (i + 2).toNatClampNeg))
  refine w_SWI C hN (m_L_ofShelf hl (D2.mk9 dAB dAO) hy (hj_r O.1 (dBO _ _ O.1)) hM1 hcd) gw_908 gw_909 gw_50 gw_910 (show okY yL_ofShelf 4 = true by decide +kernel) (by rfl) ⟨by dsimp only [rm_L_ofShelf, rm_X10_ofShelf, rm_X10_thrown, room_1]; omega, by dsimp only [rm_L_ofShelf, rm_X10_ofShelf, rm_X10_thrown, room_1]; omega⟩ (by rfl) rfl dL_law_1673 (fun k9 hw aw => ?_)
  obtain ⟨hA1, hO1, fL1, fD1, e1, dAB1, dAO1, dBO1, O1, aw2⟩ := la_L (g := (fun v => v.toInt64)) dBO O aw
  subst e1
  refine w_istore_6 C dL_law_1676 (by first | trivial | rfl) ?_
  first | refine w_aload_n C dL_law_1678 (by rfl) ?_ | refine w_aload_nN C dL_law_1678 (by rfl) ?_
  first | refine w_aload_n C dL_law_1679 (by rfl) ?_ | refine w_aload_nN C dL_law_1679 (by rfl) ?_
  refine w_iload C dL_law_1680 (by rfl) ?_
  refine w_iconst (v := 1) C dL_law_1682 (by rfl) ?_
  refine w_iadd C dL_law_1683 ?_
  refine w_sld C X (v 1 (by decide) (by decide)) dL_law_1684 ?_
  first | refine w_aload_n C dL_law_1685 (by rfl) ?_ | refine w_aload_nN C dL_law_1685 (by rfl) ?_
  refine w_iload C dL_law_1686 (by rfl) ?_
  refine w_iconst (v := 2) C dL_law_1688 (by rfl) ?_
  refine w_iadd C dL_law_1689 ?_
  refine w_sld C X (v 2 (by decide) (by decide)) dL_law_1690 ?_
  refine cl_L_189 C (CT.fBI dAB1 dAO1 dBO1 hM2) (hj_r (hj_l hm) (dAB1 _ _ hm)) (by rfl) (by rfl) ⟨by dsimp only [rm_L_ofShelf, rm_X10_ofShelf, rm_X10_thrown, room_1]; omega, by dsimp only [rm_L_ofShelf, rm_X10_ofShelf, rm_X10_thrown, room_1]; omega⟩ (by rfl) dL_law_1691 (fun z2 h1 p1 => ?_)
  obtain ⟨hB1, hq, e1, dAB2, dBO2⟩ := p1
  subst e1
  obtain ⟨j9, e9⟩ := la_J (by decide +kernel) j1 j2 aw2 hq
  have e9 : k9 = 0 → fL1 0 = z2.toInt64 := e9
  obtain ⟨fs2, hm⟩ := j9.m
  refine w_istore_7 C dL_law_1694 (by first | trivial | rfl) ?_
  first | refine w_aload_n C dL_law_1696 (by rfl) ?_ | refine w_aload_nN C dL_law_1696 (by rfl) ?_
  refine cl_L_110 C (CT.fBI dAB2 dAO1 dBO2 (jt_thrown hl j9)) (hj_r (hj_l hm) (dAB2 _ _ hm)) (by rfl) (by rfl) ⟨by dsimp only [rm_L_ofShelf, rm_X10_ofShelf, rm_X10_thrown, room_1]; omega, by dsimp only [rm_L_ofShelf, rm_X10_ofShelf, rm_X10_thrown, room_1]; omega⟩ (by rfl) dL_law_1697 (fun z3 h2 p2 => ?_)
  obtain ⟨hB2, ⟨e1, e3⟩, e2, dAB3, dBO3⟩ := p2
  subst e1
  subst e2
  refine w_iload C dL_law_1700 (by rfl) ?_
  refine w_icmp_eq (tgt := 1707) C dL_law_1702 (by rfl) (fun c_1702 => ?_) (fun c_1702 => ?_)
  · refine w_iload C dL_law_1707 (by rfl) ?_
    refine w_if_ne (tgt := 1724) C dL_law_1709 (by rfl) (fun c_1709 => ?_) (fun c_1709 => ?_)
    · try simp only [cg_ge, cg_gt, cl_gt, cl_le, cl_eq, cl_lt, cl_ge, bi_eq0, bi_ne0, bI_eq0, Decidable.not_not, Bool.not_eq_false] at c_1709
      refine w_goto (tgt := 2002) C dL_law_1724 (by rfl) ?_
      exact w_sub (w_widen (kk (c + 1) (Nat.le_refl _) _ ⟨_, _, _, _, _, _, rfl, dAB3, dAO1, dBO3, O1, j9⟩) (by dsimp only [rm_L_ofShelf, rm_X10_ofShelf, rm_X10_thrown]; omega) (by dsimp only [rm_L_ofShelf, rm_X10_ofShelf, rm_X10_thrown]; omega)) (by repeat' first | exact trivial | rfl | constructor)
    · try simp only [cg_ge, cg_gt, cl_gt, cl_le, cl_eq, cl_lt, cl_ge, bi_eq0, bi_ne0, bI_eq0, Decidable.not_not, Bool.not_eq_false] at c_1709
      first | refine w_aload_n C dL_law_1712 (by rfl) ?_ | refine w_aload_nN C dL_law_1712 (by rfl) ?_
      refine w_iconst (v := 0) C dL_law_1713 (by rfl) ?_
      refine w_laldn (j := 0) C (hj_r (hj_r O1.1 (dBO3 _ _ O1.1)) (D2.mk9 dAB3 dAO1 _ _ (hj_r O1.1 (dBO3 _ _ O1.1)))) (by decide) (by decide) dL_law_1714 ?_
      refine w_iload C dL_law_1715 (by rfl) ?_
      refine w_i2l C dL_law_1717 ?_
      refine w_lcmp C dL_law_1718 ?_
      refine w_if_eq (tgt := 1724) C dL_law_1719 (by rfl) (fun c_1719 => ?_) (fun c_1719 => ?_)
      · try simp only [cg_ge, cg_gt, cl_gt, cl_le, cl_eq, cl_lt, cl_ge, bi_eq0, bi_ne0, bI_eq0, Decidable.not_not, Bool.not_eq_false] at c_1719
        refine w_goto (tgt := 2002) C dL_law_1724 (by rfl) ?_
        exact w_sub (w_widen (kk (c + 1) (Nat.le_refl _) _ ⟨_, _, _, _, _, _, rfl, dAB3, dAO1, dBO3, O1, j9⟩) (by dsimp only [rm_L_ofShelf, rm_X10_ofShelf, rm_X10_thrown]; omega) (by dsimp only [rm_L_ofShelf, rm_X10_ofShelf, rm_X10_thrown]; omega)) (by repeat' first | exact trivial | rfl | constructor)
      · exact absurd (by rw [e9 c_1709]; exact lg_cmp_self _) c_1719
  · exact absurd e3 c_1702

set_option maxHeartbeats 4000000 in
set_option maxRecDepth 100000 in
theorem lr_many {K : KC} (C : CX K RL cL_law 9 room_1) (hl : (Kl K).stackTraces = false) (hN : NCs (Ks K)) {n : Nat × Nat} (n1 : n.1 + 1000 ≤ 757560) (n2 : n.2 + 5000 ≤ 6823425) {b L y0 m0 o3 o4 kl wk c : Nat} {xs : Nat → Int32} (X : LX K b L xs) {i : Int32} (v : ∀ k : Int32, 0 ≤ k.toInt → k.toInt ≤ 5 → vp_in (i + k) L) (hc5 : c ≤ 519) {h : HM} (J : LJ (Kt K) y0 m0 o3 o4 kl wk c h)
    (kk : ∀ (c' : Nat), c' ≤ c + 1 → ∀ h' : HM, LJ (Kt K) y0 m0 o3 o4 kl wk c' h' → WW K (n.1 + 1000, n.2 + 5000) 2002 [some (.ref b), some (.ref y0), some (.ref m0), some (.ref o3), some (.ref o4), some (.int i), none, none, none] [] h') : WW K n 1727 [some (.ref b), some (.ref y0), some (.ref m0), some (.ref o3), some (.ref o4), some (.int i), none, none, none] [] h := by
  obtain ⟨hA, hB, hO, fL, fD, th, rfl, dAB, dAO, dBO, O, j9⟩ := J
  obtain ⟨fs1, hy⟩ := j9.y
  obtain ⟨fs2, hm⟩ := j9.m
  first | refine w_aload_n C dL_law_1727 (by rfl) ?_ | refine w_aload_nN C dL_law_1727 (by rfl) ?_
  first | refine w_aload_n C dL_law_1728 (by rfl) ?_ | refine w_aload_nN C dL_law_1728 (by rfl) ?_
  refine w_iload C dL_law_1729 (by rfl) ?_
  refine w_iconst (v := 1) C dL_law_1731 (by rfl) ?_
  refine w_iadd C dL_law_1732 ?_
  refine w_sld C X (v 1 (by decide) (by decide)) dL_law_1733 ?_
  first | refine w_aload_n C dL_law_1734 (by rfl) ?_ | refine w_aload_nN C dL_law_1734 (by rfl) ?_
  obtain ⟨p9, px9, q9, hM1, hM2, hcd, j1, j2⟩ := jt_many (D := KD K) hl j9 (what := (xs (i + 1).toNatClampNeg))
  refine w_SWI C hN (m_L_many hl (D2.mk9 dAB dAO) hy (hj_r O.1 (dBO _ _ O.1)) hM1 hcd) gw_912 gw_913 gw_50 gw_914 (show okY yL_many 3 = true by decide +kernel) (by rfl) ⟨by dsimp only [rm_L_many, rm_X10_many, rm_X10_thrown, room_1]; omega, by dsimp only [rm_L_many, rm_X10_many, rm_X10_thrown, room_1]; omega⟩ (by rfl) rfl dL_law_1735 (fun k9 hw aw => ?_)
  obtain ⟨hA1, hO1, fL1, fD1, e1, dAB1, dAO1, dBO1, O1, aw2⟩ := la_L (g := (fun v => v.toInt64)) dBO O aw
  subst e1
  refine w_istore_6 C dL_law_1738 (by first | trivial | rfl) ?_
  first | refine w_aload_n C dL_law_1740 (by rfl) ?_ | refine w_aload_nN C dL_law_1740 (by rfl) ?_
  first | refine w_aload_n C dL_law_1741 (by rfl) ?_ | refine w_aload_nN C dL_law_1741 (by rfl) ?_
  refine w_iload C dL_law_1742 (by rfl) ?_
  refine w_iconst (v := 1) C dL_law_1744 (by rfl) ?_
  refine w_iadd C dL_law_1745 ?_
  refine w_sld C X (v 1 (by decide) (by decide)) dL_law_1746 ?_
  refine cl_L_192 C (CT.fBI dAB1 dAO1 dBO1 hM2) (hj_r (hj_l hm) (dAB1 _ _ hm)) (by rfl) (by rfl) ⟨by dsimp only [rm_L_many, rm_X10_many, rm_X10_thrown, room_1]; omega, by dsimp only [rm_L_many, rm_X10_many, rm_X10_thrown, room_1]; omega⟩ (by rfl) dL_law_1747 (fun z2 h1 p1 => ?_)
  obtain ⟨hB1, hq, e1, dAB2, dBO2⟩ := p1
  subst e1
  obtain ⟨j9, e9⟩ := la_J (by decide +kernel) j1 j2 aw2 hq
  have e9 : k9 = 0 → fL1 0 = z2.toInt64 := e9
  obtain ⟨fs2, hm⟩ := j9.m
  refine w_istore_7 C dL_law_1750 (by first | trivial | rfl) ?_
  first | refine w_aload_n C dL_law_1752 (by rfl) ?_ | refine w_aload_nN C dL_law_1752 (by rfl) ?_
  refine cl_L_110 C (CT.fBI dAB2 dAO1 dBO2 (jt_thrown hl j9)) (hj_r (hj_l hm) (dAB2 _ _ hm)) (by rfl) (by rfl) ⟨by dsimp only [rm_L_many, rm_X10_many, rm_X10_thrown, room_1]; omega, by dsimp only [rm_L_many, rm_X10_many, rm_X10_thrown, room_1]; omega⟩ (by rfl) dL_law_1753 (fun z3 h2 p2 => ?_)
  obtain ⟨hB2, ⟨e1, e3⟩, e2, dAB3, dBO3⟩ := p2
  subst e1
  subst e2
  refine w_iload C dL_law_1756 (by rfl) ?_
  refine w_icmp_eq (tgt := 1763) C dL_law_1758 (by rfl) (fun c_1758 => ?_) (fun c_1758 => ?_)
  · refine w_iload C dL_law_1763 (by rfl) ?_
    refine w_if_ne (tgt := 1780) C dL_law_1765 (by rfl) (fun c_1765 => ?_) (fun c_1765 => ?_)
    · try simp only [cg_ge, cg_gt, cl_gt, cl_le, cl_eq, cl_lt, cl_ge, bi_eq0, bi_ne0, bI_eq0, Decidable.not_not, Bool.not_eq_false] at c_1765
      refine w_goto (tgt := 2002) C dL_law_1780 (by rfl) ?_
      exact w_sub (w_widen (kk (c + 1) (Nat.le_refl _) _ ⟨_, _, _, _, _, _, rfl, dAB3, dAO1, dBO3, O1, j9⟩) (by dsimp only [rm_L_many, rm_X10_many, rm_X10_thrown]; omega) (by dsimp only [rm_L_many, rm_X10_many, rm_X10_thrown]; omega)) (by repeat' first | exact trivial | rfl | constructor)
    · try simp only [cg_ge, cg_gt, cl_gt, cl_le, cl_eq, cl_lt, cl_ge, bi_eq0, bi_ne0, bI_eq0, Decidable.not_not, Bool.not_eq_false] at c_1765
      first | refine w_aload_n C dL_law_1768 (by rfl) ?_ | refine w_aload_nN C dL_law_1768 (by rfl) ?_
      refine w_iconst (v := 0) C dL_law_1769 (by rfl) ?_
      refine w_laldn (j := 0) C (hj_r (hj_r O1.1 (dBO3 _ _ O1.1)) (D2.mk9 dAB3 dAO1 _ _ (hj_r O1.1 (dBO3 _ _ O1.1)))) (by decide) (by decide) dL_law_1770 ?_
      refine w_iload C dL_law_1771 (by rfl) ?_
      refine w_i2l C dL_law_1773 ?_
      refine w_lcmp C dL_law_1774 ?_
      refine w_if_eq (tgt := 1780) C dL_law_1775 (by rfl) (fun c_1775 => ?_) (fun c_1775 => ?_)
      · try simp only [cg_ge, cg_gt, cl_gt, cl_le, cl_eq, cl_lt, cl_ge, bi_eq0, bi_ne0, bI_eq0, Decidable.not_not, Bool.not_eq_false] at c_1775
        refine w_goto (tgt := 2002) C dL_law_1780 (by rfl) ?_
        exact w_sub (w_widen (kk (c + 1) (Nat.le_refl _) _ ⟨_, _, _, _, _, _, rfl, dAB3, dAO1, dBO3, O1, j9⟩) (by dsimp only [rm_L_many, rm_X10_many, rm_X10_thrown]; omega) (by dsimp only [rm_L_many, rm_X10_many, rm_X10_thrown]; omega)) (by repeat' first | exact trivial | rfl | constructor)
      · exact absurd (by rw [e9 c_1765]; exact lg_cmp_self _) c_1775
  · exact absurd e3 c_1758

set_option maxHeartbeats 4000000 in
set_option maxRecDepth 100000 in
theorem lr_wouldCone {K : KC} (C : CX K RL cL_law 9 room_1) (hl : (Kl K).stackTraces = false) (hN : NCs (Ks K)) {n : Nat × Nat} (n1 : n.1 + 1000 ≤ 757560) (n2 : n.2 + 5000 ≤ 6823425) {b L y0 m0 o3 o4 kl wk c : Nat} {xs : Nat → Int32} (X : LX K b L xs) {i : Int32} (v : ∀ k : Int32, 0 ≤ k.toInt → k.toInt ≤ 5 → vp_in (i + k) L) (hc5 : c ≤ 519) {h : HM} (J : LJ (Kt K) y0 m0 o3 o4 kl wk c h)
    (kk : ∀ (c' : Nat), c' ≤ c + 1 → ∀ h' : HM, LJ (Kt K) y0 m0 o3 o4 kl wk c' h' → WW K (n.1 + 1000, n.2 + 5000) 2002 [some (.ref b), some (.ref y0), some (.ref m0), some (.ref o3), some (.ref o4), some (.int i), none, none, none] [] h') : WW K n 1783 [some (.ref b), some (.ref y0), some (.ref m0), some (.ref o3), some (.ref o4), some (.int i), none, none, none] [] h := by
  obtain ⟨hA, hB, hO, fL, fD, th, rfl, dAB, dAO, dBO, O, j9⟩ := J
  obtain ⟨fs1, hy⟩ := j9.y
  obtain ⟨fs2, hm⟩ := j9.m
  first | refine w_aload_n C dL_law_1783 (by rfl) ?_ | refine w_aload_nN C dL_law_1783 (by rfl) ?_
  first | refine w_aload_n C dL_law_1784 (by rfl) ?_ | refine w_aload_nN C dL_law_1784 (by rfl) ?_
  refine w_iload C dL_law_1785 (by rfl) ?_
  refine w_iconst (v := 1) C dL_law_1787 (by rfl) ?_
  refine w_iadd C dL_law_1788 ?_
  refine w_sld C X (v 1 (by decide) (by decide)) dL_law_1789 ?_
  first | refine w_aload_n C dL_law_1790 (by rfl) ?_ | refine w_aload_nN C dL_law_1790 (by rfl) ?_
  refine w_iload C dL_law_1791 (by rfl) ?_
  refine w_iconst (v := 2) C dL_law_1793 (by rfl) ?_
  refine w_iadd C dL_law_1794 ?_
  refine w_sld C X (v 2 (by decide) (by decide)) dL_law_1795 ?_
  first | refine w_aload_n C dL_law_1796 (by rfl) ?_ | refine w_aload_nN C dL_law_1796 (by rfl) ?_
  obtain ⟨p9, px9, q9, hM1, hM2, hcd, j1, j2⟩ := jt_wouldCone (D := KD K) hl j9 (i := (xs (i + 1).toNatClampNeg)) (st := (xs (i + 2).toNatClampNeg))
  refine w_SWI C hN (m_L_wouldCone hl (D2.mk9 dAB dAO) hy (hj_r O.1 (dBO _ _ O.1)) hM1 hcd) gw_916 gw_917 gw_50 gw_918 (show okY yL_wouldCone 4 = true by decide +kernel) (by rfl) ⟨by dsimp only [rm_L_wouldCone, rm_X10_wouldCone, rm_X10_thrown, room_1]; omega, by dsimp only [rm_L_wouldCone, rm_X10_wouldCone, rm_X10_thrown, room_1]; omega⟩ (by rfl) rfl dL_law_1797 (fun k9 hw aw => ?_)
  obtain ⟨hA1, hO1, fL1, fD1, e1, dAB1, dAO1, dBO1, O1, aw2⟩ := la_L (g := (fun v => v.toInt64)) dBO O aw
  subst e1
  refine w_istore_6 C dL_law_1800 (by first | trivial | rfl) ?_
  first | refine w_aload_n C dL_law_1802 (by rfl) ?_ | refine w_aload_nN C dL_law_1802 (by rfl) ?_
  first | refine w_aload_n C dL_law_1803 (by rfl) ?_ | refine w_aload_nN C dL_law_1803 (by rfl) ?_
  refine w_iload C dL_law_1804 (by rfl) ?_
  refine w_iconst (v := 1) C dL_law_1806 (by rfl) ?_
  refine w_iadd C dL_law_1807 ?_
  refine w_sld C X (v 1 (by decide) (by decide)) dL_law_1808 ?_
  first | refine w_aload_n C dL_law_1809 (by rfl) ?_ | refine w_aload_nN C dL_law_1809 (by rfl) ?_
  refine w_iload C dL_law_1810 (by rfl) ?_
  refine w_iconst (v := 2) C dL_law_1812 (by rfl) ?_
  refine w_iadd C dL_law_1813 ?_
  refine w_sld C X (v 2 (by decide) (by decide)) dL_law_1814 ?_
  refine cl_L_195 C (CT.fBI dAB1 dAO1 dBO1 hM2) (hj_r (hj_l hm) (dAB1 _ _ hm)) (by rfl) (by rfl) ⟨by dsimp only [rm_L_wouldCone, rm_X10_wouldCone, rm_X10_thrown, room_1]; omega, by dsimp only [rm_L_wouldCone, rm_X10_wouldCone, rm_X10_thrown, room_1]; omega⟩ (by rfl) dL_law_1815 (fun z2 h1 p1 => ?_)
  obtain ⟨hB1, hq, e1, dAB2, dBO2⟩ := p1
  subst e1
  obtain ⟨j9, e9⟩ := la_J (by decide +kernel) j1 j2 aw2 hq
  have e9 : k9 = 0 → fL1 0 = z2.toInt64 := e9
  obtain ⟨fs2, hm⟩ := j9.m
  refine w_istore_7 C dL_law_1818 (by first | trivial | rfl) ?_
  first | refine w_aload_n C dL_law_1820 (by rfl) ?_ | refine w_aload_nN C dL_law_1820 (by rfl) ?_
  refine cl_L_110 C (CT.fBI dAB2 dAO1 dBO2 (jt_thrown hl j9)) (hj_r (hj_l hm) (dAB2 _ _ hm)) (by rfl) (by rfl) ⟨by dsimp only [rm_L_wouldCone, rm_X10_wouldCone, rm_X10_thrown, room_1]; omega, by dsimp only [rm_L_wouldCone, rm_X10_wouldCone, rm_X10_thrown, room_1]; omega⟩ (by rfl) dL_law_1821 (fun z3 h2 p2 => ?_)
  obtain ⟨hB2, ⟨e1, e3⟩, e2, dAB3, dBO3⟩ := p2
  subst e1
  subst e2
  refine w_iload C dL_law_1824 (by rfl) ?_
  refine w_icmp_eq (tgt := 1831) C dL_law_1826 (by rfl) (fun c_1826 => ?_) (fun c_1826 => ?_)
  · refine w_iload C dL_law_1831 (by rfl) ?_
    refine w_if_ne (tgt := 1848) C dL_law_1833 (by rfl) (fun c_1833 => ?_) (fun c_1833 => ?_)
    · try simp only [cg_ge, cg_gt, cl_gt, cl_le, cl_eq, cl_lt, cl_ge, bi_eq0, bi_ne0, bI_eq0, Decidable.not_not, Bool.not_eq_false] at c_1833
      refine w_goto (tgt := 2002) C dL_law_1848 (by rfl) ?_
      exact w_sub (w_widen (kk (c + 1) (Nat.le_refl _) _ ⟨_, _, _, _, _, _, rfl, dAB3, dAO1, dBO3, O1, j9⟩) (by dsimp only [rm_L_wouldCone, rm_X10_wouldCone, rm_X10_thrown]; omega) (by dsimp only [rm_L_wouldCone, rm_X10_wouldCone, rm_X10_thrown]; omega)) (by repeat' first | exact trivial | rfl | constructor)
    · try simp only [cg_ge, cg_gt, cl_gt, cl_le, cl_eq, cl_lt, cl_ge, bi_eq0, bi_ne0, bI_eq0, Decidable.not_not, Bool.not_eq_false] at c_1833
      first | refine w_aload_n C dL_law_1836 (by rfl) ?_ | refine w_aload_nN C dL_law_1836 (by rfl) ?_
      refine w_iconst (v := 0) C dL_law_1837 (by rfl) ?_
      refine w_laldn (j := 0) C (hj_r (hj_r O1.1 (dBO3 _ _ O1.1)) (D2.mk9 dAB3 dAO1 _ _ (hj_r O1.1 (dBO3 _ _ O1.1)))) (by decide) (by decide) dL_law_1838 ?_
      refine w_iload C dL_law_1839 (by rfl) ?_
      refine w_i2l C dL_law_1841 ?_
      refine w_lcmp C dL_law_1842 ?_
      refine w_if_eq (tgt := 1848) C dL_law_1843 (by rfl) (fun c_1843 => ?_) (fun c_1843 => ?_)
      · try simp only [cg_ge, cg_gt, cl_gt, cl_le, cl_eq, cl_lt, cl_ge, bi_eq0, bi_ne0, bI_eq0, Decidable.not_not, Bool.not_eq_false] at c_1843
        refine w_goto (tgt := 2002) C dL_law_1848 (by rfl) ?_
        exact w_sub (w_widen (kk (c + 1) (Nat.le_refl _) _ ⟨_, _, _, _, _, _, rfl, dAB3, dAO1, dBO3, O1, j9⟩) (by dsimp only [rm_L_wouldCone, rm_X10_wouldCone, rm_X10_thrown]; omega) (by dsimp only [rm_L_wouldCone, rm_X10_wouldCone, rm_X10_thrown]; omega)) (by repeat' first | exact trivial | rfl | constructor)
      · exact absurd (by rw [e9 c_1833]; exact lg_cmp_self _) c_1843
  · exact absurd e3 c_1826

set_option maxHeartbeats 4000000 in
set_option maxRecDepth 100000 in
theorem lr_wouldEnd {K : KC} (C : CX K RL cL_law 9 room_1) (hl : (Kl K).stackTraces = false) (hN : NCs (Ks K)) {n : Nat × Nat} (n1 : n.1 + 1000 ≤ 757560) (n2 : n.2 + 5000 ≤ 6823425) {b L y0 m0 o3 o4 kl wk c : Nat} {xs : Nat → Int32} (X : LX K b L xs) {i : Int32} (v : ∀ k : Int32, 0 ≤ k.toInt → k.toInt ≤ 5 → vp_in (i + k) L) (hc5 : c ≤ 519) {h : HM} (J : LJ (Kt K) y0 m0 o3 o4 kl wk c h)
    (kk : ∀ (c' : Nat), c' ≤ c + 1 → ∀ h' : HM, LJ (Kt K) y0 m0 o3 o4 kl wk c' h' → WW K (n.1 + 1000, n.2 + 5000) 2002 [some (.ref b), some (.ref y0), some (.ref m0), some (.ref o3), some (.ref o4), some (.int i), none, none, none] [] h') : WW K n 1851 [some (.ref b), some (.ref y0), some (.ref m0), some (.ref o3), some (.ref o4), some (.int i), none, none, none] [] h := by
  obtain ⟨hA, hB, hO, fL, fD, th, rfl, dAB, dAO, dBO, O, j9⟩ := J
  obtain ⟨fs1, hy⟩ := j9.y
  obtain ⟨fs2, hm⟩ := j9.m
  first | refine w_aload_n C dL_law_1851 (by rfl) ?_ | refine w_aload_nN C dL_law_1851 (by rfl) ?_
  obtain ⟨p9, q9, hM1, hM2, j1⟩ := jt_wouldEnd (D := KD K) hl j9 
  refine cl_L_196 C (CT.fAI (D2.mk9 dAB dAO) hM1) (hj_l hy) (by rfl) (by rfl) ⟨by dsimp only [rm_X7_wouldEnd, rm_X10_wouldEnd, room_1]; omega, by dsimp only [rm_X7_wouldEnd, rm_X10_wouldEnd, room_1]; omega⟩ (by rfl) dL_law_1852 (fun z1 h1 p1 => ?_)
  obtain ⟨hA1, hp, e1, d1⟩ := p1
  subst e1
  have dAB3 := D2.l d1
  have dAO1 := D2.r d1 dBO
  first | refine w_aload_n C dL_law_1855 (by rfl) ?_ | refine w_aload_nN C dL_law_1855 (by rfl) ?_
  refine cl_L_199 C (CT.fBI dAB3 dAO1 dBO hM2) (hj_r (hj_l hm) (dAB3 _ _ hm)) (by rfl) (by rfl) ⟨by dsimp only [rm_X7_wouldEnd, rm_X10_wouldEnd, room_1]; omega, by dsimp only [rm_X7_wouldEnd, rm_X10_wouldEnd, room_1]; omega⟩ (by rfl) dL_law_1856 (fun z2 h2 p2 => ?_)
  obtain ⟨hB1, hq, e1, dAB2, dBO2⟩ := p2
  subst e1
  obtain ⟨e9, j9⟩ := j1 _ _ hp _ _ hq
  refine w_icmp_eq (tgt := 2002) C dL_law_1859 (by rfl) (fun c_1859 => ?_) (fun c_1859 => ?_)
  · exact w_sub (w_widen (kk (c + 1) (Nat.le_refl _) _ ⟨_, _, _, _, _, _, rfl, dAB2, dAO1, dBO2, O, j9⟩) (by dsimp only [rm_X7_wouldEnd, rm_X10_wouldEnd]; omega) (by dsimp only [rm_X7_wouldEnd, rm_X10_wouldEnd]; omega)) (by repeat' first | exact trivial | rfl | constructor)
  · exact absurd e9.symm c_1859

set_option maxHeartbeats 4000000 in
set_option maxRecDepth 100000 in
theorem lr_best {K : KC} (C : CX K RL cL_law 9 room_1) (hl : (Kl K).stackTraces = false) (hN : NCs (Ks K)) {n : Nat × Nat} (n1 : n.1 + 1000 ≤ 757560) (n2 : n.2 + 5000 ≤ 6823425) {b L y0 m0 o3 o4 kl wk c : Nat} {xs : Nat → Int32} (X : LX K b L xs) {i : Int32} (v : ∀ k : Int32, 0 ≤ k.toInt → k.toInt ≤ 5 → vp_in (i + k) L) (hc5 : c ≤ 519) {h : HM} (J : LJ (Kt K) y0 m0 o3 o4 kl wk c h)
    (kk : ∀ (c' : Nat), c' ≤ c + 1 → ∀ h' : HM, LJ (Kt K) y0 m0 o3 o4 kl wk c' h' → WW K (n.1 + 1000, n.2 + 5000) 2002 [some (.ref b), some (.ref y0), some (.ref m0), some (.ref o3), some (.ref o4), some (.int i), none, none, none] [] h') : WW K n 1864 [some (.ref b), some (.ref y0), some (.ref m0), some (.ref o3), some (.ref o4), some (.int i), none, none, none] [] h := by
  obtain ⟨hA, hB, hO, fL, fD, th, rfl, dAB, dAO, dBO, O, j9⟩ := J
  obtain ⟨fs1, hy⟩ := j9.y
  obtain ⟨fs2, hm⟩ := j9.m
  first | refine w_aload_n C dL_law_1864 (by rfl) ?_ | refine w_aload_nN C dL_law_1864 (by rfl) ?_
  first | refine w_aload_n C dL_law_1865 (by rfl) ?_ | refine w_aload_nN C dL_law_1865 (by rfl) ?_
  refine w_iload C dL_law_1866 (by rfl) ?_
  refine w_iconst (v := 1) C dL_law_1868 (by rfl) ?_
  refine w_iadd C dL_law_1869 ?_
  refine w_sld C X (v 1 (by decide) (by decide)) dL_law_1870 ?_
  first | refine w_aload_n C dL_law_1871 (by rfl) ?_ | refine w_aload_nN C dL_law_1871 (by rfl) ?_
  refine w_iload C dL_law_1872 (by rfl) ?_
  refine w_iconst (v := 2) C dL_law_1874 (by rfl) ?_
  refine w_iadd C dL_law_1875 ?_
  refine w_sld C X (v 2 (by decide) (by decide)) dL_law_1876 ?_
  first | refine w_aload_n C dL_law_1877 (by rfl) ?_ | refine w_aload_nN C dL_law_1877 (by rfl) ?_
  obtain ⟨p9, px9, q9, hM1, hM2, hcd, j1, j2⟩ := jt_best (D := KD K) hl j9 (cl := (xs (i + 1).toNatClampNeg)) (cone := (xs (i + 2).toNatClampNeg))
  refine w_SWI C hN (m_L_best hl (D2.mk9 dAB dAO) hy (hj_r O.1 (dBO _ _ O.1)) hM1 hcd) gw_920 gw_921 gw_50 gw_922 (show okY yL_best 4 = true by decide +kernel) (by rfl) ⟨by dsimp only [rm_L_best, rm_X10_best, rm_X10_thrown, room_1]; omega, by dsimp only [rm_L_best, rm_X10_best, rm_X10_thrown, room_1]; omega⟩ (by rfl) rfl dL_law_1878 (fun k9 hw aw => ?_)
  obtain ⟨hA1, hO1, fL1, fD1, e1, dAB1, dAO1, dBO1, O1, aw2⟩ := la_L (g := (fun v => v.toInt64)) dBO O aw
  subst e1
  refine w_istore_6 C dL_law_1881 (by first | trivial | rfl) ?_
  first | refine w_aload_n C dL_law_1883 (by rfl) ?_ | refine w_aload_nN C dL_law_1883 (by rfl) ?_
  first | refine w_aload_n C dL_law_1884 (by rfl) ?_ | refine w_aload_nN C dL_law_1884 (by rfl) ?_
  refine w_iload C dL_law_1885 (by rfl) ?_
  refine w_iconst (v := 1) C dL_law_1887 (by rfl) ?_
  refine w_iadd C dL_law_1888 ?_
  refine w_sld C X (v 1 (by decide) (by decide)) dL_law_1889 ?_
  first | refine w_aload_n C dL_law_1890 (by rfl) ?_ | refine w_aload_nN C dL_law_1890 (by rfl) ?_
  refine w_iload C dL_law_1891 (by rfl) ?_
  refine w_iconst (v := 2) C dL_law_1893 (by rfl) ?_
  refine w_iadd C dL_law_1894 ?_
  refine w_sld C X (v 2 (by decide) (by decide)) dL_law_1895 ?_
  refine cl_L_202 C (CT.fBI dAB1 dAO1 dBO1 hM2) (hj_r (hj_l hm) (dAB1 _ _ hm)) (by rfl) (by rfl) ⟨by dsimp only [rm_L_best, rm_X10_best, rm_X10_thrown, room_1]; omega, by dsimp only [rm_L_best, rm_X10_best, rm_X10_thrown, room_1]; omega⟩ (by rfl) dL_law_1896 (fun z2 h1 p1 => ?_)
  obtain ⟨hB1, hq, e1, dAB2, dBO2⟩ := p1
  subst e1
  obtain ⟨j9, e9⟩ := la_J (by decide +kernel) j1 j2 aw2 hq
  have e9 : k9 = 0 → fL1 0 = z2.toInt64 := e9
  obtain ⟨fs2, hm⟩ := j9.m
  refine w_istore_7 C dL_law_1899 (by first | trivial | rfl) ?_
  first | refine w_aload_n C dL_law_1901 (by rfl) ?_ | refine w_aload_nN C dL_law_1901 (by rfl) ?_
  refine cl_L_110 C (CT.fBI dAB2 dAO1 dBO2 (jt_thrown hl j9)) (hj_r (hj_l hm) (dAB2 _ _ hm)) (by rfl) (by rfl) ⟨by dsimp only [rm_L_best, rm_X10_best, rm_X10_thrown, room_1]; omega, by dsimp only [rm_L_best, rm_X10_best, rm_X10_thrown, room_1]; omega⟩ (by rfl) dL_law_1902 (fun z3 h2 p2 => ?_)
  obtain ⟨hB2, ⟨e1, e3⟩, e2, dAB3, dBO3⟩ := p2
  subst e1
  subst e2
  refine w_iload C dL_law_1905 (by rfl) ?_
  refine w_icmp_eq (tgt := 1912) C dL_law_1907 (by rfl) (fun c_1907 => ?_) (fun c_1907 => ?_)
  · refine w_iload C dL_law_1912 (by rfl) ?_
    refine w_if_ne (tgt := 1929) C dL_law_1914 (by rfl) (fun c_1914 => ?_) (fun c_1914 => ?_)
    · try simp only [cg_ge, cg_gt, cl_gt, cl_le, cl_eq, cl_lt, cl_ge, bi_eq0, bi_ne0, bI_eq0, Decidable.not_not, Bool.not_eq_false] at c_1914
      refine w_goto (tgt := 2002) C dL_law_1929 (by rfl) ?_
      exact w_sub (w_widen (kk (c + 1) (Nat.le_refl _) _ ⟨_, _, _, _, _, _, rfl, dAB3, dAO1, dBO3, O1, j9⟩) (by dsimp only [rm_L_best, rm_X10_best, rm_X10_thrown]; omega) (by dsimp only [rm_L_best, rm_X10_best, rm_X10_thrown]; omega)) (by repeat' first | exact trivial | rfl | constructor)
    · try simp only [cg_ge, cg_gt, cl_gt, cl_le, cl_eq, cl_lt, cl_ge, bi_eq0, bi_ne0, bI_eq0, Decidable.not_not, Bool.not_eq_false] at c_1914
      first | refine w_aload_n C dL_law_1917 (by rfl) ?_ | refine w_aload_nN C dL_law_1917 (by rfl) ?_
      refine w_iconst (v := 0) C dL_law_1918 (by rfl) ?_
      refine w_laldn (j := 0) C (hj_r (hj_r O1.1 (dBO3 _ _ O1.1)) (D2.mk9 dAB3 dAO1 _ _ (hj_r O1.1 (dBO3 _ _ O1.1)))) (by decide) (by decide) dL_law_1919 ?_
      refine w_iload C dL_law_1920 (by rfl) ?_
      refine w_i2l C dL_law_1922 ?_
      refine w_lcmp C dL_law_1923 ?_
      refine w_if_eq (tgt := 1929) C dL_law_1924 (by rfl) (fun c_1924 => ?_) (fun c_1924 => ?_)
      · try simp only [cg_ge, cg_gt, cl_gt, cl_le, cl_eq, cl_lt, cl_ge, bi_eq0, bi_ne0, bI_eq0, Decidable.not_not, Bool.not_eq_false] at c_1924
        refine w_goto (tgt := 2002) C dL_law_1929 (by rfl) ?_
        exact w_sub (w_widen (kk (c + 1) (Nat.le_refl _) _ ⟨_, _, _, _, _, _, rfl, dAB3, dAO1, dBO3, O1, j9⟩) (by dsimp only [rm_L_best, rm_X10_best, rm_X10_thrown]; omega) (by dsimp only [rm_L_best, rm_X10_best, rm_X10_thrown]; omega)) (by repeat' first | exact trivial | rfl | constructor)
      · exact absurd (by rw [e9 c_1914]; exact lg_cmp_self _) c_1924
  · exact absurd e3 c_1907

set_option maxHeartbeats 4000000 in
set_option maxRecDepth 100000 in
theorem lr_wouldHold {K : KC} (C : CX K RL cL_law 9 room_1) (hl : (Kl K).stackTraces = false) (hN : NCs (Ks K)) {n : Nat × Nat} (n1 : n.1 + 1000 ≤ 757560) (n2 : n.2 + 5000 ≤ 6823425) {b L y0 m0 o3 o4 kl wk c : Nat} {xs : Nat → Int32} (X : LX K b L xs) {i : Int32} (v : ∀ k : Int32, 0 ≤ k.toInt → k.toInt ≤ 5 → vp_in (i + k) L) (hc5 : c ≤ 519) {h : HM} (J : LJ (Kt K) y0 m0 o3 o4 kl wk c h)
    (kk : ∀ (c' : Nat), c' ≤ c + 1 → ∀ h' : HM, LJ (Kt K) y0 m0 o3 o4 kl wk c' h' → WW K (n.1 + 1000, n.2 + 5000) 2002 [some (.ref b), some (.ref y0), some (.ref m0), some (.ref o3), some (.ref o4), some (.int i), none, none, none] [] h') : WW K n 1932 [some (.ref b), some (.ref y0), some (.ref m0), some (.ref o3), some (.ref o4), some (.int i), none, none, none] [] h := by
  obtain ⟨hA, hB, hO, fL, fD, th, rfl, dAB, dAO, dBO, O, j9⟩ := J
  obtain ⟨fs1, hy⟩ := j9.y
  obtain ⟨fs2, hm⟩ := j9.m
  first | refine w_aload_n C dL_law_1932 (by rfl) ?_ | refine w_aload_nN C dL_law_1932 (by rfl) ?_
  first | refine w_aload_n C dL_law_1933 (by rfl) ?_ | refine w_aload_nN C dL_law_1933 (by rfl) ?_
  refine w_iload C dL_law_1934 (by rfl) ?_
  refine w_iconst (v := 1) C dL_law_1936 (by rfl) ?_
  refine w_iadd C dL_law_1937 ?_
  refine w_sld C X (v 1 (by decide) (by decide)) dL_law_1938 ?_
  first | refine w_aload_n C dL_law_1939 (by rfl) ?_ | refine w_aload_nN C dL_law_1939 (by rfl) ?_
  obtain ⟨p9, px9, q9, hM1, hM2, hcd, j1, j2⟩ := jt_wouldHold (D := KD K) hl j9 (i := (xs (i + 1).toNatClampNeg))
  refine w_SWI C hN (m_L_wouldHold hl (D2.mk9 dAB dAO) hy (hj_r O.1 (dBO _ _ O.1)) hM1 hcd) gw_933 gw_934 gw_50 gw_935 (show okY yL_wouldHold 3 = true by decide +kernel) (by rfl) ⟨by dsimp only [rm_L_wouldHold, rm_X10_wouldHold, rm_X10_thrown, room_1]; omega, by dsimp only [rm_L_wouldHold, rm_X10_wouldHold, rm_X10_thrown, room_1]; omega⟩ (by rfl) rfl dL_law_1940 (fun k9 hw aw => ?_)
  obtain ⟨hA1, hO1, fL1, fD1, e1, dAB1, dAO1, dBO1, O1, aw2⟩ := la_L (g := (fun v => v.toInt64)) dBO O aw
  subst e1
  refine w_istore_6 C dL_law_1943 (by first | trivial | rfl) ?_
  first | refine w_aload_n C dL_law_1945 (by rfl) ?_ | refine w_aload_nN C dL_law_1945 (by rfl) ?_
  first | refine w_aload_n C dL_law_1946 (by rfl) ?_ | refine w_aload_nN C dL_law_1946 (by rfl) ?_
  refine w_iload C dL_law_1947 (by rfl) ?_
  refine w_iconst (v := 1) C dL_law_1949 (by rfl) ?_
  refine w_iadd C dL_law_1950 ?_
  refine w_sld C X (v 1 (by decide) (by decide)) dL_law_1951 ?_
  refine cl_L_205 C (CT.fBI dAB1 dAO1 dBO1 hM2) (hj_r (hj_l hm) (dAB1 _ _ hm)) (by rfl) (by rfl) ⟨by dsimp only [rm_L_wouldHold, rm_X10_wouldHold, rm_X10_thrown, room_1]; omega, by dsimp only [rm_L_wouldHold, rm_X10_wouldHold, rm_X10_thrown, room_1]; omega⟩ (by rfl) dL_law_1952 (fun z2 h1 p1 => ?_)
  obtain ⟨hB1, hq, e1, dAB2, dBO2⟩ := p1
  subst e1
  obtain ⟨j9, e9⟩ := la_J (by decide +kernel) j1 j2 aw2 hq
  have e9 : k9 = 0 → fL1 0 = z2.toInt64 := e9
  obtain ⟨fs2, hm⟩ := j9.m
  refine w_istore_7 C dL_law_1955 (by first | trivial | rfl) ?_
  first | refine w_aload_n C dL_law_1957 (by rfl) ?_ | refine w_aload_nN C dL_law_1957 (by rfl) ?_
  refine cl_L_110 C (CT.fBI dAB2 dAO1 dBO2 (jt_thrown hl j9)) (hj_r (hj_l hm) (dAB2 _ _ hm)) (by rfl) (by rfl) ⟨by dsimp only [rm_L_wouldHold, rm_X10_wouldHold, rm_X10_thrown, room_1]; omega, by dsimp only [rm_L_wouldHold, rm_X10_wouldHold, rm_X10_thrown, room_1]; omega⟩ (by rfl) dL_law_1958 (fun z3 h2 p2 => ?_)
  obtain ⟨hB2, ⟨e1, e3⟩, e2, dAB3, dBO3⟩ := p2
  subst e1
  subst e2
  refine w_iload C dL_law_1961 (by rfl) ?_
  refine w_icmp_eq (tgt := 1968) C dL_law_1963 (by rfl) (fun c_1963 => ?_) (fun c_1963 => ?_)
  · refine w_iload C dL_law_1968 (by rfl) ?_
    refine w_if_ne (tgt := 1985) C dL_law_1970 (by rfl) (fun c_1970 => ?_) (fun c_1970 => ?_)
    · try simp only [cg_ge, cg_gt, cl_gt, cl_le, cl_eq, cl_lt, cl_ge, bi_eq0, bi_ne0, bI_eq0, Decidable.not_not, Bool.not_eq_false] at c_1970
      refine w_goto (tgt := 2002) C dL_law_1985 (by rfl) ?_
      exact w_sub (w_widen (kk (c + 1) (Nat.le_refl _) _ ⟨_, _, _, _, _, _, rfl, dAB3, dAO1, dBO3, O1, j9⟩) (by dsimp only [rm_L_wouldHold, rm_X10_wouldHold, rm_X10_thrown]; omega) (by dsimp only [rm_L_wouldHold, rm_X10_wouldHold, rm_X10_thrown]; omega)) (by repeat' first | exact trivial | rfl | constructor)
    · try simp only [cg_ge, cg_gt, cl_gt, cl_le, cl_eq, cl_lt, cl_ge, bi_eq0, bi_ne0, bI_eq0, Decidable.not_not, Bool.not_eq_false] at c_1970
      first | refine w_aload_n C dL_law_1973 (by rfl) ?_ | refine w_aload_nN C dL_law_1973 (by rfl) ?_
      refine w_iconst (v := 0) C dL_law_1974 (by rfl) ?_
      refine w_laldn (j := 0) C (hj_r (hj_r O1.1 (dBO3 _ _ O1.1)) (D2.mk9 dAB3 dAO1 _ _ (hj_r O1.1 (dBO3 _ _ O1.1)))) (by decide) (by decide) dL_law_1975 ?_
      refine w_iload C dL_law_1976 (by rfl) ?_
      refine w_i2l C dL_law_1978 ?_
      refine w_lcmp C dL_law_1979 ?_
      refine w_if_eq (tgt := 1985) C dL_law_1980 (by rfl) (fun c_1980 => ?_) (fun c_1980 => ?_)
      · try simp only [cg_ge, cg_gt, cl_gt, cl_le, cl_eq, cl_lt, cl_ge, bi_eq0, bi_ne0, bI_eq0, Decidable.not_not, Bool.not_eq_false] at c_1980
        refine w_goto (tgt := 2002) C dL_law_1985 (by rfl) ?_
        exact w_sub (w_widen (kk (c + 1) (Nat.le_refl _) _ ⟨_, _, _, _, _, _, rfl, dAB3, dAO1, dBO3, O1, j9⟩) (by dsimp only [rm_L_wouldHold, rm_X10_wouldHold, rm_X10_thrown]; omega) (by dsimp only [rm_L_wouldHold, rm_X10_wouldHold, rm_X10_thrown]; omega)) (by repeat' first | exact trivial | rfl | constructor)
      · exact absurd (by rw [e9 c_1970]; exact lg_cmp_self _) c_1980
  · exact absurd e3 c_1963

set_option maxHeartbeats 4000000 in
set_option maxRecDepth 100000 in
theorem lr_digest {K : KC} (C : CX K RL cL_law 9 room_1) (hl : (Kl K).stackTraces = false) (hN : NCs (Ks K)) {n : Nat × Nat} (n1 : n.1 + 1000 ≤ 757560) (n2 : n.2 + 5000 ≤ 6823425) {b L y0 m0 o3 o4 kl wk c : Nat} {xs : Nat → Int32} (X : LX K b L xs) {i : Int32} (v : ∀ k : Int32, 0 ≤ k.toInt → k.toInt ≤ 5 → vp_in (i + k) L) (hc5 : c ≤ 519) {h : HM} (J : LJ (Kt K) y0 m0 o3 o4 kl wk c h)
    (kk : ∀ (c' : Nat), c' ≤ c + 1 → ∀ h' : HM, LJ (Kt K) y0 m0 o3 o4 kl wk c' h' → WW K (n.1 + 1000, n.2 + 5000) 2002 [some (.ref b), some (.ref y0), some (.ref m0), some (.ref o3), some (.ref o4), some (.int i), none, none, none] [] h') : WW K n 1988 [some (.ref b), some (.ref y0), some (.ref m0), some (.ref o3), some (.ref o4), some (.int i), none, none, none] [] h := by
  obtain ⟨hA, hB, hO, fL, fD, th, rfl, dAB, dAO, dBO, O, j9⟩ := J
  obtain ⟨fs1, hy⟩ := j9.y
  obtain ⟨fs2, hm⟩ := j9.m
  first | refine w_aload_n C dL_law_1988 (by rfl) ?_ | refine w_aload_nN C dL_law_1988 (by rfl) ?_
  obtain ⟨p9, px9, q9, hM1, hM2, hcd, j1, j2⟩ := jt_digest (D := KD K) hl j9 hc5 
  refine cx_L_206 C (CTX.fAL (D2.mk9 dAB dAO) hM1) (hj_l hy) (by rfl) (by rfl) ⟨by dsimp only [rm_X7_digest, rm_X10_digest, room_1]; omega, by dsimp only [rm_X7_digest, rm_X10_digest, room_1]; omega⟩ (by rfl) dL_law_1989 (fun z1 h1 p1 => ?_) (fun E hx px => (by obtain ⟨g1, q, -⟩ := px; exact (hcd _ _ q).elim))
  obtain ⟨hA1, hp, e1, d1⟩ := p1
  subst e1
  have dAB3 := D2.l d1
  have dAO1 := D2.r d1 dBO
  first | refine w_aload_n C dL_law_1992 (by rfl) ?_ | refine w_aload_nN C dL_law_1992 (by rfl) ?_
  refine cl_L_210 C (CT.fBL dAB3 dAO1 dBO hM2) (hj_r (hj_l hm) (dAB3 _ _ hm)) (by rfl) (by rfl) ⟨by dsimp only [rm_X7_digest, rm_X10_digest, room_1]; omega, by dsimp only [rm_X7_digest, rm_X10_digest, room_1]; omega⟩ (by rfl) dL_law_1993 (fun z2 h2 p2 => ?_)
  obtain ⟨hB1, hq, e1, dAB2, dBO2⟩ := p2
  subst e1
  obtain ⟨e9, j9⟩ := j1 _ _ hp _ _ hq
  refine w_lcmp C dL_law_1996 ?_
  refine w_if_eq (tgt := 2002) C dL_law_1997 (by rfl) (fun c_1997 => ?_) (fun c_1997 => ?_)
  · try simp only [cg_ge, cg_gt, cl_gt, cl_le, cl_eq, cl_lt, cl_ge, bi_eq0, bi_ne0, bI_eq0, Decidable.not_not, Bool.not_eq_false] at c_1997
    exact w_sub (w_widen (kk (c + 1) (Nat.le_refl _) _ ⟨_, _, _, _, _, _, rfl, dAB2, dAO1, dBO2, O, j9⟩) (by dsimp only [rm_X7_digest, rm_X10_digest]; omega) (by dsimp only [rm_X7_digest, rm_X10_digest]; omega)) (by repeat' first | exact trivial | rfl | constructor)
  · exact absurd (by rw [e9]; exact lg_cmp_self _) c_1997
