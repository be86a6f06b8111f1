/-! THE LAW'S LOOP -/
theorem six_le {L j : Nat} (hL : L ≤ 3072) (h6 : 6 * j ≤ L) (c : ¬ Int32.ofNat L - 6 < nI (6 * j)) : 6 * j + 6 ≤ L := by
  rw [Int32.lt_iff_toInt_lt, Int32.toInt_sub, nI_toInt (by omega)] at c
  have e1 : (Int32.ofNat L).toInt = (L : Int) := nI_toInt (n := L) (by omega)
  have e2 : (6 : Int32).toInt = 6 := by decide
  rw [e1, e2, Int.bmod_def] at c
  omega
theorem six_in {L j : Nat} (hL : L ≤ 3072) (h6 : 6 * j + 6 ≤ L) : ∀ k : Int32, 0 ≤ k.toInt → k.toInt ≤ 5 → vp_in (nI (6 * j) + k) L := by
  intro k h0 h5
  have e : (((6 * j : Nat) : Int) + k.toInt).bmod (2 ^ 32) = ((6 * j : Nat) : Int) + k.toInt := by
    rw [Int.bmod_def]
    split <;> omega
  rw [vp_in_iff, Int32.toInt_add, nI_toInt (by omega), e]
  constructor <;> omega

set_option maxHeartbeats 4000000 in
set_option maxRecDepth 100000 in
theorem law_loop {K : KC} (C : CX K RL cL_law 9 room_1) (hl : (Kl K).stackTraces = false) (hN : NCs (Ks K)) {b L y0 m0 o3 o4 kl wk : Nat} {xs : Nat → Int32} (hL : L ≤ 3072) (X : LX K b L xs)
    (kend : ∀ (n : Nat × Nat) (lv : List (Option Value)) (h : HM), n.1 ≤ 757560 → n.2 ≤ 6823425 → WW K n 2008 lv [] h) :
    ∀ (r j c : Nat), L < 6 * j + 6 * r → 6 * j ≤ L → c ≤ j → ∀ (n : Nat × Nat), n.1 ≤ 1000 + 1000 * j → n.2 ≤ 1000 + 5000 * j → ∀ h : HM, LJ (Kt K) y0 m0 o3 o4 kl wk c h → WW K n 28 [some (.ref b), some (.ref y0), some (.ref m0), some (.ref o3), some (.ref o4), some (.int (nI (6 * j))), none, none, none] [] h := by
  intro r
  induction r with
  | zero =>
    intro j c h1 h2
    exact absurd h2 (by omega)
  | succ r ih =>
    intro j c h1 h2 hc n n1 n2 h J
    refine w_iload C dL_law_28 (by rfl) ?_
    first | refine w_aload_n C dL_law_30 (by rfl) ?_ | refine w_aload_nN C dL_law_30 (by rfl) ?_
    refine w_slen C X dL_law_31 ?_
    refine w_bipush (v := 6) C dL_law_32 (by rfl) ?_
    refine w_isub C dL_law_34 ?_
    refine w_icmp_gt (tgt := 2008) C dL_law_35 (by rfl) (fun c_35 => ?_) (fun c_35 => ?_)
    · exact kend _ _ _ (by omega) (by omega)
    · have c6 := six_le hL h2 c_35
      have m1 : n.1 + 1000 ≤ 757560 := by omega
      have m2 : n.2 + 5000 ≤ 6823425 := by omega
      have kk : ∀ (c' : Nat), c' ≤ c + 1 → ∀ h' : HM, LJ (Kt K) y0 m0 o3 o4 kl wk c' h' → WW K (n.1 + 1000, n.2 + 5000) 2002 [some (.ref b), some (.ref y0), some (.ref m0), some (.ref o3), some (.ref o4), some (.int (nI (6 * j))), none, none, none] [] h' := by
        intro c' hc' h' J'
        refine w_iinc_5 (v := nI (6 * (j + 1))) C dL_law_2002 (by rw [show 6 * (j + 1) = 6 * j + 6 from Nat.mul_succ 6 j, ← nI_add]; rfl) (by first | trivial | rfl) ?_
        refine w_goto (tgt := 28) C dL_law_2005 (by rfl) ?_
        exact ih (j + 1) c' (by omega) (by omega) (by omega) _ (by show n.1 + 1000 ≤ _; omega) (by show n.2 + 5000 ≤ _; omega) h' J'
      first | refine w_aload_n C dL_law_38 (by rfl) ?_ | refine w_aload_nN C dL_law_38 (by rfl) ?_
      refine w_iload C dL_law_39 (by rfl) ?_
      refine w_sld C X (by rw [vp_in_iff, nI_toInt (by omega)]; constructor <;> omega) dL_law_41 ?_
      refine w_bipush (v := 31) C dL_law_42 (by rfl) ?_
      refine w_iand C dL_law_44 ?_
      generalize xs (nI (6 * j)).toNatClampNeg &&& 31 = w
      by_cases t_45 : w.toInt < 0 ∨ 28 < w.toInt
      · refine w_tableOut (tgt := 2002) C dL_law_45 t_45 (by rfl) ?_
        exact w_widen (kk c (Nat.le_succ c) h J) (Nat.le_add_right _ _) (Nat.le_add_right _ _)
      rcases (show w.toInt = 0 ∨ w.toInt = 1 ∨ w.toInt = 2 ∨ w.toInt = 3 ∨ w.toInt = 4 ∨ w.toInt = 5 ∨ w.toInt = 6 ∨ w.toInt = 7 ∨ w.toInt = 8 ∨ w.toInt = 9 ∨ w.toInt = 10 ∨ w.toInt = 11 ∨ w.toInt = 12 ∨ w.toInt = 13 ∨ w.toInt = 14 ∨ w.toInt = 15 ∨ w.toInt = 16 ∨ w.toInt = 17 ∨ w.toInt = 18 ∨ w.toInt = 19 ∨ w.toInt = 20 ∨ w.toInt = 21 ∨ w.toInt = 22 ∨ w.toInt = 23 ∨ w.toInt = 24 ∨ w.toInt = 25 ∨ w.toInt = 26 ∨ w.toInt = 27 ∨ w.toInt = 28 by omega) with e_sw | e_sw | e_sw | e_sw | e_sw | e_sw | e_sw | e_sw | e_sw | e_sw | e_sw | e_sw | e_sw | e_sw | e_sw | e_sw | e_sw | e_sw | e_sw | e_sw | e_sw | e_sw | e_sw | e_sw | e_sw | e_sw | e_sw | e_sw | e_sw
      · refine w_tableIn (tgt := 176) (off := 131) C dL_law_45 (by omega) (by omega) (by rw [e_sw]; rfl) (by rfl) ?_
        exact lr_clay C hl hN m1 m2 X (six_in hL c6) (by omega) J kk
      · refine w_tableIn (tgt := 244) (off := 199) C dL_law_45 (by omega) (by omega) (by rw [e_sw]; rfl) (by rfl) ?_
        exact lr_glaze C hl hN m1 m2 X (six_in hL c6) (by omega) J kk
      · refine w_tableIn (tgt := 348) (off := 303) C dL_law_45 (by omega) (by omega) (by rw [e_sw]; rfl) (by rfl) ?_
        exact lr_pot C hl hN m1 m2 X (six_in hL c6) (by omega) J kk
      · refine w_tableIn (tgt := 440) (off := 395) C dL_law_45 (by omega) (by omega) (by rw [e_sw]; rfl) (by rfl) ?_
        exact lr_cover C hl hN m1 m2 X (six_in hL c6) (by omega) J kk
      · refine w_tableIn (tgt := 531) (off := 486) C dL_law_45 (by omega) (by omega) (by rw [e_sw]; rfl) (by rfl) ?_
        exact lr_dry C hl hN m1 m2 X (six_in hL c6) (by omega) J kk
      · refine w_tableIn (tgt := 599) (off := 554) C dL_law_45 (by omega) (by omega) (by rw [e_sw]; rfl) (by rfl) ?_
        exact lr_dip C hl hN m1 m2 X (six_in hL c6) (by omega) J kk
      · refine w_tableIn (tgt := 667) (off := 622) C dL_law_45 (by omega) (by omega) (by rw [e_sw]; rfl) (by rfl) ?_
        exact lr_set C hl hN m1 m2 X (six_in hL c6) (by omega) J kk
      · refine w_tableIn (tgt := 747) (off := 702) C dL_law_45 (by omega) (by omega) (by rw [e_sw]; rfl) (by rfl) ?_
        exact lr_take C hl hN m1 m2 X (six_in hL c6) (by omega) J kk
      · refine w_tableIn (tgt := 803) (off := 758) C dL_law_45 (by omega) (by omega) (by rw [e_sw]; rfl) (by rfl) ?_
        exact lr_ramp C hl hN m1 m2 X (six_in hL c6) (by omega) J kk
      · refine w_tableIn (tgt := 883) (off := 838) C dL_law_45 (by omega) (by omega) (by rw [e_sw]; rfl) (by rfl) ?_
        exact lr_forget C hl hN m1 m2 X (six_in hL c6) (by omega) J kk
      · refine w_tableIn (tgt := 927) (off := 882) C dL_law_45 (by omega) (by omega) (by rw [e_sw]; rfl) (by rfl) ?_
        exact lr_light C hl hN m1 m2 X (six_in hL c6) (by omega) J kk
      · refine w_tableIn (tgt := 971) (off := 926) C dL_law_45 (by omega) (by omega) (by rw [e_sw]; rfl) (by rfl) ?_
        exact lr_burn C hl hN m1 m2 X (six_in hL c6) (by omega) J kk
      · refine w_tableIn (tgt := 1034) (off := 989) C dL_law_45 (by omega) (by omega) (by rw [e_sw]; rfl) (by rfl) ?_
        exact lr_damper C hl hN m1 m2 X (six_in hL c6) (by omega) J kk
      · refine w_tableIn (tgt := 1090) (off := 1045) C dL_law_45 (by omega) (by omega) (by rw [e_sw]; rfl) (by rfl) ?_
        exact lr_door C hl hN m1 m2 X (six_in hL c6) (by omega) J kk
      · refine w_tableIn (tgt := 1131) (off := 1086) C dL_law_45 (by omega) (by omega) (by rw [e_sw]; rfl) (by rfl) ?_
        exact lr_bell C hl hN m1 m2 X (six_in hL c6) (by omega) J kk
      · refine w_tableIn (tgt := 1144) (off := 1099) C dL_law_45 (by omega) (by omega) (by rw [e_sw]; rfl) (by rfl) ?_
        exact lr_unload C hl hN m1 m2 X (six_in hL c6) (by omega) J kk
      · refine w_tableIn (tgt := 1188) (off := 1143) C dL_law_45 (by omega) (by omega) (by rw [e_sw]; rfl) (by rfl) ?_
        exact lr_order C hl hN m1 m2 X (six_in hL c6) (by omega) J kk
      · refine w_tableIn (tgt := 1280) (off := 1235) C dL_law_45 (by omega) (by omega) (by rw [e_sw]; rfl) (by rfl) ?_
        exact lr_meet C hl hN m1 m2 X (six_in hL c6) (by omega) J kk
      · refine w_tableIn (tgt := 1348) (off := 1303) C dL_law_45 (by omega) (by omega) (by rw [e_sw]; rfl) (by rfl) ?_
        exact lr_ofPot C hl hN m1 m2 X (six_in hL c6) (by omega) J kk
      · refine w_tableIn (tgt := 1416) (off := 1371) C dL_law_45 (by omega) (by omega) (by rw [e_sw]; rfl) (by rfl) ?_
        exact lr_water C hl hN m1 m2 X (six_in hL c6) (by omega) J kk
      · refine w_tableIn (tgt := 1493) (off := 1448) C dL_law_45 (by omega) (by omega) (by rw [e_sw]; rfl) (by rfl) ?_
        exact lr_ofGlaze C hl hN m1 m2 X (six_in hL c6) (by omega) J kk
      · refine w_tableIn (tgt := 1582) (off := 1537) C dL_law_45 (by omega) (by omega) (by rw [e_sw]; rfl) (by rfl) ?_
        exact lr_kiln C hl hN m1 m2 X (six_in hL c6) (by omega) J kk
      · refine w_tableIn (tgt := 1659) (off := 1614) C dL_law_45 (by omega) (by omega) (by rw [e_sw]; rfl) (by rfl) ?_
        exact lr_ofShelf C hl hN m1 m2 X (six_in hL c6) (by omega) J kk
      · refine w_tableIn (tgt := 1727) (off := 1682) C dL_law_45 (by omega) (by omega) (by rw [e_sw]; rfl) (by rfl) ?_
        exact lr_many C hl hN m1 m2 X (six_in hL c6) (by omega) J kk
      · refine w_tableIn (tgt := 1783) (off := 1738) C dL_law_45 (by omega) (by omega) (by rw [e_sw]; rfl) (by rfl) ?_
        exact lr_wouldCone C hl hN m1 m2 X (six_in hL c6) (by omega) J kk
      · refine w_tableIn (tgt := 1851) (off := 1806) C dL_law_45 (by omega) (by omega) (by rw [e_sw]; rfl) (by rfl) ?_
        exact lr_wouldEnd C hl hN m1 m2 X (six_in hL c6) (by omega) J kk
      · refine w_tableIn (tgt := 1864) (off := 1819) C dL_law_45 (by omega) (by omega) (by rw [e_sw]; rfl) (by rfl) ?_
        exact lr_best C hl hN m1 m2 X (six_in hL c6) (by omega) J kk
      · refine w_tableIn (tgt := 1932) (off := 1887) C dL_law_45 (by omega) (by omega) (by rw [e_sw]; rfl) (by rfl) ?_
        exact lr_wouldHold C hl hN m1 m2 X (six_in hL c6) (by omega) J kk
      · refine w_tableIn (tgt := 1988) (off := 1943) C dL_law_45 (by omega) (by omega) (by rw [e_sw]; rfl) (by rfl) ?_
        exact lr_digest C hl hN m1 m2 X (six_in hL c6) (by omega) J kk
