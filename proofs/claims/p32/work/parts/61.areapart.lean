/-! AREAPART -/
theorem LJ.new {tc : Nat → ClassId} {h h' : HM} {y0 o2 o3 c : Nat} {fw : Nat → UInt64} {fz : Nat → Int32} {cs : Nat → Int32 × Int32} {gs : Nat → GT} {ps : Nat → PT} {nR : Nat} {rs : Nat → RT} {k : KT} {dmp day : Int32} (J : LJ tc y0 o2 o3 fw fz c cs gs ps nR rs k dmp day h) {q : Nat} {x : va_E} (n : h q = none) (u : Up h q x h') : LJ tc y0 o2 o3 fw fz c cs gs ps nR rs k dmp day h' := by
  obtain ⟨hA, hO, rfl, d, ⟨⟨cA, gA, pA, oA, pr, ra, re, rw9, tr, tw, ca, ga, pa, oa, f, hb, hbt, dmt, kt, Y⟩, o⟩, u2, u3⟩ := J
  obtain ⟨n1, n2⟩ := hj_none n
  exact ⟨hA, hu hO q x, by rw [u, hj_hu n1], D2.hu9 d n1, ⟨⟨_, _, _, _, _, _, _, _, _, _, _, _, _, _, _, _, _, _, _, Y⟩, o⟩, hu_n u2 n2, hu_n u3 n2⟩
theorem shelf_1 {k : KT} {nP : Nat} {ps : Nat → PT} {s : Nat} : sp_shelf k nP ps s 1 = 10 - sp_bc (sp_tk nP ps (nI s) 14) := by
  unfold sp_shelf
  rw [if_neg (by decide), if_pos rfl]
theorem shelf_2 {k : KT} {nP : Nat} {ps : Nat → PT} {s : Nat} : sp_shelf k nP ps s 2 = sp_cnt (fun i => decide (i < nP ∧ qSh (ps i).2.2 = nI s)) 14 := by
  unfold sp_shelf
  rw [if_neg (by decide), if_neg (by decide), if_pos rfl]
theorem shelf_3 {k : KT} {nP : Nat} {ps : Nat → PT} {s : Nat} : sp_shelf k nP ps s 3 = (sp_lr (sp_tk nP ps (nI s) 14) 10).1 := by
  unfold sp_shelf
  rw [if_neg (by decide), if_neg (by decide), if_neg (by decide)]
theorem shl_2 : ∀ b : Fin 4, (2 : Int32) <<< (nI b.1 &&& 31) = (1 : Int32) <<< ((1 + nI b.1) &&& 31) := by decide +kernel
theorem cells_eq {v : Int32} {p : PT} (hw : qWd p.2.2 = 1 + lbl v 4) : (((2 : Int32) <<< (lbl v 4 &&& 31)) - 1) <<< (qCe p.2.2 &&& 31) = sp_mk p := by
  obtain ⟨b, hb, e⟩ := lbl_nat v (N := 4) (by decide) (by decide)
  have e : lbl v 4 = nI b := e
  show _ = (((1 : Int32) <<< (qWd p.2.2 &&& 31)) - 1) <<< (qCe p.2.2 &&& 31)
  rw [hw, e, shl_2 ⟨b, hb⟩]
theorem ge0_nI {q : QT} (h : okSh q) (g : 0 ≤ qSh q) : ∃ s, s < 3 ∧ qSh q = nI s := by
  rcases h with h | h
  · rw [h] at g; exact absurd g (by decide)
  · exact h
theorem lt0_nI {q : QT} (g : ¬ 0 ≤ qSh q) {s : Nat} (hs : s < 3) : ¬ qSh q = nI s := fun w => g (by rw [w]; exact nI_pos' (by omega))

set_option maxHeartbeats 4000000 in
set_option maxRecDepth 100000 in
theorem lp_L_apart1 {K : KC} (C : CX K RL cL_areApart 5 rq_apart) (hl : (Kl K).stackTraces = false) {y0 o2 o3 c : Nat} {fw : Nat → UInt64} {fz : Nat → Int32} {cs : Nat → Int32 × Int32} {gs : Nat → GT} {ps : Nat → PT} {nR : Nat} {rs : Nat → RT} {k : KT} {dmp day : Int32} {h : HM} (J : LJ (Kt K) y0 o2 o3 fw fz c cs gs ps nR rs k dmp day h) {s : Nat} (hs : s < 3)
    (kk : WW K (28 * s + 20, 168 * s + 120) 44 [some (.ref y0), some (.ref (Kt K 11)), some (.int (nI s)), some (.int (sp_cnt (fun i => decide (i < 10 ∧ qSh (ps i).2.2 = nI s)) 10)), some (.int (nI 10))] [] h)
    : ∀ j : Nat, j ≤ 10 → WW K (28 * s + 2 * j, 168 * s + 12 * j) 12 [some (.ref y0), some (.ref (Kt K 11)), some (.int (nI s)), some (.int (sp_cnt (fun i => decide (i < 10 ∧ qSh (ps i).2.2 = nI s)) j)), some (.int (nI j))] [] h := by
  refine up_ind ?_
  intro j hj ih  
  obtain ⟨fs, hy0⟩ := J.y
  refine w_iload C dL_areApart_12 (by rfl) ?_
  refine w_bipush (v := (10)) C dL_areApart_14 (by rfl) ?_
  refine w_icmp_ge (tgt := 44) C dL_areApart_16 (by rfl) (fun c_16 => ?_) (fun c_16 => ?_)
  · have e3 : ¬ j < 10 := fun q => nI_ge q (by decide) c_16
    obtain rfl : j = 10 := by omega
    exact kk
  · have hj3 : j < 10 := Nat.not_le.mp (fun q => c_16 (nI_le (a := 10) q (by omega)))
    refine w_iload_n C dL_areApart_19 (by rfl) ?_
    first | refine w_aload_n C dL_areApart_20 (by rfl) ?_ | refine w_aload_nN C dL_areApart_20 (by rfl) ?_
    refine w_iload C dL_areApart_21 (by rfl) ?_
    refine w_iconst (v := 3) C dL_areApart_23 (by rfl) ?_
    refine cx_L_87 C (q_ofPot hl J hj3 (by decide)) hy0 (by rfl) (by rfl) ⟨show 28 * s + 2 * j + 2 ≤ 170 by omega, show 168 * s + 12 * j + 12 ≤ 1100 by omega⟩ (by rfl) dL_areApart_24 (fun z1 h1 p1 => ?_) (fun E hx px => px.elim)
    obtain ⟨rfl, rfl⟩ := p1
    refine w_iload_n C dL_areApart_27 (by rfl) ?_
    refine w_icmp_ne (tgt := 35) C dL_areApart_28 (by rfl) (fun c_28 => ?_) (fun c_28 => ?_)
    · refine w_iconst (v := 0) C dL_areApart_35 (by rfl) ?_
      refine w_iadd C dL_areApart_36 ?_
      rw [cnt_f (p := (fun i => decide (i < 10 ∧ qSh (ps i).2.2 = nI s))) (decide_eq_false (fun w => c_28 w.2))]
      refine w_istore_3 C dL_areApart_37 (by first | trivial | rfl) ?_
      refine w_iinc_4 (v := _ + (1)) C dL_areApart_38 (by rfl) (by first | trivial | rfl) ?_
      refine w_goto (tgt := 12) C dL_areApart_41 (by rfl) ?_
      rw [nI_1 j]
      refine w_widen (n' := (28 * s + 2 * (j + 1), 168 * s + 12 * (j + 1))) ?_ (show 28 * s + 2 * j + 2 ≤ 28 * s + 2 * (j + 1) by omega) (show 168 * s + 12 * j + 12 ≤ 168 * s + 12 * (j + 1) by omega)
      exact w_sub (ih hj3) (by repeat' first | exact trivial | rfl | constructor)
    · refine w_iconst (v := 1) C dL_areApart_31 (by rfl) ?_
      refine w_goto (tgt := 36) C dL_areApart_32 (by rfl) ?_
      refine w_iadd C dL_areApart_36 ?_
      rw [cnt_t (p := (fun i => decide (i < 10 ∧ qSh (ps i).2.2 = nI s))) (decide_eq_true ⟨hj3, c_28⟩)]
      refine w_istore_3 C dL_areApart_37 (by first | trivial | rfl) ?_
      refine w_iinc_4 (v := _ + (1)) C dL_areApart_38 (by rfl) (by first | trivial | rfl) ?_
      refine w_goto (tgt := 12) C dL_areApart_41 (by rfl) ?_
      rw [nI_1 j]
      refine w_widen (n' := (28 * s + 2 * (j + 1), 168 * s + 12 * (j + 1))) ?_ (show 28 * s + 2 * j + 2 ≤ 28 * s + 2 * (j + 1) by omega) (show 168 * s + 12 * j + 12 ≤ 168 * s + 12 * (j + 1) by omega)
      exact w_sub (ih hj3) (by repeat' first | exact trivial | rfl | constructor)

set_option maxHeartbeats 4000000 in
set_option maxRecDepth 100000 in
theorem lp_L_apart2 {K : KC} (C : CX K RL cL_areApart 5 rq_apart) (hl : (Kl K).stackTraces = false) {y0 o2 o3 c : Nat} {fw : Nat → UInt64} {fz : Nat → Int32} {cs : Nat → Int32 × Int32} {gs : Nat → GT} {ps : Nat → PT} {nR : Nat} {rs : Nat → RT} {k : KT} {dmp day : Int32} {h : HM} (J : LJ (Kt K) y0 o2 o3 fw fz c cs gs ps nR rs k dmp day h) (hA : aps 10 ps)
    (kk : WW K (84, 504) 90 [some (.ref y0), some (.ref (Kt K 11)), some (.int (nI 3)), none, none] [] h)
    : ∀ s : Nat, s ≤ 3 → WW K (28 * s, 168 * s) 2 [some (.ref y0), some (.ref (Kt K 11)), some (.int (nI s)), none, none] [] h := by
  refine up_ind ?_
  intro s hs ih  
  obtain ⟨fs, hy0⟩ := J.y
  have o := J.ok
  refine w_iload_n C dL_areApart_2 (by rfl) ?_
  refine w_iconst (v := 3) C dL_areApart_3 (by rfl) ?_
  refine w_icmp_ge (tgt := 90) C dL_areApart_4 (by rfl) (fun c_4 => ?_) (fun c_4 => ?_)
  · have e3 : ¬ s < 3 := fun q => nI_ge q (by decide) c_4
    obtain rfl : s = 3 := by omega
    exact w_sub kk (by repeat' first | exact trivial | rfl | constructor)
  · have hs3 : s < 3 := Nat.not_le.mp (fun q => c_4 (nI_le (a := 3) q (by omega)))
    refine w_iconst (v := 0) C dL_areApart_7 (by rfl) ?_
    refine w_istore_3 C dL_areApart_8 (by first | trivial | rfl) ?_
    refine w_iconst (v := 0) C dL_areApart_9 (by rfl) ?_
    refine w_istore_4 C dL_areApart_10 (by first | trivial | rfl) ?_
    refine lp_L_apart1 C hl J hs3 ?_ 0 (by decide)
    first | refine w_aload_n C dL_areApart_44 (by rfl) ?_ | refine w_aload_nN C dL_areApart_44 (by rfl) ?_
    refine w_iload_n C dL_areApart_45 (by rfl) ?_
    refine w_iconst (v := 2) C dL_areApart_46 (by rfl) ?_
    refine cx_L_111 C (q_ofShelf hl J hs3 (by decide)) hy0 (by rfl) (by rfl) ⟨show 28 * s + 20 + 2 ≤ 170 by omega, show 168 * s + 120 + 12 ≤ 1100 by omega⟩ (by rfl) dL_areApart_47 (fun z1 h1 p1 => ?_) (fun E hx px => px.elim)
    obtain ⟨rfl, rfl⟩ := p1
    rw [shelf_2]
    refine w_iload_n C dL_areApart_50 (by rfl) ?_
    refine w_icmp_ne (tgt := 82) C dL_areApart_51 (by rfl) (fun c_51 => ?_) (fun c_51 => ?_)
    · exact absurd ap_cnt c_51
    · first | refine w_aload_n C dL_areApart_54 (by rfl) ?_ | refine w_aload_nN C dL_areApart_54 (by rfl) ?_
      refine w_iload_n C dL_areApart_55 (by rfl) ?_
      refine w_iconst (v := 1) C dL_areApart_56 (by rfl) ?_
      refine cx_L_111 C (q_ofShelf hl J hs3 (by decide)) hy0 (by rfl) (by rfl) ⟨show 28 * s + 20 + 2 + 2 ≤ 170 by omega, show 168 * s + 120 + 12 + 12 ≤ 1100 by omega⟩ (by rfl) dL_areApart_57 (fun z2 h2 p2 => ?_) (fun E hx px => px.elim)
      obtain ⟨rfl, rfl⟩ := p2
      rw [shelf_1]
      refine w_iload_n C dL_areApart_60 (by rfl) ?_
      refine w_iadd C dL_areApart_61 ?_
      refine w_bipush (v := (10)) C dL_areApart_62 (by rfl) ?_
      refine w_icmp_gt (tgt := 82) C dL_areApart_64 (by rfl) (fun c_64 => ?_) (fun c_64 => ?_)
      · exact absurd c_64 (Int32.not_lt.mpr (by have w := ap_free hs3 o.ces hA; rw [ap_cnt] at w; exact w))
      · first | refine w_aload_n C dL_areApart_67 (by rfl) ?_ | refine w_aload_nN C dL_areApart_67 (by rfl) ?_
        refine w_iload_n C dL_areApart_68 (by rfl) ?_
        refine w_iconst (v := 3) C dL_areApart_69 (by rfl) ?_
        refine cx_L_111 C (q_ofShelf hl J hs3 (by decide)) hy0 (by rfl) (by rfl) ⟨show 28 * s + 20 + 2 + 2 + 2 ≤ 170 by omega, show 168 * s + 120 + 12 + 12 + 12 ≤ 1100 by omega⟩ (by rfl) dL_areApart_70 (fun z3 h3 p3 => ?_) (fun E hx px => px.elim)
        obtain ⟨rfl, rfl⟩ := p3
        rw [shelf_3]
        first | refine w_aload_n C dL_areApart_73 (by rfl) ?_ | refine w_aload_nN C dL_areApart_73 (by rfl) ?_
        refine w_iload_n C dL_areApart_74 (by rfl) ?_
        refine w_iconst (v := 1) C dL_areApart_75 (by rfl) ?_
        refine cx_L_111 C (q_ofShelf hl J hs3 (by decide)) hy0 (by rfl) (by rfl) ⟨show 28 * s + 20 + 2 + 2 + 2 + 2 ≤ 170 by omega, show 168 * s + 120 + 12 + 12 + 12 + 12 ≤ 1100 by omega⟩ (by rfl) dL_areApart_76 (fun z4 h4 p4 => ?_) (fun E hx px => px.elim)
        obtain ⟨rfl, rfl⟩ := p4
        rw [shelf_1]
        refine w_icmp_le (tgt := 84) C dL_areApart_79 (by rfl) (fun c_79 => ?_) (fun c_79 => ?_)
        · refine w_iinc_2 (v := _ + (1)) C dL_areApart_84 (by rfl) (by first | trivial | rfl) ?_
          refine w_goto (tgt := 2) C dL_areApart_87 (by rfl) ?_
          rw [nI_1 s]
          refine w_widen (n' := (28 * (s + 1), 168 * (s + 1))) ?_ (show 28 * s + 20 + 2 + 2 + 2 + 2 ≤ 28 * (s + 1) by omega) (show 168 * s + 120 + 12 + 12 + 12 + 12 ≤ 168 * (s + 1) by omega)
          exact w_sub (ih hs3) (by repeat' first | exact trivial | rfl | constructor)
        · exact absurd (ap_row hs3 o.ces hA) c_79

set_option maxHeartbeats 4000000 in
set_option maxRecDepth 100000 in
theorem lp_L_apart3 {K : KC} (C : CX K RL cL_areApart 5 rq_apart) (hl : (Kl K).stackTraces = false) {y0 o2 o3 c : Nat} {fw : Nat → UInt64} {fz : Nat → Int32} {cs : Nat → Int32 × Int32} {gs : Nat → GT} {ps : Nat → PT} {nR : Nat} {rs : Nat → RT} {k : KT} {dmp day : Int32} {h : HM} (J : LJ (Kt K) y0 o2 o3 fw fz c cs gs ps nR rs k dmp day h) (hA : aps 10 ps) (hW : ∀ i, i < 10 → qWd (ps i).2.2 = 1 + lbl (lcl (Kt K) (nI i)) 4) (hL : scL (Kt K) ≤ 260) {q : Nat} (nq : h q = none)
    (kk : ∀ (hh : HM) (fT : Nat → Int32), Up h q (.inl (Kt K 0, 3, .inl fT)) hh → WW K (165, 987) 179 [some (.ref y0), some (.ref (Kt K 11)), some (.ref q), some (.int (nI 10)), none] [] hh)
    : ∀ j : Nat, j ≤ 10 → ∀ (hh : HM) (fT : Nat → Int32),  (u : Up h q (.inl (Kt K 0, 3, .inl fT)) hh) → (hT : ∀ s, s < 3 → fT s = sp_tk 10 ps (nI s) j) → WW K (85 + 8 * j, 507 + 48 * j) 96 [some (.ref y0), some (.ref (Kt K 11)), some (.ref q), some (.int (nI j)), none] [] hh := by
  refine up_ind ?_
  intro j hj ih hh fT u hT
  have J2 := J.new nq u
  obtain ⟨fs, hy2⟩ := J2.y
  have o := J.ok
  have hq := u.self
  refine w_iload_n C dL_areApart_96 (by rfl) ?_
  refine w_bipush (v := (10)) C dL_areApart_97 (by rfl) ?_
  refine w_icmp_ge (tgt := 179) C dL_areApart_99 (by rfl) (fun c_99 => ?_) (fun c_99 => ?_)
  · have e3 : ¬ j < 10 := fun q => nI_ge q (by decide) c_99
    obtain rfl : j = 10 := by omega
    exact kk _ _ u
  · have hj3 : j < 10 := Nat.not_le.mp (fun q => c_99 (nI_le (a := 10) q (by omega)))
    first | refine w_aload_n C dL_areApart_102 (by rfl) ?_ | refine w_aload_nN C dL_areApart_102 (by rfl) ?_
    refine w_iload_n C dL_areApart_103 (by rfl) ?_
    refine w_iconst (v := 3) C dL_areApart_104 (by rfl) ?_
    refine cx_L_87 C (q_ofPot hl J2 hj3 (by decide)) hy2 (by rfl) (by rfl) ⟨show 85 + 8 * j + 2 ≤ 170 by omega, show 507 + 48 * j + 12 ≤ 1100 by omega⟩ (by rfl) dL_areApart_105 (fun z1 h1 p1 => ?_) (fun E hx px => px.elim)
    obtain ⟨rfl, rfl⟩ := p1
    refine w_if_ge (tgt := 114) C dL_areApart_108 (by rfl) (fun c_108 => ?_) (fun c_108 => ?_)
    · try simp only [cg_ge, cg_gt, cl_gt, cl_le, cl_eq, cl_lt, cl_ge, bi_eq0, bi_ne0, bI_eq0, Decidable.not_not, Bool.not_eq_false] at c_108
      obtain ⟨s, hs, es⟩ := ge0_nI (o.2.2.2.2.2.2.1 j hj3).sh c_108
      obtain ⟨ap1, ap2⟩ := ap_at hs o.ces hA hj3 es
      refine w_iconst (v := 2) C dL_areApart_114 (by rfl) ?_
      first | refine w_aload_n C dL_areApart_115 (by rfl) ?_ | refine w_aload_nN C dL_areApart_115 (by rfl) ?_
      refine w_iload_n C dL_areApart_116 (by rfl) ?_
      refine cl_L_12 C (m_L_cell hl (a := nI j) (by rw [nI_toInt (by omega)]; omega) hL) (by rfl) (by rfl) ⟨show 85 + 8 * j + 2 + 0 ≤ 170 by omega, show 507 + 48 * j + 12 + 0 ≤ 1100 by omega⟩ (by rfl) dL_areApart_117 (fun z9 h2 p2 => ?_)
      obtain ⟨rfl, rfl⟩ := p2
      refine w_iconst (v := 4) C dL_areApart_120 (by rfl) ?_
      refine cl_L_18 C (m_L_below hl (lcl (Kt K) (nI j)) 4 (by decide)) (by rfl) (by rfl) ⟨show 85 + 8 * j + 2 + 0 + 0 ≤ 170 by omega, show 507 + 48 * j + 12 + 0 + 0 ≤ 1100 by omega⟩ (by rfl) dL_areApart_121 (fun z8 h3 p3 => ?_)
      obtain ⟨rfl, rfl⟩ := p3
      refine w_ishl C dL_areApart_124 ?_
      refine w_iconst (v := 1) C dL_areApart_125 (by rfl) ?_
      refine w_isub C dL_areApart_126 ?_
      first | refine w_aload_n C dL_areApart_127 (by rfl) ?_ | refine w_aload_nN C dL_areApart_127 (by rfl) ?_
      refine w_iload_n C dL_areApart_128 (by rfl) ?_
      refine w_iconst (v := 4) C dL_areApart_129 (by rfl) ?_
      refine cx_L_87 C (q_ofPot hl J2 hj3 (by decide)) hy2 (by rfl) (by rfl) ⟨show 85 + 8 * j + 2 + 0 + 0 + 2 ≤ 170 by omega, show 507 + 48 * j + 12 + 0 + 0 + 12 ≤ 1100 by omega⟩ (by rfl) dL_areApart_130 (fun z4 h4 p4 => ?_) (fun E hx px => px.elim)
      obtain ⟨rfl, rfl⟩ := p4
      refine w_ishl C dL_areApart_133 ?_
      rw [show (((2 : Int32) <<< (lbl (lcl (Kt K) (nI j)) 4 &&& 31)) - 1) <<< (sp_ofPot gs (ps j) 4 &&& 31) = sp_mk (ps j) from cells_eq (hW j hj3)]
      refine w_istore_4 C dL_areApart_134 (by first | trivial | rfl) ?_
      first | refine w_aload_n C dL_areApart_136 (by rfl) ?_ | refine w_aload_nN C dL_areApart_136 (by rfl) ?_
      first | refine w_aload_n C dL_areApart_137 (by rfl) ?_ | refine w_aload_nN C dL_areApart_137 (by rfl) ?_
      refine w_iload_n C dL_areApart_138 (by rfl) ?_
      refine w_iconst (v := 3) C dL_areApart_139 (by rfl) ?_
      refine cx_L_87 C (q_ofPot hl J2 hj3 (by decide)) hy2 (by rfl) (by rfl) ⟨show 85 + 8 * j + 2 + 0 + 0 + 2 + 2 ≤ 170 by omega, show 507 + 48 * j + 12 + 0 + 0 + 12 + 12 ≤ 1100 by omega⟩ (by rfl) dL_areApart_140 (fun z5 h5 p5 => ?_) (fun E hx px => px.elim)
      obtain ⟨rfl, rfl⟩ := p5
      rw [show sp_ofPot gs (ps j) 3 = nI s from es]
      refine w_ialdn C hq hs (by decide) dL_areApart_143 ?_
      refine w_iload C dL_areApart_144 (by rfl) ?_
      refine w_iand C dL_areApart_146 ?_
      refine w_if_ne (tgt := 158) C dL_areApart_147 (by rfl) (fun c_147 => ?_) (fun c_147 => ?_)
      · exact absurd (by rw [hT s hs]; exact ap1) c_147
      · try simp only [cg_ge, cg_gt, cl_gt, cl_le, cl_eq, cl_lt, cl_ge, bi_eq0, bi_ne0, bI_eq0, Decidable.not_not, Bool.not_eq_false] at c_147
        refine w_iload C dL_areApart_150 (by rfl) ?_
        refine w_sipush (v := (1023)) C dL_areApart_152 (by rfl) ?_
        refine w_icmp_le (tgt := 160) C dL_areApart_155 (by rfl) (fun c_155 => ?_) (fun c_155 => ?_)
        · first | refine w_aload_n C dL_areApart_160 (by rfl) ?_ | refine w_aload_nN C dL_areApart_160 (by rfl) ?_
          first | refine w_aload_n C dL_areApart_161 (by rfl) ?_ | refine w_aload_nN C dL_areApart_161 (by rfl) ?_
          refine w_iload_n C dL_areApart_162 (by rfl) ?_
          refine w_iconst (v := 3) C dL_areApart_163 (by rfl) ?_
          refine cx_L_87 C (q_ofPot hl J2 hj3 (by decide)) hy2 (by rfl) (by rfl) ⟨show 85 + 8 * j + 2 + 0 + 0 + 2 + 2 + 2 ≤ 170 by omega, show 507 + 48 * j + 12 + 0 + 0 + 12 + 12 + 12 ≤ 1100 by omega⟩ (by rfl) dL_areApart_164 (fun z6 h6 p6 => ?_) (fun E hx px => px.elim)
          obtain ⟨rfl, rfl⟩ := p6
          rw [show sp_ofPot gs (ps j) 3 = nI s from es]
          first | refine w_dup2 C dL_areApart_167 (by rfl) (by rfl) ?_ | refine w_dup2d C dL_areApart_167 (by rfl) ?_
          refine w_ialdn C hq hs (by decide) dL_areApart_168 ?_
          refine w_iload C dL_areApart_169 (by rfl) ?_
          refine w_ior C dL_areApart_171 ?_
          refine w_iastn C hq hs (by decide) dL_areApart_172 (fun h9 u9 => ?_)
          refine w_iinc_3 (v := _ + (1)) C dL_areApart_173 (by rfl) (by first | trivial | rfl) ?_
          refine w_goto (tgt := 96) C dL_areApart_176 (by rfl) ?_
          rw [nI_1 j]
          refine w_widen (n' := (85 + 8 * (j + 1), 507 + 48 * (j + 1))) ?_ (show 85 + 8 * j + 2 + 0 + 0 + 2 + 2 + 2 ≤ 85 + 8 * (j + 1) by omega) (show 507 + 48 * j + 12 + 0 + 0 + 12 + 12 + 12 ≤ 507 + 48 * (j + 1) by omega)
          refine w_sub (ih hj3 _ _ (u.tr u9) (fun s' hs' => ?_)) (by repeat' first | exact trivial | rfl | constructor)
          unfold upd
          split
          · rename_i w
            subst w
            rw [hT s' hs']
            exact tk_t hj3 es
          · rename_i w
            exact (hT s' hs').trans (tk_f (fun v => w (nI_inj (by omega) (by omega) (v.2.symm.trans es))))
        · exact absurd ap2 c_155
    · try simp only [cg_ge, cg_gt, cl_gt, cl_le, cl_eq, cl_lt, cl_ge, bi_eq0, bi_ne0, bI_eq0, Decidable.not_not, Bool.not_eq_false] at c_108
      refine w_goto (tgt := 173) C dL_areApart_111 (by rfl) ?_
      refine w_iinc_3 (v := _ + (1)) C dL_areApart_173 (by rfl) (by first | trivial | rfl) ?_
      refine w_goto (tgt := 96) C dL_areApart_176 (by rfl) ?_
      rw [nI_1 j]
      refine w_widen (n' := (85 + 8 * (j + 1), 507 + 48 * (j + 1))) ?_ (show 85 + 8 * j + 2 ≤ 85 + 8 * (j + 1) by omega) (show 507 + 48 * j + 12 ≤ 507 + 48 * (j + 1) by omega)
      exact w_sub (ih hj3 _ _ u (fun s hs => (hT s hs).trans (tk_f (fun w => lt0_nI c_108 hs w.2)))) (by repeat' first | exact trivial | rfl | constructor)

set_option maxHeartbeats 4000000 in
set_option maxRecDepth 100000 in
theorem m_L_areApart {l : Launch} {D : va_G} {tc : Nat → ClassId} (hl : l.stackTraces = false) {h : HM} {y0 o2 o3 c : Nat} {fw : Nat → UInt64} {fz : Nat → Int32} {cs : Nat → Int32 × Int32} {gs : Nat → GT} {ps : Nat → PT} {nR : Nat} {rs : Nat → RT} {k : KT} {dmp day : Int32} (J : LJ tc y0 o2 o3 fw fz c cs gs ps nR rs k dmp day h) (hA : aps 10 ps) (hW : ∀ i, i < 10 → qWd (ps i).2.2 = 1 + lbl (lcl tc (nI i)) 4) (hL : scL tc ≤ 260) :
    CT l D tc yL_areApart cL_areApart 5 (some FieldType.boolean) rq_apart [.ref y0, .ref (tc 11)] h (rI (fun z h' => z = 1 ∧ ∀ a e, h a = some e → h' a = some e)) := by
  refine CT.start [some (.ref y0), some (.ref (tc 11)), none, none, none] (by decide) hl rfl rfl (fun K C M => ?_)
  obtain ⟨rfl, rfl, rfl, -⟩ := id M
  have C : CX K RL cL_areApart 5 rq_apart := C
  refine w_iconst (v := 0) C dL_areApart_0 (by rfl) ?_
  refine w_istore_2 C dL_areApart_1 (by first | trivial | rfl) ?_
  refine lp_L_apart2 C hl J hA ?_ 0 (by decide)
  refine w_iconst (v := 3) C dL_areApart_90 (by rfl) ?_
  refine w_newain C gw_766 (by decide) (by rfl) (by decide) (by decide) (by decide) dL_areApart_91 (fun q h1 n1 u1 => ?_)
  have f_q := u1.self
  have nq := n1
  have uq := u1
  first | refine w_astore_2 C dL_areApart_93 (by first | trivial | rfl) ?_ | refine w_astore_2N C dL_areApart_93 (by first | trivial | rfl) ?_
  refine w_iconst (v := 0) C dL_areApart_94 (by rfl) ?_
  refine w_istore_3 C dL_areApart_95 (by first | trivial | rfl) ?_
  refine lp_L_apart3 C hl J hA hW hL nq (fun h8 f8 uu => ?_) 0 (by decide) _ _ uq (fun s hs => rfl)
  refine w_iconst (v := 1) C dL_areApart_179 (by rfl) ?_
  refine w_zret C M dL_areApart_180 ⟨by decide, by decide⟩ (by rfl) ⟨_, rfl, ?_⟩
  exact ⟨rfl, fun a e he => uu.new he nq⟩
