/-! BEST -/
def sp_best (gs : Nat → GT) (kg : UInt64) (cone : Int32) (nG : Nat) : Nat → Option Nat
  | 0 => none
  | j + 1 => if j < nG ∧ sp_marks (sp_melts (gs j)) (sp_growth (gs j)) kg cone = 0 then (match sp_best gs kg cone nG j with
      | none => some j
      | some b => if dlt (sp_dist (sp_growth (gs j)) kg) (sp_dist (sp_growth (gs b)) kg) then some j else some b) else sp_best gs kg cone nG j
abbrev bestI (b : Option Nat) : Int32 := match b with
  | none => -1
  | some b => nI b
section BEST
variable {gs : Nat → GT} {kg : UInt64} {cone : Int32} {nG j b : Nat}
theorem best_no (h : ¬ (j < nG ∧ sp_marks (sp_melts (gs j)) (sp_growth (gs j)) kg cone = 0)) : sp_best gs kg cone nG (j + 1) = sp_best gs kg cone nG j := if_neg h
theorem best_n (h : j < nG ∧ sp_marks (sp_melts (gs j)) (sp_growth (gs j)) kg cone = 0) (e : sp_best gs kg cone nG j = none) : sp_best gs kg cone nG (j + 1) = some j := by
  unfold sp_best
  rw [if_pos h, e]
theorem best_y (h : j < nG ∧ sp_marks (sp_melts (gs j)) (sp_growth (gs j)) kg cone = 0) (e : sp_best gs kg cone nG j = some b) (w : dlt (sp_dist (sp_growth (gs j)) kg) (sp_dist (sp_growth (gs b)) kg)) : sp_best gs kg cone nG (j + 1) = some j := by
  unfold sp_best
  rw [if_pos h, e]
  exact if_pos w
theorem best_s (h : j < nG ∧ sp_marks (sp_melts (gs j)) (sp_growth (gs j)) kg cone = 0) (e : sp_best gs kg cone nG j = some b) (w : ¬ dlt (sp_dist (sp_growth (gs j)) kg) (sp_dist (sp_growth (gs b)) kg)) : sp_best gs kg cone nG (j + 1) = some b := by
  unfold sp_best
  rw [if_pos h, e]
  exact if_neg w
end BEST
theorem best_lt {gs : Nat → GT} {kg : UInt64} {cone : Int32} {nG : Nat} : ∀ (j b : Nat), sp_best gs kg cone nG j = some b → b < nG
  | 0, b, e => by cases e
  | j + 1, b, e => by
    by_cases h : j < nG ∧ sp_marks (sp_melts (gs j)) (sp_growth (gs j)) kg cone = 0
    · cases hb : sp_best gs kg cone nG j with
      | none => rw [best_n h hb] at e; cases e; exact h.1
      | some c =>
        by_cases w : dlt (sp_dist (sp_growth (gs j)) kg) (sp_dist (sp_growth (gs c)) kg)
        · rw [best_y h hb w] at e; cases e; exact h.1
        · rw [best_s h hb w] at e; cases e; exact best_lt j _ hb
    · rw [best_no h] at e; exact best_lt j b e

set_option maxHeartbeats 4000000 in
set_option maxRecDepth 100000 in
theorem lp_X7_best {K : KC} (C : CX K RX7 cX7_best 9 rm_X7_best) (hl : (Kl K).stackTraces = false) {y0 cA gA pA oA pr ra re rw tr tw : Nat} {ca ga pa oa : Nat → Nat} {f : Nat → Option Nat} {hb : UInt64} {hbt : UInt64} {dmt : Int32} {kt : KT} {nC : Nat} {cs : Nat → Int32 × Int32} {nG : Nat} {gs : Nat → GT} {nP : Nat} {ps : Nat → PT} {nO : Nat} {os : Nat → OT} {nR : Nat} {rs : Nat → RT} {k : KT} {dmp : Int32} {day : Int32} {pur : Int32} {rf : Int32} {h : HM} (u : Yh (Kt K) y0 cA gA pA oA pr ra re rw tr tw ca ga pa oa f hb hbt dmt kt nC cs nG gs nP ps nO os nR rs k dmp day pur rf h) {cl cone : Int32} {c : Nat} (hc : c < nC) (hn : ∀ g, g < nG → vf_n64 (FP.dsub (sp_growth (gs g)) (sp_cg (cs c).2)) ∧ vf_n64 (FP.dsub (sp_cg (cs c).2) (sp_growth (gs g))))
    (kk : WW K (1, 6) 104 [some (.ref y0), some (.int cl), some (.int cone), some (.ref (ca c)), some (va_rf ((sp_best gs (sp_cg (cs c).2) cone nG 4).map ga)), some (.ref gA), some (.int (nI 4)), some (.int (nI 4)), none] [] h)
    : ∀ j : Nat, j ≤ 4 → WW K (1, 6) 44 [some (.ref y0), some (.int cl), some (.int cone), some (.ref (ca c)), some (va_rf ((sp_best gs (sp_cg (cs c).2) cone nG j).map ga)), some (.ref gA), some (.int (nI 4)), some (.int (nI j)), none] [] h := by
  refine up_ind ?_
  intro j hj ih  
  obtain ⟨yy, yc, yg, yp, yo, ypr, yra, yre, yrw, ytr, ytw, yC, yG, yP, yO, yR, yn1, yn2, yn3, yn4⟩ := id u
  have hck := yC c hc
  refine w_iload C dX7_best_44 (by rfl) ?_
  refine w_iload C dX7_best_46 (by rfl) ?_
  refine w_icmp_ge (tgt := 104) C dX7_best_48 (by rfl) (fun c_48 => ?_) (fun c_48 => ?_)
  · have e3 : ¬ j < 4 := fun q => nI_ge q (show 4 < 2 ^ 31 by decide) c_48
    obtain rfl : j = 4 := by omega
    exact kk
  · have hj3 : j < 4 := Nat.not_le.mp (fun q => c_48 (nI_le (a := 4) q (by omega)))
    first | refine w_aload C dX7_best_51 (by rfl) ?_ | refine w_aloadN C dX7_best_51 (by rfl) ?_
    refine w_iload C dX7_best_53 (by rfl) ?_
    refine w_aaldn C 4 yg (by rfl) hj3 (by decide) dX7_best_55 ?_
    by_cases hjn : j < nG
    · rw [show row9 nG ga j = some (ga j) from if_pos hjn]
      change WW _ _ _ _ (.ref (ga j) :: _) _
      have hgj := yG j hjn
      obtain ⟨n1, n2⟩ := hn j hjn
      first | refine w_astore_8 C dX7_best_56 (by first | trivial | rfl) ?_ | refine w_astore_8N C dX7_best_56 (by first | trivial | rfl) ?_
      first | refine w_aload C dX7_best_58 (by rfl) ?_ | refine w_aloadN C dX7_best_58 (by rfl) ?_
      refine w_ifnull C dX7_best_60 ?_
      first | refine w_aload C dX7_best_63 (by rfl) ?_ | refine w_aloadN C dX7_best_63 (by rfl) ?_
      first | refine w_aload_n C dX7_best_65 (by rfl) ?_ | refine w_aload_nN C dX7_best_65 (by rfl) ?_
      refine w_iload_n C dX7_best_66 (by rfl) ?_
      refine cl_X7_363 C (m_X1_marksOn hl hgj hck n1 n2) hgj (by rfl) (by rfl) ⟨by decide, by decide⟩ (by rfl) dX7_best_67 (fun z1 h1 p1 => ?_)
      obtain ⟨rfl, rfl⟩ := p1
      refine w_if_ne (tgt := 98) C dX7_best_70 (by rfl) (fun c_70 => ?_) (fun c_70 => ?_)
      · try simp only [cg_ge, cg_gt, cl_gt, cl_le, cl_eq, cl_lt, cl_ge, bi_eq0, bi_ne0, bI_eq0, Decidable.not_not, Bool.not_eq_false] at c_70
        have e9 := best_no (gs := gs) (kg := (sp_cg (cs c).2)) (cone := cone) (nG := nG) (j := j) (fun w => c_70 w.2)
        refine w_iinc_7 (v := _ + (1)) C dX7_best_98 (by rfl) (by first | trivial | rfl) ?_
        refine w_goto (tgt := 44) C dX7_best_101 (by rfl) ?_
        rw [nI_1 j]
        have ih9 := ih hj3
        rw [e9] at ih9
        exact w_sub ih9 (by repeat' first | exact trivial | rfl | constructor)
      · try simp only [cg_ge, cg_gt, cl_gt, cl_le, cl_eq, cl_lt, cl_ge, bi_eq0, bi_ne0, bI_eq0, Decidable.not_not, Bool.not_eq_false] at c_70
        rcases hbe : sp_best gs (sp_cg (cs c).2) cone nG j with _ | b
        · skip
          first | refine w_aload C dX7_best_73 (by rfl) ?_ | refine w_aloadN C dX7_best_73 (by rfl) ?_
          refine w_ifnullN (tgt := 94) C dX7_best_75 (by rfl) ?_
          first | refine w_aload C dX7_best_94 (by rfl) ?_ | refine w_aloadN C dX7_best_94 (by rfl) ?_
          first | refine w_astore_4 C dX7_best_96 (by first | trivial | rfl) ?_ | refine w_astore_4N C dX7_best_96 (by first | trivial | rfl) ?_
          have e9 := best_n ⟨hjn, c_70⟩ hbe
          refine w_iinc_7 (v := _ + (1)) C dX7_best_98 (by rfl) (by first | trivial | rfl) ?_
          refine w_goto (tgt := 44) C dX7_best_101 (by rfl) ?_
          rw [nI_1 j]
          have ih9 := ih hj3
          rw [e9] at ih9
          exact w_sub ih9 (by repeat' first | exact trivial | rfl | constructor)
        · have hgb := yG b (best_lt j b hbe)
          obtain ⟨m1, m2⟩ := hn b (best_lt j b hbe)
          first | refine w_aload C dX7_best_73 (by rfl) ?_ | refine w_aloadN C dX7_best_73 (by rfl) ?_
          refine w_ifnull C dX7_best_75 ?_
          first | refine w_aload C dX7_best_78 (by rfl) ?_ | refine w_aloadN C dX7_best_78 (by rfl) ?_
          first | refine w_aload_n C dX7_best_80 (by rfl) ?_ | refine w_aload_nN C dX7_best_80 (by rfl) ?_
          refine cl_X7_367 C (m_X1_distanceTo hl hgj hck n1) hgj (by rfl) (by rfl) ⟨by decide, by decide⟩ (by rfl) dX7_best_81 (fun z2 h2 p2 => ?_)
          obtain ⟨rfl, rfl⟩ := p2
          first | refine w_aload C dX7_best_84 (by rfl) ?_ | refine w_aloadN C dX7_best_84 (by rfl) ?_
          first | refine w_aload_n C dX7_best_86 (by rfl) ?_ | refine w_aload_nN C dX7_best_86 (by rfl) ?_
          refine cl_X7_367 C (m_X1_distanceTo hl hgb hck m1) hgb (by rfl) (by rfl) ⟨by decide, by decide⟩ (by rfl) dX7_best_87 (fun z3 h3 p3 => ?_)
          obtain ⟨rfl, rfl⟩ := p3
          refine w_dcmp C dX7_best_90 ?_
          refine w_if_ge (tgt := 98) C dX7_best_91 (by rfl) (fun c_91 => ?_) (fun c_91 => ?_)
          · try simp only [cg_ge, cg_gt, cl_gt, cl_le, cl_eq, cl_lt, cl_ge, bi_eq0, bi_ne0, bI_eq0, Decidable.not_not, Bool.not_eq_false] at c_91
            have e9 := best_s ⟨hjn, c_70⟩ hbe c_91
            refine w_iinc_7 (v := _ + (1)) C dX7_best_98 (by rfl) (by first | trivial | rfl) ?_
            refine w_goto (tgt := 44) C dX7_best_101 (by rfl) ?_
            rw [nI_1 j]
            have ih9 := ih hj3
            rw [e9] at ih9
            exact w_sub ih9 (by repeat' first | exact trivial | rfl | constructor)
          · try simp only [cg_ge, cg_gt, cl_gt, cl_le, cl_eq, cl_lt, cl_ge, bi_eq0, bi_ne0, bI_eq0, Decidable.not_not, Bool.not_eq_false] at c_91
            first | refine w_aload C dX7_best_94 (by rfl) ?_ | refine w_aloadN C dX7_best_94 (by rfl) ?_
            first | refine w_astore_4 C dX7_best_96 (by first | trivial | rfl) ?_ | refine w_astore_4N C dX7_best_96 (by first | trivial | rfl) ?_
            have e9 := best_y ⟨hjn, c_70⟩ hbe c_91
            refine w_iinc_7 (v := _ + (1)) C dX7_best_98 (by rfl) (by first | trivial | rfl) ?_
            refine w_goto (tgt := 44) C dX7_best_101 (by rfl) ?_
            rw [nI_1 j]
            have ih9 := ih hj3
            rw [e9] at ih9
            exact w_sub ih9 (by repeat' first | exact trivial | rfl | constructor)
    · rw [show row9 nG ga j = none from if_neg hjn]
      change WW _ _ _ _ (.null :: _) _
      first | refine w_astore_8 C dX7_best_56 (by first | trivial | rfl) ?_ | refine w_astore_8N C dX7_best_56 (by first | trivial | rfl) ?_
      first | refine w_aload C dX7_best_58 (by rfl) ?_ | refine w_aloadN C dX7_best_58 (by rfl) ?_
      refine w_ifnullN (tgt := 98) C dX7_best_60 (by rfl) ?_
      have e9 := best_no (gs := gs) (kg := (sp_cg (cs c).2)) (cone := cone) (nG := nG) (j := j) (fun w => hjn w.1)
      refine w_iinc_7 (v := _ + (1)) C dX7_best_98 (by rfl) (by first | trivial | rfl) ?_
      refine w_goto (tgt := 44) C dX7_best_101 (by rfl) ?_
      rw [nI_1 j]
      have ih9 := ih hj3
      rw [e9] at ih9
      exact w_sub ih9 (by repeat' first | exact trivial | rfl | constructor)

set_option maxHeartbeats 4000000 in
set_option maxRecDepth 100000 in
theorem m_X7_best {l : Launch} {D : va_G} {tc : Nat → ClassId} (hl : l.stackTraces = false) {h : HM} {y0 cA gA pA oA pr ra re rw tr tw : Nat} {ca ga pa oa : Nat → Nat} {f : Nat → Option Nat} {hb : UInt64} {hbt : UInt64} {dmt : Int32} {kt : KT} {nC : Nat} {cs : Nat → Int32 × Int32} {nG : Nat} {gs : Nat → GT} {nP : Nat} {ps : Nat → PT} {nO : Nat} {os : Nat → OT} {nR : Nat} {rs : Nat → RT} {k : KT} {dmp : Int32} {day : Int32} {pur : Int32} {rf : Int32} (Y : Yh tc y0 cA gA pA oA pr ra re rw tr tw ca ga pa oa f hb hbt dmt kt nC cs nG gs nP ps nO os nR rs k dmp day pur rf h) (bC : nC ≤ 3) {cl cone : Int32} (hn : ∀ c, c < nC → ∀ g, g < nG → vf_n64 (FP.dsub (sp_growth (gs g)) (sp_cg (cs c).2)) ∧ vf_n64 (FP.dsub (sp_cg (cs c).2) (sp_growth (gs g)))) :
    CTX l D tc yX7_best cX7_best 9 (some FieldType.int) rm_X7_best [.ref y0, .int cl, .int cone] h (rI (fun z h' => h' = h ∧ ∃ c, c < nC ∧ cl = nI c ∧ (1 ≤ cone ∧ cone ≤ 12) ∧ z = bestI (sp_best gs (sp_cg (cs c).2) cone nG 4))) (fun E h' => (E = "java/lang/IndexOutOfBoundsException" ∧ h' = h ∧ out9 cl nC) ∨ (E = "java/lang/IllegalArgumentException" ∧ h' = h ∧ ¬ out9 cl nC ∧ ¬ (1 ≤ cone ∧ cone ≤ 12))) := by
  refine CTX.start [some (.ref y0), some (.int cl), some (.int cone), none, none, none, none, none, none] (by decide) hl rfl rfl (fun K C M X => ?_)
  obtain ⟨rfl, rfl, rfl, -⟩ := id M
  have C : CX K RX7 cX7_best 9 rm_X7_best := C
  obtain ⟨yy, yc, yg, yp, yo, ypr, yra, yre, yrw, ytr, ytw, yC, yG, yP, yO, yR, yn1, yn2, yn3, yn4⟩ := id Y
  first | refine w_aload_n C dX7_best_0 (by rfl) ?_ | refine w_aload_nN C dX7_best_0 (by rfl) ?_
  refine w_iload_n C dX7_best_1 (by rfl) ?_
  refine cx_X7_106 C (m_X7_clayAt hl Y bC cl) yy (by rfl) (by rfl) ⟨by decide, by decide⟩ (by rfl) dX7_best_2 (fun z0 h1 p1 => ?_) (fun E hx px => w_prop X ⟨by decide, by decide⟩ (Or.inl px))
  obtain ⟨rfl, c, hc, rfl, rfl⟩ := p1
  have no9 : ¬ out9 (nI c) nC := fun w => w (by rw [nI_toInt (by omega)]; omega)
  first | refine w_astore_3 C dX7_best_5 (by first | trivial | rfl) ?_ | refine w_astore_3N C dX7_best_5 (by first | trivial | rfl) ?_
  refine w_iload_n C dX7_best_6 (by rfl) ?_
  refine w_iconst (v := 1) C dX7_best_7 (by rfl) ?_
  refine w_bipush (v := (12)) C dX7_best_8 (by rfl) ?_
  refine cl_X7_74 C (m_X7_isWithin hl cone 1 12) (by rfl) (by rfl) ⟨by decide, by decide⟩ (by rfl) dX7_best_10 (fun z1 h2 p2 => ?_)
  obtain ⟨rfl, rfl⟩ := p2
  refine w_if_ne (tgt := 27) C dX7_best_13 (by rfl) (fun c_13 => ?_) (fun c_13 => ?_)
  · try simp only [cg_ge, cg_gt, cl_gt, cl_le, cl_eq, cl_lt, cl_ge, bi_eq0, bi_ne0, bI_eq0, Decidable.not_not, Bool.not_eq_false] at c_13
    refine w_null C dX7_best_27 ?_
    first | refine w_astore_4 C dX7_best_28 (by first | trivial | rfl) ?_ | refine w_astore_4N C dX7_best_28 (by first | trivial | rfl) ?_
    first | refine w_aload_n C dX7_best_30 (by rfl) ?_ | refine w_aload_nN C dX7_best_30 (by rfl) ?_
    refine gf_X7_17 C yy dX7_best_31 ?_
    first | refine w_astore_5 C dX7_best_34 (by first | trivial | rfl) ?_ | refine w_astore_5N C dX7_best_34 (by first | trivial | rfl) ?_
    first | refine w_aload C dX7_best_36 (by rfl) ?_ | refine w_aloadN C dX7_best_36 (by rfl) ?_
    refine w_alen C 4 yg (by rfl) dX7_best_38 ?_
    refine w_istore_6 C dX7_best_39 (by first | trivial | rfl) ?_
    refine w_iconst (v := 0) C dX7_best_41 (by rfl) ?_
    refine w_istore_7 C dX7_best_42 (by first | trivial | rfl) ?_
    refine lp_X7_best C hl Y hc (hn c hc) ?_ 0 (by decide)
    rcases hbe : sp_best gs (sp_cg (cs c).2) cone nG 4 with _ | b
    · skip
      first | refine w_aload C dX7_best_104 (by rfl) ?_ | refine w_aloadN C dX7_best_104 (by rfl) ?_
      refine w_ifnonnullN C dX7_best_106 ?_
      refine w_iconst (v := (-1)) C dX7_best_109 (by rfl) ?_
      refine w_goto (tgt := 118) C dX7_best_110 (by rfl) ?_
      refine w_iret C M dX7_best_118 ⟨by decide, by decide⟩ ⟨_, rfl, ?_⟩
      exact ⟨rfl, c, hc, rfl, c_13, by rw [hbe]⟩
    · have hgb := yG b (best_lt 4 b hbe)
      first | refine w_aload C dX7_best_104 (by rfl) ?_ | refine w_aloadN C dX7_best_104 (by rfl) ?_
      refine w_ifnonnull (tgt := 113) C dX7_best_106 (by rfl) ?_
      first | refine w_aload C dX7_best_113 (by rfl) ?_ | refine w_aloadN C dX7_best_113 (by rfl) ?_
      refine gf_X7_263 C hgb dX7_best_115 ?_
      refine w_iret C M dX7_best_118 ⟨by decide, by decide⟩ ⟨_, rfl, ?_⟩
      exact ⟨rfl, c, hc, rfl, c_13, by rw [hbe]⟩
  · try simp only [cg_ge, cg_gt, cl_gt, cl_le, cl_eq, cl_lt, cl_ge, bi_eq0, bi_ne0, bI_eq0, Decidable.not_not, Bool.not_eq_false] at c_13
    exact th_X7_78_361_82 C X (by rfl) (by rfl) (by rfl) (by decide) (by decide) (by decide) (by decide) (Or.inr ⟨rfl, rfl, no9, c_13⟩) dX7_best_16 dX7_best_19 dX7_best_20 dX7_best_23 dX7_best_26
