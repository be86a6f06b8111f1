/-! UNLOAD -/
def sp_firep (cs : Nat → Int32 × Int32) (gs : Nat → GT) (cone : Int32) (p : PT) : QT := match p.2.1 with
  | none => sp_fireN cone (cs p.1).1 p.2.2
  | some g => sp_fireG cone (cs p.1).1 (sp_marks (sp_melts (gs g)) (sp_growth (gs g)) (sp_cg (cs p.1).2) cone) p.2.2
abbrev sp_ucone (k : KT) (p : PT) : Int32 := sp_cone (kW k (qSh p.2.2).toNatClampNeg) 12
def sp_unl (cs : Nat → Int32 × Int32) (gs : Nat → GT) (k : KT) (p : PT) : PT := if qSh p.2.2 = -1 then p else sp_lvd (p.1, p.2.1, sp_firep cs gs (sp_ucone k p) p)
theorem unl_no {cs : Nat → Int32 × Int32} {gs : Nat → GT} {k : KT} {p : PT} (h : qSh p.2.2 = -1) : sp_unl cs gs k p = p := if_pos h
theorem unl_yes {cs : Nat → Int32 × Int32} {gs : Nat → GT} {k : KT} {p : PT} (h : ¬ qSh p.2.2 = -1) : sp_unl cs gs k p = sp_lvd (p.1, p.2.1, sp_firep cs gs (sp_ucone k p) p) := if_neg h
theorem ucone_at {k : KT} {p : PT} {s : Nat} (h : qSh p.2.2 = nI s) (h3 : s < 3) : sp_cone (kW k s) 12 = sp_ucone k p := by
  rw [sp_ucone, h, nI_clamp (by omega)]
abbrev sp_clr (k : KT) : KT := (kH k, (if sp_worn (kW k) 3 then FP.fmul 1065091072 (kP k) else kP k), kO k, kL k, kA k, kE k, kC k, kF k, kS k, sp_zero (kW k) 3)

theorem m_pot_fire {l : Launch} {D : va_G} {tc : Nat → ClassId} (hl : l.stackTraces = false) {h : HM} {a : Nat} {ca ga : Nat → Nat} {cs : Nat → Int32 × Int32} {gs : Nat → GT} {p : PT} {cone : Int32} (hf : h a = some (pC9 ca ga p)) (hk : h (ca p.1) = some (cCell (cs p.1).1 (sp_cg (cs p.1).2))) (hg : ∀ g, p.2.1 = some g → h (ga g) = some (gC9 g (gs g)) ∧ vf_n64 (FP.dsub (sp_growth (gs g)) (sp_cg (cs p.1).2)) ∧ vf_n64 (FP.dsub (sp_cg (cs p.1).2) (sp_growth (gs g)))) :
    CT l D tc yX4_fire cX4_fire 3 none rm_X4_fire [.ref a, .int cone] h (rV (fun h' => Up h a (pC9 ca ga (p.1, p.2.1, sp_firep cs gs cone p)) h')) := by
  obtain ⟨c, g, q⟩ := p
  cases g with
  | none => exact m_X4_fireN hl hf hk
  | some g =>
    obtain ⟨g1, g2, g3⟩ := hg g rfl
    exact m_X4_fire hl hf hk g1 g2 g3

set_option maxHeartbeats 4000000 in
set_option maxRecDepth 100000 in
theorem lp_X7_unload {K : KC} (C : CX K RX7 cX7_unload 6 rm_X7_unload) (hl : (Kl K).stackTraces = false) {y0 cA gA pA oA pr ra re rw tr tw : Nat} {ca ga pa oa : Nat → Nat} {f : Nat → Option Nat} {hb : UInt64} {hbt : UInt64} {dmt : Int32} {kt : KT} {nC : Nat} {cs : Nat → Int32 × Int32} {nG : Nat} {gs : Nat → GT} {nP : Nat} {ps : Nat → PT} {nO : Nat} {os : Nat → OT} {nR : Nat} {rs : Nat → RT} {k : KT} {dmp : Int32} {day : Int32} {pur : Int32} {rf : Int32} (hPC : ∀ i, i < nP → (ps i).1 < nC) (hPG : ∀ i, i < nP → ∀ g, (ps i).2.1 = some g → g < nG) (hs : ∀ i, i < nP → ¬ qSh (ps i).2.2 = -1 → ∃ s, s < 3 ∧ qSh (ps i).2.2 = nI s) (hn : ∀ c, c < nC → ∀ g, g < nG → vf_n64 (FP.dsub (sp_growth (gs g)) (sp_cg (cs c).2)) ∧ vf_n64 (FP.dsub (sp_cg (cs c).2) (sp_growth (gs g))))
    (kk : ∀ h', Yh (Kt K) y0 cA gA pA oA pr ra re rw tr tw ca ga pa oa f hb hbt dmt kt nC cs nG gs nP (sp_each nP (sp_unl cs gs k) ps 14) nO os nR rs k dmp day pur rf h' → WW K (0, 0) 104 [some (.ref y0), some (.int (sp_cnt (fun i => decide (i < nP ∧ ¬ qSh (ps i).2.2 = -1 ∧ qSt (sp_firep cs gs (sp_ucone k (ps i)) (ps i)) = 5)) 14)), some (.ref pA), some (.int (nI 14)), some (.int (nI 14)), none] [] h')
    : ∀ j : Nat, j ≤ 14 → ∀ {h : HM},  (u : Yh (Kt K) y0 cA gA pA oA pr ra re rw tr tw ca ga pa oa f hb hbt dmt kt nC cs nG gs nP (sp_each nP (sp_unl cs gs k) ps j) nO os nR rs k dmp day pur rf h) → WW K (0, 0) 33 [some (.ref y0), some (.int (sp_cnt (fun i => decide (i < nP ∧ ¬ qSh (ps i).2.2 = -1 ∧ qSt (sp_firep cs gs (sp_ucone k (ps i)) (ps i)) = 5)) j)), some (.ref pA), some (.int (nI 14)), some (.int (nI j)), none] [] h := by
  refine up_ind ?_
  intro j hj ih h u
  obtain ⟨yy, yc, yg, yp, yo, ypr, yra, yre, yrw, ytr, ytw, yC, yG, yP, yO, yR, yn1, yn2, yn3, yn4⟩ := id u
  refine w_iload C dX7_unload_33 (by rfl) ?_
  refine w_iload_n C dX7_unload_35 (by rfl) ?_
  refine w_icmp_ge (tgt := 104) C dX7_unload_36 (by rfl) (fun c_36 => ?_) (fun c_36 => ?_)
  · have e3 : ¬ j < 14 := fun q => nI_ge q (show 14 < 2 ^ 31 by decide) c_36
    obtain rfl : j = 14 := by omega
    exact kk _ u
  · have hj3 : j < 14 := Nat.not_le.mp (fun q => c_36 (nI_le (a := 14) q (by omega)))
    first | refine w_aload_n C dX7_unload_39 (by rfl) ?_ | refine w_aload_nN C dX7_unload_39 (by rfl) ?_
    refine w_iload C dX7_unload_40 (by rfl) ?_
    refine w_aaldn C 6 yp (by rfl) hj3 (by decide) dX7_unload_42 ?_
    by_cases hjn : j < nP
    · rw [show row9 nP pa j = some (pa j) from if_pos hjn]
      change WW _ _ _ _ (.ref (pa j) :: _) _
      have hpj := yP j hjn
      rw [each_at] at hpj
      first | refine w_astore_5 C dX7_unload_43 (by first | trivial | rfl) ?_ | refine w_astore_5N C dX7_unload_43 (by first | trivial | rfl) ?_
      first | refine w_aload C dX7_unload_45 (by rfl) ?_ | refine w_aloadN C dX7_unload_45 (by rfl) ?_
      refine w_ifnull C dX7_unload_47 ?_
      first | refine w_aload C dX7_unload_50 (by rfl) ?_ | refine w_aloadN C dX7_unload_50 (by rfl) ?_
      refine gf_X7_188 C hpj dX7_unload_52 ?_
      refine w_iconst (v := (-1)) C dX7_unload_55 (by rfl) ?_
      refine w_icmp_eq (tgt := 98) C dX7_unload_56 (by rfl) (fun c_56 => ?_) (fun c_56 => ?_)
      · rw [each_n (sp_unl cs gs k) ps (Or.inr (unl_no c_56))] at u
        have e9 := cnt_f (p := (fun i => decide (i < nP ∧ ¬ qSh (ps i).2.2 = -1 ∧ qSt (sp_firep cs gs (sp_ucone k (ps i)) (ps i)) = 5))) (decide_eq_false (fun w => w.2.1 c_56))
        rw [Int32.add_zero] at e9
        rw [e9]
        refine w_iinc_4 (v := _ + (1)) C dX7_unload_98 (by rfl) (by first | trivial | rfl) ?_
        refine w_goto (tgt := 33) C dX7_unload_101 (by rfl) ?_
        rw [nI_1 j]
        exact w_sub (ih hj3 u) (by repeat' first | exact trivial | rfl | constructor)
      · obtain ⟨s, hs3, hse⟩ := hs j hjn c_56
        first | refine w_aload C dX7_unload_59 (by rfl) ?_ | refine w_aloadN C dX7_unload_59 (by rfl) ?_
        first | refine w_aload_n C dX7_unload_61 (by rfl) ?_ | refine w_aload_nN C dX7_unload_61 (by rfl) ?_
        refine gf_X7_58 C yy dX7_unload_62 ?_
        first | refine w_aload C dX7_unload_65 (by rfl) ?_ | refine w_aloadN C dX7_unload_65 (by rfl) ?_
        refine gf_X7_188 C hpj dX7_unload_67 ?_
        rw [hse]
        refine cl_X7_250 C (m_X2_coneOf hl yre yrw hs3) yre (by rfl) (by rfl) ⟨by decide, by decide⟩ (by rfl) dX7_unload_70 (fun z1 h1 p1 => ?_)
        obtain ⟨rfl, rfl⟩ := p1
        rw [ucone_at hse hs3]
        refine cl_X7_253 C (m_pot_fire (cs := cs) (gs := gs) hl hpj (yC _ (hPC j hjn)) (fun g e => ⟨yG g (hPG j hjn g e), hn _ (hPC j hjn) g (hPG j hjn g e)⟩)) hpj (by rfl) (by rfl) ⟨by decide, by decide⟩ (by rfl) dX7_unload_73 (fun h2 p2 => ?_)
        have uF := p2
        have hpj := uF.self
        first | refine w_aload C dX7_unload_76 (by rfl) ?_ | refine w_aloadN C dX7_unload_76 (by rfl) ?_
        refine cl_X7_199 C (m_X4_leaveShelf hl hpj) hpj (by rfl) (by rfl) ⟨by decide, by decide⟩ (by rfl) dX7_unload_78 (fun h3 p3 => ?_)
        have uu := uF.tr p3
        have hpj := uu.self
        have u := Yh.pot u hjn (p := sp_unl cs gs k (ps j)) (uu.to (by rw [unl_yes c_56]))
        rw [each_s (sp_unl cs gs k) ps hjn] at u
        refine w_iload_n C dX7_unload_81 (by rfl) ?_
        first | refine w_aload C dX7_unload_82 (by rfl) ?_ | refine w_aloadN C dX7_unload_82 (by rfl) ?_
        refine gf_X7_141 C hpj dX7_unload_84 ?_
        refine w_iconst (v := 5) C dX7_unload_87 (by rfl) ?_
        refine w_icmp_ne (tgt := 95) C dX7_unload_88 (by rfl) (fun c_88 => ?_) (fun c_88 => ?_)
        · refine w_iconst (v := 0) C dX7_unload_95 (by rfl) ?_
          refine w_iadd C dX7_unload_96 ?_
          rw [cnt_f (p := (fun i => decide (i < nP ∧ ¬ qSh (ps i).2.2 = -1 ∧ qSt (sp_firep cs gs (sp_ucone k (ps i)) (ps i)) = 5))) (decide_eq_false (fun w => c_88 w.2.2))]
          refine w_istore_1 C dX7_unload_97 (by first | trivial | rfl) ?_
          refine w_iinc_4 (v := _ + (1)) C dX7_unload_98 (by rfl) (by first | trivial | rfl) ?_
          refine w_goto (tgt := 33) C dX7_unload_101 (by rfl) ?_
          rw [nI_1 j]
          exact w_sub (ih hj3 u) (by repeat' first | exact trivial | rfl | constructor)
        · refine w_iconst (v := 1) C dX7_unload_91 (by rfl) ?_
          refine w_goto (tgt := 96) C dX7_unload_92 (by rfl) ?_
          refine w_iadd C dX7_unload_96 ?_
          rw [cnt_t (p := (fun i => decide (i < nP ∧ ¬ qSh (ps i).2.2 = -1 ∧ qSt (sp_firep cs gs (sp_ucone k (ps i)) (ps i)) = 5))) (decide_eq_true ⟨hjn, c_56, c_88⟩)]
          refine w_istore_1 C dX7_unload_97 (by first | trivial | rfl) ?_
          refine w_iinc_4 (v := _ + (1)) C dX7_unload_98 (by rfl) (by first | trivial | rfl) ?_
          refine w_goto (tgt := 33) C dX7_unload_101 (by rfl) ?_
          rw [nI_1 j]
          exact w_sub (ih hj3 u) (by repeat' first | exact trivial | rfl | constructor)
    · rw [show row9 nP pa j = none from if_neg hjn]
      change WW _ _ _ _ (.null :: _) _
      first | refine w_astore_5 C dX7_unload_43 (by first | trivial | rfl) ?_ | refine w_astore_5N C dX7_unload_43 (by first | trivial | rfl) ?_
      first | refine w_aload C dX7_unload_45 (by rfl) ?_ | refine w_aloadN C dX7_unload_45 (by rfl) ?_
      refine w_ifnullN (tgt := 98) C dX7_unload_47 (by rfl) ?_
      rw [each_n (sp_unl cs gs k) ps (Or.inl hjn)] at u
      have e9 := cnt_f (p := (fun i => decide (i < nP ∧ ¬ qSh (ps i).2.2 = -1 ∧ qSt (sp_firep cs gs (sp_ucone k (ps i)) (ps i)) = 5))) (decide_eq_false (fun w => hjn w.1))
      rw [Int32.add_zero] at e9
      rw [e9]
      refine w_iinc_4 (v := _ + (1)) C dX7_unload_98 (by rfl) (by first | trivial | rfl) ?_
      refine w_goto (tgt := 33) C dX7_unload_101 (by rfl) ?_
      rw [nI_1 j]
      exact w_sub (ih hj3 u) (by repeat' first | exact trivial | rfl | constructor)

set_option maxHeartbeats 4000000 in
set_option maxRecDepth 100000 in
theorem m_X7_unload {l : Launch} {D : va_G} {tc : Nat → ClassId} (hl : l.stackTraces = false) {h : HM} {y0 cA gA pA oA pr ra re rw tr tw : Nat} {ca ga pa oa : Nat → Nat} {f : Nat → Option Nat} {hb : UInt64} {hbt : UInt64} {dmt : Int32} {kt : KT} {nC : Nat} {cs : Nat → Int32 × Int32} {nG : Nat} {gs : Nat → GT} {nP : Nat} {ps : Nat → PT} {nO : Nat} {os : Nat → OT} {nR : Nat} {rs : Nat → RT} {k : KT} {dmp : Int32} {day : Int32} {pur : Int32} {rf : Int32} (Y : Yh tc y0 cA gA pA oA pr ra re rw tr tw ca ga pa oa f hb hbt dmt kt nC cs nG gs nP ps nO os nR rs k dmp day pur rf h) (hPC : ∀ i, i < nP → (ps i).1 < nC) (hPG : ∀ i, i < nP → ∀ g, (ps i).2.1 = some g → g < nG) (hs : ∀ i, i < nP → ¬ qSh (ps i).2.2 = -1 → ∃ s, s < 3 ∧ qSh (ps i).2.2 = nI s) (hn : ∀ c, c < nC → ∀ g, g < nG → vf_n64 (FP.dsub (sp_growth (gs g)) (sp_cg (cs c).2)) ∧ vf_n64 (FP.dsub (sp_cg (cs c).2) (sp_growth (gs g)))) (hP : FP.Core.FFin (kP k)) :
    CTX l D tc yX7_unload cX7_unload 6 (some FieldType.int) rm_X7_unload [.ref y0] h (rI (fun z h' => (kL k = false ∧ dlt (kH k) 4636737291354636288) ∧ z = sp_cnt (fun i => decide (i < nP ∧ ¬ qSh (ps i).2.2 = -1 ∧ qSt (sp_firep cs gs (sp_ucone k (ps i)) (ps i)) = 5)) 14 ∧ Yh tc y0 cA gA pA oA pr ra re rw tr tw ca ga pa oa f hb hbt dmt kt nC cs nG gs nP (sp_each nP (sp_unl cs gs k) ps 14) nO os nR rs (sp_clr k) dmp day pur rf h')) (fun E h' => E = "java/lang/IllegalStateException" ∧ h' = h ∧ ¬ (kL k = false ∧ dlt (kH k) 4636737291354636288)) := by
  refine CTX.start [some (.ref y0), none, none, none, none, none] (by decide) hl rfl rfl (fun K C M X => ?_)
  obtain ⟨rfl, rfl, rfl, -⟩ := id M
  have C : CX K RX7 cX7_unload 6 rm_X7_unload := C
  obtain ⟨yy, yc, yg, yp, yo, ypr, yra, yre, yrw, ytr, ytw, yC, yG, yP, yO, yR, yn1, yn2, yn3, yn4⟩ := id Y
  first | refine w_aload_n C dX7_unload_0 (by rfl) ?_ | refine w_aload_nN C dX7_unload_0 (by rfl) ?_
  refine gf_X7_58 C yy dX7_unload_1 ?_
  refine cl_X7_161 C (m_X2_isInReach hl yre) yre (by rfl) (by rfl) ⟨by decide, by decide⟩ (by rfl) dX7_unload_4 (fun z2 h1 p1 => ?_)
  obtain ⟨rfl, rfl⟩ := p1
  refine w_if_ne (tgt := 20) C dX7_unload_7 (by rfl) (fun c_7 => ?_) (fun c_7 => ?_)
  · try simp only [cg_ge, cg_gt, cl_gt, cl_le, cl_eq, cl_lt, cl_ge, bi_eq0, bi_ne0, bI_eq0, Decidable.not_not, Bool.not_eq_false] at c_7
    refine w_iconst (v := 0) C dX7_unload_20 (by rfl) ?_
    refine w_istore_1 C dX7_unload_21 (by first | trivial | rfl) ?_
    first | refine w_aload_n C dX7_unload_22 (by rfl) ?_ | refine w_aload_nN C dX7_unload_22 (by rfl) ?_
    refine gf_X7_23 C yy dX7_unload_23 ?_
    first | refine w_astore_2 C dX7_unload_26 (by first | trivial | rfl) ?_ | refine w_astore_2N C dX7_unload_26 (by first | trivial | rfl) ?_
    first | refine w_aload_n C dX7_unload_27 (by rfl) ?_ | refine w_aload_nN C dX7_unload_27 (by rfl) ?_
    refine w_alen C 6 yp (by rfl) dX7_unload_28 ?_
    refine w_istore_3 C dX7_unload_29 (by first | trivial | rfl) ?_
    refine w_iconst (v := 0) C dX7_unload_30 (by rfl) ?_
    refine w_istore_4 C dX7_unload_31 (by first | trivial | rfl) ?_
    refine lp_X7_unload C hl hPC hPG hs hn (fun h9 Y9 => ?_) 0 (by decide) (by rw [each_0]; exact Y)
    obtain ⟨yy, yc, yg, yp, yo, ypr, yra, yre, yrw, ytr, ytw, yC, yG, yP, yO, yR, yn1, yn2, yn3, yn4⟩ := id Y9
    first | refine w_aload_n C dX7_unload_104 (by rfl) ?_ | refine w_aload_nN C dX7_unload_104 (by rfl) ?_
    refine gf_X7_58 C yy dX7_unload_105 ?_
    refine cl_X7_256 C (m_X2_clearWorks hl yre yrw hP) yre (by rfl) (by rfl) ⟨by decide, by decide⟩ (by rfl) dX7_unload_108 (fun h2 p2 => ?_)
    have Y := Yh.real Y9 (k2 := sp_clr k) p2.1 p2.2.1 p2.2.2
    refine w_iload_n C dX7_unload_111 (by rfl) ?_
    refine w_iret C M dX7_unload_112 ⟨by decide, by decide⟩ ⟨_, rfl, ?_⟩
    exact ⟨c_7, rfl, Y⟩
  · try simp only [cg_ge, cg_gt, cl_gt, cl_le, cl_eq, cl_lt, cl_ge, bi_eq0, bi_ne0, bI_eq0, Decidable.not_not, Bool.not_eq_false] at c_7
    exact th_X7_85_248_89 C X (by rfl) (by rfl) (by rfl) (by decide) (by decide) (by decide) (by decide) ⟨rfl, rfl, c_7⟩ dX7_unload_10 dX7_unload_13 dX7_unload_14 dX7_unload_16 dX7_unload_19
