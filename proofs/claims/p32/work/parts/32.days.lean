/-! A DAY AND A STEP FOR ALL POTS -/
def sp_dryp (air : Int32) (p : PT) : PT := (p.1, p.2.1, sp_lose air p.2.2)
def sp_heatp (dmp : Int32) (hb t : UInt64) (p : PT) : PT := if qSh p.2.2 = -1 then p else (p.1, p.2.1, sp_feel (sp_hot (qSh p.2.2).toNatClampNeg hb) (sp_hot (qSh p.2.2).toNatClampNeg t) (decide (3 ≤ dmp)) p.2.2)
theorem heatp_no {dmp : Int32} {hb t : UInt64} {p : PT} (h : qSh p.2.2 = -1) : sp_heatp dmp hb t p = p := if_pos h
theorem heatp_yes {dmp : Int32} {hb t : UInt64} {p : PT} {s : Nat} (h : ¬ qSh p.2.2 = -1) (hs : qSh p.2.2 = nI s) (h3 : s < 3) : (p.1, p.2.1, sp_feel (sp_hot s hb) (sp_hot s t) (decide (3 ≤ dmp)) p.2.2) = sp_heatp dmp hb t p := by
  unfold sp_heatp
  rw [if_neg h]
  rw [hs, nI_clamp (by omega)]

set_option maxHeartbeats 4000000 in
set_option maxRecDepth 100000 in
theorem lp_X7_dryOneDay {K : KC} (C : CX K RX7 cX7_dryOneDay 6 rm_X7_dryOneDay) (hl : (Kl K).stackTraces = false) {y0 cA gA pA oA pr ra re rw tr tw : Nat} {ca ga pa oa : Nat → Nat} {f : Nat → Option Nat} {hb : UInt64} {hbt : UInt64} {dmt : Int32} {kt : KT} {nC : Nat} {cs : Nat → Int32 × Int32} {nG : Nat} {gs : Nat → GT} {nP : Nat} {ps : Nat → PT} {nO : Nat} {os : Nat → OT} {nR : Nat} {rs : Nat → RT} {k : KT} {dmp : Int32} {day : Int32} {pur : Int32} {rf : Int32} {air : Int32} (hn : ∀ i, i < nP → lossN air (ps i).2.2)
    (kk : ∀ h', Yh (Kt K) y0 cA gA pA oA pr ra re rw tr tw ca ga pa oa f hb hbt dmt kt nC cs nG gs nP (sp_each nP (sp_dryp air) ps 14) nO os nR rs k dmp day pur rf h' → WW K (0, 0) 50 [some (.ref y0), some (.int air), some (.ref pA), some (.int (nI 14)), some (.int (nI 14)), none] [] h')
    : ∀ j : Nat, j ≤ 14 → ∀ {h : HM},  (u : Yh (Kt K) y0 cA gA pA oA pr ra re rw tr tw ca ga pa oa f hb hbt dmt kt nC cs nG gs nP (sp_each nP (sp_dryp air) ps j) nO os nR rs k dmp day pur rf h) → WW K (0, 0) 21 [some (.ref y0), some (.int air), some (.ref pA), some (.int (nI 14)), some (.int (nI j)), none] [] h := by
  refine up_ind ?_
  intro j hj ih h u
  obtain ⟨yy, yc, yg, yp, yo, ypr, yra, yre, yrw, ytr, ytw, yC, yG, yP, yO, yR, yn1, yn2, yn3, yn4⟩ := id u
  refine w_iload C dX7_dryOneDay_21 (by rfl) ?_
  refine w_iload_n C dX7_dryOneDay_23 (by rfl) ?_
  refine w_icmp_ge (tgt := 50) C dX7_dryOneDay_24 (by rfl) (fun c_24 => ?_) (fun c_24 => ?_)
  · have e3 : ¬ j < 14 := fun q => nI_ge q (show 14 < 2 ^ 31 by decide) c_24
    obtain rfl : j = 14 := by omega
    exact kk _ u
  · have hj3 : j < 14 := Nat.not_le.mp (fun q => c_24 (nI_le (a := 14) q (by omega)))
    first | refine w_aload_n C dX7_dryOneDay_27 (by rfl) ?_ | refine w_aload_nN C dX7_dryOneDay_27 (by rfl) ?_
    refine w_iload C dX7_dryOneDay_28 (by rfl) ?_
    refine w_aaldn C 6 yp (by rfl) hj3 (by decide) dX7_dryOneDay_30 ?_
    by_cases hjn : j < nP
    · rw [show row9 nP pa j = some (pa j) from if_pos hjn]
      change WW _ _ _ _ (.ref (pa j) :: _) _
      have hpj := yP j hjn
      rw [each_at] at hpj
      first | refine w_astore_5 C dX7_dryOneDay_31 (by first | trivial | rfl) ?_ | refine w_astore_5N C dX7_dryOneDay_31 (by first | trivial | rfl) ?_
      first | refine w_aload C dX7_dryOneDay_33 (by rfl) ?_ | refine w_aloadN C dX7_dryOneDay_33 (by rfl) ?_
      refine w_ifnull C dX7_dryOneDay_35 ?_
      first | refine w_aload C dX7_dryOneDay_38 (by rfl) ?_ | refine w_aloadN C dX7_dryOneDay_38 (by rfl) ?_
      refine w_iload_n C dX7_dryOneDay_40 (by rfl) ?_
      refine cl_X7_426 C (m_X4_loseWater hl hpj (hn j hjn)) hpj (by rfl) (by rfl) ⟨by decide, by decide⟩ (by rfl) dX7_dryOneDay_41 (fun h1 p1 => ?_)
      have u := Yh.pot u hjn (p := sp_dryp air (ps j)) p1
      rw [each_s (sp_dryp air) ps hjn] at u
      refine w_iinc_4 (v := _ + (1)) C dX7_dryOneDay_44 (by rfl) (by first | trivial | rfl) ?_
      refine w_goto (tgt := 21) C dX7_dryOneDay_47 (by rfl) ?_
      rw [nI_1 j]
      exact w_sub (ih hj3 u) (by repeat' first | exact trivial | rfl | constructor)
    · rw [show row9 nP pa j = none from if_neg hjn]
      change WW _ _ _ _ (.null :: _) _
      first | refine w_astore_5 C dX7_dryOneDay_31 (by first | trivial | rfl) ?_ | refine w_astore_5N C dX7_dryOneDay_31 (by first | trivial | rfl) ?_
      first | refine w_aload C dX7_dryOneDay_33 (by rfl) ?_ | refine w_aloadN C dX7_dryOneDay_33 (by rfl) ?_
      refine w_ifnullN (tgt := 44) C dX7_dryOneDay_35 (by rfl) ?_
      rw [each_n (sp_dryp air) ps (Or.inl hjn)] at u
      refine w_iinc_4 (v := _ + (1)) C dX7_dryOneDay_44 (by rfl) (by first | trivial | rfl) ?_
      refine w_goto (tgt := 21) C dX7_dryOneDay_47 (by rfl) ?_
      rw [nI_1 j]
      exact w_sub (ih hj3 u) (by repeat' first | exact trivial | rfl | constructor)

set_option maxHeartbeats 4000000 in
set_option maxRecDepth 100000 in
theorem m_X7_dryOneDay {l : Launch} {D : va_G} {tc : Nat → ClassId} (hl : l.stackTraces = false) {h : HM} {y0 cA gA pA oA pr ra re rw tr tw : Nat} {ca ga pa oa : Nat → Nat} {f : Nat → Option Nat} {hb : UInt64} {hbt : UInt64} {dmt : Int32} {kt : KT} {nC : Nat} {cs : Nat → Int32 × Int32} {nG : Nat} {gs : Nat → GT} {nP : Nat} {ps : Nat → PT} {nO : Nat} {os : Nat → OT} {nR : Nat} {rs : Nat → RT} {k : KT} {dmp : Int32} {day : Int32} {pur : Int32} {rf : Int32} (Y : Yh tc y0 cA gA pA oA pr ra re rw tr tw ca ga pa oa f hb hbt dmt kt nC cs nG gs nP ps nO os nR rs k dmp day pur rf h) {air : Int32} (hn : ∀ i, i < nP → lossN air (ps i).2.2) :
    CT l D tc yX7_dryOneDay cX7_dryOneDay 6 none rm_X7_dryOneDay [.ref y0, .int air] h (rV (fun h' => Yh tc y0 cA gA pA oA pr ra re rw tr tw ca ga pa oa f hb hbt dmt kt nC cs nG gs nP (sp_each nP (sp_dryp air) ps 14) nO os nR rs k dmp (day + 1) pur rf h')) := by
  refine CT.start [some (.ref y0), some (.int air), none, none, none, none] (by decide) hl rfl rfl (fun K C M => ?_)
  obtain ⟨rfl, rfl, rfl, -⟩ := id M
  have C : CX K RX7 cX7_dryOneDay 6 rm_X7_dryOneDay := C
  obtain ⟨yy, yc, yg, yp, yo, ypr, yra, yre, yrw, ytr, ytw, yC, yG, yP, yO, yR, yn1, yn2, yn3, yn4⟩ := id Y
  first | refine w_aload_n C dX7_dryOneDay_0 (by rfl) ?_ | refine w_aload_nN C dX7_dryOneDay_0 (by rfl) ?_
  refine w_dup C dX7_dryOneDay_1 (by rfl) ?_
  refine gf_X7_65 C yy dX7_dryOneDay_2 ?_
  refine w_iconst (v := 1) C dX7_dryOneDay_5 (by rfl) ?_
  refine w_iadd C dX7_dryOneDay_6 ?_
  refine pf_X7_65 C yy dX7_dryOneDay_7 (fun h1 u1 => ?_)
  have yy := u1.self
  have Y := Yh.me Y (day2 := day + 1) (pur2 := pur) (rf2 := rf) u1
  obtain ⟨yy, yc, yg, yp, yo, ypr, yra, yre, yrw, ytr, ytw, yC, yG, yP, yO, yR, yn1, yn2, yn3, yn4⟩ := id Y
  first | refine w_aload_n C dX7_dryOneDay_10 (by rfl) ?_ | refine w_aload_nN C dX7_dryOneDay_10 (by rfl) ?_
  refine gf_X7_23 C yy dX7_dryOneDay_11 ?_
  first | refine w_astore_2 C dX7_dryOneDay_14 (by first | trivial | rfl) ?_ | refine w_astore_2N C dX7_dryOneDay_14 (by first | trivial | rfl) ?_
  first | refine w_aload_n C dX7_dryOneDay_15 (by rfl) ?_ | refine w_aload_nN C dX7_dryOneDay_15 (by rfl) ?_
  refine w_alen C 6 yp (by rfl) dX7_dryOneDay_16 ?_
  refine w_istore_3 C dX7_dryOneDay_17 (by first | trivial | rfl) ?_
  refine w_iconst (v := 0) C dX7_dryOneDay_18 (by rfl) ?_
  refine w_istore_4 C dX7_dryOneDay_19 (by first | trivial | rfl) ?_
  refine lp_X7_dryOneDay C hl hn (fun h9 Y9 => ?_) 0 (by decide) (by rw [each_0]; exact Y)
  refine w_vret C M dX7_dryOneDay_50 ⟨by decide, by decide⟩ ⟨rfl, ?_⟩
  exact Y9

set_option maxHeartbeats 4000000 in
set_option maxRecDepth 100000 in
theorem lp_X7_heatPots {K : KC} (C : CX K RX7 cX7_heatPots 10 rm_X7_heatPots) (hl : (Kl K).stackTraces = false) {y0 cA gA pA oA pr ra re rw tr tw : Nat} {ca ga pa oa : Nat → Nat} {f : Nat → Option Nat} {hb : UInt64} {hbt : UInt64} {dmt : Int32} {kt : KT} {nC : Nat} {cs : Nat → Int32 × Int32} {nG : Nat} {gs : Nat → GT} {nP : Nat} {ps : Nat → PT} {nO : Nat} {os : Nat → OT} {nR : Nat} {rs : Nat → RT} {k : KT} {dmp : Int32} {day : Int32} {pur : Int32} {rf : Int32} (hH : Ht (kH k)) (hHb : Ht hb) (hs : ∀ i, i < nP → ¬ qSh (ps i).2.2 = -1 → ∃ s, s < 3 ∧ qSh (ps i).2.2 = nI s) (hn : ∀ i, i < nP → vf_n64 (FP.ddiv 4638707616191610880 (FP.i2d (qWl (ps i).2.2))))
    (kk : ∀ h', Yh (Kt K) y0 cA gA pA oA pr ra re rw tr tw ca ga pa oa f hb hbt dmt kt nC cs nG gs nP (sp_each nP (sp_heatp dmp hb (kH k)) ps 14) nO os nR rs k dmp day pur rf h' → WW K (0, 0) 104 [some (.ref y0), some (.int (bi (decide (3 ≤ dmp)))), some (.ref pA), some (.int (nI 14)), some (.int (nI 14)), none, none, none, none, none] [] h')
    : ∀ j : Nat, j ≤ 14 → ∀ {h : HM},  (u : Yh (Kt K) y0 cA gA pA oA pr ra re rw tr tw ca ga pa oa f hb hbt dmt kt nC cs nG gs nP (sp_each nP (sp_heatp dmp hb (kH k)) ps j) nO os nR rs k dmp day pur rf h) → WW K (0, 0) 28 [some (.ref y0), some (.int (bi (decide (3 ≤ dmp)))), some (.ref pA), some (.int (nI 14)), some (.int (nI j)), none, none, none, none, none] [] h := by
  refine up_ind ?_
  intro j hj ih h u
  obtain ⟨yy, yc, yg, yp, yo, ypr, yra, yre, yrw, ytr, ytw, yC, yG, yP, yO, yR, yn1, yn2, yn3, yn4⟩ := id u
  refine w_iload C dX7_heatPots_28 (by rfl) ?_
  refine w_iload_n C dX7_heatPots_30 (by rfl) ?_
  refine w_icmp_ge (tgt := 104) C dX7_heatPots_31 (by rfl) (fun c_31 => ?_) (fun c_31 => ?_)
  · have e3 : ¬ j < 14 := fun q => nI_ge q (show 14 < 2 ^ 31 by decide) c_31
    obtain rfl : j = 14 := by omega
    exact kk _ u
  · have hj3 : j < 14 := Nat.not_le.mp (fun q => c_31 (nI_le (a := 14) q (by omega)))
    first | refine w_aload_n C dX7_heatPots_34 (by rfl) ?_ | refine w_aload_nN C dX7_heatPots_34 (by rfl) ?_
    refine w_iload C dX7_heatPots_35 (by rfl) ?_
    refine w_aaldn C 6 yp (by rfl) hj3 (by decide) dX7_heatPots_37 ?_
    by_cases hjn : j < nP
    · rw [show row9 nP pa j = some (pa j) from if_pos hjn]
      change WW _ _ _ _ (.ref (pa j) :: _) _
      have hpj := yP j hjn
      rw [each_at] at hpj
      first | refine w_astore_5 C dX7_heatPots_38 (by first | trivial | rfl) ?_ | refine w_astore_5N C dX7_heatPots_38 (by first | trivial | rfl) ?_
      first | refine w_aload C dX7_heatPots_40 (by rfl) ?_ | refine w_aloadN C dX7_heatPots_40 (by rfl) ?_
      refine w_ifnull C dX7_heatPots_42 ?_
      first | refine w_aload C dX7_heatPots_45 (by rfl) ?_ | refine w_aloadN C dX7_heatPots_45 (by rfl) ?_
      refine gf_X7_188 C hpj dX7_heatPots_47 ?_
      refine w_iconst (v := (-1)) C dX7_heatPots_50 (by rfl) ?_
      refine w_icmp_eq (tgt := 98) C dX7_heatPots_51 (by rfl) (fun c_51 => ?_) (fun c_51 => ?_)
      · rw [each_n (sp_heatp dmp hb (kH k)) ps (Or.inr (heatp_no c_51))] at u
        refine w_iinc_4 (v := _ + (1)) C dX7_heatPots_98 (by rfl) (by first | trivial | rfl) ?_
        refine w_goto (tgt := 28) C dX7_heatPots_101 (by rfl) ?_
        rw [nI_1 j]
        exact w_sub (ih hj3 u) (by repeat' first | exact trivial | rfl | constructor)
      · obtain ⟨s, hs3, hse⟩ := hs j hjn c_51
        first | refine w_aload C dX7_heatPots_54 (by rfl) ?_ | refine w_aloadN C dX7_heatPots_54 (by rfl) ?_
        refine gf_X7_188 C hpj dX7_heatPots_56 ?_
        rw [hse]
        first | refine w_aload_n C dX7_heatPots_59 (by rfl) ?_ | refine w_aload_nN C dX7_heatPots_59 (by rfl) ?_
        refine gf_X7_58 C yy dX7_heatPots_60 ?_
        refine gf_X7_429 C yre dX7_heatPots_63 ?_
        refine cl_X7_432 C (m_X2_hotAt hl hs3 hHb) (by rfl) (by rfl) ⟨by decide, by decide⟩ (by rfl) dX7_heatPots_66 (fun z1 h1 p1 => ?_)
        obtain ⟨rfl, rfl⟩ := p1
        refine w_dstore_6 C dX7_heatPots_69 (by first | trivial | rfl) ?_
        first | refine w_aload C dX7_heatPots_71 (by rfl) ?_ | refine w_aloadN C dX7_heatPots_71 (by rfl) ?_
        refine gf_X7_188 C hpj dX7_heatPots_73 ?_
        rw [hse]
        first | refine w_aload_n C dX7_heatPots_76 (by rfl) ?_ | refine w_aload_nN C dX7_heatPots_76 (by rfl) ?_
        refine gf_X7_58 C yy dX7_heatPots_77 ?_
        refine gf_X7_317 C yre dX7_heatPots_80 ?_
        refine cl_X7_432 C (m_X2_hotAt hl hs3 hH) (by rfl) (by rfl) ⟨by decide, by decide⟩ (by rfl) dX7_heatPots_83 (fun z2 h2 p2 => ?_)
        obtain ⟨rfl, rfl⟩ := p2
        refine w_dstore_8 C dX7_heatPots_86 (by first | trivial | rfl) ?_
        first | refine w_aload C dX7_heatPots_88 (by rfl) ?_ | refine w_aloadN C dX7_heatPots_88 (by rfl) ?_
        refine w_dload C dX7_heatPots_90 (by rfl) ?_
        refine w_dload C dX7_heatPots_92 (by rfl) ?_
        refine w_iload_n C dX7_heatPots_94 (by rfl) ?_
        refine cl_X7_436 C (m_X4_feel hl hpj (hot_ok hHb s).1 (hot_ok hH s).1 (hn j hjn)) hpj (by rfl) (by rfl) ⟨by decide, by decide⟩ (by rfl) dX7_heatPots_95 (fun h3 p3 => ?_)
        have u := Yh.pot u hjn (p := ((ps j).1, (ps j).2.1, sp_feel (sp_hot s hb) (sp_hot s (kH k)) (decide (3 ≤ dmp)) (ps j).2.2)) p3
        rw [heatp_yes c_51 hse hs3, each_s (sp_heatp dmp hb (kH k)) ps hjn] at u
        refine w_iinc_4 (v := _ + (1)) C dX7_heatPots_98 (by rfl) (by first | trivial | rfl) ?_
        refine w_goto (tgt := 28) C dX7_heatPots_101 (by rfl) ?_
        rw [nI_1 j]
        exact w_sub (ih hj3 u) (by repeat' first | exact trivial | rfl | constructor)
    · rw [show row9 nP pa j = none from if_neg hjn]
      change WW _ _ _ _ (.null :: _) _
      first | refine w_astore_5 C dX7_heatPots_38 (by first | trivial | rfl) ?_ | refine w_astore_5N C dX7_heatPots_38 (by first | trivial | rfl) ?_
      first | refine w_aload C dX7_heatPots_40 (by rfl) ?_ | refine w_aloadN C dX7_heatPots_40 (by rfl) ?_
      refine w_ifnullN (tgt := 98) C dX7_heatPots_42 (by rfl) ?_
      rw [each_n (sp_heatp dmp hb (kH k)) ps (Or.inl hjn)] at u
      refine w_iinc_4 (v := _ + (1)) C dX7_heatPots_98 (by rfl) (by first | trivial | rfl) ?_
      refine w_goto (tgt := 28) C dX7_heatPots_101 (by rfl) ?_
      rw [nI_1 j]
      exact w_sub (ih hj3 u) (by repeat' first | exact trivial | rfl | constructor)

set_option maxHeartbeats 4000000 in
set_option maxRecDepth 100000 in
theorem m_X7_heatPots {l : Launch} {D : va_G} {tc : Nat → ClassId} (hl : l.stackTraces = false) {h : HM} {y0 cA gA pA oA pr ra re rw tr tw : Nat} {ca ga pa oa : Nat → Nat} {f : Nat → Option Nat} {hb : UInt64} {hbt : UInt64} {dmt : Int32} {kt : KT} {nC : Nat} {cs : Nat → Int32 × Int32} {nG : Nat} {gs : Nat → GT} {nP : Nat} {ps : Nat → PT} {nO : Nat} {os : Nat → OT} {nR : Nat} {rs : Nat → RT} {k : KT} {dmp : Int32} {day : Int32} {pur : Int32} {rf : Int32} (Y : Yh tc y0 cA gA pA oA pr ra re rw tr tw ca ga pa oa f hb hbt dmt kt nC cs nG gs nP ps nO os nR rs k dmp day pur rf h) (hH : Ht (kH k)) (hHb : Ht hb) (hs : ∀ i, i < nP → ¬ qSh (ps i).2.2 = -1 → ∃ s, s < 3 ∧ qSh (ps i).2.2 = nI s) (hn : ∀ i, i < nP → vf_n64 (FP.ddiv 4638707616191610880 (FP.i2d (qWl (ps i).2.2)))) :
    CT l D tc yX7_heatPots cX7_heatPots 10 none rm_X7_heatPots [.ref y0] h (rV (fun h' => Yh tc y0 cA gA pA oA pr ra re rw tr tw ca ga pa oa f hb hbt dmt kt nC cs nG gs nP (sp_each nP (sp_heatp dmp hb (kH k)) ps 14) nO os nR rs k dmp day pur rf h')) := by
  refine CT.start [some (.ref y0), none, none, none, none, none, none, none, none, none] (by decide) hl rfl rfl (fun K C M => ?_)
  obtain ⟨rfl, rfl, rfl, -⟩ := id M
  have C : CX K RX7 cX7_heatPots 10 rm_X7_heatPots := C
  obtain ⟨yy, yc, yg, yp, yo, ypr, yra, yre, yrw, ytr, ytw, yC, yG, yP, yO, yR, yn1, yn2, yn3, yn4⟩ := id Y
  first | refine w_aload_n C dX7_heatPots_0 (by rfl) ?_ | refine w_aload_nN C dX7_heatPots_0 (by rfl) ?_
  refine gf_X7_58 C yy dX7_heatPots_1 ?_
  refine gf_X7_242 C yre dX7_heatPots_4 ?_
  refine w_iconst (v := 3) C dX7_heatPots_7 (by rfl) ?_
  refine w_icmp_lt (tgt := 15) C dX7_heatPots_8 (by rfl) (fun c_8 => ?_) (fun c_8 => ?_)
  · refine w_iconst (v := 0) C dX7_heatPots_15 (by rfl) ?_
    rw [← bi_f, show false = decide (3 ≤ dmp) from (decide_eq_false (Int32.not_le.mpr c_8)).symm]
    refine w_istore_1 C dX7_heatPots_16 (by first | trivial | rfl) ?_
    first | refine w_aload_n C dX7_heatPots_17 (by rfl) ?_ | refine w_aload_nN C dX7_heatPots_17 (by rfl) ?_
    refine gf_X7_23 C yy dX7_heatPots_18 ?_
    first | refine w_astore_2 C dX7_heatPots_21 (by first | trivial | rfl) ?_ | refine w_astore_2N C dX7_heatPots_21 (by first | trivial | rfl) ?_
    first | refine w_aload_n C dX7_heatPots_22 (by rfl) ?_ | refine w_aload_nN C dX7_heatPots_22 (by rfl) ?_
    refine w_alen C 6 yp (by rfl) dX7_heatPots_23 ?_
    refine w_istore_3 C dX7_heatPots_24 (by first | trivial | rfl) ?_
    refine w_iconst (v := 0) C dX7_heatPots_25 (by rfl) ?_
    refine w_istore_4 C dX7_heatPots_26 (by first | trivial | rfl) ?_
    refine lp_X7_heatPots C hl hH hHb hs hn (fun h9 Y9 => ?_) 0 (by decide) (by rw [each_0]; exact Y)
    refine w_vret C M dX7_heatPots_104 ⟨by decide, by decide⟩ ⟨rfl, ?_⟩
    exact Y9
  · refine w_iconst (v := 1) C dX7_heatPots_11 (by rfl) ?_
    refine w_goto (tgt := 16) C dX7_heatPots_12 (by rfl) ?_
    rw [← bi_t, show true = decide (3 ≤ dmp) from (decide_eq_true (Int32.not_lt.mp c_8)).symm]
    refine w_istore_1 C dX7_heatPots_16 (by first | trivial | rfl) ?_
    first | refine w_aload_n C dX7_heatPots_17 (by rfl) ?_ | refine w_aload_nN C dX7_heatPots_17 (by rfl) ?_
    refine gf_X7_23 C yy dX7_heatPots_18 ?_
    first | refine w_astore_2 C dX7_heatPots_21 (by first | trivial | rfl) ?_ | refine w_astore_2N C dX7_heatPots_21 (by first | trivial | rfl) ?_
    first | refine w_aload_n C dX7_heatPots_22 (by rfl) ?_ | refine w_aload_nN C dX7_heatPots_22 (by rfl) ?_
    refine w_alen C 6 yp (by rfl) dX7_heatPots_23 ?_
    refine w_istore_3 C dX7_heatPots_24 (by first | trivial | rfl) ?_
    refine w_iconst (v := 0) C dX7_heatPots_25 (by rfl) ?_
    refine w_istore_4 C dX7_heatPots_26 (by first | trivial | rfl) ?_
    refine lp_X7_heatPots C hl hH hHb hs hn (fun h9 Y9 => ?_) 0 (by decide) (by rw [each_0]; exact Y)
    refine w_vret C M dX7_heatPots_104 ⟨by decide, by decide⟩ ⟨rfl, ?_⟩
    exact Y9
