/-! MEET AND LIGHT -/
abbrev sp_metd (o : OT) : OT := (o.1, o.2.1, o.2.2.1, o.2.2.2.1, true)
abbrev sp_soldp (p : PT) : PT := (p.1, p.2.1, (qWd p.2.2, qHg p.2.2, qWl p.2.2, 6, qWa p.2.2, qCv p.2.2, qSm p.2.2, qMk p.2.2, qSh p.2.2, qCe p.2.2))
def sp_meetok (gs : Nat → GT) (o : OT) (p : PT) : Prop := o.2.2.2.2 = false ∧ qSt p.2.2 = 4 ∧ sp_gn p = nI o.1 ∧ sp_col gs p = o.2.1
def sp_worth (day : Int32) (o : OT) (q : QT) : Int32 := if (0 : Int32) < (if qMk q = 0 then o.2.2.2.1 else o.2.2.2.1 / 2) - (if (0 : Int32) < day - o.2.2.1 then day - o.2.2.1 else 0) then (if qMk q = 0 then o.2.2.2.1 else o.2.2.2.1 / 2) - (if (0 : Int32) < day - o.2.2.1 then day - o.2.2.1 else 0) else 0
/-- the pots on the first j shelves -/
def sp_on (nP : Nat) (ps : Nat → PT) : Nat → Int32
  | 0 => 0
  | j + 1 => sp_on nP ps j + sp_cnt (fun i => decide (i < nP ∧ qSh (ps i).2.2 = nI j)) 14
abbrev sp_kndl (k : KT) : KT := (kH k, kP k, kO k, true, 0, 0, kC k, kF k, kS k, kW k)

-- none in p32: X7_meet

set_option maxHeartbeats 4000000 in
set_option maxRecDepth 100000 in
theorem lp_X7_light {K : KC} (C : CX K RX7 cX7_light 3 rm_X7_light) (hl : (Kl K).stackTraces = false) {y0 cA gA pA oA pr ra re rw tr tw : Nat} {ca ga pa oa : Nat → Nat} {f : Nat → Option Nat} {hb : UInt64} {hbt : UInt64} {dmt : Int32} {kt : KT} {nC : Nat} {cs : Nat → Int32 × Int32} {nG : Nat} {gs : Nat → GT} {nP : Nat} {ps : Nat → PT} {nO : Nat} {os : Nat → OT} {nR : Nat} {rs : Nat → RT} {k : KT} {dmp : Int32} {day : Int32} {pur : Int32} {rf : Int32} {h : HM} (u : Yh (Kt K) y0 cA gA pA oA pr ra re rw tr tw ca ga pa oa f hb hbt dmt kt nC cs nG gs nP ps nO os nR rs k dmp day pur rf h)
    (kk : WW K (0, 0) 60 [some (.ref y0), some (.int (sp_on nP ps 3)), some (.int (nI 3))] [] h)
    : ∀ j : Nat, j ≤ 3 → WW K (0, 0) 41 [some (.ref y0), some (.int (sp_on nP ps j)), some (.int (nI j))] [] h := by
  refine up_ind ?_
  intro j hj ih  
  refine w_iload_n C dX7_light_41 (by rfl) ?_
  refine w_iconst (v := 3) C dX7_light_42 (by rfl) ?_
  refine w_icmp_ge (tgt := 60) C dX7_light_43 (by rfl) (fun c_43 => ?_) (fun c_43 => ?_)
  · have e3 : ¬ j < 3 := fun q => nI_ge q (show 3 < 2 ^ 31 by decide) c_43
    obtain rfl : j = 3 := by omega
    exact kk
  · have hj3 : j < 3 := Nat.not_le.mp (fun q => c_43 (nI_le (a := 3) q (by omega)))
    refine w_iload_n C dX7_light_46 (by rfl) ?_
    first | refine w_aload_n C dX7_light_47 (by rfl) ?_ | refine w_aload_nN C dX7_light_47 (by rfl) ?_
    refine w_iload_n C dX7_light_48 (by rfl) ?_
    refine cl_X7_228 C (m_X7_potsOn hl u (nI j)) u.1 (by rfl) (by rfl) ⟨by decide, by decide⟩ (by rfl) dX7_light_49 (fun z1 h1 p1 => ?_)
    obtain ⟨rfl, rfl⟩ := p1
    refine w_iadd C dX7_light_52 ?_
    refine w_istore_1 C dX7_light_53 (by first | trivial | rfl) ?_
    refine w_iinc_2 (v := _ + (1)) C dX7_light_54 (by rfl) (by first | trivial | rfl) ?_
    refine w_goto (tgt := 41) C dX7_light_57 (by rfl) ?_
    rw [nI_1 j]
    exact w_sub (ih hj3) (by repeat' first | exact trivial | rfl | constructor)

set_option maxHeartbeats 4000000 in
set_option maxRecDepth 100000 in
theorem m_X7_light {l : Launch} {D : va_G} {tc : Nat → ClassId} (hl : l.stackTraces = false) {h : HM} {y0 cA gA pA oA pr ra re rw tr tw : Nat} {ca ga pa oa : Nat → Nat} {f : Nat → Option Nat} {hb : UInt64} {hbt : UInt64} {dmt : Int32} {kt : KT} {nC : Nat} {cs : Nat → Int32 × Int32} {nG : Nat} {gs : Nat → GT} {nP : Nat} {ps : Nat → PT} {nO : Nat} {os : Nat → OT} {nR : Nat} {rs : Nat → RT} {k : KT} {dmp : Int32} {day : Int32} {pur : Int32} {rf : Int32} (Y : Yh tc y0 cA gA pA oA pr ra re rw tr tw ca ga pa oa f hb hbt dmt kt nC cs nG gs nP ps nO os nR rs k dmp day pur rf h) (bR : nR ≤ 5) :
    CTX l D tc yX7_light cX7_light 3 (some FieldType.int) rm_X7_light [.ref y0] h (rI (fun z h' => kL k = false ∧ ¬ nR = 0 ∧ z = sp_on nP ps 3 ∧ Yh tc y0 cA gA pA oA pr ra re rw tr tw ca ga pa oa f hb hbt dmt kt nC cs nG gs nP ps nO os nR rs (sp_kndl k) dmp day pur rf h')) (fun E h' => E = "java/lang/IllegalStateException" ∧ h' = h ∧ (kL k = true ∨ nR = 0)) := by
  refine CTX.start [some (.ref y0), none, none] (by decide) hl rfl rfl (fun K C M X => ?_)
  obtain ⟨rfl, rfl, rfl, -⟩ := id M
  have C : CX K RX7 cX7_light 3 rm_X7_light := C
  obtain ⟨yy, yc, yg, yp, yo, ypr, yra, yre, yrw, ytr, ytw, yC, yG, yP, yO, yR, yn1, yn2, yn3, yn4⟩ := id Y
  first | refine w_aload_n C dX7_light_0 (by rfl) ?_ | refine w_aload_nN C dX7_light_0 (by rfl) ?_
  refine gf_X7_58 C yy dX7_light_1 ?_
  refine gf_X7_204 C yre dX7_light_4 ?_
  refine w_if_ne (tgt := 20) C dX7_light_7 (by rfl) (fun c_7 => ?_) (fun c_7 => ?_)
  · try simp only [cg_ge, cg_gt, cl_gt, cl_le, cl_eq, cl_lt, cl_ge, bi_eq0, bi_ne0, bI_eq0, Decidable.not_not, Bool.not_eq_false] at c_7
    exact th_X7_85_223_89 C X (by rfl) (by rfl) (by rfl) (by decide) (by decide) (by decide) (by decide) ⟨rfl, rfl, by first | exact Or.inl c_7 | exact Or.inr ((nI_is0 (by omega)).mp c_17)⟩ dX7_light_20 dX7_light_23 dX7_light_24 dX7_light_26 dX7_light_29
  · try simp only [cg_ge, cg_gt, cl_gt, cl_le, cl_eq, cl_lt, cl_ge, bi_eq0, bi_ne0, bI_eq0, Decidable.not_not, Bool.not_eq_false] at c_7
    first | refine w_aload_n C dX7_light_10 (by rfl) ?_ | refine w_aload_nN C dX7_light_10 (by rfl) ?_
    refine gf_X7_49 C yy dX7_light_11 ?_
    refine gf_X7_207 C ypr dX7_light_14 ?_
    refine w_if_ne (tgt := 30) C dX7_light_17 (by rfl) (fun c_17 => ?_) (fun c_17 => ?_)
    · try simp only [cg_ge, cg_gt, cl_gt, cl_le, cl_eq, cl_lt, cl_ge, bi_eq0, bi_ne0, bI_eq0, Decidable.not_not, Bool.not_eq_false] at c_17
      have n0 : ¬ nR = 0 := fun w => c_17 ((nI_is0 (by omega)).mpr w)
      first | refine w_aload_n C dX7_light_30 (by rfl) ?_ | refine w_aload_nN C dX7_light_30 (by rfl) ?_
      refine gf_X7_58 C yy dX7_light_31 ?_
      refine cl_X7_225 C (m_X2_kindle hl yre) yre (by rfl) (by rfl) ⟨by decide, by decide⟩ (by rfl) dX7_light_34 (fun h1 p1 => ?_)
      have Y9 := Yh.kiln Y (k2 := sp_kndl k) p1 rfl
      refine w_iconst (v := 0) C dX7_light_37 (by rfl) ?_
      refine w_istore_1 C dX7_light_38 (by first | trivial | rfl) ?_
      refine w_iconst (v := 0) C dX7_light_39 (by rfl) ?_
      refine w_istore_2 C dX7_light_40 (by first | trivial | rfl) ?_
      refine lp_X7_light C hl Y9 ?_ 0 (by decide)
      refine w_iload_n C dX7_light_60 (by rfl) ?_
      refine w_iret C M dX7_light_61 ⟨by decide, by decide⟩ ⟨_, rfl, ?_⟩
      exact ⟨c_7, n0, rfl, Y9⟩
    · try simp only [cg_ge, cg_gt, cl_gt, cl_le, cl_eq, cl_lt, cl_ge, bi_eq0, bi_ne0, bI_eq0, Decidable.not_not, Bool.not_eq_false] at c_17
      exact th_X7_85_223_89 C X (by rfl) (by rfl) (by rfl) (by decide) (by decide) (by decide) (by decide) ⟨rfl, rfl, by first | exact Or.inl c_7 | exact Or.inr ((nI_is0 (by omega)).mp c_17)⟩ dX7_light_20 dX7_light_23 dX7_light_24 dX7_light_26 dX7_light_29
