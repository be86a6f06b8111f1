/-! WHAT IS ASKED -/
def sp_gn (p : PT) : Int32 := match p.2.1 with
  | none => -1
  | some g => nI g
def sp_col (gs : Nat → GT) (p : PT) : Int32 := match p.2.1 with
  | none => -1
  | some g => if qSt p.2.2 = 4 ∨ qSt p.2.2 = 6 then (if (gs g).2.2.2.2 < 5 then 0 else if 4 ≤ qSm p.2.2 then 1 else 2) else -1
def sp_ofPot (gs : Nat → GT) (p : PT) (what : Int32) : Int32 :=
  if what = 0 then qSt p.2.2 else if what = 1 then sp_gn p else if what = 2 then qMk p.2.2 else if what = 3 then qSh p.2.2 else if what = 4 then qCe p.2.2 else if what = 5 then qSm p.2.2 else if what = 6 then sp_col gs p else bi (qCv p.2.2)
def sp_kiln (k : KT) (what : Int32) : UInt64 :=
  if what = 0 then kH k else if what = 1 then FP.f2d (kP k) else if what = 2 then sp_gives (kH k) (kP k) (kO k) else if what = 3 then kW k 0 else if what = 4 then kW k 1 else kW k 2
def sp_shelf (k : KT) (nP : Nat) (ps : Nat → PT) (s : Nat) (what : Int32) : Int32 :=
  if what = 0 then sp_cone (kW k s) 12 else if what = 1 then 10 - sp_bc (sp_tk nP ps (nI s) 14) else if what = 2 then sp_cnt (fun i => decide (i < nP ∧ qSh (ps i).2.2 = nI s)) 14 else (sp_lr (sp_tk nP ps (nI s) 14) 10).1
def sp_many (nP : Nat) (ps : Nat → PT) (nO : Nat) (os : Nat → OT) (nR : Nat) (k : KT) (day pur rf what : Int32) : Int32 :=
  if what = 0 then day else if what = 1 then kC k else if what = 2 then bi (kL k) else if what = 3 then (if kL k then nI (kA k) else -1) else if what = 4 then (if kL k then kE k else 0) else if what = 5 then nI nR else if what = 6 then nI nP
  else if what = 7 then sp_cnt (fun i => decide (i < nP ∧ qSt (ps i).2.2 = 4)) 14 else if what = 8 then sp_cnt (fun i => decide (i < nP ∧ qSt (ps i).2.2 = 5)) 14 else if what = 9 then sp_cnt (fun i => decide (i < nP ∧ qSt (ps i).2.2 = 6)) 14
  else if what = 10 then kF k else if what = 11 then kS k else if what = 12 then pur else if what = 13 then sp_cnt (fun i => decide (i < nO ∧ (os i).2.2.2.2 = false)) 6 else if what = 14 then rf else bi (kO k)

theorem m_pot_gn {l : Launch} {D : va_G} {tc : Nat → ClassId} (hl : l.stackTraces = false) {h : HM} {a : Nat} {ca ga : Nat → Nat} {gs : Nat → GT} {p : PT} (hf : h a = some (pC9 ca ga p)) (hg : ∀ g, p.2.1 = some g → h (ga g) = some (gC9 g (gs g))) :
    CT l D tc yX4_glazeNumber cX4_glazeNumber 1 (some FieldType.int) rm_X4_glazeNumber [.ref a] h (rI (fun z h' => h' = h ∧ z = sp_gn p)) := by
  obtain ⟨c, g, q⟩ := p
  cases g with
  | none => exact m_X4_glazeNumberN hl hf
  | some g => exact m_X4_glazeNumber hl hf (hg g rfl)

theorem m_pot_col {l : Launch} {D : va_G} {tc : Nat → ClassId} (hl : l.stackTraces = false) {h : HM} {a : Nat} {ca ga : Nat → Nat} {gs : Nat → GT} {p : PT} (hf : h a = some (pC9 ca ga p)) (hg : ∀ g, p.2.1 = some g → h (ga g) = some (gC9 g (gs g))) :
    CT l D tc yX4_colour cX4_colour 1 (some FieldType.int) rm_X4_colour [.ref a] h (rI (fun z h' => h' = h ∧ z = sp_col gs p)) := by
  obtain ⟨c, g, q⟩ := p
  cases g with
  | none => exact m_X4_colourN hl hf
  | some g => exact m_X4_colour hl hf (hg g rfl)

set_option maxHeartbeats 4000000 in
set_option maxRecDepth 100000 in
theorem m_X7_ofPot {l : Launch} {D : va_G} {tc : Nat → ClassId} (hl : l.stackTraces = false) {h : HM} {y0 cA gA pA oA pr ra re rw tr tw : Nat} {ca ga pa oa : Nat → Nat} {f : Nat → Option Nat} {hb : UInt64} {hbt : UInt64} {dmt : Int32} {kt : KT} {nC : Nat} {cs : Nat → Int32 × Int32} {nG : Nat} {gs : Nat → GT} {nP : Nat} {ps : Nat → PT} {nO : Nat} {os : Nat → OT} {nR : Nat} {rs : Nat → RT} {k : KT} {dmp : Int32} {day : Int32} {pur : Int32} {rf : Int32} (Y : Yh tc y0 cA gA pA oA pr ra re rw tr tw ca ga pa oa f hb hbt dmt kt nC cs nG gs nP ps nO os nR rs k dmp day pur rf h) (bP : nP ≤ 14) (hPG : ∀ i, i < nP → ∀ g, (ps i).2.1 = some g → g < nG) {i what : Int32} :
    CTX l D tc yX7_ofPot cX7_ofPot 4 (some FieldType.int) rm_X7_ofPot [.ref y0, .int i, .int what] h (rI (fun z h' => h' = h ∧ ∃ j, j < nP ∧ i = nI j ∧ (0 ≤ (what).toInt ∧ (what).toInt ≤ 7) ∧ z = sp_ofPot gs (ps j) what)) (fun E h' => (E = "java/lang/IndexOutOfBoundsException" ∧ h' = h ∧ out9 i nP) ∨ (E = "java/lang/IllegalArgumentException" ∧ h' = h ∧ ¬ out9 i nP ∧ ¬ (0 ≤ (what).toInt ∧ (what).toInt ≤ 7))) := by
  refine CTX.start [some (.ref y0), some (.int i), some (.int what), none] (by decide) hl rfl rfl (fun K C M X => ?_)
  obtain ⟨rfl, rfl, rfl, -⟩ := id M
  have C : CX K RX7 cX7_ofPot 4 rm_X7_ofPot := C
  obtain ⟨yy, yc, yg, yp, yo, ypr, yra, yre, yrw, ytr, ytw, yC, yG, yP, yO, yR, yn1, yn2, yn3, yn4⟩ := id Y
  first | refine w_aload_n C dX7_ofPot_0 (by rfl) ?_ | refine w_aload_nN C dX7_ofPot_0 (by rfl) ?_
  refine w_iload_n C dX7_ofPot_1 (by rfl) ?_
  refine cx_X7_117 C (m_X7_potAt hl Y bP i) yy (by rfl) (by rfl) ⟨by decide, by decide⟩ (by rfl) dX7_ofPot_2 (fun z1 h1 p1 => ?_) (fun E hx px => w_prop X ⟨by decide, by decide⟩ (Or.inl px))
  obtain ⟨rfl, j, hj, rfl, rfl⟩ := p1
  have hpj := yP j hj
  have no9 : ¬ out9 (nI j) nP := fun w => w (by rw [nI_toInt (by omega)]; omega)
  first | refine w_astore_3 C dX7_ofPot_5 (by first | trivial | rfl) ?_ | refine w_astore_3N C dX7_ofPot_5 (by first | trivial | rfl) ?_
  refine w_iload_n C dX7_ofPot_6 (by rfl) ?_
  by_cases t_7 : (what).toInt < 0 ∨ 7 < (what).toInt
  · refine w_tableOut (tgt := 100) C dX7_ofPot_7 t_7 (by rfl) ?_
    exact th_X7_78_301_82 C X (by rfl) (by rfl) (by rfl) (by decide) (by decide) (by decide) (by decide) (Or.inr ⟨rfl, rfl, no9, fun w => by omega⟩) dX7_ofPot_100 dX7_ofPot_103 dX7_ofPot_104 dX7_ofPot_107 dX7_ofPot_110
  rcases (show (what).toInt = 0 ∨ (what).toInt = 1 ∨ (what).toInt = 2 ∨ (what).toInt = 3 ∨ (what).toInt = 4 ∨ (what).toInt = 5 ∨ (what).toInt = 6 ∨ (what).toInt = 7 by omega) with e_sw | e_sw | e_sw | e_sw | e_sw | e_sw | e_sw | e_sw
  · refine w_tableIn (tgt := 52) (off := 45) C dX7_ofPot_7 (by omega) (by omega) (by rw [e_sw]; rfl) (by rfl) ?_
    obtain rfl : what = 0 := Int32.toInt_inj.mp (by rw [e_sw]; rfl)
    first | refine w_aload_n C dX7_ofPot_52 (by rfl) ?_ | refine w_aload_nN C dX7_ofPot_52 (by rfl) ?_
    refine gf_X7_141 C hpj dX7_ofPot_53 ?_
    refine w_iret C M dX7_ofPot_56 ⟨by decide, by decide⟩ ⟨_, rfl, ?_⟩
    exact ⟨rfl, j, hj, rfl, by decide, (show _ = sp_ofPot gs (ps j) 0 from by unfold sp_ofPot; exact (if_pos rfl).symm)⟩
  · refine w_tableIn (tgt := 57) (off := 50) C dX7_ofPot_7 (by omega) (by omega) (by rw [e_sw]; rfl) (by rfl) ?_
    obtain rfl : what = 1 := Int32.toInt_inj.mp (by rw [e_sw]; rfl)
    first | refine w_aload_n C dX7_ofPot_57 (by rfl) ?_ | refine w_aload_nN C dX7_ofPot_57 (by rfl) ?_
    refine cl_X7_278 C (m_pot_gn hl (gs := gs) hpj (fun g e => yG g (hPG j hj g e))) hpj (by rfl) (by rfl) ⟨by decide, by decide⟩ (by rfl) dX7_ofPot_58 (fun z2 h2 p2 => ?_)
    obtain ⟨rfl, rfl⟩ := p2
    refine w_iret C M dX7_ofPot_61 ⟨by decide, by decide⟩ ⟨_, rfl, ?_⟩
    exact ⟨rfl, j, hj, rfl, by decide, (show _ = sp_ofPot gs (ps j) 1 from by unfold sp_ofPot; exact ((if_neg (by decide)).trans (if_pos rfl)).symm)⟩
  · refine w_tableIn (tgt := 62) (off := 55) C dX7_ofPot_7 (by omega) (by omega) (by rw [e_sw]; rfl) (by rfl) ?_
    obtain rfl : what = 2 := Int32.toInt_inj.mp (by rw [e_sw]; rfl)
    first | refine w_aload_n C dX7_ofPot_62 (by rfl) ?_ | refine w_aload_nN C dX7_ofPot_62 (by rfl) ?_
    refine gf_X7_295 C hpj dX7_ofPot_63 ?_
    refine w_iret C M dX7_ofPot_66 ⟨by decide, by decide⟩ ⟨_, rfl, ?_⟩
    exact ⟨rfl, j, hj, rfl, by decide, (show _ = sp_ofPot gs (ps j) 2 from by unfold sp_ofPot; exact ((if_neg (by decide)).trans ((if_neg (by decide)).trans (if_pos rfl))).symm)⟩
  · refine w_tableIn (tgt := 67) (off := 60) C dX7_ofPot_7 (by omega) (by omega) (by rw [e_sw]; rfl) (by rfl) ?_
    obtain rfl : what = 3 := Int32.toInt_inj.mp (by rw [e_sw]; rfl)
    first | refine w_aload_n C dX7_ofPot_67 (by rfl) ?_ | refine w_aload_nN C dX7_ofPot_67 (by rfl) ?_
    refine gf_X7_188 C hpj dX7_ofPot_68 ?_
    refine w_iret C M dX7_ofPot_71 ⟨by decide, by decide⟩ ⟨_, rfl, ?_⟩
    exact ⟨rfl, j, hj, rfl, by decide, (show _ = sp_ofPot gs (ps j) 3 from by unfold sp_ofPot; exact ((if_neg (by decide)).trans ((if_neg (by decide)).trans ((if_neg (by decide)).trans (if_pos rfl)))).symm)⟩
  · refine w_tableIn (tgt := 72) (off := 65) C dX7_ofPot_7 (by omega) (by omega) (by rw [e_sw]; rfl) (by rfl) ?_
    obtain rfl : what = 4 := Int32.toInt_inj.mp (by rw [e_sw]; rfl)
    first | refine w_aload_n C dX7_ofPot_72 (by rfl) ?_ | refine w_aload_nN C dX7_ofPot_72 (by rfl) ?_
    refine gf_X7_191 C hpj dX7_ofPot_73 ?_
    refine w_iret C M dX7_ofPot_76 ⟨by decide, by decide⟩ ⟨_, rfl, ?_⟩
    exact ⟨rfl, j, hj, rfl, by decide, (show _ = sp_ofPot gs (ps j) 4 from by unfold sp_ofPot; exact ((if_neg (by decide)).trans ((if_neg (by decide)).trans ((if_neg (by decide)).trans ((if_neg (by decide)).trans (if_pos rfl))))).symm)⟩
  · refine w_tableIn (tgt := 77) (off := 70) C dX7_ofPot_7 (by omega) (by omega) (by rw [e_sw]; rfl) (by rfl) ?_
    obtain rfl : what = 5 := Int32.toInt_inj.mp (by rw [e_sw]; rfl)
    first | refine w_aload_n C dX7_ofPot_77 (by rfl) ?_ | refine w_aload_nN C dX7_ofPot_77 (by rfl) ?_
    refine gf_X7_298 C hpj dX7_ofPot_78 ?_
    refine w_iret C M dX7_ofPot_81 ⟨by decide, by decide⟩ ⟨_, rfl, ?_⟩
    exact ⟨rfl, j, hj, rfl, by decide, (show _ = sp_ofPot gs (ps j) 5 from by unfold sp_ofPot; exact ((if_neg (by decide)).trans ((if_neg (by decide)).trans ((if_neg (by decide)).trans ((if_neg (by decide)).trans ((if_neg (by decide)).trans (if_pos rfl)))))).symm)⟩
  · refine w_tableIn (tgt := 82) (off := 75) C dX7_ofPot_7 (by omega) (by omega) (by rw [e_sw]; rfl) (by rfl) ?_
    obtain rfl : what = 6 := Int32.toInt_inj.mp (by rw [e_sw]; rfl)
    first | refine w_aload_n C dX7_ofPot_82 (by rfl) ?_ | refine w_aload_nN C dX7_ofPot_82 (by rfl) ?_
    refine cl_X7_284 C (m_pot_col hl (gs := gs) hpj (fun g e => yG g (hPG j hj g e))) hpj (by rfl) (by rfl) ⟨by decide, by decide⟩ (by rfl) dX7_ofPot_83 (fun z2 h3 p3 => ?_)
    obtain ⟨rfl, rfl⟩ := p3
    refine w_iret C M dX7_ofPot_86 ⟨by decide, by decide⟩ ⟨_, rfl, ?_⟩
    exact ⟨rfl, j, hj, rfl, by decide, (show _ = sp_ofPot gs (ps j) 6 from by unfold sp_ofPot; exact ((if_neg (by decide)).trans ((if_neg (by decide)).trans ((if_neg (by decide)).trans ((if_neg (by decide)).trans ((if_neg (by decide)).trans ((if_neg (by decide)).trans (if_pos rfl))))))).symm)⟩
  · refine w_tableIn (tgt := 87) (off := 80) C dX7_ofPot_7 (by omega) (by omega) (by rw [e_sw]; rfl) (by rfl) ?_
    obtain rfl : what = 7 := Int32.toInt_inj.mp (by rw [e_sw]; rfl)
    first | refine w_aload_n C dX7_ofPot_87 (by rfl) ?_ | refine w_aload_nN C dX7_ofPot_87 (by rfl) ?_
    refine gf_X7_121 C hpj dX7_ofPot_88 ?_
    refine w_if_eq (tgt := 98) C dX7_ofPot_91 (by rfl) (fun c_91 => ?_) (fun c_91 => ?_)
    · try simp only [cg_ge, cg_gt, cl_gt, cl_le, cl_eq, cl_lt, cl_ge, bi_eq0, bi_ne0, bI_eq0, Decidable.not_not, Bool.not_eq_false] at c_91
      refine w_iconst (v := 0) C dX7_ofPot_98 (by rfl) ?_
      refine w_iret C M dX7_ofPot_99 ⟨by decide, by decide⟩ ⟨_, rfl, ?_⟩
      exact ⟨rfl, j, hj, rfl, by decide, show _ = sp_ofPot gs (ps j) 7 from by unfold sp_ofPot; refine Eq.trans ?_ ((if_neg (by decide)).trans ((if_neg (by decide)).trans ((if_neg (by decide)).trans ((if_neg (by decide)).trans ((if_neg (by decide)).trans ((if_neg (by decide)).trans (if_neg (by decide)))))))).symm; rw [show qCv (ps j).2.2 = false from c_91]; rfl⟩
    · try simp only [cg_ge, cg_gt, cl_gt, cl_le, cl_eq, cl_lt, cl_ge, bi_eq0, bi_ne0, bI_eq0, Decidable.not_not, Bool.not_eq_false] at c_91
      refine w_iconst (v := 1) C dX7_ofPot_94 (by rfl) ?_
      refine w_goto (tgt := 99) C dX7_ofPot_95 (by rfl) ?_
      refine w_iret C M dX7_ofPot_99 ⟨by decide, by decide⟩ ⟨_, rfl, ?_⟩
      exact ⟨rfl, j, hj, rfl, by decide, show _ = sp_ofPot gs (ps j) 7 from by unfold sp_ofPot; refine Eq.trans ?_ ((if_neg (by decide)).trans ((if_neg (by decide)).trans ((if_neg (by decide)).trans ((if_neg (by decide)).trans ((if_neg (by decide)).trans ((if_neg (by decide)).trans (if_neg (by decide)))))))).symm; rw [show qCv (ps j).2.2 = true from c_91]; rfl⟩

set_option maxHeartbeats 4000000 in
set_option maxRecDepth 100000 in
theorem m_X7_kiln {l : Launch} {D : va_G} {tc : Nat → ClassId} (hl : l.stackTraces = false) {h : HM} {y0 cA gA pA oA pr ra re rw tr tw : Nat} {ca ga pa oa : Nat → Nat} {f : Nat → Option Nat} {hb : UInt64} {hbt : UInt64} {dmt : Int32} {kt : KT} {nC : Nat} {cs : Nat → Int32 × Int32} {nG : Nat} {gs : Nat → GT} {nP : Nat} {ps : Nat → PT} {nO : Nat} {os : Nat → OT} {nR : Nat} {rs : Nat → RT} {k : KT} {dmp : Int32} {day : Int32} {pur : Int32} {rf : Int32} (Y : Yh tc y0 cA gA pA oA pr ra re rw tr tw ca ga pa oa f hb hbt dmt kt nC cs nG gs nP ps nO os nR rs k dmp day pur rf h) (hH : Ht (kH k)) (hP : FP.Core.FFin (kP k)) {what : Int32} :
    CTX l D tc yX7_kiln cX7_kiln 2 (some FieldType.double) rm_X7_kiln [.ref y0, .int what] h (rD (fun z h' => h' = h ∧ (0 ≤ (what).toInt ∧ (what).toInt ≤ 5) ∧ z = sp_kiln k what)) (fun E h' => E = "java/lang/IllegalArgumentException" ∧ h' = h ∧ ¬ (0 ≤ (what).toInt ∧ (what).toInt ≤ 5)) := by
  refine CTX.start [some (.ref y0), some (.int what)] (by decide) hl rfl rfl (fun K C M X => ?_)
  obtain ⟨rfl, rfl, rfl, -⟩ := id M
  have C : CX K RX7 cX7_kiln 2 rm_X7_kiln := C
  obtain ⟨yy, yc, yg, yp, yo, ypr, yra, yre, yrw, ytr, ytw, yC, yG, yP, yO, yR, yn1, yn2, yn3, yn4⟩ := id Y
  refine w_iload_n C dX7_kiln_0 (by rfl) ?_
  by_cases t_1 : (what).toInt < 0 ∨ 5 < (what).toInt
  · refine w_tableOut (tgt := 92) C dX7_kiln_1 t_1 (by rfl) ?_
    exact th_X7_78_330_82 C X (by rfl) (by rfl) (by rfl) (by decide) (by decide) (by decide) (by decide) ⟨rfl, rfl, fun w => by omega⟩ dX7_kiln_92 dX7_kiln_95 dX7_kiln_96 dX7_kiln_99 dX7_kiln_102
  rcases (show (what).toInt = 0 ∨ (what).toInt = 1 ∨ (what).toInt = 2 ∨ (what).toInt = 3 ∨ (what).toInt = 4 ∨ (what).toInt = 5 by omega) with e_sw | e_sw | e_sw | e_sw | e_sw | e_sw
  · refine w_tableIn (tgt := 40) (off := 39) C dX7_kiln_1 (by omega) (by omega) (by rw [e_sw]; rfl) (by rfl) ?_
    obtain rfl : what = 0 := Int32.toInt_inj.mp (by rw [e_sw]; rfl)
    first | refine w_aload_n C dX7_kiln_40 (by rfl) ?_ | refine w_aload_nN C dX7_kiln_40 (by rfl) ?_
    refine gf_X7_58 C yy dX7_kiln_41 ?_
    refine gf_X7_317 C yre dX7_kiln_44 ?_
    refine w_dret C M dX7_kiln_47 ⟨by decide, by decide⟩ ⟨_, rfl, ?_⟩
    exact ⟨rfl, by decide, (show _ = sp_kiln k 0 from by unfold sp_kiln; exact (if_pos rfl).symm)⟩
  · refine w_tableIn (tgt := 48) (off := 47) C dX7_kiln_1 (by omega) (by omega) (by rw [e_sw]; rfl) (by rfl) ?_
    obtain rfl : what = 1 := Int32.toInt_inj.mp (by rw [e_sw]; rfl)
    first | refine w_aload_n C dX7_kiln_48 (by rfl) ?_ | refine w_aload_nN C dX7_kiln_48 (by rfl) ?_
    refine gf_X7_58 C yy dX7_kiln_49 ?_
    refine gf_X7_320 C yre dX7_kiln_52 ?_
    refine w_f2d C dX7_kiln_55 (nn_of (dfin_f2d hP).n) ?_
    refine w_dret C M dX7_kiln_56 ⟨by decide, by decide⟩ ⟨_, rfl, ?_⟩
    exact ⟨rfl, by decide, (show _ = sp_kiln k 1 from by unfold sp_kiln; exact ((if_neg (by decide)).trans (if_pos rfl)).symm)⟩
  · refine w_tableIn (tgt := 57) (off := 56) C dX7_kiln_1 (by omega) (by omega) (by rw [e_sw]; rfl) (by rfl) ?_
    obtain rfl : what = 2 := Int32.toInt_inj.mp (by rw [e_sw]; rfl)
    first | refine w_aload_n C dX7_kiln_57 (by rfl) ?_ | refine w_aload_nN C dX7_kiln_57 (by rfl) ?_
    refine gf_X7_58 C yy dX7_kiln_58 ?_
    refine cl_X7_323 C (m_X2_gives hl yre hH hP) yre (by rfl) (by rfl) ⟨by decide, by decide⟩ (by rfl) dX7_kiln_61 (fun z2 h1 p1 => ?_)
    obtain ⟨rfl, rfl⟩ := p1
    refine w_dret C M dX7_kiln_64 ⟨by decide, by decide⟩ ⟨_, rfl, ?_⟩
    exact ⟨rfl, by decide, (show _ = sp_kiln k 2 from by unfold sp_kiln; exact ((if_neg (by decide)).trans ((if_neg (by decide)).trans (if_pos rfl))).symm)⟩
  · refine w_tableIn (tgt := 65) (off := 64) C dX7_kiln_1 (by omega) (by omega) (by rw [e_sw]; rfl) (by rfl) ?_
    obtain rfl : what = 3 := Int32.toInt_inj.mp (by rw [e_sw]; rfl)
    first | refine w_aload_n C dX7_kiln_65 (by rfl) ?_ | refine w_aload_nN C dX7_kiln_65 (by rfl) ?_
    refine gf_X7_58 C yy dX7_kiln_66 ?_
    refine w_iconst (v := 0) C dX7_kiln_69 (by rfl) ?_
    refine cl_X7_326 C (m_X2_workOf hl yre yrw (s := 0) (by decide)) yre (by rfl) (by rfl) ⟨by decide, by decide⟩ (by rfl) dX7_kiln_70 (fun z2 h2 p2 => ?_)
    obtain ⟨rfl, rfl⟩ := p2
    refine w_dret C M dX7_kiln_73 ⟨by decide, by decide⟩ ⟨_, rfl, ?_⟩
    exact ⟨rfl, by decide, (show _ = sp_kiln k 3 from by unfold sp_kiln; exact ((if_neg (by decide)).trans ((if_neg (by decide)).trans ((if_neg (by decide)).trans (if_pos rfl)))).symm)⟩
  · refine w_tableIn (tgt := 74) (off := 73) C dX7_kiln_1 (by omega) (by omega) (by rw [e_sw]; rfl) (by rfl) ?_
    obtain rfl : what = 4 := Int32.toInt_inj.mp (by rw [e_sw]; rfl)
    first | refine w_aload_n C dX7_kiln_74 (by rfl) ?_ | refine w_aload_nN C dX7_kiln_74 (by rfl) ?_
    refine gf_X7_58 C yy dX7_kiln_75 ?_
    refine w_iconst (v := 1) C dX7_kiln_78 (by rfl) ?_
    refine cl_X7_326 C (m_X2_workOf hl yre yrw (s := 1) (by decide)) yre (by rfl) (by rfl) ⟨by decide, by decide⟩ (by rfl) dX7_kiln_79 (fun z2 h3 p3 => ?_)
    obtain ⟨rfl, rfl⟩ := p3
    refine w_dret C M dX7_kiln_82 ⟨by decide, by decide⟩ ⟨_, rfl, ?_⟩
    exact ⟨rfl, by decide, (show _ = sp_kiln k 4 from by unfold sp_kiln; exact ((if_neg (by decide)).trans ((if_neg (by decide)).trans ((if_neg (by decide)).trans ((if_neg (by decide)).trans (if_pos rfl))))).symm)⟩
  · refine w_tableIn (tgt := 83) (off := 82) C dX7_kiln_1 (by omega) (by omega) (by rw [e_sw]; rfl) (by rfl) ?_
    obtain rfl : what = 5 := Int32.toInt_inj.mp (by rw [e_sw]; rfl)
    first | refine w_aload_n C dX7_kiln_83 (by rfl) ?_ | refine w_aload_nN C dX7_kiln_83 (by rfl) ?_
    refine gf_X7_58 C yy dX7_kiln_84 ?_
    refine w_iconst (v := 2) C dX7_kiln_87 (by rfl) ?_
    refine cl_X7_326 C (m_X2_workOf hl yre yrw (s := 2) (by decide)) yre (by rfl) (by rfl) ⟨by decide, by decide⟩ (by rfl) dX7_kiln_88 (fun z2 h4 p4 => ?_)
    obtain ⟨rfl, rfl⟩ := p4
    refine w_dret C M dX7_kiln_91 ⟨by decide, by decide⟩ ⟨_, rfl, ?_⟩
    exact ⟨rfl, by decide, (show _ = sp_kiln k 5 from by unfold sp_kiln; exact ((if_neg (by decide)).trans ((if_neg (by decide)).trans ((if_neg (by decide)).trans ((if_neg (by decide)).trans (if_neg (by decide)))))).symm)⟩

set_option maxHeartbeats 4000000 in
set_option maxRecDepth 100000 in
theorem m_X7_ofShelf {l : Launch} {D : va_G} {tc : Nat → ClassId} (hl : l.stackTraces = false) {h : HM} {y0 cA gA pA oA pr ra re rw tr tw : Nat} {ca ga pa oa : Nat → Nat} {f : Nat → Option Nat} {hb : UInt64} {hbt : UInt64} {dmt : Int32} {kt : KT} {nC : Nat} {cs : Nat → Int32 × Int32} {nG : Nat} {gs : Nat → GT} {nP : Nat} {ps : Nat → PT} {nO : Nat} {os : Nat → OT} {nR : Nat} {rs : Nat → RT} {k : KT} {dmp : Int32} {day : Int32} {pur : Int32} {rf : Int32} (Y : Yh tc y0 cA gA pA oA pr ra re rw tr tw ca ga pa oa f hb hbt dmt kt nC cs nG gs nP ps nO os nR rs k dmp day pur rf h) {i what : Int32} :
    CTX l D tc yX7_ofShelf cX7_ofShelf 3 (some FieldType.int) rm_X7_ofShelf [.ref y0, .int i, .int what] h (rI (fun z h' => h' = h ∧ ∃ s, s < 3 ∧ i = nI s ∧ (0 ≤ (what).toInt ∧ (what).toInt ≤ 3) ∧ z = sp_shelf k nP ps s what)) (fun E h' => (E = "java/lang/IndexOutOfBoundsException" ∧ h' = h ∧ out9 i 3) ∨ (E = "java/lang/IllegalArgumentException" ∧ h' = h ∧ ¬ out9 i 3 ∧ ¬ (0 ≤ (what).toInt ∧ (what).toInt ≤ 3))) := by
  refine CTX.start [some (.ref y0), some (.int i), some (.int what)] (by decide) hl rfl rfl (fun K C M X => ?_)
  obtain ⟨rfl, rfl, rfl, -⟩ := id M
  have C : CX K RX7 cX7_ofShelf 3 rm_X7_ofShelf := C
  obtain ⟨yy, yc, yg, yp, yo, ypr, yra, yre, yrw, ytr, ytw, yC, yG, yP, yO, yR, yn1, yn2, yn3, yn4⟩ := id Y
  refine w_iload_n C dX7_ofShelf_0 (by rfl) ?_
  refine cx_X7_153 C (m_X7_testShelf hl i) (by rfl) (by rfl) ⟨by decide, by decide⟩ (by rfl) dX7_ofShelf_1 (fun h1 p1 => ?_) (fun E hx px => w_prop X ⟨by decide, by decide⟩ (Or.inl px))
  obtain ⟨rfl, w0, w1⟩ := p1
  obtain ⟨s, hs, rfl⟩ := nI_i (N := 3) w0 w1
  have no9 : ¬ out9 (nI s) 3 := fun w => w ⟨w0, w1⟩
  refine w_iload_n C dX7_ofShelf_4 (by rfl) ?_
  by_cases t_5 : (what).toInt < 0 ∨ 3 < (what).toInt
  · refine w_tableOut (tgt := 63) C dX7_ofShelf_5 t_5 (by rfl) ?_
    exact th_X7_78_335_82 C X (by rfl) (by rfl) (by rfl) (by decide) (by decide) (by decide) (by decide) (Or.inr ⟨rfl, rfl, no9, fun w => by omega⟩) dX7_ofShelf_63 dX7_ofShelf_66 dX7_ofShelf_67 dX7_ofShelf_70 dX7_ofShelf_73
  rcases (show (what).toInt = 0 ∨ (what).toInt = 1 ∨ (what).toInt = 2 ∨ (what).toInt = 3 by omega) with e_sw | e_sw | e_sw | e_sw
  · refine w_tableIn (tgt := 36) (off := 31) C dX7_ofShelf_5 (by omega) (by omega) (by rw [e_sw]; rfl) (by rfl) ?_
    obtain rfl : what = 0 := Int32.toInt_inj.mp (by rw [e_sw]; rfl)
    first | refine w_aload_n C dX7_ofShelf_36 (by rfl) ?_ | refine w_aload_nN C dX7_ofShelf_36 (by rfl) ?_
    refine gf_X7_58 C yy dX7_ofShelf_37 ?_
    refine w_iload_n C dX7_ofShelf_40 (by rfl) ?_
    refine cl_X7_250 C (m_X2_coneOf hl yre yrw hs) yre (by rfl) (by rfl) ⟨by decide, by decide⟩ (by rfl) dX7_ofShelf_41 (fun z2 h2 p2 => ?_)
    obtain ⟨rfl, rfl⟩ := p2
    refine w_iret C M dX7_ofShelf_44 ⟨by decide, by decide⟩ ⟨_, rfl, ?_⟩
    exact ⟨rfl, s, hs, rfl, by decide, (show _ = sp_shelf k nP ps s 0 from by unfold sp_shelf; exact (if_pos rfl).symm)⟩
  · refine w_tableIn (tgt := 45) (off := 40) C dX7_ofShelf_5 (by omega) (by omega) (by rw [e_sw]; rfl) (by rfl) ?_
    obtain rfl : what = 1 := Int32.toInt_inj.mp (by rw [e_sw]; rfl)
    first | refine w_aload_n C dX7_ofShelf_45 (by rfl) ?_ | refine w_aload_nN C dX7_ofShelf_45 (by rfl) ?_
    refine w_iload_n C dX7_ofShelf_46 (by rfl) ?_
    refine cl_X7_194 C (m_X7_freeCells hl Y (nI s)) yy (by rfl) (by rfl) ⟨by decide, by decide⟩ (by rfl) dX7_ofShelf_47 (fun z2 h3 p3 => ?_)
    obtain ⟨rfl, rfl⟩ := p3
    refine w_iret C M dX7_ofShelf_50 ⟨by decide, by decide⟩ ⟨_, rfl, ?_⟩
    exact ⟨rfl, s, hs, rfl, by decide, (show _ = sp_shelf k nP ps s 1 from by unfold sp_shelf; exact ((if_neg (by decide)).trans (if_pos rfl)).symm)⟩
  · refine w_tableIn (tgt := 51) (off := 46) C dX7_ofShelf_5 (by omega) (by omega) (by rw [e_sw]; rfl) (by rfl) ?_
    obtain rfl : what = 2 := Int32.toInt_inj.mp (by rw [e_sw]; rfl)
    first | refine w_aload_n C dX7_ofShelf_51 (by rfl) ?_ | refine w_aload_nN C dX7_ofShelf_51 (by rfl) ?_
    refine w_iload_n C dX7_ofShelf_52 (by rfl) ?_
    refine cl_X7_228 C (m_X7_potsOn hl Y (nI s)) yy (by rfl) (by rfl) ⟨by decide, by decide⟩ (by rfl) dX7_ofShelf_53 (fun z2 h4 p4 => ?_)
    obtain ⟨rfl, rfl⟩ := p4
    refine w_iret C M dX7_ofShelf_56 ⟨by decide, by decide⟩ ⟨_, rfl, ?_⟩
    exact ⟨rfl, s, hs, rfl, by decide, (show _ = sp_shelf k nP ps s 2 from by unfold sp_shelf; exact ((if_neg (by decide)).trans ((if_neg (by decide)).trans (if_pos rfl))).symm)⟩
  · refine w_tableIn (tgt := 57) (off := 52) C dX7_ofShelf_5 (by omega) (by omega) (by rw [e_sw]; rfl) (by rfl) ?_
    obtain rfl : what = 3 := Int32.toInt_inj.mp (by rw [e_sw]; rfl)
    first | refine w_aload_n C dX7_ofShelf_57 (by rfl) ?_ | refine w_aload_nN C dX7_ofShelf_57 (by rfl) ?_
    refine w_iload_n C dX7_ofShelf_58 (by rfl) ?_
    refine cl_X7_332 C (m_X7_longestFreeRow hl Y (nI s)) yy (by rfl) (by rfl) ⟨by decide, by decide⟩ (by rfl) dX7_ofShelf_59 (fun z2 h5 p5 => ?_)
    obtain ⟨rfl, rfl⟩ := p5
    refine w_iret C M dX7_ofShelf_62 ⟨by decide, by decide⟩ ⟨_, rfl, ?_⟩
    exact ⟨rfl, s, hs, rfl, by decide, (show _ = sp_shelf k nP ps s 3 from by unfold sp_shelf; exact ((if_neg (by decide)).trans ((if_neg (by decide)).trans (if_neg (by decide)))).symm)⟩

set_option maxHeartbeats 4000000 in
set_option maxRecDepth 100000 in
theorem m_X7_many {l : Launch} {D : va_G} {tc : Nat → ClassId} (hl : l.stackTraces = false) {h : HM} {y0 cA gA pA oA pr ra re rw tr tw : Nat} {ca ga pa oa : Nat → Nat} {f : Nat → Option Nat} {hb : UInt64} {hbt : UInt64} {dmt : Int32} {kt : KT} {nC : Nat} {cs : Nat → Int32 × Int32} {nG : Nat} {gs : Nat → GT} {nP : Nat} {ps : Nat → PT} {nO : Nat} {os : Nat → OT} {nR : Nat} {rs : Nat → RT} {k : KT} {dmp : Int32} {day : Int32} {pur : Int32} {rf : Int32} (Y : Yh tc y0 cA gA pA oA pr ra re rw tr tw ca ga pa oa f hb hbt dmt kt nC cs nG gs nP ps nO os nR rs k dmp day pur rf h) (hO : nO = 0) {what : Int32} :
    CTX l D tc yX7_many cX7_many 2 (some FieldType.int) rm_X7_many [.ref y0, .int what] h (rI (fun z h' => h' = h ∧ (0 ≤ (what).toInt ∧ (what).toInt ≤ 15) ∧ z = sp_many nP ps nO os nR k day pur rf what)) (fun E h' => E = "java/lang/IllegalArgumentException" ∧ h' = h ∧ ¬ (0 ≤ (what).toInt ∧ (what).toInt ≤ 15)) := by
  refine CTX.start [some (.ref y0), some (.int what)] (by decide) hl rfl rfl (fun K C M X => ?_)
  obtain ⟨rfl, rfl, rfl, -⟩ := id M
  have C : CX K RX7 cX7_many 2 rm_X7_many := C
  obtain ⟨yy, yc, yg, yp, yo, ypr, yra, yre, yrw, ytr, ytw, yC, yG, yP, yO, yR, yn1, yn2, yn3, yn4⟩ := id Y
  refine w_iload_n C dX7_many_0 (by rfl) ?_
  by_cases t_1 : (what).toInt < 0 ∨ 15 < (what).toInt
  · refine w_tableOut (tgt := 232) C dX7_many_1 t_1 (by rfl) ?_
    exact th_X7_78_355_82 C X (by rfl) (by rfl) (by rfl) (by decide) (by decide) (by decide) (by decide) ⟨rfl, rfl, fun w => by omega⟩ dX7_many_232 dX7_many_235 dX7_many_236 dX7_many_239 dX7_many_242
  rcases (show (what).toInt = 0 ∨ (what).toInt = 1 ∨ (what).toInt = 2 ∨ (what).toInt = 3 ∨ (what).toInt = 4 ∨ (what).toInt = 5 ∨ (what).toInt = 6 ∨ (what).toInt = 7 ∨ (what).toInt = 8 ∨ (what).toInt = 9 ∨ (what).toInt = 10 ∨ (what).toInt = 11 ∨ (what).toInt = 12 ∨ (what).toInt = 13 ∨ (what).toInt = 14 ∨ (what).toInt = 15 by omega) with e_sw | e_sw | e_sw | e_sw | e_sw | e_sw | e_sw | e_sw | e_sw | e_sw | e_sw | e_sw | e_sw | e_sw | e_sw | e_sw
  · refine w_tableIn (tgt := 80) (off := 79) C dX7_many_1 (by omega) (by omega) (by rw [e_sw]; rfl) (by rfl) ?_
    obtain rfl : what = 0 := Int32.toInt_inj.mp (by rw [e_sw]; rfl)
    first | refine w_aload_n C dX7_many_80 (by rfl) ?_ | refine w_aload_nN C dX7_many_80 (by rfl) ?_
    refine gf_X7_65 C yy dX7_many_81 ?_
    refine w_iret C M dX7_many_84 ⟨by decide, by decide⟩ ⟨_, rfl, ?_⟩
    exact ⟨rfl, by decide, (show _ = sp_many nP ps nO os nR k day pur rf 0 from by unfold sp_many; exact (if_pos rfl).symm)⟩
  · refine w_tableIn (tgt := 85) (off := 84) C dX7_many_1 (by omega) (by omega) (by rw [e_sw]; rfl) (by rfl) ?_
    obtain rfl : what = 1 := Int32.toInt_inj.mp (by rw [e_sw]; rfl)
    first | refine w_aload_n C dX7_many_85 (by rfl) ?_ | refine w_aload_nN C dX7_many_85 (by rfl) ?_
    refine gf_X7_58 C yy dX7_many_86 ?_
    refine gf_X7_337 C yre dX7_many_89 ?_
    refine w_iret C M dX7_many_92 ⟨by decide, by decide⟩ ⟨_, rfl, ?_⟩
    exact ⟨rfl, by decide, (show _ = sp_many nP ps nO os nR k day pur rf 1 from by unfold sp_many; exact ((if_neg (by decide)).trans (if_pos rfl)).symm)⟩
  · refine w_tableIn (tgt := 93) (off := 92) C dX7_many_1 (by omega) (by omega) (by rw [e_sw]; rfl) (by rfl) ?_
    obtain rfl : what = 2 := Int32.toInt_inj.mp (by rw [e_sw]; rfl)
    first | refine w_aload_n C dX7_many_93 (by rfl) ?_ | refine w_aload_nN C dX7_many_93 (by rfl) ?_
    refine gf_X7_58 C yy dX7_many_94 ?_
    refine gf_X7_204 C yre dX7_many_97 ?_
    refine w_if_eq (tgt := 107) C dX7_many_100 (by rfl) (fun c_100 => ?_) (fun c_100 => ?_)
    · try simp only [cg_ge, cg_gt, cl_gt, cl_le, cl_eq, cl_lt, cl_ge, bi_eq0, bi_ne0, bI_eq0, Decidable.not_not, Bool.not_eq_false] at c_100
      refine w_iconst (v := 0) C dX7_many_107 (by rfl) ?_
      refine w_iret C M dX7_many_108 ⟨by decide, by decide⟩ ⟨_, rfl, ?_⟩
      exact ⟨rfl, by decide, show _ = sp_many nP ps nO os nR k day pur rf 2 from by unfold sp_many; refine Eq.trans ?_ ((if_neg (by decide)).trans ((if_neg (by decide)).trans (if_pos rfl))).symm; rw [show kL k = false from c_100]; rfl⟩
    · try simp only [cg_ge, cg_gt, cl_gt, cl_le, cl_eq, cl_lt, cl_ge, bi_eq0, bi_ne0, bI_eq0, Decidable.not_not, Bool.not_eq_false] at c_100
      refine w_iconst (v := 1) C dX7_many_103 (by rfl) ?_
      refine w_goto (tgt := 108) C dX7_many_104 (by rfl) ?_
      refine w_iret C M dX7_many_108 ⟨by decide, by decide⟩ ⟨_, rfl, ?_⟩
      exact ⟨rfl, by decide, show _ = sp_many nP ps nO os nR k day pur rf 2 from by unfold sp_many; refine Eq.trans ?_ ((if_neg (by decide)).trans ((if_neg (by decide)).trans (if_pos rfl))).symm; rw [show kL k = true from c_100]; rfl⟩
  · refine w_tableIn (tgt := 109) (off := 108) C dX7_many_1 (by omega) (by omega) (by rw [e_sw]; rfl) (by rfl) ?_
    obtain rfl : what = 3 := Int32.toInt_inj.mp (by rw [e_sw]; rfl)
    first | refine w_aload_n C dX7_many_109 (by rfl) ?_ | refine w_aload_nN C dX7_many_109 (by rfl) ?_
    refine gf_X7_58 C yy dX7_many_110 ?_
    refine gf_X7_204 C yre dX7_many_113 ?_
    refine w_if_eq (tgt := 129) C dX7_many_116 (by rfl) (fun c_116 => ?_) (fun c_116 => ?_)
    · try simp only [cg_ge, cg_gt, cl_gt, cl_le, cl_eq, cl_lt, cl_ge, bi_eq0, bi_ne0, bI_eq0, Decidable.not_not, Bool.not_eq_false] at c_116
      refine w_iconst (v := (-1)) C dX7_many_129 (by rfl) ?_
      refine w_iret C M dX7_many_130 ⟨by decide, by decide⟩ ⟨_, rfl, ?_⟩
      exact ⟨rfl, by decide, show _ = sp_many nP ps nO os nR k day pur rf 3 from by unfold sp_many; refine Eq.trans ?_ ((if_neg (by decide)).trans ((if_neg (by decide)).trans ((if_neg (by decide)).trans (if_pos rfl)))).symm; rw [show kL k = false from c_116]; rfl⟩
    · try simp only [cg_ge, cg_gt, cl_gt, cl_le, cl_eq, cl_lt, cl_ge, bi_eq0, bi_ne0, bI_eq0, Decidable.not_not, Bool.not_eq_false] at c_116
      first | refine w_aload_n C dX7_many_119 (by rfl) ?_ | refine w_aload_nN C dX7_many_119 (by rfl) ?_
      refine gf_X7_58 C yy dX7_many_120 ?_
      refine gf_X7_340 C yre dX7_many_123 ?_
      refine w_goto (tgt := 130) C dX7_many_126 (by rfl) ?_
      refine w_iret C M dX7_many_130 ⟨by decide, by decide⟩ ⟨_, rfl, ?_⟩
      exact ⟨rfl, by decide, show _ = sp_many nP ps nO os nR k day pur rf 3 from by unfold sp_many; refine Eq.trans ?_ ((if_neg (by decide)).trans ((if_neg (by decide)).trans ((if_neg (by decide)).trans (if_pos rfl)))).symm; rw [show kL k = true from c_116]; rfl⟩
  · refine w_tableIn (tgt := 131) (off := 130) C dX7_many_1 (by omega) (by omega) (by rw [e_sw]; rfl) (by rfl) ?_
    obtain rfl : what = 4 := Int32.toInt_inj.mp (by rw [e_sw]; rfl)
    first | refine w_aload_n C dX7_many_131 (by rfl) ?_ | refine w_aload_nN C dX7_many_131 (by rfl) ?_
    refine gf_X7_58 C yy dX7_many_132 ?_
    refine gf_X7_204 C yre dX7_many_135 ?_
    refine w_if_eq (tgt := 151) C dX7_many_138 (by rfl) (fun c_138 => ?_) (fun c_138 => ?_)
    · try simp only [cg_ge, cg_gt, cl_gt, cl_le, cl_eq, cl_lt, cl_ge, bi_eq0, bi_ne0, bI_eq0, Decidable.not_not, Bool.not_eq_false] at c_138
      refine w_iconst (v := 0) C dX7_many_151 (by rfl) ?_
      refine w_iret C M dX7_many_152 ⟨by decide, by decide⟩ ⟨_, rfl, ?_⟩
      exact ⟨rfl, by decide, show _ = sp_many nP ps nO os nR k day pur rf 4 from by unfold sp_many; refine Eq.trans ?_ ((if_neg (by decide)).trans ((if_neg (by decide)).trans ((if_neg (by decide)).trans ((if_neg (by decide)).trans (if_pos rfl))))).symm; rw [show kL k = false from c_138]; rfl⟩
    · try simp only [cg_ge, cg_gt, cl_gt, cl_le, cl_eq, cl_lt, cl_ge, bi_eq0, bi_ne0, bI_eq0, Decidable.not_not, Bool.not_eq_false] at c_138
      first | refine w_aload_n C dX7_many_141 (by rfl) ?_ | refine w_aload_nN C dX7_many_141 (by rfl) ?_
      refine gf_X7_58 C yy dX7_many_142 ?_
      refine gf_X7_343 C yre dX7_many_145 ?_
      refine w_goto (tgt := 152) C dX7_many_148 (by rfl) ?_
      refine w_iret C M dX7_many_152 ⟨by decide, by decide⟩ ⟨_, rfl, ?_⟩
      exact ⟨rfl, by decide, show _ = sp_many nP ps nO os nR k day pur rf 4 from by unfold sp_many; refine Eq.trans ?_ ((if_neg (by decide)).trans ((if_neg (by decide)).trans ((if_neg (by decide)).trans ((if_neg (by decide)).trans (if_pos rfl))))).symm; rw [show kL k = true from c_138]; rfl⟩
  · refine w_tableIn (tgt := 153) (off := 152) C dX7_many_1 (by omega) (by omega) (by rw [e_sw]; rfl) (by rfl) ?_
    obtain rfl : what = 5 := Int32.toInt_inj.mp (by rw [e_sw]; rfl)
    first | refine w_aload_n C dX7_many_153 (by rfl) ?_ | refine w_aload_nN C dX7_many_153 (by rfl) ?_
    refine gf_X7_49 C yy dX7_many_154 ?_
    refine gf_X7_207 C ypr dX7_many_157 ?_
    refine w_iret C M dX7_many_160 ⟨by decide, by decide⟩ ⟨_, rfl, ?_⟩
    exact ⟨rfl, by decide, (show _ = sp_many nP ps nO os nR k day pur rf 5 from by unfold sp_many; exact ((if_neg (by decide)).trans ((if_neg (by decide)).trans ((if_neg (by decide)).trans ((if_neg (by decide)).trans ((if_neg (by decide)).trans (if_pos rfl)))))).symm)⟩
  · refine w_tableIn (tgt := 161) (off := 160) C dX7_many_1 (by omega) (by omega) (by rw [e_sw]; rfl) (by rfl) ?_
    obtain rfl : what = 6 := Int32.toInt_inj.mp (by rw [e_sw]; rfl)
    first | refine w_aload_n C dX7_many_161 (by rfl) ?_ | refine w_aload_nN C dX7_many_161 (by rfl) ?_
    refine gf_X7_40 C yy dX7_many_162 ?_
    refine w_iret C M dX7_many_165 ⟨by decide, by decide⟩ ⟨_, rfl, ?_⟩
    exact ⟨rfl, by decide, (show _ = sp_many nP ps nO os nR k day pur rf 6 from by unfold sp_many; exact ((if_neg (by decide)).trans ((if_neg (by decide)).trans ((if_neg (by decide)).trans ((if_neg (by decide)).trans ((if_neg (by decide)).trans ((if_neg (by decide)).trans (if_pos rfl))))))).symm)⟩
  · refine w_tableIn (tgt := 166) (off := 165) C dX7_many_1 (by omega) (by omega) (by rw [e_sw]; rfl) (by rfl) ?_
    obtain rfl : what = 7 := Int32.toInt_inj.mp (by rw [e_sw]; rfl)
    first | refine w_aload_n C dX7_many_166 (by rfl) ?_ | refine w_aload_nN C dX7_many_166 (by rfl) ?_
    refine w_iconst (v := 4) C dX7_many_167 (by rfl) ?_
    refine cl_X7_133 C (m_X7_potsInState hl Y 4) yy (by rfl) (by rfl) ⟨by decide, by decide⟩ (by rfl) dX7_many_168 (fun z2 h1 p1 => ?_)
    obtain ⟨rfl, rfl⟩ := p1
    refine w_iret C M dX7_many_171 ⟨by decide, by decide⟩ ⟨_, rfl, ?_⟩
    exact ⟨rfl, by decide, (show _ = sp_many nP ps nO os nR k day pur rf 7 from by unfold sp_many; exact ((if_neg (by decide)).trans ((if_neg (by decide)).trans ((if_neg (by decide)).trans ((if_neg (by decide)).trans ((if_neg (by decide)).trans ((if_neg (by decide)).trans ((if_neg (by decide)).trans (if_pos rfl)))))))).symm)⟩
  · refine w_tableIn (tgt := 172) (off := 171) C dX7_many_1 (by omega) (by omega) (by rw [e_sw]; rfl) (by rfl) ?_
    obtain rfl : what = 8 := Int32.toInt_inj.mp (by rw [e_sw]; rfl)
    first | refine w_aload_n C dX7_many_172 (by rfl) ?_ | refine w_aload_nN C dX7_many_172 (by rfl) ?_
    refine w_iconst (v := 5) C dX7_many_173 (by rfl) ?_
    refine cl_X7_133 C (m_X7_potsInState hl Y 5) yy (by rfl) (by rfl) ⟨by decide, by decide⟩ (by rfl) dX7_many_174 (fun z2 h2 p2 => ?_)
    obtain ⟨rfl, rfl⟩ := p2
    refine w_iret C M dX7_many_177 ⟨by decide, by decide⟩ ⟨_, rfl, ?_⟩
    exact ⟨rfl, by decide, (show _ = sp_many nP ps nO os nR k day pur rf 8 from by unfold sp_many; exact ((if_neg (by decide)).trans ((if_neg (by decide)).trans ((if_neg (by decide)).trans ((if_neg (by decide)).trans ((if_neg (by decide)).trans ((if_neg (by decide)).trans ((if_neg (by decide)).trans ((if_neg (by decide)).trans (if_pos rfl))))))))).symm)⟩
  · refine w_tableIn (tgt := 178) (off := 177) C dX7_many_1 (by omega) (by omega) (by rw [e_sw]; rfl) (by rfl) ?_
    obtain rfl : what = 9 := Int32.toInt_inj.mp (by rw [e_sw]; rfl)
    first | refine w_aload_n C dX7_many_178 (by rfl) ?_ | refine w_aload_nN C dX7_many_178 (by rfl) ?_
    refine w_bipush (v := (6)) C dX7_many_179 (by rfl) ?_
    refine cl_X7_133 C (m_X7_potsInState hl Y 6) yy (by rfl) (by rfl) ⟨by decide, by decide⟩ (by rfl) dX7_many_181 (fun z2 h3 p3 => ?_)
    obtain ⟨rfl, rfl⟩ := p3
    refine w_iret C M dX7_many_184 ⟨by decide, by decide⟩ ⟨_, rfl, ?_⟩
    exact ⟨rfl, by decide, (show _ = sp_many nP ps nO os nR k day pur rf 9 from by unfold sp_many; exact ((if_neg (by decide)).trans ((if_neg (by decide)).trans ((if_neg (by decide)).trans ((if_neg (by decide)).trans ((if_neg (by decide)).trans ((if_neg (by decide)).trans ((if_neg (by decide)).trans ((if_neg (by decide)).trans ((if_neg (by decide)).trans (if_pos rfl)))))))))).symm)⟩
  · refine w_tableIn (tgt := 185) (off := 184) C dX7_many_1 (by omega) (by omega) (by rw [e_sw]; rfl) (by rfl) ?_
    obtain rfl : what = 10 := Int32.toInt_inj.mp (by rw [e_sw]; rfl)
    first | refine w_aload_n C dX7_many_185 (by rfl) ?_ | refine w_aload_nN C dX7_many_185 (by rfl) ?_
    refine gf_X7_58 C yy dX7_many_186 ?_
    refine gf_X7_346 C yre dX7_many_189 ?_
    refine w_iret C M dX7_many_192 ⟨by decide, by decide⟩ ⟨_, rfl, ?_⟩
    exact ⟨rfl, by decide, (show _ = sp_many nP ps nO os nR k day pur rf 10 from by unfold sp_many; exact ((if_neg (by decide)).trans ((if_neg (by decide)).trans ((if_neg (by decide)).trans ((if_neg (by decide)).trans ((if_neg (by decide)).trans ((if_neg (by decide)).trans ((if_neg (by decide)).trans ((if_neg (by decide)).trans ((if_neg (by decide)).trans ((if_neg (by decide)).trans (if_pos rfl))))))))))).symm)⟩
  · refine w_tableIn (tgt := 193) (off := 192) C dX7_many_1 (by omega) (by omega) (by rw [e_sw]; rfl) (by rfl) ?_
    obtain rfl : what = 11 := Int32.toInt_inj.mp (by rw [e_sw]; rfl)
    first | refine w_aload_n C dX7_many_193 (by rfl) ?_ | refine w_aload_nN C dX7_many_193 (by rfl) ?_
    refine gf_X7_58 C yy dX7_many_194 ?_
    refine gf_X7_349 C yre dX7_many_197 ?_
    refine w_iret C M dX7_many_200 ⟨by decide, by decide⟩ ⟨_, rfl, ?_⟩
    exact ⟨rfl, by decide, (show _ = sp_many nP ps nO os nR k day pur rf 11 from by unfold sp_many; exact ((if_neg (by decide)).trans ((if_neg (by decide)).trans ((if_neg (by decide)).trans ((if_neg (by decide)).trans ((if_neg (by decide)).trans ((if_neg (by decide)).trans ((if_neg (by decide)).trans ((if_neg (by decide)).trans ((if_neg (by decide)).trans ((if_neg (by decide)).trans ((if_neg (by decide)).trans (if_pos rfl)))))))))))).symm)⟩
  · refine w_tableIn (tgt := 201) (off := 200) C dX7_many_1 (by omega) (by omega) (by rw [e_sw]; rfl) (by rfl) ?_
    obtain rfl : what = 12 := Int32.toInt_inj.mp (by rw [e_sw]; rfl)
    first | refine w_aload_n C dX7_many_201 (by rfl) ?_ | refine w_aload_nN C dX7_many_201 (by rfl) ?_
    refine gf_X7_68 C yy dX7_many_202 ?_
    refine w_iret C M dX7_many_205 ⟨by decide, by decide⟩ ⟨_, rfl, ?_⟩
    exact ⟨rfl, by decide, (show _ = sp_many nP ps nO os nR k day pur rf 12 from by unfold sp_many; exact ((if_neg (by decide)).trans ((if_neg (by decide)).trans ((if_neg (by decide)).trans ((if_neg (by decide)).trans ((if_neg (by decide)).trans ((if_neg (by decide)).trans ((if_neg (by decide)).trans ((if_neg (by decide)).trans ((if_neg (by decide)).trans ((if_neg (by decide)).trans ((if_neg (by decide)).trans ((if_neg (by decide)).trans (if_pos rfl))))))))))))).symm)⟩
  · refine w_tableIn (tgt := 206) (off := 205) C dX7_many_1 (by omega) (by omega) (by rw [e_sw]; rfl) (by rfl) ?_
    obtain rfl : what = 13 := Int32.toInt_inj.mp (by rw [e_sw]; rfl)
    first | refine w_aload_n C dX7_many_206 (by rfl) ?_ | refine w_aload_nN C dX7_many_206 (by rfl) ?_
    refine cl_X7_352 C (m_X7_openOrders hl Y hO) yy (by rfl) (by rfl) ⟨by decide, by decide⟩ (by rfl) dX7_many_207 (fun z2 h4 p4 => ?_)
    obtain ⟨rfl, rfl⟩ := p4
    refine w_iret C M dX7_many_210 ⟨by decide, by decide⟩ ⟨_, rfl, ?_⟩
    exact ⟨rfl, by decide, (show _ = sp_many nP ps nO os nR k day pur rf 13 from by unfold sp_many; exact ((if_neg (by decide)).trans ((if_neg (by decide)).trans ((if_neg (by decide)).trans ((if_neg (by decide)).trans ((if_neg (by decide)).trans ((if_neg (by decide)).trans ((if_neg (by decide)).trans ((if_neg (by decide)).trans ((if_neg (by decide)).trans ((if_neg (by decide)).trans ((if_neg (by decide)).trans ((if_neg (by decide)).trans ((if_neg (by decide)).trans (if_pos rfl)))))))))))))).symm)⟩
  · refine w_tableIn (tgt := 211) (off := 210) C dX7_many_1 (by omega) (by omega) (by rw [e_sw]; rfl) (by rfl) ?_
    obtain rfl : what = 14 := Int32.toInt_inj.mp (by rw [e_sw]; rfl)
    first | refine w_aload_n C dX7_many_211 (by rfl) ?_ | refine w_aload_nN C dX7_many_211 (by rfl) ?_
    refine gf_X7_71 C yy dX7_many_212 ?_
    refine w_iret C M dX7_many_215 ⟨by decide, by decide⟩ ⟨_, rfl, ?_⟩
    exact ⟨rfl, by decide, (show _ = sp_many nP ps nO os nR k day pur rf 14 from by unfold sp_many; exact ((if_neg (by decide)).trans ((if_neg (by decide)).trans ((if_neg (by decide)).trans ((if_neg (by decide)).trans ((if_neg (by decide)).trans ((if_neg (by decide)).trans ((if_neg (by decide)).trans ((if_neg (by decide)).trans ((if_neg (by decide)).trans ((if_neg (by decide)).trans ((if_neg (by decide)).trans ((if_neg (by decide)).trans ((if_neg (by decide)).trans ((if_neg (by decide)).trans (if_pos rfl))))))))))))))).symm)⟩
  · refine w_tableIn (tgt := 216) (off := 215) C dX7_many_1 (by omega) (by omega) (by rw [e_sw]; rfl) (by rfl) ?_
    obtain rfl : what = 15 := Int32.toInt_inj.mp (by rw [e_sw]; rfl)
    first | refine w_aload_n C dX7_many_216 (by rfl) ?_ | refine w_aload_nN C dX7_many_216 (by rfl) ?_
    refine gf_X7_58 C yy dX7_many_217 ?_
    refine gf_X7_245 C yre dX7_many_220 ?_
    refine w_if_eq (tgt := 230) C dX7_many_223 (by rfl) (fun c_223 => ?_) (fun c_223 => ?_)
    · try simp only [cg_ge, cg_gt, cl_gt, cl_le, cl_eq, cl_lt, cl_ge, bi_eq0, bi_ne0, bI_eq0, Decidable.not_not, Bool.not_eq_false] at c_223
      refine w_iconst (v := 0) C dX7_many_230 (by rfl) ?_
      refine w_iret C M dX7_many_231 ⟨by decide, by decide⟩ ⟨_, rfl, ?_⟩
      exact ⟨rfl, by decide, show _ = sp_many nP ps nO os nR k day pur rf 15 from by unfold sp_many; refine Eq.trans ?_ ((if_neg (by decide)).trans ((if_neg (by decide)).trans ((if_neg (by decide)).trans ((if_neg (by decide)).trans ((if_neg (by decide)).trans ((if_neg (by decide)).trans ((if_neg (by decide)).trans ((if_neg (by decide)).trans ((if_neg (by decide)).trans ((if_neg (by decide)).trans ((if_neg (by decide)).trans ((if_neg (by decide)).trans ((if_neg (by decide)).trans ((if_neg (by decide)).trans (if_neg (by decide)))))))))))))))).symm; rw [show kO k = false from c_223]; rfl⟩
    · try simp only [cg_ge, cg_gt, cl_gt, cl_le, cl_eq, cl_lt, cl_ge, bi_eq0, bi_ne0, bI_eq0, Decidable.not_not, Bool.not_eq_false] at c_223
      refine w_iconst (v := 1) C dX7_many_226 (by rfl) ?_
      refine w_goto (tgt := 231) C dX7_many_227 (by rfl) ?_
      refine w_iret C M dX7_many_231 ⟨by decide, by decide⟩ ⟨_, rfl, ?_⟩
      exact ⟨rfl, by decide, show _ = sp_many nP ps nO os nR k day pur rf 15 from by unfold sp_many; refine Eq.trans ?_ ((if_neg (by decide)).trans ((if_neg (by decide)).trans ((if_neg (by decide)).trans ((if_neg (by decide)).trans ((if_neg (by decide)).trans ((if_neg (by decide)).trans ((if_neg (by decide)).trans ((if_neg (by decide)).trans ((if_neg (by decide)).trans ((if_neg (by decide)).trans ((if_neg (by decide)).trans ((if_neg (by decide)).trans ((if_neg (by decide)).trans ((if_neg (by decide)).trans (if_neg (by decide)))))))))))))))).symm; rw [show kO k = true from c_223]; rfl⟩
