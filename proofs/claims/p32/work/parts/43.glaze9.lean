/-! WHAT IS ASKED OF A GLAZE -/
def sp_ofGlaze (g : GT) (what : Int32) : UInt64 :=
  if what = 0 then sp_growth g else if what = 1 then (if g.2.2.1 = 0 then 4636666922610458624 else FP.ddiv (FP.i2d g.2.2.2.1) (FP.i2d g.2.2.1)) else FP.i2d (sp_melts g)

set_option maxHeartbeats 4000000 in
set_option maxRecDepth 100000 in
theorem m_X7_ofGlaze {l : Launch} {D : va_G} {tc : Nat → ClassId} (hl : l.stackTraces = false) {h : HM} {y0 cA gA pA oA pr ra re rw tr tw : Nat} {ca ga pa oa : Nat → Nat} {f : Nat → Option Nat} {hb : UInt64} {hbt : UInt64} {dmt : Int32} {kt : KT} {nC : Nat} {cs : Nat → Int32 × Int32} {nG : Nat} {gs : Nat → GT} {nP : Nat} {ps : Nat → PT} {nO : Nat} {os : Nat → OT} {nR : Nat} {rs : Nat → RT} {k : KT} {dmp : Int32} {day : Int32} {pur : Int32} {rf : Int32} (Y : Yh tc y0 cA gA pA oA pr ra re rw tr tw ca ga pa oa f hb hbt dmt kt nC cs nG gs nP ps nO os nR rs k dmp day pur rf h) (bG : nG ≤ 4) (hn : ∀ i, i < nG → ¬ (gs i).2.2.1 = 0 → vf_n64 (FP.ddiv (FP.i2d (gs i).2.2.2.1) (FP.i2d (gs i).2.2.1))) {gl what : Int32} :
    CTX l D tc yX7_ofGlaze cX7_ofGlaze 4 (some FieldType.double) rm_X7_ofGlaze [.ref y0, .int gl, .int what] h (rD (fun z h' => h' = h ∧ ∃ g, g < nG ∧ gl = nI g ∧ (0 ≤ (what).toInt ∧ (what).toInt ≤ 2) ∧ z = sp_ofGlaze (gs g) what)) (fun E h' => (E = "java/lang/IndexOutOfBoundsException" ∧ h' = h ∧ out9 gl nG) ∨ (E = "java/lang/IllegalArgumentException" ∧ h' = h ∧ ¬ out9 gl nG ∧ ¬ (0 ≤ (what).toInt ∧ (what).toInt ≤ 2))) := by
  refine CTX.start [some (.ref y0), some (.int gl), some (.int what), none] (by decide) hl rfl rfl (fun K C M X => ?_)
  obtain ⟨rfl, rfl, rfl, -⟩ := id M
  have C : CX K RX7 cX7_ofGlaze 4 rm_X7_ofGlaze := C
  obtain ⟨yy, yc, yg, yp, yo, ypr, yra, yre, yrw, ytr, ytw, yC, yG, yP, yO, yR, yn1, yn2, yn3, yn4⟩ := id Y
  first | refine w_aload_n C dX7_ofGlaze_0 (by rfl) ?_ | refine w_aload_nN C dX7_ofGlaze_0 (by rfl) ?_
  refine w_iload_n C dX7_ofGlaze_1 (by rfl) ?_
  refine cx_X7_137 C (m_X7_glazeAt hl Y bG gl) yy (by rfl) (by rfl) ⟨by decide, by decide⟩ (by rfl) dX7_ofGlaze_2 (fun z0 h1 p1 => ?_) (fun E hx px => w_prop X ⟨by decide, by decide⟩ (Or.inl px))
  obtain ⟨rfl, g, hg, rfl, rfl⟩ := p1
  have hgg := yG g hg
  have no9 : ¬ out9 (nI g) nG := fun w => w (by rw [nI_toInt (by omega)]; omega)
  first | refine w_astore_3 C dX7_ofGlaze_5 (by first | trivial | rfl) ?_ | refine w_astore_3N C dX7_ofGlaze_5 (by first | trivial | rfl) ?_
  refine w_iload_n C dX7_ofGlaze_6 (by rfl) ?_
  by_cases t_7 : (what).toInt < 0 ∨ 2 < (what).toInt
  · refine w_tableOut (tgt := 48) C dX7_ofGlaze_7 t_7 (by rfl) ?_
    exact th_X7_78_315_82 C X (by rfl) (by rfl) (by rfl) (by decide) (by decide) (by decide) (by decide) (Or.inr ⟨rfl, rfl, no9, fun w => by omega⟩) dX7_ofGlaze_48 dX7_ofGlaze_51 dX7_ofGlaze_52 dX7_ofGlaze_55 dX7_ofGlaze_58
  rcases (show (what).toInt = 0 ∨ (what).toInt = 1 ∨ (what).toInt = 2 by omega) with e_sw | e_sw | e_sw
  · refine w_tableIn (tgt := 32) (off := 25) C dX7_ofGlaze_7 (by omega) (by omega) (by rw [e_sw]; rfl) (by rfl) ?_
    obtain rfl : what = 0 := Int32.toInt_inj.mp (by rw [e_sw]; rfl)
    first | refine w_aload_n C dX7_ofGlaze_32 (by rfl) ?_ | refine w_aload_nN C dX7_ofGlaze_32 (by rfl) ?_
    refine gf_X7_307 C hgg dX7_ofGlaze_33 ?_
    refine w_dret C M dX7_ofGlaze_36 ⟨by decide, by decide⟩ ⟨_, rfl, ?_⟩
    exact ⟨rfl, g, hg, rfl, by decide, (show _ = sp_ofGlaze (gs g) 0 from by unfold sp_ofGlaze; exact (if_pos rfl).symm)⟩
  · refine w_tableIn (tgt := 37) (off := 30) C dX7_ofGlaze_7 (by omega) (by omega) (by rw [e_sw]; rfl) (by rfl) ?_
    obtain rfl : what = 1 := Int32.toInt_inj.mp (by rw [e_sw]; rfl)
    first | refine w_aload_n C dX7_ofGlaze_37 (by rfl) ?_ | refine w_aload_nN C dX7_ofGlaze_37 (by rfl) ?_
    refine cl_X7_311 C (m_X1_silicaToAlumina hl hgg (hn g hg)) hgg (by rfl) (by rfl) ⟨by decide, by decide⟩ (by rfl) dX7_ofGlaze_38 (fun z1 h2 p2 => ?_)
    obtain ⟨rfl, rfl⟩ := p2
    refine w_dret C M dX7_ofGlaze_41 ⟨by decide, by decide⟩ ⟨_, rfl, ?_⟩
    exact ⟨rfl, g, hg, rfl, by decide, (show _ = sp_ofGlaze (gs g) 1 from by unfold sp_ofGlaze; exact ((if_neg (by decide)).trans (if_pos rfl)).symm)⟩
  · refine w_tableIn (tgt := 42) (off := 35) C dX7_ofGlaze_7 (by omega) (by omega) (by rw [e_sw]; rfl) (by rfl) ?_
    obtain rfl : what = 2 := Int32.toInt_inj.mp (by rw [e_sw]; rfl)
    first | refine w_aload_n C dX7_ofGlaze_42 (by rfl) ?_ | refine w_aload_nN C dX7_ofGlaze_42 (by rfl) ?_
    refine gf_X7_150 C hgg dX7_ofGlaze_43 ?_
    refine w_i2d C dX7_ofGlaze_46 ?_
    refine w_dret C M dX7_ofGlaze_47 ⟨by decide, by decide⟩ ⟨_, rfl, ?_⟩
    exact ⟨rfl, g, hg, rfl, by decide, (show _ = sp_ofGlaze (gs g) 2 from by unfold sp_ofGlaze; exact ((if_neg (by decide)).trans (if_neg (by decide))).symm)⟩
