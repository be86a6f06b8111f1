/-! THE LAW'S START -/
theorem jt_new {tc : Nat → ClassId} {y0 m0 : Nat} {hA hB : HM}
    (Y : ∃ cA gA pA oA pr ra re rw tr tw, Yh tc y0 cA gA pA oA pr ra re rw tr tw (fun _ => 0) (fun _ => 0) (fun _ => 0) (fun _ => 0) (fun _ => none) 4626322717216342016 4626322717216342016 0 k0 0 (fun _ => (0, 0)) 0 (fun _ => (0, 0, 0, 0, 0)) 0 (fun _ => (0, none, q0T)) 0 (fun _ => (0, 0, 0, 0, false)) 0 (fun _ => (0, 0, 0)) k0 0 0 0 0 hA)
    (M : ∃ kq wq, MhE tc m0 kq wq 0 0 (fun _ => (0, 0)) 0 (fun _ => (0, 0, 0, 0, 0)) 0 (fun _ => (0, none, q0T)) 0 (fun _ => (0, 0, 0, 0, false)) 0 (fun _ => (0, 0, 0)) k0 0 0 0 0 hB) :
    ∃ kl wk, J9 tc y0 m0 kl wk 0 0 hA hB := by
  obtain ⟨cA, gA, pA, oA, pr, ra, re, rw9, tr, tw, Y⟩ := Y
  obtain ⟨kq, wq, M⟩ := M
  exact ⟨kq, wq, _, _, _, _, _, _, _, _, _, _, _, _, _, _, _, _, _, _, _, _, _, _, _, _, _, _, _, _, _, _, _, _, _, _, Y, M, okSt_new⟩
theorem jt_thrown {l : Launch} {D : va_G} {tc : Nat → ClassId} (hl : l.stackTraces = false) {y0 m0 kl wk c : Nat} {th : Int32} {hA hB : HM} (j9 : J9 tc y0 m0 kl wk c th hA hB) :
    CT l D tc yX10_thrown cX10_thrown 1 (some FieldType.int) rm_X10_thrown [.ref m0] hB (rI (fun z h' => h' = hB ∧ z = th)) := by
  obtain ⟨cA, gA, pA, oA, pr, ra, re, rw9, tr, tw, ca, ga, pa, oa, f, hb, hbt, dmt, kt, nC, cs, nG, gs, nP, ps, nO, os, nR, rs, k, dmp, day, pur, rf, Y, ⟨L, E0, M0, ca2, ga2, pa2, oa2, ra2, YY⟩, o⟩ := j9
  exact m_X10_thrown hl YY.1
