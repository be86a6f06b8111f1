/-! TAKE, FORGET, BURN, WHAT WOULD BE -/
abbrev sp_lvd (p : PT) : PT := (p.1, p.2.1, (qWd p.2.2, qHg p.2.2, qWl p.2.2, qSt p.2.2, qWa p.2.2, qCv p.2.2, qSm p.2.2, qMk p.2.2, -1, -1))
/-- a kiln after so many steps -/
def sp_run (nR : Nat) (rs : Nat → RT) (k : KT) : Nat → KT
  | 0 => k
  | j + 1 => sp_step nR rs (sp_run nR rs k j)
theorem run_ok {nR : Nat} {rs : Nat → RT} {k : KT} (hk : okk k) (hL : okL nR k) (hR : okR9 nR rs) : ∀ j, okk (sp_run nR rs k j) ∧ okL nR (sp_run nR rs k j)
  | 0 => ⟨hk, hL⟩
  | j + 1 => step_ok (run_ok hk hL hR j).1 (run_ok hk hL hR j).2 hR
/-- what the kiln for what would be takes over -/
abbrev sp_like (k kt : KT) : KT := (kH k, kP k, kO k, kL k, kA k, kE k, kC kt, kF kt, kS kt, sp_mix (kW k) (kW kt) 3)
theorem like_ok {k kt : KT} {nR : Nat} (hk : okk k) (hL : okL nR k) : okk (sp_like k kt) ∧ okL nR (sp_like k kt) := ⟨⟨hk.1, hk.2.1, fun j hj => by show okW (sp_mix (kW k) (kW kt) 3 j); unfold sp_mix; rw [if_pos hj]; exact hk.2.2 j hj⟩, hL⟩

theorem Yh.forget {tc : Nat → ClassId} {h h' : HM} {y0 cA gA pA oA pr ra re rw tr tw : Nat} {ca ga pa oa : Nat → Nat} {f : Nat → Option Nat} {hb : UInt64} {hbt : UInt64} {dmt : Int32} {kt : KT} {nC : Nat} {cs : Nat → Int32 × Int32} {nG : Nat} {gs : Nat → GT} {nP : Nat} {ps : Nat → PT} {nO : Nat} {os : Nat → OT} {nR : Nat} {rs : Nat → RT} {k : KT} {dmp : Int32} {day : Int32} {pur : Int32} {rf : Int32} (Y : Yh tc y0 cA gA pA oA pr ra re rw tr tw ca ga pa oa f hb hbt dmt kt nC cs nG gs nP ps nO os nR rs k dmp day pur rf h) (u : Up h pr (pCell ra 0) h') : Yh tc y0 cA gA pA oA pr ra re rw tr tw ca ga pa oa f hb hbt dmt kt nC cs nG gs nP ps nO os 0 rs k dmp day pur rf h' := by
  obtain ⟨yy, yc, yg, yp, yo, ypr, yra, yre, yrw, ytr, ytw, yC, yG, yP, yO, yR, yn1, yn2, yn3, yn4⟩ := Y
  exact ⟨u.oth yy ypr (by intro q; simp at q), u.oth yc ypr (by intro q; simp at q), u.oth yg ypr (by intro q; simp at q), u.oth yp ypr (by intro q; simp at q), u.oth yo ypr (by intro q; simp at q), u.self, u.oth yra ypr (by intro q; simp at q), u.oth yre ypr (by intro q; simp at q), u.oth yrw ypr (by intro q; simp at q), u.oth ytr ypr (by intro q; simp at q), u.oth ytw ypr (by intro q; simp at q), fun j hj => u.oth (yC j hj) ypr (by intro q; simp at q), fun j hj => u.oth (yG j hj) ypr (by intro q; simp at q), fun j hj => u.oth (yP j hj) ypr (by intro q; simp at q), fun j hj => u.oth (yO j hj) ypr (by intro q; simp at q), fun j hj => absurd hj (Nat.not_lt_zero j), yn1, yn2, yn3, yn4⟩

-- none in p32: X7_take

-- none in p32: X7_forget

set_option maxHeartbeats 4000000 in
set_option maxRecDepth 100000 in
theorem lp_X7_wouldCone {K : KC} (C : CX K RX7 cX7_wouldCone 4 rm_X7_wouldCone) (hl : (Kl K).stackTraces = false) {y0 cA gA pA oA pr ra re rw tr tw : Nat} {ca ga pa oa : Nat → Nat} {f : Nat → Option Nat} {hb : UInt64} {hbt : UInt64} {dmt : Int32} {kt : KT} {nC : Nat} {cs : Nat → Int32 × Int32} {nG : Nat} {gs : Nat → GT} {nP : Nat} {ps : Nat → PT} {nO : Nat} {os : Nat → OT} {nR : Nat} {rs : Nat → RT} {k : KT} {dmp : Int32} {day : Int32} {pur : Int32} {rf : Int32} {K0 : KT} {si : Int32} {m : Nat} (hm : m ≤ 60) (hk : okk K0) (hL : okL nR K0) (hRr : okR9 nR rs)
    (kk : ∀ (h' : HM) (hb9 : UInt64), Yh (Kt K) y0 cA gA pA oA pr ra re rw tr tw ca ga pa oa f hb hb9 dmt (sp_run nR rs K0 m) nC cs nG gs nP ps nO os nR rs k dmp day pur rf h' → WW K (2, 12) 39 [some (.ref y0), some (.int si), some (.int (nI m)), some (.int (nI m))] [] h')
    : ∀ j : Nat, j ≤ m → ∀ {h : HM} {hbt : UInt64},  (u : Yh (Kt K) y0 cA gA pA oA pr ra re rw tr tw ca ga pa oa f hb hbt dmt (sp_run nR rs K0 j) nC cs nG gs nP ps nO os nR rs k dmp day pur rf h) → WW K (2, 12) 21 [some (.ref y0), some (.int si), some (.int (nI m)), some (.int (nI j))] [] h := by
  refine up_ind ?_
  intro j hj ih h hbt u
  obtain ⟨yy, yc, yg, yp, yo, ypr, yra, yre, yrw, ytr, ytw, yC, yG, yP, yO, yR, yn1, yn2, yn3, yn4⟩ := id u
  refine w_iload_n C dX7_wouldCone_21 (by rfl) ?_
  refine w_iload_n C dX7_wouldCone_22 (by rfl) ?_
  refine w_icmp_ge (tgt := 39) C dX7_wouldCone_23 (by rfl) (fun c_23 => ?_) (fun c_23 => ?_)
  · have e3 : ¬ j < m := fun q => nI_ge q (by omega) c_23
    obtain rfl : j = m := by omega
    exact kk _ _ u
  · have hj3 : j < m := Nat.not_le.mp (fun q => c_23 (nI_le (a := m) q (by omega)))
    first | refine w_aload_n C dX7_wouldCone_26 (by rfl) ?_ | refine w_aload_nN C dX7_wouldCone_26 (by rfl) ?_
    refine gf_X7_62 C yy dX7_wouldCone_27 ?_
    refine cl_X7_234 C (m_X2_step hl ytr ypr yra yR hRr.1 (run_ok hk hL hRr j).2 ytw (run_ok hk hL hRr j).1 hRr) ytr (by rfl) (by rfl) ⟨by decide, by decide⟩ (by rfl) dX7_wouldCone_30 (fun h1 p1 => ?_)
    have u := Yh.trial u p1.1 p1.2.1 p1.2.2
    refine w_iinc_3 (v := _ + (1)) C dX7_wouldCone_33 (by rfl) (by first | trivial | rfl) ?_
    refine w_goto (tgt := 21) C dX7_wouldCone_36 (by rfl) ?_
    rw [nI_1 j]
    exact w_sub (ih hj3 u) (by repeat' first | exact trivial | rfl | constructor)
