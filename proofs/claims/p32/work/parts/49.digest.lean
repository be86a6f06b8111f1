/-! DIGEST -/
abbrev sp_add (d v : Int64) : Int64 := d * 31 + v
def sp_it (F : Int64 → Nat → Int64) (d : Int64) : Nat → Int64
  | 0 => d
  | j + 1 => F (sp_it F d j) j
def sp_hold (nP : Nat) (ps : Nat → PT) (s : Nat) : Int32 := sp_wh (sp_sm nP ps (if nI s = 2 then 2 else 3) 14) (sp_lr (sp_tk nP ps (nI s) 14) 10).1.toNatClampNeg
theorem hold_at {nP : Nat} {ps : Nat → PT} {s n : Nat} (e : (sp_lr (sp_tk nP ps (nI s) 14) 10).1 = nI n) (hn : n ≤ 10) : sp_wh (sp_sm nP ps (if nI s = 2 then 2 else 3) 14) n = sp_hold nP ps s := by
  unfold sp_hold
  rw [e, nI_clamp (by omega)]
/-- kilns that go on alike -/
def simk (a b : KT) : Prop := kH a = kH b ∧ kP a = kP b ∧ kO a = kO b ∧ kL a = kL b ∧ kA a = kA b ∧ kE a = kE b ∧ ∀ j, j < 3 → kW a j = kW b j
theorem sim_like (k kt : KT) : simk (sp_like k kt) k := ⟨rfl, rfl, rfl, rfl, rfl, rfl, fun j hj => if_pos hj⟩
theorem follow_w (r : RT) (k : KT) : kW (sp_follow r k) = kW k := by
  unfold sp_follow sp_rise
  split
  · split <;> rfl
  · split <;> rfl
theorem follow_sim {r : RT} {a b : KT} (h : simk a b) : simk (sp_follow r a) (sp_follow r b) := by
  obtain ⟨h1, h2, h3, h4, h5, h6, h7⟩ := h
  unfold sp_follow
  rw [h1]
  split
  · unfold sp_rise
    rw [h1, h2, h3]
    split
    · exact ⟨rfl, rfl, rfl, rfl, h5, h6, h7⟩
    · exact ⟨rfl, h2, h3, h4, h5, h6, h7⟩
  · split
    · exact ⟨rfl, h2, h3, h4, h5, h6, h7⟩
    · exact ⟨rfl, h2, h3, h4, h5, by show kE a + 1 = kE b + 1; rw [h6], h7⟩
theorem step1_sim {nr : Nat} {Rp : Nat → RT} {a b : KT} (h : simk a b) : simk (sp_step1 nr Rp a) (sp_step1 nr Rp b) := by
  obtain ⟨h1, h2, h3, h4, h5, h6, h7⟩ := h
  unfold sp_step1
  rw [h1, h4, h5, h6]
  generalize sp_pass nr Rp (kH b) 5 (kL b) (kA b) (kE b) = w
  obtain ⟨lit, at', held⟩ := w
  dsimp only
  split
  · exact follow_sim (a := (kH b, kP a, kO a, lit, at', held, kC a, kF a, kS a, kW a)) (b := (kH b, kP b, kO b, lit, at', held, kC b, kF b, kS b, kW b)) ⟨rfl, h2, h3, rfl, rfl, rfl, h7⟩
  · exact ⟨by show sp_cool (kH b) (kO a) = sp_cool (kH b) (kO b); rw [h3], h2, h3, rfl, rfl, rfl, h7⟩
theorem step_sim {nr : Nat} {Rp : Nat → RT} {a b : KT} (h : simk a b) : simk (sp_step nr Rp a) (sp_step nr Rp b) := by
  have h9 := step1_sim (nr := nr) (Rp := Rp) h
  rw [step_of rfl, step_of rfl]
  obtain ⟨h1, h2, h3, h4, h5, h6, h7⟩ := h9
  refine ⟨h1, h2, h3, h4, h5, h6, fun j hj => ?_⟩
  show sp_work (kH (sp_step1 nr Rp a)) (kW (sp_step1 nr Rp a)) j = sp_work (kH (sp_step1 nr Rp b)) (kW (sp_step1 nr Rp b)) j
  unfold sp_work
  rw [if_pos hj, if_pos hj, h1, h7 j hj]
theorem run_sim {nr : Nat} {Rp : Nat → RT} {a b : KT} (h : simk a b) : ∀ j, simk (sp_run nr Rp a j) (sp_run nr Rp b j)
  | 0 => h
  | j + 1 => step_sim (run_sim h j)
theorem end_sim {nr : Nat} {Rp : Nat → RT} {a b : KT} (h : simk a b) : ∀ d j, sp_end nr Rp a d j = sp_end nr Rp b d j
  | 0, j => by unfold sp_end; rw [(run_sim h j).2.2.2.1]
  | d + 1, j => by unfold sp_end; rw [(run_sim h j).2.2.2.1, end_sim h d (j + 1)]
/-- a cone that would be -/
def sp_wc (nR : Nat) (rs : Nat → RT) (k : KT) (s m : Nat) : Int32 := sp_cone (kW (sp_run nR rs k m) s) 12
theorem wc_like {nR : Nat} {rs : Nat → RT} {k kt : KT} {s m : Nat} (hs : s < 3) : sp_cone (kW (sp_run nR rs (sp_like k kt) m) s) 12 = sp_wc nR rs k s m := by
  unfold sp_wc
  rw [(run_sim (sim_like k kt) m).2.2.2.2.2.2 s hs]
theorem end_like {nR : Nat} {rs : Nat → RT} {k kt : KT} : sp_end nR rs (sp_like k kt) 300 0 = sp_end nR rs k 300 0 := end_sim (sim_like k kt) 300 0
def sp_dpot (gs : Nat → GT) (ps : Nat → PT) (d : Int64) (i : Nat) : Int64 := sp_add (sp_it (fun d j => sp_add d (sp_ofPot gs (ps i) (nI j)).toInt64) d 8) (FP.d2l (FP.dmul 4634204016564240384 (FP.f2d (qWa (ps i).2.2))))
def sp_dglz (gs : Nat → GT) (d : Int64) (i : Nat) : Int64 := sp_add (sp_add d (FP.d2l (FP.dmul 4634204016564240384 (sp_growth (gs i))))) (FP.d2l (FP.i2d (sp_melts (gs i))))
def sp_dsh (nP : Nat) (ps : Nat → PT) (nR : Nat) (rs : Nat → RT) (k : KT) (d : Int64) (s : Nat) : Int64 := sp_add (sp_add (sp_it (fun d j => sp_add d (sp_shelf k nP ps s (nI j)).toInt64) d 4) (sp_hold nP ps s).toInt64) (sp_wc nR rs k s 20).toInt64
theorem in_r {j m : Nat} (hj : j < m) (hm : m < 2 ^ 31) : 0 ≤ (nI j).toInt ∧ (nI j).toInt < m := by rw [nI_toInt (by omega)]; omega
theorem not_out {j n : Nat} (hj : j < n) (hn : n < 2 ^ 31) : ¬ out9 (nI j) n := fun w => w (by rw [nI_toInt (by omega)]; omega)
theorem w64 : FP.i2d 64 = 4634204016564240384 := by decide +kernel
theorem nI_inj {a b : Nat} (ha : a < 2 ^ 31) (hb : b < 2 ^ 31) (e : nI a = nI b) : a = b := (nI_eq ha hb).mp e

set_option maxHeartbeats 4000000 in
set_option maxRecDepth 100000 in
theorem lp_X7_withPot {K : KC} (C : CX K RX7 cX7_withPot 5 rm_X7_withPot) (hl : (Kl K).stackTraces = false) {y0 cA gA pA oA pr ra re rw tr tw : Nat} {ca ga pa oa : Nat → Nat} {f : Nat → Option Nat} {hb : UInt64} {hbt : UInt64} {dmt : Int32} {kt : KT} {nC : Nat} {cs : Nat → Int32 × Int32} {nG : Nat} {gs : Nat → GT} {nP : Nat} {ps : Nat → PT} {nO : Nat} {os : Nat → OT} {nR : Nat} {rs : Nat → RT} {k : KT} {dmp : Int32} {day : Int32} {pur : Int32} {rf : Int32} {h : HM} (u : Yh (Kt K) y0 cA gA pA oA pr ra re rw tr tw ca ga pa oa f hb hbt dmt kt nC cs nG gs nP ps nO os nR rs k dmp day pur rf h) (bP : nP ≤ 14) (hPG : ∀ i, i < nP → ∀ g, (ps i).2.1 = some g → g < nG) {i : Nat} (hi : i < nP) {d : Int64}
    (kk : WW K (16, 96) 31 [some (.ref y0), some (.long (sp_it (fun d j => sp_add d (sp_ofPot gs (ps i) (nI j)).toInt64) d 8)), none, some (.int (nI i)), some (.int (nI 8))] [] h)
    : ∀ j : Nat, j ≤ 8 → WW K (2 * j, 12 * j) 3 [some (.ref y0), some (.long (sp_it (fun d j => sp_add d (sp_ofPot gs (ps i) (nI j)).toInt64) d j)), none, some (.int (nI i)), some (.int (nI j))] [] h := by
  refine up_ind ?_
  intro j hj ih  
  obtain ⟨yy, yc, yg, yp, yo, ypr, yra, yre, yrw, ytr, ytw, yC, yG, yP, yO, yR, yn1, yn2, yn3, yn4⟩ := id u
  refine w_iload C dX7_withPot_3 (by rfl) ?_
  refine w_bipush (v := (8)) C dX7_withPot_5 (by rfl) ?_
  refine w_icmp_ge (tgt := 31) C dX7_withPot_7 (by rfl) (fun c_7 => ?_) (fun c_7 => ?_)
  · have e3 : ¬ j < 8 := fun q => nI_ge q (by omega) c_7
    obtain rfl : j = 8 := by omega
    exact kk
  · have hj3 : j < 8 := Nat.not_le.mp (fun q => c_7 (nI_le (a := 8) q (by omega)))
    refine w_lload_n C dX7_withPot_10 (by rfl) ?_
    refine lc_X7_376 C dX7_withPot_11 ?_
    refine w_lmul C dX7_withPot_14 ?_
    first | refine w_aload_n C dX7_withPot_15 (by rfl) ?_ | refine w_aload_nN C dX7_withPot_15 (by rfl) ?_
    refine w_iload_n C dX7_withPot_16 (by rfl) ?_
    refine w_iload C dX7_withPot_17 (by rfl) ?_
    refine cx_X7_400 C (m_X7_ofPot hl u bP hPG) yy (by rfl) (by rfl) ⟨show 2 * j + 2 ≤ 17 by omega, show 12 * j + 12 ≤ 102 by omega⟩ (by rfl) dX7_withPot_19 (fun z1 h1 p1 => ?_) (fun E hx px => px.elim (fun w => absurd w.2.2 (not_out hi (by omega))) (fun w => absurd (by have := in_r hj3 (by decide); omega) w.2.2.2))
    obtain ⟨rfl, j2, hj2, e2, -, rfl⟩ := p1
    obtain rfl := nI_inj (by omega) (by omega) e2
    refine w_i2l C dX7_withPot_22 ?_
    refine w_ladd C dX7_withPot_23 ?_
    refine w_lstore_1 C dX7_withPot_24 (by first | trivial | rfl) ?_
    refine w_iinc_4 (v := _ + (1)) C dX7_withPot_25 (by rfl) (by first | trivial | rfl) ?_
    refine w_goto (tgt := 3) C dX7_withPot_28 (by rfl) ?_
    rw [nI_1 j]
    refine w_widen (n' := (2 * (j + 1), 12 * (j + 1))) ?_ (show 2 * j + 2 ≤ 2 * (j + 1) by omega) (show 12 * j + 12 ≤ 12 * (j + 1) by omega)
    exact w_sub (ih hj3) (by repeat' first | exact trivial | rfl | constructor)

set_option maxHeartbeats 4000000 in
set_option maxRecDepth 100000 in
theorem m_X7_withPot {l : Launch} {D : va_G} {tc : Nat → ClassId} (hl : l.stackTraces = false) {h : HM} {y0 cA gA pA oA pr ra re rw tr tw : Nat} {ca ga pa oa : Nat → Nat} {f : Nat → Option Nat} {hb : UInt64} {hbt : UInt64} {dmt : Int32} {kt : KT} {nC : Nat} {cs : Nat → Int32 × Int32} {nG : Nat} {gs : Nat → GT} {nP : Nat} {ps : Nat → PT} {nO : Nat} {os : Nat → OT} {nR : Nat} {rs : Nat → RT} {k : KT} {dmp : Int32} {day : Int32} {pur : Int32} {rf : Int32} (Y : Yh tc y0 cA gA pA oA pr ra re rw tr tw ca ga pa oa f hb hbt dmt kt nC cs nG gs nP ps nO os nR rs k dmp day pur rf h) (bP : nP ≤ 14) (hPG : ∀ i, i < nP → ∀ g, (ps i).2.1 = some g → g < nG) (hn : ∀ i, i < nP → FP.Core.FFin (qWa (ps i).2.2)) {i : Nat} (hi : i < nP) {d : Int64} :
    CTX l D tc yX7_withPot cX7_withPot 5 (some FieldType.long) rm_X7_withPot [.ref y0, .long d, .int (nI i)] h (rL (fun z h' => h' = h ∧ z = sp_dpot gs ps d i)) (fun E h' => False) := by
  refine CTX.start [some (.ref y0), some (.long d), none, some (.int (nI i)), none] (by decide) hl rfl rfl (fun K C M X => ?_)
  obtain ⟨rfl, rfl, rfl, -⟩ := id M
  have C : CX K RX7 cX7_withPot 5 rm_X7_withPot := C
  obtain ⟨yy, yc, yg, yp, yo, ypr, yra, yre, yrw, ytr, ytw, yC, yG, yP, yO, yR, yn1, yn2, yn3, yn4⟩ := id Y
  refine w_iconst (v := 0) C dX7_withPot_0 (by rfl) ?_
  refine w_istore_4 C dX7_withPot_1 (by first | trivial | rfl) ?_
  refine lp_X7_withPot C hl Y bP hPG hi ?_ 0 (by decide)
  refine w_lload_n C dX7_withPot_31 (by rfl) ?_
  refine lc_X7_376 C dX7_withPot_32 ?_
  refine w_lmul C dX7_withPot_35 ?_
  refine lc_X7_385 C dX7_withPot_36 ?_
  first | refine w_aload_n C dX7_withPot_39 (by rfl) ?_ | refine w_aload_nN C dX7_withPot_39 (by rfl) ?_
  refine w_iload_n C dX7_withPot_40 (by rfl) ?_
  refine cx_X7_403 C (m_X7_water hl Y bP hn) yy (by rfl) (by rfl) ⟨by decide, by decide⟩ (by rfl) dX7_withPot_41 (fun z2 h1 p1 => ?_) (fun E hx px => absurd px.2.2 (not_out hi (by omega)))
  obtain ⟨rfl, j2, hj2, e2, rfl⟩ := p1
  obtain rfl := nI_inj (by omega) (by omega) e2
  refine w_dmul C dX7_withPot_44 (nn_of (dmul_n (df_whole w64) (dfin_f2d (hn i hi)))) ?_
  refine w_d2l C dX7_withPot_45 ?_
  refine w_ladd C dX7_withPot_46 ?_
  refine w_lret C M dX7_withPot_47 ⟨by decide, by decide⟩ ⟨_, rfl, ?_⟩
  exact ⟨rfl, rfl⟩

set_option maxHeartbeats 4000000 in
set_option maxRecDepth 100000 in
theorem lp_X7_withShelf {K : KC} (C : CX K RX7 cX7_withShelf 5 rm_X7_withShelf) (hl : (Kl K).stackTraces = false) {y0 cA gA pA oA pr ra re rw tr tw : Nat} {ca ga pa oa : Nat → Nat} {f : Nat → Option Nat} {hb : UInt64} {hbt : UInt64} {dmt : Int32} {kt : KT} {nC : Nat} {cs : Nat → Int32 × Int32} {nG : Nat} {gs : Nat → GT} {nP : Nat} {ps : Nat → PT} {nO : Nat} {os : Nat → OT} {nR : Nat} {rs : Nat → RT} {k : KT} {dmp : Int32} {day : Int32} {pur : Int32} {rf : Int32} {h : HM} (u : Yh (Kt K) y0 cA gA pA oA pr ra re rw tr tw ca ga pa oa f hb hbt dmt kt nC cs nG gs nP ps nO os nR rs k dmp day pur rf h) {s : Nat} (hs : s < 3) {d : Int64}
    (kk : WW K (8, 48) 30 [some (.ref y0), some (.long (sp_it (fun d j => sp_add d (sp_shelf k nP ps s (nI j)).toInt64) d 4)), none, some (.int (nI s)), some (.int (nI 4))] [] h)
    : ∀ j : Nat, j ≤ 4 → WW K (2 * j, 12 * j) 3 [some (.ref y0), some (.long (sp_it (fun d j => sp_add d (sp_shelf k nP ps s (nI j)).toInt64) d j)), none, some (.int (nI s)), some (.int (nI j))] [] h := by
  refine up_ind ?_
  intro j hj ih  
  obtain ⟨yy, yc, yg, yp, yo, ypr, yra, yre, yrw, ytr, ytw, yC, yG, yP, yO, yR, yn1, yn2, yn3, yn4⟩ := id u
  refine w_iload C dX7_withShelf_3 (by rfl) ?_
  refine w_iconst (v := 4) C dX7_withShelf_5 (by rfl) ?_
  refine w_icmp_ge (tgt := 30) C dX7_withShelf_6 (by rfl) (fun c_6 => ?_) (fun c_6 => ?_)
  · have e3 : ¬ j < 4 := fun q => nI_ge q (by omega) c_6
    obtain rfl : j = 4 := by omega
    exact kk
  · have hj3 : j < 4 := Nat.not_le.mp (fun q => c_6 (nI_le (a := 4) q (by omega)))
    refine w_lload_n C dX7_withShelf_9 (by rfl) ?_
    refine lc_X7_376 C dX7_withShelf_10 ?_
    refine w_lmul C dX7_withShelf_13 ?_
    first | refine w_aload_n C dX7_withShelf_14 (by rfl) ?_ | refine w_aload_nN C dX7_withShelf_14 (by rfl) ?_
    refine w_iload_n C dX7_withShelf_15 (by rfl) ?_
    refine w_iload C dX7_withShelf_16 (by rfl) ?_
    refine cx_X7_405 C (m_X7_ofShelf hl u) yy (by rfl) (by rfl) ⟨show 2 * j + 2 ≤ 11 by omega, show 12 * j + 12 ≤ 66 by omega⟩ (by rfl) dX7_withShelf_18 (fun z1 h1 p1 => ?_) (fun E hx px => px.elim (fun w => absurd w.2.2 (not_out hs (by decide))) (fun w => absurd (by have := in_r hj3 (by decide); omega) w.2.2.2))
    obtain ⟨rfl, s2, hs2, e2, -, rfl⟩ := p1
    obtain rfl := nI_inj (by omega) (by omega) e2
    refine w_i2l C dX7_withShelf_21 ?_
    refine w_ladd C dX7_withShelf_22 ?_
    refine w_lstore_1 C dX7_withShelf_23 (by first | trivial | rfl) ?_
    refine w_iinc_4 (v := _ + (1)) C dX7_withShelf_24 (by rfl) (by first | trivial | rfl) ?_
    refine w_goto (tgt := 3) C dX7_withShelf_27 (by rfl) ?_
    rw [nI_1 j]
    refine w_widen (n' := (2 * (j + 1), 12 * (j + 1))) ?_ (show 2 * j + 2 ≤ 2 * (j + 1) by omega) (show 12 * j + 12 ≤ 12 * (j + 1) by omega)
    exact w_sub (ih hj3) (by repeat' first | exact trivial | rfl | constructor)

set_option maxHeartbeats 4000000 in
set_option maxRecDepth 100000 in
theorem m_X7_withShelf {l : Launch} {D : va_G} {tc : Nat → ClassId} (hl : l.stackTraces = false) {h : HM} {y0 cA gA pA oA pr ra re rw tr tw : Nat} {ca ga pa oa : Nat → Nat} {f : Nat → Option Nat} {hb : UInt64} {hbt : UInt64} {dmt : Int32} {kt : KT} {nC : Nat} {cs : Nat → Int32 × Int32} {nG : Nat} {gs : Nat → GT} {nP : Nat} {ps : Nat → PT} {nO : Nat} {os : Nat → OT} {nR : Nat} {rs : Nat → RT} {k : KT} {dmp : Int32} {day : Int32} {pur : Int32} {rf : Int32} (Y : Yh tc y0 cA gA pA oA pr ra re rw tr tw ca ga pa oa f hb hbt dmt kt nC cs nG gs nP ps nO os nR rs k dmp day pur rf h) (hk : okk k) (hL : okL nR k) (hRr : okR9 nR rs) {s : Nat} (hs : s < 3) {d : Int64} :
    CTX l D tc yX7_withShelf cX7_withShelf 5 (some FieldType.long) rm_X7_withShelf [.ref y0, .long d, .int (nI s)] h (rL (fun z h' => z = sp_dsh nP ps nR rs k d s ∧ ∃ hb9 kt9, Yh tc y0 cA gA pA oA pr ra re rw tr tw ca ga pa oa f hb hb9 dmt kt9 nC cs nG gs nP ps nO os nR rs k dmp day pur rf h')) (fun E h' => False) := by
  refine CTX.start [some (.ref y0), some (.long d), none, some (.int (nI s)), none] (by decide) hl rfl rfl (fun K C M X => ?_)
  obtain ⟨rfl, rfl, rfl, -⟩ := id M
  have C : CX K RX7 cX7_withShelf 5 rm_X7_withShelf := C
  obtain ⟨yy, yc, yg, yp, yo, ypr, yra, yre, yrw, ytr, ytw, yC, yG, yP, yO, yR, yn1, yn2, yn3, yn4⟩ := id Y
  refine w_iconst (v := 0) C dX7_withShelf_0 (by rfl) ?_
  refine w_istore_4 C dX7_withShelf_1 (by first | trivial | rfl) ?_
  refine lp_X7_withShelf C hl Y hs ?_ 0 (by decide)
  refine w_lload_n C dX7_withShelf_30 (by rfl) ?_
  refine lc_X7_376 C dX7_withShelf_31 ?_
  refine w_lmul C dX7_withShelf_34 ?_
  first | refine w_aload_n C dX7_withShelf_35 (by rfl) ?_ | refine w_aload_nN C dX7_withShelf_35 (by rfl) ?_
  refine w_iload_n C dX7_withShelf_36 (by rfl) ?_
  refine cx_X7_408 C (m_X7_wouldHold hl Y) yy (by rfl) (by rfl) ⟨by decide, by decide⟩ (by rfl) dX7_withShelf_37 (fun z2 h1 p1 => ?_) (fun E hx px => absurd px.2.2 (not_out hs (by decide)))
  obtain ⟨rfl, s2, n2, hs2, e2, e3, b3, rfl⟩ := p1
  obtain rfl := nI_inj (by omega) (by omega) e2
  rw [hold_at e3 b3]
  refine w_i2l C dX7_withShelf_40 ?_
  refine w_ladd C dX7_withShelf_41 ?_
  refine w_lstore_1 C dX7_withShelf_42 (by first | trivial | rfl) ?_
  refine w_lload_n C dX7_withShelf_43 (by rfl) ?_
  refine lc_X7_376 C dX7_withShelf_44 ?_
  refine w_lmul C dX7_withShelf_47 ?_
  first | refine w_aload_n C dX7_withShelf_48 (by rfl) ?_ | refine w_aload_nN C dX7_withShelf_48 (by rfl) ?_
  refine w_iload_n C dX7_withShelf_49 (by rfl) ?_
  refine w_bipush (v := (20)) C dX7_withShelf_50 (by rfl) ?_
  refine cx_X7_411 C (m_X7_wouldCone hl Y hk hL hRr) yy (by rfl) (by rfl) ⟨by decide, by decide⟩ (by rfl) dX7_withShelf_52 (fun z3 h2 p2 => ?_) (fun E hx px => px.elim (fun w => absurd w.2.2 (not_out hs (by decide))) (fun w => absurd (by decide) w.2.2.2))
  obtain ⟨s3, m3, hs3, e4, hm3, e5, rfl, hb9, kt9, Y9⟩ := p2
  obtain rfl := nI_inj (by omega) (by omega) e4
  obtain rfl := nI_inj (show 20 < 2 ^ 31 by decide) (by omega) e5
  rw [wc_like hs]
  refine w_i2l C dX7_withShelf_55 ?_
  refine w_ladd C dX7_withShelf_56 ?_
  refine w_lret C M dX7_withShelf_57 ⟨by decide, by decide⟩ ⟨_, rfl, ?_⟩
  exact ⟨rfl, hb9, kt9, Y9⟩

set_option maxHeartbeats 4000000 in
set_option maxRecDepth 100000 in
theorem lp_X7_digest1 {K : KC} (C : CX K RX7 cX7_digest 4 rm_X7_digest) (hl : (Kl K).stackTraces = false) {y0 cA gA pA oA pr ra re rw tr tw : Nat} {ca ga pa oa : Nat → Nat} {f : Nat → Option Nat} {hb : UInt64} {hbt : UInt64} {dmt : Int32} {kt : KT} {nC : Nat} {cs : Nat → Int32 × Int32} {nG : Nat} {gs : Nat → GT} {nP : Nat} {ps : Nat → PT} {nO : Nat} {os : Nat → OT} {nR : Nat} {rs : Nat → RT} {k : KT} {dmp : Int32} {day : Int32} {pur : Int32} {rf : Int32} {h : HM} (u : Yh (Kt K) y0 cA gA pA oA pr ra re rw tr tw ca ga pa oa f hb hbt dmt kt nC cs nG gs nP ps nO os nR rs k dmp day pur rf h) (hO : nO = 0)
    (kk : WW K (16, 96) 31 [some (.ref y0), some (.long (sp_it (fun d j => sp_add d (sp_many nP ps nO os nR k day pur rf (nI j)).toInt64) 58303 16)), none, some (.int (nI 16))] [] h)
    : ∀ j : Nat, j ≤ 16 → WW K (j, 6 * j) 6 [some (.ref y0), some (.long (sp_it (fun d j => sp_add d (sp_many nP ps nO os nR k day pur rf (nI j)).toInt64) 58303 j)), none, some (.int (nI j))] [] h := by
  refine up_ind ?_
  intro j hj ih  
  obtain ⟨yy, yc, yg, yp, yo, ypr, yra, yre, yrw, ytr, ytw, yC, yG, yP, yO, yR, yn1, yn2, yn3, yn4⟩ := id u
  refine w_iload_n C dX7_digest_6 (by rfl) ?_
  refine w_bipush (v := (16)) C dX7_digest_7 (by rfl) ?_
  refine w_icmp_ge (tgt := 31) C dX7_digest_9 (by rfl) (fun c_9 => ?_) (fun c_9 => ?_)
  · have e3 : ¬ j < 16 := fun q => nI_ge q (by omega) c_9
    obtain rfl : j = 16 := by omega
    exact kk
  · have hj3 : j < 16 := Nat.not_le.mp (fun q => c_9 (nI_le (a := 16) q (by omega)))
    refine w_lload_n C dX7_digest_12 (by rfl) ?_
    refine lc_X7_376 C dX7_digest_13 ?_
    refine w_lmul C dX7_digest_16 ?_
    first | refine w_aload_n C dX7_digest_17 (by rfl) ?_ | refine w_aload_nN C dX7_digest_17 (by rfl) ?_
    refine w_iload_n C dX7_digest_18 (by rfl) ?_
    refine cx_X7_378 C (m_X7_many hl u hO) yy (by rfl) (by rfl) ⟨show j + 1 ≤ 305 by omega, show 6 * j + 6 ≤ 1830 by omega⟩ (by rfl) dX7_digest_19 (fun z1 h1 p1 => ?_) (fun E hx px => absurd (by have := in_r hj3 (by decide); omega) px.2.2)
    obtain ⟨rfl, -, rfl⟩ := p1
    refine w_i2l C dX7_digest_22 ?_
    refine w_ladd C dX7_digest_23 ?_
    refine w_lstore_1 C dX7_digest_24 (by first | trivial | rfl) ?_
    refine w_iinc_3 (v := _ + (1)) C dX7_digest_25 (by rfl) (by first | trivial | rfl) ?_
    refine w_goto (tgt := 6) C dX7_digest_28 (by rfl) ?_
    rw [nI_1 j]
    refine w_widen (n' := (j + 1, 6 * (j + 1))) ?_ (show j + 1 ≤ j + 1 by omega) (show 6 * j + 6 ≤ 6 * (j + 1) by omega)
    exact w_sub (ih hj3) (by repeat' first | exact trivial | rfl | constructor)

set_option maxHeartbeats 4000000 in
set_option maxRecDepth 100000 in
theorem lp_X7_digest2 {K : KC} (C : CX K RX7 cX7_digest 4 rm_X7_digest) (hl : (Kl K).stackTraces = false) {y0 cA gA pA oA pr ra re rw tr tw : Nat} {ca ga pa oa : Nat → Nat} {f : Nat → Option Nat} {hb : UInt64} {hbt : UInt64} {dmt : Int32} {kt : KT} {nC : Nat} {cs : Nat → Int32 × Int32} {nG : Nat} {gs : Nat → GT} {nP : Nat} {ps : Nat → PT} {nO : Nat} {os : Nat → OT} {nR : Nat} {rs : Nat → RT} {k : KT} {dmp : Int32} {day : Int32} {pur : Int32} {rf : Int32} {h : HM} (u : Yh (Kt K) y0 cA gA pA oA pr ra re rw tr tw ca ga pa oa f hb hbt dmt kt nC cs nG gs nP ps nO os nR rs k dmp day pur rf h) (bP : nP ≤ 14) (hPG : ∀ i, i < nP → ∀ g, (ps i).2.1 = some g → g < nG) (hn : ∀ i, i < nP → FP.Core.FFin (qWa (ps i).2.2)) {d : Int64}
    (kk : WW K (254, 1524) 54 [some (.ref y0), some (.long (sp_it (sp_dpot gs ps) d nP)), none, some (.int (nI nP))] [] h)
    : ∀ j : Nat, j ≤ nP → WW K (16 + 17 * j, 96 + 102 * j) 33 [some (.ref y0), some (.long (sp_it (sp_dpot gs ps) d j)), none, some (.int (nI j))] [] h := by
  refine up_ind ?_
  intro j hj ih  
  obtain ⟨yy, yc, yg, yp, yo, ypr, yra, yre, yrw, ytr, ytw, yC, yG, yP, yO, yR, yn1, yn2, yn3, yn4⟩ := id u
  refine w_iload_n C dX7_digest_33 (by rfl) ?_
  first | refine w_aload_n C dX7_digest_34 (by rfl) ?_ | refine w_aload_nN C dX7_digest_34 (by rfl) ?_
  refine gf_X7_40 C yy dX7_digest_35 ?_
  refine w_icmp_ge (tgt := 54) C dX7_digest_38 (by rfl) (fun c_38 => ?_) (fun c_38 => ?_)
  · have e3 : ¬ j < nP := fun q => nI_ge q (by omega) c_38
    obtain rfl : j = nP := by omega
    refine w_widen kk (by show 16 + 17 * j ≤ 254; omega) (by show 96 + 102 * j ≤ 1524; omega)
  · have hj3 : j < nP := Nat.not_le.mp (fun q => c_38 (nI_le (a := nP) q (by omega)))
    first | refine w_aload_n C dX7_digest_41 (by rfl) ?_ | refine w_aload_nN C dX7_digest_41 (by rfl) ?_
    refine w_lload_n C dX7_digest_42 (by rfl) ?_
    refine w_iload_n C dX7_digest_43 (by rfl) ?_
    refine cx_X7_381 C (m_X7_withPot hl u bP hPG hn hj3) yy (by rfl) (by rfl) ⟨show 16 + 17 * j + 17 ≤ 305 by omega, show 96 + 102 * j + 102 ≤ 1830 by omega⟩ (by rfl) dX7_digest_44 (fun z1 h1 p1 => ?_) (fun E hx px => px.elim)
    obtain ⟨rfl, rfl⟩ := p1
    refine w_lstore_1 C dX7_digest_47 (by first | trivial | rfl) ?_
    refine w_iinc_3 (v := _ + (1)) C dX7_digest_48 (by rfl) (by first | trivial | rfl) ?_
    refine w_goto (tgt := 33) C dX7_digest_51 (by rfl) ?_
    rw [nI_1 j]
    refine w_widen (n' := (16 + 17 * (j + 1), 96 + 102 * (j + 1))) ?_ (show 16 + 17 * j + 17 ≤ 16 + 17 * (j + 1) by omega) (show 96 + 102 * j + 102 ≤ 96 + 102 * (j + 1) by omega)
    exact w_sub (ih hj3) (by repeat' first | exact trivial | rfl | constructor)

set_option maxHeartbeats 4000000 in
set_option maxRecDepth 100000 in
theorem lp_X7_digest3 {K : KC} (C : CX K RX7 cX7_digest 4 rm_X7_digest) (hl : (Kl K).stackTraces = false) {y0 cA gA pA oA pr ra re rw tr tw : Nat} {ca ga pa oa : Nat → Nat} {f : Nat → Option Nat} {hb : UInt64} {hbt : UInt64} {dmt : Int32} {kt : KT} {nC : Nat} {cs : Nat → Int32 × Int32} {nG : Nat} {gs : Nat → GT} {nP : Nat} {ps : Nat → PT} {nO : Nat} {os : Nat → OT} {nR : Nat} {rs : Nat → RT} {k : KT} {dmp : Int32} {day : Int32} {pur : Int32} {rf : Int32} {h : HM} (u : Yh (Kt K) y0 cA gA pA oA pr ra re rw tr tw ca ga pa oa f hb hbt dmt kt nC cs nG gs nP ps nO os nR rs k dmp day pur rf h) (bG : nG ≤ 4) (hn : ∀ i, i < nG → ¬ (gs i).2.2.1 = 0 → vf_n64 (FP.ddiv (FP.i2d (gs i).2.2.2.1) (FP.i2d (gs i).2.2.1))) (hgf : ∀ i, i < nG → DF (sp_growth (gs i))) {d : Int64}
    (kk : WW K (270, 1620) 102 [some (.ref y0), some (.long (sp_it (sp_dglz gs) d nG)), none, some (.int (nI nG))] [] h)
    : ∀ j : Nat, j ≤ nG → WW K (254 + 4 * j, 1524 + 24 * j) 56 [some (.ref y0), some (.long (sp_it (sp_dglz gs) d j)), none, some (.int (nI j))] [] h := by
  refine up_ind ?_
  intro j hj ih  
  obtain ⟨yy, yc, yg, yp, yo, ypr, yra, yre, yrw, ytr, ytw, yC, yG, yP, yO, yR, yn1, yn2, yn3, yn4⟩ := id u
  refine w_iload_n C dX7_digest_56 (by rfl) ?_
  first | refine w_aload_n C dX7_digest_57 (by rfl) ?_ | refine w_aload_nN C dX7_digest_57 (by rfl) ?_
  refine gf_X7_37 C yy dX7_digest_58 ?_
  refine w_icmp_ge (tgt := 102) C dX7_digest_61 (by rfl) (fun c_61 => ?_) (fun c_61 => ?_)
  · have e3 : ¬ j < nG := fun q => nI_ge q (by omega) c_61
    obtain rfl : j = nG := by omega
    refine w_widen kk (by show 254 + 4 * j ≤ 270; omega) (by show 1524 + 24 * j ≤ 1620; omega)
  · have hj3 : j < nG := Nat.not_le.mp (fun q => c_61 (nI_le (a := nG) q (by omega)))
    refine w_lload_n C dX7_digest_64 (by rfl) ?_
    refine lc_X7_376 C dX7_digest_65 ?_
    refine w_lmul C dX7_digest_68 ?_
    refine lc_X7_385 C dX7_digest_69 ?_
    first | refine w_aload_n C dX7_digest_72 (by rfl) ?_ | refine w_aload_nN C dX7_digest_72 (by rfl) ?_
    refine w_iload_n C dX7_digest_73 (by rfl) ?_
    refine w_iconst (v := 0) C dX7_digest_74 (by rfl) ?_
    refine cx_X7_387 C (m_X7_ofGlaze hl u bG hn) yy (by rfl) (by rfl) ⟨show 254 + 4 * j + 2 ≤ 305 by omega, show 1524 + 24 * j + 12 ≤ 1830 by omega⟩ (by rfl) dX7_digest_75 (fun z1 h1 p1 => ?_) (fun E hx px => px.elim (fun w => absurd w.2.2 (not_out hj3 (by omega))) (fun w => absurd (by decide) w.2.2.2))
    obtain ⟨rfl, g2, hg2, e2, -, rfl⟩ := p1
    obtain rfl := nI_inj (by omega) (by omega) e2
    refine w_dmul C dX7_digest_78 (show vf_n64 (FP.dmul 4634204016564240384 (sp_growth (gs j))) from nn_of (dmul_n (df_whole w64) (hgf j hj3))) ?_
    refine w_d2l C dX7_digest_79 ?_
    refine w_ladd C dX7_digest_80 ?_
    refine w_lstore_1 C dX7_digest_81 (by first | trivial | rfl) ?_
    refine w_lload_n C dX7_digest_82 (by rfl) ?_
    refine lc_X7_376 C dX7_digest_83 ?_
    refine w_lmul C dX7_digest_86 ?_
    first | refine w_aload_n C dX7_digest_87 (by rfl) ?_ | refine w_aload_nN C dX7_digest_87 (by rfl) ?_
    refine w_iload_n C dX7_digest_88 (by rfl) ?_
    refine w_iconst (v := 2) C dX7_digest_89 (by rfl) ?_
    refine cx_X7_387 C (m_X7_ofGlaze hl u bG hn) yy (by rfl) (by rfl) ⟨show 254 + 4 * j + 2 + 2 ≤ 305 by omega, show 1524 + 24 * j + 12 + 12 ≤ 1830 by omega⟩ (by rfl) dX7_digest_90 (fun z2 h2 p2 => ?_) (fun E hx px => px.elim (fun w => absurd w.2.2 (not_out hj3 (by omega))) (fun w => absurd (by decide) w.2.2.2))
    obtain ⟨rfl, g2, hg2, e2, -, rfl⟩ := p2
    obtain rfl := nI_inj (by omega) (by omega) e2
    refine w_d2l C dX7_digest_93 ?_
    refine w_ladd C dX7_digest_94 ?_
    refine w_lstore_1 C dX7_digest_95 (by first | trivial | rfl) ?_
    refine w_iinc_3 (v := _ + (1)) C dX7_digest_96 (by rfl) (by first | trivial | rfl) ?_
    refine w_goto (tgt := 56) C dX7_digest_99 (by rfl) ?_
    rw [nI_1 j]
    refine w_widen (n' := (254 + 4 * (j + 1), 1524 + 24 * (j + 1))) ?_ (show 254 + 4 * j + 2 + 2 ≤ 254 + 4 * (j + 1) by omega) (show 1524 + 24 * j + 12 + 12 ≤ 1524 + 24 * (j + 1) by omega)
    exact w_sub (ih hj3) (by repeat' first | exact trivial | rfl | constructor)

set_option maxHeartbeats 4000000 in
set_option maxRecDepth 100000 in
theorem lp_X7_digest4 {K : KC} (C : CX K RX7 cX7_digest 4 rm_X7_digest) (hl : (Kl K).stackTraces = false) {y0 cA gA pA oA pr ra re rw tr tw : Nat} {ca ga pa oa : Nat → Nat} {f : Nat → Option Nat} {hb : UInt64} {hbt : UInt64} {dmt : Int32} {kt : KT} {nC : Nat} {cs : Nat → Int32 × Int32} {nG : Nat} {gs : Nat → GT} {nP : Nat} {ps : Nat → PT} {nO : Nat} {os : Nat → OT} {nR : Nat} {rs : Nat → RT} {k : KT} {dmp : Int32} {day : Int32} {pur : Int32} {rf : Int32} (hk : okk k) (hL : okL nR k) (hRr : okR9 nR rs) {d : Int64}
    (kk : ∀ (h' : HM) (hb9 : UInt64) (kt9 : KT), Yh (Kt K) y0 cA gA pA oA pr ra re rw tr tw ca ga pa oa f hb hb9 dmt kt9 nC cs nG gs nP ps nO os nR rs k dmp day pur rf h' → WW K (303, 1818) 122 [some (.ref y0), some (.long (sp_it (sp_dsh nP ps nR rs k) d 3)), none, some (.int (nI 3))] [] h')
    : ∀ j : Nat, j ≤ 3 → ∀ {h : HM} {hbt : UInt64} {kt : KT},  (u : Yh (Kt K) y0 cA gA pA oA pr ra re rw tr tw ca ga pa oa f hb hbt dmt kt nC cs nG gs nP ps nO os nR rs k dmp day pur rf h) → WW K (270 + 11 * j, 1620 + 66 * j) 104 [some (.ref y0), some (.long (sp_it (sp_dsh nP ps nR rs k) d j)), none, some (.int (nI j))] [] h := by
  refine up_ind ?_
  intro j hj ih h hbt kt u
  obtain ⟨yy, yc, yg, yp, yo, ypr, yra, yre, yrw, ytr, ytw, yC, yG, yP, yO, yR, yn1, yn2, yn3, yn4⟩ := id u
  refine w_iload_n C dX7_digest_104 (by rfl) ?_
  refine w_iconst (v := 3) C dX7_digest_105 (by rfl) ?_
  refine w_icmp_ge (tgt := 122) C dX7_digest_106 (by rfl) (fun c_106 => ?_) (fun c_106 => ?_)
  · have e3 : ¬ j < 3 := fun q => nI_ge q (by omega) c_106
    obtain rfl : j = 3 := by omega
    exact kk _ _ _ u
  · have hj3 : j < 3 := Nat.not_le.mp (fun q => c_106 (nI_le (a := 3) q (by omega)))
    first | refine w_aload_n C dX7_digest_109 (by rfl) ?_ | refine w_aload_nN C dX7_digest_109 (by rfl) ?_
    refine w_lload_n C dX7_digest_110 (by rfl) ?_
    refine w_iload_n C dX7_digest_111 (by rfl) ?_
    refine cx_X7_391 C (m_X7_withShelf hl u hk hL hRr hj3) yy (by rfl) (by rfl) ⟨show 270 + 11 * j + 11 ≤ 305 by omega, show 1620 + 66 * j + 66 ≤ 1830 by omega⟩ (by rfl) dX7_digest_112 (fun z1 h1 p1 => ?_) (fun E hx px => px.elim)
    obtain ⟨rfl, hb9, kt9, u9⟩ := p1
    refine w_lstore_1 C dX7_digest_115 (by first | trivial | rfl) ?_
    refine w_iinc_3 (v := _ + (1)) C dX7_digest_116 (by rfl) (by first | trivial | rfl) ?_
    refine w_goto (tgt := 104) C dX7_digest_119 (by rfl) ?_
    rw [nI_1 j]
    refine w_widen (n' := (270 + 11 * (j + 1), 1620 + 66 * (j + 1))) ?_ (show 270 + 11 * j + 11 ≤ 270 + 11 * (j + 1) by omega) (show 1620 + 66 * j + 66 ≤ 1620 + 66 * (j + 1) by omega)
    exact w_sub (ih hj3 u9) (by repeat' first | exact trivial | rfl | constructor)

def sp_digest (nG : Nat) (gs : Nat → GT) (nP : Nat) (ps : Nat → PT) (nO : Nat) (os : Nat → OT) (nR : Nat) (rs : Nat → RT) (k : KT) (day pur rf : Int32) : Int64 :=
  sp_add (sp_add (sp_add (sp_it (sp_dsh nP ps nR rs k) (sp_it (sp_dglz gs) (sp_it (sp_dpot gs ps) (sp_it (fun d j => sp_add d (sp_many nP ps nO os nR k day pur rf (nI j)).toInt64) 58303 16) nP) nG) 3) (FP.d2l (FP.dmul 4634204016564240384 (kH k)))) (FP.d2l (FP.dmul 4634204016564240384 (FP.f2d (kP k))))) (sp_end nR rs k 300 0).toInt64

set_option maxHeartbeats 4000000 in
set_option maxRecDepth 100000 in
theorem m_X7_digest {l : Launch} {D : va_G} {tc : Nat → ClassId} (hl : l.stackTraces = false) {h : HM} {y0 cA gA pA oA pr ra re rw tr tw : Nat} {ca ga pa oa : Nat → Nat} {f : Nat → Option Nat} {hb : UInt64} {hbt : UInt64} {dmt : Int32} {kt : KT} {nC : Nat} {cs : Nat → Int32 × Int32} {nG : Nat} {gs : Nat → GT} {nP : Nat} {ps : Nat → PT} {nO : Nat} {os : Nat → OT} {nR : Nat} {rs : Nat → RT} {k : KT} {dmp : Int32} {day : Int32} {pur : Int32} {rf : Int32} (Y : Yh tc y0 cA gA pA oA pr ra re rw tr tw ca ga pa oa f hb hbt dmt kt nC cs nG gs nP ps nO os nR rs k dmp day pur rf h) (bP : nP ≤ 14) (bG : nG ≤ 4) (hPG : ∀ i, i < nP → ∀ g, (ps i).2.1 = some g → g < nG) (hk : okk k) (hL : okL nR k) (hRr : okR9 nR rs) (hw : ∀ i, i < nP → FP.Core.FFin (qWa (ps i).2.2)) (hn : ∀ i, i < nG → ¬ (gs i).2.2.1 = 0 → vf_n64 (FP.ddiv (FP.i2d (gs i).2.2.2.1) (FP.i2d (gs i).2.2.1))) (hgf : ∀ i, i < nG → DF (sp_growth (gs i))) (hO : nO = 0) :
    CTX l D tc yX7_digest cX7_digest 4 (some FieldType.long) rm_X7_digest [.ref y0] h (rL (fun z h' => z = sp_digest nG gs nP ps nO os nR rs k day pur rf ∧ ∃ hb9 kt9, Yh tc y0 cA gA pA oA pr ra re rw tr tw ca ga pa oa f hb hb9 dmt kt9 nC cs nG gs nP ps nO os nR rs k dmp day pur rf h')) (fun E h' => False) := by
  refine CTX.start [some (.ref y0), none, none, none] (by decide) hl rfl rfl (fun K C M X => ?_)
  obtain ⟨rfl, rfl, rfl, -⟩ := id M
  have C : CX K RX7 cX7_digest 4 rm_X7_digest := C
  obtain ⟨yy, yc, yg, yp, yo, ypr, yra, yre, yrw, ytr, ytw, yC, yG, yP, yO, yR, yn1, yn2, yn3, yn4⟩ := id Y
  refine lc_X7_374 C dX7_digest_0 ?_
  refine w_lstore_1 C dX7_digest_3 (by first | trivial | rfl) ?_
  refine w_iconst (v := 0) C dX7_digest_4 (by rfl) ?_
  refine w_istore_3 C dX7_digest_5 (by first | trivial | rfl) ?_
  refine lp_X7_digest1 C hl Y hO ?_ 0 (by decide)
  refine w_iconst (v := 0) C dX7_digest_31 (by rfl) ?_
  refine w_istore_3 C dX7_digest_32 (by first | trivial | rfl) ?_
  generalize hD1 : sp_it (fun d j => sp_add d (sp_many nP ps nO os nR k day pur rf (nI j)).toInt64) 58303 16 = D1
  refine lp_X7_digest2 C hl Y bP hPG hw ?_ 0 (by omega)
  refine w_iconst (v := 0) C dX7_digest_54 (by rfl) ?_
  refine w_istore_3 C dX7_digest_55 (by first | trivial | rfl) ?_
  generalize hD2 : sp_it (sp_dpot gs ps) D1 nP = D2
  refine lp_X7_digest3 C hl Y bG hn hgf ?_ 0 (by omega)
  refine w_iconst (v := 0) C dX7_digest_102 (by rfl) ?_
  refine w_istore_3 C dX7_digest_103 (by first | trivial | rfl) ?_
  generalize hD3 : sp_it (sp_dglz gs) D2 nG = D3
  refine lp_X7_digest4 (hbt := hbt) (kt := kt) C hl hk hL hRr (fun h9 hb9 kt9 Y9 => ?_) 0 (by omega) Y
  obtain ⟨yy, yc, yg, yp, yo, ypr, yra, yre, yrw, ytr, ytw, yC, yG, yP, yO, yR, yn1, yn2, yn3, yn4⟩ := id Y9
  refine w_lload_n C dX7_digest_122 (by rfl) ?_
  refine lc_X7_376 C dX7_digest_123 ?_
  refine w_lmul C dX7_digest_126 ?_
  refine lc_X7_385 C dX7_digest_127 ?_
  first | refine w_aload_n C dX7_digest_130 (by rfl) ?_ | refine w_aload_nN C dX7_digest_130 (by rfl) ?_
  refine w_iconst (v := 0) C dX7_digest_131 (by rfl) ?_
  refine cx_X7_394 C (m_X7_kiln hl Y9 hk.1 hk.2.1) yy (by rfl) (by rfl) ⟨by decide, by decide⟩ (by rfl) dX7_digest_132 (fun z1 h1 p1 => ?_) (fun E hx px => absurd (by decide) px.2.2)
  obtain ⟨rfl, -, rfl⟩ := p1
  refine w_dmul C dX7_digest_135 (show vf_n64 (FP.dmul 4634204016564240384 (kH k)) from nn_of (dmul_n (df_whole w64) hk.1.df)) ?_
  refine w_d2l C dX7_digest_136 ?_
  refine w_ladd C dX7_digest_137 ?_
  refine w_lstore_1 C dX7_digest_138 (by first | trivial | rfl) ?_
  refine w_lload_n C dX7_digest_139 (by rfl) ?_
  refine lc_X7_376 C dX7_digest_140 ?_
  refine w_lmul C dX7_digest_143 ?_
  refine lc_X7_385 C dX7_digest_144 ?_
  first | refine w_aload_n C dX7_digest_147 (by rfl) ?_ | refine w_aload_nN C dX7_digest_147 (by rfl) ?_
  refine w_iconst (v := 1) C dX7_digest_148 (by rfl) ?_
  refine cx_X7_394 C (m_X7_kiln hl Y9 hk.1 hk.2.1) yy (by rfl) (by rfl) ⟨by decide, by decide⟩ (by rfl) dX7_digest_149 (fun z2 h2 p2 => ?_) (fun E hx px => absurd (by decide) px.2.2)
  obtain ⟨rfl, -, rfl⟩ := p2
  refine w_dmul C dX7_digest_152 (show vf_n64 (FP.dmul 4634204016564240384 (FP.f2d (kP k))) from nn_of (dmul_n (df_whole w64) (dfin_f2d hk.2.1))) ?_
  refine w_d2l C dX7_digest_153 ?_
  refine w_ladd C dX7_digest_154 ?_
  refine w_lstore_1 C dX7_digest_155 (by first | trivial | rfl) ?_
  refine w_lload_n C dX7_digest_156 (by rfl) ?_
  refine lc_X7_376 C dX7_digest_157 ?_
  refine w_lmul C dX7_digest_160 ?_
  first | refine w_aload_n C dX7_digest_161 (by rfl) ?_ | refine w_aload_nN C dX7_digest_161 (by rfl) ?_
  refine cl_X7_397 C (m_X7_wouldEnd hl Y9 hk hL hRr) yy (by rfl) (by rfl) ⟨by decide, by decide⟩ (by rfl) dX7_digest_162 (fun z3 h3 p3 => ?_)
  obtain ⟨rfl, hb8, kt8, Y8⟩ := p3
  rw [end_like]
  refine w_i2l C dX7_digest_165 ?_
  refine w_ladd C dX7_digest_166 ?_
  refine w_lret C M dX7_digest_167 ⟨by decide, by decide⟩ ⟨_, rfl, ?_⟩
  exact ⟨by subst hD1 hD2 hD3; rfl, hb8, kt8, Y8⟩
