/-! CONES, WHAT WOULD BE, NEW KILNS -/
theorem cone_1 {w : UInt64} {j : Nat} (h : dge w (FP.i2d (cwC j))) : sp_cone w j + 1 = sp_cone w (j + 1) := by
  show _ = sp_cone w j + bI (dge w (FP.i2d (cwC j)))
  rw [← bI_t h]
theorem cone_0 {w : UInt64} {j : Nat} (h : ¬ dge w (FP.i2d (cwC j))) : sp_cone w j + 0 = sp_cone w (j + 1) := by
  show _ = sp_cone w j + bI (dge w (FP.i2d (cwC j)))
  rw [← bI_f h]
/-- some of the first j shelves has had work -/
def sp_worn (w : Nat → UInt64) : Nat → Bool
  | 0 => false
  | j + 1 => sp_worn w j || decide (dgt (w j) 0)
def sp_zero (w : Nat → UInt64) (j : Nat) : Nat → UInt64 := fun i => if i < j then 0 else w i
theorem zero_0 (w : Nat → UInt64) : sp_zero w 0 = w := by funext i; simp [sp_zero]
theorem zero_at (w : Nat → UInt64) (j : Nat) : sp_zero w j j = w j := by simp [sp_zero]
theorem zero_s (w : Nat → UInt64) (j : Nat) : vf_upd (sp_zero w j) j 0 = sp_zero w (j + 1) := by
  funext i
  simp only [vf_upd, sp_zero]
  by_cases h : i = j
  · subst h; simp
  · rw [if_neg h]
    by_cases g : i < j
    · rw [if_pos g, if_pos (by omega)]
    · rw [if_neg g, if_neg (by omega)]
theorem worn_t {w : Nat → UInt64} {j : Nat} (h : dgt (w j) 0) : sp_worn w (j + 1) = true := (Bool.or_eq_true _ _).mpr (Or.inr (decide_eq_true h))
theorem worn_f {w : Nat → UInt64} {j : Nat} (h : ¬ dgt (w j) 0) : sp_worn w (j + 1) = sp_worn w j := by simp [sp_worn, h]
theorem fnn_of {r : UInt32} (h : FP.Core.val32 r ≠ .nan) : vf_n32 r := by
  have h1 : ¬ FP.Core.infBits FP.Core.b32 < FP.Core.mag FP.Core.b32 r.toNat := fun q => h ((FP.Core.decode_nan _).mpr q)
  rw [FP.Core.infBits_b32, FP.Core.mag_toNat32, ← FP.Core.mask_toNat32] at h1
  show r &&& 0x7fffffff ≤ 0x7f800000
  rw [UInt32.le_iff_toNat_le]
  have : (0x7f800000 : UInt32).toNat = 2139095040 := by decide
  omega
theorem fN_of {r : UInt32} (h : FP.Core.fIsNaN r = false) : FP.Core.val32 r ≠ .nan := fun q => by rw [(FP.Core.fIsNaN_iff r).mpr q] at h; cases h
theorem worn_n {p : UInt32} (h : FP.Core.FFin p) : vf_n32 (FP.fmul 1065091072 p) := fnn_of (fN_of (FP.Core.fmul_out ((FP.Core.fin_bits32 _).mpr (by decide)) h))
/-- the first j of one row, the rest of another -/
def sp_mix (v w : Nat → UInt64) (j : Nat) : Nat → UInt64 := fun i => if i < j then v i else w i
theorem mix_0 (v w : Nat → UInt64) : sp_mix v w 0 = w := by funext i; simp [sp_mix]
theorem mix_s (v w : Nat → UInt64) (j : Nat) : vf_upd (sp_mix v w j) j (v j) = sp_mix v w (j + 1) := by
  funext i
  simp only [vf_upd, sp_mix]
  by_cases h : i = j
  · subst h; simp
  · rw [if_neg h]
    by_cases g : i < j
    · rw [if_pos g, if_pos (by omega)]
    · rw [if_neg g, if_neg (by omega)]

set_option maxHeartbeats 4000000 in
set_option maxRecDepth 100000 in
theorem lp_X2_coneOf {K : KC} (C : CX K RX2 cX2_coneOf 9 rm_X2_coneOf) (hl : (Kl K).stackTraces = false) {a : Nat} {si : Int32} {w : UInt64} {h : HM}
    (kk : WW K (0, 0) 60 [some (.ref a), some (.int si), some (.double w), none, some (.int (sp_cone w 12)), some (.ref (Kt K 10)), some (.int (nI 12)), some (.int (nI 12)), none] [] h)
    : ∀ j : Nat, j ≤ 12 → WW K (0, 0) 22 [some (.ref a), some (.int si), some (.double w), none, some (.int (sp_cone w j)), some (.ref (Kt K 10)), some (.int (nI 12)), some (.int (nI j)), none] [] h := by
  refine up_ind ?_
  intro j hj ih  
  refine w_iload C dX2_coneOf_22 (by rfl) ?_
  refine w_iload C dX2_coneOf_24 (by rfl) ?_
  refine w_icmp_ge (tgt := 60) C dX2_coneOf_26 (by rfl) (fun c_26 => ?_) (fun c_26 => ?_)
  · have e3 : ¬ j < 12 := fun q => nI_ge q (show 12 < 2 ^ 31 by decide) c_26
    obtain rfl : j = 12 := by omega
    exact kk
  · have hj3 : j < 12 := Nat.not_le.mp (fun q => c_26 (nI_le (a := 12) q (by omega)))
    first | refine w_aload C dX2_coneOf_29 (by rfl) ?_ | refine w_aloadN C dX2_coneOf_29 (by rfl) ?_
    refine w_iload C dX2_coneOf_31 (by rfl) ?_
    refine w_tialdn C (cx_sw C).cwt hj3 (by decide) dX2_coneOf_33 ?_
    refine w_istore_8 C dX2_coneOf_34 (by first | trivial | rfl) ?_
    refine w_iload C dX2_coneOf_36 (by rfl) ?_
    refine w_dload_n C dX2_coneOf_38 (by rfl) ?_
    refine w_iload C dX2_coneOf_39 (by rfl) ?_
    refine w_i2d C dX2_coneOf_41 ?_
    refine w_dcmp C dX2_coneOf_42 ?_
    refine w_if_lt (tgt := 50) C dX2_coneOf_43 (by rfl) (fun c_43 => ?_) (fun c_43 => ?_)
    · try simp only [cg_ge, cg_gt, cl_gt, cl_le, cl_eq, cl_lt, cl_ge, bi_eq0, bi_ne0, bI_eq0, Decidable.not_not, Bool.not_eq_false] at c_43
      refine w_iconst (v := 0) C dX2_coneOf_50 (by rfl) ?_
      refine w_iadd C dX2_coneOf_51 ?_
      rw [cone_0 c_43]
      refine w_istore_4 C dX2_coneOf_52 (by first | trivial | rfl) ?_
      refine w_iinc_7 (v := _ + (1)) C dX2_coneOf_54 (by rfl) (by first | trivial | rfl) ?_
      refine w_goto (tgt := 22) C dX2_coneOf_57 (by rfl) ?_
      rw [nI_1 j]
      exact w_sub (ih hj3) (by repeat' first | exact trivial | rfl | constructor)
    · try simp only [cg_ge, cg_gt, cl_gt, cl_le, cl_eq, cl_lt, cl_ge, bi_eq0, bi_ne0, bI_eq0, Decidable.not_not, Bool.not_eq_false] at c_43
      refine w_iconst (v := 1) C dX2_coneOf_46 (by rfl) ?_
      refine w_goto (tgt := 51) C dX2_coneOf_47 (by rfl) ?_
      refine w_iadd C dX2_coneOf_51 ?_
      rw [cone_1 c_43]
      refine w_istore_4 C dX2_coneOf_52 (by first | trivial | rfl) ?_
      refine w_iinc_7 (v := _ + (1)) C dX2_coneOf_54 (by rfl) (by first | trivial | rfl) ?_
      refine w_goto (tgt := 22) C dX2_coneOf_57 (by rfl) ?_
      rw [nI_1 j]
      exact w_sub (ih hj3) (by repeat' first | exact trivial | rfl | constructor)

set_option maxHeartbeats 4000000 in
set_option maxRecDepth 100000 in
theorem m_X2_coneOf {l : Launch} {D : va_G} {tc : Nat → ClassId} (hl : l.stackTraces = false) {h : HM} {a pr wk : Nat} {hb : UInt64} {dmp : Int32} {k : KT} (hf : h a = some (kCell pr wk hb dmp k)) (hw : h wk = some (wCell tc (kW k))) {s : Nat} (hs : s < 3) :
    CT l D tc yX2_coneOf cX2_coneOf 9 (some FieldType.int) rm_X2_coneOf [.ref a, .int (nI s)] h (rI (fun z h' => h' = h ∧ z = sp_cone (kW k s) 12)) := by
  refine CT.start [some (.ref a), some (.int (nI s)), none, none, none, none, none, none, none] (by decide) hl rfl rfl (fun K C M => ?_)
  obtain ⟨rfl, rfl, rfl, -⟩ := id M
  have C : CX K RX2 cX2_coneOf 9 rm_X2_coneOf := C
  first | refine w_aload_n C dX2_coneOf_0 (by rfl) ?_ | refine w_aload_nN C dX2_coneOf_0 (by rfl) ?_
  refine w_iload_n C dX2_coneOf_1 (by rfl) ?_
  refine cl_X2_58 C (m_X2_workOf hl hf hw hs) hf (by rfl) (by rfl) ⟨by decide, by decide⟩ (by rfl) dX2_coneOf_2 (fun z1 h1 p1 => ?_)
  obtain ⟨rfl, rfl⟩ := p1
  refine w_dstore_2 C dX2_coneOf_5 (by first | trivial | rfl) ?_
  refine w_iconst (v := 0) C dX2_coneOf_6 (by rfl) ?_
  refine w_istore_4 C dX2_coneOf_7 (by first | trivial | rfl) ?_
  refine w_getsN C (cx_sw C).cwz gt_575 dX2_coneOf_9 ?_
  first | refine w_astore_5 C dX2_coneOf_12 (by first | trivial | rfl) ?_ | refine w_astore_5N C dX2_coneOf_12 (by first | trivial | rfl) ?_
  first | refine w_aload C dX2_coneOf_14 (by rfl) ?_ | refine w_aloadN C dX2_coneOf_14 (by rfl) ?_
  refine w_tlen C (cx_sw C).cwt dX2_coneOf_16 ?_
  refine w_istore_6 C dX2_coneOf_17 (by first | trivial | rfl) ?_
  refine w_iconst (v := 0) C dX2_coneOf_19 (by rfl) ?_
  refine w_istore_7 C dX2_coneOf_20 (by first | trivial | rfl) ?_
  refine lp_X2_coneOf C hl (si := nI s) (w := kW k s) ?_ 0 (by decide)
  refine w_iload C dX2_coneOf_60 (by rfl) ?_
  refine w_iret C M dX2_coneOf_62 ⟨by decide, by decide⟩ ⟨_, rfl, ?_⟩
  exact ⟨rfl, rfl⟩

set_option maxHeartbeats 4000000 in
set_option maxRecDepth 100000 in
theorem lp_X2_clearWorks {K : KC} (C : CX K RX2 cX2_clearWorks 3 rm_X2_clearWorks) (hl : (Kl K).stackTraces = false) {h0 : HM} {a pr wk : Nat} {hb : UInt64} {dmp : Int32} {k : KT} (hf : h0 a = some (kCell pr wk hb dmp k)) (hw : h0 wk = some (wCell (Kt K) (kW k)))
    (kk : ∀ h', Up h0 wk (wCell (Kt K) (sp_zero (kW k) 3)) h' → WW K (0, 0) 39 [some (.ref a), some (.int (bi (sp_worn (kW k) 3))), some (.int (nI 3))] [] h')
    : ∀ j : Nat, j ≤ 3 → ∀ {h : HM},  (u : Up h0 wk (wCell (Kt K) (sp_zero (kW k) j)) h) → WW K (0, 0) 4 [some (.ref a), some (.int (bi (sp_worn (kW k) j))), some (.int (nI j))] [] h := by
  refine up_ind ?_
  intro j hj ih h u
  have hf := u.oth hf hw (by intro q; simp at q)
  have hw1 := u.self
  refine w_iload_n C dX2_clearWorks_4 (by rfl) ?_
  first | refine w_aload_n C dX2_clearWorks_5 (by rfl) ?_ | refine w_aload_nN C dX2_clearWorks_5 (by rfl) ?_
  refine gf_X2_50 C hf dX2_clearWorks_6 ?_
  refine w_alen C 2 hw1 (by rfl) dX2_clearWorks_9 ?_
  refine w_icmp_ge (tgt := 39) C dX2_clearWorks_10 (by rfl) (fun c_10 => ?_) (fun c_10 => ?_)
  · have e3 : ¬ j < 3 := fun q => nI_ge q (show 3 < 2 ^ 31 by decide) c_10
    obtain rfl : j = 3 := by omega
    exact kk _ u
  · have hj3 : j < 3 := Nat.not_le.mp (fun q => c_10 (nI_le (a := 3) q (by omega)))
    first | refine w_aload_n C dX2_clearWorks_13 (by rfl) ?_ | refine w_aload_nN C dX2_clearWorks_13 (by rfl) ?_
    refine gf_X2_50 C hf dX2_clearWorks_14 ?_
    refine w_iload_n C dX2_clearWorks_17 (by rfl) ?_
    refine w_daldn C hw1 hj3 (by decide) dX2_clearWorks_18 ?_
    rw [zero_at]
    refine w_dconst0 C dX2_clearWorks_19 ?_
    refine w_dcmp C dX2_clearWorks_20 ?_
    refine w_if_le (tgt := 26) C dX2_clearWorks_21 (by rfl) (fun c_21 => ?_) (fun c_21 => ?_)
    · try simp only [cg_ge, cg_gt, cl_gt, cl_le, cl_eq, cl_lt, cl_ge, bi_eq0, bi_ne0, bI_eq0, Decidable.not_not, Bool.not_eq_false] at c_21
      rw [← worn_f c_21]
      first | refine w_aload_n C dX2_clearWorks_26 (by rfl) ?_ | refine w_aload_nN C dX2_clearWorks_26 (by rfl) ?_
      refine gf_X2_50 C hf dX2_clearWorks_27 ?_
      refine w_iload_n C dX2_clearWorks_30 (by rfl) ?_
      refine w_dconst0 C dX2_clearWorks_31 ?_
      refine w_dastn C hw1 hj3 (by decide) dX2_clearWorks_32 (fun h9 u9 => ?_)
      have u : Up h0 wk (wCell (Kt K) (sp_zero (kW k) (j + 1))) h9 := (u.tr u9).to (by rw [← zero_s]; rfl)
      refine w_iinc_2 (v := _ + (1)) C dX2_clearWorks_33 (by rfl) (by first | trivial | rfl) ?_
      refine w_goto (tgt := 4) C dX2_clearWorks_36 (by rfl) ?_
      rw [nI_1 j]
      exact w_sub (ih hj3 u) (by repeat' first | exact trivial | rfl | constructor)
    · try simp only [cg_ge, cg_gt, cl_gt, cl_le, cl_eq, cl_lt, cl_ge, bi_eq0, bi_ne0, bI_eq0, Decidable.not_not, Bool.not_eq_false] at c_21
      refine w_iconst (v := 1) C dX2_clearWorks_24 (by rfl) ?_
      refine w_istore_1 C dX2_clearWorks_25 (by first | trivial | rfl) ?_
      rw [← bi_t, ← worn_t c_21]
      first | refine w_aload_n C dX2_clearWorks_26 (by rfl) ?_ | refine w_aload_nN C dX2_clearWorks_26 (by rfl) ?_
      refine gf_X2_50 C hf dX2_clearWorks_27 ?_
      refine w_iload_n C dX2_clearWorks_30 (by rfl) ?_
      refine w_dconst0 C dX2_clearWorks_31 ?_
      refine w_dastn C hw1 hj3 (by decide) dX2_clearWorks_32 (fun h9 u9 => ?_)
      have u : Up h0 wk (wCell (Kt K) (sp_zero (kW k) (j + 1))) h9 := (u.tr u9).to (by rw [← zero_s]; rfl)
      refine w_iinc_2 (v := _ + (1)) C dX2_clearWorks_33 (by rfl) (by first | trivial | rfl) ?_
      refine w_goto (tgt := 4) C dX2_clearWorks_36 (by rfl) ?_
      rw [nI_1 j]
      exact w_sub (ih hj3 u) (by repeat' first | exact trivial | rfl | constructor)

set_option maxHeartbeats 4000000 in
set_option maxRecDepth 100000 in
theorem m_X2_clearWorks {l : Launch} {D : va_G} {tc : Nat → ClassId} (hl : l.stackTraces = false) {h : HM} {a pr wk : Nat} {hb : UInt64} {dmp : Int32} {k : KT} (hf : h a = some (kCell pr wk hb dmp k)) (hw : h wk = some (wCell tc (kW k))) (hP : FP.Core.FFin (kP k)) :
    CT l D tc yX2_clearWorks cX2_clearWorks 3 none rm_X2_clearWorks [.ref a] h (rV (fun h' => h' a = some (kCell pr wk hb dmp (kH k, (if sp_worn (kW k) 3 then FP.fmul 1065091072 (kP k) else kP k), kO k, kL k, kA k, kE k, kC k, kF k, kS k, sp_zero (kW k) 3)) ∧ h' wk = some (wCell tc (sp_zero (kW k) 3)) ∧ Fr [a, wk] h h')) := by
  refine CT.start [some (.ref a), none, none] (by decide) hl rfl rfl (fun K C M => ?_)
  obtain ⟨rfl, rfl, rfl, -⟩ := id M
  have C : CX K RX2 cX2_clearWorks 3 rm_X2_clearWorks := C
  refine w_iconst (v := 0) C dX2_clearWorks_0 (by rfl) ?_
  refine w_istore_1 C dX2_clearWorks_1 (by first | trivial | rfl) ?_
  refine w_iconst (v := 0) C dX2_clearWorks_2 (by rfl) ?_
  refine w_istore_2 C dX2_clearWorks_3 (by first | trivial | rfl) ?_
  refine lp_X2_clearWorks C hl hf hw (fun h9 u9 => ?_) 0 (by decide) (by rw [zero_0]; exact (hu_id hw).symm)
  have hf := u9.oth hf hw (by intro q; simp at q)
  have hw := u9.self
  refine w_iload_n C dX2_clearWorks_39 (by rfl) ?_
  refine w_if_eq (tgt := 54) C dX2_clearWorks_40 (by rfl) (fun c_40 => ?_) (fun c_40 => ?_)
  · try simp only [cg_ge, cg_gt, cl_gt, cl_le, cl_eq, cl_lt, cl_ge, bi_eq0, bi_ne0, bI_eq0, Decidable.not_not, Bool.not_eq_false] at c_40
    refine w_vret C M dX2_clearWorks_54 ⟨by decide, by decide⟩ ⟨rfl, ?_⟩
    exact ⟨by rw [c_40]; exact hf, hw, (u9.fr.sub (by simp))⟩
  · try simp only [cg_ge, cg_gt, cl_gt, cl_le, cl_eq, cl_lt, cl_ge, bi_eq0, bi_ne0, bI_eq0, Decidable.not_not, Bool.not_eq_false] at c_40
    first | refine w_aload_n C dX2_clearWorks_43 (by rfl) ?_ | refine w_aload_nN C dX2_clearWorks_43 (by rfl) ?_
    refine lc_X2_134 C dX2_clearWorks_44 ?_
    first | refine w_aload_n C dX2_clearWorks_46 (by rfl) ?_ | refine w_aload_nN C dX2_clearWorks_46 (by rfl) ?_
    refine gf_X2_20 C hf dX2_clearWorks_47 ?_
    refine w_fmul C dX2_clearWorks_50 (worn_n hP) ?_
    refine pf_X2_20 C hf dX2_clearWorks_51 (fun h1 u1 => ?_)
    have hw := u1.oth hw hf (by intro q; simp at q)
    have hf := u1.self
    refine w_vret C M dX2_clearWorks_54 ⟨by decide, by decide⟩ ⟨rfl, ?_⟩
    exact ⟨by rw [c_40]; exact hf, hw, ((u9.fr.sub (by simp)).tr (u1.fr.sub (by simp)))⟩

set_option maxHeartbeats 4000000 in
set_option maxRecDepth 100000 in
theorem lp_X2_becomeLike {K : KC} (C : CX K RX2 cX2_becomeLike 3 rm_X2_becomeLike) (hl : (Kl K).stackTraces = false) {h0 : HM} {a b pr wk pr2 wk2 : Nat} {hb hb2 : UInt64} {dmp dmp2 : Int32} {k k2 : KT} (hf : h0 a = some (kCell pr wk hb dmp k)) (hg : h0 b = some (kCell pr2 wk2 hb2 dmp2 k2)) {w : Nat → UInt64} (hw : h0 wk = some (wCell (Kt K) w)) (hv : h0 wk2 = some (wCell (Kt K) (kW k2))) (hne : wk2 ≠ wk)
    (kk : ∀ h', Up h0 wk (wCell (Kt K) (sp_mix (kW k2) w 3)) h' → WW K (0, 0) 76 [some (.ref a), some (.ref b), some (.int (nI 3))] [] h')
    : ∀ j : Nat, j ≤ 3 → ∀ {h : HM},  (u : Up h0 wk (wCell (Kt K) (sp_mix (kW k2) w j)) h) → WW K (0, 0) 50 [some (.ref a), some (.ref b), some (.int (nI j))] [] h := by
  refine up_ind ?_
  intro j hj ih h u
  have hf := u.oth hf hw (by intro q; simp at q)
  have hg := u.oth hg hw (by intro q; simp at q)
  have hv := (u.ne hne).trans hv
  have hw1 := u.self
  refine w_iload_n C dX2_becomeLike_50 (by rfl) ?_
  first | refine w_aload_n C dX2_becomeLike_51 (by rfl) ?_ | refine w_aload_nN C dX2_becomeLike_51 (by rfl) ?_
  refine gf_X2_50 C hf dX2_becomeLike_52 ?_
  refine w_alen C 2 hw1 (by rfl) dX2_becomeLike_55 ?_
  refine w_icmp_ge (tgt := 76) C dX2_becomeLike_56 (by rfl) (fun c_56 => ?_) (fun c_56 => ?_)
  · have e3 : ¬ j < 3 := fun q => nI_ge q (show 3 < 2 ^ 31 by decide) c_56
    obtain rfl : j = 3 := by omega
    exact kk _ u
  · have hj3 : j < 3 := Nat.not_le.mp (fun q => c_56 (nI_le (a := 3) q (by omega)))
    first | refine w_aload_n C dX2_becomeLike_59 (by rfl) ?_ | refine w_aload_nN C dX2_becomeLike_59 (by rfl) ?_
    refine gf_X2_50 C hf dX2_becomeLike_60 ?_
    refine w_iload_n C dX2_becomeLike_63 (by rfl) ?_
    first | refine w_aload_n C dX2_becomeLike_64 (by rfl) ?_ | refine w_aload_nN C dX2_becomeLike_64 (by rfl) ?_
    refine w_iload_n C dX2_becomeLike_65 (by rfl) ?_
    refine cl_X2_58 C (m_X2_workOf hl hg hv hj3) hg (by rfl) (by rfl) ⟨by decide, by decide⟩ (by rfl) dX2_becomeLike_66 (fun z1 h1 p1 => ?_)
    obtain ⟨rfl, rfl⟩ := p1
    refine w_dastn C hw1 hj3 (by decide) dX2_becomeLike_69 (fun h9 u9 => ?_)
    have u : Up h0 wk (wCell (Kt K) (sp_mix (kW k2) w (j + 1))) h9 := (u.tr u9).to (by rw [← mix_s])
    refine w_iinc_2 (v := _ + (1)) C dX2_becomeLike_70 (by rfl) (by first | trivial | rfl) ?_
    refine w_goto (tgt := 50) C dX2_becomeLike_73 (by rfl) ?_
    rw [nI_1 j]
    exact w_sub (ih hj3 u) (by repeat' first | exact trivial | rfl | constructor)

set_option maxHeartbeats 4000000 in
set_option maxRecDepth 100000 in
theorem m_X2_becomeLike {l : Launch} {D : va_G} {tc : Nat → ClassId} (hl : l.stackTraces = false) {h : HM} {a b pr wk pr2 wk2 : Nat} {hb hb2 : UInt64} {dmp dmp2 : Int32} {k k2 : KT} (hf : h a = some (kCell pr wk hb dmp k)) (hg : h b = some (kCell pr2 wk2 hb2 dmp2 k2)) {w : Nat → UInt64} (hw : h wk = some (wCell tc w)) (hv : h wk2 = some (wCell tc (kW k2))) (hne : wk2 ≠ wk) (hab : b ≠ a) :
    CT l D tc yX2_becomeLike cX2_becomeLike 3 none rm_X2_becomeLike [.ref a, .ref b] h (rV (fun h' => h' a = some (kCell pr wk hb dmp (kH k2, kP k2, kO k2, kL k2, kA k2, kE k2, kC k, kF k, kS k, sp_mix (kW k2) w 3)) ∧ h' wk = some (wCell tc (sp_mix (kW k2) w 3)) ∧ Fr [a, wk] h h')) := by
  refine CT.start [some (.ref a), some (.ref b), none] (by decide) hl rfl rfl (fun K C M => ?_)
  obtain ⟨rfl, rfl, rfl, -⟩ := id M
  have C : CX K RX2 cX2_becomeLike 3 rm_X2_becomeLike := C
  first | refine w_aload_n C dX2_becomeLike_0 (by rfl) ?_ | refine w_aload_nN C dX2_becomeLike_0 (by rfl) ?_
  first | refine w_aload_n C dX2_becomeLike_1 (by rfl) ?_ | refine w_aload_nN C dX2_becomeLike_1 (by rfl) ?_
  refine gf_X2_11 C hg dX2_becomeLike_2 ?_
  refine pf_X2_11 C hf dX2_becomeLike_5 (fun h1 u1 => ?_)
  have hg := (u1.ne hab).trans hg
  have hw := u1.oth hw hf (by intro q; simp at q)
  have hv := u1.oth hv hf (by intro q; simp at q)
  have hf := u1.self
  first | refine w_aload_n C dX2_becomeLike_8 (by rfl) ?_ | refine w_aload_nN C dX2_becomeLike_8 (by rfl) ?_
  first | refine w_aload_n C dX2_becomeLike_9 (by rfl) ?_ | refine w_aload_nN C dX2_becomeLike_9 (by rfl) ?_
  refine gf_X2_20 C hg dX2_becomeLike_10 ?_
  refine pf_X2_20 C hf dX2_becomeLike_13 (fun h2 u2 => ?_)
  have hg := (u2.ne hab).trans hg
  have hw := u2.oth hw hf (by intro q; simp at q)
  have hv := u2.oth hv hf (by intro q; simp at q)
  have hf := u2.self
  first | refine w_aload_n C dX2_becomeLike_16 (by rfl) ?_ | refine w_aload_nN C dX2_becomeLike_16 (by rfl) ?_
  first | refine w_aload_n C dX2_becomeLike_17 (by rfl) ?_ | refine w_aload_nN C dX2_becomeLike_17 (by rfl) ?_
  refine gf_X2_28 C hg dX2_becomeLike_18 ?_
  refine pf_X2_28 C hf (by first | exact Or.inl rfl | exact Or.inr rfl | assumption | exact bI_01 _ | exact bi_01 _) dX2_becomeLike_21 (fun h3 u3 => ?_)
  have hg := (u3.ne hab).trans hg
  have hw := u3.oth hw hf (by intro q; simp at q)
  have hv := u3.oth hv hf (by intro q; simp at q)
  have hf := u3.self
  first | refine w_aload_n C dX2_becomeLike_24 (by rfl) ?_ | refine w_aload_nN C dX2_becomeLike_24 (by rfl) ?_
  first | refine w_aload_n C dX2_becomeLike_25 (by rfl) ?_ | refine w_aload_nN C dX2_becomeLike_25 (by rfl) ?_
  refine gf_X2_32 C hg dX2_becomeLike_26 ?_
  refine pf_X2_32 C hf (by first | exact Or.inl rfl | exact Or.inr rfl | assumption | exact bI_01 _ | exact bi_01 _) dX2_becomeLike_29 (fun h4 u4 => ?_)
  have hg := (u4.ne hab).trans hg
  have hw := u4.oth hw hf (by intro q; simp at q)
  have hv := u4.oth hv hf (by intro q; simp at q)
  have hf := u4.self
  first | refine w_aload_n C dX2_becomeLike_32 (by rfl) ?_ | refine w_aload_nN C dX2_becomeLike_32 (by rfl) ?_
  first | refine w_aload_n C dX2_becomeLike_33 (by rfl) ?_ | refine w_aload_nN C dX2_becomeLike_33 (by rfl) ?_
  refine gf_X2_35 C hg dX2_becomeLike_34 ?_
  refine pf_X2_35 C hf dX2_becomeLike_37 (fun h5 u5 => ?_)
  have hg := (u5.ne hab).trans hg
  have hw := u5.oth hw hf (by intro q; simp at q)
  have hv := u5.oth hv hf (by intro q; simp at q)
  have hf := u5.self
  first | refine w_aload_n C dX2_becomeLike_40 (by rfl) ?_ | refine w_aload_nN C dX2_becomeLike_40 (by rfl) ?_
  first | refine w_aload_n C dX2_becomeLike_41 (by rfl) ?_ | refine w_aload_nN C dX2_becomeLike_41 (by rfl) ?_
  refine gf_X2_38 C hg dX2_becomeLike_42 ?_
  refine pf_X2_38 C hf dX2_becomeLike_45 (fun h6 u6 => ?_)
  have hg := (u6.ne hab).trans hg
  have hw := u6.oth hw hf (by intro q; simp at q)
  have hv := u6.oth hv hf (by intro q; simp at q)
  have hf := u6.self
  refine w_iconst (v := 0) C dX2_becomeLike_48 (by rfl) ?_
  refine w_istore_2 C dX2_becomeLike_49 (by first | trivial | rfl) ?_
  refine lp_X2_becomeLike C hl (hb := hb) (dmp := dmp) (k := (kH k2, kP k2, kO k2, kL k2, kA k2, kE k2, kC k, kF k, kS k, kW k)) hf hg hw hv hne (fun h9 u9 => ?_) 0 (by decide) (by rw [mix_0]; exact (hu_id hw).symm)
  have hf := u9.oth hf hw (by intro q; simp at q)
  have hw := u9.self
  refine w_vret C M dX2_becomeLike_76 ⟨by decide, by decide⟩ ⟨rfl, ?_⟩
  exact ⟨hf, hw, (((((((u1.fr.sub (by simp)).tr (u2.fr.sub (by simp))).tr (u3.fr.sub (by simp))).tr (u4.fr.sub (by simp))).tr (u5.fr.sub (by simp))).tr (u6.fr.sub (by simp))).tr (u9.fr.sub (by simp)))⟩
