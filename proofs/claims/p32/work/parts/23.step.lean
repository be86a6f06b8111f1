/-! A STEP OF THE KILN -/
theorem inc_lt {r : RT} {g : UInt64} (hr : 10 ≤ r.1.toInt ∧ r.1.toInt ≤ 200) (hg : dN g) (h1 : ¬ dlt g FP.dconst1) (h2 : dlt g (FP.i2d r.1)) : DF g := by
  have := (inc_ok hr hg h1).1
  unfold sp_inc at this
  rwa [if_pos h2] at this
theorem hu_id {h : HM} {a : Nat} {e : va_E} (q : h a = some e) : hu h a e = h := by funext b; simp only [hu]; split <;> simp_all
def okk (k : KT) : Prop := Ht (kH k) ∧ FP.Core.FFin (kP k) ∧ ∀ j, j < 3 → okW (kW k j)
/-- beside these places nothing has changed -/
def Fr (S : List Nat) (h h' : HM) : Prop := ∀ b z, b ∉ S → h b = some z → h' b = some z
theorem Fr.rfl9 {S : List Nat} {h : HM} : Fr S h h := fun _ _ _ q => q
theorem Fr.tr {S : List Nat} {h h1 h2 : HM} (u : Fr S h h1) (v : Fr S h1 h2) : Fr S h h2 := fun b z n q => v b z n (u b z n q)
theorem Fr.sub {S S' : List Nat} {h h1 : HM} (u : Fr S h h1) (hs : ∀ b ∈ S, b ∈ S') : Fr S' h h1 := fun b z n q => u b z (fun m => n (hs b m)) q
theorem Up.fr {h h' : HM} {a : Nat} {e : va_E} (u : Up h a e h') : Fr [a] h h' := fun b z n q => by rw [u.ne (fun m => n (by simp [m]))]; exact q
theorem Fr.at9 {S : List Nat} {h h' : HM} (u : Fr S h h') {b : Nat} {z : va_E} (q : h b = some z) (n : b ∉ S) : h' b = some z := u b z n q
/-- the ramps of a program -/
def RS (h : HM) (nr : Nat) (f : Nat → Option Nat) (Rp : Nat → RT) : Prop := ∀ i, i < nr → ∃ r, f i = some r ∧ h r = some (rCell (Rp i))
theorem RS.up {h h' : HM} {nr : Nat} {f : Nat → Option Nat} {Rp : Nat → RT} {a : Nat} {e e0 : va_E} (q : RS h nr f Rp) (u : Up h a e h') (ha : h a = some e0) (hn : ∀ r, rCell r ≠ e0) : RS h' nr f Rp := fun i hi => by
  obtain ⟨r, h1, h2⟩ := q i hi
  exact ⟨r, h1, u.oth h2 ha (hn _)⟩
theorem m_rampAt {l : Launch} {D : va_G} {tc : Nat → ClassId} (hl : l.stackTraces = false) {h : HM} {a ra nr i : Nat} {f : Nat → Option Nat} (hf : h a = some (pCell ra nr)) (hA : h ra = some (qCell (tc 7) 5 f)) (hn : nr ≤ 5) (hi : i < nr) {r : Nat} (hr : f i = some r) :
    CT l D tc yX5_rampAt cX5_rampAt 2 (some (FieldType.object "KilnYard$Ramp")) rm_X5_rampAt [.ref a, .int (nI i)] h (rR (fun z h' => h' = h ∧ z = .ref r)) := by
  have := m_X5_rampAt (l := l) (D := D) (tc := tc) hl (nI i) hf hA hn
  rw [nI_toInt (by omega), nI_clamp (by omega), if_pos ⟨by omega, by omega⟩, hr] at this
  exact this
theorem m_rampAtN {l : Launch} {D : va_G} {tc : Nat → ClassId} (hl : l.stackTraces = false) {h : HM} {a ra nr i : Nat} {f : Nat → Option Nat} (hf : h a = some (pCell ra nr)) (hA : h ra = some (qCell (tc 7) 5 f)) (hn : nr ≤ 5) (hi : i < 2 ^ 31) (hn2 : ¬ i < nr) :
    CT l D tc yX5_rampAt cX5_rampAt 2 (some (FieldType.object "KilnYard$Ramp")) rm_X5_rampAt [.ref a, .int (nI i)] h (rR (fun z h' => h' = h ∧ z = .null)) := by
  have := m_X5_rampAt (l := l) (D := D) (tc := tc) hl (nI i) hf hA hn
  rw [nI_toInt (by omega), if_neg (by omega)] at this
  exact this
theorem follow_lt {r : RT} {k : KT} (h : dlt (kH k) (FP.i2d r.2.1)) : sp_follow r k = sp_rise r k := if_pos h
theorem follow_gt {r : RT} {k : KT} (h : ¬ dlt (kH k) (FP.i2d r.2.1)) (g : dgt (kH k) (FP.i2d r.2.1)) : sp_follow r k = (sp_fallH r (kH k), k.2) := (if_neg h).trans (if_pos g)
theorem follow_eq {r : RT} {k : KT} (h : ¬ dlt (kH k) (FP.i2d r.2.1)) (g : ¬ dgt (kH k) (FP.i2d r.2.1)) : sp_follow r k = (kH k, kP k, kO k, kL k, kA k, kE k + 1, kC k, kF k, kS k, kW k) := (if_neg h).trans (if_neg g)
/-- the works when j shelves have had theirs -/
def sp_workj (heat : UInt64) (w : Nat → UInt64) (j : Nat) : Nat → UInt64 := fun i => if i < j then sp_addw (sp_hot i heat) (w i) else w i
theorem workj_0 (heat : UInt64) (w : Nat → UInt64) : sp_workj heat w 0 = w := by funext i; simp [sp_workj]
theorem workj_at (heat : UInt64) (w : Nat → UInt64) (j : Nat) : sp_workj heat w j j = w j := by simp [sp_workj]
theorem workj_s (heat : UInt64) (w : Nat → UInt64) (j : Nat) : vf_upd (sp_workj heat w j) j (sp_addw (sp_hot j heat) (w j)) = sp_workj heat w (j + 1) := by
  funext i
  simp only [vf_upd, sp_workj]
  by_cases h : i = j
  · subst h; simp
  · rw [if_neg h]
    by_cases g : i < j
    · rw [if_pos g, if_pos (by omega)]
    · rw [if_neg g, if_neg (by omega)]
theorem workj_n (heat : UInt64) (w : Nat → UInt64) (j : Nat) (h : ¬ dgt (sp_hot j heat) 4649368480934526976) : sp_workj heat w (j + 1) = sp_workj heat w j := by
  funext i
  simp only [sp_workj]
  by_cases e : i = j
  · subst e; simp [sp_addw, h]
  · by_cases g : i < j
    · rw [if_pos g, if_pos (by omega)]
    · rw [if_neg g, if_neg (by omega)]

set_option maxHeartbeats 4000000 in
set_option maxRecDepth 100000 in
theorem m_X2_rise {l : Launch} {D : va_G} {tc : Nat → ClassId} (hl : l.stackTraces = false) {h : HM} {a pr wk : Nat} {hb : UInt64} {dmp : Int32} {k : KT} (hf : h a = some (kCell pr wk hb dmp k)) (hH : Ht (kH k)) (hP : FP.Core.FFin (kP k)) {r : Nat} {R : RT} (hr : h r = some (rCell R)) (hr1 : 10 ≤ R.1.toInt ∧ R.1.toInt ≤ 200) (hr2 : 100 ≤ R.2.1.toInt ∧ R.2.1.toInt ≤ 1400) :
    CT l D tc yX2_rise cX2_rise 6 none rm_X2_rise [.ref a, .ref r] h (rV (fun h' => Up h a (kCell pr wk hb dmp (sp_rise R k)) h')) := by
  refine CT.start [some (.ref a), some (.ref r), none, none, none, none] (by decide) hl rfl rfl (fun K C M => ?_)
  obtain ⟨rfl, rfl, rfl, -⟩ := id M
  have C : CX K RX2 cX2_rise 6 rm_X2_rise := C
  first | refine w_aload_n C dX2_rise_0 (by rfl) ?_ | refine w_aload_nN C dX2_rise_0 (by rfl) ?_
  refine cl_X2_117 C (m_X2_gives hl hf hH hP) hf (by rfl) (by rfl) ⟨by decide, by decide⟩ (by rfl) dX2_rise_1 (fun z1 h1 p1 => ?_)
  obtain ⟨rfl, rfl⟩ := p1
  have hg := (gives_n hH hP).2.2 (kO k)
  refine w_dstore_2 C dX2_rise_4 (by first | trivial | rfl) ?_
  refine w_dload_n C dX2_rise_5 (by rfl) ?_
  refine w_dconst1 C dX2_rise_6 ?_
  refine w_dcmp C dX2_rise_7 ?_
  refine w_if_ge (tgt := 27) C dX2_rise_8 (by rfl) (fun c_8 => ?_) (fun c_8 => ?_)
  · try simp only [cg_ge, cg_gt, cl_gt, cl_le, cl_eq, cl_lt, cl_ge, bi_eq0, bi_ne0, bI_eq0, Decidable.not_not, Bool.not_eq_false] at c_8
    first | refine w_aload_n C dX2_rise_27 (by rfl) ?_ | refine w_aload_nN C dX2_rise_27 (by rfl) ?_
    refine gf_X2_11 C hf dX2_rise_28 ?_
    refine w_dload_n C dX2_rise_31 (by rfl) ?_
    first | refine w_aload_n C dX2_rise_32 (by rfl) ?_ | refine w_aload_nN C dX2_rise_32 (by rfl) ?_
    refine gf_X2_121 C hr dX2_rise_33 ?_
    refine w_i2d C dX2_rise_36 ?_
    refine w_dcmp C dX2_rise_37 ?_
    refine w_if_ge (tgt := 45) C dX2_rise_38 (by rfl) (fun c_38 => ?_) (fun c_38 => ?_)
    · try simp only [cg_ge, cg_gt, cl_gt, cl_le, cl_eq, cl_lt, cl_ge, bi_eq0, bi_ne0, bI_eq0, Decidable.not_not, Bool.not_eq_false] at c_38
      have hn9 := nn_of (dadd_n hH.1 (df_i2d R.1))
      first | refine w_aload_n C dX2_rise_45 (by rfl) ?_ | refine w_aload_nN C dX2_rise_45 (by rfl) ?_
      refine gf_X2_121 C hr dX2_rise_46 ?_
      refine w_i2d C dX2_rise_49 ?_
      refine w_dadd C dX2_rise_50 hn9 ?_
      refine w_dstore_4 C dX2_rise_51 (by first | trivial | rfl) ?_
      first | refine w_aload_n C dX2_rise_53 (by rfl) ?_ | refine w_aload_nN C dX2_rise_53 (by rfl) ?_
      refine w_dload C dX2_rise_54 (by rfl) ?_
      first | refine w_aload_n C dX2_rise_56 (by rfl) ?_ | refine w_aload_nN C dX2_rise_56 (by rfl) ?_
      refine gf_X2_100 C hr dX2_rise_57 ?_
      refine w_i2d C dX2_rise_60 ?_
      refine w_dcmp C dX2_rise_61 ?_
      refine w_if_le (tgt := 73) C dX2_rise_62 (by rfl) (fun c_62 => ?_) (fun c_62 => ?_)
      · try simp only [cg_ge, cg_gt, cl_gt, cl_le, cl_eq, cl_lt, cl_ge, bi_eq0, bi_ne0, bI_eq0, Decidable.not_not, Bool.not_eq_false] at c_62
        refine w_dload C dX2_rise_73 (by rfl) ?_
        refine pf_X2_11 C hf dX2_rise_75 (fun h2 u2 => ?_)
        have hr := u2.oth hr hf (by intro q; simp at q)
        have hf := u2.self
        refine w_vret C M dX2_rise_78 ⟨by decide, by decide⟩ ⟨rfl, ?_⟩
        exact u2.to (by simp [sp_rise, bi, dlt, dgt, deq, dge, dle, kH, kP, kO, kL, kA, kE, kC, kF, kS, kW, c_8, c_38, c_62])
      · try simp only [cg_ge, cg_gt, cl_gt, cl_le, cl_eq, cl_lt, cl_ge, bi_eq0, bi_ne0, bI_eq0, Decidable.not_not, Bool.not_eq_false] at c_62
        first | refine w_aload_n C dX2_rise_65 (by rfl) ?_ | refine w_aload_nN C dX2_rise_65 (by rfl) ?_
        refine gf_X2_100 C hr dX2_rise_66 ?_
        refine w_i2d C dX2_rise_69 ?_
        refine w_goto (tgt := 75) C dX2_rise_70 (by rfl) ?_
        refine pf_X2_11 C hf dX2_rise_75 (fun h3 u3 => ?_)
        have hr := u3.oth hr hf (by intro q; simp at q)
        have hf := u3.self
        refine w_vret C M dX2_rise_78 ⟨by decide, by decide⟩ ⟨rfl, ?_⟩
        exact u3.to (by simp [sp_rise, bi, dlt, dgt, deq, dge, dle, kH, kP, kO, kL, kA, kE, kC, kF, kS, kW, c_8, c_38, c_62])
    · try simp only [cg_ge, cg_gt, cl_gt, cl_le, cl_eq, cl_lt, cl_ge, bi_eq0, bi_ne0, bI_eq0, Decidable.not_not, Bool.not_eq_false] at c_38
      have hn9 := nn_of (dadd_n hH.1 (inc_lt hr1 hg c_8 c_38))
      refine w_dload_n C dX2_rise_41 (by rfl) ?_
      refine w_goto (tgt := 50) C dX2_rise_42 (by rfl) ?_
      refine w_dadd C dX2_rise_50 hn9 ?_
      refine w_dstore_4 C dX2_rise_51 (by first | trivial | rfl) ?_
      first | refine w_aload_n C dX2_rise_53 (by rfl) ?_ | refine w_aload_nN C dX2_rise_53 (by rfl) ?_
      refine w_dload C dX2_rise_54 (by rfl) ?_
      first | refine w_aload_n C dX2_rise_56 (by rfl) ?_ | refine w_aload_nN C dX2_rise_56 (by rfl) ?_
      refine gf_X2_100 C hr dX2_rise_57 ?_
      refine w_i2d C dX2_rise_60 ?_
      refine w_dcmp C dX2_rise_61 ?_
      refine w_if_le (tgt := 73) C dX2_rise_62 (by rfl) (fun c_62 => ?_) (fun c_62 => ?_)
      · try simp only [cg_ge, cg_gt, cl_gt, cl_le, cl_eq, cl_lt, cl_ge, bi_eq0, bi_ne0, bI_eq0, Decidable.not_not, Bool.not_eq_false] at c_62
        refine w_dload C dX2_rise_73 (by rfl) ?_
        refine pf_X2_11 C hf dX2_rise_75 (fun h4 u4 => ?_)
        have hr := u4.oth hr hf (by intro q; simp at q)
        have hf := u4.self
        refine w_vret C M dX2_rise_78 ⟨by decide, by decide⟩ ⟨rfl, ?_⟩
        exact u4.to (by simp [sp_rise, bi, dlt, dgt, deq, dge, dle, kH, kP, kO, kL, kA, kE, kC, kF, kS, kW, c_8, c_38, c_62])
      · try simp only [cg_ge, cg_gt, cl_gt, cl_le, cl_eq, cl_lt, cl_ge, bi_eq0, bi_ne0, bI_eq0, Decidable.not_not, Bool.not_eq_false] at c_62
        first | refine w_aload_n C dX2_rise_65 (by rfl) ?_ | refine w_aload_nN C dX2_rise_65 (by rfl) ?_
        refine gf_X2_100 C hr dX2_rise_66 ?_
        refine w_i2d C dX2_rise_69 ?_
        refine w_goto (tgt := 75) C dX2_rise_70 (by rfl) ?_
        refine pf_X2_11 C hf dX2_rise_75 (fun h5 u5 => ?_)
        have hr := u5.oth hr hf (by intro q; simp at q)
        have hf := u5.self
        refine w_vret C M dX2_rise_78 ⟨by decide, by decide⟩ ⟨rfl, ?_⟩
        exact u5.to (by simp [sp_rise, bi, dlt, dgt, deq, dge, dle, kH, kP, kO, kL, kA, kE, kC, kF, kS, kW, c_8, c_38, c_62])
  · try simp only [cg_ge, cg_gt, cl_gt, cl_le, cl_eq, cl_lt, cl_ge, bi_eq0, bi_ne0, bI_eq0, Decidable.not_not, Bool.not_eq_false] at c_8
    first | refine w_aload_n C dX2_rise_11 (by rfl) ?_ | refine w_aload_nN C dX2_rise_11 (by rfl) ?_
    refine w_iconst (v := 0) C dX2_rise_12 (by rfl) ?_
    refine pf_X2_32 C hf (by first | exact Or.inl rfl | exact Or.inr rfl | assumption | exact bI_01 _ | exact bi_01 _) dX2_rise_13 (fun h6 u6 => ?_)
    have hr := u6.oth hr hf (by intro q; simp at q)
    have hf := u6.self
    first | refine w_aload_n C dX2_rise_16 (by rfl) ?_ | refine w_aload_nN C dX2_rise_16 (by rfl) ?_
    refine w_dup C dX2_rise_17 (by rfl) ?_
    refine gf_X2_47 C hf dX2_rise_18 ?_
    refine w_iconst (v := 1) C dX2_rise_21 (by rfl) ?_
    refine w_iadd C dX2_rise_22 ?_
    refine pf_X2_47 C hf dX2_rise_23 (fun h7 u7 => ?_)
    have hr := u7.oth hr hf (by intro q; simp at q)
    have hf := u7.self
    refine w_vret C M dX2_rise_26 ⟨by decide, by decide⟩ ⟨rfl, ?_⟩
    exact (u6.tr u7).to (by simp [sp_rise, bi, dlt, dgt, deq, dge, dle, kH, kP, kO, kL, kA, kE, kC, kF, kS, kW, c_8])

set_option maxHeartbeats 4000000 in
set_option maxRecDepth 100000 in
theorem m_X2_fall {l : Launch} {D : va_G} {tc : Nat → ClassId} (hl : l.stackTraces = false) {h : HM} {a pr wk : Nat} {hb : UInt64} {dmp : Int32} {k : KT} (hf : h a = some (kCell pr wk hb dmp k)) (hH : Ht (kH k)) (hP : FP.Core.FFin (kP k)) {r : Nat} {R : RT} (hr : h r = some (rCell R)) (hr1 : 10 ≤ R.1.toInt ∧ R.1.toInt ≤ 200) (hr2 : 100 ≤ R.2.1.toInt ∧ R.2.1.toInt ≤ 1400) (hgt : dgt (kH k) (FP.i2d R.2.1)) :
    CT l D tc yX2_fall cX2_fall 6 none rm_X2_fall [.ref a, .ref r] h (rV (fun h' => Up h a (kCell pr wk hb dmp (sp_fallH R (kH k), k.2)) h')) := by
  refine CT.start [some (.ref a), some (.ref r), none, none, none, none] (by decide) hl rfl rfl (fun K C M => ?_)
  obtain ⟨rfl, rfl, rfl, -⟩ := id M
  have C : CX K RX2 cX2_fall 6 rm_X2_fall := C
  first | refine w_aload_n C dX2_fall_0 (by rfl) ?_ | refine w_aload_nN C dX2_fall_0 (by rfl) ?_
  refine gf_X2_11 C hf dX2_fall_1 ?_
  refine lc_X2_9 C dX2_fall_4 ?_
  refine w_dsub C dX2_fall_7 (nn_of hH.sub20.1.n) ?_
  refine lc_X2_64 C dX2_fall_8 ?_
  refine w_ddiv C dX2_fall_11 (nn_of hH.part8.1.n) ?_
  refine w_dstore_2 C dX2_fall_12 (by first | trivial | rfl) ?_
  first | refine w_aload_n C dX2_fall_13 (by rfl) ?_ | refine w_aload_nN C dX2_fall_13 (by rfl) ?_
  refine gf_X2_11 C hf dX2_fall_14 ?_
  refine w_dload_n C dX2_fall_17 (by rfl) ?_
  first | refine w_aload_n C dX2_fall_18 (by rfl) ?_ | refine w_aload_nN C dX2_fall_18 (by rfl) ?_
  refine gf_X2_121 C hr dX2_fall_19 ?_
  refine w_i2d C dX2_fall_22 ?_
  refine w_dcmp C dX2_fall_23 ?_
  refine w_if_ge (tgt := 31) C dX2_fall_24 (by rfl) (fun c_24 => ?_) (fun c_24 => ?_)
  · try simp only [cg_ge, cg_gt, cl_gt, cl_le, cl_eq, cl_lt, cl_ge, bi_eq0, bi_ne0, bI_eq0, Decidable.not_not, Bool.not_eq_false] at c_24
    have hn9 := nn_of (dsub_n hH.1 (df_i2d R.1))
    first | refine w_aload_n C dX2_fall_31 (by rfl) ?_ | refine w_aload_nN C dX2_fall_31 (by rfl) ?_
    refine gf_X2_121 C hr dX2_fall_32 ?_
    refine w_i2d C dX2_fall_35 ?_
    refine w_dsub C dX2_fall_36 hn9 ?_
    refine w_dstore_4 C dX2_fall_37 (by first | trivial | rfl) ?_
    first | refine w_aload_n C dX2_fall_39 (by rfl) ?_ | refine w_aload_nN C dX2_fall_39 (by rfl) ?_
    refine w_dload C dX2_fall_40 (by rfl) ?_
    first | refine w_aload_n C dX2_fall_42 (by rfl) ?_ | refine w_aload_nN C dX2_fall_42 (by rfl) ?_
    refine gf_X2_100 C hr dX2_fall_43 ?_
    refine w_i2d C dX2_fall_46 ?_
    refine w_dcmp C dX2_fall_47 ?_
    refine w_if_ge (tgt := 59) C dX2_fall_48 (by rfl) (fun c_48 => ?_) (fun c_48 => ?_)
    · try simp only [cg_ge, cg_gt, cl_gt, cl_le, cl_eq, cl_lt, cl_ge, bi_eq0, bi_ne0, bI_eq0, Decidable.not_not, Bool.not_eq_false] at c_48
      refine w_dload C dX2_fall_59 (by rfl) ?_
      refine pf_X2_11 C hf dX2_fall_61 (fun h1 u1 => ?_)
      have hr := u1.oth hr hf (by intro q; simp at q)
      have hf := u1.self
      refine w_vret C M dX2_fall_64 ⟨by decide, by decide⟩ ⟨rfl, ?_⟩
      exact u1.to (by simp [sp_fallH, sp_loss, dlt, dgt, deq, dge, dle, kH, kP, kO, kL, kA, kE, kC, kF, kS, kW, c_24, c_48])
    · try simp only [cg_ge, cg_gt, cl_gt, cl_le, cl_eq, cl_lt, cl_ge, bi_eq0, bi_ne0, bI_eq0, Decidable.not_not, Bool.not_eq_false] at c_48
      first | refine w_aload_n C dX2_fall_51 (by rfl) ?_ | refine w_aload_nN C dX2_fall_51 (by rfl) ?_
      refine gf_X2_100 C hr dX2_fall_52 ?_
      refine w_i2d C dX2_fall_55 ?_
      refine w_goto (tgt := 61) C dX2_fall_56 (by rfl) ?_
      refine pf_X2_11 C hf dX2_fall_61 (fun h2 u2 => ?_)
      have hr := u2.oth hr hf (by intro q; simp at q)
      have hf := u2.self
      refine w_vret C M dX2_fall_64 ⟨by decide, by decide⟩ ⟨rfl, ?_⟩
      exact u2.to (by simp [sp_fallH, sp_loss, dlt, dgt, deq, dge, dle, kH, kP, kO, kL, kA, kE, kC, kF, kS, kW, c_24, c_48])
  · try simp only [cg_ge, cg_gt, cl_gt, cl_le, cl_eq, cl_lt, cl_ge, bi_eq0, bi_ne0, bI_eq0, Decidable.not_not, Bool.not_eq_false] at c_24
    have hn9 := nn_of (dsub_n hH.1 hH.part8.1)
    refine w_dload_n C dX2_fall_27 (by rfl) ?_
    refine w_goto (tgt := 36) C dX2_fall_28 (by rfl) ?_
    refine w_dsub C dX2_fall_36 hn9 ?_
    refine w_dstore_4 C dX2_fall_37 (by first | trivial | rfl) ?_
    first | refine w_aload_n C dX2_fall_39 (by rfl) ?_ | refine w_aload_nN C dX2_fall_39 (by rfl) ?_
    refine w_dload C dX2_fall_40 (by rfl) ?_
    first | refine w_aload_n C dX2_fall_42 (by rfl) ?_ | refine w_aload_nN C dX2_fall_42 (by rfl) ?_
    refine gf_X2_100 C hr dX2_fall_43 ?_
    refine w_i2d C dX2_fall_46 ?_
    refine w_dcmp C dX2_fall_47 ?_
    refine w_if_ge (tgt := 59) C dX2_fall_48 (by rfl) (fun c_48 => ?_) (fun c_48 => ?_)
    · try simp only [cg_ge, cg_gt, cl_gt, cl_le, cl_eq, cl_lt, cl_ge, bi_eq0, bi_ne0, bI_eq0, Decidable.not_not, Bool.not_eq_false] at c_48
      refine w_dload C dX2_fall_59 (by rfl) ?_
      refine pf_X2_11 C hf dX2_fall_61 (fun h3 u3 => ?_)
      have hr := u3.oth hr hf (by intro q; simp at q)
      have hf := u3.self
      refine w_vret C M dX2_fall_64 ⟨by decide, by decide⟩ ⟨rfl, ?_⟩
      exact u3.to (by simp [sp_fallH, sp_loss, dlt, dgt, deq, dge, dle, kH, kP, kO, kL, kA, kE, kC, kF, kS, kW, c_24, c_48])
    · try simp only [cg_ge, cg_gt, cl_gt, cl_le, cl_eq, cl_lt, cl_ge, bi_eq0, bi_ne0, bI_eq0, Decidable.not_not, Bool.not_eq_false] at c_48
      first | refine w_aload_n C dX2_fall_51 (by rfl) ?_ | refine w_aload_nN C dX2_fall_51 (by rfl) ?_
      refine gf_X2_100 C hr dX2_fall_52 ?_
      refine w_i2d C dX2_fall_55 ?_
      refine w_goto (tgt := 61) C dX2_fall_56 (by rfl) ?_
      refine pf_X2_11 C hf dX2_fall_61 (fun h4 u4 => ?_)
      have hr := u4.oth hr hf (by intro q; simp at q)
      have hf := u4.self
      refine w_vret C M dX2_fall_64 ⟨by decide, by decide⟩ ⟨rfl, ?_⟩
      exact u4.to (by simp [sp_fallH, sp_loss, dlt, dgt, deq, dge, dle, kH, kP, kO, kL, kA, kE, kC, kF, kS, kW, c_24, c_48])

set_option maxHeartbeats 4000000 in
set_option maxRecDepth 100000 in
theorem m_X2_follow {l : Launch} {D : va_G} {tc : Nat → ClassId} (hl : l.stackTraces = false) {h : HM} {a pr wk : Nat} {hb : UInt64} {dmp : Int32} {k : KT} (hf : h a = some (kCell pr wk hb dmp k)) (hH : Ht (kH k)) (hP : FP.Core.FFin (kP k)) {r : Nat} {R : RT} (hr : h r = some (rCell R)) (hr1 : 10 ≤ R.1.toInt ∧ R.1.toInt ≤ 200) (hr2 : 100 ≤ R.2.1.toInt ∧ R.2.1.toInt ≤ 1400) :
    CT l D tc yX2_follow cX2_follow 2 none rm_X2_follow [.ref a, .ref r] h (rV (fun h' => Up h a (kCell pr wk hb dmp (sp_follow R k)) h')) := by
  refine CT.start [some (.ref a), some (.ref r)] (by decide) hl rfl rfl (fun K C M => ?_)
  obtain ⟨rfl, rfl, rfl, -⟩ := id M
  have C : CX K RX2 cX2_follow 2 rm_X2_follow := C
  first | refine w_aload_n C dX2_follow_0 (by rfl) ?_ | refine w_aload_nN C dX2_follow_0 (by rfl) ?_
  refine gf_X2_11 C hf dX2_follow_1 ?_
  first | refine w_aload_n C dX2_follow_4 (by rfl) ?_ | refine w_aload_nN C dX2_follow_4 (by rfl) ?_
  refine gf_X2_100 C hr dX2_follow_5 ?_
  refine w_i2d C dX2_follow_8 ?_
  refine w_dcmp C dX2_follow_9 ?_
  refine w_if_ge (tgt := 21) C dX2_follow_10 (by rfl) (fun c_10 => ?_) (fun c_10 => ?_)
  · try simp only [cg_ge, cg_gt, cl_gt, cl_le, cl_eq, cl_lt, cl_ge, bi_eq0, bi_ne0, bI_eq0, Decidable.not_not, Bool.not_eq_false] at c_10
    first | refine w_aload_n C dX2_follow_21 (by rfl) ?_ | refine w_aload_nN C dX2_follow_21 (by rfl) ?_
    refine gf_X2_11 C hf dX2_follow_22 ?_
    first | refine w_aload_n C dX2_follow_25 (by rfl) ?_ | refine w_aload_nN C dX2_follow_25 (by rfl) ?_
    refine gf_X2_100 C hr dX2_follow_26 ?_
    refine w_i2d C dX2_follow_29 ?_
    refine w_dcmp C dX2_follow_30 ?_
    refine w_if_le (tgt := 42) C dX2_follow_31 (by rfl) (fun c_31 => ?_) (fun c_31 => ?_)
    · try simp only [cg_ge, cg_gt, cl_gt, cl_le, cl_eq, cl_lt, cl_ge, bi_eq0, bi_ne0, bI_eq0, Decidable.not_not, Bool.not_eq_false] at c_31
      first | refine w_aload_n C dX2_follow_42 (by rfl) ?_ | refine w_aload_nN C dX2_follow_42 (by rfl) ?_
      refine w_dup C dX2_follow_43 (by rfl) ?_
      refine gf_X2_38 C hf dX2_follow_44 ?_
      refine w_iconst (v := 1) C dX2_follow_47 (by rfl) ?_
      refine w_iadd C dX2_follow_48 ?_
      refine pf_X2_38 C hf dX2_follow_49 (fun h1 u1 => ?_)
      have hr := u1.oth hr hf (by intro q; simp at q)
      have hf := u1.self
      refine w_vret C M dX2_follow_52 ⟨by decide, by decide⟩ ⟨rfl, ?_⟩
      first | exact u1.to (by rw [follow_eq c_10 c_31]) | exact u1.to (by rw [follow_gt c_10 c_31]) | exact u1.to (by rw [follow_lt c_10])
    · try simp only [cg_ge, cg_gt, cl_gt, cl_le, cl_eq, cl_lt, cl_ge, bi_eq0, bi_ne0, bI_eq0, Decidable.not_not, Bool.not_eq_false] at c_31
      first | refine w_aload_n C dX2_follow_34 (by rfl) ?_ | refine w_aload_nN C dX2_follow_34 (by rfl) ?_
      first | refine w_aload_n C dX2_follow_35 (by rfl) ?_ | refine w_aload_nN C dX2_follow_35 (by rfl) ?_
      refine cl_X2_114 C (m_X2_fall hl hf hH hP hr hr1 hr2 c_31) hf (by rfl) (by rfl) ⟨by decide, by decide⟩ (by rfl) dX2_follow_36 (fun h2 p2 => ?_)
      have hr := p2.oth hr hf (by intro q; simp at q)
      have hf := p2.self
      refine w_goto (tgt := 52) C dX2_follow_39 (by rfl) ?_
      refine w_vret C M dX2_follow_52 ⟨by decide, by decide⟩ ⟨rfl, ?_⟩
      first | exact p2.to (by rw [follow_eq c_10 c_31]) | exact p2.to (by rw [follow_gt c_10 c_31]) | exact p2.to (by rw [follow_lt c_10])
  · try simp only [cg_ge, cg_gt, cl_gt, cl_le, cl_eq, cl_lt, cl_ge, bi_eq0, bi_ne0, bI_eq0, Decidable.not_not, Bool.not_eq_false] at c_10
    first | refine w_aload_n C dX2_follow_13 (by rfl) ?_ | refine w_aload_nN C dX2_follow_13 (by rfl) ?_
    first | refine w_aload_n C dX2_follow_14 (by rfl) ?_ | refine w_aload_nN C dX2_follow_14 (by rfl) ?_
    refine cl_X2_111 C (m_X2_rise hl hf hH hP hr hr1 hr2) hf (by rfl) (by rfl) ⟨by decide, by decide⟩ (by rfl) dX2_follow_15 (fun h3 p3 => ?_)
    have hr := p3.oth hr hf (by intro q; simp at q)
    have hf := p3.self
    refine w_goto (tgt := 52) C dX2_follow_18 (by rfl) ?_
    refine w_vret C M dX2_follow_52 ⟨by decide, by decide⟩ ⟨rfl, ?_⟩
    first | exact p3.to (by rw [follow_eq c_10 c_31]) | exact p3.to (by rw [follow_gt c_10 c_31]) | exact p3.to (by rw [follow_lt c_10])

set_option maxHeartbeats 4000000 in
set_option maxRecDepth 100000 in
theorem lp_X2_addWork {K : KC} (C : CX K RX2 cX2_addWork 4 rm_X2_addWork) (hl : (Kl K).stackTraces = false) {h0 : HM} {a pr wk : Nat} {hb : UInt64} {dmp : Int32} {k : KT} (hf : h0 a = some (kCell pr wk hb dmp k)) (hH : Ht (kH k)) (hw : h0 wk = some (wCell (Kt K) (kW k))) (hW : ∀ i, i < 3 → okW (kW k i))
    (kk : ∀ h', Up h0 wk (wCell (Kt K) (sp_workj (kH k) (kW k) 3)) h' → WW K (0, 0) 52 [some (.ref a), some (.int (nI 3)), none, none] [] h')
    : ∀ j : Nat, j ≤ 3 → ∀ {h : HM},  (u : Up h0 wk (wCell (Kt K) (sp_workj (kH k) (kW k) j)) h) → WW K (0, 0) 2 [some (.ref a), some (.int (nI j)), none, none] [] h := by
  refine up_ind ?_
  intro j hj ih h u
  have hf := u.oth hf hw (by intro q; simp at q)
  have hw1 := u.self
  refine w_iload_n C dX2_addWork_2 (by rfl) ?_
  first | refine w_aload_n C dX2_addWork_3 (by rfl) ?_ | refine w_aload_nN C dX2_addWork_3 (by rfl) ?_
  refine gf_X2_50 C hf dX2_addWork_4 ?_
  refine w_alen C 2 hw1 (by rfl) dX2_addWork_7 ?_
  refine w_icmp_ge (tgt := 52) C dX2_addWork_8 (by rfl) (fun c_8 => ?_) (fun c_8 => ?_)
  · have e3 : ¬ j < 3 := fun q => nI_ge q (show 3 < 2 ^ 31 by decide) c_8
    obtain rfl : j = 3 := by omega
    exact kk _ u
  · have hj3 : j < 3 := Nat.not_le.mp (fun q => c_8 (nI_le q (by omega)))
    obtain ⟨x1, x2⟩ := hot_ok hH j
    refine w_iload_n C dX2_addWork_11 (by rfl) ?_
    first | refine w_aload_n C dX2_addWork_12 (by rfl) ?_ | refine w_aload_nN C dX2_addWork_12 (by rfl) ?_
    refine gf_X2_11 C hf dX2_addWork_13 ?_
    refine cl_X2_126 C (m_X2_hotAt hl hj3 hH) (by rfl) (by rfl) ⟨by decide, by decide⟩ (by rfl) dX2_addWork_16 (fun z1 h1 p1 => ?_)
    obtain ⟨rfl, rfl⟩ := p1
    refine w_dstore_2 C dX2_addWork_19 (by first | trivial | rfl) ?_
    refine w_dload_n C dX2_addWork_20 (by rfl) ?_
    refine lc_X2_130 C dX2_addWork_21 ?_
    refine w_dcmp C dX2_addWork_24 ?_
    refine w_if_le (tgt := 46) C dX2_addWork_25 (by rfl) (fun c_25 => ?_) (fun c_25 => ?_)
    · try simp only [cg_ge, cg_gt, cl_gt, cl_le, cl_eq, cl_lt, cl_ge, bi_eq0, bi_ne0, bI_eq0, Decidable.not_not, Bool.not_eq_false] at c_25
      have u : Up h0 wk (wCell (Kt K) (sp_workj (kH k) (kW k) (j + 1))) _ := u.to (by rw [workj_n _ _ _ c_25])
      refine w_iinc_1 (v := _ + (1)) C dX2_addWork_46 (by rfl) (by first | trivial | rfl) ?_
      refine w_goto (tgt := 2) C dX2_addWork_49 (by rfl) ?_
      rw [nI_1]
      exact w_sub (ih hj3 u) (by repeat' first | exact trivial | rfl | constructor)
    · try simp only [cg_ge, cg_gt, cl_gt, cl_le, cl_eq, cl_lt, cl_ge, bi_eq0, bi_ne0, bI_eq0, Decidable.not_not, Bool.not_eq_false] at c_25
      first | refine w_aload_n C dX2_addWork_28 (by rfl) ?_ | refine w_aload_nN C dX2_addWork_28 (by rfl) ?_
      refine gf_X2_50 C hf dX2_addWork_29 ?_
      refine w_iload_n C dX2_addWork_32 (by rfl) ?_
      first | refine w_dup2 C dX2_addWork_33 (by rfl) (by rfl) ?_ | refine w_dup2d C dX2_addWork_33 (by rfl) ?_
      refine w_daldn C hw1 hj3 (by decide) dX2_addWork_34 ?_
      rw [workj_at]
      obtain ⟨y1, y2⟩ := hot700 x1 x2 c_25
      have y3 := okW.div y1 (okW.of y1 y2)
      refine w_dload_n C dX2_addWork_35 (by rfl) ?_
      refine lc_X2_130 C dX2_addWork_36 ?_
      refine w_dsub C dX2_addWork_39 (nn_of y1.n) ?_
      refine lc_X2_132 C dX2_addWork_40 ?_
      refine w_ddiv C dX2_addWork_43 (nn_of y3.n) ?_
      refine w_dadd C dX2_addWork_44 (nn_of ((hW j hj3).add y3).n) ?_
      refine w_dastn C hw1 hj3 (by decide) dX2_addWork_45 (fun h9 u9 => ?_)
      have u : Up h0 wk (wCell (Kt K) (sp_workj (kH k) (kW k) (j + 1))) h9 := (u.tr u9).to (by rw [← workj_s, show sp_addw (sp_hot j (kH k)) (kW k j) = FP.dadd (kW k j) (FP.ddiv (FP.dsub (sp_hot j (kH k)) 4649368480934526976) 4629700416936869888) from if_pos c_25])
      refine w_iinc_1 (v := _ + (1)) C dX2_addWork_46 (by rfl) (by first | trivial | rfl) ?_
      refine w_goto (tgt := 2) C dX2_addWork_49 (by rfl) ?_
      rw [nI_1]
      exact w_sub (ih hj3 u) (by repeat' first | exact trivial | rfl | constructor)

set_option maxHeartbeats 4000000 in
set_option maxRecDepth 100000 in
theorem m_X2_addWork {l : Launch} {D : va_G} {tc : Nat → ClassId} (hl : l.stackTraces = false) {h : HM} {a pr wk : Nat} {hb : UInt64} {dmp : Int32} {k : KT} (hf : h a = some (kCell pr wk hb dmp k)) (hH : Ht (kH k)) (hw : h wk = some (wCell tc (kW k))) (hW : ∀ i, i < 3 → okW (kW k i)) :
    CT l D tc yX2_addWork cX2_addWork 4 none rm_X2_addWork [.ref a] h (rV (fun h' => Up h wk (wCell tc (sp_work (kH k) (kW k))) h')) := by
  refine CT.start [some (.ref a), none, none, none] (by decide) hl rfl rfl (fun K C M => ?_)
  obtain ⟨rfl, rfl, rfl, -⟩ := id M
  have C : CX K RX2 cX2_addWork 4 rm_X2_addWork := C
  refine w_iconst (v := 0) C dX2_addWork_0 (by rfl) ?_
  refine w_istore_1 C dX2_addWork_1 (by first | trivial | rfl) ?_
  refine lp_X2_addWork C hl hf hH hw hW (fun h9 u9 => ?_) 0 (by decide) (by rw [workj_0]; exact (hu_id hw).symm)
  refine w_vret C M dX2_addWork_52 ⟨by decide, by decide⟩ ⟨rfl, ?_⟩
  exact u9
