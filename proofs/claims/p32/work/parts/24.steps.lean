/-! A WHOLE STEP -/
theorem pass_nl (nr : Nat) (Rp : Nat → RT) (t : UInt64) (m at' : Nat) (held : Int32) : sp_pass nr Rp t m false at' held = (false, at', held) := by
  cases m
  · rfl
  · simp [sp_pass]
theorem pass_go {nr : Nat} {Rp : Nat → RT} {t : UInt64} {m at' : Nat} {held : Int32} (h1 : deq t (FP.i2d (Rp at').2.1)) (h2 : held = (Rp at').2.2) : sp_pass nr Rp t (m + 1) true at' held = sp_pass nr Rp t m (decide (at' + 1 < nr)) (at' + 1) 0 := if_pos ⟨rfl, fun _ => ⟨h1, h2⟩⟩
theorem pass_no {nr : Nat} {Rp : Nat → RT} {t : UInt64} {m at' : Nat} {held : Int32} (h : at' < nr) (h1 : ¬ (deq t (FP.i2d (Rp at').2.1) ∧ held = (Rp at').2.2)) : sp_pass nr Rp t (m + 1) true at' held = (true, at', held) := if_neg (fun q => h1 (q.2 h))
theorem pass_ok (nr : Nat) (Rp : Nat → RT) (t : UInt64) (hn : nr ≤ 5) : ∀ (m : Nat) (lit : Bool) (at' : Nat) (held : Int32), (lit = true → at' < nr) → at' ≤ 5 → ((sp_pass nr Rp t m lit at' held).1 = true → (sp_pass nr Rp t m lit at' held).2.1 < nr) ∧ (sp_pass nr Rp t m lit at' held).2.1 ≤ 5 := by
  intro m
  induction m with
  | zero => intro lit at' held h1 h2; exact ⟨h1, h2⟩
  | succ m ih =>
    intro lit at' held h1 h2
    unfold sp_pass
    split
    · rename_i q
      have := h1 q.1
      exact ih _ _ _ (fun w => of_decide_eq_true w) (by omega)
    · exact ⟨h1, h2⟩
theorem follow_ok {r : RT} {k : KT} (hH : Ht (kH k)) (hP : FP.Core.FFin (kP k)) (h1 : 10 ≤ r.1.toInt ∧ r.1.toInt ≤ 200) (h2 : 100 ≤ r.2.1.toInt ∧ r.2.1.toInt ≤ 1400) : Ht (kH (sp_follow r k)) ∧ kP (sp_follow r k) = kP k ∧ kW (sp_follow r k) = kW k ∧ kO (sp_follow r k) = kO k ∧ kA (sp_follow r k) = kA k ∧ kC (sp_follow r k) = kC k ∧ kF (sp_follow r k) = kF k ∧ (kL (sp_follow r k) = true → kL k = true) := by
  by_cases c : dlt (kH k) (FP.i2d r.2.1)
  · rw [follow_lt c]
    unfold sp_rise
    split
    · exact ⟨hH, rfl, rfl, rfl, rfl, rfl, rfl, fun q => Bool.noConfusion q⟩
    · rename_i g
      exact ⟨(rise_ok hH h1 h2 ((gives_n hH hP).2.2 _) g).2, rfl, rfl, rfl, rfl, rfl, rfl, id⟩
  · by_cases g : dgt (kH k) (FP.i2d r.2.1)
    · rw [follow_gt c g]
      exact ⟨(fall_ok hH h1 h2 g).2.2, rfl, rfl, rfl, rfl, rfl, rfl, id⟩
    · rw [follow_eq c g]
      exact ⟨hH, rfl, rfl, rfl, rfl, rfl, rfl, id⟩
theorem step1_lit {nr : Nat} {Rp : Nat → RT} {k : KT} {A : Nat} {E : Int32} (e : sp_pass nr Rp (kH k) 5 (kL k) (kA k) (kE k) = (true, A, E)) (hA : A < nr) {k2 : KT} (e2 : sp_follow (Rp A) (kH k, kP k, kO k, true, A, E, kC k, kF k, kS k, kW k) = k2) :
    sp_step1 nr Rp k = (kH k2, kP k2, kO k2, kL k2, kA k2, kE k2, kC k2, kF k2 + sp_fuel (kC k2), kS k2, kW k2) := by
  subst e2
  unfold sp_step1
  rw [e]
  simp only [hA, and_self, if_true]
theorem step1_no {nr : Nat} {Rp : Nat → RT} {k : KT} {A : Nat} {E : Int32} (e : sp_pass nr Rp (kH k) 5 (kL k) (kA k) (kE k) = (false, A, E)) :
    sp_step1 nr Rp k = (sp_cool (kH k) (kO k), kP k, kO k, false, A, E, kC k, kF k, kS k, kW k) := by
  unfold sp_step1
  rw [e]
  simp only [Bool.false_eq_true, false_and, if_false]
theorem step_of {nr : Nat} {Rp : Nat → RT} {k k2 : KT} (e : sp_step1 nr Rp k = k2) : sp_step nr Rp k = (kH k2, kP k2, kO k2, kL k2, kA k2, kE k2, kC k2 + 1, kF k2, kS k2, sp_work (kH k2) (kW k2)) := by
  unfold sp_step; rw [e]
/-- what stands fast of a kiln and its ramps -/
def okL (nr : Nat) (k : KT) : Prop := (kL k = true → kA k < nr) ∧ kA k ≤ 5
theorem step_ok {nr : Nat} {Rp : Nat → RT} {k : KT} (hk : okk k) (hL : okL nr k) (hR : okR9 nr Rp) : okk (sp_step nr Rp k) ∧ okL nr (sp_step nr Rp k) := by
  obtain ⟨hH, hP, hW⟩ := hk
  obtain ⟨p1, p2⟩ := pass_ok nr Rp (kH k) hR.1 5 (kL k) (kA k) (kE k) hL.1 hL.2
  obtain ⟨L, A, E, e⟩ : ∃ L A E, sp_pass nr Rp (kH k) 5 (kL k) (kA k) (kE k) = (L, A, E) := ⟨_, _, _, rfl⟩
  rw [e] at p1 p2
  have hw : ∀ t : UInt64, Ht t → ∀ j, j < 3 → okW (sp_work t (kW k) j) := fun t ht j hj => by
    unfold sp_work
    rw [if_pos hj]
    exact addw_ok (hot_ok ht j).1 (hot_ok ht j).2 (hW j hj)
  cases L
  · rw [step_of (step1_no e)]
    have := cool_ok hH (kO k)
    exact ⟨⟨this, hP, hw _ this⟩, fun q => Bool.noConfusion q, p2⟩
  · have hA : A < nr := p1 rfl
    obtain ⟨r1, r2⟩ := hR.2 A hA
    obtain ⟨f1, f2, f3, f4, f5, f6, f7, f8⟩ := follow_ok (r := Rp A) (k := (kH k, kP k, kO k, true, A, E, kC k, kF k, kS k, kW k)) hH hP r1 r2
    rw [step_of (step1_lit e hA rfl)]
    refine ⟨⟨f1, ?_, ?_⟩, fun q => ?_, ?_⟩
    · show FP.Core.FFin (kP (sp_follow _ _)); rw [f2]; exact hP
    · show ∀ j, j < 3 → okW (sp_work _ (kW (sp_follow _ _)) j); rw [f3]; exact hw _ f1
    · show kA (sp_follow _ _) < nr; rw [f5]; exact hA
    · show kA (sp_follow _ _) ≤ 5; rw [f5]; exact p2

set_option maxHeartbeats 4000000 in
set_option maxRecDepth 100000 in
theorem lp_X2_passRamps {K : KC} (C : CX K RX2 cX2_passRamps 3 rm_X2_passRamps) (hl : (Kl K).stackTraces = false) {P : HM → Prop} {h9 h0 : HM} {a pr wk ra nr : Nat} {hb t : UInt64} {dmp c fu s : Int32} {p : UInt32} {o : Bool} {w : Nat → UInt64} {k0 : KT} {f : Nat → Option Nat} {Rp : Nat → RT} {L : Bool} {A : Nat} {E : Int32} (hf0 : h0 a = some (kCell pr wk hb dmp k0)) (hp : h0 pr = some (pCell ra nr)) (hA : h0 ra = some (qCell (Kt K 7) 5 f)) (hR : RS h0 nr f Rp) (hn : nr ≤ 5)
    (M : MX K (KD K) (Kt K) (Kl K) rm_X2_passRamps none h9 (rV P) yX2_passRamps.name)
    (fin : ∀ h', Up h0 a (kCell pr wk hb dmp (t, p, o, L, A, E, c, fu, s, w)) h' → P h')
    : ∀ j : Nat, j ≤ 5 → ∀ {h : HM} {lit : Bool} {at' : Nat} {held : Int32},  (u : Up h0 a (kCell pr wk hb dmp (t, p, o, lit, at', held, c, fu, s, w)) h) → (hlit : lit = true → at' < nr) → (hat : at' ≤ 5) → (hs : sp_pass nr Rp t (5 - j) lit at' held = (L, A, E)) → WW K (0, 0) 2 [some (.ref a), some (.int (nI j)), none] [] h := by
  refine up_ind ?_
  intro j hj ih h lit at' held u hlit hat hs
  have hp1 := u.oth hp hf0 (by intro q; simp at q)
  have hA1 := u.oth hA hf0 (by intro q; simp at q)
  have hR1 := hR.up u hf0 (by intro r q; simp at q)
  have hf := u.self
  first | refine w_aload_n C dX2_passRamps_2 (by rfl) ?_ | refine w_aload_nN C dX2_passRamps_2 (by rfl) ?_
  refine gf_X2_32 C hf dX2_passRamps_3 ?_
  refine w_if_eq (tgt := 99) C dX2_passRamps_6 (by rfl) (fun c_6 => ?_) (fun c_6 => ?_)
  · try simp only [cg_ge, cg_gt, cl_gt, cl_le, cl_eq, cl_lt, cl_ge, bi_eq0, bi_ne0, bI_eq0, Decidable.not_not, Bool.not_eq_false] at c_6
    refine w_vret C M dX2_passRamps_99 ⟨by decide, by decide⟩ ⟨rfl, ?_⟩
    first
      | (subst c_6; rw [pass_nl] at hs; cases hs; exact fin _ u)
      | (rw [show 5 - j = 0 by omega] at hs; cases hs; exact fin _ u)
  · try simp only [cg_ge, cg_gt, cl_gt, cl_le, cl_eq, cl_lt, cl_ge, bi_eq0, bi_ne0, bI_eq0, Decidable.not_not, Bool.not_eq_false] at c_6
    subst c_6
    have hlt := hlit rfl
    obtain ⟨r, hr1, hr2⟩ := hR1 at' hlt
    refine w_iload_n C dX2_passRamps_9 (by rfl) ?_
    refine w_iconst (v := 5) C dX2_passRamps_10 (by rfl) ?_
    refine w_icmp_ge (tgt := 99) C dX2_passRamps_11 (by rfl) (fun c_11 => ?_) (fun c_11 => ?_)
    · have e5 : ¬ j < 5 := fun q => nI_ge q (show 5 < 2 ^ 31 by decide) c_11
      refine w_vret C M dX2_passRamps_99 ⟨by decide, by decide⟩ ⟨rfl, ?_⟩
      first
        | (subst c_6; rw [pass_nl] at hs; cases hs; exact fin _ u)
        | (rw [show 5 - j = 0 by omega] at hs; cases hs; exact fin _ u)
    · have hj5 : j < 5 := Nat.not_le.mp (fun q => c_11 (nI_le (a := 5) q (by omega)))
      rw [show 5 - j = (4 - j) + 1 by omega] at hs
      first | refine w_aload_n C dX2_passRamps_14 (by rfl) ?_ | refine w_aload_nN C dX2_passRamps_14 (by rfl) ?_
      refine gf_X2_54 C hf dX2_passRamps_15 ?_
      first | refine w_aload_n C dX2_passRamps_18 (by rfl) ?_ | refine w_aload_nN C dX2_passRamps_18 (by rfl) ?_
      refine gf_X2_35 C hf dX2_passRamps_19 ?_
      refine cl_X2_81 C (m_rampAt hl hp1 hA1 hn hlt hr1) hp1 (by rfl) (by rfl) ⟨by decide, by decide⟩ (by rfl) dX2_passRamps_22 (fun z1 h1 p1 => ?_)
      obtain ⟨rfl, rfl⟩ := p1
      first | refine w_astore_2 C dX2_passRamps_25 (by first | trivial | rfl) ?_ | refine w_astore_2N C dX2_passRamps_25 (by first | trivial | rfl) ?_
      first | refine w_aload_n C dX2_passRamps_26 (by rfl) ?_ | refine w_aload_nN C dX2_passRamps_26 (by rfl) ?_
      refine w_ifnull C dX2_passRamps_27 ?_
      first | refine w_aload_n C dX2_passRamps_30 (by rfl) ?_ | refine w_aload_nN C dX2_passRamps_30 (by rfl) ?_
      refine gf_X2_11 C hf dX2_passRamps_31 ?_
      first | refine w_aload_n C dX2_passRamps_34 (by rfl) ?_ | refine w_aload_nN C dX2_passRamps_34 (by rfl) ?_
      refine gf_X2_100 C hr2 dX2_passRamps_35 ?_
      refine w_i2d C dX2_passRamps_38 ?_
      refine w_dcmp C dX2_passRamps_39 ?_
      refine w_if_ne (tgt := 54) C dX2_passRamps_40 (by rfl) (fun c_40 => ?_) (fun c_40 => ?_)
      · try simp only [cg_ge, cg_gt, cl_gt, cl_le, cl_eq, cl_lt, cl_ge, bi_eq0, bi_ne0, bI_eq0, Decidable.not_not, Bool.not_eq_false] at c_40
        refine w_vret C M dX2_passRamps_54 ⟨by decide, by decide⟩ ⟨rfl, ?_⟩
        first
          | (rw [pass_no hlt (fun q => c_40 q.1)] at hs; cases hs; exact fin _ u)
          | (rw [pass_no hlt (fun q => c_51 q.2)] at hs; cases hs; exact fin _ u)
      · try simp only [cg_ge, cg_gt, cl_gt, cl_le, cl_eq, cl_lt, cl_ge, bi_eq0, bi_ne0, bI_eq0, Decidable.not_not, Bool.not_eq_false] at c_40
        first | refine w_aload_n C dX2_passRamps_43 (by rfl) ?_ | refine w_aload_nN C dX2_passRamps_43 (by rfl) ?_
        refine gf_X2_38 C hf dX2_passRamps_44 ?_
        first | refine w_aload_n C dX2_passRamps_47 (by rfl) ?_ | refine w_aload_nN C dX2_passRamps_47 (by rfl) ?_
        refine gf_X2_105 C hr2 dX2_passRamps_48 ?_
        refine w_icmp_eq (tgt := 55) C dX2_passRamps_51 (by rfl) (fun c_51 => ?_) (fun c_51 => ?_)
        · rw [pass_go c_40 c_51] at hs
          first | refine w_aload_n C dX2_passRamps_55 (by rfl) ?_ | refine w_aload_nN C dX2_passRamps_55 (by rfl) ?_
          refine w_dup C dX2_passRamps_56 (by rfl) ?_
          refine gf_X2_35 C hf dX2_passRamps_57 ?_
          refine w_iconst (v := 1) C dX2_passRamps_60 (by rfl) ?_
          refine w_iadd C dX2_passRamps_61 ?_
          refine pf_X2_35 C hf dX2_passRamps_62 (fun h2 u2 => ?_)
          have hp1 := u2.oth hp1 hf (by intro q; simp at q)
          have hr2 := u2.oth hr2 hf (by intro q; simp at q)
          have hf := u2.self
          rw [nI_1 at'] at u2 hf
          first | refine w_aload_n C dX2_passRamps_65 (by rfl) ?_ | refine w_aload_nN C dX2_passRamps_65 (by rfl) ?_
          refine w_iconst (v := 0) C dX2_passRamps_66 (by rfl) ?_
          refine pf_X2_38 C hf dX2_passRamps_67 (fun h3 u3 => ?_)
          have hp1 := u3.oth hp1 hf (by intro q; simp at q)
          have hr2 := u3.oth hr2 hf (by intro q; simp at q)
          have hf := u3.self
          first | refine w_aload_n C dX2_passRamps_70 (by rfl) ?_ | refine w_aload_nN C dX2_passRamps_70 (by rfl) ?_
          first | refine w_aload_n C dX2_passRamps_71 (by rfl) ?_ | refine w_aload_nN C dX2_passRamps_71 (by rfl) ?_
          refine gf_X2_35 C hf dX2_passRamps_72 ?_
          first | refine w_aload_n C dX2_passRamps_75 (by rfl) ?_ | refine w_aload_nN C dX2_passRamps_75 (by rfl) ?_
          refine gf_X2_54 C hf dX2_passRamps_76 ?_
          refine gf_X2_108 C hp1 dX2_passRamps_79 ?_
          refine w_icmp_ge (tgt := 89) C dX2_passRamps_82 (by rfl) (fun c_82 => ?_) (fun c_82 => ?_)
          · have e8 : decide (at' + 1 < nr) = false := decide_eq_false (fun q => nI_ge q (by omega) c_82)
            refine w_iconst (v := 0) C dX2_passRamps_89 (by rfl) ?_
            refine pf_X2_32 C hf (by first | exact Or.inl rfl | exact Or.inr rfl | assumption | exact bI_01 _ | exact bi_01 _) dX2_passRamps_90 (fun h4 u4 => ?_)
            have hp1 := u4.oth hp1 hf (by intro q; simp at q)
            have hr2 := u4.oth hr2 hf (by intro q; simp at q)
            have hf := u4.self
            refine w_iinc_1 (v := _ + (1)) C dX2_passRamps_93 (by rfl) (by first | trivial | rfl) ?_
            refine w_goto (tgt := 2) C dX2_passRamps_96 (by rfl) ?_
            rw [nI_1 j]
            have u9 : Up h0 a (kCell pr wk hb dmp (t, p, o, decide (at' + 1 < nr), at' + 1, 0, c, fu, s, w)) _ := (((u.tr u2).tr u3).tr u4).to (by rw [e8]; rfl)
            exact w_sub (ih hj5 u9 (fun q => of_decide_eq_true q) (by omega) (by rw [show 5 - (j + 1) = 4 - j by omega]; exact hs)) (by repeat' first | exact trivial | rfl | constructor)
          · have e8 : decide (at' + 1 < nr) = true := decide_eq_true (Nat.not_le.mp (fun q => c_82 (nI_le q (by omega))))
            refine w_iconst (v := 1) C dX2_passRamps_85 (by rfl) ?_
            refine w_goto (tgt := 90) C dX2_passRamps_86 (by rfl) ?_
            refine pf_X2_32 C hf (by first | exact Or.inl rfl | exact Or.inr rfl | assumption | exact bI_01 _ | exact bi_01 _) dX2_passRamps_90 (fun h5 u5 => ?_)
            have hp1 := u5.oth hp1 hf (by intro q; simp at q)
            have hr2 := u5.oth hr2 hf (by intro q; simp at q)
            have hf := u5.self
            refine w_iinc_1 (v := _ + (1)) C dX2_passRamps_93 (by rfl) (by first | trivial | rfl) ?_
            refine w_goto (tgt := 2) C dX2_passRamps_96 (by rfl) ?_
            rw [nI_1 j]
            have u9 : Up h0 a (kCell pr wk hb dmp (t, p, o, decide (at' + 1 < nr), at' + 1, 0, c, fu, s, w)) _ := (((u.tr u2).tr u3).tr u5).to (by rw [e8]; rfl)
            exact w_sub (ih hj5 u9 (fun q => of_decide_eq_true q) (by omega) (by rw [show 5 - (j + 1) = 4 - j by omega]; exact hs)) (by repeat' first | exact trivial | rfl | constructor)
        · refine w_vret C M dX2_passRamps_54 ⟨by decide, by decide⟩ ⟨rfl, ?_⟩
          first
            | (rw [pass_no hlt (fun q => c_40 q.1)] at hs; cases hs; exact fin _ u)
            | (rw [pass_no hlt (fun q => c_51 q.2)] at hs; cases hs; exact fin _ u)

set_option maxHeartbeats 4000000 in
set_option maxRecDepth 100000 in
theorem m_X2_passRamps {l : Launch} {D : va_G} {tc : Nat → ClassId} (hl : l.stackTraces = false) {h : HM} {a pr wk : Nat} {hb : UInt64} {dmp : Int32} {k : KT} (hf : h a = some (kCell pr wk hb dmp k)) {ra nr : Nat} {f : Nat → Option Nat} {Rp : Nat → RT} (hp : h pr = some (pCell ra nr)) (hA : h ra = some (qCell (tc 7) 5 f)) (hR : RS h nr f Rp) (hn : nr ≤ 5) (hL : okL nr k) {L : Bool} {A : Nat} {E : Int32} (hs : sp_pass nr Rp (kH k) 5 (kL k) (kA k) (kE k) = (L, A, E)) :
    CT l D tc yX2_passRamps cX2_passRamps 3 none rm_X2_passRamps [.ref a] h (rV (fun h' => Up h a (kCell pr wk hb dmp (kH k, kP k, kO k, L, A, E, kC k, kF k, kS k, kW k)) h')) := by
  refine CT.start [some (.ref a), none, none] (by decide) hl rfl rfl (fun K C M => ?_)
  obtain ⟨rfl, rfl, rfl, -⟩ := id M
  have C : CX K RX2 cX2_passRamps 3 rm_X2_passRamps := C
  refine w_iconst (v := 0) C dX2_passRamps_0 (by rfl) ?_
  refine w_istore_1 C dX2_passRamps_1 (by first | trivial | rfl) ?_
  exact lp_X2_passRamps C hl hf hp hA hR hn M (fun h9 u9 => u9) 0 (by decide) (lit := kL k) (at' := kA k) (held := kE k) (hu_id hf).symm hL.1 hL.2 hs

set_option maxHeartbeats 4000000 in
set_option maxRecDepth 100000 in
theorem m_X2_step {l : Launch} {D : va_G} {tc : Nat → ClassId} (hl : l.stackTraces = false) {h : HM} {a pr wk : Nat} {hb : UInt64} {dmp : Int32} {k : KT} (hf : h a = some (kCell pr wk hb dmp k)) {ra nr : Nat} {f : Nat → Option Nat} {Rp : Nat → RT} (hp : h pr = some (pCell ra nr)) (hA : h ra = some (qCell (tc 7) 5 f)) (hR : RS h nr f Rp) (hn : nr ≤ 5) (hL : okL nr k) (hw : h wk = some (wCell tc (kW k))) (hk : okk k) (hRr : okR9 nr Rp) :
    CT l D tc yX2_step cX2_step 2 none rm_X2_step [.ref a] h (rV (fun h' => h' a = some (kCell pr wk (kH k) dmp (sp_step nr Rp k)) ∧ h' wk = some (wCell tc (kW (sp_step nr Rp k))) ∧ Fr [a, wk] h h')) := by
  refine CT.start [some (.ref a), none] (by decide) hl rfl rfl (fun K C M => ?_)
  obtain ⟨rfl, rfl, rfl, -⟩ := id M
  have C : CX K RX2 cX2_step 2 rm_X2_step := C
  have hf00 := hf
  obtain ⟨hH, hP, hW⟩ := id hk
  obtain ⟨L, A, E, e9⟩ : ∃ L A E, sp_pass nr Rp (kH k) 5 (kL k) (kA k) (kE k) = (L, A, E) := ⟨_, _, _, rfl⟩
  have pk := pass_ok nr Rp (kH k) hn 5 (kL k) (kA k) (kE k) hL.1 hL.2
  rw [e9] at pk
  first | refine w_aload_n C dX2_step_0 (by rfl) ?_ | refine w_aload_nN C dX2_step_0 (by rfl) ?_
  first | refine w_aload_n C dX2_step_1 (by rfl) ?_ | refine w_aload_nN C dX2_step_1 (by rfl) ?_
  refine gf_X2_11 C hf dX2_step_2 ?_
  refine pf_X2_17 C hf dX2_step_5 (fun h1 u1 => ?_)
  have hp := u1.oth hp hf (by intro q; simp at q)
  have hA := u1.oth hA hf (by intro q; simp at q)
  have hw := u1.oth hw hf (by intro q; simp at q)
  have hf := u1.self
  have hR := hR.up u1 hf00 (by intro r q; simp at q)
  have hf : _ = some (kCell pr wk (kH k) dmp k) := hf
  first | refine w_aload_n C dX2_step_8 (by rfl) ?_ | refine w_aload_nN C dX2_step_8 (by rfl) ?_
  refine cl_X2_78 C (m_X2_passRamps hl hf hp hA hR hn hL e9) hf (by rfl) (by rfl) ⟨by decide, by decide⟩ (by rfl) dX2_step_9 (fun h2 p2 => ?_)
  have hR := hR.up p2 hf (by intro r q; simp at q)
  have hp := p2.oth hp hf (by intro q; simp at q)
  have hA := p2.oth hA hf (by intro q; simp at q)
  have hw := p2.oth hw hf (by intro q; simp at q)
  have hf := p2.self
  first | refine w_aload_n C dX2_step_12 (by rfl) ?_ | refine w_aload_nN C dX2_step_12 (by rfl) ?_
  refine gf_X2_32 C hf dX2_step_13 ?_
  refine w_if_eq (tgt := 33) C dX2_step_16 (by rfl) (fun c_16 => ?_) (fun c_16 => ?_)
  · try simp only [cg_ge, cg_gt, cl_gt, cl_le, cl_eq, cl_lt, cl_ge, bi_eq0, bi_ne0, bI_eq0, Decidable.not_not, Bool.not_eq_false] at c_16
    have c_16 : L = false := c_16
    subst c_16
    have hH2 := cool_ok hH (kO k)
    have hW2 := hW
    have hst := step_of (step1_no e9)
    refine w_null C dX2_step_33 ?_
    first | refine w_astore_1 C dX2_step_34 (by first | trivial | rfl) ?_ | refine w_astore_1N C dX2_step_34 (by first | trivial | rfl) ?_
    first | refine w_aload_n C dX2_step_35 (by rfl) ?_ | refine w_aload_nN C dX2_step_35 (by rfl) ?_
    refine w_ifnonnullN C dX2_step_36 ?_
    first | refine w_aload_n C dX2_step_39 (by rfl) ?_ | refine w_aload_nN C dX2_step_39 (by rfl) ?_
    refine cl_X2_87 C (m_X2_coolDown hl hf hH) hf (by rfl) (by rfl) ⟨by decide, by decide⟩ (by rfl) dX2_step_40 (fun h3 p3 => ?_)
    have hp := p3.oth hp hf (by intro q; simp at q)
    have hA := p3.oth hA hf (by intro q; simp at q)
    have hw := p3.oth hw hf (by intro q; simp at q)
    have hf := p3.self
    refine w_goto (tgt := 55) C dX2_step_43 (by rfl) ?_
    first | refine w_aload_n C dX2_step_55 (by rfl) ?_ | refine w_aload_nN C dX2_step_55 (by rfl) ?_
    refine cl_X2_97 C (m_X2_addWork hl hf hH2 hw hW2) hf (by rfl) (by rfl) ⟨by decide, by decide⟩ (by rfl) dX2_step_56 (fun h4 p4 => ?_)
    have hf := p4.oth hf hw (by intro q; simp at q)
    have hp := p4.oth hp hw (by intro q; simp at q)
    have hA := p4.oth hA hw (by intro q; simp at q)
    have hw := p4.self
    first | refine w_aload_n C dX2_step_59 (by rfl) ?_ | refine w_aload_nN C dX2_step_59 (by rfl) ?_
    refine w_dup C dX2_step_60 (by rfl) ?_
    refine gf_X2_41 C hf dX2_step_61 ?_
    refine w_iconst (v := 1) C dX2_step_64 (by rfl) ?_
    refine w_iadd C dX2_step_65 ?_
    refine pf_X2_41 C hf dX2_step_66 (fun h5 u5 => ?_)
    have hp := u5.oth hp hf (by intro q; simp at q)
    have hA := u5.oth hA hf (by intro q; simp at q)
    have hw := u5.oth hw hf (by intro q; simp at q)
    have hf := u5.self
    refine w_vret C M dX2_step_69 ⟨by decide, by decide⟩ ⟨rfl, ?_⟩
    exact ⟨by rw [hst]; exact hf, by rw [hst]; exact hw, (((((u1.fr.sub (by simp)).tr (p2.fr.sub (by simp))).tr (p3.fr.sub (by simp))).tr (p4.fr.sub (by simp))).tr (u5.fr.sub (by simp)))⟩
  · try simp only [cg_ge, cg_gt, cl_gt, cl_le, cl_eq, cl_lt, cl_ge, bi_eq0, bi_ne0, bI_eq0, Decidable.not_not, Bool.not_eq_false] at c_16
    have c_16 : L = true := c_16
    subst c_16
    have hA9 : A < nr := pk.1 rfl
    obtain ⟨r, hr1, hr2⟩ := hR A hA9
    obtain ⟨q1, q2⟩ := hRr.2 A hA9
    obtain ⟨hH2, -, f3, -⟩ := follow_ok (r := Rp A) (k := (kH k, kP k, kO k, true, A, E, kC k, kF k, kS k, kW k)) hH hP q1 q2
    have hst := step_of (step1_lit e9 hA9 rfl)
    first | refine w_aload_n C dX2_step_19 (by rfl) ?_ | refine w_aload_nN C dX2_step_19 (by rfl) ?_
    refine gf_X2_54 C hf dX2_step_20 ?_
    first | refine w_aload_n C dX2_step_23 (by rfl) ?_ | refine w_aload_nN C dX2_step_23 (by rfl) ?_
    refine gf_X2_35 C hf dX2_step_24 ?_
    refine cl_X2_81 C (m_rampAt hl hp hA hn hA9 hr1) hp (by rfl) (by rfl) ⟨by decide, by decide⟩ (by rfl) dX2_step_27 (fun z1 h6 p6 => ?_)
    obtain ⟨rfl, rfl⟩ := p6
    refine w_goto (tgt := 34) C dX2_step_30 (by rfl) ?_
    first | refine w_astore_1 C dX2_step_34 (by first | trivial | rfl) ?_ | refine w_astore_1N C dX2_step_34 (by first | trivial | rfl) ?_
    first | refine w_aload_n C dX2_step_35 (by rfl) ?_ | refine w_aload_nN C dX2_step_35 (by rfl) ?_
    refine w_ifnonnull (tgt := 46) C dX2_step_36 (by rfl) ?_
    first | refine w_aload_n C dX2_step_46 (by rfl) ?_ | refine w_aload_nN C dX2_step_46 (by rfl) ?_
    first | refine w_aload_n C dX2_step_47 (by rfl) ?_ | refine w_aload_nN C dX2_step_47 (by rfl) ?_
    refine cl_X2_90 C (m_X2_follow hl hf hH hP hr2 q1 q2) hf (by rfl) (by rfl) ⟨by decide, by decide⟩ (by rfl) dX2_step_48 (fun h7 p7 => ?_)
    generalize sp_follow (Rp A) (kH k, kP k, kO k, true, A, E, kC k, kF k, kS k, kW k) = k2 at *
    have f3 : kW k2 = kW k := f3
    rw [← f3] at hw
    have hW2 : ∀ i, i < 3 → okW (kW k2 i) := by rw [f3]; exact hW
    have hp := p7.oth hp hf (by intro q; simp at q)
    have hA := p7.oth hA hf (by intro q; simp at q)
    have hw := p7.oth hw hf (by intro q; simp at q)
    have hr2 := p7.oth hr2 hf (by intro q; simp at q)
    have hf := p7.self
    first | refine w_aload_n C dX2_step_51 (by rfl) ?_ | refine w_aload_nN C dX2_step_51 (by rfl) ?_
    refine cl_X2_94 C (m_X2_payFuel hl hf) hf (by rfl) (by rfl) ⟨by decide, by decide⟩ (by rfl) dX2_step_52 (fun h8 p8 => ?_)
    have hp := p8.oth hp hf (by intro q; simp at q)
    have hA := p8.oth hA hf (by intro q; simp at q)
    have hw := p8.oth hw hf (by intro q; simp at q)
    have hr2 := p8.oth hr2 hf (by intro q; simp at q)
    have hf := p8.self
    first | refine w_aload_n C dX2_step_55 (by rfl) ?_ | refine w_aload_nN C dX2_step_55 (by rfl) ?_
    refine cl_X2_97 C (m_X2_addWork hl hf hH2 hw hW2) hf (by rfl) (by rfl) ⟨by decide, by decide⟩ (by rfl) dX2_step_56 (fun h9 p9 => ?_)
    have hf := p9.oth hf hw (by intro q; simp at q)
    have hp := p9.oth hp hw (by intro q; simp at q)
    have hA := p9.oth hA hw (by intro q; simp at q)
    have hr2 := p9.oth hr2 hw (by intro q; simp at q)
    have hw := p9.self
    first | refine w_aload_n C dX2_step_59 (by rfl) ?_ | refine w_aload_nN C dX2_step_59 (by rfl) ?_
    refine w_dup C dX2_step_60 (by rfl) ?_
    refine gf_X2_41 C hf dX2_step_61 ?_
    refine w_iconst (v := 1) C dX2_step_64 (by rfl) ?_
    refine w_iadd C dX2_step_65 ?_
    refine pf_X2_41 C hf dX2_step_66 (fun h10 u10 => ?_)
    have hp := u10.oth hp hf (by intro q; simp at q)
    have hA := u10.oth hA hf (by intro q; simp at q)
    have hw := u10.oth hw hf (by intro q; simp at q)
    have hr2 := u10.oth hr2 hf (by intro q; simp at q)
    have hf := u10.self
    refine w_vret C M dX2_step_69 ⟨by decide, by decide⟩ ⟨rfl, ?_⟩
    exact ⟨by rw [hst]; exact hf, by rw [hst]; exact hw, ((((((u1.fr.sub (by simp)).tr (p2.fr.sub (by simp))).tr (p7.fr.sub (by simp))).tr (p8.fr.sub (by simp))).tr (p9.fr.sub (by simp))).tr (u10.fr.sub (by simp)))⟩
