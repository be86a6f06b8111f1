/-! THE REFERENCE: A STEP OF ITS KILN -/

set_option maxHeartbeats 4000000 in
set_option maxRecDepth 100000 in
theorem lp_X8_pass {K : KC} (C : CX K RX8 cX8_step 2 rm_X8_step) (hl : (Kl K).stackTraces = false) {h0 : HM} {a rL wk el nr : Nat} {mc : Int32} {t : UInt64} {c fu s : Int32} {p : UInt32} {o : Bool} {w : Nat → UInt64} {k0 : KT} {f : Nat → Nat} {Rp : Nat → RT} {L : Bool} {A : Nat} {E : Int32} (hf0 : h0 a = some (mK rL wk k0)) (hp : h0 rL = some (lC mc el nr)) (hA : LA (Kt K) el nr f h0) (hR : ∀ i, i < nr → h0 (f i) = some (iC (Kt K 0) 3 (rJ (Rp i)))) (hn : nr ≤ 5)
    (fin : ∀ h', Up h0 a (mK rL wk (t, p, o, L, A, E, c, fu, s, w)) h' → WW K (0, 0) 96 [some (.ref a), none] [] h')
    : ∀ j : Nat, j ≤ 5 → ∀ {h : HM} {lit : Bool} {held : Int32} {m : Nat},  (u : Up h0 a (mK rL wk (t, p, o, lit, j, held, c, fu, s, w)) h) → (hlit : lit = true → j < nr) → (hm : nr ≤ m + j) → (hs : sp_pass nr Rp t m lit j held = (L, A, E)) → WW K (0, 0) 0 [some (.ref a), none] [] h := by
  refine up_ind ?_
  intro j hj ih h lit held m u hlit hm hs
  have hp1 := u.oth hp hf0 (by intro q; simp at q)
  have hA1 := hA.fr (fun cap f hE => u.oth hE hf0 (by intro q; simp at q))
  have hR1 := fun i hi => u.oth (hR i hi) hf0 (by intro q; simp at q)
  have hf := u.self
  first | refine w_aload_n C dX8_step_0 (by rfl) ?_ | refine w_aload_nN C dX8_step_0 (by rfl) ?_
  refine gf_X8_41 C hf dX8_step_1 ?_
  refine w_if_eq (tgt := 96) C dX8_step_4 (by rfl) (fun c_4 => ?_) (fun c_4 => ?_)
  · try simp only [cg_ge, cg_gt, cl_gt, cl_le, cl_eq, cl_lt, cl_ge, bi_eq0, bi_ne0, bI_eq0, Decidable.not_not, Bool.not_eq_false] at c_4
    subst c_4
    rw [pass_nl] at hs
    cases hs
    exact fin _ u
  · try simp only [cg_ge, cg_gt, cl_gt, cl_le, cl_eq, cl_lt, cl_ge, bi_eq0, bi_ne0, bI_eq0, Decidable.not_not, Bool.not_eq_false] at c_4
    subst c_4
    have hlt := hlit rfl
    obtain ⟨m, rfl⟩ : ∃ m', m = m' + 1 := ⟨m - 1, by omega⟩
    first | refine w_aload_n C dX8_step_7 (by rfl) ?_ | refine w_aload_nN C dX8_step_7 (by rfl) ?_
    refine gf_X8_20 C hf dX8_step_8 ?_
    first | refine w_aload_n C dX8_step_11 (by rfl) ?_ | refine w_aload_nN C dX8_step_11 (by rfl) ?_
    refine gf_X8_12 C hf dX8_step_12 ?_
    first | refine w_aload_n C dX8_step_15 (by rfl) ?_ | refine w_aload_nN C dX8_step_15 (by rfl) ?_
    refine gf_X8_44 C hf dX8_step_16 ?_
    refine cl_X8_66 C (m_get hl hp1 hA1 hlt) hp1 (by rfl) (by rfl) ⟨by decide, by decide⟩ (by rfl) dX8_step_19 (fun z1 h1 p1 => ?_)
    obtain ⟨rfl, rfl⟩ := p1
    refine w_castI C (hR1 j hlt) gw_1406 dX8_step_22 ?_
    refine w_iconst (v := 1) C dX8_step_25 (by rfl) ?_
    refine w_ialdn (j := 1) C (hR1 j hlt) (by decide) (by decide) dX8_step_26 ?_
    rw [rJ_1]
    refine w_i2d C dX8_step_27 ?_
    refine w_dcmp C dX8_step_28 ?_
    refine w_if_ne (tgt := 96) C dX8_step_29 (by rfl) (fun c_29 => ?_) (fun c_29 => ?_)
    · try simp only [cg_ge, cg_gt, cl_gt, cl_le, cl_eq, cl_lt, cl_ge, bi_eq0, bi_ne0, bI_eq0, Decidable.not_not, Bool.not_eq_false] at c_29
      rw [pass_no hlt (fun q => c_29 q.1)] at hs
      cases hs
      exact fin _ u
    · try simp only [cg_ge, cg_gt, cl_gt, cl_le, cl_eq, cl_lt, cl_ge, bi_eq0, bi_ne0, bI_eq0, Decidable.not_not, Bool.not_eq_false] at c_29
      first | refine w_aload_n C dX8_step_32 (by rfl) ?_ | refine w_aload_nN C dX8_step_32 (by rfl) ?_
      refine gf_X8_48 C hf dX8_step_33 ?_
      first | refine w_aload_n C dX8_step_36 (by rfl) ?_ | refine w_aload_nN C dX8_step_36 (by rfl) ?_
      refine gf_X8_12 C hf dX8_step_37 ?_
      first | refine w_aload_n C dX8_step_40 (by rfl) ?_ | refine w_aload_nN C dX8_step_40 (by rfl) ?_
      refine gf_X8_44 C hf dX8_step_41 ?_
      refine cl_X8_66 C (m_get hl hp1 hA1 hlt) hp1 (by rfl) (by rfl) ⟨by decide, by decide⟩ (by rfl) dX8_step_44 (fun z2 h2 p2 => ?_)
      obtain ⟨rfl, rfl⟩ := p2
      refine w_castI C (hR1 j hlt) gw_1406 dX8_step_47 ?_
      refine w_iconst (v := 2) C dX8_step_50 (by rfl) ?_
      refine w_ialdn (j := 2) C (hR1 j hlt) (by decide) (by decide) dX8_step_51 ?_
      rw [rJ_2]
      refine w_icmp_ne (tgt := 96) C dX8_step_52 (by rfl) (fun c_52 => ?_) (fun c_52 => ?_)
      · rw [pass_no hlt (fun q => c_52 q.2)] at hs
        cases hs
        exact fin _ u
      · have c_52 : held = (Rp j).2.2 := c_52
        rw [pass_go c_29 c_52] at hs
        first | refine w_aload_n C dX8_step_55 (by rfl) ?_ | refine w_aload_nN C dX8_step_55 (by rfl) ?_
        refine w_dup C dX8_step_56 (by rfl) ?_
        refine gf_X8_44 C hf dX8_step_57 ?_
        refine w_iconst (v := 1) C dX8_step_60 (by rfl) ?_
        refine w_iadd C dX8_step_61 ?_
        refine pf_X8_44 C hf dX8_step_62 (fun h3 u3 => ?_)
        have hp1 := u3.oth hp1 hf (by intro q; simp at q)
        have hf := u3.self
        rw [nI_1 j] at u3 hf
        first | refine w_aload_n C dX8_step_65 (by rfl) ?_ | refine w_aload_nN C dX8_step_65 (by rfl) ?_
        refine w_iconst (v := 0) C dX8_step_66 (by rfl) ?_
        refine pf_X8_48 C hf dX8_step_67 (fun h4 u4 => ?_)
        have hp1 := u4.oth hp1 hf (by intro q; simp at q)
        have hf := u4.self
        first | refine w_aload_n C dX8_step_70 (by rfl) ?_ | refine w_aload_nN C dX8_step_70 (by rfl) ?_
        first | refine w_aload_n C dX8_step_71 (by rfl) ?_ | refine w_aload_nN C dX8_step_71 (by rfl) ?_
        refine gf_X8_44 C hf dX8_step_72 ?_
        first | refine w_aload_n C dX8_step_75 (by rfl) ?_ | refine w_aload_nN C dX8_step_75 (by rfl) ?_
        refine gf_X8_12 C hf dX8_step_76 ?_
        refine cl_X8_72 C (m_Jx4a65c_size_8abf5 hl hp1) hp1 (by rfl) (by rfl) ⟨by decide, by decide⟩ (by rfl) dX8_step_79 (fun z5 h5 p5 => ?_)
        obtain ⟨rfl, rfl⟩ := p5
        refine w_icmp_ge (tgt := 89) C dX8_step_82 (by rfl) (fun c_82 => ?_) (fun c_82 => ?_)
        · have e8 : decide (j + 1 < nr) = false := decide_eq_false (fun q => nI_ge q (by omega) c_82)
          refine w_iconst (v := 0) C dX8_step_89 (by rfl) ?_
          refine pf_X8_41 C hf (by first | exact Or.inl rfl | exact Or.inr rfl | assumption | exact bI_01 _ | exact bi_01 _) dX8_step_90 (fun h6 u6 => ?_)
          have hp1 := u6.oth hp1 hf (by intro q; simp at q)
          have hf := u6.self
          refine w_goto (tgt := 0) C dX8_step_93 (by rfl) ?_
          have u9 : Up h0 a (mK rL wk (t, p, o, decide (j + 1 < nr), j + 1, 0, c, fu, s, w)) _ := (((u.tr u3).tr u4).tr u6).to (by rw [e8]; rfl)
          exact w_sub (ih (by omega) u9 (fun q => of_decide_eq_true q) (by omega) hs) (by repeat' first | exact trivial | rfl | constructor)
        · have e8 : decide (j + 1 < nr) = true := decide_eq_true (Nat.not_le.mp (fun q => c_82 (nI_le q (by omega))))
          refine w_iconst (v := 1) C dX8_step_85 (by rfl) ?_
          refine w_goto (tgt := 90) C dX8_step_86 (by rfl) ?_
          refine pf_X8_41 C hf (by first | exact Or.inl rfl | exact Or.inr rfl | assumption | exact bI_01 _ | exact bi_01 _) dX8_step_90 (fun h7 u7 => ?_)
          have hp1 := u7.oth hp1 hf (by intro q; simp at q)
          have hf := u7.self
          refine w_goto (tgt := 0) C dX8_step_93 (by rfl) ?_
          have u9 : Up h0 a (mK rL wk (t, p, o, decide (j + 1 < nr), j + 1, 0, c, fu, s, w)) _ := (((u.tr u3).tr u4).tr u7).to (by rw [e8]; rfl)
          exact w_sub (ih (by omega) u9 (fun q => of_decide_eq_true q) (by omega) hs) (by repeat' first | exact trivial | rfl | constructor)

set_option maxHeartbeats 4000000 in
set_option maxRecDepth 100000 in
theorem lp_X8_works {K : KC} (C : CX K RX8 cX8_step 2 rm_X8_step) (hl : (Kl K).stackTraces = false) {h0 : HM} {a rL wk : Nat} {k : KT} (hf : h0 a = some (mK rL wk k)) (hH : Ht (kH k)) (hw : h0 wk = some (wCell (Kt K) (kW k))) (hW : ∀ i, i < 3 → okW (kW k i))
    (kk : ∀ h', Up h0 wk (wCell (Kt K) (sp_workj (kH k) (kW k) 3)) h' → WW K (0, 0) 251 [some (.ref a), some (.int (nI 3))] [] h')
    : ∀ j : Nat, j ≤ 3 → ∀ {h : HM},  (u : Up h0 wk (wCell (Kt K) (sp_workj (kH k) (kW k) j)) h) → WW K (0, 0) 209 [some (.ref a), some (.int (nI j))] [] h := by
  refine up_ind ?_
  intro j hj ih h u
  have hf := u.oth hf hw (by intro q; simp at q)
  have hw1 := u.self
  refine w_iload_n C dX8_step_209 (by rfl) ?_
  refine w_iconst (v := 3) C dX8_step_210 (by rfl) ?_
  refine w_icmp_ge (tgt := 251) C dX8_step_211 (by rfl) (fun c_211 => ?_) (fun c_211 => ?_)
  · have e3 : ¬ j < 3 := fun q => nI_ge q (show 3 < 2 ^ 31 by decide) c_211
    obtain rfl : j = 3 := by omega
    exact kk _ u
  · have hj3 : j < 3 := Nat.not_le.mp (fun q => c_211 (nI_le (a := 3) q (by omega)))
    obtain ⟨x1, x2⟩ := hot_ok hH j
    have e9 := hot_near hH hj3
    first | refine w_aload_n C dX8_step_214 (by rfl) ?_ | refine w_aload_nN C dX8_step_214 (by rfl) ?_
    refine gf_X8_28 C hf dX8_step_215 ?_
    refine w_iload_n C dX8_step_218 (by rfl) ?_
    first | refine w_dup2 C dX8_step_219 (by rfl) (by rfl) ?_ | refine w_dup2d C dX8_step_219 (by rfl) ?_
    refine w_daldn C hw1 hj3 (by decide) dX8_step_220 ?_
    rw [workj_at]
    refine w_dconst0 C dX8_step_221 ?_
    first | refine w_aload_n C dX8_step_222 (by rfl) ?_ | refine w_aload_nN C dX8_step_222 (by rfl) ?_
    refine gf_X8_20 C hf dX8_step_223 ?_
    refine w_getsN C (cx_sw C).2.2.1.1 gt_1426 dX8_step_226 ?_
    refine w_iload_n C dX8_step_229 (by rfl) ?_
    refine w_tdaldn C (cx_sw C).2.2.1.2 hj3 (by decide) dX8_step_230 ?_
    refine w_dadd C dX8_step_231 (by rw [e9]; exact nn_of x1.n) ?_
    rw [e9]
    refine lc_X8_94 C dX8_step_232 ?_
    refine w_dsub C dX8_step_235 (nn_of (dsub_n x1.n (df_whole w700))) ?_
    refine w_dmax C c0j (dNj (dsub_n x1.n (df_whole w700))) gw_1415 (by rfl) (by rfl) (by rfl) (by rfl) ⟨by decide, by decide⟩ dX8_step_236 ?_
    refine lc_X8_102 C dX8_step_239 ?_
    refine w_ddiv C dX8_step_242 (nn_of (pk_add_n hH j)) ?_
    refine w_dadd C dX8_step_243 (by rw [addw_pk hH (hW j hj3)]; exact nn_of (addw_ok x1 x2 (hW j hj3)).n) ?_
    rw [addw_pk hH (hW j hj3)]
    refine w_dastn C hw1 hj3 (by decide) dX8_step_244 (fun h9 u9 => ?_)
    have u : Up h0 wk (wCell (Kt K) (sp_workj (kH k) (kW k) (j + 1))) h9 := (u.tr u9).to (by rw [← workj_s])
    refine w_iinc_1 (v := _ + (1)) C dX8_step_245 (by rfl) (by first | trivial | rfl) ?_
    refine w_goto (tgt := 209) C dX8_step_248 (by rfl) ?_
    rw [nI_1]
    exact w_sub (ih hj3 u) (by repeat' first | exact trivial | rfl | constructor)

set_option maxHeartbeats 4000000 in
set_option maxRecDepth 100000 in
theorem sg_X8_tail {K : KC} (C : CX K RX8 cX8_step 2 rm_X8_step) (hl : (Kl K).stackTraces = false) {h : HM} {a rL wk : Nat} {k2 : KT} (hf : h a = some (mK rL wk k2)) (hH : Ht (kH k2)) (hw : h wk = some (wCell (Kt K) (kW k2))) (hW : ∀ i, i < 3 → okW (kW k2 i)) {h9 : HM} {P : HM → Prop} (M : MX K (KD K) (Kt K) (Kl K) rm_X8_step none h9 (rV P) yX8_step.name) (fin : ∀ h', h' a = some (mK rL wk (kH k2, kP k2, kO k2, kL k2, kA k2, kE k2, kC k2 + 1, kF k2, kS k2, sp_work (kH k2) (kW k2))) → h' wk = some (wCell (Kt K) (sp_work (kH k2) (kW k2))) → Fr [a, wk] h h' → P h') : WW K (0, 0) 207 [some (.ref a), none] [] h := by
  refine w_iconst (v := 0) C dX8_step_207 (by rfl) ?_
  refine w_istore_1 C dX8_step_208 (by first | trivial | rfl) ?_
  refine lp_X8_works C hl hf hH hw hW (fun h1 u1 => ?_) 0 (by decide) (by rw [workj_0]; exact (hu_id hw).symm)
  have hf := u1.oth hf hw (by intro q; simp at q)
  have hw : h1 wk = some (wCell (Kt K) (sp_work (kH k2) (kW k2))) := u1.self
  have fr1 := u1.fr
  first | refine w_aload_n C dX8_step_251 (by rfl) ?_ | refine w_aload_nN C dX8_step_251 (by rfl) ?_
  refine w_dup C dX8_step_252 (by rfl) ?_
  refine gf_X8_51 C hf dX8_step_253 ?_
  refine w_iconst (v := 1) C dX8_step_256 (by rfl) ?_
  refine w_iadd C dX8_step_257 ?_
  refine pf_X8_51 C hf dX8_step_258 (fun h1 u1 => ?_)
  have hw := u1.oth hw hf (by intro q; simp at q)
  have hf := u1.self
  refine w_vret C M dX8_step_261 ⟨by decide, by decide⟩ ⟨rfl, ?_⟩
  exact fin _ hf hw ((fr1.sub (by simp)).tr ((u1).fr.sub (by simp)))

set_option maxHeartbeats 4000000 in
set_option maxRecDepth 100000 in
theorem m_X8_step {l : Launch} {D : va_G} {tc : Nat → ClassId} (hl : l.stackTraces = false) {h : HM} {a rL wk el nr : Nat} {mc : Int32} {k : KT} {f : Nat → Nat} {Rp : Nat → RT} (hf : h a = some (mK rL wk k)) (hp : h rL = some (lC mc el nr)) (hA : LA tc el nr f h) (hR : ∀ i, i < nr → h (f i) = some (iC (tc 0) 3 (rJ (Rp i)))) (hn : nr ≤ 5) (hL : okL nr k) (hw : h wk = some (wCell tc (kW k))) (hk : okk k) (hRr : okR9 nr Rp) :
    CT l D tc yX8_step cX8_step 2 none rm_X8_step [.ref a] h (rV (fun h' => h' a = some (mK rL wk (sp_step nr Rp k)) ∧ h' wk = some (wCell tc (kW (sp_step nr Rp k))) ∧ Fr [a, wk] h h')) := by
  refine CT.start [some (.ref a), none] (by decide) hl rfl rfl (fun K C M => ?_)
  obtain ⟨rfl, rfl, rfl, -⟩ := id M
  have C : CX K RX8 cX8_step 2 rm_X8_step := C
  obtain ⟨hH, hP, hW⟩ := id hk
  obtain ⟨L, A, E, e9⟩ : ∃ L A E, sp_pass nr Rp (kH k) 5 (kL k) (kA k) (kE k) = (L, A, E) := ⟨_, _, _, rfl⟩
  have pk := pass_ok nr Rp (kH k) hn 5 (kL k) (kA k) (kE k) hL.1 hL.2
  rw [e9] at pk
  refine lp_X8_pass C hl hf hp hA hR hn (t := kH k) (p := kP k) (o := kO k) (c := kC k) (fu := kF k) (s := kS k) (w := kW k) (fun ha ua => ?_) (kA k) hL.2 (lit := kL k) (held := kE k) (m := 5) (hu_id hf).symm hL.1 (by omega) e9
  have hp := ua.oth hp hf (by intro q; simp at q)
  have hw := ua.oth hw hf (by intro q; simp at q)
  have hA := hA.fr (fun cap f hE => ua.oth hE hf (by intro q; simp at q))
  have hR := fun i hi => ua.oth (hR i hi) hf (by intro q; simp at q)
  have hf : ha a = some (mK rL wk (kH k, kP k, kO k, L, A, E, kC k, kF k, kS k, kW k)) := ua.self
  first | refine w_aload_n C dX8_step_96 (by rfl) ?_ | refine w_aload_nN C dX8_step_96 (by rfl) ?_
  refine gf_X8_41 C hf dX8_step_97 ?_
  refine w_if_eq (tgt := 173) C dX8_step_100 (by rfl) (fun c_100 => ?_) (fun c_100 => ?_)
  · try simp only [cg_ge, cg_gt, cl_gt, cl_le, cl_eq, cl_lt, cl_ge, bi_eq0, bi_ne0, bI_eq0, Decidable.not_not, Bool.not_eq_false] at c_100
    have c_100 : L = false := c_100
    subst c_100
    have hst := step_of (step1_no e9)
    have hH2 := cool_ok hH (kO k)
    have hw9 := hw
    have hW9 := hW
    first | refine w_aload_n C dX8_step_173 (by rfl) ?_ | refine w_aload_nN C dX8_step_173 (by rfl) ?_
    refine w_dup C dX8_step_174 (by rfl) ?_
    refine gf_X8_20 C hf dX8_step_175 ?_
    first | refine w_aload_n C dX8_step_178 (by rfl) ?_ | refine w_aload_nN C dX8_step_178 (by rfl) ?_
    refine gf_X8_20 C hf dX8_step_179 ?_
    refine lc_X8_18 C dX8_step_182 ?_
    refine w_dsub C dX8_step_185 (nn_of hH.sub20.1.n) ?_
    first | refine w_aload_n C dX8_step_186 (by rfl) ?_ | refine w_aload_nN C dX8_step_186 (by rfl) ?_
    refine gf_X8_37 C hf dX8_step_187 ?_
    refine w_if_eq (tgt := 199) C dX8_step_190 (by rfl) (fun c_190 => ?_) (fun c_190 => ?_)
    · try simp only [cg_ge, cg_gt, cl_gt, cl_le, cl_eq, cl_lt, cl_ge, bi_eq0, bi_ne0, bI_eq0, Decidable.not_not, Bool.not_eq_false] at c_190
      have c_190 : kO k = false := c_190
      refine lc_X8_89 C dX8_step_199 ?_
      have n9a := (cool_n hH).2.2.2
      have n9b := (cool_n hH).2.2.1
      refine w_ddiv C dX8_step_202 (nn_of n9a) ?_
      refine w_dsub C dX8_step_203 (nn_of n9b) ?_
      refine pf_X8_20 C hf dX8_step_204 (fun h1 u1 => ?_)
      have hp := u1.oth hp hf (by intro q; simp at q)
      have hw := u1.oth hw hf (by intro q; simp at q)
      have hf := u1.self
      have hf9 := (u1.to (e' := mK rL wk (sp_cool (kH k) (kO k), kP k, kO k, false, A, E, kC k, kF k, kS k, kW k)) (by simp [sp_cool, kH, kP, kO, kL, kA, kE, kC, kF, kS, kW, show k.2.2.1 = _ from c_190])).self
      have hw9 := hw
      exact sg_X8_tail C hl hf9 hH2 hw9 hW9 M (fun h9 q1 q2 fr => ⟨by rw [hst]; exact q1, by rw [hst]; exact q2, ((((ua.tr u1)).fr).sub (by simp)).tr fr⟩)
    · try simp only [cg_ge, cg_gt, cl_gt, cl_le, cl_eq, cl_lt, cl_ge, bi_eq0, bi_ne0, bI_eq0, Decidable.not_not, Bool.not_eq_false] at c_190
      have c_190 : kO k = true := c_190
      refine lc_X8_87 C dX8_step_193 ?_
      refine w_goto (tgt := 202) C dX8_step_196 (by rfl) ?_
      have n9a := (cool_n hH).2.1
      have n9b := (cool_n hH).1
      refine w_ddiv C dX8_step_202 (nn_of n9a) ?_
      refine w_dsub C dX8_step_203 (nn_of n9b) ?_
      refine pf_X8_20 C hf dX8_step_204 (fun h2 u2 => ?_)
      have hp := u2.oth hp hf (by intro q; simp at q)
      have hw := u2.oth hw hf (by intro q; simp at q)
      have hf := u2.self
      have hf9 := (u2.to (e' := mK rL wk (sp_cool (kH k) (kO k), kP k, kO k, false, A, E, kC k, kF k, kS k, kW k)) (by simp [sp_cool, kH, kP, kO, kL, kA, kE, kC, kF, kS, kW, show k.2.2.1 = _ from c_190])).self
      have hw9 := hw
      exact sg_X8_tail C hl hf9 hH2 hw9 hW9 M (fun h9 q1 q2 fr => ⟨by rw [hst]; exact q1, by rw [hst]; exact q2, ((((ua.tr u2)).fr).sub (by simp)).tr fr⟩)
  · try simp only [cg_ge, cg_gt, cl_gt, cl_le, cl_eq, cl_lt, cl_ge, bi_eq0, bi_ne0, bI_eq0, Decidable.not_not, Bool.not_eq_false] at c_100
    have c_100 : L = true := c_100
    subst c_100
    have hA9 : A < nr := pk.1 rfl
    obtain ⟨q1, q2⟩ := hRr.2 A hA9
    obtain ⟨hH2, -, f3, -, -, f6, -⟩ := follow_ok (r := Rp A) (k := (kH k, kP k, kO k, true, A, E, kC k, kF k, kS k, kW k)) hH hP q1 q2
    obtain ⟨k2, e2⟩ : ∃ k2, sp_follow (Rp A) (kH k, kP k, kO k, true, A, E, kC k, kF k, kS k, kW k) = k2 := ⟨_, rfl⟩
    have hst := step_of (step1_lit e9 hA9 e2)
    rw [e2] at hH2 f3 f6
    have f3 : kW k2 = kW k := f3
    have f6 : kC k2 = kC k := f6
    first | refine w_aload_n C dX8_step_103 (by rfl) ?_ | refine w_aload_nN C dX8_step_103 (by rfl) ?_
    refine w_dup C dX8_step_104 (by rfl) ?_
    refine gf_X8_76 C hf dX8_step_105 ?_
    first | refine w_aload_n C dX8_step_108 (by rfl) ?_ | refine w_aload_nN C dX8_step_108 (by rfl) ?_
    refine gf_X8_51 C hf dX8_step_109 ?_
    refine w_bipush (v := (96)) C dX8_step_112 (by rfl) ?_
    refine w_irem C dX8_step_114 (by decide) ?_
    refine w_bipush (v := (32)) C dX8_step_115 (by rfl) ?_
    refine w_bipush (v := (79)) C dX8_step_117 (by rfl) ?_
    refine cl_X8_79 C (m_X10_isIn hl) (by rfl) (by rfl) ⟨by decide, by decide⟩ (by rfl) dX8_step_119 (fun z3 h3 p3 => ?_)
    obtain ⟨rfl, rfl⟩ := p3
    refine w_if_eq (tgt := 129) C dX8_step_122 (by rfl) (fun c_122 => ?_) (fun c_122 => ?_)
    · try simp only [cg_ge, cg_gt, cl_gt, cl_le, cl_eq, cl_lt, cl_ge, bi_eq0, bi_ne0, bI_eq0, Decidable.not_not, Bool.not_eq_false] at c_122
      refine w_iconst (v := 1) C dX8_step_129 (by rfl) ?_
      refine w_iadd C dX8_step_130 ?_
      have hf_131 := hf
      refine pf_X8_76 C hf dX8_step_131 (fun h4 u4 => ?_)
      have hp := u4.oth hp hf (by intro q; simp at q)
      have hw := u4.oth hw hf (by intro q; simp at q)
      have hf := u4.self
      have p131 := u4
      have hA := hA.fr (fun cap f hE => u4.oth hE hf_131 (by intro q; simp at q))
      have hR := fun i hi => u4.oth (hR i hi) hf_131 (by intro q; simp at q)
      have ef : sp_fuel (kC k) = 1 := if_neg c_122
      have hf := (p131.to (e' := mK rL wk (kH k, kP k, kO k, true, A, E, kC k, kF k + sp_fuel (kC k), kS k, kW k)) (by rw [ef])).self
      first | refine w_aload_n C dX8_step_134 (by rfl) ?_ | refine w_aload_nN C dX8_step_134 (by rfl) ?_
      first | refine w_aload_n C dX8_step_135 (by rfl) ?_ | refine w_aload_nN C dX8_step_135 (by rfl) ?_
      refine gf_X8_12 C hf dX8_step_136 ?_
      first | refine w_aload_n C dX8_step_139 (by rfl) ?_ | refine w_aload_nN C dX8_step_139 (by rfl) ?_
      refine gf_X8_44 C hf dX8_step_140 ?_
      refine cl_X8_66 C (m_get hl hp hA hA9) hp (by rfl) (by rfl) ⟨by decide, by decide⟩ (by rfl) dX8_step_143 (fun z5 h5 p5 => ?_)
      obtain ⟨rfl, rfl⟩ := p5
      refine w_castI C (hR A hA9) gw_1406 dX8_step_146 ?_
      refine w_iconst (v := 0) C dX8_step_149 (by rfl) ?_
      refine w_ialdn (j := 0) C (hR A hA9) (by decide) (by decide) dX8_step_150 ?_
      rw [rJ_0]
      first | refine w_aload_n C dX8_step_151 (by rfl) ?_ | refine w_aload_nN C dX8_step_151 (by rfl) ?_
      refine gf_X8_12 C hf dX8_step_152 ?_
      first | refine w_aload_n C dX8_step_155 (by rfl) ?_ | refine w_aload_nN C dX8_step_155 (by rfl) ?_
      refine gf_X8_44 C hf dX8_step_156 ?_
      refine cl_X8_66 C (m_get hl hp hA hA9) hp (by rfl) (by rfl) ⟨by decide, by decide⟩ (by rfl) dX8_step_159 (fun z6 h6 p6 => ?_)
      obtain ⟨rfl, rfl⟩ := p6
      refine w_castI C (hR A hA9) gw_1406 dX8_step_162 ?_
      refine w_iconst (v := 1) C dX8_step_165 (by rfl) ?_
      refine w_ialdn (j := 1) C (hR A hA9) (by decide) (by decide) dX8_step_166 ?_
      rw [rJ_1]
      refine cl_X8_83 C (m_X8_lit hl hf hH hP q1 q2) hf (by rfl) (by rfl) ⟨by decide, by decide⟩ (by rfl) dX8_step_167 (fun h7 p7 => ?_)
      have hf9 := p7.self
      rw [follow_fu e2, ← f6] at hf9
      have hw9 := p7.oth hw hf (by intro q; simp at q)
      rw [← f3] at hw9
      have hW9 : ∀ i, i < 3 → okW (kW k2 i) := by rw [f3]; exact hW
      have hp := p7.oth hp hf (by intro q; simp at q)
      have hw := p7.oth hw hf (by intro q; simp at q)
      have hf := p7.self
      refine w_goto (tgt := 207) C dX8_step_170 (by rfl) ?_
      exact sg_X8_tail C hl hf9 hH2 hw9 hW9 M (fun h9 q1 q2 fr => ⟨by rw [hst]; exact q1, by rw [hst]; exact q2, (((((ua.tr u4).tr p7)).fr).sub (by simp)).tr fr⟩)
    · try simp only [cg_ge, cg_gt, cl_gt, cl_le, cl_eq, cl_lt, cl_ge, bi_eq0, bi_ne0, bI_eq0, Decidable.not_not, Bool.not_eq_false] at c_122
      refine w_iconst (v := 2) C dX8_step_125 (by rfl) ?_
      refine w_goto (tgt := 130) C dX8_step_126 (by rfl) ?_
      refine w_iadd C dX8_step_130 ?_
      have hf_131 := hf
      refine pf_X8_76 C hf dX8_step_131 (fun h8 u8 => ?_)
      have hp := u8.oth hp hf (by intro q; simp at q)
      have hw := u8.oth hw hf (by intro q; simp at q)
      have hf := u8.self
      have p131 := u8
      have hA := hA.fr (fun cap f hE => u8.oth hE hf_131 (by intro q; simp at q))
      have hR := fun i hi => u8.oth (hR i hi) hf_131 (by intro q; simp at q)
      have ef : sp_fuel (kC k) = 2 := if_pos c_122
      have hf := (p131.to (e' := mK rL wk (kH k, kP k, kO k, true, A, E, kC k, kF k + sp_fuel (kC k), kS k, kW k)) (by rw [ef])).self
      first | refine w_aload_n C dX8_step_134 (by rfl) ?_ | refine w_aload_nN C dX8_step_134 (by rfl) ?_
      first | refine w_aload_n C dX8_step_135 (by rfl) ?_ | refine w_aload_nN C dX8_step_135 (by rfl) ?_
      refine gf_X8_12 C hf dX8_step_136 ?_
      first | refine w_aload_n C dX8_step_139 (by rfl) ?_ | refine w_aload_nN C dX8_step_139 (by rfl) ?_
      refine gf_X8_44 C hf dX8_step_140 ?_
      refine cl_X8_66 C (m_get hl hp hA hA9) hp (by rfl) (by rfl) ⟨by decide, by decide⟩ (by rfl) dX8_step_143 (fun z9 h9 p9 => ?_)
      obtain ⟨rfl, rfl⟩ := p9
      refine w_castI C (hR A hA9) gw_1406 dX8_step_146 ?_
      refine w_iconst (v := 0) C dX8_step_149 (by rfl) ?_
      refine w_ialdn (j := 0) C (hR A hA9) (by decide) (by decide) dX8_step_150 ?_
      rw [rJ_0]
      first | refine w_aload_n C dX8_step_151 (by rfl) ?_ | refine w_aload_nN C dX8_step_151 (by rfl) ?_
      refine gf_X8_12 C hf dX8_step_152 ?_
      first | refine w_aload_n C dX8_step_155 (by rfl) ?_ | refine w_aload_nN C dX8_step_155 (by rfl) ?_
      refine gf_X8_44 C hf dX8_step_156 ?_
      refine cl_X8_66 C (m_get hl hp hA hA9) hp (by rfl) (by rfl) ⟨by decide, by decide⟩ (by rfl) dX8_step_159 (fun z10 h10 p10 => ?_)
      obtain ⟨rfl, rfl⟩ := p10
      refine w_castI C (hR A hA9) gw_1406 dX8_step_162 ?_
      refine w_iconst (v := 1) C dX8_step_165 (by rfl) ?_
      refine w_ialdn (j := 1) C (hR A hA9) (by decide) (by decide) dX8_step_166 ?_
      rw [rJ_1]
      refine cl_X8_83 C (m_X8_lit hl hf hH hP q1 q2) hf (by rfl) (by rfl) ⟨by decide, by decide⟩ (by rfl) dX8_step_167 (fun h11 p11 => ?_)
      have hf9 := p11.self
      rw [follow_fu e2, ← f6] at hf9
      have hw9 := p11.oth hw hf (by intro q; simp at q)
      rw [← f3] at hw9
      have hW9 : ∀ i, i < 3 → okW (kW k2 i) := by rw [f3]; exact hW
      have hp := p11.oth hp hf (by intro q; simp at q)
      have hw := p11.oth hw hf (by intro q; simp at q)
      have hf := p11.self
      refine w_goto (tgt := 207) C dX8_step_170 (by rfl) ?_
      exact sg_X8_tail C hl hf9 hH2 hw9 hW9 M (fun h9 q1 q2 fr => ⟨by rw [hst]; exact q1, by rw [hst]; exact q2, (((((ua.tr u8).tr p11)).fr).sub (by simp)).tr fr⟩)
