/-! THE REFERENCE: ITS KILN -/
theorem Fr.nil9 {S : List Nat} {h h1 : HM} (u : Fr S h h1) {w : Nat} (n : w ∉ S) (hn : h1 w = none) : h w = none := by
  cases hw : h w with
  | none => rfl
  | some z => have := u w z n hw; rw [hn] at this; cases this
theorem Fr.fresh {S : List Nat} {h h1 : HM} (u : Fr S h h1) (hS : ∀ b ∈ S, h b = none) : Fr [] h h1 := fun b z _ hb => u b z (fun m => by rw [hS b m] at hb; cases hb) hb
theorem rJ_0 (r : RT) : rJ r 0 = r.1 := rfl
theorem rJ_1 (r : RT) : rJ r 1 = r.2.1 := rfl
theorem rJ_2 (r : RT) : rJ r 2 = r.2.2 := rfl
theorem row9_i {n j : Nat} {F : Nat → Nat} (h : j < n) : row9 n F j = some (F j) := if_pos h
/-- a list's row, when the list is not empty -/
theorem LA.get {tc : Nat → ClassId} {el n : Nat} {F : Nat → Nat} {h : HM} (A : LA tc el n F h) {j : Nat} (hj : j < n) : ∃ cap, h el = some (qCell (tc 8) cap (row9 n F)) ∧ n ≤ cap ∧ cap < 2 ^ 31 := by
  rcases A with ⟨-, h0⟩ | ⟨cap, a1, a2, a3, -⟩
  · omega
  · exact ⟨cap, a1, a2, by omega⟩
theorem m_get {l : Launch} {D : va_G} {tc : Nat → ClassId} (hl : l.stackTraces = false) {h : HM} {a el n j : Nat} {mc : Int32} {F : Nat → Nat} (hf : h a = some (lC mc el n)) (A : LA tc el n F h) (hj : j < n) :
    CT l D tc yJx4a65c_get_915e3 cJx4a65c_get_915e3 2 (some (FieldType.object "java/lang/Object")) rm_Jx4a65c_get_915e3 [.ref a, .int (nI j)] h (rR (fun z h' => h' = h ∧ z = .ref (F j))) := by
  obtain ⟨cap, a1, a2, a3⟩ := A.get hj
  exact m_Jx4a65c_get_915e3 hl hf a1 hj a2 a3 (row9_i hj)
/-- a kiln like another, its clock too -/
abbrev cpk (k : KT) : KT := (kH k, kP k, kO k, kL k, kA k, kE k, kC k, 0, 0, sp_mix (kW k) (fun _ => 0) 3)
theorem cpy_mix (v w : Nat → UInt64) : va_cpy v w 0 0 3 = sp_mix v w 3 := by
  funext i
  unfold va_cpy sp_mix
  by_cases h : i < 3
  · rw [if_pos ⟨Nat.zero_le _, by omega⟩, if_pos h, show 0 + (i - 0) = i by omega]
  · rw [if_neg (by omega), if_neg h]
theorem follow_fu {R : RT} {t : UInt64} {p : UInt32} {o L : Bool} {A : Nat} {E c fu x s : Int32} {w : Nat → UInt64} {k2 : KT} (e : sp_follow R (t, p, o, L, A, E, c, fu, s, w) = k2) : sp_follow R (t, p, o, L, A, E, c, fu + x, s, w) = (kH k2, kP k2, kO k2, kL k2, kA k2, kE k2, kC k2, kF k2 + x, kS k2, kW k2) := by
  subst e
  unfold sp_follow sp_rise
  dsimp only
  split
  · split <;> rfl
  · split <;> rfl
theorem fall_pk_n {t : UInt64} {r : RT} (H : Ht t) (hr : 10 ≤ r.1.toInt ∧ r.1.toInt ≤ 200) : dN (FP.dsub t (pk64 false (FP.i2d r.1) (sp_loss t))) := by
  have p := dO_pos
  have e1 : 0 < dz (FP.i2d r.1) := by rw [dz_i2d]; exact Int.mul_pos (by omega) p
  rw [pk_min2 (df_i2d _).n H.part8.1.n e1]
  split
  · exact dsub_n H.1 H.part8.1
  · exact dsub_n H.1 (df_i2d _)
theorem rise_pk_n {t g : UInt64} {r : RT} (H : Ht t) (hr : 10 ≤ r.1.toInt ∧ r.1.toInt ≤ 200) (hg : dN g) (h1 : ¬ dlt g FP.dconst1) : dN (FP.dadd t (pk64 false (FP.i2d r.1) g)) := by
  have p := dO_pos
  have e1 : 0 < dz (FP.i2d r.1) := by rw [dz_i2d]; exact Int.mul_pos (by omega) p
  rw [pk_min2 (df_i2d _).n hg e1]
  exact dadd_n H.1 (inc_ok hr hg h1).1
theorem pk_add_n {t : UInt64} (H : Ht t) (s : Nat) : dN (FP.ddiv (pk64 true FP.dconst0 (FP.dsub (sp_hot s t) 4649368480934526976)) 4629700416936869888) := by
  obtain ⟨x1, x2⟩ := hot_ok H s
  have d7 : DF 4649368480934526976 := df_whole w700
  have dc0 : FP.dconst0 = 0 := by decide +kernel
  have nn := dsub_n x1.n d7
  rw [dc0]
  unfold pk64 Native.java_lang_Math.nans.pick64
  have z0 : dN (FP.ddiv 0 4629700416936869888) := by rw [show FP.ddiv 0 4629700416936869888 = 0 from by decide +kernel]; exact df_0.n
  rcases tri9 df_0.n nn with v | v | v
  · rw [show FP.dcmp 0 (FP.dsub (sp_hot s t) 4649368480934526976) = some .lt from v]
    have l1 := dcmp_lt9 df_0.n nn v
    rw [dz_0] at l1
    have gt : dgt (sp_hot s t) 4649368480934526976 := by
      rw [dcmp_gt9i x1.n d7.n]
      rcases Int.lt_or_le (dz 4649368480934526976) (dz (sp_hot s t)) with w | w
      · exact w
      · have := dsub_le x1 d7 df_0.n (V := 0) (by rw [dz_0]; omega)
        rw [dz_0] at this; omega
    obtain ⟨y1, y2⟩ := hot700 x1 x2 gt
    exact (okW.div y1 (okW.of y1 y2)).n
  · rw [show FP.dcmp 0 (FP.dsub (sp_hot s t) 4649368480934526976) = some .gt from v]; exact z0
  · rw [show FP.dcmp 0 (FP.dsub (sp_hot s t) 4649368480934526976) = some .eq from v]
    dsimp only
    rw [if_neg (by decide)]
    exact z0
theorem dfc0 : DF FP.dconst0 := by rw [show FP.dconst0 = 0 from by decide +kernel]; exact df_0
theorem c0j : FP.dIsNaN FP.dconst0 = false := by decide +kernel

set_option maxHeartbeats 4000000 in
set_option maxRecDepth 100000 in
theorem m_X8_init {l : Launch} {D : va_G} {tc : Nat → ClassId} (hl : l.stackTraces = false) {h : HM} {a : Nat} (hf : h a = some (.inr (10, [.null, .double 0, .float 0, .int 0, .int 0, .int 0, .int 0, .int 0, .int 0, .int 0, .null]))) :
    CT l D tc yX8_init cX8_init 1 none rm_X8_init [.ref a] h (rV (fun h' => ∃ q w, h q = none ∧ h w = none ∧ ¬ q = w ∧ h' a = some (mK q w k0) ∧ h' q = some (lC 0 (tc 13) 0) ∧ h' w = some (wCell tc (fun _ => 0)) ∧ Fr [a] h h')) := by
  refine CT.start [some (.ref a)] (by decide) hl rfl rfl (fun K C M => ?_)
  obtain ⟨rfl, rfl, rfl, -⟩ := id M
  have C : CX K RX8 cX8_init 1 rm_X8_init := C
  first | refine w_aload_n C dX8_init_0 (by rfl) ?_ | refine w_aload_nN C dX8_init_0 (by rfl) ?_
  refine w_obji C gw_977 gw_89 gw_90 (by rfl) (by rfl) (by rfl) dX8_init_1 ?_
  first | refine w_aload_n C dX8_init_4 (by rfl) ?_ | refine w_aload_nN C dX8_init_4 (by rfl) ?_
  have hf0 := hf
  refine nw_X8_9 C (by decide) (by decide) dX8_init_5 (fun q h1 n1 u1 => ?_)
  have hf := u1.new hf n1
  have f_q := u1.self
  have nq := n1
  have hqa : ¬ q = a := fun w => by rw [← w, nq] at hf0; cases hf0
  refine w_dup C dX8_init_8 (by rfl) ?_
  refine cl_X8_11 C (m_Jx4a65c_init_da8c8 hl f_q) (by rfl) (by rfl) ⟨by decide, by decide⟩ (by rfl) dX8_init_9 (fun h2 p2 => ?_)
  have hf := p2.oth hf f_q (by intro q; simp at q)
  have f_q := p2.self
  refine pf_X8_12 C hf dX8_init_12 M.2.2.2.2.2.2.1 (fun h3 u3 => ?_)
  have f_q := u3.oth f_q hf (by intro q; simp at q)
  have hf := u3.self
  first | refine w_aload_n C dX8_init_15 (by rfl) ?_ | refine w_aload_nN C dX8_init_15 (by rfl) ?_
  refine lc_X8_18 C dX8_init_16 ?_
  refine pf_X8_20 C hf dX8_init_19 (fun h4 u4 => ?_)
  have f_q := u4.oth f_q hf (by intro q; simp at q)
  have hf := u4.self
  first | refine w_aload_n C dX8_init_22 (by rfl) ?_ | refine w_aload_nN C dX8_init_22 (by rfl) ?_
  refine w_fconst1 C dX8_init_23 ?_
  refine pf_X8_24 C hf dX8_init_24 (fun h5 u5 => ?_)
  have f_q := u5.oth f_q hf (by intro q; simp at q)
  have hf := u5.self
  first | refine w_aload_n C dX8_init_27 (by rfl) ?_ | refine w_aload_nN C dX8_init_27 (by rfl) ?_
  refine w_iconst (v := 3) C dX8_init_28 (by rfl) ?_
  have fr0 : Fr [a, q] h _ := ((((((u1.frN n1).sub (by simp)).tr (p2.fr.sub (by simp))).tr (u3.fr.sub (by simp))).tr (u4.fr.sub (by simp))).tr (u5.fr.sub (by simp)))
  have hf_0 := hf
  have hq_0 := f_q
  refine w_newadn C gw_175 (by decide) (by rfl) (by decide) (by decide) (by decide) dX8_init_29 (fun w h6 n6 u6 => ?_)
  have hf := u6.new hf n6
  have f_q := u6.new f_q n6
  have f_w := u6.self
  have nw : h w = none := fr0.nil9 (by intro m; simp at m; rcases m with m | m; exact absurd (hf_0.symm.trans (m ▸ n6)) (by simp); exact absurd (hq_0.symm.trans (m ▸ n6)) (by simp)) n6
  have hqw : ¬ q = w := fun m => absurd (hq_0.symm.trans (m ▸ n6)) (by simp)
  refine pf_X8_28 C hf dX8_init_31 M.2.2.2.2.2.2.1 (fun h7 u7 => ?_)
  have f_q := u7.oth f_q hf (by intro q; simp at q)
  have f_w := u7.oth f_w hf (by intro q; simp at q)
  have hf := u7.self
  refine w_vret C M dX8_init_34 ⟨by decide, by decide⟩ ⟨rfl, ?_⟩
  refine ⟨q, w, nq, nw, hqw, hf, f_q, f_w, ?_⟩
  have fr : Fr [a, q] h _ := ((((((((u1.frN n1).sub (by simp)).tr (p2.fr.sub (by simp))).tr (u3.fr.sub (by simp))).tr (u4.fr.sub (by simp))).tr (u5.fr.sub (by simp))).tr ((u6.frN n6).sub (by simp))).tr (u7.fr.sub (by simp)))
  exact fun b z n9 hb => fr b z (by intro m; simp at m; rcases m with m | m; exact n9 (by simp [m]); rw [m, nq] at hb; cases hb) hb

set_option maxHeartbeats 4000000 in
set_option maxRecDepth 100000 in
theorem m_X8_gives {l : Launch} {D : va_G} {tc : Nat → ClassId} (hl : l.stackTraces = false) {h : HM} {a rL wk : Nat} {k : KT} (hf : h a = some (mK rL wk k)) (hH : Ht (kH k)) (hP : FP.Core.FFin (kP k)) :
    CT l D tc yX8_gives cX8_gives 1 (some FieldType.double) rm_X8_gives [.ref a] h (rD (fun z h' => h' = h ∧ z = sp_gives (kH k) (kP k) (kO k))) := by
  refine CT.start [some (.ref a)] (by decide) hl rfl rfl (fun K C M => ?_)
  obtain ⟨rfl, rfl, rfl, -⟩ := id M
  have C : CX K RX8 cX8_gives 1 rm_X8_gives := C
  first | refine w_aload_n C dX8_gives_0 (by rfl) ?_ | refine w_aload_nN C dX8_gives_0 (by rfl) ?_
  refine gf_X8_24 C hf dX8_gives_1 ?_
  refine w_f2d C dX8_gives_4 (nn_of (dfin_f2d hP).n) ?_
  refine lc_X8_60 C dX8_gives_5 ?_
  refine w_dmul C dX8_gives_8 (nn_of (gives_n hH hP).1) ?_
  first | refine w_aload_n C dX8_gives_9 (by rfl) ?_ | refine w_aload_nN C dX8_gives_9 (by rfl) ?_
  refine gf_X8_20 C hf dX8_gives_10 ?_
  refine lc_X8_18 C dX8_gives_13 ?_
  refine w_dsub C dX8_gives_16 (nn_of hH.sub20.1.n) ?_
  refine lc_X8_62 C dX8_gives_17 ?_
  refine w_ddiv C dX8_gives_20 (nn_of hH.part16.n) ?_
  refine w_dsub C dX8_gives_21 (nn_of (gives_n hH hP).2.1) ?_
  first | refine w_aload_n C dX8_gives_22 (by rfl) ?_ | refine w_aload_nN C dX8_gives_22 (by rfl) ?_
  refine gf_X8_37 C hf dX8_gives_23 ?_
  refine w_if_eq (tgt := 35) C dX8_gives_26 (by rfl) (fun c_26 => ?_) (fun c_26 => ?_)
  · try simp only [cg_ge, cg_gt, cl_gt, cl_le, cl_eq, cl_lt, cl_ge, bi_eq0, bi_ne0, bI_eq0, Decidable.not_not, Bool.not_eq_false] at c_26
    refine w_dconst0 C dX8_gives_35 ?_
    have dz9 := dfc0
    refine w_dsub C dX8_gives_36 (nn_of (dsub_n (gives_n hH hP).2.1 dz9)) ?_
    refine w_dret C M dX8_gives_37 ⟨by decide, by decide⟩ ⟨_, rfl, ?_⟩
    rw [dsub_0 (gives_n hH hP).2.1]
    exact ⟨rfl, by simp [sp_gives, c_26]⟩
  · try simp only [cg_ge, cg_gt, cl_gt, cl_le, cl_eq, cl_lt, cl_ge, bi_eq0, bi_ne0, bI_eq0, Decidable.not_not, Bool.not_eq_false] at c_26
    refine lc_X8_64 C dX8_gives_29 ?_
    refine w_goto (tgt := 36) C dX8_gives_32 (by rfl) ?_
    have dz9 := df_whole w50
    refine w_dsub C dX8_gives_36 (nn_of (dsub_n (gives_n hH hP).2.1 dz9)) ?_
    refine w_dret C M dX8_gives_37 ⟨by decide, by decide⟩ ⟨_, rfl, ?_⟩
    exact ⟨rfl, by simp [sp_gives, c_26]⟩

set_option maxHeartbeats 4000000 in
set_option maxRecDepth 100000 in
theorem m_X8_lit {l : Launch} {D : va_G} {tc : Nat → ClassId} (hl : l.stackTraces = false) {h : HM} {a rL wk : Nat} {k : KT} (hf : h a = some (mK rL wk k)) (hH : Ht (kH k)) (hP : FP.Core.FFin (kP k)) {R : RT} (hr1 : 10 ≤ R.1.toInt ∧ R.1.toInt ≤ 200) (hr2 : 100 ≤ R.2.1.toInt ∧ R.2.1.toInt ≤ 1400) :
    CT l D tc yX8_lit cX8_lit 3 none rm_X8_lit [.ref a, .int R.1, .int R.2.1] h (rV (fun h' => Up h a (mK rL wk (sp_follow R k)) h')) := by
  refine CT.start [some (.ref a), some (.int R.1), some (.int R.2.1)] (by decide) hl rfl rfl (fun K C M => ?_)
  obtain ⟨rfl, rfl, rfl, -⟩ := id M
  have C : CX K RX8 cX8_lit 3 rm_X8_lit := C
  have tr9 := tri9 hH.1 (df_i2d R.2.1).n
  first | refine w_aload_n C dX8_lit_0 (by rfl) ?_ | refine w_aload_nN C dX8_lit_0 (by rfl) ?_
  refine gf_X8_20 C hf dX8_lit_1 ?_
  refine w_iload_n C dX8_lit_4 (by rfl) ?_
  refine w_i2d C dX8_lit_5 ?_
  refine w_dcmp C dX8_lit_6 ?_
  refine w_if_ne (tgt := 23) C dX8_lit_7 (by rfl) (fun c_7 => ?_) (fun c_7 => ?_)
  · try simp only [cg_ge, cg_gt, cl_gt, cl_le, cl_eq, cl_lt, cl_ge, bi_eq0, bi_ne0, bI_eq0, Decidable.not_not, Bool.not_eq_false] at c_7
    first | refine w_aload_n C dX8_lit_23 (by rfl) ?_ | refine w_aload_nN C dX8_lit_23 (by rfl) ?_
    refine gf_X8_20 C hf dX8_lit_24 ?_
    refine w_iload_n C dX8_lit_27 (by rfl) ?_
    refine w_i2d C dX8_lit_28 ?_
    refine w_dcmp C dX8_lit_29 ?_
    refine w_if_le (tgt := 67) C dX8_lit_30 (by rfl) (fun c_30 => ?_) (fun c_30 => ?_)
    · try simp only [cg_ge, cg_gt, cl_gt, cl_le, cl_eq, cl_lt, cl_ge, bi_eq0, bi_ne0, bI_eq0, Decidable.not_not, Bool.not_eq_false] at c_30
      have c_lt : dlt (kH k) (FP.i2d R.2.1) := by rcases tr9 with v | v | v; exact v; exact absurd v c_30; exact absurd v c_7
      first | refine w_aload_n C dX8_lit_67 (by rfl) ?_ | refine w_aload_nN C dX8_lit_67 (by rfl) ?_
      refine cl_X8_107 C (m_X8_gives hl hf hH hP) hf (by rfl) (by rfl) ⟨by decide, by decide⟩ (by rfl) dX8_lit_68 (fun z1 h1 p1 => ?_)
      obtain ⟨rfl, rfl⟩ := p1
      have hg := (gives_n hH hP).2.2 (kO k)
      refine w_dconst1 C dX8_lit_71 ?_
      refine w_dcmp C dX8_lit_72 ?_
      refine w_if_ge (tgt := 94) C dX8_lit_73 (by rfl) (fun c_73 => ?_) (fun c_73 => ?_)
      · try simp only [cg_ge, cg_gt, cl_gt, cl_le, cl_eq, cl_lt, cl_ge, bi_eq0, bi_ne0, bI_eq0, Decidable.not_not, Bool.not_eq_false] at c_73
        first | refine w_aload_n C dX8_lit_94 (by rfl) ?_ | refine w_aload_nN C dX8_lit_94 (by rfl) ?_
        refine w_iload_n C dX8_lit_95 (by rfl) ?_
        refine w_i2d C dX8_lit_96 ?_
        first | refine w_aload_n C dX8_lit_97 (by rfl) ?_ | refine w_aload_nN C dX8_lit_97 (by rfl) ?_
        refine gf_X8_20 C hf dX8_lit_98 ?_
        refine w_iload_n C dX8_lit_101 (by rfl) ?_
        refine w_i2d C dX8_lit_102 ?_
        first | refine w_aload_n C dX8_lit_103 (by rfl) ?_ | refine w_aload_nN C dX8_lit_103 (by rfl) ?_
        refine cl_X8_107 C (m_X8_gives hl hf hH hP) hf (by rfl) (by rfl) ⟨by decide, by decide⟩ (by rfl) dX8_lit_104 (fun z2 h2 p2 => ?_)
        obtain ⟨rfl, rfl⟩ := p2
        have hg := (gives_n hH hP).2.2 (kO k)
        refine w_dmin C (dNj (df_i2d _).n) (dNj hg) gw_1414 (by rfl) (by rfl) (by rfl) (by rfl) ⟨by decide, by decide⟩ dX8_lit_107 ?_
        refine w_dadd C dX8_lit_110 (nn_of (rise_pk_n hH hr1 hg c_73)) ?_
        refine w_dmin C (dNj (df_i2d _).n) (dNj (rise_pk_n hH hr1 hg c_73)) gw_1414 (by rfl) (by rfl) (by rfl) (by rfl) ⟨by decide, by decide⟩ dX8_lit_111 ?_
        refine pf_X8_20 C hf dX8_lit_114 (fun h3 u3 => ?_)
        have hf := u3.self
        refine w_vret C M dX8_lit_117 ⟨by decide, by decide⟩ ⟨rfl, ?_⟩
        exact u3.to (by rw [follow_lt c_lt, sp_rise, if_neg c_73, ← rise_pk hH hr1 hr2 hg c_73])
      · try simp only [cg_ge, cg_gt, cl_gt, cl_le, cl_eq, cl_lt, cl_ge, bi_eq0, bi_ne0, bI_eq0, Decidable.not_not, Bool.not_eq_false] at c_73
        first | refine w_aload_n C dX8_lit_76 (by rfl) ?_ | refine w_aload_nN C dX8_lit_76 (by rfl) ?_
        refine w_iconst (v := 0) C dX8_lit_77 (by rfl) ?_
        refine pf_X8_41 C hf (by first | exact Or.inl rfl | exact Or.inr rfl | assumption | exact bI_01 _ | exact bi_01 _) dX8_lit_78 (fun h4 u4 => ?_)
        have hf := u4.self
        first | refine w_aload_n C dX8_lit_81 (by rfl) ?_ | refine w_aload_nN C dX8_lit_81 (by rfl) ?_
        refine w_dup C dX8_lit_82 (by rfl) ?_
        refine gf_X8_111 C hf dX8_lit_83 ?_
        refine w_iconst (v := 1) C dX8_lit_86 (by rfl) ?_
        refine w_iadd C dX8_lit_87 ?_
        refine pf_X8_111 C hf dX8_lit_88 (fun h5 u5 => ?_)
        have hf := u5.self
        refine w_goto (tgt := 117) C dX8_lit_91 (by rfl) ?_
        refine w_vret C M dX8_lit_117 ⟨by decide, by decide⟩ ⟨rfl, ?_⟩
        exact (u4.tr u5).to (by rw [follow_lt c_lt, sp_rise, if_pos c_73]; rfl)
    · try simp only [cg_ge, cg_gt, cl_gt, cl_le, cl_eq, cl_lt, cl_ge, bi_eq0, bi_ne0, bI_eq0, Decidable.not_not, Bool.not_eq_false] at c_30
      have nl : ¬ dlt (kH k) (FP.i2d R.2.1) := fun w => absurd (c_30.symm.trans w) (by decide)
      first | refine w_aload_n C dX8_lit_33 (by rfl) ?_ | refine w_aload_nN C dX8_lit_33 (by rfl) ?_
      refine w_iload_n C dX8_lit_34 (by rfl) ?_
      refine w_i2d C dX8_lit_35 ?_
      first | refine w_aload_n C dX8_lit_36 (by rfl) ?_ | refine w_aload_nN C dX8_lit_36 (by rfl) ?_
      refine gf_X8_20 C hf dX8_lit_37 ?_
      refine w_iload_n C dX8_lit_40 (by rfl) ?_
      refine w_i2d C dX8_lit_41 ?_
      first | refine w_aload_n C dX8_lit_42 (by rfl) ?_ | refine w_aload_nN C dX8_lit_42 (by rfl) ?_
      refine gf_X8_20 C hf dX8_lit_43 ?_
      refine lc_X8_18 C dX8_lit_46 ?_
      refine w_dsub C dX8_lit_49 (nn_of hH.sub20.1.n) ?_
      refine lc_X8_89 C dX8_lit_50 ?_
      refine w_ddiv C dX8_lit_53 (nn_of hH.part8.1.n) ?_
      refine w_dmin C (dNj (df_i2d _).n) (dNj hH.part8.1.n) gw_1414 (by rfl) (by rfl) (by rfl) (by rfl) ⟨by decide, by decide⟩ dX8_lit_54 ?_
      refine w_dsub C dX8_lit_57 (nn_of (fall_pk_n hH hr1)) ?_
      refine w_dmax C (dNj (df_i2d _).n) (dNj (fall_pk_n hH hr1)) gw_1415 (by rfl) (by rfl) (by rfl) (by rfl) ⟨by decide, by decide⟩ dX8_lit_58 ?_
      refine pf_X8_20 C hf dX8_lit_61 (fun h6 u6 => ?_)
      have hf := u6.self
      refine w_goto (tgt := 117) C dX8_lit_64 (by rfl) ?_
      refine w_vret C M dX8_lit_117 ⟨by decide, by decide⟩ ⟨rfl, ?_⟩
      exact u6.to (by rw [follow_gt nl c_30, ← fall_pk hH hr1 hr2]; rfl)
  · try simp only [cg_ge, cg_gt, cl_gt, cl_le, cl_eq, cl_lt, cl_ge, bi_eq0, bi_ne0, bI_eq0, Decidable.not_not, Bool.not_eq_false] at c_7
    have nl : ¬ dlt (kH k) (FP.i2d R.2.1) := fun w => absurd (c_7.symm.trans w) (by decide)
    have ng : ¬ dgt (kH k) (FP.i2d R.2.1) := fun w => absurd (c_7.symm.trans w) (by decide)
    first | refine w_aload_n C dX8_lit_10 (by rfl) ?_ | refine w_aload_nN C dX8_lit_10 (by rfl) ?_
    refine w_dup C dX8_lit_11 (by rfl) ?_
    refine gf_X8_48 C hf dX8_lit_12 ?_
    refine w_iconst (v := 1) C dX8_lit_15 (by rfl) ?_
    refine w_iadd C dX8_lit_16 ?_
    refine pf_X8_48 C hf dX8_lit_17 (fun h7 u7 => ?_)
    have hf := u7.self
    refine w_goto (tgt := 117) C dX8_lit_20 (by rfl) ?_
    refine w_vret C M dX8_lit_117 ⟨by decide, by decide⟩ ⟨rfl, ?_⟩
    exact u7.to (by rw [follow_eq nl ng])

set_option maxHeartbeats 4000000 in
set_option maxRecDepth 100000 in
theorem lp_X8_cone {K : KC} (C : CX K RX8 cX8_cone 7 rm_X8_cone) (hl : (Kl K).stackTraces = false) {h : HM} {a rL wk : Nat} {k : KT} (hf : h a = some (mK rL wk k)) (hw : h wk = some (wCell (Kt K) (kW k))) {s : Nat} (hs : s < 3)
    (kk : WW K (0, 0) 56 [some (.ref a), some (.int (nI s)), some (.int (sp_cone (kW k s) 12)), some (.ref (Kt K 11)), some (.int (nI 12)), some (.int (nI 12)), none] [] h)
    : ∀ j : Nat, j ≤ 12 → WW K (0, 0) 13 [some (.ref a), some (.int (nI s)), some (.int (sp_cone (kW k s) j)), some (.ref (Kt K 11)), some (.int (nI 12)), some (.int (nI j)), none] [] h := by
  refine up_ind ?_
  intro j hj ih  
  refine w_iload C dX8_cone_13 (by rfl) ?_
  refine w_iload C dX8_cone_15 (by rfl) ?_
  refine w_icmp_ge (tgt := 56) C dX8_cone_17 (by rfl) (fun c_17 => ?_) (fun c_17 => ?_)
  · have e3 : ¬ j < 12 := fun q => nI_ge q (show 12 < 2 ^ 31 by decide) c_17
    obtain rfl : j = 12 := by omega
    exact kk
  · have hj3 : j < 12 := Nat.not_le.mp (fun q => c_17 (nI_le (a := 12) q (by omega)))
    first | refine w_aload_n C dX8_cone_20 (by rfl) ?_ | refine w_aload_nN C dX8_cone_20 (by rfl) ?_
    refine w_iload C dX8_cone_21 (by rfl) ?_
    refine w_tialdn C (cx_sw C).2.1.2 hj3 (by decide) dX8_cone_23 ?_
    refine w_istore_6 C dX8_cone_24 (by first | trivial | rfl) ?_
    refine w_iload_n C dX8_cone_26 (by rfl) ?_
    first | refine w_aload_n C dX8_cone_27 (by rfl) ?_ | refine w_aload_nN C dX8_cone_27 (by rfl) ?_
    refine gf_X8_28 C hf dX8_cone_28 ?_
    refine w_iload_n C dX8_cone_31 (by rfl) ?_
    refine w_daldn C hw hs (by decide) dX8_cone_32 ?_
    refine w_iload C dX8_cone_33 (by rfl) ?_
    refine w_i2d C dX8_cone_35 ?_
    refine w_dcmp C dX8_cone_36 ?_
    refine w_if_lt (tgt := 44) C dX8_cone_37 (by rfl) (fun c_37 => ?_) (fun c_37 => ?_)
    · try simp only [cg_ge, cg_gt, cl_gt, cl_le, cl_eq, cl_lt, cl_ge, bi_eq0, bi_ne0, bI_eq0, Decidable.not_not, Bool.not_eq_false] at c_37
      refine w_iconst (v := 0) C dX8_cone_44 (by rfl) ?_
      refine cl_X8_117 C (m_X10_one hl) (by rfl) (by rfl) ⟨by decide, by decide⟩ (by rfl) dX8_cone_45 (fun z1 h1 p1 => ?_)
      obtain ⟨rfl, e9⟩ := p1
      obtain rfl : z1 = bI (dge (kW k s) (FP.i2d (cwC j))) := by
        rw [e9]
        first | exact bI_t c_37 | exact bI_f c_37
      refine w_iadd C dX8_cone_48 ?_
      rw [show sp_cone (kW k s) j + bI (dge (kW k s) (FP.i2d (cwC j))) = sp_cone (kW k s) (j + 1) from rfl]
      refine w_istore_2 C dX8_cone_49 (by first | trivial | rfl) ?_
      refine w_iinc_5 (v := _ + (1)) C dX8_cone_50 (by rfl) (by first | trivial | rfl) ?_
      refine w_goto (tgt := 13) C dX8_cone_53 (by rfl) ?_
      rw [nI_1 j]
      exact w_sub (ih hj3) (by repeat' first | exact trivial | rfl | constructor)
    · try simp only [cg_ge, cg_gt, cl_gt, cl_le, cl_eq, cl_lt, cl_ge, bi_eq0, bi_ne0, bI_eq0, Decidable.not_not, Bool.not_eq_false] at c_37
      refine w_iconst (v := 1) C dX8_cone_40 (by rfl) ?_
      refine w_goto (tgt := 45) C dX8_cone_41 (by rfl) ?_
      refine cl_X8_117 C (m_X10_one hl) (by rfl) (by rfl) ⟨by decide, by decide⟩ (by rfl) dX8_cone_45 (fun z1 h2 p2 => ?_)
      obtain ⟨rfl, e9⟩ := p2
      obtain rfl : z1 = bI (dge (kW k s) (FP.i2d (cwC j))) := by
        rw [e9]
        first | exact bI_t c_37 | exact bI_f c_37
      refine w_iadd C dX8_cone_48 ?_
      rw [show sp_cone (kW k s) j + bI (dge (kW k s) (FP.i2d (cwC j))) = sp_cone (kW k s) (j + 1) from rfl]
      refine w_istore_2 C dX8_cone_49 (by first | trivial | rfl) ?_
      refine w_iinc_5 (v := _ + (1)) C dX8_cone_50 (by rfl) (by first | trivial | rfl) ?_
      refine w_goto (tgt := 13) C dX8_cone_53 (by rfl) ?_
      rw [nI_1 j]
      exact w_sub (ih hj3) (by repeat' first | exact trivial | rfl | constructor)

set_option maxHeartbeats 4000000 in
set_option maxRecDepth 100000 in
theorem m_X8_cone {l : Launch} {D : va_G} {tc : Nat → ClassId} (hl : l.stackTraces = false) {h : HM} {a rL wk : Nat} {k : KT} (hf : h a = some (mK rL wk k)) (hw : h wk = some (wCell tc (kW k))) {s : Nat} (hs : s < 3) :
    CT l D tc yX8_cone cX8_cone 7 (some FieldType.int) rm_X8_cone [.ref a, .int (nI s)] h (rI (fun z h' => h' = h ∧ z = sp_cone (kW k s) 12)) := by
  refine CT.start [some (.ref a), some (.int (nI s)), none, none, none, none, none] (by decide) hl rfl rfl (fun K C M => ?_)
  obtain ⟨rfl, rfl, rfl, -⟩ := id M
  have C : CX K RX8 cX8_cone 7 rm_X8_cone := C
  refine w_iconst (v := 0) C dX8_cone_0 (by rfl) ?_
  refine w_istore_2 C dX8_cone_1 (by first | trivial | rfl) ?_
  refine w_getsN C (cx_sw C).2.1.1 gt_1464 dX8_cone_2 ?_
  first | refine w_astore_3 C dX8_cone_5 (by first | trivial | rfl) ?_ | refine w_astore_3N C dX8_cone_5 (by first | trivial | rfl) ?_
  first | refine w_aload_n C dX8_cone_6 (by rfl) ?_ | refine w_aload_nN C dX8_cone_6 (by rfl) ?_
  refine w_tlen C (cx_sw C).2.1.2 dX8_cone_7 ?_
  refine w_istore_4 C dX8_cone_8 (by first | trivial | rfl) ?_
  refine w_iconst (v := 0) C dX8_cone_10 (by rfl) ?_
  refine w_istore_5 C dX8_cone_11 (by first | trivial | rfl) ?_
  refine lp_X8_cone C hl hf hw hs ?_ 0 (by decide)
  refine w_iload_n C dX8_cone_56 (by rfl) ?_
  refine w_iret C M dX8_cone_57 ⟨by decide, by decide⟩ ⟨_, rfl, ?_⟩
  exact ⟨rfl, rfl⟩

set_option maxHeartbeats 4000000 in
set_option maxRecDepth 100000 in
theorem m_X8_copy {l : Launch} {D : va_G} {tc : Nat → ClassId} (hl : l.stackTraces = false) {h : HM} {a rL wk : Nat} {k : KT} (hf : h a = some (mK rL wk k)) (hw : h wk = some (wCell tc (kW k))) {mc : Int32} {el n : Nat} {F : Nat → Nat} (hb : h rL = some (lC mc el n)) (hA : LA tc el n F h) (hok : ∀ i, i < n → okE tc h (F i)) (hn : n ≤ 10) :
    CT l D tc yX8_copy cX8_copy 2 (some (FieldType.object "KilnYardModel$Kiln")) rm_X8_copy [.ref a] h (rR (fun z h' => ∃ q rq w el', z = .ref q ∧ h q = none ∧ h rq = none ∧ h w = none ∧ (el' = tc 13 ∨ h el' = none) ∧ h' q = some (mK rq w (cpk k)) ∧ h' rq = some (lC 1 el' n) ∧ LA tc el' n F h' ∧ h' w = some (wCell tc (kW (cpk k))) ∧ Fr [] h h')) := by
  refine CT.start [some (.ref a), none] (by decide) hl rfl rfl (fun K C M => ?_)
  obtain ⟨rfl, rfl, rfl, -⟩ := id M
  have C : CX K RX8 cX8_copy 2 rm_X8_copy := C
  have hf00 := hf
  have hb00 := hb
  have hw00 := hw
  refine nw_X8_13 C (by decide) (by decide) dX8_copy_0 (fun q h1 n1 u1 => ?_)
  have hf := u1.new hf n1
  have hb := u1.new hb n1
  have hw := u1.new hw n1
  have f_q := u1.self
  have nq := n1
  have uq := u1
  have hqa : ¬ a = q := fun w => by rw [w, nq] at hf00; cases hf00
  refine w_dup C dX8_copy_3 (by rfl) ?_
  refine cl_X8_32 C (m_X8_init hl f_q) (by rfl) (by rfl) ⟨by decide, by decide⟩ (by rfl) dX8_copy_4 (fun h2 p2 => ?_)
  obtain ⟨rq, w, nrq, nw, nrw, f_q1, f_rq, f_w, fr1⟩ := p2
  have n1rq := nrq
  have n1w := nw
  have nrq : h rq = none := (uq.frN nq).nil9 List.not_mem_nil n1rq
  have nw : h w = none := (uq.frN nq).nil9 List.not_mem_nil n1w
  have hf := fr1 _ _ (not1 hqa) hf
  have hb := fr1 _ _ (not1 (ne_of hb f_q (by intro v; simp at v))) hb
  have hw := fr1 _ _ (not1 (ne_of hw f_q (by intro v; simp at v))) hw
  have fr01 : Fr [] h _ := (((uq.frN nq).sub (by simp)).tr fr1).fresh (by intro b m; simp at m; rw [m]; exact nq)
  have f_q := f_q1
  have hA := hA.fr (fun cap f hE => fr01 _ _ List.not_mem_nil hE)
  have hok : ∀ i, i < n → okE _ _ (F i) := fun i hi => by
    rcases hok i hi with ⟨m9, f9, e9⟩ | ⟨fs9, e9⟩
    · exact Or.inl ⟨m9, f9, fr01 _ _ List.not_mem_nil e9⟩
    · exact Or.inr ⟨fs9, fr01 _ _ List.not_mem_nil e9⟩
  first | refine w_astore_1 C dX8_copy_7 (by first | trivial | rfl) ?_ | refine w_astore_1N C dX8_copy_7 (by first | trivial | rfl) ?_
  first | refine w_aload_n C dX8_copy_8 (by rfl) ?_ | refine w_aload_nN C dX8_copy_8 (by rfl) ?_
  refine gf_X8_12 C f_q dX8_copy_9 ?_
  first | refine w_aload_n C dX8_copy_12 (by rfl) ?_ | refine w_aload_nN C dX8_copy_12 (by rfl) ?_
  refine gf_X8_12 C hf dX8_copy_13 ?_
  refine cl_X8_33 C (m_Jx4a65c_addAll_f0b43 hl f_rq hb hA hok hn) f_rq (by rfl) (by rfl) ⟨by decide, by decide⟩ (by rfl) dX8_copy_16 (fun z2 h3 p3 => ?_)
  obtain ⟨el', g_rq, hA2, fr2, hel⟩ := p3
  have hf := fr2 _ _ (not1 (ne_of hf f_rq (by intro v; simp at v))) hf
  have f_q := fr2 _ _ (not1 (ne_of f_q f_rq (by intro v; simp at v))) f_q
  have f_w := fr2 _ _ (not1 (ne_of f_w f_rq (by intro v; simp at v))) f_w
  have hw := fr2 _ _ (not1 (ne_of hw f_rq (by intro v; simp at v))) hw
  have f_q1 := f_q
  have hel : el' = _ ∨ h el' = none := hel.imp_right (fun w => fr01.nil9 List.not_mem_nil w)
  have f_rq := g_rq
  refine w_pop C dX8_copy_19 (by rfl) ?_
  first | refine w_aload_n C dX8_copy_20 (by rfl) ?_ | refine w_aload_nN C dX8_copy_20 (by rfl) ?_
  first | refine w_aload_n C dX8_copy_21 (by rfl) ?_ | refine w_aload_nN C dX8_copy_21 (by rfl) ?_
  refine gf_X8_20 C hf dX8_copy_22 ?_
  refine pf_X8_20 C f_q dX8_copy_25 (fun h4 u4 => ?_)
  have hf := (u4.ne hqa).trans hf
  have f_w := u4.oth f_w f_q (by intro q; simp at q)
  have hw := u4.oth hw f_q (by intro q; simp at q)
  have f_q := u4.self
  first | refine w_aload_n C dX8_copy_28 (by rfl) ?_ | refine w_aload_nN C dX8_copy_28 (by rfl) ?_
  first | refine w_aload_n C dX8_copy_29 (by rfl) ?_ | refine w_aload_nN C dX8_copy_29 (by rfl) ?_
  refine gf_X8_24 C hf dX8_copy_30 ?_
  refine pf_X8_24 C f_q dX8_copy_33 (fun h5 u5 => ?_)
  have hf := (u5.ne hqa).trans hf
  have f_w := u5.oth f_w f_q (by intro q; simp at q)
  have hw := u5.oth hw f_q (by intro q; simp at q)
  have f_q := u5.self
  first | refine w_aload_n C dX8_copy_36 (by rfl) ?_ | refine w_aload_nN C dX8_copy_36 (by rfl) ?_
  first | refine w_aload_n C dX8_copy_37 (by rfl) ?_ | refine w_aload_nN C dX8_copy_37 (by rfl) ?_
  refine gf_X8_37 C hf dX8_copy_38 ?_
  refine pf_X8_37 C f_q (by first | exact Or.inl rfl | exact Or.inr rfl | assumption | exact bI_01 _ | exact bi_01 _) dX8_copy_41 (fun h6 u6 => ?_)
  have hf := (u6.ne hqa).trans hf
  have f_w := u6.oth f_w f_q (by intro q; simp at q)
  have hw := u6.oth hw f_q (by intro q; simp at q)
  have f_q := u6.self
  first | refine w_aload_n C dX8_copy_44 (by rfl) ?_ | refine w_aload_nN C dX8_copy_44 (by rfl) ?_
  first | refine w_aload_n C dX8_copy_45 (by rfl) ?_ | refine w_aload_nN C dX8_copy_45 (by rfl) ?_
  refine gf_X8_41 C hf dX8_copy_46 ?_
  refine pf_X8_41 C f_q (by first | exact Or.inl rfl | exact Or.inr rfl | assumption | exact bI_01 _ | exact bi_01 _) dX8_copy_49 (fun h7 u7 => ?_)
  have hf := (u7.ne hqa).trans hf
  have f_w := u7.oth f_w f_q (by intro q; simp at q)
  have hw := u7.oth hw f_q (by intro q; simp at q)
  have f_q := u7.self
  first | refine w_aload_n C dX8_copy_52 (by rfl) ?_ | refine w_aload_nN C dX8_copy_52 (by rfl) ?_
  first | refine w_aload_n C dX8_copy_53 (by rfl) ?_ | refine w_aload_nN C dX8_copy_53 (by rfl) ?_
  refine gf_X8_44 C hf dX8_copy_54 ?_
  refine pf_X8_44 C f_q dX8_copy_57 (fun h8 u8 => ?_)
  have hf := (u8.ne hqa).trans hf
  have f_w := u8.oth f_w f_q (by intro q; simp at q)
  have hw := u8.oth hw f_q (by intro q; simp at q)
  have f_q := u8.self
  first | refine w_aload_n C dX8_copy_60 (by rfl) ?_ | refine w_aload_nN C dX8_copy_60 (by rfl) ?_
  first | refine w_aload_n C dX8_copy_61 (by rfl) ?_ | refine w_aload_nN C dX8_copy_61 (by rfl) ?_
  refine gf_X8_48 C hf dX8_copy_62 ?_
  refine pf_X8_48 C f_q dX8_copy_65 (fun h9 u9 => ?_)
  have hf := (u9.ne hqa).trans hf
  have f_w := u9.oth f_w f_q (by intro q; simp at q)
  have hw := u9.oth hw f_q (by intro q; simp at q)
  have f_q := u9.self
  first | refine w_aload_n C dX8_copy_68 (by rfl) ?_ | refine w_aload_nN C dX8_copy_68 (by rfl) ?_
  first | refine w_aload_n C dX8_copy_69 (by rfl) ?_ | refine w_aload_nN C dX8_copy_69 (by rfl) ?_
  refine gf_X8_51 C hf dX8_copy_70 ?_
  refine pf_X8_51 C f_q dX8_copy_73 (fun h10 u10 => ?_)
  have hf := (u10.ne hqa).trans hf
  have f_w := u10.oth f_w f_q (by intro q; simp at q)
  have hw := u10.oth hw f_q (by intro q; simp at q)
  have f_q := u10.self
  first | refine w_aload_n C dX8_copy_76 (by rfl) ?_ | refine w_aload_nN C dX8_copy_76 (by rfl) ?_
  refine gf_X8_28 C hf dX8_copy_77 ?_
  refine w_iconst (v := 0) C dX8_copy_80 (by rfl) ?_
  first | refine w_aload_n C dX8_copy_81 (by rfl) ?_ | refine w_aload_nN C dX8_copy_81 (by rfl) ?_
  refine gf_X8_28 C f_q dX8_copy_82 ?_
  refine w_iconst (v := 0) C dX8_copy_85 (by rfl) ?_
  refine w_iconst (v := 3) C dX8_copy_86 (by rfl) ?_
  have fr8 : Fr [q, rq, w] h _ := (((((((((((u1.frN n1).sub (by simp)).tr (fr1.sub (by simp))).tr (fr2.sub (by simp))).tr (u4.fr.sub (by simp))).tr (u5.fr.sub (by simp))).tr (u6.fr.sub (by simp))).tr (u7.fr.sub (by simp))).tr (u8.fr.sub (by simp))).tr (u9.fr.sub (by simp))).tr (u10.fr.sub (by simp)))
  have u8 := ((((((u4.tr u5).tr u6).tr u7).tr u8).tr u9).tr u10)
  have hwq : ¬ wk = w := fun v => by rw [v, nw] at hw00; cases hw00
  refine w_copyd C (cnt := 3) hw f_w (by decide) (by decide) (by decide) gw_1574 (by rfl) (by rfl) (by rfl) dX8_copy_87 (fun h9 u9 => ?_)
  have k_q := u9.oth f_q f_w (by intro v; simp at v)
  have k_rq := u9.oth (u8.oth f_rq f_q1 (by intro v; simp at v)) f_w (by intro v; simp at v)
  have k_w := u9.self
  rw [cpy_mix] at k_w
  have hA3 := hA2.fr (fun cap f hE => u9.oth (u8.oth hE f_q1 (by intro v; simp at v)) f_w (by intro v; simp at v))
  first | refine w_aload_n C dX8_copy_90 (by rfl) ?_ | refine w_aload_nN C dX8_copy_90 (by rfl) ?_
  refine w_aret C M dX8_copy_91 ⟨by decide, by decide⟩ (Or.inl ⟨_, rfl⟩) (Or.inr ⟨_, rfl⟩) ⟨_, rfl, ?_⟩
  exact ⟨q, rq, w, el', rfl, nq, nrq, nw, hel, k_q, k_rq, hA3, k_w, (fr8.tr (u9.fr.sub (by simp))).fresh (by intro b m; simp at m; rcases m with m | m | m <;> rw [m] <;> assumption)⟩
