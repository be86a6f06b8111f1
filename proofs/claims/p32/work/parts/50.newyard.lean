/-! A NEW YARD -/
theorem row9_0 (a : Nat → Nat) : row9 0 a = fun _ => none := by funext i; simp [row9]
abbrev k0 : KT := (4626322717216342016, FP.fconst1, false, false, 0, 0, 0, 0, 0, fun _ => 0)
abbrev q0T : QT := (0, 0, 0, 0, 0, false, 0, 0, 0, 0)

set_option maxHeartbeats 4000000 in
set_option maxRecDepth 100000 in
theorem m_X7_init {l : Launch} {D : va_G} {tc : Nat → ClassId} (hl : l.stackTraces = false) {h : HM} {a : Nat} {v0 v1 v2 v3 v4 v5 v6 v7 v8 v9 v10 v11 v12 v13 : Value} (hf : h a = some (.inr (6, [v0, v1, v2, v3, v4, v5, v6, v7, v8, v9, v10, v11, v12, v13]))) :
    CT l D tc yX7_init cX7_init 1 none rm_X7_init [.ref a] h (rV (fun h' => ∃ cA gA pA oA pr ra re rw tr tw, Yh tc a cA gA pA oA pr ra re rw tr tw (fun _ => 0) (fun _ => 0) (fun _ => 0) (fun _ => 0) (fun _ => none) 4626322717216342016 4626322717216342016 0 k0 0 (fun _ => (0, 0)) 0 (fun _ => (0, 0, 0, 0, 0)) 0 (fun _ => (0, none, q0T)) 0 (fun _ => (0, 0, 0, 0, false)) 0 (fun _ => (0, 0, 0)) k0 0 0 0 0 h')) := by
  refine CT.start [some (.ref a)] (by decide) hl rfl rfl (fun K C M => ?_)
  obtain ⟨rfl, rfl, rfl, -⟩ := id M
  have C : CX K RX7 cX7_init 1 rm_X7_init := C
  first | refine w_aload_n C dX7_init_0 (by rfl) ?_ | refine w_aload_nN C dX7_init_0 (by rfl) ?_
  refine w_obji C gw_43 gw_44 gw_45 (by rfl) (by rfl) (by rfl) dX7_init_1 ?_
  first | refine w_aload_n C dX7_init_4 (by rfl) ?_ | refine w_aload_nN C dX7_init_4 (by rfl) ?_
  refine w_iconst (v := 3) C dX7_init_5 (by rfl) ?_
  refine w_anewn C 3 (by rfl) (ao_Clay C) gw_46 (by decide) (by rfl) (by decide) (by decide) (by decide) dX7_init_6 (fun cA h1 n1 u1 => ?_)
  have hf := u1.new hf n1
  have f_cA := u1.self
  refine pf_X7_11 C hf dX7_init_9 M.2.2.2.2.2.2.1 (fun h2 u2 => ?_)
  have f_cA := u2.oth f_cA hf (by intro q; simp at q)
  have hf := u2.self
  first | refine w_aload_n C dX7_init_12 (by rfl) ?_ | refine w_aload_nN C dX7_init_12 (by rfl) ?_
  refine w_iconst (v := 4) C dX7_init_13 (by rfl) ?_
  refine w_anewn C 4 (by rfl) (ao_Glaze C) gw_48 (by decide) (by rfl) (by decide) (by decide) (by decide) dX7_init_14 (fun gA h3 n3 u3 => ?_)
  have hf := u3.new hf n3
  have f_cA := u3.new f_cA n3
  have f_gA := u3.self
  refine pf_X7_17 C hf dX7_init_17 M.2.2.2.2.2.2.1 (fun h4 u4 => ?_)
  have f_cA := u4.oth f_cA hf (by intro q; simp at q)
  have f_gA := u4.oth f_gA hf (by intro q; simp at q)
  have hf := u4.self
  first | refine w_aload_n C dX7_init_20 (by rfl) ?_ | refine w_aload_nN C dX7_init_20 (by rfl) ?_
  refine w_bipush (v := (14)) C dX7_init_21 (by rfl) ?_
  refine w_anewn C 6 (by rfl) (ao_Pot C) gw_50 (by decide) (by rfl) (by decide) (by decide) (by decide) dX7_init_23 (fun pA h5 n5 u5 => ?_)
  have hf := u5.new hf n5
  have f_cA := u5.new f_cA n5
  have f_gA := u5.new f_gA n5
  have f_pA := u5.self
  refine pf_X7_23 C hf dX7_init_26 M.2.2.2.2.2.2.1 (fun h6 u6 => ?_)
  have f_cA := u6.oth f_cA hf (by intro q; simp at q)
  have f_gA := u6.oth f_gA hf (by intro q; simp at q)
  have f_pA := u6.oth f_pA hf (by intro q; simp at q)
  have hf := u6.self
  first | refine w_aload_n C dX7_init_29 (by rfl) ?_ | refine w_aload_nN C dX7_init_29 (by rfl) ?_
  refine w_bipush (v := (6)) C dX7_init_30 (by rfl) ?_
  refine w_anewn C 5 (by rfl) (ao_Order C) gw_52 (by decide) (by rfl) (by decide) (by decide) (by decide) dX7_init_32 (fun oA h7 n7 u7 => ?_)
  have hf := u7.new hf n7
  have f_cA := u7.new f_cA n7
  have f_gA := u7.new f_gA n7
  have f_pA := u7.new f_pA n7
  have f_oA := u7.self
  refine pf_X7_29 C hf dX7_init_35 M.2.2.2.2.2.2.1 (fun h8 u8 => ?_)
  have f_cA := u8.oth f_cA hf (by intro q; simp at q)
  have f_gA := u8.oth f_gA hf (by intro q; simp at q)
  have f_pA := u8.oth f_pA hf (by intro q; simp at q)
  have f_oA := u8.oth f_oA hf (by intro q; simp at q)
  have hf := u8.self
  first | refine w_aload_n C dX7_init_38 (by rfl) ?_ | refine w_aload_nN C dX7_init_38 (by rfl) ?_
  refine w_iconst (v := 0) C dX7_init_39 (by rfl) ?_
  refine pf_X7_33 C hf dX7_init_40 (fun h9 u9 => ?_)
  have f_cA := u9.oth f_cA hf (by intro q; simp at q)
  have f_gA := u9.oth f_gA hf (by intro q; simp at q)
  have f_pA := u9.oth f_pA hf (by intro q; simp at q)
  have f_oA := u9.oth f_oA hf (by intro q; simp at q)
  have hf := u9.self
  first | refine w_aload_n C dX7_init_43 (by rfl) ?_ | refine w_aload_nN C dX7_init_43 (by rfl) ?_
  refine w_iconst (v := 0) C dX7_init_44 (by rfl) ?_
  refine pf_X7_37 C hf dX7_init_45 (fun h10 u10 => ?_)
  have f_cA := u10.oth f_cA hf (by intro q; simp at q)
  have f_gA := u10.oth f_gA hf (by intro q; simp at q)
  have f_pA := u10.oth f_pA hf (by intro q; simp at q)
  have f_oA := u10.oth f_oA hf (by intro q; simp at q)
  have hf := u10.self
  first | refine w_aload_n C dX7_init_48 (by rfl) ?_ | refine w_aload_nN C dX7_init_48 (by rfl) ?_
  refine w_iconst (v := 0) C dX7_init_49 (by rfl) ?_
  refine pf_X7_40 C hf dX7_init_50 (fun h11 u11 => ?_)
  have f_cA := u11.oth f_cA hf (by intro q; simp at q)
  have f_gA := u11.oth f_gA hf (by intro q; simp at q)
  have f_pA := u11.oth f_pA hf (by intro q; simp at q)
  have f_oA := u11.oth f_oA hf (by intro q; simp at q)
  have hf := u11.self
  first | refine w_aload_n C dX7_init_53 (by rfl) ?_ | refine w_aload_nN C dX7_init_53 (by rfl) ?_
  refine w_iconst (v := 0) C dX7_init_54 (by rfl) ?_
  refine pf_X7_43 C hf dX7_init_55 (fun h12 u12 => ?_)
  have f_cA := u12.oth f_cA hf (by intro q; simp at q)
  have f_gA := u12.oth f_gA hf (by intro q; simp at q)
  have f_pA := u12.oth f_pA hf (by intro q; simp at q)
  have f_oA := u12.oth f_oA hf (by intro q; simp at q)
  have hf := u12.self
  first | refine w_aload_n C dX7_init_58 (by rfl) ?_ | refine w_aload_nN C dX7_init_58 (by rfl) ?_
  refine nw_X7_46 C (by decide) (by decide) dX7_init_59 (fun pr h13 n13 u13 => ?_)
  have hf := u13.new hf n13
  have f_cA := u13.new f_cA n13
  have f_gA := u13.new f_gA n13
  have f_pA := u13.new f_pA n13
  have f_oA := u13.new f_oA n13
  have f_pr := u13.self
  refine w_dup C dX7_init_62 (by rfl) ?_
  have f_pr0 := f_pr
  refine cl_X7_48 C (m_X5_init hl f_pr) (by rfl) (by rfl) ⟨by decide, by decide⟩ (by rfl) dX7_init_63 (fun h14 p14 => ?_)
  obtain ⟨ra, nra, f_pr, f_ra, fr1⟩ := p14
  have hf := fr1 _ _ (not1 (ne_of hf f_pr0 (by intro q; simp at q))) hf
  have f_cA := fr1 _ _ (not1 (ne_of f_cA f_pr0 (by intro q; simp at q))) f_cA
  have f_gA := fr1 _ _ (not1 (ne_of f_gA f_pr0 (by intro q; simp at q))) f_gA
  have f_pA := fr1 _ _ (not1 (ne_of f_pA f_pr0 (by intro q; simp at q))) f_pA
  have f_oA := fr1 _ _ (not1 (ne_of f_oA f_pr0 (by intro q; simp at q))) f_oA
  refine pf_X7_49 C hf dX7_init_66 M.2.2.2.2.2.2.1 (fun h15 u15 => ?_)
  have f_cA := u15.oth f_cA hf (by intro q; simp at q)
  have f_gA := u15.oth f_gA hf (by intro q; simp at q)
  have f_pA := u15.oth f_pA hf (by intro q; simp at q)
  have f_oA := u15.oth f_oA hf (by intro q; simp at q)
  have f_pr := u15.oth f_pr hf (by intro q; simp at q)
  have f_ra := u15.oth f_ra hf (by intro q; simp at q)
  have hf := u15.self
  first | refine w_aload_n C dX7_init_69 (by rfl) ?_ | refine w_aload_nN C dX7_init_69 (by rfl) ?_
  refine nw_X7_53 C (by decide) (by decide) dX7_init_70 (fun re h16 n16 u16 => ?_)
  have hf := u16.new hf n16
  have f_cA := u16.new f_cA n16
  have f_gA := u16.new f_gA n16
  have f_pA := u16.new f_pA n16
  have f_oA := u16.new f_oA n16
  have f_pr := u16.new f_pr n16
  have f_ra := u16.new f_ra n16
  have f_re := u16.self
  refine w_dup C dX7_init_73 (by rfl) ?_
  first | refine w_aload_n C dX7_init_74 (by rfl) ?_ | refine w_aload_nN C dX7_init_74 (by rfl) ?_
  refine gf_X7_49 C hf dX7_init_75 ?_
  have f_re0 := f_re
  refine cl_X7_55 C (m_X2_init hl (pr := pr) f_re) (by rfl) (by rfl) ⟨by decide, by decide⟩ (by rfl) dX7_init_78 (fun h17 p17 => ?_)
  obtain ⟨rw, nrw, f_re, f_rw, fr2⟩ := p17
  have hf := fr2 _ _ (not1 (ne_of hf f_re0 (by intro q; simp at q))) hf
  have f_cA := fr2 _ _ (not1 (ne_of f_cA f_re0 (by intro q; simp at q))) f_cA
  have f_gA := fr2 _ _ (not1 (ne_of f_gA f_re0 (by intro q; simp at q))) f_gA
  have f_pA := fr2 _ _ (not1 (ne_of f_pA f_re0 (by intro q; simp at q))) f_pA
  have f_oA := fr2 _ _ (not1 (ne_of f_oA f_re0 (by intro q; simp at q))) f_oA
  have f_pr := fr2 _ _ (not1 (ne_of f_pr f_re0 (by intro q; simp at q))) f_pr
  have f_ra := fr2 _ _ (not1 (ne_of f_ra f_re0 (by intro q; simp at q))) f_ra
  refine pf_X7_58 C hf dX7_init_81 M.2.2.2.2.2.2.1 (fun h18 u18 => ?_)
  have f_cA := u18.oth f_cA hf (by intro q; simp at q)
  have f_gA := u18.oth f_gA hf (by intro q; simp at q)
  have f_pA := u18.oth f_pA hf (by intro q; simp at q)
  have f_oA := u18.oth f_oA hf (by intro q; simp at q)
  have f_pr := u18.oth f_pr hf (by intro q; simp at q)
  have f_ra := u18.oth f_ra hf (by intro q; simp at q)
  have f_re := u18.oth f_re hf (by intro q; simp at q)
  have f_rw := u18.oth f_rw hf (by intro q; simp at q)
  have hf := u18.self
  first | refine w_aload_n C dX7_init_84 (by rfl) ?_ | refine w_aload_nN C dX7_init_84 (by rfl) ?_
  refine nw_X7_53 C (by decide) (by decide) dX7_init_85 (fun tr h19 n19 u19 => ?_)
  have hf := u19.new hf n19
  have f_cA := u19.new f_cA n19
  have f_gA := u19.new f_gA n19
  have f_pA := u19.new f_pA n19
  have f_oA := u19.new f_oA n19
  have f_pr := u19.new f_pr n19
  have f_ra := u19.new f_ra n19
  have f_re := u19.new f_re n19
  have f_rw := u19.new f_rw n19
  have f_tr := u19.self
  refine w_dup C dX7_init_88 (by rfl) ?_
  first | refine w_aload_n C dX7_init_89 (by rfl) ?_ | refine w_aload_nN C dX7_init_89 (by rfl) ?_
  refine gf_X7_49 C hf dX7_init_90 ?_
  have f_tr0 := f_tr
  have f_rw0 := f_rw
  have yn1 : re ≠ tr := ne_of f_re f_tr0 (by intro q; simp at q)
  refine cl_X7_55 C (m_X2_init hl (pr := pr) f_tr) (by rfl) (by rfl) ⟨by decide, by decide⟩ (by rfl) dX7_init_93 (fun h20 p20 => ?_)
  obtain ⟨tw, ntw, f_tr, f_tw, fr3⟩ := p20
  have yn2 : rw ≠ tw := fun w => by rw [w, ntw] at f_rw0; cases f_rw0
  have hf := fr3 _ _ (not1 (ne_of hf f_tr0 (by intro q; simp at q))) hf
  have f_cA := fr3 _ _ (not1 (ne_of f_cA f_tr0 (by intro q; simp at q))) f_cA
  have f_gA := fr3 _ _ (not1 (ne_of f_gA f_tr0 (by intro q; simp at q))) f_gA
  have f_pA := fr3 _ _ (not1 (ne_of f_pA f_tr0 (by intro q; simp at q))) f_pA
  have f_oA := fr3 _ _ (not1 (ne_of f_oA f_tr0 (by intro q; simp at q))) f_oA
  have f_pr := fr3 _ _ (not1 (ne_of f_pr f_tr0 (by intro q; simp at q))) f_pr
  have f_ra := fr3 _ _ (not1 (ne_of f_ra f_tr0 (by intro q; simp at q))) f_ra
  have f_re := fr3 _ _ (not1 (ne_of f_re f_tr0 (by intro q; simp at q))) f_re
  have f_rw := fr3 _ _ (not1 (ne_of f_rw f_tr0 (by intro q; simp at q))) f_rw
  refine pf_X7_62 C hf dX7_init_96 M.2.2.2.2.2.2.1 (fun h21 u21 => ?_)
  have f_cA := u21.oth f_cA hf (by intro q; simp at q)
  have f_gA := u21.oth f_gA hf (by intro q; simp at q)
  have f_pA := u21.oth f_pA hf (by intro q; simp at q)
  have f_oA := u21.oth f_oA hf (by intro q; simp at q)
  have f_pr := u21.oth f_pr hf (by intro q; simp at q)
  have f_ra := u21.oth f_ra hf (by intro q; simp at q)
  have f_re := u21.oth f_re hf (by intro q; simp at q)
  have f_rw := u21.oth f_rw hf (by intro q; simp at q)
  have f_tr := u21.oth f_tr hf (by intro q; simp at q)
  have f_tw := u21.oth f_tw hf (by intro q; simp at q)
  have hf := u21.self
  first | refine w_aload_n C dX7_init_99 (by rfl) ?_ | refine w_aload_nN C dX7_init_99 (by rfl) ?_
  refine w_iconst (v := 0) C dX7_init_100 (by rfl) ?_
  refine pf_X7_65 C hf dX7_init_101 (fun h22 u22 => ?_)
  have f_cA := u22.oth f_cA hf (by intro q; simp at q)
  have f_gA := u22.oth f_gA hf (by intro q; simp at q)
  have f_pA := u22.oth f_pA hf (by intro q; simp at q)
  have f_oA := u22.oth f_oA hf (by intro q; simp at q)
  have f_pr := u22.oth f_pr hf (by intro q; simp at q)
  have f_ra := u22.oth f_ra hf (by intro q; simp at q)
  have f_re := u22.oth f_re hf (by intro q; simp at q)
  have f_rw := u22.oth f_rw hf (by intro q; simp at q)
  have f_tr := u22.oth f_tr hf (by intro q; simp at q)
  have f_tw := u22.oth f_tw hf (by intro q; simp at q)
  have hf := u22.self
  first | refine w_aload_n C dX7_init_104 (by rfl) ?_ | refine w_aload_nN C dX7_init_104 (by rfl) ?_
  refine w_iconst (v := 0) C dX7_init_105 (by rfl) ?_
  refine pf_X7_68 C hf dX7_init_106 (fun h23 u23 => ?_)
  have f_cA := u23.oth f_cA hf (by intro q; simp at q)
  have f_gA := u23.oth f_gA hf (by intro q; simp at q)
  have f_pA := u23.oth f_pA hf (by intro q; simp at q)
  have f_oA := u23.oth f_oA hf (by intro q; simp at q)
  have f_pr := u23.oth f_pr hf (by intro q; simp at q)
  have f_ra := u23.oth f_ra hf (by intro q; simp at q)
  have f_re := u23.oth f_re hf (by intro q; simp at q)
  have f_rw := u23.oth f_rw hf (by intro q; simp at q)
  have f_tr := u23.oth f_tr hf (by intro q; simp at q)
  have f_tw := u23.oth f_tw hf (by intro q; simp at q)
  have hf := u23.self
  first | refine w_aload_n C dX7_init_109 (by rfl) ?_ | refine w_aload_nN C dX7_init_109 (by rfl) ?_
  refine w_iconst (v := 0) C dX7_init_110 (by rfl) ?_
  refine pf_X7_71 C hf dX7_init_111 (fun h24 u24 => ?_)
  have f_cA := u24.oth f_cA hf (by intro q; simp at q)
  have f_gA := u24.oth f_gA hf (by intro q; simp at q)
  have f_pA := u24.oth f_pA hf (by intro q; simp at q)
  have f_oA := u24.oth f_oA hf (by intro q; simp at q)
  have f_pr := u24.oth f_pr hf (by intro q; simp at q)
  have f_ra := u24.oth f_ra hf (by intro q; simp at q)
  have f_re := u24.oth f_re hf (by intro q; simp at q)
  have f_rw := u24.oth f_rw hf (by intro q; simp at q)
  have f_tr := u24.oth f_tr hf (by intro q; simp at q)
  have f_tw := u24.oth f_tw hf (by intro q; simp at q)
  have hf := u24.self
  refine w_vret C M dX7_init_114 ⟨by decide, by decide⟩ ⟨rfl, ?_⟩
  refine ⟨cA, gA, pA, oA, pr, ra, re, rw, tr, tw, hf, ?_, ?_, ?_, ?_, f_pr, f_ra, f_re, f_rw, f_tr, f_tw, fun i hi => absurd hi (Nat.not_lt_zero i), fun i hi => absurd hi (Nat.not_lt_zero i), fun i hi => absurd hi (Nat.not_lt_zero i), fun i hi => absurd hi (Nat.not_lt_zero i), fun i hi => absurd hi (Nat.not_lt_zero i), yn1, yn2, fun i j hi => absurd hi (Nat.not_lt_zero i), fun i j hi => absurd hi (Nat.not_lt_zero i)⟩
  · rw [row9_0]; exact f_cA
  · rw [row9_0]; exact f_gA
  · rw [row9_0]; exact f_pA
  · rw [row9_0]; exact f_oA
