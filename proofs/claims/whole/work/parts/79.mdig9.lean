/-! THE REFERENCE: DIGEST -/

set_option maxHeartbeats 1000000 in
set_option maxRecDepth 100000 in
theorem lp_X10_dig4 {K : KC} (C : CX K RX10 cX10_digest 5 rm_X10_digest) (hl : (Kl K).stackTraces = false) {h0 : HM} {m0 kl wk : Nat} {L : Nat → Nat} {E : Nat → Nat} {M : Nat → Int32} {ca : Nat → Nat} {ga : Nat → Nat} {pa : Nat → Nat} {oa : Nat → Nat} {ra : Nat → Nat} {th : Int32} {nC : Nat} {cs : Nat → Int32 × Int32} {nG : Nat} {gs : Nat → GT} {nP : Nat} {ps : Nat → PT} {nO : Nat} {os : Nat → OT} {nR : Nat} {rs : Nat → RT} {k : KT} {dmp : Int32} {day : Int32} {pur : Int32} {rf : Int32} (YY0 : Mh (Kt K) m0 kl wk L E M ca ga pa oa ra th nC cs nG gs nP ps nO os nR rs k dmp day pur rf h0) {d : Int64} (hn : nP ≤ 14) (hC : ∀ i, i < nP → okCe (ps i).2.2) (hW : ∀ i, i < nP → okSum (ps i).2.2) (hk : okk k) (hL : okL nR k) (hRr : okR9 nR rs)
    (kk : ∀ h', Fr [] h0 h' → WW K (504, 2737) 212 [some (.ref m0), some (.long (sp_it (sp_dsh nP ps nR rs k) d 3)), none, some (.int (nI 3)), none] [] h')
    : ∀ j : Nat, j ≤ 3 → ∀ {h : HM},  (fr : Fr [] h0 h) → WW K (192 + 104 * j, 1408 + 443 * j) 151 [some (.ref m0), some (.long (sp_it (sp_dsh nP ps nR rs k) d j)), none, some (.int (nI j)), none] [] h := by
  refine up_ind ?_
  intro j hj ih h fr
  have YY := YY0.fr0 fr
  obtain ⟨mm, mL, mk, mw, mCl, mGl, mPt, mOr, mRm, mn1, mn2, mn3⟩ := id YY
  refine w_iload_n C dX10_digest_151 (by rfl) ?_
  refine w_iconst (v := 3) C dX10_digest_152 (by rfl) ?_
  refine w_icmp_ge (tgt := 212) C dX10_digest_153 (by rfl) (fun c_153 => ?_) (fun c_153 => ?_)
  · have e3 : ¬ j < 3 := fun q => nI_ge q (by omega) c_153
    obtain rfl : j = 3 := by omega
    exact kk _ fr
  · have hj3 : j < 3 := Nat.not_le.mp (fun q => c_153 (nI_le (a := 3) q (by omega)))
    refine w_iconst (v := 0) C dX10_digest_156 (by rfl) ?_
    refine w_istore_4 C dX10_digest_157 (by first | trivial | rfl) ?_
    refine w_widen (n' := (192 + 104 * j + 22 * 0, 1408 + 443 * j + 88 * 0)) ?_ (show 192 + 104 * j ≤ 192 + 104 * j + 22 * 0 by omega) (show 1408 + 443 * j ≤ 1408 + 443 * j + 88 * 0 by omega)
    generalize hD : sp_it (sp_dsh nP ps nR rs k) d j = D9
    refine lp_X10_dig4i (d := D9) C hl YY0 hn hj3 hC (fun h7 fr7 => ?_) 0 (by omega) fr
    have fr := fr7
    have YY := YY0.fr0 fr
    obtain ⟨mm, mL, mk, mw, mCl, mGl, mPt, mOr, mRm, mn1, mn2, mn3⟩ := id YY
    refine w_lload_n C dX10_digest_184 (by rfl) ?_
    first | refine w_aload_n C dX10_digest_185 (by rfl) ?_ | refine w_aload_nN C dX10_digest_185 (by rfl) ?_
    refine w_iload_n C dX10_digest_186 (by rfl) ?_
    refine cl_X10_314 C (m_X10_holding hl YY hn hC hW hj3) mm (by rfl) (by rfl) ⟨show 192 + 104 * j + 88 + 11 ≤ 509 by omega, show 1408 + 443 * j + 352 + 44 ≤ 2784 by omega⟩ (by rfl) dX10_digest_187 (fun z1 h1 p1 => ?_)
    obtain ⟨rfl, fr9⟩ := p1
    have fr := fr.tr fr9
    have YY := YY0.fr0 fr
    obtain ⟨mm, mL, mk, mw, mCl, mGl, mPt, mOr, mRm, mn1, mn2, mn3⟩ := id YY
    refine w_i2l C dX10_digest_190 ?_
    refine cl_X10_321 C (m_X10_add hl) (by rfl) (by rfl) ⟨show 192 + 104 * j + 88 + 11 + 0 ≤ 509 by omega, show 1408 + 443 * j + 352 + 44 + 0 ≤ 2784 by omega⟩ (by rfl) dX10_digest_191 (fun z2 h2 p2 => ?_)
    obtain ⟨rfl, rfl⟩ := p2
    first | refine w_aload_n C dX10_digest_194 (by rfl) ?_ | refine w_aload_nN C dX10_digest_194 (by rfl) ?_
    refine w_iload_n C dX10_digest_195 (by rfl) ?_
    refine w_bipush (v := (20)) C dX10_digest_196 (by rfl) ?_
    refine cl_X10_305 C (m_X10_coneBy (m := 20) hl YY hk hL hRr hj3 (by decide)) mm (by rfl) (by rfl) ⟨show 192 + 104 * j + 88 + 11 + 0 + 5 ≤ 509 by omega, show 1408 + 443 * j + 352 + 44 + 0 + 47 ≤ 2784 by omega⟩ (by rfl) dX10_digest_198 (fun z3 h3 p3 => ?_)
    obtain ⟨rfl, fr9⟩ := p3
    have fr := fr.tr fr9
    have YY := YY0.fr0 fr
    obtain ⟨mm, mL, mk, mw, mCl, mGl, mPt, mOr, mRm, mn1, mn2, mn3⟩ := id YY
    refine w_i2l C dX10_digest_201 ?_
    refine cl_X10_321 C (m_X10_add hl) (by rfl) (by rfl) ⟨show 192 + 104 * j + 88 + 11 + 0 + 5 + 0 ≤ 509 by omega, show 1408 + 443 * j + 352 + 44 + 0 + 47 + 0 ≤ 2784 by omega⟩ (by rfl) dX10_digest_202 (fun z4 h4 p4 => ?_)
    obtain ⟨rfl, rfl⟩ := p4
    rw [show sp_add (sp_add (sp_it (fun d i => sp_add d (sp_shelf k nP ps j (nI i)).toInt64) D9 4) (sp_hold nP ps j).toInt64) (sp_wc nR rs k j 20).toInt64 = sp_it (sp_dsh nP ps nR rs k) d (j + 1) from by rw [← hD]; rfl]
    refine w_lstore_1 C dX10_digest_205 (by first | trivial | rfl) ?_
    refine w_iinc_3 (v := _ + (1)) C dX10_digest_206 (by rfl) (by first | trivial | rfl) ?_
    refine w_goto (tgt := 151) C dX10_digest_209 (by rfl) ?_
    rw [nI_1 j]
    refine w_widen (n' := (192 + 104 * (j + 1), 1408 + 443 * (j + 1))) ?_ (show 192 + 104 * j + 88 + 11 + 0 + 5 + 0 ≤ 192 + 104 * (j + 1) by omega) (show 1408 + 443 * j + 352 + 44 + 0 + 47 + 0 ≤ 1408 + 443 * (j + 1) by omega)
    exact w_sub (ih hj3 fr) (by repeat' first | exact trivial | rfl | constructor)

set_option maxHeartbeats 4000000 in
set_option maxRecDepth 100000 in
theorem m_X10_digest {l : Launch} {D : va_G} {tc : Nat → ClassId} (hl : l.stackTraces = false) {h : HM} {m0 kl wk : Nat} {L : Nat → Nat} {E : Nat → Nat} {M : Nat → Int32} {ca : Nat → Nat} {ga : Nat → Nat} {pa : Nat → Nat} {oa : Nat → Nat} {ra : Nat → Nat} {th : Int32} {nC : Nat} {cs : Nat → Int32 × Int32} {nG : Nat} {gs : Nat → GT} {nP : Nat} {ps : Nat → PT} {nO : Nat} {os : Nat → OT} {nR : Nat} {rs : Nat → RT} {k : KT} {dmp : Int32} {day : Int32} {pur : Int32} {rf : Int32} (YY : Mh tc m0 kl wk L E M ca ga pa oa ra th nC cs nG gs nP ps nO os nR rs k dmp day pur rf h) (hn : nP ≤ 14) (hO : nO ≤ 6) (bG : nG ≤ 4) (hg : ∀ i, i < nP → okGl nG (ps i)) (hq : ∀ i, i < nP → okq (ps i).2.2) (hgz : ∀ i, i < nG → glzOk (gs i)) (hC : ∀ i, i < nP → okCe (ps i).2.2) (hW : ∀ i, i < nP → okSum (ps i).2.2) (hk : okk k) (hL : okL nR k) (hRr : okR9 nR rs) {pw : Nat} (hpw : kP k = pw9 pw) (hp5 : pw ≤ 520) :
    CT l D tc yX10_digest cX10_digest 5 (some FieldType.long) rm_X10_digest [.ref m0] h (rL (fun z h' => z = sp_digest nG gs nP ps nO os nR rs k day pur rf ∧ MhE tc m0 kl wk 0 nC cs nG gs nP ps nO os nR rs k dmp day pur rf h')) := by
  refine CT.start [some (.ref m0), none, none, none, none] (by decide) hl rfl rfl (fun K C M => ?_)
  obtain ⟨rfl, rfl, rfl, -⟩ := id M
  have C : CX K RX10 cX10_digest 5 rm_X10_digest := C
  obtain ⟨mm, mL, mk, mw, mCl, mGl, mPt, mOr, mRm, mn1, mn2, mn3⟩ := id YY
  obtain ⟨pf1, pf2, -⟩ := pw9_ok hp5
  rw [← hpw] at pf1 pf2
  first | refine w_aload_n C dX10_digest_0 (by rfl) ?_ | refine w_aload_nN C dX10_digest_0 (by rfl) ?_
  refine w_iconst (v := 0) C dX10_digest_1 (by rfl) ?_
  refine pf_X10_32 C mm dX10_digest_2 (fun h1 u1 => ?_)
  have mm := u1.self
  have YY := YY.me (th2 := 0) (day2 := day) (dmp2 := dmp) (pur2 := pur) (rf2 := rf) u1
  have YY0 := YY
  obtain ⟨mm, mL, mk, mw, mCl, mGl, mPt, mOr, mRm, mn1, mn2, mn3⟩ := id YY
  refine lc_X10_319 C dX10_digest_5 ?_
  refine w_lstore_1 C dX10_digest_8 (by first | trivial | rfl) ?_
  refine w_iconst (v := 0) C dX10_digest_9 (by rfl) ?_
  refine w_istore_3 C dX10_digest_10 (by first | trivial | rfl) ?_
  refine lp_X10_dig1 C hl YY hn hO (fun h7 fr7 => ?_) 0 (by decide) Fr.rfl9
  have fr := fr7
  generalize hD1 : sp_it (fun d j => sp_add d (sp_many nP ps nO os nR k day pur rf (nI j)).toInt64) 58303 16 = D1
  refine w_iconst (v := 0) C dX10_digest_34 (by rfl) ?_
  refine w_istore_3 C dX10_digest_35 (by first | trivial | rfl) ?_
  refine lp_X10_dig2 (d := D1) C hl YY0 hn hg hq (fun h7 fr7 => ?_) 0 (by omega) fr
  have fr := fr7
  generalize hD2 : sp_it (sp_dpot gs ps) D1 nP = D2
  refine w_iconst (v := 0) C dX10_digest_106 (by rfl) ?_
  refine w_istore_3 C dX10_digest_107 (by first | trivial | rfl) ?_
  refine lp_X10_dig3 (d := D2) C hl YY0 bG hgz (fun h7 fr7 => ?_) 0 (by omega) fr
  have fr := fr7
  generalize hD3 : sp_it (sp_dglz gs) D2 nG = D3
  refine w_iconst (v := 0) C dX10_digest_149 (by rfl) ?_
  refine w_istore_3 C dX10_digest_150 (by first | trivial | rfl) ?_
  refine lp_X10_dig4 (d := D3) C hl YY0 hn hC hW hk hL hRr (fun h7 fr7 => ?_) 0 (by omega) fr
  have fr := fr7
  generalize hD4 : sp_it (sp_dsh nP ps nR rs k) D3 3 = D4
  have YY := YY0.fr0 fr
  obtain ⟨mm, mL, mk, mw, mCl, mGl, mPt, mOr, mRm, mn1, mn2, mn3⟩ := id YY
  refine w_lload_n C dX10_digest_212 (by rfl) ?_
  refine lc_X10_325 C dX10_digest_213 ?_
  first | refine w_aload_n C dX10_digest_216 (by rfl) ?_ | refine w_aload_nN C dX10_digest_216 (by rfl) ?_
  refine gf_X10_28 C mm dX10_digest_217 ?_
  refine gf_X10_52 C mk dX10_digest_220 ?_
  refine w_dmul C dX10_digest_223 (nn_of (dmul_n (df_whole w64) hk.1.df)) ?_
  refine w_d2l C dX10_digest_224 ?_
  refine cl_X10_321 C (m_X10_add hl) (by rfl) (by rfl) ⟨by decide, by decide⟩ (by rfl) dX10_digest_225 (fun z2 h2 p2 => ?_)
  obtain ⟨rfl, rfl⟩ := p2
  refine w_ldcwf C gw_1605 dX10_digest_228 ?_
  first | refine w_aload_n C dX10_digest_231 (by rfl) ?_ | refine w_aload_nN C dX10_digest_231 (by rfl) ?_
  refine gf_X10_28 C mm dX10_digest_232 ?_
  refine gf_X10_252 C mk dX10_digest_235 ?_
  refine w_fmul C dX10_digest_238 (f64_n pf1) ?_
  refine w_f2l C dX10_digest_239 ?_
  rw [pf2]
  refine cl_X10_321 C (m_X10_add hl) (by rfl) (by rfl) ⟨by decide, by decide⟩ (by rfl) dX10_digest_240 (fun z3 h3 p3 => ?_)
  obtain ⟨rfl, rfl⟩ := p3
  first | refine w_aload_n C dX10_digest_243 (by rfl) ?_ | refine w_aload_nN C dX10_digest_243 (by rfl) ?_
  refine cl_X10_308 C (m_X10_ending hl YY hk hL hRr) mm (by rfl) (by rfl) ⟨by decide, by decide⟩ (by rfl) dX10_digest_244 (fun z4 h4 p4 => ?_)
  obtain ⟨rfl, fr9⟩ := p4
  have YY := YY.fr0 fr9
  refine w_i2l C dX10_digest_247 ?_
  refine cl_X10_321 C (m_X10_add hl) (by rfl) (by rfl) ⟨by decide, by decide⟩ (by rfl) dX10_digest_248 (fun z5 h5 p5 => ?_)
  obtain ⟨rfl, rfl⟩ := p5
  refine w_lret C M dX10_digest_251 ⟨by decide, by decide⟩ ⟨_, rfl, ?_⟩
  exact ⟨by subst hD1 hD2 hD3 hD4; rfl, YY.ex⟩
