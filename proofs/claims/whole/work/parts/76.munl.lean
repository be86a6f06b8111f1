/-! THE REFERENCE: UNLOAD, BEST -/
section LDW
variable {p : Program} {l : Launch} {e : Env} {R : Room} {s : State} {m : MethodId} {args : Array Value} {below : List Frame} {meth : Method} {c : Code} {T : State} {locs : List Loc} {cells slots : Nat}
theorem ldwF (X : Stand p l e R s m args below meth c T locs cells slots) (hexec : p.tables.exec = Jvm.exec) {own : String} {index : Nat} {v : UInt32} (hown : s.vm.findClass own = some m.cls)
    (hconst : (Jvm.Cond.constantFloat own index v).before args s = true) {g : JFrame} (hg : g.method = m) (hdg : decode c.code g.pc = .ok (.ldc_w index, 3)) :
    ∀ target, Steps p.tables e below (T.setTop { g with pc := g.pc + 3, stack := .float v :: g.stack }) target → Steps p.tables e below (T.setTop g) target := by
  obtain ⟨k, cf, hk, hcf, hc⟩ := Cond.constantFloat_spec hown hconst
  obtain ⟨k', hk', he⟩ := X.warmed.alike.2.2 _ _ hk
  intro target hrest
  subst hg
  jvm_step X.here [hexec, hdg, ldc_w.wp_float (s := T) (f := g) X.here.top hk' (by rw [he]; exact hcf) hc]
  exact hrest
end LDW
theorem w_ldcwf {K : KC} {n : Nat × Nat} {pc : Nat} {lv : List (Option Value)} {st : List Value} {h : HM} {own : String} {cc : ByteArray} {nL : Nat} {R : Room} (C : CX K own cc nL R) {index : Nat} {v : UInt32} (hw : Jvm.Cond.constantFloat own index v ∈ lw_G) (hd : decode cc pc = .ok (.ldc_w index, 3)) (k : WW K n (pc + 3) lv (.float v :: st) h) : WW K n pc lv st h := by
  intro H locs ls hP hS hl T hT X
  obtain ⟨t, a, b⟩ := k H locs ls hP hS hl T hT X
  exact ⟨t, ldwF X C.1 C.2.2.2.1 (C.2.2.2.2.1 _ hw) (g := F0 (Km K) pc ls st) rfl (by rw [C.2.1]; exact hd) t a, b⟩
theorem each_ns {nP : Nat} {g : PT → PT} {ps : Nat → PT} {j : Nat} (h : g (ps j) = ps j) : sp_each nP g ps j = sp_each nP g ps (j + 1) := each_n g ps (Or.inr h)

set_option maxHeartbeats 4000000 in
set_option maxRecDepth 100000 in
theorem lp_X10_unload {K : KC} (C : CX K RX10 cX10_unload 4 rm_X10_unload) (hl : (Kl K).stackTraces = false) {q : Nat} {m0 kl wk : Nat} {L : Nat → Nat} {E : Nat → Nat} {M : Nat → Int32} {ca : Nat → Nat} {ga : Nat → Nat} {pa : Nat → Nat} {oa : Nat → Nat} {ra : Nat → Nat} {th : Int32} {nC : Nat} {cs : Nat → Int32 × Int32} {nG : Nat} {gs : Nat → GT} {nP : Nat} {ps : Nat → PT} {nO : Nat} {os : Nat → OT} {nR : Nat} {rs : Nat → RT} {k : KT} {dmp : Int32} {day : Int32} {pur : Int32} {rf : Int32} (hn : nP ≤ 14) (hS : ∀ i, i < nP → okSh (ps i).2.2) (hpc : ∀ i, i < nP → (ps i).1 < nC) (hcl : okCl nC cs) (hg : ∀ i, i < nP → okGl nG (ps i)) (hg1 : ∀ i, i < nP → okG1 (ps i)) (hgz : ∀ i, i < nG → glzOk (gs i))
    (kk : ∀ h', Mh (Kt K) m0 kl wk L E M ca ga pa oa ra th nC cs nG gs nP ((sp_each nP (sp_unl cs gs k) ps nP)) nO os nR rs k dmp day pur rf h' → WW K (1, 4) 96 [some (.ref m0), some (.int (sp_cnt (fun i => decide (i < nP ∧ ¬ qSh (ps i).2.2 = -1 ∧ qSt (sp_firep cs gs (sp_ucone k (ps i)) (ps i)) = 5)) nP)), some (.ref q), none] [] h')
    : ∀ j : Nat, j ≤ nP → ∀ {h : HM} {lr : Int32},  (YY : Mh (Kt K) m0 kl wk L E M ca ga pa oa ra th nC cs nG gs nP ((sp_each nP (sp_unl cs gs k) ps j)) nO os nR rs k dmp day pur rf h) → (hI : h q = some (itC j lr (M 2) (L 2))) → WW K (1, 4) 24 [some (.ref m0), some (.int (sp_cnt (fun i => decide (i < nP ∧ ¬ qSh (ps i).2.2 = -1 ∧ qSt (sp_firep cs gs (sp_ucone k (ps i)) (ps i)) = 5)) j)), some (.ref q), none] [] h := by
  refine up_ind ?_
  intro j hj ih h lr YY hI
  obtain ⟨mm, mL, mk, mw, mCl, mGl, mPt, mOr, mRm, mn1, mn2, mn3⟩ := id YY
  first | refine w_aload_n C dX10_unload_24 (by rfl) ?_ | refine w_aload_nN C dX10_unload_24 (by rfl) ?_
  refine w_hasN C hl YY.lp hI hj (by omega) gw_1257 (by rfl) (by rfl) ⟨by decide, by decide⟩ (by rfl) dX10_unload_25 ?_
  refine w_if_eq (tgt := 96) C dX10_unload_30 (by rfl) (fun c_30 => ?_) (fun c_30 => ?_)
  · try simp only [cg_ge, cg_gt, cl_gt, cl_le, cl_eq, cl_lt, cl_ge, bi_eq0, bi_ne0, bI_eq0, Decidable.not_not, Bool.not_eq_false] at c_30
    obtain rfl : j = nP := by omega
    exact kk _ YY
  · try simp only [cg_ge, cg_gt, cl_gt, cl_le, cl_eq, cl_lt, cl_ge, bi_eq0, bi_ne0, bI_eq0, Decidable.not_not, Bool.not_eq_false] at c_30
    have hj3 : j < nP := by assumption
    obtain ⟨cap, hE, hcn, hcap⟩ := YY.ap.get hj3
    first | refine w_aload_n C dX10_unload_33 (by rfl) ?_ | refine w_aload_nN C dX10_unload_33 (by rfl) ?_
    refine w_next C hl YY.lp hI hE hj3 hcn hcap (row9_i hj3) gw_1267 (by rfl) (by rfl) ⟨by decide, by decide⟩ (by rfl) dX10_unload_34 (fun h9 u9 => ?_)
    have YY := YY.it hI u9
    have hI := u9.self
    obtain ⟨mm, mL, mk, mw, mCl, mGl, mPt, mOr, mRm, mn1, mn2, mn3⟩ := id YY
    have hpj := mPt j hj3
    rw [each_at] at hpj
    refine w_castS C hpj (r := (RX9, TX9, 12)) rfl gw_1152 dX10_unload_39 ?_
    first | refine w_astore_3 C dX10_unload_42 (by first | trivial | rfl) ?_ | refine w_astore_3N C dX10_unload_42 (by first | trivial | rfl) ?_
    first | refine w_aload_n C dX10_unload_43 (by rfl) ?_ | refine w_aload_nN C dX10_unload_43 (by rfl) ?_
    refine gf_X10_150 C hpj dX10_unload_44 ?_
    refine w_iconst (v := (-1)) C dX10_unload_47 (by rfl) ?_
    refine w_icmp_ne (tgt := 54) C dX10_unload_48 (by rfl) (fun c_48 => ?_) (fun c_48 => ?_)
    · obtain ⟨s, hs, es⟩ := (hS j hj3).resolve_left c_48
      have eu := unl_yes (cs := cs) (gs := gs) (k := k) c_48
      have YYp : Mh (Kt K) m0 kl wk L E M ca ga pa oa ra th nC cs nG gs nP ((sp_each nP (sp_unl cs gs k) ps j)) nO os nR rs k dmp day pur rf _ := YY
      have epj : sp_each nP (sp_unl cs gs k) ps j j = ps j := each_at _ _ _ _
      first | refine w_aload_n C dX10_unload_54 (by rfl) ?_ | refine w_aload_nN C dX10_unload_54 (by rfl) ?_
      first | refine w_aload_n C dX10_unload_55 (by rfl) ?_ | refine w_aload_nN C dX10_unload_55 (by rfl) ?_
      first | refine w_aload_n C dX10_unload_56 (by rfl) ?_ | refine w_aload_nN C dX10_unload_56 (by rfl) ?_
      refine gf_X10_28 C mm dX10_unload_57 ?_
      first | refine w_aload_n C dX10_unload_60 (by rfl) ?_ | refine w_aload_nN C dX10_unload_60 (by rfl) ?_
      refine gf_X10_150 C hpj dX10_unload_61 ?_
      rw [es]
      refine cl_X10_242 C (m_X8_cone hl mk mw hs) mk (by rfl) (by rfl) ⟨by decide, by decide⟩ (by rfl) dX10_unload_64 (fun z1 h1 p1 => ?_)
      obtain ⟨rfl, rfl⟩ := p1
      rw [ucone_at es hs]
      refine cl_X10_245 C ((epj ▸ m_X10_finish hl YY (j := j) (cone := sp_ucone k (ps j)) hj3 (by rw [epj]; exact hpc j hj3) hcl (by rw [epj]; exact hg j hj3) (by rw [epj]; exact hg1 j hj3) hgz : CT (Kl K) (KD K) (Kt K) yX10_finish cX10_finish 6 none rm_X10_finish [.ref m0, .ref (pa j), .int (sp_ucone k (ps j))] _ (rV (fun h' => Up _ (pa j) (mP ((ps j).1, (ps j).2.1, (sp_firep cs gs (sp_ucone k (ps j)) (ps j)))) h')))) mm (by rfl) (by rfl) ⟨by decide, by decide⟩ (by rfl) dX10_unload_67 (fun h2 p2 => ?_)
      have hI := p2.oth hI hpj (by intro v; simp at v)
      have YY := YY.pot hj3 (p := ((ps j).1, (ps j).2.1, (sp_firep cs gs (sp_ucone k (ps j)) (ps j)))) p2
      obtain ⟨mm, mL, mk, mw, mCl, mGl, mPt, mOr, mRm, mn1, mn2, mn3⟩ := id YY
      have hpj := p2.self
      first | refine w_aload_n C dX10_unload_70 (by rfl) ?_ | refine w_aload_nN C dX10_unload_70 (by rfl) ?_
      refine cl_X10_182 C (m_X10_leave hl hpj) (by rfl) (by rfl) ⟨by decide, by decide⟩ (by rfl) dX10_unload_71 (fun h3 p3 => ?_)
      have hI := p3.oth hI hpj (by intro v; simp at v)
      have YY := YY.pot hj3 (p := sp_lvd ((ps j).1, (ps j).2.1, (sp_firep cs gs (sp_ucone k (ps j)) (ps j)))) p3
      rw [upd_upd9, ← eu, each_s _ _ hj3] at YY
      obtain ⟨mm, mL, mk, mw, mCl, mGl, mPt, mOr, mRm, mn1, mn2, mn3⟩ := id YY
      have hpj := p3.self
      refine w_iload_n C dX10_unload_74 (by rfl) ?_
      first | refine w_aload_n C dX10_unload_75 (by rfl) ?_ | refine w_aload_nN C dX10_unload_75 (by rfl) ?_
      refine gf_X10_124 C hpj dX10_unload_76 ?_
      refine w_iconst (v := 5) C dX10_unload_79 (by rfl) ?_
      refine w_icmp_ne (tgt := 87) C dX10_unload_80 (by rfl) (fun c_80 => ?_) (fun c_80 => ?_)
      · refine w_iconst (v := 0) C dX10_unload_87 (by rfl) ?_
        refine cl_X10_127 C (m_X10_one hl) (by rfl) (by rfl) ⟨by decide, by decide⟩ (by rfl) dX10_unload_88 (fun z5 h4 p4 => ?_)
        obtain ⟨rfl, e9⟩ := p4
        obtain rfl : z5 = bi ((fun i => decide (i < nP ∧ ¬ qSh (ps i).2.2 = -1 ∧ qSt (sp_firep cs gs (sp_ucone k (ps i)) (ps i)) = 5)) j) := by
          rw [e9, show (fun i => decide (i < nP ∧ ¬ qSh (ps i).2.2 = -1 ∧ qSt (sp_firep cs gs (sp_ucone k (ps i)) (ps i)) = 5)) j = false from decide_eq_false (fun w => c_80 w.2.2)]
          rfl
        have YY9 := YY
        refine w_iadd C dX10_unload_91 ?_
        rw [show sp_cnt (fun i => decide (i < nP ∧ ¬ qSh (ps i).2.2 = -1 ∧ qSt (sp_firep cs gs (sp_ucone k (ps i)) (ps i)) = 5)) j + bi ((fun i => decide (i < nP ∧ ¬ qSh (ps i).2.2 = -1 ∧ qSt (sp_firep cs gs (sp_ucone k (ps i)) (ps i)) = 5)) j) = sp_cnt (fun i => decide (i < nP ∧ ¬ qSh (ps i).2.2 = -1 ∧ qSt (sp_firep cs gs (sp_ucone k (ps i)) (ps i)) = 5)) (j + 1) from rfl]
        refine w_istore_1 C dX10_unload_92 (by first | trivial | rfl) ?_
        refine w_goto (tgt := 24) C dX10_unload_93 (by rfl) ?_
        exact w_sub (ih hj3 YY9 hI) (by repeat' first | exact trivial | rfl | constructor)
      · refine w_iconst (v := 1) C dX10_unload_83 (by rfl) ?_
        refine w_goto (tgt := 88) C dX10_unload_84 (by rfl) ?_
        refine cl_X10_127 C (m_X10_one hl) (by rfl) (by rfl) ⟨by decide, by decide⟩ (by rfl) dX10_unload_88 (fun z5 h5 p5 => ?_)
        obtain ⟨rfl, e9⟩ := p5
        obtain rfl : z5 = bi ((fun i => decide (i < nP ∧ ¬ qSh (ps i).2.2 = -1 ∧ qSt (sp_firep cs gs (sp_ucone k (ps i)) (ps i)) = 5)) j) := by
          rw [e9, show (fun i => decide (i < nP ∧ ¬ qSh (ps i).2.2 = -1 ∧ qSt (sp_firep cs gs (sp_ucone k (ps i)) (ps i)) = 5)) j = true from decide_eq_true ⟨hj3, c_48, c_80⟩]
          rfl
        have YY9 := YY
        refine w_iadd C dX10_unload_91 ?_
        rw [show sp_cnt (fun i => decide (i < nP ∧ ¬ qSh (ps i).2.2 = -1 ∧ qSt (sp_firep cs gs (sp_ucone k (ps i)) (ps i)) = 5)) j + bi ((fun i => decide (i < nP ∧ ¬ qSh (ps i).2.2 = -1 ∧ qSt (sp_firep cs gs (sp_ucone k (ps i)) (ps i)) = 5)) j) = sp_cnt (fun i => decide (i < nP ∧ ¬ qSh (ps i).2.2 = -1 ∧ qSt (sp_firep cs gs (sp_ucone k (ps i)) (ps i)) = 5)) (j + 1) from rfl]
        refine w_istore_1 C dX10_unload_92 (by first | trivial | rfl) ?_
        refine w_goto (tgt := 24) C dX10_unload_93 (by rfl) ?_
        exact w_sub (ih hj3 YY9 hI) (by repeat' first | exact trivial | rfl | constructor)
    · have YY9 := YY
      rw [each_ns (g := sp_unl cs gs k) (unl_no c_48)] at YY9
      have ec : sp_cnt (fun i => decide (i < nP ∧ ¬ qSh (ps i).2.2 = -1 ∧ qSt (sp_firep cs gs (sp_ucone k (ps i)) (ps i)) = 5)) j = sp_cnt (fun i => decide (i < nP ∧ ¬ qSh (ps i).2.2 = -1 ∧ qSt (sp_firep cs gs (sp_ucone k (ps i)) (ps i)) = 5)) (j + 1) := by
        show _ = sp_cnt (fun i => decide (i < nP ∧ ¬ qSh (ps i).2.2 = -1 ∧ qSt (sp_firep cs gs (sp_ucone k (ps i)) (ps i)) = 5)) j + bi (decide _)
        rw [decide_eq_false (fun w => w.2.1 c_48), bi_f, Int32.add_zero]
      rw [ec]
      refine w_goto (tgt := 24) C dX10_unload_51 (by rfl) ?_
      exact w_sub (ih hj3 YY9 hI) (by repeat' first | exact trivial | rfl | constructor)
