/-! PLACE: what it catches -/
def lw_wh (y : MethodName) (cc : ByteArray) (nL : Nat) (ret : Option FieldType) (hh : List (Nat × Nat × Nat × Nat)) : List Cond := .codeWith y cc nL ret hh :: lw_G
/-- a contract of a method that catches what it calls -/
def CTW (l : Launch) (D : va_G) (tc : Nat → ClassId) (y : MethodName) (cc : ByteArray) (nL : Nat) (ret : Option FieldType) (hh : List (Nat × Nat × Nat × Nat)) (rm : Room) (args : List Value) (h : HM) (post : Option Value → HM → Prop) : Prop :=
  ∀ sz : Nat, vx_Met l y (lw_wh y cc nL ret hh) rm (PcH D tc args h sz) (QcH D h sz post) (XcH D h sz (fun _ _ => False)) rm.cells rm.slots (dm h sz)
theorem CTW.start {l : Launch} {D : va_G} {tc : Nat → ClassId} {y : MethodName} {cc : ByteArray} {nL : Nat} {ret : Option FieldType} {hh : List (Nat × Nat × Nat × Nat)} {rm : Room} {args : List Value} {h : HM} {post : Option Value → HM → Prop} (lv : List (Option Value)) (hy : plainName y.cls = true) (hl : l.stackTraces = false)
    (he : lvE args ++ List.replicate (nL - (lvE args).length) none = lv) (hn : lv.length = nL)
    (body : ∀ K : KC, CX K y.cls cc nL rm → MX K D tc l rm ret h post y.name → (Kc K).exceptionTable.toList = tableOf hh → WW K (0, 0) 0 lv [] h) : CTW l D tc y cc nL ret hh rm args h post := by
  intro sz
  refine vx_ofWH (cc := cc) (maxL := nL) (ret := ret) (hh := hh) hy rfl ?_
  intro p e s m args9 below meth c s₁ B hml hv
  obtain ⟨rfl, hsz, hP, hK, hS⟩ := hv
  subst hsz
  have hin : meth.name = y.name := (name_of_methodNamed B.named B.method).1
  have hts := atoms_spec (ws := lw_wh y cc nL ret hh) B.pre
  have ht := vx_table (x := y) B (hts _ List.mem_cons_self)
  have hD : PW D (dm h s.heap.size) h s.heap := hP.weaken (fun a e9 ha => Or.inl ⟨e9, ha⟩)
  have key := body (p, l, e, rm, s, m, args.toArray, below, meth, c, D, tc, dm h s.heap.size, vx_MQ below (QcH D h s.heap.size post) (XcH D h s.heap.size (fun _ _ => False)) args.toArray s rm.cells rm.slots (dm h s.heap.size))
    ⟨B.exec, B.bytes, hml, findClass_of_methodNamed B.named, fun w hw => hts w (List.mem_cons_of_mem _ hw), hK, fun q hq => Or.inr hq, rfl, hS, hl⟩
    ⟨rfl, rfl, rfl, rfl, B.returns, B.notSynchronized, hin, Or.inr ⟨_, rfl⟩⟩ ht
  rw [lg_entry_eq]
  exact key s.heap [] _ hD va_S.rf (lvE_start he hn)
section CATCH
variable {K : KC} {n : Nat × Nat} {pc : Nat} {lv : List (Option Value)} {st st0 : List Value} {h : HM} {own : String} {cc : ByteArray} {nL : Nat} {R : Room}
theorem w_catch (C : CX K own cc nL R) {E : String} (x : ExceptionTableEntry) (suf : List ExceptionTableEntry) (hsplit : (Kc K).exceptionTable.toList = [] ++ x :: suf)
    (hx : covers x pc = true) (h0 : x.catchType ≠ 0)
    (w1 : Cond.classLink own x.catchType E ∈ lw_G) (w2 : Cond.castable E E ∈ lw_tbl) (kk : ∀ q : Nat, WW K n x.handlerPc lv [.ref q] h) : WX K n pc lv st h E := by
  intro H locs ls q ce hP hS hl hq hv hE
  exact vx_catch C.2.2.2.1 [] x suf hsplit (fun z hz => absurd hz List.not_mem_nil) hx h0 (C.2.2.2.2.1 _ w1) (va_Nw.use (A := Kar K) rfl ((cx_sw C).ca _ _ w2)) hq hv hE (kk q H locs ls hP hS hl)
theorem goodIn_wh {y : MethodName} {cc : ByteArray} {nL : Nat} {ret : Option FieldType} {hh : List (Nat × Nat × Nat × Nat)} (h : Cond.codeWith y cc nL ret hh ∈ lw_G) : GoodIn lw_G (lw_wh y cc nL ret hh) := fun w hw => by
  rcases List.mem_cons.mp hw with e | hw
  · rw [e]; exact ⟨h, good_of_word (G_good h)⟩
  · exact ⟨hw, good_of_word (G_good hw)⟩
theorem w_SW (C : CX K own cc nL R) {y : MethodName} {cc' : ByteArray} {nL' : Nat} {ret' : Option FieldType} {hh : List (Nat × Nat × Nat × Nat)} {rm : Room} {As : List Value} {post : Option Value → HM → Prop} {idx : Nat} (hM : CTW (Kl K) (KD K) (Kt K) y cc' nL' ret' hh rm As h post) (w1 : Cond.methodLink own idx y ∈ lw_G) (w2 : Cond.static y ∈ lw_G) (w3 : Cond.initialized y.cls ∈ lw_G) (w4 : Cond.codeWith y cc' nL' ret' hh ∈ lw_G)
    (hy : okY y As.length = true) (hR : okR rm R nL' = true) (hc : okS st = true) (hn : n.1 + rm.cells ≤ R.cells ∧ n.2 + rm.slots ≤ R.slots) (hnl : lv.length = nL) (hst : st0 = As.reverse ++ st) (hd : decode cc pc = .ok (.invokestatic idx, 3))
    (kk : ∀ (r : Option Value) (h' : HM), post r h' → WW K (n.1 + rm.cells, n.2 + rm.slots) (pc + 3) lv (r.toList ++ st) h') : WW K n pc lv st0 h := by
  intro H locs ls hP hS hl
  have hR9 := C.2.2.2.2.2.2.2.1
  have hG : GoodIn lw_G (va_wsS own idx y (lw_wh y cc' nL' ret' hh)) := fun w hw => by
    simp only [va_wsS, List.cons_append, List.nil_append, List.mem_cons] at hw
    rcases hw with rfl | rfl | rfl | hw
    · exact ⟨w1, good_of_word (G_good w1)⟩
    · exact ⟨w2, good_of_word (G_good w2)⟩
    · exact ⟨w3, good_of_word (G_good w3)⟩
    · exact goodIn_wh w4 w hw
  refine w_runX C hP hS hl (vx_runSX (cx_fix C) (hM H.size) (vx_cwSW (ws' := lw_G) As.length C.2.2.2.2.1 hG rfl rfl rfl (okY_spec hy) (by rw [hR9]; exact okR_spec hR)) ⟨PcH_blind _ _ _ _ _, fun U hU hW => cx_pre C hP hS As U hU hW⟩ rfl rfl (hl.1.trans hnl) hst (lv_room (by simpa [okS] using hc)) hd (by rw [hR9]; exact hn)) kk (fun E h' f => f.elim)
end CATCH
/-- what a change of pots keeps -/
def rel9 (ps ps' : Nat → PT) : Prop := wb9 10 ps ps' ∧ wd9 10 ps ps' ∧ (aps 10 ps → aps 10 ps')
section REL
variable {nR c : Nat} {cs : Nat → Int32 × Int32} {gs : Nat → GT} {ps : Nat → PT} {rs : Nat → RT} {k : KT}
theorem okSt.qs (o : okSt c 1 cs 3 gs 10 ps 0 nR rs k) : ∀ i, i < 10 → okq (ps i).2.2 := fun i hi => (o.2.2.2.2.2.2.1 i hi).q
theorem okSt.ces (o : okSt c 1 cs 3 gs 10 ps 0 nR rs k) : ∀ i, i < 10 → okCe (ps i).2.2 := fun i hi => (o.2.2.2.2.2.2.1 i hi).ce
theorem rel_rf (o : okSt c 1 cs 3 gs 10 ps 0 nR rs k) : rel9 ps ps := ⟨wb9.rf o.qs, st9.rf.wd, id⟩
theorem rel_cover (o : okSt c 1 cs 3 gs 10 ps 0 nR rs k) (j : Nat) (b : Bool) : rel9 ps (vf_upd ps j (sp_cvr b (ps j))) :=
  ⟨wb9.upd o.qs (fun hj => wb1.same (o.qs j hj) rfl id), wd9.upd rfl, fun a => a.congr (st9.upd ⟨rfl, rfl, rfl⟩)⟩
theorem rel_dip (o : okSt c 1 cs 3 gs 10 ps 0 nR rs k) {j : Nat} (g : Nat) (h : qSt (ps j).2.2 = 2) : rel9 ps (vf_upd ps j (sp_dipp g (ps j))) :=
  ⟨wb9.upd o.qs (fun hj => wb1.same (o.qs j hj) rfl (fun w => by rw [h] at w; exact absurd w (by decide))), wd9.upd rfl, fun a => a.congr (st9.upd ⟨rfl, rfl, rfl⟩)⟩
theorem rel_set (o : okSt c 1 cs 3 gs 10 ps 0 nR rs k) {j s ce : Nat} (hj : j < 10) (hs : s < 3) (hc : ce < 10) (h : sp_setok k 10 ps s (nI ce) (ps j).2.2) : rel9 ps (vf_upd ps j (sp_setp (nI s) (nI ce) (ps j))) := by
  refine ⟨wb9.upd o.qs (fun hj => wb1.same (o.qs j hj) rfl id), wd9.upd rfl, fun a => ?_⟩
  obtain ⟨wd, ⟨w1, w2⟩, we⟩ := (o.2.2.2.2.2.2.1 j hj).wd
  have w3 := set_w h hc w1 w2 we
  obtain ⟨t1, t2, -⟩ := cf_tbl ⟨ce, hc⟩ ⟨wd, by omega⟩ w1 w3
  exact a.set (by decide) o.ces hj hs h.2.1.1 h.2.2.2.2 ⟨cfN ce wd, t2, by rw [we]; exact t1⟩
end REL

set_option maxHeartbeats 4000000 in
set_option maxRecDepth 100000 in
theorem m_L_place {l : Launch} {D : va_G} {tc : Nat → ClassId} (hl : l.stackTraces = false) {h : HM} {y0 o2 o3 c : Nat} {fw : Nat → UInt64} {fz : Nat → Int32} {cs : Nat → Int32 × Int32} {gs : Nat → GT} {ps : Nat → PT} {nR : Nat} {rs : Nat → RT} {k : KT} {dmp day : Int32} (J : LJ tc y0 o2 o3 fw fz c cs gs ps nR rs k dmp day h) {j s ce : Nat} (hj : j < 10) (hs : s < 3) (hc : ce < 10) :
    CTW l D tc yL_place cL_place 5 none [(0, 28, 31, 109)] rq_place [.ref y0, .int (nI j), .int (nI s), .int (nI ce)] h (rV (fun h' => ∃ ps', rel9 ps ps' ∧ LJ tc y0 o2 o3 fw fz (c + 1) cs gs ps' nR rs k dmp day h')) := by
  refine CTW.start [some (.ref y0), some (.int (nI j)), some (.int (nI s)), some (.int (nI ce)), none] (by decide) hl rfl rfl (fun K C M ht => ?_)
  obtain ⟨rfl, rfl, rfl, -⟩ := id M
  have C : CX K RL cL_place 5 rq_place := C
  obtain ⟨fs, hy0⟩ := J.y
  have o := J.ok
  have kx9 : ∀ (pc : Nat) (hp : covers ⟨0, 28, 31, 109⟩ pc = true) (E : String) (h9 : HM), E = "java/lang/IllegalStateException" ∧ h9 = h → WX K (5, 30) pc [some (.ref y0), some (.int (nI j)), some (.int (nI s)), some (.int (nI ce)), none] [] h9 E := by
    rintro pc hp E h9 ⟨rfl, rfl⟩
    refine w_catch C ⟨0, 28, 31, 109⟩ [] (ht.trans rfl) hp (by decide) gw_748 gt_251 (fun q => ?_)
    refine w_astore_4 C dL_place_31 (by first | trivial | rfl) ?_
    first | refine w_aload_n C dL_place_33 (by rfl) ?_ | refine w_aload_nN C dL_place_33 (by rfl) ?_
    refine w_iload_n C dL_place_34 (by rfl) ?_
    refine w_iconst (v := 1) C dL_place_35 (by rfl) ?_
    refine cx_L_48 C (q_cover hl J hj (b := true)) hy0 (by rfl) (by rfl) ⟨by decide, by decide⟩ (by rfl) dL_place_36 (fun z9 h2 J2 => ?_) (fun E hx px => px.elim)
    refine w_pop C dL_place_39 (by rfl) ?_
    refine w_vret C M dL_place_40 ⟨by decide, by decide⟩ ⟨rfl, _, rel_cover o j true, J2⟩
  first | refine w_aload_n C dL_place_0 (by rfl) ?_ | refine w_aload_nN C dL_place_0 (by rfl) ?_
  refine w_iload_n C dL_place_1 (by rfl) ?_
  refine w_iconst (v := 0) C dL_place_2 (by rfl) ?_
  refine cx_L_87 C (q_ofPot hl J hj (by decide)) hy0 (by rfl) (by rfl) ⟨by decide, by decide⟩ (by rfl) dL_place_3 (fun z1 h1 p1 => ?_) (fun E hx px => px.elim)
  obtain ⟨rfl, rfl⟩ := p1
  refine w_iconst (v := 2) C dL_place_6 (by rfl) ?_
  refine w_icmp_ne (tgt := 20) C dL_place_7 (by rfl) (fun c_7 => ?_) (fun c_7 => ?_)
  · first | refine w_aload_n C dL_place_20 (by rfl) ?_ | refine w_aload_nN C dL_place_20 (by rfl) ?_
    refine w_iload_n C dL_place_21 (by rfl) ?_
    refine w_iload_n C dL_place_22 (by rfl) ?_
    refine w_iload_n C dL_place_23 (by rfl) ?_
    refine cx_L_106 C (q_set hl J hj hs hc) hy0 (by rfl) (by rfl) ⟨by decide, by decide⟩ (by rfl) dL_place_24 (fun z9 h2 J2 => ?_) (fun E hx px => kx9 24 (by decide) E hx px)
    refine w_pop C dL_place_27 (by rfl) ?_
    refine w_goto (tgt := 40) C dL_place_28 (by rfl) ?_
    refine w_vret C M dL_place_40 ⟨by decide, by decide⟩ ⟨rfl, _, rel_set o hj hs hc J2.1, J2.2⟩
  · first | refine w_aload_n C dL_place_10 (by rfl) ?_ | refine w_aload_nN C dL_place_10 (by rfl) ?_
    refine w_iload_n C dL_place_11 (by rfl) ?_
    refine w_iload_n C dL_place_12 (by rfl) ?_
    refine cx_L_103 C (q_dip hl J hj hs) hy0 (by rfl) (by rfl) ⟨by decide, by decide⟩ (by rfl) dL_place_13 (fun z9 h2 J2 => ?_) (fun E hx px => kx9 13 (by decide) E hx px)
    refine w_pop C dL_place_16 (by rfl) ?_
    refine w_goto (tgt := 28) C dL_place_17 (by rfl) ?_
    refine w_goto (tgt := 40) C dL_place_28 (by rfl) ?_
    refine w_vret C M dL_place_40 ⟨by decide, by decide⟩ ⟨rfl, _, rel_dip o s J2.1, J2.2⟩
