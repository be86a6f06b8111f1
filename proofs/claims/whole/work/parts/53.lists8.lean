/-! CONTRACTS AT LESS, AND BESIDE OTHER CELLS -/
section FRAME
variable {l : Launch} {D : va_G} {tc : Nat → ClassId} {y : MethodName} {cc : ByteArray} {nL : Nat} {ret : Option FieldType} {rm : Room} {args : List Value} {h h1 h2 : HM} {post post' : Option Value → HM → Prop} {px px' : String → HM → Prop}
theorem CT.mono (hM : CT l D tc y cc nL ret rm args h post) (hi : ∀ r h', post r h' → post' r h') : CT l D tc y cc nL ret rm args h post' := by
  intro sz p e ha hc hk s m a below hf happ hP hT
  obtain ⟨n, o, a1, a2, a3, ⟨⟨r, h', e1, p1, pw1⟩, F1⟩, L9⟩ := hM sz p e ha hc hk s m a below hf happ hP hT
  exact ⟨n, o, a1, a2, a3, ⟨⟨r, h', e1, hi r h' p1, pw1⟩, F1⟩, L9⟩
theorem CTX.mono (hM : CTX l D tc y cc nL ret rm args h post px) (hi : ∀ r h', post r h' → post' r h') (hx : ∀ E h', px E h' → px' E h') : CTX l D tc y cc nL ret rm args h post' px' := by
  intro sz p e ha hc hk s m a below hf happ hP hT
  obtain ⟨n, o, a1, a2, a3, ⟨⟨⟨r, h', e1, p1, pw1⟩, F1⟩, L9⟩ | ⟨q, eo, E, ce, L9, ⟨⟨h', p1, pw1⟩, F1⟩, R9⟩⟩ := hM sz p e ha hc hk s m a below hf happ hP hT
  · exact ⟨n, o, a1, a2, a3, Or.inl ⟨⟨⟨r, h', e1, hi r h' p1, pw1⟩, F1⟩, L9⟩⟩
  · exact ⟨n, o, a1, a2, a3, Or.inr ⟨q, eo, E, ce, L9, ⟨⟨h', hx E h' p1, pw1⟩, F1⟩, R9⟩⟩
theorem dm_hj {sz : Nat} {q : Nat} (w : dm h1 sz q) : dm (hj h1 h2) sz q := by
  rcases w with ⟨e, he⟩ | w
  · exact Or.inl ⟨e, hj_l he⟩
  · exact Or.inr w
theorem va_F.hj {sz : Nat} {s t : State} (F : va_F (dm h1 sz) s t) : va_F (dm (hj h1 h2) sz) s t := ⟨F.1, fun q hq hn => F.2 q hq (fun w => hn (dm_hj w))⟩
theorem pc_hj {sz : Nat} {a : Array Value} {s : State} (hP : PcH D tc args (hj h1 h2) sz a s) : PcH D tc args h1 sz a s := by
  obtain ⟨h0, hsz, hP, hK, hS⟩ := hP
  exact ⟨h0, hsz, hP.part (fun a e q => hj_l q), hK, hS.narrow (fun q w => dm_hj w)⟩
theorem pw_hj (hx : ∀ a e, h2 a = some e → h1 a = none) {sz : Nat} {a : Array Value} {s t : State} {h' : HM} (hP : PcH D tc args (hj h1 h2) sz a s) (F : va_F (dm h1 sz) s t) (hP1 : PW D (dm h1 sz) h' t.heap) : PW D (dm (hj h1 h2) sz) (hj h' h2) t.heap ∧ ∀ a e, h2 a = some e → h' a = none := by
  obtain ⟨h0, hsz, hP, hK, hS⟩ := hP
  subst hsz
  exact PW.join (hP.weaken (fun a e q => Or.inl ⟨e, q⟩)) hx (fun q => Iff.rfl) (fun q hq => Or.inr hq) F.2 hP1
theorem CT.frame (hx : ∀ a e, h2 a = some e → h1 a = none) (hM : CT l D tc y cc nL ret rm args h1 post) : CT l D tc y cc nL ret rm args (hj h1 h2) (fun r h' => ∃ h1', post r h1' ∧ h' = hj h1' h2 ∧ ∀ a e, h2 a = some e → h1' a = none) := by
  intro sz p e ha hc hk s m a below hf happ hP hT
  obtain ⟨n, o, a1, a2, a3, ⟨⟨r, h', e1, p1, pw1⟩, F1⟩, L, FE, HL⟩ := hM sz p e ha hc hk s m a below hf happ (pc_hj hP) hT
  obtain ⟨k1, k2⟩ := pw_hj hx hP F1 pw1
  exact ⟨n, o, a1, a2, a3, ⟨⟨r, hj h' h2, e1, ⟨h', p1, rfl, k2⟩, k1⟩, F1.hj⟩, L, FE, fun q hq => dm_hj (HL q hq)⟩
theorem CTX.frame (hx : ∀ a e, h2 a = some e → h1 a = none) (hM : CTX l D tc y cc nL ret rm args h1 post px) : CTX l D tc y cc nL ret rm args (hj h1 h2) (fun r h' => ∃ h1', post r h1' ∧ h' = hj h1' h2 ∧ ∀ a e, h2 a = some e → h1' a = none) (fun E h' => ∃ h1', px E h1' ∧ h' = hj h1' h2 ∧ ∀ a e, h2 a = some e → h1' a = none) := by
  intro sz p e ha hc hk s m a below hf happ hP hT
  obtain ⟨n, o, a1, a2, a3, ⟨⟨⟨r, h', e1, p1, pw1⟩, F1⟩, L, FE, HL⟩ | ⟨q, eo, E, ce, L9, ⟨⟨h', p1, pw1⟩, F1⟩, r1, r2, r3, r4, r5, r6⟩⟩ := hM sz p e ha hc hk s m a below hf happ (pc_hj hP) hT
  · obtain ⟨k1, k2⟩ := pw_hj hx hP F1 pw1
    exact ⟨n, o, a1, a2, a3, Or.inl ⟨⟨⟨r, hj h' h2, e1, ⟨h', p1, rfl, k2⟩, k1⟩, F1.hj⟩, L, FE, fun q hq => dm_hj (HL q hq)⟩⟩
  · obtain ⟨k1, k2⟩ := pw_hj hx hP F1 pw1
    exact ⟨n, o, a1, a2, a3, Or.inr ⟨q, eo, E, ce, L9, ⟨⟨hj h' h2, ⟨h', p1, rfl, k2⟩, k1⟩, F1.hj⟩, r1, r2, r3, r4, r5, fun z hz => dm_hj (r6 z hz)⟩⟩
end FRAME
/-! LISTS: one more, none, going through -/
/-- a list's row: the empty one that all share, or one of its own -/
def LA (tc : Nat → ClassId) (el n : Nat) (F : Nat → Nat) (h : HM) : Prop := (el = tc 13 ∧ n = 0) ∨ ∃ cap, h el = some (qCell (tc 8) cap (row9 n F)) ∧ n ≤ cap ∧ (cap = 10 ∨ cap = 15) ∧ el ≠ tc 13
/-- what is held lies elsewhere than the empty row that all share -/
theorem w_ne13 {K : KC} {n : Nat × Nat} {pc : Nat} {lv : List (Option Value)} {st : List Value} {h : HM} {own : String} {cc : ByteArray} {nL : Nat} {R : Room} (C : CX K own cc nL R) {a : Nat} {e : va_E} (ha : h a = some e) (k : a ≠ Kt K 13 → WW K n pc lv st h) : WW K n pc lv st h := fun H locs ls hP hS hl => k (fun w => (sw_list C).2.1.out (by rw [← w]; exact hP.inA ha)) H locs ls hP hS hl
theorem cpy_row (n : Nat) (F : Nat → Nat) : va_cpy (row9 n F) (fun _ => none) 0 0 n = row9 n F := by
  funext k
  simp only [va_cpy, row9]
  by_cases w : k < n
  · rw [if_pos ⟨Nat.zero_le _, by omega⟩, if_pos w]
    simp [w]
  · rw [if_neg (by omega), if_neg w]
theorem not_lC9 {mc : Int32} {el n : Nat} : (∀ (m : Nat) (cA : ClassId) (f : Nat → Int32), (.inl (cA, m, .inl f) : va_E) ≠ lC mc el n) ∧ ∀ fs, (.inr (11, fs) : va_E) ≠ lC mc el n := ⟨by intro _ _ _ q; simp at q, by intro _ q; simp at q⟩

theorem okE.fr1 {tc : Nat → ClassId} {h h' : HM} {e a : Nat} {e0 : va_E} (q : okE tc h e) (u : Fr [a] h h') (ha : h a = some e0) (n1 : ∀ m f, .inl (tc 0, m, .inl f) ≠ e0) (n2 : ∀ fs, .inr (11, fs) ≠ e0) : okE tc h' e := by
  rcases q with ⟨m, f, q⟩ | ⟨fs, q⟩
  · exact Or.inl ⟨m, f, u _ _ (not1 (ne_of q ha (n1 m f))) q⟩
  · exact Or.inr ⟨fs, u _ _ (not1 (ne_of q ha (n2 fs))) q⟩
/-- a change of a cell that was none before, seen from before -/
theorem frNo9 {h h1 h2 : HM} {a q : Nat} {e : va_E} (fr : Fr [a] h h1) (u : Up h1 q e h2) (n : h q = none) : Fr [a] h h2 := fun b z m hb => by
  have hbq : b ≠ q := fun w => by rw [w, n] at hb; cases hb
  rw [u.ne hbq]; exact fr b z m hb

set_option maxHeartbeats 4000000 in
set_option maxRecDepth 100000 in
theorem m_add2A {l : Launch} {D : va_G} {tc : Nat → ClassId} (hl : l.stackTraces = false) {h : HM} {a e el n : Nat} {mc : Int32} (hf : h a = some (lC mc el n)) (he : okE tc h e) {cap : Nat} {f : Nat → Option Nat} (hE : h el = some (qCell (tc 8) cap f)) (hn : n < cap) (hc : cap ≤ 15) :
    CT l D tc yJx4a65c_add_72be8 cJx4a65c_add_72be8 4 none rm_Jx4a65c_add_72be8 [.ref a, .ref e, .ref el, .int (nI n)] h (rV (fun h' => h' a = some (lC mc el (n + 1)) ∧ h' el = some (qCell (tc 8) cap (va_up f n (some e))) ∧ Fr [a, el] h h')) := by
  refine CT.start [some (.ref a), some (.ref e), some (.ref el), some (.int (nI n))] (by decide) hl rfl rfl (fun K C M => ?_)
  obtain ⟨rfl, rfl, rfl, -⟩ := id M
  have C : CX K RJx4a65c cJx4a65c_add_72be8 4 rm_Jx4a65c_add_72be8 := C
  refine w_iload_n C dJx4a65c_add_72be8_0 (by rfl) ?_
  first | refine w_aload_n C dJx4a65c_add_72be8_1 (by rfl) ?_ | refine w_aload_nN C dJx4a65c_add_72be8_1 (by rfl) ?_
  refine w_alen C 8 hE (by rfl) dJx4a65c_add_72be8_2 ?_
  refine w_icmp_ne (tgt := 11) C dJx4a65c_add_72be8_3 (by rfl) (fun c_3 => ?_) (fun c_3 => ?_)
  · first | refine w_aload_n C dJx4a65c_add_72be8_11 (by rfl) ?_ | refine w_aload_nN C dJx4a65c_add_72be8_11 (by rfl) ?_
    refine w_iload_n C dJx4a65c_add_72be8_12 (by rfl) ?_
    first | refine w_aload_n C dJx4a65c_add_72be8_13 (by rfl) ?_ | refine w_aload_nN C dJx4a65c_add_72be8_13 (by rfl) ?_
    refine w_aastM C hE he (hn) (by omega) dJx4a65c_add_72be8_14 (fun h9 u9 => ?_)
    have hf := u9.oth hf hE (by intro q; simp at q)
    have hE := u9.self
    first | refine w_aload_n C dJx4a65c_add_72be8_15 (by rfl) ?_ | refine w_aload_nN C dJx4a65c_add_72be8_15 (by rfl) ?_
    refine w_iload_n C dJx4a65c_add_72be8_16 (by rfl) ?_
    refine w_iconst (v := 1) C dJx4a65c_add_72be8_17 (by rfl) ?_
    refine w_iadd C dJx4a65c_add_72be8_18 ?_
    rw [nI_1 n]
    refine pf_Jx4a65c_48 C hf dJx4a65c_add_72be8_19 (fun h1 u1 => ?_)
    have hE := u1.oth hE hf (by intro q; simp at q)
    have hf := u1.self
    refine w_vret C M dJx4a65c_add_72be8_22 ⟨by decide, by decide⟩ ⟨rfl, ?_⟩
    exact ⟨hf, hE, (u9.fr.sub (by simp)).tr (u1.fr.sub (by simp))⟩
  · exact absurd (nI_inj (by omega) (by omega) c_3) (by omega)

set_option maxHeartbeats 4000000 in
set_option maxRecDepth 100000 in
theorem m_add2B {l : Launch} {D : va_G} {tc : Nat → ClassId} (hl : l.stackTraces = false) {h : HM} {a e : Nat} {mc : Int32} (hf : h a = some (lC mc (tc 13) 0)) (he : okE tc h e) :
    CT l D tc yJx4a65c_add_72be8 cJx4a65c_add_72be8 4 none rm_Jx4a65c_add_72be8 [.ref a, .ref e, .ref (tc 13), .int (nI 0)] h (rV (fun h' => ∃ q, h q = none ∧ h' a = some (lC mc q 1) ∧ h' q = some (qCell (tc 8) 10 (va_up (fun _ => none) 0 (some e))) ∧ Fr [a] h h')) := by
  refine CT.start [some (.ref a), some (.ref e), some (.ref (tc 13)), some (.int (nI 0))] (by decide) hl rfl rfl (fun K C M => ?_)
  obtain ⟨rfl, rfl, rfl, -⟩ := id M
  have C : CX K RJx4a65c cJx4a65c_add_72be8 4 rm_Jx4a65c_add_72be8 := C
  refine w_iload_n C dJx4a65c_add_72be8_0 (by rfl) ?_
  first | refine w_aload_n C dJx4a65c_add_72be8_1 (by rfl) ?_ | refine w_aload_nN C dJx4a65c_add_72be8_1 (by rfl) ?_
  refine w_tlen C (sw_list C).2.1 dJx4a65c_add_72be8_2 ?_
  refine w_icmp_ne (tgt := 11) C dJx4a65c_add_72be8_3 (by rfl) (fun c_3 => ?_) (fun c_3 => ?_)
  · exact absurd rfl c_3
  · first | refine w_aload_n C dJx4a65c_add_72be8_6 (by rfl) ?_ | refine w_aload_nN C dJx4a65c_add_72be8_6 (by rfl) ?_
    refine cl_Jx4a65c_129 C (m_growA hl hf) hf (by rfl) (by rfl) ⟨by decide, by decide⟩ (by rfl) dJx4a65c_add_72be8_7 (fun z1 h1 p1 => ?_)
    obtain ⟨q, rfl, w1, hf1, hE, fr⟩ := p1
    have he := he.fr1 fr hf (fun m f => not_lC9.1 m _ f) not_lC9.2
    have hf := hf1
    first | refine w_astore_2 C dJx4a65c_add_72be8_10 (by first | trivial | rfl) ?_ | refine w_astore_2N C dJx4a65c_add_72be8_10 (by first | trivial | rfl) ?_
    first | refine w_aload_n C dJx4a65c_add_72be8_11 (by rfl) ?_ | refine w_aload_nN C dJx4a65c_add_72be8_11 (by rfl) ?_
    refine w_iload_n C dJx4a65c_add_72be8_12 (by rfl) ?_
    first | refine w_aload_n C dJx4a65c_add_72be8_13 (by rfl) ?_ | refine w_aload_nN C dJx4a65c_add_72be8_13 (by rfl) ?_
    refine w_aastM C hE he ((show 0 < 10 by decide)) (by omega) dJx4a65c_add_72be8_14 (fun h9 u9 => ?_)
    have hf := u9.oth hf hE (by intro q; simp at q)
    have hE := u9.self
    first | refine w_aload_n C dJx4a65c_add_72be8_15 (by rfl) ?_ | refine w_aload_nN C dJx4a65c_add_72be8_15 (by rfl) ?_
    refine w_iload_n C dJx4a65c_add_72be8_16 (by rfl) ?_
    refine w_iconst (v := 1) C dJx4a65c_add_72be8_17 (by rfl) ?_
    refine w_iadd C dJx4a65c_add_72be8_18 ?_
    refine pf_Jx4a65c_48 C hf dJx4a65c_add_72be8_19 (fun h2 u2 => ?_)
    have hE := u2.oth hE hf (by intro q; simp at q)
    have hf := u2.self
    refine w_vret C M dJx4a65c_add_72be8_22 ⟨by decide, by decide⟩ ⟨rfl, ?_⟩
    exact ⟨q, w1, hf, hE, (frNo9 fr u9 w1).tr (u2.fr.sub (by simp))⟩

set_option maxHeartbeats 4000000 in
set_option maxRecDepth 100000 in
theorem m_add2C {l : Launch} {D : va_G} {tc : Nat → ClassId} (hl : l.stackTraces = false) {h : HM} {a e el : Nat} {mc : Int32} (hf : h a = some (lC mc el 10)) (he : okE tc h e) {f : Nat → Option Nat} (hE : h el = some (qCell (tc 8) 10 f)) (hok : ∀ i, i < 10 → ∀ y, f i = some y → okE tc h y) :
    CT l D tc yJx4a65c_add_72be8 cJx4a65c_add_72be8 4 none rm_Jx4a65c_add_72be8 [.ref a, .ref e, .ref el, .int (nI 10)] h (rV (fun h' => ∃ q, h q = none ∧ h' a = some (lC mc q 11) ∧ h' q = some (qCell (tc 8) 15 (va_up (va_cpy f (fun _ => none) 0 0 10) 10 (some e))) ∧ Fr [a] h h')) := by
  refine CT.start [some (.ref a), some (.ref e), some (.ref el), some (.int (nI 10))] (by decide) hl rfl rfl (fun K C M => ?_)
  obtain ⟨rfl, rfl, rfl, -⟩ := id M
  have C : CX K RJx4a65c cJx4a65c_add_72be8 4 rm_Jx4a65c_add_72be8 := C
  refine w_iload_n C dJx4a65c_add_72be8_0 (by rfl) ?_
  first | refine w_aload_n C dJx4a65c_add_72be8_1 (by rfl) ?_ | refine w_aload_nN C dJx4a65c_add_72be8_1 (by rfl) ?_
  refine w_alen C 8 hE (by rfl) dJx4a65c_add_72be8_2 ?_
  refine w_icmp_ne (tgt := 11) C dJx4a65c_add_72be8_3 (by rfl) (fun c_3 => ?_) (fun c_3 => ?_)
  · exact absurd rfl c_3
  · first | refine w_aload_n C dJx4a65c_add_72be8_6 (by rfl) ?_ | refine w_aload_nN C dJx4a65c_add_72be8_6 (by rfl) ?_
    refine cl_Jx4a65c_129 C (m_growB hl hf hE hok) hf (by rfl) (by rfl) ⟨by decide, by decide⟩ (by rfl) dJx4a65c_add_72be8_7 (fun z1 h1 p1 => ?_)
    obtain ⟨q, rfl, w1, hf1, hQ, fr⟩ := p1
    have he := he.fr1 fr hf (fun m f => not_lC9.1 m _ f) not_lC9.2
    have hf := hf1
    first | refine w_astore_2 C dJx4a65c_add_72be8_10 (by first | trivial | rfl) ?_ | refine w_astore_2N C dJx4a65c_add_72be8_10 (by first | trivial | rfl) ?_
    first | refine w_aload_n C dJx4a65c_add_72be8_11 (by rfl) ?_ | refine w_aload_nN C dJx4a65c_add_72be8_11 (by rfl) ?_
    refine w_iload_n C dJx4a65c_add_72be8_12 (by rfl) ?_
    first | refine w_aload_n C dJx4a65c_add_72be8_13 (by rfl) ?_ | refine w_aload_nN C dJx4a65c_add_72be8_13 (by rfl) ?_
    refine w_aastM C hQ he ((show 10 < 15 by decide)) (by omega) dJx4a65c_add_72be8_14 (fun h9 u9 => ?_)
    have hf := u9.oth hf hQ (by intro q; simp at q)
    have hQ := u9.self
    first | refine w_aload_n C dJx4a65c_add_72be8_15 (by rfl) ?_ | refine w_aload_nN C dJx4a65c_add_72be8_15 (by rfl) ?_
    refine w_iload_n C dJx4a65c_add_72be8_16 (by rfl) ?_
    refine w_iconst (v := 1) C dJx4a65c_add_72be8_17 (by rfl) ?_
    refine w_iadd C dJx4a65c_add_72be8_18 ?_
    refine pf_Jx4a65c_48 C hf dJx4a65c_add_72be8_19 (fun h2 u2 => ?_)
    have hQ := u2.oth hQ hf (by intro q; simp at q)
    have hf := u2.self
    refine w_vret C M dJx4a65c_add_72be8_22 ⟨by decide, by decide⟩ ⟨rfl, ?_⟩
    exact ⟨q, w1, hf, hQ, (frNo9 fr u9 w1).tr (u2.fr.sub (by simp))⟩

set_option maxHeartbeats 4000000 in
set_option maxRecDepth 100000 in
theorem m_addA {l : Launch} {D : va_G} {tc : Nat → ClassId} (hl : l.stackTraces = false) {h : HM} {a e el n : Nat} {mc : Int32} (hf : h a = some (lC mc el n)) (he : okE tc h e) {cap : Nat} {f : Nat → Option Nat} (hE : h el = some (qCell (tc 8) cap f)) (hn : n < cap) (hc : cap ≤ 15) :
    CT l D tc yJx4a65c_add_9ea2d cJx4a65c_add_9ea2d 2 (some FieldType.boolean) rm_Jx4a65c_add_9ea2d [.ref a, .ref e] h (rI (fun z h' => z = 1 ∧ h' a = some (lC (mc + 1) el (n + 1)) ∧ h' el = some (qCell (tc 8) cap (va_up f n (some e))) ∧ Fr [a, el] h h')) := by
  refine CT.start [some (.ref a), some (.ref e)] (by decide) hl rfl rfl (fun K C M => ?_)
  obtain ⟨rfl, rfl, rfl, -⟩ := id M
  have C : CX K RJx4a65c cJx4a65c_add_9ea2d 2 rm_Jx4a65c_add_9ea2d := C
  first | refine w_aload_n C dJx4a65c_add_9ea2d_0 (by rfl) ?_ | refine w_aload_nN C dJx4a65c_add_9ea2d_0 (by rfl) ?_
  refine w_dup C dJx4a65c_add_9ea2d_1 (by rfl) ?_
  refine gf_Jx4a65c_63 C hf dJx4a65c_add_9ea2d_2 ?_
  refine w_iconst (v := 1) C dJx4a65c_add_9ea2d_5 (by rfl) ?_
  refine w_iadd C dJx4a65c_add_9ea2d_6 ?_
  have hf0 := hf
  refine pf_Jx4a65c_63 C hf dJx4a65c_add_9ea2d_7 (fun h1 u1 => ?_)
  have hE := u1.oth hE hf (by intro q; simp at q)
  have hf := u1.self
  have he := he.up u1 hf0 (fun m f => not_lC9.1 m _ f) not_lC9.2
  first | refine w_aload_n C dJx4a65c_add_9ea2d_10 (by rfl) ?_ | refine w_aload_nN C dJx4a65c_add_9ea2d_10 (by rfl) ?_
  first | refine w_aload_n C dJx4a65c_add_9ea2d_11 (by rfl) ?_ | refine w_aload_nN C dJx4a65c_add_9ea2d_11 (by rfl) ?_
  first | refine w_aload_n C dJx4a65c_add_9ea2d_12 (by rfl) ?_ | refine w_aload_nN C dJx4a65c_add_9ea2d_12 (by rfl) ?_
  refine gf_Jx4a65c_9 C hf dJx4a65c_add_9ea2d_13 ?_
  first | refine w_aload_n C dJx4a65c_add_9ea2d_16 (by rfl) ?_ | refine w_aload_nN C dJx4a65c_add_9ea2d_16 (by rfl) ?_
  refine gf_Jx4a65c_48 C hf dJx4a65c_add_9ea2d_17 ?_
  refine cl_Jx4a65c_131 C (m_add2A hl hf he hE hn hc) hf (by rfl) (by rfl) ⟨by decide, by decide⟩ (by rfl) dJx4a65c_add_9ea2d_20 (fun h2 p2 => ?_)
  obtain ⟨w1, w2, w3⟩ := p2
  refine w_iconst (v := 1) C dJx4a65c_add_9ea2d_23 (by rfl) ?_
  refine w_zret C M dJx4a65c_add_9ea2d_24 ⟨by decide, by decide⟩ (by rfl) ⟨_, rfl, ?_⟩
  exact ⟨rfl, w1, w2, (u1.fr.sub (by simp)).tr w3⟩

set_option maxHeartbeats 4000000 in
set_option maxRecDepth 100000 in
theorem m_addB {l : Launch} {D : va_G} {tc : Nat → ClassId} (hl : l.stackTraces = false) {h : HM} {a e : Nat} {mc : Int32} (hf : h a = some (lC mc (tc 13) 0)) (he : okE tc h e) :
    CT l D tc yJx4a65c_add_9ea2d cJx4a65c_add_9ea2d 2 (some FieldType.boolean) rm_Jx4a65c_add_9ea2d [.ref a, .ref e] h (rI (fun z h' => z = 1 ∧ ∃ q, h q = none ∧ h' a = some (lC (mc + 1) q 1) ∧ h' q = some (qCell (tc 8) 10 (va_up (fun _ => none) 0 (some e))) ∧ Fr [a] h h' ∧ q ≠ tc 13)) := by
  refine CT.start [some (.ref a), some (.ref e)] (by decide) hl rfl rfl (fun K C M => ?_)
  obtain ⟨rfl, rfl, rfl, -⟩ := id M
  have C : CX K RJx4a65c cJx4a65c_add_9ea2d 2 rm_Jx4a65c_add_9ea2d := C
  first | refine w_aload_n C dJx4a65c_add_9ea2d_0 (by rfl) ?_ | refine w_aload_nN C dJx4a65c_add_9ea2d_0 (by rfl) ?_
  refine w_dup C dJx4a65c_add_9ea2d_1 (by rfl) ?_
  refine gf_Jx4a65c_63 C hf dJx4a65c_add_9ea2d_2 ?_
  refine w_iconst (v := 1) C dJx4a65c_add_9ea2d_5 (by rfl) ?_
  refine w_iadd C dJx4a65c_add_9ea2d_6 ?_
  have hf0 := hf
  refine pf_Jx4a65c_63 C hf dJx4a65c_add_9ea2d_7 (fun h1 u1 => ?_)
  have hf := u1.self
  have he := he.up u1 hf0 (fun m f => not_lC9.1 m _ f) not_lC9.2
  first | refine w_aload_n C dJx4a65c_add_9ea2d_10 (by rfl) ?_ | refine w_aload_nN C dJx4a65c_add_9ea2d_10 (by rfl) ?_
  first | refine w_aload_n C dJx4a65c_add_9ea2d_11 (by rfl) ?_ | refine w_aload_nN C dJx4a65c_add_9ea2d_11 (by rfl) ?_
  first | refine w_aload_n C dJx4a65c_add_9ea2d_12 (by rfl) ?_ | refine w_aload_nN C dJx4a65c_add_9ea2d_12 (by rfl) ?_
  refine gf_Jx4a65c_9 C hf dJx4a65c_add_9ea2d_13 ?_
  first | refine w_aload_n C dJx4a65c_add_9ea2d_16 (by rfl) ?_ | refine w_aload_nN C dJx4a65c_add_9ea2d_16 (by rfl) ?_
  refine gf_Jx4a65c_48 C hf dJx4a65c_add_9ea2d_17 ?_
  refine cl_Jx4a65c_131 C (m_add2B hl hf he) hf (by rfl) (by rfl) ⟨by decide, by decide⟩ (by rfl) dJx4a65c_add_9ea2d_20 (fun h2 p2 => ?_)
  obtain ⟨q, w0, w1, w2, w3⟩ := p2
  refine w_ne13 C w2 (fun ne13 => ?_)
  refine w_iconst (v := 1) C dJx4a65c_add_9ea2d_23 (by rfl) ?_
  refine w_zret C M dJx4a65c_add_9ea2d_24 ⟨by decide, by decide⟩ (by rfl) ⟨_, rfl, ?_⟩
  exact ⟨rfl, q, u1.fr.none1 hf w0, w1, w2, (u1.fr.sub (by simp)).tr w3, ne13⟩

set_option maxHeartbeats 4000000 in
set_option maxRecDepth 100000 in
theorem m_addC {l : Launch} {D : va_G} {tc : Nat → ClassId} (hl : l.stackTraces = false) {h : HM} {a e el : Nat} {mc : Int32} (hf : h a = some (lC mc el 10)) (he : okE tc h e) {f : Nat → Option Nat} (hE : h el = some (qCell (tc 8) 10 f)) (hok : ∀ i, i < 10 → ∀ y, f i = some y → okE tc h y) :
    CT l D tc yJx4a65c_add_9ea2d cJx4a65c_add_9ea2d 2 (some FieldType.boolean) rm_Jx4a65c_add_9ea2d [.ref a, .ref e] h (rI (fun z h' => z = 1 ∧ ∃ q, h q = none ∧ h' a = some (lC (mc + 1) q 11) ∧ h' q = some (qCell (tc 8) 15 (va_up (va_cpy f (fun _ => none) 0 0 10) 10 (some e))) ∧ Fr [a] h h' ∧ q ≠ tc 13)) := by
  refine CT.start [some (.ref a), some (.ref e)] (by decide) hl rfl rfl (fun K C M => ?_)
  obtain ⟨rfl, rfl, rfl, -⟩ := id M
  have C : CX K RJx4a65c cJx4a65c_add_9ea2d 2 rm_Jx4a65c_add_9ea2d := C
  first | refine w_aload_n C dJx4a65c_add_9ea2d_0 (by rfl) ?_ | refine w_aload_nN C dJx4a65c_add_9ea2d_0 (by rfl) ?_
  refine w_dup C dJx4a65c_add_9ea2d_1 (by rfl) ?_
  refine gf_Jx4a65c_63 C hf dJx4a65c_add_9ea2d_2 ?_
  refine w_iconst (v := 1) C dJx4a65c_add_9ea2d_5 (by rfl) ?_
  refine w_iadd C dJx4a65c_add_9ea2d_6 ?_
  have hf0 := hf
  refine pf_Jx4a65c_63 C hf dJx4a65c_add_9ea2d_7 (fun h1 u1 => ?_)
  have hE := u1.oth hE hf (by intro q; simp at q)
  have hf := u1.self
  have he := he.up u1 hf0 (fun m f => not_lC9.1 m _ f) not_lC9.2
  have hok := fun i (hi : i < 10) y hy => (hok i hi y hy).up u1 hf0 (fun m f => not_lC9.1 m _ f) not_lC9.2
  first | refine w_aload_n C dJx4a65c_add_9ea2d_10 (by rfl) ?_ | refine w_aload_nN C dJx4a65c_add_9ea2d_10 (by rfl) ?_
  first | refine w_aload_n C dJx4a65c_add_9ea2d_11 (by rfl) ?_ | refine w_aload_nN C dJx4a65c_add_9ea2d_11 (by rfl) ?_
  first | refine w_aload_n C dJx4a65c_add_9ea2d_12 (by rfl) ?_ | refine w_aload_nN C dJx4a65c_add_9ea2d_12 (by rfl) ?_
  refine gf_Jx4a65c_9 C hf dJx4a65c_add_9ea2d_13 ?_
  first | refine w_aload_n C dJx4a65c_add_9ea2d_16 (by rfl) ?_ | refine w_aload_nN C dJx4a65c_add_9ea2d_16 (by rfl) ?_
  refine gf_Jx4a65c_48 C hf dJx4a65c_add_9ea2d_17 ?_
  refine cl_Jx4a65c_131 C (m_add2C hl hf he hE hok) hf (by rfl) (by rfl) ⟨by decide, by decide⟩ (by rfl) dJx4a65c_add_9ea2d_20 (fun h2 p2 => ?_)
  obtain ⟨q, w0, w1, w2, w3⟩ := p2
  refine w_ne13 C w2 (fun ne13 => ?_)
  refine w_iconst (v := 1) C dJx4a65c_add_9ea2d_23 (by rfl) ?_
  refine w_zret C M dJx4a65c_add_9ea2d_24 ⟨by decide, by decide⟩ (by rfl) ⟨_, rfl, ?_⟩
  exact ⟨rfl, q, u1.fr.none1 hf w0, w1, w2, (u1.fr.sub (by simp)).tr w3, ne13⟩

/-- one more in a list -/
theorem m_add {l : Launch} {D : va_G} {tc : Nat → ClassId} (hl : l.stackTraces = false) {h : HM} {a e el n : Nat} {mc : Int32} {F : Nat → Nat} (hf : h a = some (lC mc el n)) (hA : LA tc el n F h) (he : okE tc h e) (hok : ∀ i, i < n → okE tc h (F i)) (hn : n ≤ 14) :
    CT l D tc yJx4a65c_add_9ea2d cJx4a65c_add_9ea2d 2 (some FieldType.boolean) rm_Jx4a65c_add_9ea2d [.ref a, .ref e] h (rI (fun z h' => z = 1 ∧ ∃ el', el' ≠ tc 13 ∧ h' a = some (lC (mc + 1) el' (n + 1)) ∧ LA tc el' (n + 1) (vf_upd F n e) h' ∧ ((el' = el ∧ Fr [a, el] h h' ∧ ∃ cap f, h el = some (qCell (tc 8) cap f)) ∨ (h el' = none ∧ Fr [a] h h')))) := by
  rcases hA with ⟨rfl, rfl⟩ | ⟨cap, hE, hc, hcap, h13⟩
  · refine (m_addB hl hf he).mono (fun r h' => ?_)
    rintro ⟨z, rfl, rfl, q, w0, w1, w2, w3, w4⟩
    exact ⟨1, rfl, rfl, q, w4, w1, Or.inr ⟨10, by rw [← row9_up, row9_0]; exact w2, by omega, Or.inl rfl, w4⟩, Or.inr ⟨w0, w3⟩⟩
  · by_cases hlt : n < cap
    · refine (m_addA hl hf he hE hlt (by omega)).mono (fun r h' => ?_)
      rintro ⟨z, rfl, rfl, w1, w2, w3⟩
      exact ⟨1, rfl, rfl, el, h13, w1, Or.inr ⟨cap, by rw [← row9_up]; exact w2, by omega, hcap, h13⟩, Or.inl ⟨rfl, w3, _, _, hE⟩⟩
    · obtain rfl : n = 10 := by omega
      obtain rfl : cap = 10 := by omega
      refine (m_addC hl hf he hE (fun i hi y hy => ?_)).mono (fun r h' => ?_)
      · rw [show row9 10 F i = some (F i) from if_pos hi] at hy
        cases hy
        exact hok i hi
      · rintro ⟨z, rfl, rfl, q, w0, w1, w2, w3, w4⟩
        exact ⟨1, rfl, rfl, q, w4, w1, Or.inr ⟨15, by rw [← row9_up]; rw [cpy_row] at w2; exact w2, by omega, Or.inr rfl, w4⟩, Or.inr ⟨w0, w3⟩⟩

def rowc (n j : Nat) (F : Nat → Nat) : Nat → Option Nat := fun i => if j ≤ i ∧ i < n then some (F i) else none
theorem rowc_0 (n : Nat) (F : Nat → Nat) : rowc n 0 F = row9 n F := by funext i; simp [rowc, row9]
theorem rowc_n (n : Nat) (F : Nat → Nat) : rowc n n F = row9 0 F := by
  funext i
  simp only [rowc, row9]
  rw [if_neg (by omega), if_neg (by omega)]
theorem rowc_s {n j : Nat} {F : Nat → Nat} (h : j < n) : va_up (rowc n j F) j none = rowc n (j + 1) F := by
  funext i
  simp only [va_up, rowc]
  by_cases w : i = j
  · subst w; rw [if_pos rfl, if_neg (by omega)]
  · rw [if_neg w]
    by_cases v : j ≤ i ∧ i < n
    · rw [if_pos v, if_pos (by omega)]
    · rw [if_neg v, if_neg (by omega)]

set_option maxHeartbeats 4000000 in
set_option maxRecDepth 100000 in
theorem lp_clear {K : KC} (C : CX K RJx4a65c cJx4a65c_clear_da8c8 4 rm_Jx4a65c_clear_da8c8) (hl : (Kl K).stackTraces = false) {a el n cap : Nat} {F : Nat → Nat} (hc : n ≤ cap) (hcap : cap < 2 ^ 31) {h0 : HM}
    (kk : ∀ h', Up h0 el (qCell (Kt K 8) cap (rowc n n F)) h' → WW K (0, 0) 42 [some (.ref a), some (.ref el), some (.int (nI n)), some (.int (nI n))] [] h')
    : ∀ j : Nat, j ≤ n → ∀ {h : HM},  (u : Up h0 el (qCell (Kt K 8) cap (rowc n j F)) h) → WW K (0, 0) 27 [some (.ref a), some (.ref el), some (.int (nI n)), some (.int (nI j))] [] h := by
  refine up_ind ?_
  intro j hj ih h u
  have hE := u.self
  refine w_iload_n C dJx4a65c_clear_da8c8_27 (by rfl) ?_
  refine w_iload_n C dJx4a65c_clear_da8c8_28 (by rfl) ?_
  refine w_icmp_ge (tgt := 42) C dJx4a65c_clear_da8c8_29 (by rfl) (fun c_29 => ?_) (fun c_29 => ?_)
  · have e3 : ¬ j < n := fun q => nI_ge q (by omega) c_29
    obtain rfl : j = n := by omega
    exact kk _ u
  · have hj3 : j < n := Nat.not_le.mp (fun q => c_29 (nI_le (a := n) q (by omega)))
    first | refine w_aload_n C dJx4a65c_clear_da8c8_32 (by rfl) ?_ | refine w_aload_nN C dJx4a65c_clear_da8c8_32 (by rfl) ?_
    refine w_iload_n C dJx4a65c_clear_da8c8_33 (by rfl) ?_
    refine w_null C dJx4a65c_clear_da8c8_34 ?_
    refine w_aastZ C hE (by omega) hcap dJx4a65c_clear_da8c8_35 (fun h9 u9 => ?_)
    have u := u.tr u9
    rw [rowc_s hj3] at u
    refine w_iinc_3 (v := _ + (1)) C dJx4a65c_clear_da8c8_36 (by rfl) (by first | trivial | rfl) ?_
    refine w_goto (tgt := 27) C dJx4a65c_clear_da8c8_39 (by rfl) ?_
    rw [nI_1 j]
    exact w_sub (ih hj3 u) (by repeat' first | exact trivial | rfl | constructor)

set_option maxHeartbeats 4000000 in
set_option maxRecDepth 100000 in
theorem m_clear {l : Launch} {D : va_G} {tc : Nat → ClassId} (hl : l.stackTraces = false) {h : HM} {a el n cap : Nat} {mc : Int32} {F : Nat → Nat} (hf : h a = some (lC mc el n)) (hE : h el = some (qCell (tc 8) cap (row9 n F))) (hc : n ≤ cap) (hcap : cap < 2 ^ 31) :
    CT l D tc yJx4a65c_clear_da8c8 cJx4a65c_clear_da8c8 4 none rm_Jx4a65c_clear_da8c8 [.ref a] h (rV (fun h' => h' a = some (lC (mc + 1) el 0) ∧ h' el = some (qCell (tc 8) cap (row9 0 F)) ∧ Fr [a, el] h h')) := by
  refine CT.start [some (.ref a), none, none, none] (by decide) hl rfl rfl (fun K C M => ?_)
  obtain ⟨rfl, rfl, rfl, -⟩ := id M
  have C : CX K RJx4a65c cJx4a65c_clear_da8c8 4 rm_Jx4a65c_clear_da8c8 := C
  first | refine w_aload_n C dJx4a65c_clear_da8c8_0 (by rfl) ?_ | refine w_aload_nN C dJx4a65c_clear_da8c8_0 (by rfl) ?_
  refine w_dup C dJx4a65c_clear_da8c8_1 (by rfl) ?_
  refine gf_Jx4a65c_63 C hf dJx4a65c_clear_da8c8_2 ?_
  refine w_iconst (v := 1) C dJx4a65c_clear_da8c8_5 (by rfl) ?_
  refine w_iadd C dJx4a65c_clear_da8c8_6 ?_
  refine pf_Jx4a65c_63 C hf dJx4a65c_clear_da8c8_7 (fun h1 u1 => ?_)
  have hE := u1.oth hE hf (by intro q; simp at q)
  have hf := u1.self
  first | refine w_aload_n C dJx4a65c_clear_da8c8_10 (by rfl) ?_ | refine w_aload_nN C dJx4a65c_clear_da8c8_10 (by rfl) ?_
  refine gf_Jx4a65c_9 C hf dJx4a65c_clear_da8c8_11 ?_
  first | refine w_astore_1 C dJx4a65c_clear_da8c8_14 (by first | trivial | rfl) ?_ | refine w_astore_1N C dJx4a65c_clear_da8c8_14 (by first | trivial | rfl) ?_
  first | refine w_aload_n C dJx4a65c_clear_da8c8_15 (by rfl) ?_ | refine w_aload_nN C dJx4a65c_clear_da8c8_15 (by rfl) ?_
  refine gf_Jx4a65c_48 C hf dJx4a65c_clear_da8c8_16 ?_
  refine w_istore_2 C dJx4a65c_clear_da8c8_19 (by first | trivial | rfl) ?_
  first | refine w_aload_n C dJx4a65c_clear_da8c8_20 (by rfl) ?_ | refine w_aload_nN C dJx4a65c_clear_da8c8_20 (by rfl) ?_
  refine w_iconst (v := 0) C dJx4a65c_clear_da8c8_21 (by rfl) ?_
  refine w_dup_x1 C dJx4a65c_clear_da8c8_22 (by rfl) (by rfl) ?_
  refine pf_Jx4a65c_48 C hf dJx4a65c_clear_da8c8_23 (fun h2 u2 => ?_)
  have hE := u2.oth hE hf (by intro q; simp at q)
  have hf := u2.self
  refine w_istore_3 C dJx4a65c_clear_da8c8_26 (by first | trivial | rfl) ?_
  refine lp_clear C hl (F := F) hc hcap (fun h9 v9 => ?_) 0 (by omega) (by rw [rowc_0]; exact (hu_id hE).symm)
  have hf := v9.oth hf hE (by intro q; simp at q)
  refine w_vret C M dJx4a65c_clear_da8c8_42 ⟨by decide, by decide⟩ ⟨rfl, ?_⟩
  exact ⟨hf, by rw [← rowc_n n F]; exact v9.self, ((u1.fr.sub (by simp)).tr (u2.fr.sub (by simp))).tr (v9.fr.sub (by simp))⟩

set_option maxHeartbeats 4000000 in
set_option maxRecDepth 100000 in
theorem m_clear0 {l : Launch} {D : va_G} {tc : Nat → ClassId} (hl : l.stackTraces = false) {h : HM} {a : Nat} {mc : Int32} (hf : h a = some (lC mc (tc 13) 0)) :
    CT l D tc yJx4a65c_clear_da8c8 cJx4a65c_clear_da8c8 4 none rm_Jx4a65c_clear_da8c8 [.ref a] h (rV (fun h' => h' a = some (lC (mc + 1) (tc 13) 0) ∧ Fr [a] h h')) := by
  refine CT.start [some (.ref a), none, none, none] (by decide) hl rfl rfl (fun K C M => ?_)
  obtain ⟨rfl, rfl, rfl, -⟩ := id M
  have C : CX K RJx4a65c cJx4a65c_clear_da8c8 4 rm_Jx4a65c_clear_da8c8 := C
  first | refine w_aload_n C dJx4a65c_clear_da8c8_0 (by rfl) ?_ | refine w_aload_nN C dJx4a65c_clear_da8c8_0 (by rfl) ?_
  refine w_dup C dJx4a65c_clear_da8c8_1 (by rfl) ?_
  refine gf_Jx4a65c_63 C hf dJx4a65c_clear_da8c8_2 ?_
  refine w_iconst (v := 1) C dJx4a65c_clear_da8c8_5 (by rfl) ?_
  refine w_iadd C dJx4a65c_clear_da8c8_6 ?_
  refine pf_Jx4a65c_63 C hf dJx4a65c_clear_da8c8_7 (fun h1 u1 => ?_)
  have hf := u1.self
  first | refine w_aload_n C dJx4a65c_clear_da8c8_10 (by rfl) ?_ | refine w_aload_nN C dJx4a65c_clear_da8c8_10 (by rfl) ?_
  refine gf_Jx4a65c_9 C hf dJx4a65c_clear_da8c8_11 ?_
  first | refine w_astore_1 C dJx4a65c_clear_da8c8_14 (by first | trivial | rfl) ?_ | refine w_astore_1N C dJx4a65c_clear_da8c8_14 (by first | trivial | rfl) ?_
  first | refine w_aload_n C dJx4a65c_clear_da8c8_15 (by rfl) ?_ | refine w_aload_nN C dJx4a65c_clear_da8c8_15 (by rfl) ?_
  refine gf_Jx4a65c_48 C hf dJx4a65c_clear_da8c8_16 ?_
  refine w_istore_2 C dJx4a65c_clear_da8c8_19 (by first | trivial | rfl) ?_
  first | refine w_aload_n C dJx4a65c_clear_da8c8_20 (by rfl) ?_ | refine w_aload_nN C dJx4a65c_clear_da8c8_20 (by rfl) ?_
  refine w_iconst (v := 0) C dJx4a65c_clear_da8c8_21 (by rfl) ?_
  refine w_dup_x1 C dJx4a65c_clear_da8c8_22 (by rfl) (by rfl) ?_
  refine pf_Jx4a65c_48 C hf dJx4a65c_clear_da8c8_23 (fun h2 u2 => ?_)
  have hf := u2.self
  refine w_istore_3 C dJx4a65c_clear_da8c8_26 (by first | trivial | rfl) ?_
  refine w_iload_n C dJx4a65c_clear_da8c8_27 (by rfl) ?_
  refine w_iload_n C dJx4a65c_clear_da8c8_28 (by rfl) ?_
  refine w_icmp_ge (tgt := 42) C dJx4a65c_clear_da8c8_29 (by rfl) (fun c_29 => ?_) (fun c_29 => ?_)
  · refine w_vret C M dJx4a65c_clear_da8c8_42 ⟨by decide, by decide⟩ ⟨rfl, ?_⟩
    exact ⟨hf, (u1.fr.sub (by simp)).tr (u2.fr.sub (by simp))⟩
  · exact absurd (by decide) c_29

theorem m_clr {l : Launch} {D : va_G} {tc : Nat → ClassId} (hl : l.stackTraces = false) {h : HM} {a el n : Nat} {mc : Int32} {F : Nat → Nat} (hf : h a = some (lC mc el n)) (hA : LA tc el n F h) :
    CT l D tc yJx4a65c_clear_da8c8 cJx4a65c_clear_da8c8 4 none rm_Jx4a65c_clear_da8c8 [.ref a] h (rV (fun h' => h' a = some (lC (mc + 1) el 0) ∧ LA tc el 0 F h' ∧ (Fr [a] h h' ∨ (∃ cap f, h el = some (qCell (tc 8) cap f)) ∧ el ≠ tc 13 ∧ Fr [a, el] h h'))) := by
  rcases hA with ⟨rfl, rfl⟩ | ⟨cap, hE, hc, hcap, h13⟩
  · refine (m_clear0 hl hf).mono (fun r h' => ?_)
    rintro ⟨rfl, w1, w2⟩
    exact ⟨rfl, w1, Or.inl ⟨rfl, rfl⟩, Or.inl w2⟩
  · refine (m_clear hl hf hE hc (by omega)).mono (fun r h' => ?_)
    rintro ⟨rfl, w1, w2, w3⟩
    exact ⟨rfl, w1, Or.inr ⟨cap, w2, by omega, hcap, h13⟩, Or.inr ⟨⟨_, _, hE⟩, h13, w3⟩⟩
