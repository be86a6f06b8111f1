/-! CONTRACTS AT LESS, AND BESIDE OTHER CELLS -/
section FRAME
variable {l : Launch} {D : va_G} {tc : Nat → ClassId} {y : MethodName} {cc : ByteArray} {nL : Nat} {ret : Option FieldType} {rm : Room} {args : List Value} {h h1 h2 : HM} {post post' : Option Value → HM → Prop} {px px' : String → HM → Prop}
theorem CT.mono (hM : CT l D tc y cc nL ret rm args h post) (hi : ∀ r h', post r h' → post' r h') : CT l D tc y cc nL ret rm args h post' := by
  intro sz p e ha hc hk s m a below hf happ hP hT
  obtain ⟨n, o, a1, a2, a3, ⟨⟨r, h', e1, p1, pw1⟩, F1⟩, L9⟩ := hM sz p e ha hc hk s m a below hf happ hP hT
  exact ⟨n, o, a1, a2, a3, ⟨⟨r, h', e1, hi r h' p1, pw1⟩, F1⟩, L9⟩
theorem CTX.mono (hM : CTX l D tc y cc nL ret rm args h post px) (hi : ∀ r h', post r h' → post' r h') (hx : ∀ E h', px E h' → px' E h') : CTX l D tc y cc nL ret rm args h post' px' := by
  intro sz p e ha hc hk s m a below hf happ hP hT
  obtain ⟨n, o, a1, a2, a3, ⟨⟨⟨r, h', e1, p1, pw1⟩, F1⟩, L9⟩ | ⟨q, eo, E, ce, L9, ⟨⟨h', p1, pw1⟩, F1⟩, R9⟩⟩ := hM sz p e ha hc hk s m a below hf happ hP hT
  · exact ⟨n, o, a1, a2, a3, Or.inl ⟨⟨⟨r, h', e1, hi r h' p1, pw1⟩, F1⟩, L9⟩⟩
  · exact ⟨n, o, a1, a2, a3, Or.inr ⟨q, eo, E, ce, L9, ⟨⟨h', hx E h' p1, pw1⟩, F1⟩, R9⟩⟩
theorem dm_hj {sz : Nat} {q : Nat} (w : dm h1 sz q) : dm (hj h1 h2) sz q := by
  rcases w with ⟨e, he⟩ | w
  · exact Or.inl ⟨e, hj_l he⟩
  · exact Or.inr w
theorem va_F.hj {sz : Nat} {s t : State} (F : va_F (dm h1 sz) s t) : va_F (dm (hj h1 h2) sz) s t := ⟨F.1, fun q hq hn => F.2 q hq (fun w => hn (dm_hj w))⟩
theorem pc_hj {sz : Nat} {a : Array Value} {s : State} (hP : PcH D tc args (hj h1 h2) sz a s) : PcH D tc args h1 sz a s := by
  obtain ⟨h0, hsz, hP, hK, hS⟩ := hP
  exact ⟨h0, hsz, hP.part (fun a e q => hj_l q), hK, hS.narrow (fun q w => dm_hj w)⟩
theorem pw_hj (hx : ∀ a e, h2 a = some e → h1 a = none) {sz : Nat} {a : Array Value} {s t : State} {h' : HM} (hP : PcH D tc args (hj h1 h2) sz a s) (F : va_F (dm h1 sz) s t) (hP1 : PW D (dm h1 sz) h' t.heap) : PW D (dm (hj h1 h2) sz) (hj h' h2) t.heap ∧ ∀ a e, h2 a = some e → h' a = none := by
  obtain ⟨h0, hsz, hP, hK, hS⟩ := hP
  subst hsz
  exact PW.join (hP.weaken (fun a e q => Or.inl ⟨e, q⟩)) hx (fun q => Iff.rfl) (fun q hq => Or.inr hq) F.2 hP1
theorem CT.frame (hx : ∀ a e, h2 a = some e → h1 a = none) (hM : CT l D tc y cc nL ret rm args h1 post) : CT l D tc y cc nL ret rm args (hj h1 h2) (fun r h' => ∃ h1', post r h1' ∧ h' = hj h1' h2 ∧ ∀ a e, h2 a = some e → h1' a = none) := by
  intro sz p e ha hc hk s m a below hf happ hP hT
  obtain ⟨n, o, a1, a2, a3, ⟨⟨r, h', e1, p1, pw1⟩, F1⟩, L, FE, HL⟩ := hM sz p e ha hc hk s m a below hf happ (pc_hj hP) hT
  obtain ⟨k1, k2⟩ := pw_hj hx hP F1 pw1
  exact ⟨n, o, a1, a2, a3, ⟨⟨r, hj h' h2, e1, ⟨h', p1, rfl, k2⟩, k1⟩, F1.hj⟩, L, FE, fun q hq => dm_hj (HL q hq)⟩
theorem CTX.frame (hx : ∀ a e, h2 a = some e → h1 a = none) (hM : CTX l D tc y cc nL ret rm args h1 post px) : CTX l D tc y cc nL ret rm args (hj h1 h2) (fun r h' => ∃ h1', post r h1' ∧ h' = hj h1' h2 ∧ ∀ a e, h2 a = some e → h1' a = none) (fun E h' => ∃ h1', px E h1' ∧ h' = hj h1' h2 ∧ ∀ a e, h2 a = some e → h1' a = none) := by
  intro sz p e ha hc hk s m a below hf happ hP hT
  obtain ⟨n, o, a1, a2, a3, ⟨⟨⟨r, h', e1, p1, pw1⟩, F1⟩, L, FE, HL⟩ | ⟨q, eo, E, ce, L9, ⟨⟨h', p1, pw1⟩, F1⟩, r1, r2, r3, r4, r5, r6⟩⟩ := hM sz p e ha hc hk s m a below hf happ (pc_hj hP) hT
  · obtain ⟨k1, k2⟩ := pw_hj hx hP F1 pw1
    exact ⟨n, o, a1, a2, a3, Or.inl ⟨⟨⟨r, hj h' h2, e1, ⟨h', p1, rfl, k2⟩, k1⟩, F1.hj⟩, L, FE, fun q hq => dm_hj (HL q hq)⟩⟩
  · obtain ⟨k1, k2⟩ := pw_hj hx hP F1 pw1
    exact ⟨n, o, a1, a2, a3, Or.inr ⟨q, eo, E, ce, L9, ⟨⟨hj h' h2, ⟨h', p1, rfl, k2⟩, k1⟩, F1.hj⟩, r1, r2, r3, r4, r5, fun z hz => dm_hj (r6 z hz)⟩⟩
end FRAME
theorem hj_hu {hA hR : HM} {o : Nat} {x : va_E} (n : hA o = none) : hu (hj hA hR) o x = hj hA (hu hR o x) := by
  funext b
  by_cases e : b = o
  · subst e
    simp only [hj, hu_self, n]
  · rw [hu_ne _ _ e]
    simp only [hj]
    rw [hu_ne _ _ e]
theorem dj_hu {hA hR : HM} {o : Nat} {x x0 : va_E} (dj : ∀ a e, hR a = some e → hA a = none) (ho : hR o = some x0) : ∀ a e, hu hR o x a = some e → hA a = none := by
  intro a e h
  by_cases w : a = o
  · subst w; exact dj _ _ ho
  · rw [hu_ne _ _ w] at h; exact dj _ _ h
theorem CTX.frameI {l : Launch} {D : va_G} {tc : Nat → ClassId} {y : MethodName} {cc : ByteArray} {nL : Nat} {ret : Option FieldType} {rm : Room} {args : List Value} {h1 h2 : HM} {p : Int32 → HM → Prop} {px : String → HM → Prop} (hx : ∀ a e, h2 a = some e → h1 a = none) (hM : CTX l D tc y cc nL ret rm args h1 (rI p) px) : CTX l D tc y cc nL ret rm args (hj h1 h2) (rI (fun z h' => ∃ h1', p z h1' ∧ h' = hj h1' h2 ∧ ∀ a e, h2 a = some e → h1' a = none)) (fun E h' => ∃ h1', px E h1' ∧ h' = hj h1' h2 ∧ ∀ a e, h2 a = some e → h1' a = none) :=
  (CTX.frame hx hM).mono (fun r h' ⟨h1', hp, e, d⟩ => by obtain ⟨z, rfl, q⟩ := hp; exact ⟨z, rfl, h1', q, e, d⟩) (fun E h' q => q)
theorem CTX.frameD {l : Launch} {D : va_G} {tc : Nat → ClassId} {y : MethodName} {cc : ByteArray} {nL : Nat} {ret : Option FieldType} {rm : Room} {args : List Value} {h1 h2 : HM} {p : UInt64 → HM → Prop} {px : String → HM → Prop} (hx : ∀ a e, h2 a = some e → h1 a = none) (hM : CTX l D tc y cc nL ret rm args h1 (rD p) px) : CTX l D tc y cc nL ret rm args (hj h1 h2) (rD (fun z h' => ∃ h1', p z h1' ∧ h' = hj h1' h2 ∧ ∀ a e, h2 a = some e → h1' a = none)) (fun E h' => ∃ h1', px E h1' ∧ h' = hj h1' h2 ∧ ∀ a e, h2 a = some e → h1' a = none) :=
  (CTX.frame hx hM).mono (fun r h' ⟨h1', hp, e, d⟩ => by obtain ⟨z, rfl, q⟩ := hp; exact ⟨z, rfl, h1', q, e, d⟩) (fun E h' q => q)
/-- what the second holds, the first does not -/
def D2 (a b : HM) : Prop := ∀ x e, b x = some e → a x = none
theorem D2.sy {a b : HM} (d : D2 a b) : D2 b a := fun x e h => by
  cases hb : b x with
  | none => rfl
  | some z => have := d x z hb; rw [h] at this; cases this
theorem D2.l {a b c : HM} (d : D2 a (hj b c)) : D2 a b := fun x e h => d x e (hj_l h)
theorem D2.r {a b c : HM} (d : D2 a (hj b c)) (bc : D2 b c) : D2 a c := fun x e h => d x e (hj_r h (bc x e h))
theorem D2.mk9 {a b c : HM} (d : D2 a b) (e9 : D2 a c) : D2 a (hj b c) := fun x e h => by
  cases hb : b x with
  | none => exact e9 x e (by simpa [hj, hb] using h)
  | some z => exact d x z hb
section FRAMEA
variable {l : Launch} {D : va_G} {tc : Nat → ClassId} {y : MethodName} {cc : ByteArray} {nL : Nat} {ret : Option FieldType} {rm : Room} {args : List Value} {hA hB hO h1 h2 : HM}
theorem CT.fAI {p : Int32 → HM → Prop} (d : D2 h1 h2) (hM : CT l D tc y cc nL ret rm args h1 (rI p)) : CT l D tc y cc nL ret rm args (hj h1 h2) (rI (fun z h' => ∃ h1', p z h1' ∧ h' = hj h1' h2 ∧ D2 h1' h2)) :=
  (CT.frame d hM).mono (fun r h' ⟨h1', hp, e, d⟩ => by obtain ⟨z, rfl, q⟩ := hp; exact ⟨z, rfl, h1', q, e, d⟩)
theorem CT.fAL {p : Int64 → HM → Prop} (d : D2 h1 h2) (hM : CT l D tc y cc nL ret rm args h1 (rL p)) : CT l D tc y cc nL ret rm args (hj h1 h2) (rL (fun z h' => ∃ h1', p z h1' ∧ h' = hj h1' h2 ∧ D2 h1' h2)) :=
  (CT.frame d hM).mono (fun r h' ⟨h1', hp, e, d⟩ => by obtain ⟨z, rfl, q⟩ := hp; exact ⟨z, rfl, h1', q, e, d⟩)
end FRAMEA
theorem hj_none {a b : HM} {x : Nat} (h : hj a b x = none) : a x = none ∧ b x = none := by
  simp only [hj] at h
  cases ha : a x with
  | some z => rw [ha] at h; cases h
  | none => rw [ha] at h; exact ⟨rfl, h⟩
theorem D2.hu9 {a c : HM} {o : Nat} {x : va_E} (d : D2 a c) (n : a o = none) : D2 a (hu c o x) := fun y e h => by
  by_cases w : y = o
  · subst w; exact n
  · rw [hu_ne _ _ w] at h; exact d _ _ h
theorem D2.e9 {a : HM} : D2 a (fun _ => none) := fun x e h => by cases h
theorem hj_e {a : HM} : hj a (fun _ => none) = a := by
  funext x
  simp only [hj]
  cases a x <;> rfl
theorem hu_2 {a : HM} {o : Nat} {x : va_E} (n : a o = none) : hu a o x = hj a (hj (hu (fun _ => none) o x) (fun _ => none)) := by
  rw [hj_e, ← hj_hu n, hj_e]
