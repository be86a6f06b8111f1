/-! THE WRAPPED JUDGEMENT. An abstract heap (HM) says of addresses what they hold; PW: the machine's heap holds it. WW: from here the machine comes to a state with the context's post. -/
abbrev HM : Type := Nat → Option va_E
def hu (h : HM) (a : Nat) (e : va_E) : HM := fun b => if b = a then some e else h b
theorem hu_self (h : HM) (a : Nat) (e : va_E) : hu h a e a = some e := by simp [hu]
theorem hu_ne (h : HM) {a b : Nat} (e : va_E) (n : b ≠ a) : hu h a e b = h b := by simp [hu, n]
/-- another address: what is held tells them apart -/
theorem hu_o {h : HM} {a b : Nat} {e e0 x : va_E} (hb : h b = some x) (ha : h a = some e0) (n : x ≠ e0) : hu h a e b = some x := by
  rw [hu_ne _ _ (fun z => n (Option.some.inj (hb.symm.trans (by rw [z]; exact ha))))]; exact hb
theorem hu_n {h : HM} {a b : Nat} {e x : va_E} (hb : h b = some x) (ha : h a = none) : hu h a e b = some x := by
  rw [hu_ne _ _ (fun z => by rw [z, ha] at hb; cases hb)]; exact hb
def dm (h : HM) (sz : Nat) : Nat → Prop := fun q => (∃ e, h q = some e) ∨ sz ≤ q
def PW (D : va_G) (A : Nat → Prop) (h : HM) (H : Heap) : Prop := ∃ (L : List Nat) (f : Nat → va_E), (∀ a e, h a = some e → a ∈ L ∧ f a = e) ∧ va_P D vwCl (va_pl L f) H ∧ va_D A (va_pl L f)
theorem va_P_mem {D : va_G} {cl : List vw_C} {ws : va_W} {H : Heap} : va_P D cl ws H ↔ ∀ q ∈ ws, va_at D cl q H := by
  constructor
  · intro h q hq
    obtain ⟨k, hk⟩ := List.getElem?_of_mem hq
    exact h k q hk
  · intro h k q hk
    exact h q (List.mem_of_getElem? hk)
theorem pl_D_iff {A : Nat → Prop} {L : List Nat} {f : Nat → va_E} : va_D A (va_pl L f) ↔ L.Nodup ∧ ∀ a ∈ L, A a := by
  constructor
  · intro h
    constructor
    · refine List.pairwise_iff_getElem.mpr ?_
      intro i j hi hj hij e
      have e1 : L[i]? = some L[i] := List.getElem?_eq_getElem hi
      have e2 : L[j]? = some L[i] := by rw [e]; exact List.getElem?_eq_getElem hj
      have := h.1 i j (L[i], f L[i]) (L[i], f L[i]) (by simp [va_pl, e1]) (by simp [va_pl, e2]) rfl
      omega
    · intro a ha
      obtain ⟨k, hk⟩ := List.getElem?_of_mem ha
      exact h.2 k (a, f a) (by simp [va_pl, hk])
  · intro ⟨hn, hA⟩
    constructor
    · intro i j p q hi hj e
      simp only [va_pl, List.getElem?_map, Option.map_eq_some_iff] at hi hj
      obtain ⟨a, ha, rfl⟩ := hi
      obtain ⟨b, hb, rfl⟩ := hj
      have e : a = b := e
      subst e
      have hi' : i < L.length := (List.getElem?_eq_some_iff.mp ha).1
      have hj' : j < L.length := (List.getElem?_eq_some_iff.mp hb).1
      have hn := List.pairwise_iff_getElem.mp hn
      have ea : L[i] = a := (List.getElem?_eq_some_iff.mp ha).2
      have eb : L[j] = a := (List.getElem?_eq_some_iff.mp hb).2
      rcases Nat.lt_trichotomy i j with q | q | q
      · exact absurd (ea.trans eb.symm) (hn i j hi' hj' q)
      · exact q
      · exact absurd (eb.trans ea.symm) (hn j i hj' hi' q)
    · intro k q hk
      simp only [va_pl, List.getElem?_map, Option.map_eq_some_iff] at hk
      obtain ⟨a, ha, rfl⟩ := hk
      exact hA a (List.mem_of_getElem? ha)
section PWS
variable {D : va_G} {A B : Nat → Prop} {h : HM} {H : Heap} {a : Nat} {e : va_E}
theorem PW.cell (hP : PW D A h H) (ha : h a = some e) : va_at D vwCl (a, e) H := by
  obtain ⟨L, f, h1, h2, -⟩ := hP
  obtain ⟨m, rfl⟩ := h1 a e ha
  exact va_P_mem.mp h2 (a, f a) (List.mem_map.mpr ⟨a, m, rfl⟩)
theorem PW.lt (hP : PW D A h H) (ha : h a = some e) : a < H.size := (hP.cell ha).lt
theorem PW.inA (hP : PW D A h H) (ha : h a = some e) : A a := by
  obtain ⟨L, f, h1, -, h3⟩ := hP
  exact (pl_D_iff.mp h3).2 a (h1 a e ha).1
theorem PW.weaken (hP : PW D A h H) (hB : ∀ a e, h a = some e → B a) : PW D B h H := by
  obtain ⟨L, f, h1, h2, h3⟩ := hP
  refine ⟨L.filter (fun a => (h a).isSome), f, fun a e ha => ⟨List.mem_filter.mpr ⟨(h1 a e ha).1, by rw [ha]; rfl⟩, (h1 a e ha).2⟩, ?_, pl_D_iff.mpr ⟨(pl_D_iff.mp h3).1.filter _, fun a ha => ?_⟩⟩
  · refine va_P_mem.mpr (fun q hq => va_P_mem.mp h2 q ?_)
    obtain ⟨a, ha, rfl⟩ := List.mem_map.mp hq
    exact List.mem_map.mpr ⟨a, (List.mem_filter.mp ha).1, rfl⟩
  · have := (List.mem_filter.mp ha).2
    cases hh : h a with
    | none => rw [hh] at this; cases this
    | some e => exact hB a e hh
theorem PW.part {h1 : HM} (hP : PW D A h H) (hs : ∀ a e, h1 a = some e → h a = some e) : PW D A h1 H := by
  obtain ⟨L, f, g1, g2, g3⟩ := hP
  exact ⟨L, f, fun a e ha => g1 a e (hs a e ha), g2, g3⟩
/-- one cell out, with the whole as the kit's rows want it -/
theorem PW.cel1 (hP : PW D A h H) (ha : h a = some e) : ∃ (ws : va_W) (k : Nat), ws[k]? = some (a, e) ∧ va_P D vwCl ws H ∧ va_D A ws ∧ ∀ (e' : va_E) (H' : Heap), va_P D vwCl (ws.set k (a, e')) H' → va_D A (ws.set k (a, e')) → PW D A (hu h a e') H' := by
  obtain ⟨L, f, h1, h2, h3⟩ := hP
  obtain ⟨m, rfl⟩ := h1 a e ha
  obtain ⟨k, hk⟩ := va_pl_get (X := []) (f := f) m
  rw [List.nil_append] at hk
  refine ⟨va_pl L f, k, hk, h2, h3, fun e' H' p1 p2 => ?_⟩
  have e1 := va_pl_set (X := []) (e := e') (by rw [List.nil_append]; exact h3) m (by rw [List.nil_append]; exact hk)
  rw [List.nil_append, List.nil_append] at e1
  rw [e1] at p1 p2
  refine ⟨L, va_up f a e', fun b x hb => ?_, p1, p2⟩
  by_cases hba : b = a
  · subst hba
    rw [hu_self] at hb
    cases hb
    exact ⟨m, va_up_self ..⟩
  · rw [hu_ne _ _ hba] at hb
    exact ⟨(h1 b x hb).1, by rw [va_up_ne _ _ hba]; exact (h1 b x hb).2⟩
/-- two cells out -/
theorem PW.cel2 {b : Nat} {x : va_E} (hP : PW D A h H) (ha : h a = some e) (hb : h b = some x) : ∃ (ws : va_W) (k j : Nat), ws[k]? = some (a, e) ∧ ws[j]? = some (b, x) ∧ va_P D vwCl ws H ∧ va_D A ws ∧ ∀ (e' : va_E) (H' : Heap), va_P D vwCl (ws.set k (a, e')) H' → va_D A (ws.set k (a, e')) → PW D A (hu h a e') H' := by
  obtain ⟨L, f, h1, h2, h3⟩ := id hP
  obtain ⟨m, rfl⟩ := h1 a e ha
  obtain ⟨m2, rfl⟩ := h1 b x hb
  obtain ⟨k, hk⟩ := va_pl_get (X := []) (f := f) m
  obtain ⟨j, hj⟩ := va_pl_get (X := []) (f := f) m2
  rw [List.nil_append] at hk hj
  refine ⟨va_pl L f, k, j, hk, hj, h2, h3, fun e' H' p1 p2 => ?_⟩
  have e1 := va_pl_set (X := []) (e := e') (by rw [List.nil_append]; exact h3) m (by rw [List.nil_append]; exact hk)
  rw [List.nil_append, List.nil_append] at e1
  rw [e1] at p1 p2
  refine ⟨L, va_up f a e', fun b x hb => ?_, p1, p2⟩
  by_cases hba : b = a
  · subst hba
    rw [hu_self] at hb
    cases hb
    exact ⟨m, va_up_self ..⟩
  · rw [hu_ne _ _ hba] at hb
    exact ⟨(h1 b x hb).1, by rw [va_up_ne _ _ hba]; exact (h1 b x hb).2⟩
/-- all of it, for what is made -/
theorem PW.celn (hP : PW D A h H) : ∃ ws : va_W, va_P D vwCl ws H ∧ va_D A ws ∧ ∀ (q : Nat) (e' : va_E) (H' : Heap), va_P D vwCl (ws ++ [(q, e')]) H' → va_D A (ws ++ [(q, e')]) → h q = none ∧ PW D A (hu h q e') H' := by
  obtain ⟨L, f, h1, h2, h3⟩ := hP
  refine ⟨va_pl L f, h2, h3, fun q e' H' p1 p2 => ?_⟩
  have hq : q ∉ L := fun m => by
    obtain ⟨k, hk⟩ := List.getElem?_of_mem (show (q, f q) ∈ va_pl L f from List.mem_map.mpr ⟨q, m, rfl⟩)
    have hl := (List.getElem?_eq_some_iff.mp hk).1
    have := p2.1 k (va_pl L f).length (q, f q) (q, e') (by rw [List.getElem?_append_left hl]; exact hk) (by simp) rfl
    omega
  have hn : h q = none := by
    cases hh : h q with
    | none => rfl
    | some e => exact absurd (h1 q e hh).1 hq
  rw [va_pl_push hq] at p1 p2
  refine ⟨hn, L ++ [q], va_up f q e', fun b x hb => ?_, p1, p2⟩
  by_cases hba : b = q
  · subst hba
    rw [hu_self] at hb
    cases hb
    exact ⟨List.mem_append_right _ (List.mem_singleton.mpr rfl), va_up_self ..⟩
  · rw [hu_ne _ _ hba] at hb
    exact ⟨List.mem_append_left _ (h1 b x hb).1, by rw [va_up_ne _ _ hba]; exact (h1 b x hb).2⟩
theorem PW.empty : PW D A (fun _ => none) H := ⟨[], fun _ => .inr (0, []), fun a e (h : none = some e) => (by cases h), va_P_mem.mpr (fun q (h : q ∈ []) => absurd h List.not_mem_nil), pl_D_iff.mpr ⟨List.nodup_nil, fun a h => absurd h List.not_mem_nil⟩⟩
end PWS
/-- two heaps side by side: the first where it says something -/
def hj (h1 h2 : HM) : HM := fun a => match h1 a with
  | some e => some e
  | none => h2 a
theorem hj_l {h1 h2 : HM} {a : Nat} {e : va_E} (h : h1 a = some e) : hj h1 h2 a = some e := by simp [hj, h]
theorem hj_r {h1 h2 : HM} {a : Nat} {e : va_E} (h : h2 a = some e) (n : h1 a = none) : hj h1 h2 a = some e := by simp [hj, h, n]
theorem PW.join {D : va_G} {A A1 : Nat → Prop} {h1 h1' h2 : HM} {H H1 : Heap} (hP : PW D A (hj h1 h2) H) (hx : ∀ a e, h2 a = some e → h1 a = none) (hA1 : ∀ q, A1 q ↔ dm h1 H.size q) (hA : ∀ q, H.size ≤ q → A q)
    (hk : ∀ q : Nat, q < H.size → ¬ A1 q → H1[q]? = H[q]?) (hP1 : PW D A1 h1' H1) : PW D A (hj h1' h2) H1 ∧ ∀ a e, h2 a = some e → h1' a = none := by
  have key : ∀ a e, h2 a = some e → a < H.size ∧ ¬ A1 a := by
    intro a e ha
    have hl := hP.lt (hj_r ha (hx a e ha))
    refine ⟨hl, fun z => ?_⟩
    rcases (hA1 a).mp z with ⟨x, hx'⟩ | z
    · rw [hx a e ha] at hx'; cases hx'
    · omega
  have hno : ∀ a e, h2 a = some e → h1' a = none := by
    intro a e ha
    cases hh : h1' a with
    | none => rfl
    | some x => exact absurd (hP1.inA hh) (key a e ha).2
  refine ⟨?_, hno⟩
  obtain ⟨L1, f1, p1, p2, p3⟩ := hP1.weaken (B := fun q => (h1' q).isSome ∧ A1 q) (fun a e ha => ⟨by rw [ha]; rfl, hP1.inA ha⟩)
  obtain ⟨L2, f2, q1, q2, q3⟩ := (hP.part (h1 := h2) (fun a e ha => hj_r ha (hx a e ha))).weaken (B := fun q => (h2 q).isSome ∧ A q) (fun a e ha => ⟨by rw [ha]; rfl, hP.inA (hj_r ha (hx a e ha))⟩)
  have d1 := pl_D_iff.mp p3
  have d2 := pl_D_iff.mp q3
  have apart : ∀ a ∈ L1, a ∉ L2 := by
    intro a h1m h2m
    have e1 := (d1.2 a h1m).1
    have e2 := (d2.2 a h2m).1
    cases hh : h2 a with
    | none => rw [hh] at e2; cases e2
    | some x => rw [hno a x hh] at e1; cases e1
  refine ⟨L1 ++ L2, fun a => if a ∈ L1 then f1 a else f2 a, fun a e ha => ?_, va_P_mem.mpr (fun q hq => ?_), pl_D_iff.mpr ⟨List.nodup_append.mpr ⟨d1.1, d2.1, fun a ha b hb e => apart a ha (by rw [e]; exact hb)⟩, fun a ha => ?_⟩⟩
  · simp only [hj] at ha
    cases hh : h1' a with
    | some x =>
      rw [hh] at ha
      cases ha
      have := p1 a e hh
      exact ⟨List.mem_append_left _ this.1, by show (if a ∈ L1 then f1 a else f2 a) = e; rw [if_pos this.1]; exact this.2⟩
    | none =>
      rw [hh] at ha
      have := q1 a e ha
      have hn : a ∉ L1 := fun z => apart a z this.1
      exact ⟨List.mem_append_right _ this.1, by show (if a ∈ L1 then f1 a else f2 a) = e; rw [if_neg hn]; exact this.2⟩
  · obtain ⟨a, ha, rfl⟩ := List.mem_map.mp hq
    rcases List.mem_append.mp ha with h | h
    · show va_at D vwCl (a, if a ∈ L1 then f1 a else f2 a) H1
      rw [if_pos h]
      exact va_P_mem.mp p2 (a, f1 a) (List.mem_map.mpr ⟨a, h, rfl⟩)
    · have hn : a ∉ L1 := fun z => apart a z h
      show va_at D vwCl (a, if a ∈ L1 then f1 a else f2 a) H1
      rw [if_neg hn]
      have h9 := va_P_mem.mp q2 (a, f2 a) (List.mem_map.mpr ⟨a, h, rfl⟩)
      have e2 := (d2.2 a h).1
      cases hh : h2 a with
      | none => rw [hh] at e2; cases e2
      | some x =>
        obtain ⟨k1, k2⟩ := key a x hh
        exact h9.kept (hk a k1 k2)
  · rcases List.mem_append.mp ha with h | h
    · have := (d1.2 a h).2
      rcases (hA1 a).mp this with ⟨x, hx'⟩ | z
      · exact hP.inA (hj_l hx')
      · exact hA a z
    · exact (d2.2 a h).2
