/-! THE LAW: CALLING ITS WRAPPERS; ITS HEAP IN THREE PARTS -/
section CALLW
variable {K : KC} {n : Nat × Nat} {pc : Nat} {lv : List (Option Value)} {st st0 : List Value} {h : HM} {own : String} {cc : ByteArray} {nL : Nat} {R : Room}
theorem w_SW (C : CX K own cc nL R) (hN : NCs (Ks K)) {y : MethodName} {cc' : ByteArray} {nL' : Nat} {ret' : Option FieldType} {hh : List (Nat × Nat × Nat × Nat)} {rm : Room} {As : List Value} {post : Option Value → HM → Prop} {idx : Nat} (hM : CTW (Kl K) (KD K) (Kt K) y cc' nL' ret' hh rm As h post) (w1 : Cond.methodLink own idx y ∈ lw_G) (w2 : Cond.static y ∈ lw_G) (w3 : Cond.initialized y.cls ∈ lw_G) (w4 : Cond.codeWith y cc' nL' ret' hh ∈ lw_G)
    (hy : okY y As.length = true) (hR : okR rm R nL' = true) (hc : okS st = true) (hn : n.1 + rm.cells ≤ R.cells ∧ n.2 + rm.slots ≤ R.slots) (hnl : lv.length = nL) (hst : st0 = As.reverse ++ st) (hd : decode cc pc = .ok (.invokestatic idx, 3))
    (kk : ∀ (r : Option Value) (h' : HM), post r h' → WW K (n.1 + rm.cells, n.2 + rm.slots) (pc + 3) lv (r.toList ++ st) h') : WW K n pc lv st0 h := by
  intro H locs ls hP hS hl
  have hR9 := C.2.2.2.2.2.2.2.1
  have hG : GoodIn lw_G (va_wsS own idx y (lw_wh y cc' nL' ret' hh)) := fun w hw => by
    simp only [va_wsS, List.cons_append, List.nil_append, List.mem_cons] at hw
    rcases hw with rfl | rfl | rfl | hw
    · exact ⟨w1, good_of_word (G_good w1)⟩
    · exact ⟨w2, good_of_word (G_good w2)⟩
    · exact ⟨w3, good_of_word (G_good w3)⟩
    · exact goodIn_wh w4 w hw
  refine w_runX C hP hS hl (vx_runSX (cx_fix C) (hM H.size) (vx_cwSW (ws' := lw_G) As.length C.2.2.2.2.1 hG rfl rfl rfl (okY_spec hy) (by rw [hR9]; exact okR_spec hR)) ⟨PcN_blind _ _ _ _ _, fun U hU hW => ⟨cx_pre C hP hS As U hU hW, hN.moved hW.alike⟩⟩ rfl rfl (hl.1.trans hnl) hst (lv_room (by simpa [okS] using hc)) hd (by rw [hR9]; exact hn)) kk (fun E h' f => f.elim)
end CALLW
/-- what the second holds, the first does not -/
def D2 (a b : HM) : Prop := ∀ x e, b x = some e → a x = none
theorem D2.sy {a b : HM} (d : D2 a b) : D2 b a := fun x e h => by
  cases hb : b x with
  | none => rfl
  | some z => have := d x z hb; rw [h] at this; cases this
theorem D2.l {a b c : HM} (d : D2 a (hj b c)) : D2 a b := fun x e h => d x e (hj_l h)
theorem D2.r {a b c : HM} (d : D2 a (hj b c)) (bc : D2 b c) : D2 a c := fun x e h => d x e (hj_r h (bc x e h))
theorem D2.mk9 {a b c : HM} (d : D2 a b) (e9 : D2 a c) : D2 a (hj b c) := fun x e h => by
  cases hb : b x with
  | none => exact e9 x e (by simpa [hj, hb] using h)
  | some z => exact d x z hb
theorem hj_swap {a b c : HM} (d : D2 a b) : hj a (hj b c) = hj b (hj a c) := by
  funext x
  cases ha : a x with
  | none => simp [hj, ha]
  | some z => simp [hj, ha, d.sy x z ha]
section FRAMEB
variable {l : Launch} {D : va_G} {tc : Nat → ClassId} {y : MethodName} {cc : ByteArray} {nL : Nat} {ret : Option FieldType} {rm : Room} {args : List Value} {hA hB hO : HM}
theorem CT.fB {post : Option Value → HM → Prop} (dAB : D2 hA hB) (dAO : D2 hA hO) (dBO : D2 hB hO) (hM : CT l D tc y cc nL ret rm args hB post) : CT l D tc y cc nL ret rm args (hj hA (hj hB hO)) (fun r h' => ∃ hB', post r hB' ∧ h' = hj hA (hj hB' hO) ∧ D2 hA hB' ∧ D2 hB' hO) := by
  rw [hj_swap dAB]
  refine (CT.frame (dAB.sy.mk9 dBO) hM).mono (fun r h' => ?_)
  rintro ⟨hB', hp, rfl, d⟩
  have d1 : D2 hB' hA := D2.l d
  exact ⟨hB', hp, hj_swap d1, d1.sy, D2.r d dAO⟩
theorem CT.fBI {p : Int32 → HM → Prop} (dAB : D2 hA hB) (dAO : D2 hA hO) (dBO : D2 hB hO) (hM : CT l D tc y cc nL ret rm args hB (rI p)) : CT l D tc y cc nL ret rm args (hj hA (hj hB hO)) (rI (fun z h' => ∃ hB', p z hB' ∧ h' = hj hA (hj hB' hO) ∧ D2 hA hB' ∧ D2 hB' hO)) :=
  (CT.fB dAB dAO dBO hM).mono (fun r h' ⟨hB', hp, q⟩ => by obtain ⟨z, rfl, hp⟩ := hp; exact ⟨z, rfl, hB', hp, q⟩)
theorem CT.fBD {p : UInt64 → HM → Prop} (dAB : D2 hA hB) (dAO : D2 hA hO) (dBO : D2 hB hO) (hM : CT l D tc y cc nL ret rm args hB (rD p)) : CT l D tc y cc nL ret rm args (hj hA (hj hB hO)) (rD (fun z h' => ∃ hB', p z hB' ∧ h' = hj hA (hj hB' hO) ∧ D2 hA hB' ∧ D2 hB' hO)) :=
  (CT.fB dAB dAO dBO hM).mono (fun r h' ⟨hB', hp, q⟩ => by obtain ⟨z, rfl, hp⟩ := hp; exact ⟨z, rfl, hB', hp, q⟩)
theorem CT.fBL {p : Int64 → HM → Prop} (dAB : D2 hA hB) (dAO : D2 hA hO) (dBO : D2 hB hO) (hM : CT l D tc y cc nL ret rm args hB (rL p)) : CT l D tc y cc nL ret rm args (hj hA (hj hB hO)) (rL (fun z h' => ∃ hB', p z hB' ∧ h' = hj hA (hj hB' hO) ∧ D2 hA hB' ∧ D2 hB' hO)) :=
  (CT.fB dAB dAO dBO hM).mono (fun r h' ⟨hB', hp, q⟩ => by obtain ⟨z, rfl, hp⟩ := hp; exact ⟨z, rfl, hB', hp, q⟩)
end FRAMEB
