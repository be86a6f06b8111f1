/-! THE LAW'S START: what the Statement gives of it -/
theorem ar_prim {args : Array Value} {s : State} {ty : FieldType} (h : (Cond.arrayClass ty).before args s = true) : ∃ cA : ClassId, ArrOfT s cA ty ∧ s.vm.findClass ("[" ++ ty.toString) = some cA := by
  obtain ⟨cB, kB, comp, h1, h2, h3⟩ := Cond.arrayClass_spec h
  exact ⟨cB, fun n z => ⟨fun k h => (by cases h), kB, h2, comp, h3⟩, h1⟩
theorem ar_ref {args : Array Value} {s : State} {C : String} (h : (Cond.arrayOver (.object C)).before args s = true) : ∃ cA : ClassId, ArrOfT s cA (.object C) ∧ va_RA s cA (.object C) := by
  obtain ⟨comp, c, k, h1, h2, h3, h4, h5⟩ := Cond.arrayOver_spec h
  exact ⟨c, fun n z => ⟨fun k h => (by cases h), k, h3, comp, h4⟩, k, comp, h3, h4, h1, h5⟩
theorem str_at {args : Array Value} {s : State} {own tx : String} {k : Nat} (h : (Cond.stringRef own k tx).before args s = true) : ∃ a : Nat, vk_R own k tx a s := by
  cases hc : s.vm.findClass own with
  | none => simp [Cond.before, Cond.holds, Cond.value, hc] at h
  | some cur =>
    obtain ⟨k9, cf, i, a, -, -, -, -, -, hev⟩ := Cond.stringRef_spec hc h
    exact ⟨a, vk_R.of h hev⟩

theorem st_cw {args : Array Value} {s : State} (hs : ∀ c ∈ flatC (Jvm.Cond.and given_1 narrow_1), c.before args s = true) (hts : ∀ w ∈ lw_tbl, w.before args s = true) (hG : ∀ w ∈ lw_G, w.before args s = true) {A : Nat → Prop} (hA : ∀ a : Nat, a < s.heap.size → ¬ A a) : ∃ t : Nat, va_Z "KilnYard" "CONE_WORKS" "[I" (.ref t) A s s.heap ∧ va_T .int t 12 (fun j => .int (cwC j)) A s s.heap := by
  have hel : ∀ j : Nat, j < 12 → (Term.elem (Term.static "KilnYard" "CONE_WORKS" "[I") (.int (Int32.ofNat j))).eval args s none [] s = some (.int (cwC j)) := by
    intro j hj
    match j, hj with
    | 0, _ => exact va_eqt (hs _ (List.mem_of_getElem? (i := 9) (by decide +kernel)))
    | 1, _ => exact va_eqt (hs _ (List.mem_of_getElem? (i := 10) (by decide +kernel)))
    | 2, _ => exact va_eqt (hs _ (List.mem_of_getElem? (i := 11) (by decide +kernel)))
    | 3, _ => exact va_eqt (hs _ (List.mem_of_getElem? (i := 12) (by decide +kernel)))
    | 4, _ => exact va_eqt (hs _ (List.mem_of_getElem? (i := 13) (by decide +kernel)))
    | 5, _ => exact va_eqt (hs _ (List.mem_of_getElem? (i := 14) (by decide +kernel)))
    | 6, _ => exact va_eqt (hs _ (List.mem_of_getElem? (i := 15) (by decide +kernel)))
    | 7, _ => exact va_eqt (hs _ (List.mem_of_getElem? (i := 16) (by decide +kernel)))
    | 8, _ => exact va_eqt (hs _ (List.mem_of_getElem? (i := 17) (by decide +kernel)))
    | 9, _ => exact va_eqt (hs _ (List.mem_of_getElem? (i := 18) (by decide +kernel)))
    | 10, _ => exact va_eqt (hs _ (List.mem_of_getElem? (i := 19) (by decide +kernel)))
    | 11, _ => exact va_eqt (hs _ (List.mem_of_getElem? (i := 20) (by decide +kernel)))
    | j + 12, hj => exact absurd hj (by omega)
  obtain ⟨t, ht, hT⟩ := va_Tof (tm := (Term.static "KilnYard" "CONE_WORKS" "[I")) (ty := .int) (N := 12) (f := fun j => .int (cwC j)) (by decide) (hs _ (List.mem_of_getElem? (i := 7) (by decide +kernel))) (va_eqt (hs _ (List.mem_of_getElem? (i := 8) (by decide +kernel)))) hel hA
  exact ⟨t, va_Zref (hts _ gt_576) (hG _ gw_23) ht hA, hT⟩
theorem st_cl {args : Array Value} {s : State} (hG : ∀ w ∈ lw_G, w.before args s = true) : ∃ D : va_G, ∀ (k : Nat) (q : vw_C), vwCl[k]? = some q → u_Kn s q.1 q.2.1 q.2.2 (D.1 k) (D.2 k) := by
  have h : ∀ k : Nat, ∃ x : ClassId × (Nat → Nat), ∀ q : vw_C, vwCl[k]? = some q → u_Kn s q.1 q.2.1 q.2.2 x.1 x.2 := by
    intro k
    match k with
    | 0 =>
      obtain ⟨c, iS, hk⟩ := u_known (C := RX0) (T := TX0) (N := 2) (n := 2) hG in_X0 (hG _ gw_265)
      exact ⟨(c, iS), fun q hq => by cases hq; exact hk⟩
    | 1 =>
      obtain ⟨c, iS, hk⟩ := u_known (C := RX1) (T := TX1) (N := 6) (n := 6) hG in_X1 (hG _ gw_290)
      exact ⟨(c, iS), fun q hq => by cases hq; exact hk⟩
    | 2 =>
      obtain ⟨c, iS, hk⟩ := u_known (C := RX2) (T := TX2) (N := 13) (n := 13) hG in_X2 (hG _ gw_73)
      exact ⟨(c, iS), fun q hq => by cases hq; exact hk⟩
    | 3 =>
      obtain ⟨c, iS, hk⟩ := u_known (C := RX4) (T := TX4) (N := 12) (n := 12) hG in_X4 (hG _ gw_356)
      exact ⟨(c, iS), fun q hq => by cases hq; exact hk⟩
    | 4 =>
      obtain ⟨c, iS, hk⟩ := u_known (C := RX5) (T := TX5) (N := 2) (n := 2) hG in_X5 (hG _ gw_55)
      exact ⟨(c, iS), fun q hq => by cases hq; exact hk⟩
    | 5 =>
      obtain ⟨c, iS, hk⟩ := u_known (C := RX6) (T := TX6) (N := 3) (n := 3) hG in_X6 (hG _ gw_445)
      exact ⟨(c, iS), fun q hq => by cases hq; exact hk⟩
    | 6 =>
      obtain ⟨c, iS, hk⟩ := u_known (C := RX7) (T := TX7) (N := 14) (n := 14) hG in_X7 (hG _ gw_39)
      exact ⟨(c, iS), fun q hq => by cases hq; exact hk⟩
    | k + 7 => exact ⟨(0, fun _ => 0), fun q hq => by simp [vwCl] at hq⟩
  exact ⟨(fun k => (Classical.choose (h k)).1, fun k => (Classical.choose (h k)).2), fun k q hq => Classical.choose_spec (h k) q hq⟩
/-- numbers: the kinds of arrays, the table of cones, the script -/
def tcF (l : List Nat) (b L : Nat) (xs : Nat → Int32) : Nat → ClassId := fun k => if k < 11 then l.getD k 0 else if k = 11 then b else if k = 12 then L else (xs (k - 20)).toBitVec.toNat
theorem tcF_x (l : List Nat) (b L : Nat) (xs : Nat → Int32) (j : Nat) : scX (tcF l b L xs) j = xs j := by
  have e : tcF l b L xs (20 + j) = (xs j).toBitVec.toNat := by
    unfold tcF
    rw [if_neg (by omega), if_neg (by omega), if_neg (by omega), show 20 + j - 20 = j by omega]
  unfold scX
  rw [e]
  exact (i32_nat (xs j)).symm
set_option maxHeartbeats 4000000 in
set_option maxRecDepth 100000 in
/-- what stands fast, at the law's start -/
theorem law_world {args : Array Value} {s : State} (hs : ∀ c ∈ flatC (Jvm.Cond.and given_1 narrow_1), c.before args s = true) (hts : ∀ w ∈ lw_tbl, w.before args s = true) {b L : Nat} {xs : Nat → Int32} (hX : va_X b L xs s s.heap) (hb : b < s.heap.size) :
    ∃ (D : va_G) (tc : Nat → ClassId), KW D tc s ∧ SW tc (fun q => s.heap.size ≤ q) s s.heap ∧ tc 11 = b ∧ scL tc = L := by
  have hG : ∀ w ∈ lw_G, w.before args s = true := fun w hw => hts w (List.mem_filter.mp hw).1
  have hA : ∀ a : Nat, a < s.heap.size → ¬ (fun q : Nat => s.heap.size ≤ q) a := fun a h => Nat.not_le.mpr h
  obtain ⟨D, hD⟩ := st_cl hG
  obtain ⟨a0, x0, y0⟩ := ar_prim (hG _ gw_766)
  obtain ⟨a1, x1, y1⟩ := ar_prim (hG _ gw_770)
  obtain ⟨a2, x2, y2⟩ := ar_prim (hG _ gw_130)
  obtain ⟨a3, x3, y3⟩ := ar_ref (hts _ gt_47)
  obtain ⟨a4, x4, y4⟩ := ar_ref (hts _ gt_49)
  obtain ⟨a5, x5, y5⟩ := ar_ref (hts _ gt_53)
  obtain ⟨a6, x6, y6⟩ := ar_ref (hts _ gt_51)
  obtain ⟨a7, x7, y7⟩ := ar_ref (hts _ gt_61)
  obtain ⟨b0, z0, t0⟩ := st_cw hs hts hG hA
  refine ⟨D, tcF [a0, a1, a2, a3, a4, a5, a6, a7, 0, 0, b0] b L xs, ⟨hD, fun k q hq => ?_⟩, ⟨?_, ⟨z0, t0⟩, ?_, ?_, fun C T w => va_Nw.of rfl (hts _ w), fun a i b n d h w => va_Nw.of rfl (hts _ w), fun a i x h w => va_Nw.of rfl (hts _ w), fun own k tx w => str_at (hts _ w), ?_, ?_, ?_, ?_, ?_, fun y w => va_Nw.of rfl (hts _ w)⟩, rfl, rfl⟩
  · match k, hq with
    | 0, hq => cases hq; exact ⟨x0, y0⟩
    | 1, hq => cases hq; exact ⟨x1, y1⟩
    | 2, hq => cases hq; exact ⟨x2, y2⟩
    | 3, hq => cases hq; exact ⟨x3, y3⟩
    | 4, hq => cases hq; exact ⟨x4, y4⟩
    | 5, hq => cases hq; exact ⟨x5, y5⟩
    | 6, hq => cases hq; exact ⟨x6, y6⟩
    | 7, hq => cases hq; exact ⟨x7, y7⟩
    | k + 8, hq => simp [tysK] at hq
  · obtain ⟨scr, h1, h2, h3, h4, h5⟩ := hX
    refine ⟨scr, h1, h2, h3, Nat.le_of_eq h4.symm, ?_, fun j hj => ?_, hA b hb⟩
    · show scr.slots.size.toInt32 = Int32.ofNat L
      rw [h4]
    · show scr.slots[j]? = some (.int (scX (tcF [a0, a1, a2, a3, a4, a5, a6, a7, 0, 0, b0] b L xs) j))
      rw [tcF_x]
      exact h5 j hj
  · exact vx_Zqof (hts _ gt_208) (hG _ gw_26) (hs _ (List.mem_of_getElem? (i := 4) (by decide +kernel))) hA
  · exact vx_Zqof (hts _ gt_210) (hG _ gw_26) (hs _ (List.mem_of_getElem? (i := 5) (by decide +kernel))) hA
  · exact va_AO.of (hts _ gt_47)
  · exact va_AO.of (hts _ gt_49)
  · exact va_AO.of (hts _ gt_53)
  · exact va_AO.of (hts _ gt_51)
  · exact va_AO.of (hts _ gt_61)
