/-! THE LAW'S START: what the Statement gives of it -/
theorem ar_prim {args : Array Value} {s : State} {ty : FieldType} (h : (Cond.arrayClass ty).before args s = true) : ∃ cA : ClassId, ArrOfT s cA ty ∧ s.vm.findClass ("[" ++ ty.toString) = some cA := by
  obtain ⟨cB, kB, comp, h1, h2, h3⟩ := Cond.arrayClass_spec h
  exact ⟨cB, fun n z => ⟨fun k h => (by cases h), kB, h2, comp, h3⟩, h1⟩
theorem ar_ref {args : Array Value} {s : State} {C : String} (h : (Cond.arrayOver (.object C)).before args s = true) : ∃ cA : ClassId, ArrOfT s cA (.object C) ∧ va_RA s cA (.object C) := by
  obtain ⟨comp, c, k, h1, h2, h3, h4, h5⟩ := Cond.arrayOver_spec h
  exact ⟨c, fun n z => ⟨fun k h => (by cases h), k, h3, comp, h4⟩, k, comp, h3, h4, h1, h5⟩
theorem str_at {args : Array Value} {s : State} {own tx : String} {k : Nat} (h : (Cond.stringRef own k tx).before args s = true) : ∃ a : Nat, vk_R own k tx a s := by
  cases hc : s.vm.findClass own with
  | none => simp [Cond.before, Cond.holds, Cond.value, hc] at h
  | some cur =>
    obtain ⟨k9, cf, i, a, -, -, -, -, -, hev⟩ := Cond.stringRef_spec hc h
    exact ⟨a, vk_R.of h hev⟩
theorem nc_of {args : Array Value} {s : State} (hs : ∀ c ∈ flatC (Jvm.Cond.and given_1 narrow_1), c.before args s = true) : NCs s :=
  ⟨va_Nc.of (hs _ (List.mem_of_getElem? (i := 69) (by decide +kernel))), va_Nc.of (hs _ (List.mem_of_getElem? (i := 54) (by decide +kernel))), va_Nc.of (hs _ (List.mem_of_getElem? (i := 84) (by decide +kernel))), va_Nc.of (hs _ (List.mem_of_getElem? (i := 85) (by decide +kernel))), va_Nc.of (hs _ (List.mem_of_getElem? (i := 57) (by decide +kernel))), va_Nc.of (hs _ (List.mem_of_getElem? (i := 72) (by decide +kernel)))⟩
theorem st_cw {args : Array Value} {s : State} (hs : ∀ c ∈ flatC (Jvm.Cond.and given_1 narrow_1), c.before args s = true) (hts : ∀ w ∈ lw_tbl, w.before args s = true) (hG : ∀ w ∈ lw_G, w.before args s = true) {A : Nat → Prop} (hA : ∀ a : Nat, a < s.heap.size → ¬ A a) : ∃ t : Nat, va_Z "KilnYard" "CONE_WORKS" "[I" (.ref t) A s s.heap ∧ va_T .int t 12 (fun j => .int (cwC j)) A s s.heap := by
  have hel : ∀ j : Nat, j < 12 → (Term.elem (Term.static "KilnYard" "CONE_WORKS" "[I") (.int (Int32.ofNat j))).eval args s none [] s = some (.int (cwC j)) := by
    intro j hj
    match j, hj with
    | 0, _ => exact va_eqt (hs _ (List.mem_of_getElem? (i := 9) (by decide +kernel)))
    | 1, _ => exact va_eqt (hs _ (List.mem_of_getElem? (i := 10) (by decide +kernel)))
    | 2, _ => exact va_eqt (hs _ (List.mem_of_getElem? (i := 11) (by decide +kernel)))
    | 3, _ => exact va_eqt (hs _ (List.mem_of_getElem? (i := 12) (by decide +kernel)))
    | 4, _ => exact va_eqt (hs _ (List.mem_of_getElem? (i := 13) (by decide +kernel)))
    | 5, _ => exact va_eqt (hs _ (List.mem_of_getElem? (i := 14) (by decide +kernel)))
    | 6, _ => exact va_eqt (hs _ (List.mem_of_getElem? (i := 15) (by decide +kernel)))
    | 7, _ => exact va_eqt (hs _ (List.mem_of_getElem? (i := 16) (by decide +kernel)))
    | 8, _ => exact va_eqt (hs _ (List.mem_of_getElem? (i := 17) (by decide +kernel)))
    | 9, _ => exact va_eqt (hs _ (List.mem_of_getElem? (i := 18) (by decide +kernel)))
    | 10, _ => exact va_eqt (hs _ (List.mem_of_getElem? (i := 19) (by decide +kernel)))
    | 11, _ => exact va_eqt (hs _ (List.mem_of_getElem? (i := 20) (by decide +kernel)))
    | j + 12, hj => exact absurd hj (by omega)
  obtain ⟨t, ht, hT⟩ := va_Tof (tm := (Term.static "KilnYard" "CONE_WORKS" "[I")) (ty := .int) (N := 12) (f := fun j => .int (cwC j)) (by decide) (hs _ (List.mem_of_getElem? (i := 7) (by decide +kernel))) (va_eqt (hs _ (List.mem_of_getElem? (i := 8) (by decide +kernel)))) hel hA
  exact ⟨t, va_Zref (hts _ gt_453) (hG _ gw_51) ht hA, hT⟩
theorem st_cn {args : Array Value} {s : State} (hs : ∀ c ∈ flatC (Jvm.Cond.and given_1 narrow_1), c.before args s = true) (hts : ∀ w ∈ lw_tbl, w.before args s = true) (hG : ∀ w ∈ lw_G, w.before args s = true) {A : Nat → Prop} (hA : ∀ a : Nat, a < s.heap.size → ¬ A a) : ∃ t : Nat, va_Z "KilnYardModel" "CONES" "[I" (.ref t) A s s.heap ∧ va_T .int t 12 (fun j => .int (cwC j)) A s s.heap := by
  have hel : ∀ j : Nat, j < 12 → (Term.elem (Term.static "KilnYardModel" "CONES" "[I") (.int (Int32.ofNat j))).eval args s none [] s = some (.int (cwC j)) := by
    intro j hj
    match j, hj with
    | 0, _ => exact va_eqt (hs _ (List.mem_of_getElem? (i := 36) (by decide +kernel)))
    | 1, _ => exact va_eqt (hs _ (List.mem_of_getElem? (i := 37) (by decide +kernel)))
    | 2, _ => exact va_eqt (hs _ (List.mem_of_getElem? (i := 38) (by decide +kernel)))
    | 3, _ => exact va_eqt (hs _ (List.mem_of_getElem? (i := 39) (by decide +kernel)))
    | 4, _ => exact va_eqt (hs _ (List.mem_of_getElem? (i := 40) (by decide +kernel)))
    | 5, _ => exact va_eqt (hs _ (List.mem_of_getElem? (i := 41) (by decide +kernel)))
    | 6, _ => exact va_eqt (hs _ (List.mem_of_getElem? (i := 42) (by decide +kernel)))
    | 7, _ => exact va_eqt (hs _ (List.mem_of_getElem? (i := 43) (by decide +kernel)))
    | 8, _ => exact va_eqt (hs _ (List.mem_of_getElem? (i := 44) (by decide +kernel)))
    | 9, _ => exact va_eqt (hs _ (List.mem_of_getElem? (i := 45) (by decide +kernel)))
    | 10, _ => exact va_eqt (hs _ (List.mem_of_getElem? (i := 46) (by decide +kernel)))
    | 11, _ => exact va_eqt (hs _ (List.mem_of_getElem? (i := 47) (by decide +kernel)))
    | j + 12, hj => exact absurd hj (by omega)
  obtain ⟨t, ht, hT⟩ := va_Tof (tm := (Term.static "KilnYardModel" "CONES" "[I")) (ty := .int) (N := 12) (f := fun j => .int (cwC j)) (by decide) (hs _ (List.mem_of_getElem? (i := 34) (by decide +kernel))) (va_eqt (hs _ (List.mem_of_getElem? (i := 35) (by decide +kernel)))) hel hA
  exact ⟨t, va_Zref (hts _ gt_1465) (hG _ gw_54) ht hA, hT⟩
theorem st_nr {args : Array Value} {s : State} (hs : ∀ c ∈ flatC (Jvm.Cond.and given_1 narrow_1), c.before args s = true) (hts : ∀ w ∈ lw_tbl, w.before args s = true) (hG : ∀ w ∈ lw_G, w.before args s = true) {A : Nat → Prop} (hA : ∀ a : Nat, a < s.heap.size → ¬ A a) : ∃ t : Nat, va_Z "KilnYardModel" "NEARER" "[D" (.ref t) A s s.heap ∧ va_T .double t 3 (fun j => .double (nrC j)) A s s.heap := by
  have hel : ∀ j : Nat, j < 3 → (Term.elem (Term.static "KilnYardModel" "NEARER" "[D") (.int (Int32.ofNat j))).eval args s none [] s = some (.double (nrC j)) := by
    intro j hj
    match j, hj with
    | 0, _ => exact va_eqv (u := Term.op1 Unary.bitsD (Term.long (-4600427019358961664 : Int64))) (hs _ (List.mem_of_getElem? (i := 30) (by decide +kernel))) (by rfl)
    | 1, _ => exact va_eqv (u := Term.op1 Unary.bitsD (Term.long (0 : Int64))) (hs _ (List.mem_of_getElem? (i := 31) (by decide +kernel))) (by rfl)
    | 2, _ => exact va_eqv (u := Term.op1 Unary.bitsD (Term.long (4620693217682128896 : Int64))) (hs _ (List.mem_of_getElem? (i := 32) (by decide +kernel))) (by rfl)
    | j + 3, hj => exact absurd hj (by omega)
  obtain ⟨t, ht, hT⟩ := va_Tof (tm := (Term.static "KilnYardModel" "NEARER" "[D")) (ty := .double) (N := 3) (f := fun j => .double (nrC j)) (by decide) (hs _ (List.mem_of_getElem? (i := 28) (by decide +kernel))) (va_eqt (hs _ (List.mem_of_getElem? (i := 29) (by decide +kernel)))) hel hA
  exact ⟨t, va_Zref (hts _ gt_1427) (hG _ gw_54) ht hA, hT⟩
theorem st_el {args : Array Value} {s : State} (hs : ∀ c ∈ flatC (Jvm.Cond.and given_1 narrow_1), c.before args s = true) (hts : ∀ w ∈ lw_tbl, w.before args s = true) (hG : ∀ w ∈ lw_G, w.before args s = true) {A : Nat → Prop} (hA : ∀ a : Nat, a < s.heap.size → ¬ A a) : ∃ t : Nat, va_Z "java/util/ArrayList" "DEFAULTCAPACITY_EMPTY_ELEMENTDATA" "[Ljava/lang/Object;" (.ref t) A s s.heap ∧ va_T (.object "java/lang/Object") t 0 (fun _ => .null) A s s.heap ∧ va_O "[Ljava/lang/Object;" t A s s.heap := by
  obtain ⟨t, ht, hT⟩ := va_Tof (tm := (Term.static "java/util/ArrayList" "DEFAULTCAPACITY_EMPTY_ELEMENTDATA" "[Ljava/lang/Object;")) (ty := .object "java/lang/Object") (N := 0) (f := fun _ => .null) (by decide) (hs _ (List.mem_of_getElem? (i := 22) (by decide +kernel))) (va_eqt (hs _ (List.mem_of_getElem? (i := 24) (by decide +kernel)))) (fun j hj => absurd hj (Nat.not_lt_zero j)) hA
  exact ⟨t, va_Zref (hts _ gt_956) (hG _ gw_57) ht hA, hT, va_Oof (hs _ (List.mem_of_getElem? (i := 23) (by decide +kernel))) ht hA⟩
theorem st_cl {args : Array Value} {s : State} (hG : ∀ w ∈ lw_G, w.before args s = true) : ∃ D : va_G, ∀ (k : Nat) (q : vw_C), vwCl[k]? = some q → u_Kn s q.1 q.2.1 q.2.2 (D.1 k) (D.2 k) := by
  have h : ∀ k : Nat, ∃ x : ClassId × (Nat → Nat), ∀ q : vw_C, vwCl[k]? = some q → u_Kn s q.1 q.2.1 q.2.2 x.1 x.2 := by
    intro k
    match k with
    | 0 =>
      obtain ⟨c, iS, hk⟩ := u_known (C := RJx35411) (T := TJx35411) (N := 4) (n := 4) hG in_Jx35411 (hG _ gw_1238)
      exact ⟨(c, iS), fun q hq => by cases hq; exact hk⟩
    | 1 =>
      obtain ⟨c, iS, hk⟩ := u_known (C := RJx4a65c) (T := TJx4a65c) (N := 3) (n := 3) hG in_Jx4a65c (hG _ gw_944)
      exact ⟨(c, iS), fun q hq => by cases hq; exact hk⟩
    | 2 =>
      obtain ⟨c, iS, hk⟩ := u_known (C := RX0) (T := TX0) (N := 2) (n := 2) hG in_X0 (hG _ gw_544)
      exact ⟨(c, iS), fun q hq => by cases hq; exact hk⟩
    | 3 =>
      obtain ⟨c, iS, hk⟩ := u_known (C := RX1) (T := TX1) (N := 6) (n := 6) hG in_X1 (hG _ gw_572)
      exact ⟨(c, iS), fun q hq => by cases hq; exact hk⟩
    | 4 =>
      obtain ⟨c, iS, hk⟩ := u_known (C := RX2) (T := TX2) (N := 13) (n := 13) hG in_X2 (hG _ gw_118)
      exact ⟨(c, iS), fun q hq => by cases hq; exact hk⟩
    | 5 =>
      obtain ⟨c, iS, hk⟩ := u_known (C := RX3) (T := TX3) (N := 5) (n := 5) hG in_X3 (hG _ gw_849)
      exact ⟨(c, iS), fun q hq => by cases hq; exact hk⟩
    | 6 =>
      obtain ⟨c, iS, hk⟩ := u_known (C := RX4) (T := TX4) (N := 12) (n := 12) hG in_X4 (hG _ gw_627)
      exact ⟨(c, iS), fun q hq => by cases hq; exact hk⟩
    | 7 =>
      obtain ⟨c, iS, hk⟩ := u_known (C := RX5) (T := TX5) (N := 2) (n := 2) hG in_X5 (hG _ gw_100)
      exact ⟨(c, iS), fun q hq => by cases hq; exact hk⟩
    | 8 =>
      obtain ⟨c, iS, hk⟩ := u_known (C := RX6) (T := TX6) (N := 3) (n := 3) hG in_X6 (hG _ gw_753)
      exact ⟨(c, iS), fun q hq => by cases hq; exact hk⟩
    | 9 =>
      obtain ⟨c, iS, hk⟩ := u_known (C := RX7) (T := TX7) (N := 14) (n := 14) hG in_X7 (hG _ gw_84)
      exact ⟨(c, iS), fun q hq => by cases hq; exact hk⟩
    | 10 =>
      obtain ⟨c, iS, hk⟩ := u_known (C := RX8) (T := TX8) (N := 11) (n := 11) hG in_X8 (hG _ gw_973)
      exact ⟨(c, iS), fun q hq => by cases hq; exact hk⟩
    | 11 =>
      obtain ⟨c, iS, hk⟩ := u_known (C := RX9) (T := TX9) (N := 12) (n := 12) hG in_X9 (hG _ gw_1153)
      exact ⟨(c, iS), fun q hq => by cases hq; exact hk⟩
    | 12 =>
      obtain ⟨c, iS, hk⟩ := u_known (C := RX10) (T := TX10) (N := 10) (n := 10) hG in_X10 (hG _ gw_938)
      exact ⟨(c, iS), fun q hq => by cases hq; exact hk⟩
    | k + 13 => exact ⟨(0, fun _ => 0), fun q hq => by simp [vwCl] at hq⟩
  exact ⟨(fun k => (Classical.choose (h k)).1, fun k => (Classical.choose (h k)).2), fun k q hq => Classical.choose_spec (h k) q hq⟩
set_option maxHeartbeats 4000000 in
set_option maxRecDepth 100000 in
/-- what stands fast, at the law's start -/
theorem law_world {args : Array Value} {s : State} (hs : ∀ c ∈ flatC (Jvm.Cond.and given_1 narrow_1), c.before args s = true) (hts : ∀ w ∈ lw_tbl, w.before args s = true) :
    ∃ (D : va_G) (tc : Nat → ClassId), KW D tc s ∧ SW tc (fun q => s.heap.size ≤ q) s s.heap := by
  have hG : ∀ w ∈ lw_G, w.before args s = true := fun w hw => hts w (List.mem_filter.mp hw).1
  have hA : ∀ a : Nat, a < s.heap.size → ¬ (fun q : Nat => s.heap.size ≤ q) a := fun a h => Nat.not_le.mpr h
  obtain ⟨D, hD⟩ := st_cl hG
  obtain ⟨a0, x0, y0⟩ := ar_prim (hG _ gw_1139)
  obtain ⟨a1, x1, y1⟩ := ar_prim (hG _ gw_1607)
  obtain ⟨a2, x2, y2⟩ := ar_prim (hG _ gw_175)
  obtain ⟨a3, x3, y3⟩ := ar_ref (hts _ gt_92)
  obtain ⟨a4, x4, y4⟩ := ar_ref (hts _ gt_94)
  obtain ⟨a5, x5, y5⟩ := ar_ref (hts _ gt_98)
  obtain ⟨a6, x6, y6⟩ := ar_ref (hts _ gt_96)
  obtain ⟨a7, x7, y7⟩ := ar_ref (hts _ gt_106)
  obtain ⟨a8, x8, y8⟩ := ar_ref (hts _ gt_1131)
  obtain ⟨b0, z0, t0⟩ := st_cw hs hts hG hA
  obtain ⟨b1, z1, t1⟩ := st_cn hs hts hG hA
  obtain ⟨b2, z2, t2⟩ := st_nr hs hts hG hA
  obtain ⟨b3, z3, t3, o3⟩ := st_el hs hts hG hA
  obtain ⟨mi, hmi⟩ := va_Mi.of (C := "[Ljava/lang/Object;") (hs _ (List.mem_of_getElem? (i := 178) (by decide +kernel)))
  refine ⟨D, fun k => [a0, a1, a2, a3, a4, a5, a6, a7, a8, 0, b0, b1, b2, b3, mi].getD k 0, ⟨hD, fun k q hq => ?_⟩, ⟨z0, t0⟩, ⟨z1, t1⟩, ⟨z2, t2⟩, ⟨z3, t3, o3⟩, ?_, ?_, ?_, ?_, fun C T w => va_Nw.of rfl (hts _ w), fun a i b n d h w => va_Nw.of rfl (hts _ w), fun a i x h w => va_Nw.of rfl (hts _ w), fun own k tx w => str_at (hts _ w), ?_, ?_, ?_, hmi, ?_, ?_, ?_, ?_, ?_, ?_, ?_, fun y w => va_Nw.of rfl (hts _ w)⟩
  · match k, hq with
    | 0, hq => cases hq; exact ⟨x0, y0⟩
    | 1, hq => cases hq; exact ⟨x1, y1⟩
    | 2, hq => cases hq; exact ⟨x2, y2⟩
    | 3, hq => cases hq; exact ⟨x3, y3⟩
    | 4, hq => cases hq; exact ⟨x4, y4⟩
    | 5, hq => cases hq; exact ⟨x5, y5⟩
    | 6, hq => cases hq; exact ⟨x6, y6⟩
    | 7, hq => cases hq; exact ⟨x7, y7⟩
    | 8, hq => cases hq; exact ⟨x8, y8⟩
    | k + 9, hq => simp [tysK] at hq
  · exact va_Zof (hts _ gt_1342) (hG _ gw_66) (va_eql (hs _ (List.mem_of_getElem? (i := 26) (by decide +kernel)))) hA
  · exact va_Zof (hts _ gt_1291) (hG _ gw_66) (va_eql (hs _ (List.mem_of_getElem? (i := 25) (by decide +kernel)))) hA
  · exact vx_Zqof (hts _ gt_335) (hG _ gw_59) (hs _ (List.mem_of_getElem? (i := 4) (by decide +kernel))) hA
  · exact vx_Zqof (hts _ gt_337) (hG _ gw_59) (hs _ (List.mem_of_getElem? (i := 5) (by decide +kernel))) hA
  · exact va_Fw.of (hts _ gt_1259) (hts _ gt_1258) (hts _ gt_1264) (hts _ gt_1262) (hts _ gt_1260)
  · exact va_Fw.of (hts _ gt_1269) (hts _ gt_1268) (hts _ gt_1273) (hts _ gt_1271) (hts _ gt_1260)
  · exact va_Fw.of (hts _ gt_1566) (hts _ gt_1565) (hts _ gt_1571) (hts _ gt_1569) (hts _ gt_1567)
  · exact va_Dc.of (hts _ gt_1629)
  · exact va_AO.of (hts _ gt_1131)
  · exact va_AO.of (hts _ gt_92)
  · exact va_AO.of (hts _ gt_94)
  · exact va_AO.of (hts _ gt_98)
  · exact va_AO.of (hts _ gt_96)
  · exact va_AO.of (hts _ gt_106)
