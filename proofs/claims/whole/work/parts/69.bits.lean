/-! CELLS AND SUMS AS BITS -/
theorem nI_or (a b : Nat) : nI a ||| nI b = nI (a ||| b) := Int32.toBitVec_inj.mp (show BitVec.ofNat 32 a ||| BitVec.ofNat 32 b = BitVec.ofNat 32 (a ||| b) from BitVec.ofNat_or.symm)
theorem nI_and (a b : Nat) : nI a &&& nI b = nI (a &&& b) := Int32.toBitVec_inj.mp (show BitVec.ofNat 32 a &&& BitVec.ofNat 32 b = BitVec.ofNat 32 (a &&& b) from BitVec.ofNat_and.symm)
theorem p10 {x : Nat} (h : 10 ≤ x) : 1024 ≤ 2 ^ x := Nat.le_trans (by decide : 1024 ≤ 2 ^ 10) (Nat.pow_le_pow_right (by decide) h)
theorem p11 {r : Nat} (h : r ≤ 10) : 2 ^ (r + 1) ≤ 2048 := Nat.le_trans (Nat.pow_le_pow_right (by decide) (by omega : r + 1 ≤ 11)) (by decide : 2 ^ 11 ≤ 2048)
/-- so many cells from a place on -/
def cfN (c w : Nat) : Nat := (2 ^ w - 1) * 2 ^ c
theorem cf_tbl : ∀ c : Fin 10, ∀ w : Fin 6, 1 ≤ w.1 → c.1 + w.1 ≤ 10 → sp_cf (nI c.1) (nI w.1) = nI (cfN c.1 w.1) ∧ cfN c.1 w.1 < 1024 ∧ ∀ x : Fin 10, (cfN c.1 w.1).testBit x.1 = decide (nI c.1 ≤ nI x.1 ∧ nI x.1 ≤ nI c.1 + nI w.1 - 1) ∧ (cfN c.1 w.1).testBit x.1 = decide (c.1 ≤ x.1 ∧ x.1 < c.1 + w.1) := by decide +kernel
/-- where the pots of a shelf lie -/
def okCe (q : QT) : Prop := ¬ qSh q = -1 → ∃ c w, 1 ≤ w ∧ w ≤ 5 ∧ c + w ≤ 10 ∧ qCe q = nI c ∧ qWd q = nI w
theorem tk_nat {nP : Nat} {ps : Nat → PT} {v : Int32} (hv : ¬ v = -1) (hC : ∀ i, i < nP → okCe (ps i).2.2) : ∀ j, ∃ m, m < 1024 ∧ sp_tk nP ps v j = nI m ∧ ∀ x, x < 10 → m.testBit x = sp_any nP ps v (nI x) j
  | 0 => ⟨0, by decide, rfl, fun x _ => by rw [Nat.zero_testBit]; rfl⟩
  | j + 1 => by
    obtain ⟨m, h1, h2, h3⟩ := tk_nat hv hC j
    by_cases hj : j < nP ∧ qSh (ps j).2.2 = v
    · obtain ⟨c, w, w1, w2, w3, e1, e2⟩ := hC j hj.1 (by rw [hj.2]; exact hv)
      obtain ⟨t1, t2, t3⟩ := cf_tbl ⟨c, by omega⟩ ⟨w, by omega⟩ w1 w3
      dsimp only at t1 t2 t3
      refine ⟨m ||| cfN c w, Nat.or_lt_two_pow (n := 10) h1 t2, ?_, fun x hx => ?_⟩
      · rw [← tk_t hj.1 hj.2, h2, e1, e2, t1, nI_or]
      · rw [Nat.testBit_or, h3 x hx, (t3 ⟨x, hx⟩).1]
        show _ = (sp_any nP ps v (nI x) j || decide _)
        congr 1
        rw [e1, e2]
        exact decide_eq_decide.mpr ⟨fun a => ⟨hj.1, hj.2, a⟩, fun a => a.2.2⟩
    · refine ⟨m, h1, by rw [← tk_f hj]; exact h2, fun x hx => ?_⟩
      rw [h3 x hx]
      show _ = (sp_any nP ps v (nI x) j || decide _)
      rw [decide_eq_false (fun a => hj ⟨a.1, a.2.1⟩), Bool.or_false]
theorem any_14 {nP : Nat} {ps : Nat → PT} {s x : Int32} (h : nP ≤ 14) : sp_any nP ps s x 14 = sp_any nP ps s x nP := by
  have : ∀ d, sp_any nP ps s x (nP + d) = sp_any nP ps s x nP := by
    intro d
    induction d with
    | zero => rfl
    | succ d ih =>
      show (sp_any nP ps s x (nP + d) || decide _) = _
      rw [decide_eq_false (fun a => absurd a.1 (Nat.not_lt.mpr (Nat.le_add_right nP d))), Bool.or_false, ih]
  have := this (14 - nP)
  rwa [show nP + (14 - nP) = 14 by omega] at this
def bits_ok (m : Nat) : Bool := (10 - sp_bc (nI m) == sp_cnt (fun x => !m.testBit x) 10) && (List.range 10).all fun x => decide ((nI m >>> (nI x &&& 31)) &&& 1 = 0) == !m.testBit x
theorem bits_tbl : ((List.range 1024).all fun m => bits_ok m) = true := by decide +kernel
theorem bits_at {m : Nat} (hm : m < 1024) : 10 - sp_bc (nI m) = sp_cnt (fun x => !m.testBit x) 10 ∧ ∀ x, x < 10 → ((nI m >>> (nI x &&& 31)) &&& 1 = 0 ↔ m.testBit x = false) := by
  have h1 := List.all_eq_true.mp bits_tbl m (List.mem_range.mpr hm)
  simp only [bits_ok, Bool.and_eq_true, beq_iff_eq] at h1
  refine ⟨h1.1, fun x hx => ?_⟩
  have h2 := List.all_eq_true.mp h1.2 x (List.mem_range.mpr hx)
  simp only [beq_iff_eq] at h2
  cases hb : m.testBit x with
  | false => rw [hb] at h2; exact ⟨fun _ => rfl, fun _ => of_decide_eq_true h2⟩
  | true => rw [hb] at h2; exact ⟨fun w => absurd w (of_decide_eq_false h2), fun w => by cases w⟩
theorem cnt_congr {p q : Nat → Bool} : ∀ j, (∀ i, i < j → p i = q i) → sp_cnt p j = sp_cnt q j
  | 0, _ => rfl
  | j + 1, h => by
    show sp_cnt p j + bi (p j) = sp_cnt q j + bi (q j)
    rw [cnt_congr j (fun i hi => h i (by omega)), h j (by omega)]
theorem free_eq {nP : Nat} {ps : Nat → PT} {v : Int32} (hn : nP ≤ 14) (hv : ¬ v = -1) (hC : ∀ i, i < nP → okCe (ps i).2.2) : sp_cnt (fun x => !sp_any nP ps v (nI x) nP) 10 = 10 - sp_bc (sp_tk nP ps v 14) := by
  obtain ⟨m, h1, h2, h3⟩ := tk_nat hv hC 14
  rw [h2, (bits_at h1).1]
  exact cnt_congr 10 (fun x hx => by rw [h3 x hx, any_14 hn])
theorem row_eq {nP : Nat} {ps : Nat → PT} {v : Int32} (hn : nP ≤ 14) (hv : ¬ v = -1) (hC : ∀ i, i < nP → okCe (ps i).2.2) : ∀ j, j ≤ 10 → sp_lr9 (fun x => sp_any nP ps v (nI x) nP) j = sp_lr (sp_tk nP ps v 14) j := by
  obtain ⟨m, h1, h2, h3⟩ := tk_nat hv hC 14
  rw [h2]
  intro j
  induction j with
  | zero => intro _; rfl
  | succ j ih =>
    intro hj
    have e := (bits_at h1).2 j (by omega)
    have e2 : (if sp_any nP ps v (nI j) nP then (0 : Int32) else (sp_lr9 (fun x => sp_any nP ps v (nI x) nP) j).2 + 1) = (if (nI m >>> (nI j &&& 31)) &&& 1 = 0 then (sp_lr (nI m) j).2 + 1 else 0) := by
      rw [ih (by omega), ← any_14 hn, ← h3 j (by omega)]
      cases hb : m.testBit j with
      | false => rw [if_pos (e.mpr hb)]; rfl
      | true => rw [if_neg (c := (nI m >>> (nI j &&& 31)) &&& 1 = 0) (fun w => by rw [e.mp w] at hb; cases hb)]; rfl
    have key : ∀ a b : Int32 × Int32, ∀ x y : Int32, a = b → x = y → ((if a.1 < x then x else a.1, x) : Int32 × Int32) = (if b.1 < y then y else b.1, y) := by
      intro a b x y h h'; subst h; subst h'; rfl
    exact key _ _ _ _ (ih (by omega)) e2
theorem set_eq {nP : Nat} {ps : Nat → PT} {v : Int32} (hn : nP ≤ 14) (hv : ¬ v = -1) (hC : ∀ i, i < nP → okCe (ps i).2.2) {c w : Nat} (w1 : 1 ≤ w) (w2 : w ≤ 5) (w3 : c + w ≤ 10) : sp_tk nP ps v 14 &&& sp_cf (nI c) (nI w) = 0 ↔ sp_sb false nP ps v (nI c) w = false := by
  obtain ⟨m, h1, h2, h3⟩ := tk_nat hv hC 14
  obtain ⟨t1, t2, t3⟩ := cf_tbl ⟨c, by omega⟩ ⟨w, by omega⟩ w1 w3
  dsimp only at t1 t2 t3
  have sb : ∀ j, sp_sb false nP ps v (nI c) j = false ↔ ∀ i, i < j → sp_any nP ps v (nI c + nI i) nP = false := by
    intro j
    induction j with
    | zero => exact ⟨fun _ i hi => by omega, fun _ => rfl⟩
    | succ j ih =>
      show (sp_sb false nP ps v (nI c) j || sp_any nP ps v (nI c + nI j) nP) = false ↔ _
      rw [Bool.or_eq_false_iff, ih]
      refine ⟨fun a i hi => ?_, fun a => ⟨fun i hi => a i (by omega), a j (by omega)⟩⟩
      by_cases e : i = j
      · rw [e]; exact a.2
      · exact a.1 i (by omega)
  have add : ∀ i, nI c + nI i = nI (c + i) := fun i => Int32.toBitVec_inj.mp (show BitVec.ofNat 32 c + BitVec.ofNat 32 i = BitVec.ofNat 32 (c + i) from (BitVec.ofNat_add c i).symm)
  have lt : m &&& cfN c w < 2 ^ 31 := Nat.lt_of_le_of_lt Nat.and_le_left (by omega)
  rw [h2, t1, nI_and, nI_is0 lt, sb w]
  refine ⟨fun a i hi => ?_, fun a => Nat.eq_of_testBit_eq (fun x => ?_)⟩
  · have b : (m &&& cfN c w).testBit (c + i) = (0 : Nat).testBit (c + i) := by rw [a]
    have t4 : (cfN c w).testBit (c + i) = true := ((t3 ⟨c + i, by omega⟩).2).trans (decide_eq_true ⟨Nat.le_add_right c i, Nat.add_lt_add_left hi c⟩)
    rw [Nat.testBit_and, Nat.zero_testBit, t4, Bool.and_true, h3 _ (by omega), any_14 hn] at b
    rw [add]; exact b
  · rw [Nat.testBit_and, Nat.zero_testBit]
    by_cases hx : x < 10
    · rw [(t3 ⟨x, hx⟩).2]
      by_cases hr : c ≤ x ∧ x < c + w
      · have b := a (x - c) (by omega)
        rw [add, show c + (x - c) = x by omega] at b
        rw [h3 x hx, any_14 hn, b, Bool.false_and]
      · rw [decide_eq_false hr, Bool.and_false]
    · rw [Nat.testBit_lt_two_pow (x := cfN c w) (Nat.lt_of_lt_of_le t2 (p10 (Nat.not_lt.mp hx))), Bool.and_false]
/-- SUMS of widths: one side masks at eleven bits, the other at the room that there is -/
theorem shl_tbl : ((List.range 2048).all fun a => (List.range 6).all fun w => nI a <<< (nI w &&& 31) == nI (a <<< w)) = true := by decide +kernel
theorem shl_at {a w : Nat} (ha : a < 2048) (hw : w ≤ 5) : nI a <<< (nI w &&& 31) = nI (a <<< w) := by
  have h1 := List.all_eq_true.mp shl_tbl a (List.mem_range.mpr ha)
  have h2 := List.all_eq_true.mp h1 w (List.mem_range.mpr (by omega))
  simpa using h2
def okSum (q : QT) : Prop := ∃ w, 1 ≤ w ∧ w ≤ 5 ∧ qWd q = nI w
/-- the sums that the reference keeps, for a room of r cells -/
def sp_sr (nP : Nat) (ps : Nat → PT) (hi : Int32) (r : Nat) : Nat → Int32
  | 0 => 1
  | j + 1 => if j < nP ∧ (qSh (ps j).2.2 = -1 ∧ (qSt (ps j).2.2 = 1 ∨ qSt (ps j).2.2 = 3)) ∧ qHg (ps j).2.2 ≤ hi then sp_sr nP ps hi r j ||| ((sp_sr nP ps hi r j <<< (qWd (ps j).2.2 &&& 31)) &&& nI (2 ^ (r + 1) - 1)) else sp_sr nP ps hi r j
theorem sums_nat {nP : Nat} {ps : Nat → PT} {hi : Int32} {r : Nat} (hr : r ≤ 10) (hW : ∀ i, i < nP → okSum (ps i).2.2) : ∀ j, ∃ a b, a < 2048 ∧ b < 2 ^ (r + 1) ∧ sp_sm nP ps hi j = nI a ∧ sp_sr nP ps hi r j = nI b ∧ ∀ x, x ≤ r → a.testBit x = b.testBit x
  | 0 => ⟨1, 1, by decide, Nat.one_lt_two_pow (by omega), rfl, rfl, fun _ _ => rfl⟩
  | j + 1 => by
    obtain ⟨a, b, h1, h2, h3, h4, h5⟩ := sums_nat hr hW j
    have pr := p11 hr
    by_cases hj : j < nP ∧ (qSh (ps j).2.2 = -1 ∧ (qSt (ps j).2.2 = 1 ∨ qSt (ps j).2.2 = 3)) ∧ qHg (ps j).2.2 ≤ hi
    · obtain ⟨w, w1, w2, e⟩ := hW j hj.1
      have m1 : sp_cf 0 11 = nI (2 ^ 11 - 1) := by decide
      refine ⟨a ||| (a <<< w) % 2 ^ 11, b ||| (b <<< w) % 2 ^ (r + 1), Nat.or_lt_two_pow (n := 11) h1 (Nat.mod_lt _ (by decide)), Nat.or_lt_two_pow h2 (Nat.mod_lt _ (Nat.two_pow_pos _)), ?_, ?_, fun x hx => ?_⟩
      · rw [← sm_t hj.1 hj.2.1 hj.2.2, h3, e, shl_at h1 w2, m1, nI_and, Nat.and_two_pow_sub_one_eq_mod, nI_or]
      · rw [show sp_sr nP ps hi r (j + 1) = sp_sr nP ps hi r j ||| ((sp_sr nP ps hi r j <<< (qWd (ps j).2.2 &&& 31)) &&& nI (2 ^ (r + 1) - 1)) from if_pos hj, h4, e, shl_at (by omega) w2, nI_and, Nat.and_two_pow_sub_one_eq_mod, nI_or]
      · rw [Nat.testBit_or, Nat.testBit_or, Nat.testBit_mod_two_pow, Nat.testBit_mod_two_pow, Nat.testBit_shiftLeft, Nat.testBit_shiftLeft, h5 x hx, decide_eq_true (show x < 11 by omega), decide_eq_true (show x < r + 1 by omega)]
        by_cases hw : w ≤ x
        · rw [h5 (x - w) (by omega)]
        · rw [decide_eq_false (show ¬ x ≥ w by omega), Bool.false_and, Bool.false_and]
    · refine ⟨a, b, h1, h2, by rw [← sm_f hj]; exact h3, ?_, h5⟩
      rw [show sp_sr nP ps hi r (j + 1) = sp_sr nP ps hi r j from if_neg hj]; exact h4
theorem shr_tbl : ((List.range 2048).all fun a => (List.range 11).all fun x => decide ((nI a >>> (nI x &&& 31)) &&& 1 = 0) == !a.testBit x) = true := by decide +kernel
theorem shr_at {a x : Nat} (ha : a < 2048) (hx : x ≤ 10) : (nI a >>> (nI x &&& 31)) &&& 1 = 0 ↔ a.testBit x = false := by
  have h1 := List.all_eq_true.mp shr_tbl a (List.mem_range.mpr ha)
  have h2 := List.all_eq_true.mp h1 x (List.mem_range.mpr (by omega))
  simp only [beq_iff_eq] at h2
  cases hb : a.testBit x with
  | false => rw [hb] at h2; exact ⟨fun _ => rfl, fun _ => of_decide_eq_true h2⟩
  | true => rw [hb] at h2; exact ⟨fun w => absurd w (of_decide_eq_false h2), fun w => by cases w⟩
theorem sm_sr {nP : Nat} {ps : Nat → PT} {hi : Int32} {r : Nat} (hr : r ≤ 10) (hW : ∀ i, i < nP → okSum (ps i).2.2) {j x : Nat} (hx : x ≤ r) : ((sp_sm nP ps hi j >>> (nI x &&& 31)) &&& 1 = 0) ↔ ((sp_sr nP ps hi r j >>> (nI x &&& 31)) &&& 1 = 0) := by
  obtain ⟨a, b, h1, h2, h3, h4, h5⟩ := sums_nat (hi := hi) hr hW j
  have pr := p11 hr
  rw [h3, h4, shr_at h1 (by omega), shr_at (show b < 2048 by omega) (by omega), h5 x hx]
theorem sr_bit0 {nP : Nat} {ps : Nat → PT} {hi : Int32} {r : Nat} (hr : r ≤ 10) (hW : ∀ i, i < nP → okSum (ps i).2.2) (j : Nat) : ¬ (sp_sr nP ps hi r j >>> (nI 0 &&& 31)) &&& 1 = 0 := by
  obtain ⟨a, b, h1, h2, h3, h4, h5⟩ := sums_nat (hi := hi) hr hW j
  have pr := p11 hr
  have b0 : ∀ j, ∀ b, sp_sr nP ps hi r j = nI b → b < 2 ^ (r + 1) → b.testBit 0 = true := by
    intro j
    induction j with
    | zero => intro b e hb; have : b = 1 := (nI_eq (by omega) (by decide)).mp e.symm; rw [this]; rfl
    | succ j ih =>
      intro b e hb
      obtain ⟨a', b', g1, g2, g3, g4, g5⟩ := sums_nat (hi := hi) hr hW j
      by_cases hj : j < nP ∧ (qSh (ps j).2.2 = -1 ∧ (qSt (ps j).2.2 = 1 ∨ qSt (ps j).2.2 = 3)) ∧ qHg (ps j).2.2 ≤ hi
      · obtain ⟨w, w1, w2, ew⟩ := hW j hj.1
        rw [show sp_sr nP ps hi r (j + 1) = sp_sr nP ps hi r j ||| ((sp_sr nP ps hi r j <<< (qWd (ps j).2.2 &&& 31)) &&& nI (2 ^ (r + 1) - 1)) from if_pos hj, g4, ew, shl_at (by omega) w2, nI_and, Nat.and_two_pow_sub_one_eq_mod, nI_or] at e
        have lt : b' ||| (b' <<< w) % 2 ^ (r + 1) < 2 ^ (r + 1) := Nat.or_lt_two_pow g2 (Nat.mod_lt _ (Nat.two_pow_pos _))
        have : b = b' ||| (b' <<< w) % 2 ^ (r + 1) := (nI_eq (by omega) (by omega)).mp e.symm
        rw [this, Nat.testBit_or, ih b' g4 g2, Bool.true_or]
      · rw [show sp_sr nP ps hi r (j + 1) = sp_sr nP ps hi r j from if_neg hj] at e
        exact ih b e hb
  rw [h4, shr_at (by omega) (by omega), b0 j b h4 h2]
  decide
