/-! THE LAW'S SMALL METHODS -/
abbrev rq_place : Room := { frames := 8, cells := 6, slots := 36, locals := 137 }
abbrev rq_apart : Room := { frames := 8, cells := 170, slots := 1100, locals := 135 }
/-- what below answers -/
def lbl (v n : Int32) : Int32 := (v &&& 2147483647) - (v &&& 2147483647) / n * n
/-- a place of the script, and what stands beyond it -/
def lcl (tc : Nat → ClassId) (k : Int32) : Int32 := if k < nI (scL tc) then scX tc k.toNatClampNeg else 790386105 * (k + 3)
theorem i32_nat (x : Int32) : x = nI x.toBitVec.toNat := Int32.toBitVec_inj.mp (BitVec.eq_of_toNat_eq (by
  show x.toBitVec.toNat = (BitVec.ofNat 32 x.toBitVec.toNat).toNat
  rw [BitVec.toNat_ofNat]
  exact (Nat.mod_eq_of_lt x.toBitVec.isLt).symm))
theorem mask_nat (x : Int32) : ∃ a, a < 2 ^ 31 ∧ x &&& 2147483647 = nI a := by
  refine ⟨x.toBitVec.toNat % 2 ^ 31, Nat.mod_lt _ (by decide), ?_⟩
  have e : (2147483647 : Int32) = nI (2 ^ 31 - 1) := by decide
  rw [e]
  refine (congrArg (fun z => z &&& nI (2 ^ 31 - 1)) (i32_nat x)).trans ?_
  show nI _ &&& nI _ = _
  rw [nI_and, Nat.and_two_pow_sub_one_eq_mod]
theorem rem_nat {a N : Nat} (ha : a < 2 ^ 31) (h1 : 1 ≤ N) (hN : N < 2 ^ 31) : nI a - nI a / nI N * nI N = nI (a % N) := by
  have hq : a / N ≤ a := Nat.div_le_self a N
  have hm : a / N * N ≤ a := Nat.div_mul_le_self a N
  have q : nI a / nI N = nI (a / N) := by
    apply Int32.toInt_inj.mp
    rw [Int32.toInt_div, nI_toInt ha, nI_toInt hN, nI_toInt (by omega), ← Int.ofNat_tdiv, Int.bmod_def]
    generalize a / N = Q at *
    split <;> omega
  have m : nI (a / N) * nI N = nI (a / N * N) := by
    apply Int32.toInt_inj.mp
    rw [Int32.toInt_mul, nI_toInt (show a / N < 2 ^ 31 by omega), nI_toInt hN, nI_toInt (by omega), ← Int.natCast_mul, Int.bmod_def]
    generalize a / N * N = Q at *
    split <;> omega
  rw [q, m]
  apply Int32.toInt_inj.mp
  have e := Nat.mod_eq_sub_div_mul (x := a) (k := N)
  rw [Int32.toInt_sub, nI_toInt ha, nI_toInt (by omega), nI_toInt (by omega), Int.bmod_def]
  generalize a / N * N = Q at *
  split <;> omega
theorem lbl_nat (v : Int32) {N : Nat} (h1 : 1 ≤ N) (hN : N < 2 ^ 31) : ∃ b, b < N ∧ lbl v (nI N) = nI b := by
  obtain ⟨a, ha, e⟩ := mask_nat v
  refine ⟨a % N, Nat.mod_lt _ h1, ?_⟩
  unfold lbl
  rw [e]
  exact rem_nat ha h1 hN

set_option maxHeartbeats 4000000 in
set_option maxRecDepth 100000 in
theorem m_L_below {l : Launch} {D : va_G} {tc : Nat → ClassId} (hl : l.stackTraces = false) {h : HM} (a b : Int32) (hb : ¬ b = 0) :
    CT l D tc yL_below cL_below 2 (some FieldType.int) rm_L_below [.int a, .int b] h (rI (fun z h' => h' = h ∧ z = lbl a b)) := by
  refine CT.start [some (.int a), some (.int b)] (by decide) hl rfl rfl (fun K C M => ?_)
  obtain ⟨rfl, rfl, rfl, -⟩ := id M
  have C : CX K RL cL_below 2 rm_L_below := C
  refine w_iload_n C dL_below_0 (by rfl) ?_
  refine lc_L_7 C dL_below_1 ?_
  refine w_iand C dL_below_3 ?_
  refine w_iload_n C dL_below_4 (by rfl) ?_
  refine w_irem C dL_below_5 hb ?_
  refine w_iret C M dL_below_6 ⟨by decide, by decide⟩ ⟨_, rfl, ?_⟩
  exact ⟨rfl, rfl⟩

set_option maxHeartbeats 4000000 in
set_option maxRecDepth 100000 in
theorem m_L_cell {l : Launch} {D : va_G} {tc : Nat → ClassId} (hl : l.stackTraces = false) {h : HM} {a : Int32} (ha : 0 ≤ a.toInt) (hL : scL tc ≤ 260) :
    CT l D tc yL_cell cL_cell 2 (some FieldType.int) rm_L_cell [.ref (tc 11), .int a] h (rI (fun z h' => h' = h ∧ z = lcl tc a)) := by
  refine CT.start [some (.ref (tc 11)), some (.int a)] (by decide) hl rfl rfl (fun K C M => ?_)
  obtain ⟨rfl, rfl, rfl, -⟩ := id M
  have C : CX K RL cL_cell 2 rm_L_cell := C
  refine w_iload_n C dL_cell_0 (by rfl) ?_
  first | refine w_aload_n C dL_cell_1 (by rfl) ?_ | refine w_aload_nN C dL_cell_1 (by rfl) ?_
  refine w_tlen C (cx_sw C).sc dL_cell_2 ?_
  refine w_icmp_ge (tgt := 12) C dL_cell_3 (by rfl) (fun c_3 => ?_) (fun c_3 => ?_)
  · refine lc_L_8 C dL_cell_12 ?_
    refine w_iload_n C dL_cell_14 (by rfl) ?_
    refine w_iconst (v := 3) C dL_cell_15 (by rfl) ?_
    refine w_iadd C dL_cell_16 ?_
    refine w_imul C dL_cell_17 ?_
    refine w_iret C M dL_cell_18 ⟨by decide, by decide⟩ ⟨_, rfl, ?_⟩
    exact ⟨rfl, (if_neg (Int32.not_lt.mpr c_3)).symm⟩
  · have c3 := Int32.not_le.mp c_3
    first | refine w_aload_n C dL_cell_6 (by rfl) ?_ | refine w_aload_nN C dL_cell_6 (by rfl) ?_
    refine w_iload_n C dL_cell_7 (by rfl) ?_
    refine w_tiald C (cx_sw C).sc (vp_in_iff.mpr ⟨ha, by have := Int32.lt_iff_toInt_lt.mp c3; rw [nI_toInt (by omega)] at this; exact this⟩) dL_cell_8 ?_
    refine w_goto (tgt := 18) C dL_cell_9 (by rfl) ?_
    refine w_iret C M dL_cell_18 ⟨by decide, by decide⟩ ⟨_, rfl, ?_⟩
    exact ⟨rfl, (if_pos c3).symm⟩
