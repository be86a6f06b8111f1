/-- a truth value as the machine has it -/
def bI (c : Prop) [Decidable c] : Int32 := if c then 1 else 0
theorem bI_t {c : Prop} [Decidable c] (h : c) : (1 : Int32) = bI c := by simp [bI, h]
theorem bI_f {c : Prop} [Decidable c] (h : ¬ c) : (0 : Int32) = bI c := by simp [bI, h]
theorem bI_01 (c : Prop) [Decidable c] : bI c = 0 ∨ bI c = 1 := by unfold bI; split <;> simp
theorem bI_eq0 {c : Prop} [Decidable c] : bI c = 0 ↔ ¬ c := by unfold bI; split <;> simp_all
theorem bI_ne0 {c : Prop} [Decidable c] : ¬ bI c = 0 ↔ c := by unfold bI; split <;> simp_all
theorem bI_nar (c : Prop) [Decidable c] : narrow .boolean (.int (bI c)) = .int (bI c) := by rcases bI_01 c with e | e <;> rw [e] <;> rfl
theorem nar01 {z : Int32} (h : z = 0 ∨ z = 1) : narrow .boolean (.int z) = .int z := by rcases h with e | e <;> rw [e] <;> rfl
-- comparisons of doubles
abbrev dlt (a b : UInt64) : Prop := FP.dcmp a b = some .lt
abbrev dgt (a b : UInt64) : Prop := FP.dcmp a b = some .gt
abbrev deq (a b : UInt64) : Prop := FP.dcmp a b = some .eq
abbrev dge (a b : UInt64) : Prop := FP.dcmp a b = some .gt ∨ FP.dcmp a b = some .eq
abbrev dle (a b : UInt64) : Prop := FP.dcmp a b = some .lt ∨ FP.dcmp a b = some .eq
abbrev flt (a b : UInt32) : Prop := FP.fcmp a b = some .lt
abbrev fgt (a b : UInt32) : Prop := FP.fcmp a b = some .gt
abbrev feq (a b : UInt32) : Prop := FP.fcmp a b = some .eq
abbrev fle (a b : UInt32) : Prop := FP.fcmp a b = some .lt ∨ FP.fcmp a b = some .eq
section CMPV
variable {r : Option Ordering}
theorem cl_gt : 0 < Op.cmpValue r .l ↔ r = some .gt := by rcases r with _ | (_ | _ | _) <;> decide
theorem cl_le : Op.cmpValue r .l ≤ 0 ↔ ¬ r = some .gt := by rcases r with _ | (_ | _ | _) <;> decide
theorem cl_eq : Op.cmpValue r .l = 0 ↔ r = some .eq := by rcases r with _ | (_ | _ | _) <;> decide
theorem cl_lt : Op.cmpValue r .l < 0 ↔ ¬ (r = some .gt ∨ r = some .eq) := by rcases r with _ | (_ | _ | _) <;> decide
theorem cl_ge : 0 ≤ Op.cmpValue r .l ↔ (r = some .gt ∨ r = some .eq) := by rcases r with _ | (_ | _ | _) <;> decide
theorem cg_ge : 0 ≤ Op.cmpValue r .g ↔ ¬ r = some .lt := by rcases r with _ | (_ | _ | _) <;> decide
theorem cg_gt : 0 < Op.cmpValue r .g ↔ ¬ (r = some .lt ∨ r = some .eq) := by rcases r with _ | (_ | _ | _) <;> decide
end CMPV
set_option maxHeartbeats 4000000 in
set_option maxRecDepth 100000 in
theorem m_X7_isWithin {l : Launch} {D : va_G} {tc : Nat → ClassId} (hl : l.stackTraces = false) {h : HM} (a b c : Int32) :
    CT l D tc yX7_isWithin cX7_isWithin 3 (some FieldType.boolean) rm_X7_isWithin [.int a, .int b, .int c] h (rI (fun z h' => h' = h ∧ z = bI (b ≤ a ∧ a ≤ c))) := by
  refine CT.start [some (.int a), some (.int b), some (.int c)] (by decide) hl rfl rfl (fun K C M => ?_)
  obtain ⟨rfl, rfl, rfl, -⟩ := id M
  have C : CX K RX7 cX7_isWithin 3 rm_X7_isWithin := C
  refine w_iload_n C dX7_isWithin_0 (by rfl) ?_
  refine w_iload_n C dX7_isWithin_1 (by rfl) ?_
  refine w_icmp_lt (tgt := 14) C dX7_isWithin_2 (by rfl) (fun c_2 => ?_) (fun c_2 => ?_)
  · refine w_iconst (v := 0) C dX7_isWithin_14 (by rfl) ?_
    refine w_zret C M dX7_isWithin_15 ⟨by decide, by decide⟩ (by rfl) ⟨_, rfl, ?_⟩
    refine ⟨rfl, ?_⟩
    first | exact bI_t (by simp_all) | exact bI_f (by simp_all [Int32.not_le])
  · refine w_iload_n C dX7_isWithin_5 (by rfl) ?_
    refine w_iload_n C dX7_isWithin_6 (by rfl) ?_
    refine w_icmp_gt (tgt := 14) C dX7_isWithin_7 (by rfl) (fun c_7 => ?_) (fun c_7 => ?_)
    · refine w_iconst (v := 0) C dX7_isWithin_14 (by rfl) ?_
      refine w_zret C M dX7_isWithin_15 ⟨by decide, by decide⟩ (by rfl) ⟨_, rfl, ?_⟩
      refine ⟨rfl, ?_⟩
      first | exact bI_t (by simp_all) | exact bI_f (by simp_all [Int32.not_le])
    · refine w_iconst (v := 1) C dX7_isWithin_10 (by rfl) ?_
      refine w_goto (tgt := 15) C dX7_isWithin_11 (by rfl) ?_
      refine w_zret C M dX7_isWithin_15 ⟨by decide, by decide⟩ (by rfl) ⟨_, rfl, ?_⟩
      refine ⟨rfl, ?_⟩
      first | exact bI_t (by simp_all) | exact bI_f (by simp_all [Int32.not_le])
