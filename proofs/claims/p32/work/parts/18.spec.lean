/-! WORDS OF THE SPECIFICATION: truth values, comparisons, the kiln and its steps -/
def bI (c : Prop) [Decidable c] : Int32 := if c then 1 else 0
theorem bI_t {c : Prop} [Decidable c] (h : c) : (1 : Int32) = bI c := by simp [bI, h]
theorem bI_f {c : Prop} [Decidable c] (h : ¬ c) : (0 : Int32) = bI c := by simp [bI, h]
theorem bI_01 (c : Prop) [Decidable c] : bI c = 0 ∨ bI c = 1 := by unfold bI; split <;> simp
theorem bI_eq0 {c : Prop} [Decidable c] : bI c = 0 ↔ ¬ c := by unfold bI; split <;> simp_all
theorem bI_cong {c d : Prop} [Decidable c] [Decidable d] (h : c ↔ d) : bI c = bI d := by simp only [bI, h]
/-- a truth value held in a place -/
def bi (b : Bool) : Int32 := if b then 1 else 0
theorem bi_01 (b : Bool) : bi b = 0 ∨ bi b = 1 := by cases b <;> simp [bi]
theorem bi_eq0 {b : Bool} : bi b = 0 ↔ b = false := by cases b <;> simp [bi]
theorem bi_ne0 {b : Bool} : ¬ bi b = 0 ↔ b = true := by cases b <;> simp [bi]
theorem bi_t : bi true = 1 := rfl
theorem bi_f : bi false = 0 := rfl
theorem bI_bi (c : Prop) [Decidable c] : bI c = bi (decide c) := by unfold bI bi; by_cases h : c <;> simp [h]
abbrev dlt (a b : UInt64) : Prop := FP.dcmp a b = some .lt
abbrev dgt (a b : UInt64) : Prop := FP.dcmp a b = some .gt
abbrev deq (a b : UInt64) : Prop := FP.dcmp a b = some .eq
abbrev dge (a b : UInt64) : Prop := FP.dcmp a b = some .gt ∨ FP.dcmp a b = some .eq
abbrev dle (a b : UInt64) : Prop := FP.dcmp a b = some .lt ∨ FP.dcmp a b = some .eq
abbrev flt (a b : UInt32) : Prop := FP.fcmp a b = some .lt
abbrev fgt (a b : UInt32) : Prop := FP.fcmp a b = some .gt
abbrev feq (a b : UInt32) : Prop := FP.fcmp a b = some .eq
abbrev fle (a b : UInt32) : Prop := FP.fcmp a b = some .lt ∨ FP.fcmp a b = some .eq
section CMPV
variable {r : Option Ordering}
theorem cl_gt : 0 < Op.cmpValue r .l ↔ r = some .gt := by rcases r with _ | (_ | _ | _) <;> decide
theorem cl_le : Op.cmpValue r .l ≤ 0 ↔ ¬ r = some .gt := by rcases r with _ | (_ | _ | _) <;> decide
theorem cl_eq : Op.cmpValue r .l = 0 ↔ r = some .eq := by rcases r with _ | (_ | _ | _) <;> decide
theorem cl_lt : Op.cmpValue r .l < 0 ↔ ¬ (r = some .gt ∨ r = some .eq) := by rcases r with _ | (_ | _ | _) <;> decide
theorem cl_ge : 0 ≤ Op.cmpValue r .l ↔ (r = some .gt ∨ r = some .eq) := by rcases r with _ | (_ | _ | _) <;> decide
theorem cg_ge : 0 ≤ Op.cmpValue r .g ↔ ¬ r = some .lt := by rcases r with _ | (_ | _ | _) <;> decide
theorem cg_gt : 0 < Op.cmpValue r .g ↔ ¬ (r = some .lt ∨ r = some .eq) := by rcases r with _ | (_ | _ | _) <;> decide
end CMPV
theorem hu_hu (h : HM) (a : Nat) (e e' : va_E) : hu (hu h a e) a e' = hu h a e' := by funext b; simp only [hu]; split <;> rfl
theorem Up.tr {h h1 h2 : HM} {a : Nat} {e e' : va_E} (u : Up h a e h1) (v : Up h1 a e' h2) : Up h a e' h2 := by rw [Up] at *; rw [v, u, hu_hu]
theorem Up.to {h h1 : HM} {a : Nat} {e e' : va_E} (u : Up h a e h1) (q : e = e') : Up h a e' h1 := q ▸ u
/-- a kiln: heat, power, door, lit, ramp, held, clock, fuel, stalls, works -/
abbrev KT : Type := UInt64 × UInt32 × Bool × Bool × Nat × Int32 × Int32 × Int32 × Int32 × (Nat → UInt64)
abbrev kH (k : KT) : UInt64 := k.1
abbrev kP (k : KT) : UInt32 := k.2.1
abbrev kO (k : KT) : Bool := k.2.2.1
abbrev kL (k : KT) : Bool := k.2.2.2.1
abbrev kA (k : KT) : Nat := k.2.2.2.2.1
abbrev kE (k : KT) : Int32 := k.2.2.2.2.2.1
abbrev kC (k : KT) : Int32 := k.2.2.2.2.2.2.1
abbrev kF (k : KT) : Int32 := k.2.2.2.2.2.2.2.1
abbrev kS (k : KT) : Int32 := k.2.2.2.2.2.2.2.2.1
abbrev kW (k : KT) : Nat → UInt64 := k.2.2.2.2.2.2.2.2.2
/-- a ramp: rate, target, hold -/
abbrev RT : Type := Int32 × Int32 × Int32
/-- what the heat gives -/
def sp_gives (heat : UInt64) (power : UInt32) (opn : Bool) : UInt64 :=
  if opn then FP.dsub (FP.dsub (FP.dmul (FP.f2d power) 4636033603912859648) (FP.ddiv (FP.dsub heat 4626322717216342016) 4625196817309499392)) 4632233691727265792
  else FP.dsub (FP.dmul (FP.f2d power) 4636033603912859648) (FP.ddiv (FP.dsub heat 4626322717216342016) 4625196817309499392)
/-- the heat of a shelf -/
def sp_hot (s : Nat) (heat : UInt64) : UInt64 := if s = 0 then FP.dsub heat 4622945017495814144 else if s = 1 then heat else FP.dadd heat 4620693217682128896
/-- the ramps that are done: k of them at most -/
def sp_pass (nr : Nat) (Rp : Nat → RT) (heat : UInt64) : Nat → Bool → Nat → Int32 → Bool × Nat × Int32
  | 0, lit, at', held => (lit, at', held)
  | k + 1, lit, at', held => if lit = true ∧ (at' < nr → deq heat (FP.i2d (Rp at').2.1) ∧ held = (Rp at').2.2) then sp_pass nr Rp heat k (decide (at' + 1 < nr)) (at' + 1) 0 else (lit, at', held)
def sp_rise (r : RT) (k : KT) : KT :=
  if dlt (sp_gives (kH k) (kP k) (kO k)) FP.dconst1 then (kH k, kP k, kO k, false, kA k, kE k, kC k, kF k, kS k + 1, kW k)
  else
    (if dgt (FP.dadd (kH k) (if dlt (sp_gives (kH k) (kP k) (kO k)) (FP.i2d r.1) then sp_gives (kH k) (kP k) (kO k) else FP.i2d r.1)) (FP.i2d r.2.1) then FP.i2d r.2.1 else FP.dadd (kH k) (if dlt (sp_gives (kH k) (kP k) (kO k)) (FP.i2d r.1) then sp_gives (kH k) (kP k) (kO k) else FP.i2d r.1), k.2)
def sp_loss (heat : UInt64) : UInt64 := FP.ddiv (FP.dsub heat 4626322717216342016) 4620693217682128896
def sp_fallH (r : RT) (heat : UInt64) : UInt64 :=
  if dlt (FP.dsub heat (if dlt (sp_loss heat) (FP.i2d r.1) then sp_loss heat else FP.i2d r.1)) (FP.i2d r.2.1) then FP.i2d r.2.1 else FP.dsub heat (if dlt (sp_loss heat) (FP.i2d r.1) then sp_loss heat else FP.i2d r.1)
def sp_follow (r : RT) (k : KT) : KT :=
  if dlt (kH k) (FP.i2d r.2.1) then sp_rise r k
  else if dgt (kH k) (FP.i2d r.2.1) then (sp_fallH r (kH k), k.2)
  else (kH k, kP k, kO k, kL k, kA k, kE k + 1, kC k, kF k, kS k, kW k)
def sp_cool (heat : UInt64) (opn : Bool) : UInt64 := FP.dsub heat (FP.ddiv (FP.dsub heat 4626322717216342016) (if opn then 4611686018427387904 else 4620693217682128896))
def sp_fuel (clock : Int32) : Int32 := if 32 ≤ clock - clock / 96 * 96 ∧ clock - clock / 96 * 96 ≤ 79 then 2 else 1
def sp_addw (hot w : UInt64) : UInt64 := if dgt hot 4649368480934526976 then FP.dadd w (FP.ddiv (FP.dsub hot 4649368480934526976) 4629700416936869888) else w
def sp_work (heat : UInt64) (w : Nat → UInt64) : Nat → UInt64 := fun j => if j < 3 then sp_addw (sp_hot j heat) (w j) else w j
/-- ahead of the work -/
def sp_step1 (nr : Nat) (Rp : Nat → RT) (k : KT) : KT :=
  match sp_pass nr Rp (kH k) 5 (kL k) (kA k) (kE k) with
  | (lit, at', held) =>
    if lit = true ∧ at' < nr then
      match sp_follow (Rp at') (kH k, kP k, kO k, lit, at', held, kC k, kF k, kS k, kW k) with
      | k2 => (kH k2, kP k2, kO k2, kL k2, kA k2, kE k2, kC k2, kF k2 + sp_fuel (kC k2), kS k2, kW k2)
    else (sp_cool (kH k) (kO k), kP k, kO k, lit, at', held, kC k, kF k, kS k, kW k)
def sp_step (nr : Nat) (Rp : Nat → RT) (k : KT) : KT :=
  match sp_step1 nr Rp k with
  | k2 => (kH k2, kP k2, kO k2, kL k2, kA k2, kE k2, kC k2 + 1, kF k2, kS k2, sp_work (kH k2) (kW k2))
/-- the cone of a work -/
def sp_cone (w : UInt64) : Nat → Int32
  | 0 => 0
  | j + 1 => sp_cone w j + bI (dge w (FP.i2d (cwC j)))
/-- cells of the class that landed -/
abbrev kCell (pr wk : Nat) (hb : UInt64) (dmp : Int32) (k : KT) : va_E := .inr (2, [.ref pr, .double (kH k), .double hb, .float (kP k), .int dmp, .int (bi (kO k)), .int (bi (kL k)), .int (nI (kA k)), .int (kE k), .int (kC k), .int (kF k), .int (kS k), .ref wk])
abbrev wCell (tc : Nat → ClassId) (w : Nat → UInt64) : va_E := .inl (tc 2, 3, .inr (.inr (.inr (.inl w))))
abbrev rCell (r : RT) : va_E := .inr (5, [.int r.1, .int r.2.1, .int r.2.2])
abbrev pCell (ra : Nat) (nr : Nat) : va_E := .inr (4, [.ref ra, .int (nI nr)])
abbrev qCell (cA : ClassId) (m : Nat) (f : Nat → Option Nat) : va_E := .inl (cA, m, .inr (.inr (.inr (.inr f))))
/-- what is finite of a kiln's numbers -/
def okK (k : KT) : Prop := Ht (kH k) ∧ FP.Core.FFin (kP k) ∧ ∀ j, j < 3 → dN (kW k j) ∧ 0 ≤ dz (kW k j)
/-- the ramps that a program tells -/
def okR9 (nr : Nat) (Rp : Nat → RT) : Prop := nr ≤ 5 ∧ ∀ i, i < nr → (10 ≤ (Rp i).1.toInt ∧ (Rp i).1.toInt ≤ 200) ∧ (100 ≤ (Rp i).2.1.toInt ∧ (Rp i).2.1.toInt ≤ 1400)
