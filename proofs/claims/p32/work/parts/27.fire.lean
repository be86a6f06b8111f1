/-! WHAT HEAT AND FIRE DO; GLAZES; ORDERS -/
section WWI
variable {K : KC} {n : Nat × Nat} {pc : Nat} {lv lv' : List (Option Value)} {st st0 : List Value} {h : HM} {own : String} {cc : ByteArray} {nL : Nat} {R : Room}
theorem w_imax (C : CX K own cc nL R) {x y : Int32} {idx : Nat} (w1 : Cond.methodLink own idx Lib.Math.max.name ∈ lw_G) (w2 : Cond.static Lib.Math.max.name ∈ lw_G) (w3 : Cond.initialized "java/lang/Math" ∈ lw_G) (w4 : Cond.code Lib.Math.max.name Lib.Math.max.code 2 (some .int) ∈ lw_G) (hnl : lv.length = nL) (hR : Nat.ble 1 R.frames = true) (hR2 : Nat.ble ((st.map fun v => v.category).sum + 13) R.locals = true) (hn : n.1 ≤ R.cells ∧ n.2 ≤ R.slots) (hd : decode cc pc = .ok (.invokestatic idx, 3)) (k : WW K n (pc + 3) lv (.int (if x < y then y else x) :: st) h) : WW K n pc lv (.int y :: .int x :: st) h := by
  intro H locs ls hP hS hl
  have hR9 := C.2.2.2.2.2.2.2.1
  exact va_mmax C.1 C.2.1 (C.2.2.1.trans (hl.1.trans hnl).symm) C.2.2.2.1 (cx_w C w1) (cx_w C w2) (cx_w C w3) (cx_w C w4) (by rw [hR9]; exact Nat.ble_eq.mp hR) (by rw [hR9]; exact Nat.ble_eq.mp hR2) (by rw [hR9]; exact hn.1) (by rw [hR9]; exact hn.2) hd (k H locs ls hP hS hl)
theorem w_imin (C : CX K own cc nL R) {x y : Int32} {idx : Nat} (w1 : Cond.methodLink own idx Lib.Math.min.name ∈ lw_G) (w2 : Cond.static Lib.Math.min.name ∈ lw_G) (w3 : Cond.initialized "java/lang/Math" ∈ lw_G) (w4 : Cond.code Lib.Math.min.name Lib.Math.min.code 2 (some .int) ∈ lw_G) (hnl : lv.length = nL) (hR : Nat.ble 1 R.frames = true) (hR2 : Nat.ble ((st.map fun v => v.category).sum + 13) R.locals = true) (hn : n.1 ≤ R.cells ∧ n.2 ≤ R.slots) (hd : decode cc pc = .ok (.invokestatic idx, 3)) (k : WW K n (pc + 3) lv (.int (if y < x then y else x) :: st) h) : WW K n pc lv (.int y :: .int x :: st) h := by
  intro H locs ls hP hS hl
  have hR9 := C.2.2.2.2.2.2.2.1
  exact va_mmin C.1 C.2.1 (C.2.2.1.trans (hl.1.trans hnl).symm) C.2.2.2.1 (cx_w C w1) (cx_w C w2) (cx_w C w3) (cx_w C w4) (by rw [hR9]; exact Nat.ble_eq.mp hR) (by rw [hR9]; exact Nat.ble_eq.mp hR2) (by rw [hR9]; exact hn.1) (by rw [hR9]; exact hn.2) hd (k H locs ls hP hS hl)
end WWI
def sp_change (old hot : UInt64) : UInt64 := if dlt hot old then FP.dsub old hot else FP.dsub hot old
def sp_feel1 (old hot : UInt64) (smoky : Bool) (q : QT) : QT :=
  (qWd q, qHg q, qWl q, qSt q, qWa q, qCv q, (if smoky = true ∧ dge hot 4650248090236747776 then qSm q + 1 else qSm q), (if sp_over old hot ∧ dgt (sp_change old hot) (FP.ddiv 4638707616191610880 (FP.i2d (qWl q))) then qMk q ||| 2 else qMk q), qSh q, qCe q)
def sp_feel (old hot : UInt64) (smoky : Bool) (q : QT) : QT :=
  if qSt q = 5 then q
  else if qSt q = 0 ∧ dgt hot 4636737291354636288 then (qWd q, qHg q, qWl q, 5, qWa q, qCv q, qSm q, qMk q ||| 1, qSh q, qCe q)
  else sp_feel1 old hot smoky q
theorem feel_5 {old hot : UInt64} {sm : Bool} {q : QT} (h : qSt q = 5) : sp_feel old hot sm q = q := if_pos h
theorem feel_0 {old hot : UInt64} {sm : Bool} {q : QT} (h5 : ¬ qSt q = 5) (h : qSt q = 0) (g : dgt hot 4636737291354636288) : sp_feel old hot sm q = (qWd q, qHg q, qWl q, 5, qWa q, qCv q, qSm q, qMk q ||| 1, qSh q, qCe q) := (if_neg h5).trans (if_pos ⟨h, g⟩)
theorem feel_1 {old hot : UInt64} {sm : Bool} {q : QT} (h5 : ¬ qSt q = 5) (h : ¬ (qSt q = 0 ∧ dgt hot 4636737291354636288)) : sp_feel old hot sm q = sp_feel1 old hot sm q := (if_neg h5).trans (if_neg h)
/-- the marks that a glaze has on a clay -/
def sp_marks (me : Int32) (gr kg : UInt64) (cone : Int32) : Int32 :=
  (((0 ||| (if cone < me then 8 else 0)) ||| (if me + 2 < cone then 16 else 0)) ||| (if dgt (FP.dsub gr kg) 4611686018427387904 then 32 else 0)) ||| (if dgt (FP.dsub kg gr) 4611686018427387904 then 64 else 0)
def sp_fired (cone : Int32) (q : QT) : Prop := (qSt q = 1 ∧ 2 ≤ cone) ∨ (qSt q = 3 ∧ 1 ≤ cone)
def sp_dist (gr kg : UInt64) : UInt64 := if dlt (FP.dsub gr kg) 0 then FP.dneg (FP.dsub gr kg) else FP.dsub gr kg
def sp_round (x : UInt64) : Int32 := if dgt (FP.dsub x (FP.i2d (FP.d2i x))) 4602678819172646912 ∨ (deq (FP.dsub x (FP.i2d (FP.d2i x))) 4602678819172646912 ∧ ¬ FP.d2i x - FP.d2i x / 2 * 2 = 0) then FP.d2i x + 1 else FP.d2i x
def sp_mx (g : GT) : UInt64 := FP.dadd (FP.dmul 4609434218613702656 (FP.ddiv (FP.i2d g.2.2.1) (FP.i2d (g.1 + g.2.1)))) (FP.dmul 4602678819172646912 (FP.ddiv (FP.i2d g.2.2.2.1) (FP.i2d (g.1 + g.2.1))))
def sp_melts (g : GT) : Int32 := if sp_round (sp_mx g) < 12 then sp_round (sp_mx g) else 12
def sp_gnum (g : GT) : UInt64 := FP.dadd (FP.dadd (FP.dadd (FP.dmul 4620693217682128896 (FP.i2d g.1)) (FP.dmul 4616189618054758400 (FP.i2d g.2.1))) (FP.dmul 4611686018427387904 (FP.i2d g.2.2.1))) (FP.i2d g.2.2.2.1)
def sp_growth (g : GT) : UInt64 := FP.ddiv (sp_gnum g) (FP.i2d (g.1 + g.2.1 + g.2.2.1 + g.2.2.2.1))

set_option maxHeartbeats 4000000 in
set_option maxRecDepth 100000 in
theorem sg_X4_feel_96 {K : KC} (C : CX K RX4 cX4_feel 9 rm_X4_feel) (hl : (Kl K).stackTraces = false) {h : HM} {a : Nat} {kv gv : Value} {q : QT} (hf : h a = some (potC kv gv q)) {old hot ch : UInt64} {smoky : Bool} {ov : Int32} (hch : ch = sp_change old hot) (hov : ov = bI (sp_over old hot)) (hn : vf_n64 (FP.ddiv 4638707616191610880 (FP.i2d (qWl q)))) {h9 : HM} {P : HM → Prop} (M : MX K (KD K) (Kt K) (Kl K) rm_X4_feel none h9 (rV P) yX4_feel.name) (fin : ∀ h', Up h a (potC kv gv (sp_feel1 old hot smoky q)) h' → P h') : WW K (0, 0) 96 [some (.ref a), some (.double old), none, some (.double hot), none, some (.int (bi smoky)), some (.double ch), none, some (.int ov)] [] h := by
  subst hch
  subst hov
  refine w_iload C dX4_feel_96 (by rfl) ?_
  refine w_if_eq (tgt := 126) C dX4_feel_98 (by rfl) (fun c_98 => ?_) (fun c_98 => ?_)
  · try simp only [cg_ge, cg_gt, cl_gt, cl_le, cl_eq, cl_lt, cl_ge, bi_eq0, bi_ne0, bI_eq0, Decidable.not_not, Bool.not_eq_false] at c_98
    refine w_iload C dX4_feel_126 (by rfl) ?_
    refine w_if_eq (tgt := 149) C dX4_feel_128 (by rfl) (fun c_128 => ?_) (fun c_128 => ?_)
    · try simp only [cg_ge, cg_gt, cl_gt, cl_le, cl_eq, cl_lt, cl_ge, bi_eq0, bi_ne0, bI_eq0, Decidable.not_not, Bool.not_eq_false] at c_128
      refine w_vret C M dX4_feel_149 ⟨by decide, by decide⟩ ⟨rfl, ?_⟩
      first
        | exact fin _ ((no ups).to (by simp only [sp_feel1, dlt, dgt, deq, dge, dle, kH, kP, kO, kL, kA, kE, kC, kF, kS, kW, qWd, qHg, qWl, qSt, qWa, qCv, qSm, qMk, qSh, qCe, c_98, c_128, not_false_eq_true, not_true_eq_false, and_self, and_true, true_and, and_false, false_and, if_true, if_false, Bool.false_eq_true]))
        | exact fin _ ((show Up _ _ _ _ from (hu_id hf).symm).to (by simp only [sp_feel1, dlt, dgt, deq, dge, dle, kH, kP, kO, kL, kA, kE, kC, kF, kS, kW, qWd, qHg, qWl, qSt, qWa, qCv, qSm, qMk, qSh, qCe, c_98, c_128, and_self, and_true, true_and, and_false, false_and, if_true, if_false, Bool.false_eq_true]))
    · try simp only [cg_ge, cg_gt, cl_gt, cl_le, cl_eq, cl_lt, cl_ge, bi_eq0, bi_ne0, bI_eq0, Decidable.not_not, Bool.not_eq_false] at c_128
      refine w_dload_n C dX4_feel_131 (by rfl) ?_
      refine lc_X4_73 C dX4_feel_132 ?_
      refine w_dcmp C dX4_feel_135 ?_
      refine w_if_lt (tgt := 149) C dX4_feel_136 (by rfl) (fun c_136 => ?_) (fun c_136 => ?_)
      · try simp only [cg_ge, cg_gt, cl_gt, cl_le, cl_eq, cl_lt, cl_ge, bi_eq0, bi_ne0, bI_eq0, Decidable.not_not, Bool.not_eq_false] at c_136
        refine w_vret C M dX4_feel_149 ⟨by decide, by decide⟩ ⟨rfl, ?_⟩
        first
          | exact fin _ ((no ups).to (by simp only [sp_feel1, dlt, dgt, deq, dge, dle, kH, kP, kO, kL, kA, kE, kC, kF, kS, kW, qWd, qHg, qWl, qSt, qWa, qCv, qSm, qMk, qSh, qCe, c_98, c_128, c_136, not_false_eq_true, not_true_eq_false, and_self, and_true, true_and, and_false, false_and, if_true, if_false, Bool.false_eq_true]))
          | exact fin _ ((show Up _ _ _ _ from (hu_id hf).symm).to (by simp only [sp_feel1, dlt, dgt, deq, dge, dle, kH, kP, kO, kL, kA, kE, kC, kF, kS, kW, qWd, qHg, qWl, qSt, qWa, qCv, qSm, qMk, qSh, qCe, c_98, c_128, c_136, and_self, and_true, true_and, and_false, false_and, if_true, if_false, Bool.false_eq_true]))
      · try simp only [cg_ge, cg_gt, cl_gt, cl_le, cl_eq, cl_lt, cl_ge, bi_eq0, bi_ne0, bI_eq0, Decidable.not_not, Bool.not_eq_false] at c_136
        first | refine w_aload_n C dX4_feel_139 (by rfl) ?_ | refine w_aload_nN C dX4_feel_139 (by rfl) ?_
        refine w_dup C dX4_feel_140 (by rfl) ?_
        refine gf_X4_28 C hf dX4_feel_141 ?_
        refine w_iconst (v := 1) C dX4_feel_144 (by rfl) ?_
        refine w_iadd C dX4_feel_145 ?_
        refine pf_X4_28 C hf dX4_feel_146 (fun h1 u1 => ?_)
        have hf := u1.self
        refine w_vret C M dX4_feel_149 ⟨by decide, by decide⟩ ⟨rfl, ?_⟩
        first
          | exact fin _ (u1.to (by simp only [sp_feel1, dlt, dgt, deq, dge, dle, kH, kP, kO, kL, kA, kE, kC, kF, kS, kW, qWd, qHg, qWl, qSt, qWa, qCv, qSm, qMk, qSh, qCe, c_98, c_128, c_136, not_false_eq_true, not_true_eq_false, and_self, and_true, true_and, and_false, false_and, if_true, if_false, Bool.false_eq_true]))
          | exact fin _ ((show Up _ _ _ _ from (hu_id hf).symm).to (by simp only [sp_feel1, dlt, dgt, deq, dge, dle, kH, kP, kO, kL, kA, kE, kC, kF, kS, kW, qWd, qHg, qWl, qSt, qWa, qCv, qSm, qMk, qSh, qCe, c_98, c_128, c_136, and_self, and_true, true_and, and_false, false_and, if_true, if_false, Bool.false_eq_true]))
  · try simp only [cg_ge, cg_gt, cl_gt, cl_le, cl_eq, cl_lt, cl_ge, bi_eq0, bi_ne0, bI_eq0, Decidable.not_not, Bool.not_eq_false] at c_98
    refine w_dload C dX4_feel_101 (by rfl) ?_
    refine lc_X4_71 C dX4_feel_103 ?_
    first | refine w_aload_n C dX4_feel_106 (by rfl) ?_ | refine w_aload_nN C dX4_feel_106 (by rfl) ?_
    refine gf_X4_50 C hf dX4_feel_107 ?_
    refine w_i2d C dX4_feel_110 ?_
    refine w_ddiv C dX4_feel_111 hn ?_
    refine w_dcmp C dX4_feel_112 ?_
    refine w_if_le (tgt := 126) C dX4_feel_113 (by rfl) (fun c_113 => ?_) (fun c_113 => ?_)
    · try simp only [cg_ge, cg_gt, cl_gt, cl_le, cl_eq, cl_lt, cl_ge, bi_eq0, bi_ne0, bI_eq0, Decidable.not_not, Bool.not_eq_false] at c_113
      refine w_iload C dX4_feel_126 (by rfl) ?_
      refine w_if_eq (tgt := 149) C dX4_feel_128 (by rfl) (fun c_128 => ?_) (fun c_128 => ?_)
      · try simp only [cg_ge, cg_gt, cl_gt, cl_le, cl_eq, cl_lt, cl_ge, bi_eq0, bi_ne0, bI_eq0, Decidable.not_not, Bool.not_eq_false] at c_128
        refine w_vret C M dX4_feel_149 ⟨by decide, by decide⟩ ⟨rfl, ?_⟩
        first
          | exact fin _ ((no ups).to (by simp only [sp_feel1, dlt, dgt, deq, dge, dle, kH, kP, kO, kL, kA, kE, kC, kF, kS, kW, qWd, qHg, qWl, qSt, qWa, qCv, qSm, qMk, qSh, qCe, c_98, c_113, c_128, not_false_eq_true, not_true_eq_false, and_self, and_true, true_and, and_false, false_and, if_true, if_false, Bool.false_eq_true]))
          | exact fin _ ((show Up _ _ _ _ from (hu_id hf).symm).to (by simp only [sp_feel1, dlt, dgt, deq, dge, dle, kH, kP, kO, kL, kA, kE, kC, kF, kS, kW, qWd, qHg, qWl, qSt, qWa, qCv, qSm, qMk, qSh, qCe, c_98, c_113, c_128, and_self, and_true, true_and, and_false, false_and, if_true, if_false, Bool.false_eq_true]))
      · try simp only [cg_ge, cg_gt, cl_gt, cl_le, cl_eq, cl_lt, cl_ge, bi_eq0, bi_ne0, bI_eq0, Decidable.not_not, Bool.not_eq_false] at c_128
        refine w_dload_n C dX4_feel_131 (by rfl) ?_
        refine lc_X4_73 C dX4_feel_132 ?_
        refine w_dcmp C dX4_feel_135 ?_
        refine w_if_lt (tgt := 149) C dX4_feel_136 (by rfl) (fun c_136 => ?_) (fun c_136 => ?_)
        · try simp only [cg_ge, cg_gt, cl_gt, cl_le, cl_eq, cl_lt, cl_ge, bi_eq0, bi_ne0, bI_eq0, Decidable.not_not, Bool.not_eq_false] at c_136
          refine w_vret C M dX4_feel_149 ⟨by decide, by decide⟩ ⟨rfl, ?_⟩
          first
            | exact fin _ ((no ups).to (by simp only [sp_feel1, dlt, dgt, deq, dge, dle, kH, kP, kO, kL, kA, kE, kC, kF, kS, kW, qWd, qHg, qWl, qSt, qWa, qCv, qSm, qMk, qSh, qCe, c_98, c_113, c_128, c_136, not_false_eq_true, not_true_eq_false, and_self, and_true, true_and, and_false, false_and, if_true, if_false, Bool.false_eq_true]))
            | exact fin _ ((show Up _ _ _ _ from (hu_id hf).symm).to (by simp only [sp_feel1, dlt, dgt, deq, dge, dle, kH, kP, kO, kL, kA, kE, kC, kF, kS, kW, qWd, qHg, qWl, qSt, qWa, qCv, qSm, qMk, qSh, qCe, c_98, c_113, c_128, c_136, and_self, and_true, true_and, and_false, false_and, if_true, if_false, Bool.false_eq_true]))
        · try simp only [cg_ge, cg_gt, cl_gt, cl_le, cl_eq, cl_lt, cl_ge, bi_eq0, bi_ne0, bI_eq0, Decidable.not_not, Bool.not_eq_false] at c_136
          first | refine w_aload_n C dX4_feel_139 (by rfl) ?_ | refine w_aload_nN C dX4_feel_139 (by rfl) ?_
          refine w_dup C dX4_feel_140 (by rfl) ?_
          refine gf_X4_28 C hf dX4_feel_141 ?_
          refine w_iconst (v := 1) C dX4_feel_144 (by rfl) ?_
          refine w_iadd C dX4_feel_145 ?_
          refine pf_X4_28 C hf dX4_feel_146 (fun h2 u2 => ?_)
          have hf := u2.self
          refine w_vret C M dX4_feel_149 ⟨by decide, by decide⟩ ⟨rfl, ?_⟩
          first
            | exact fin _ (u2.to (by simp only [sp_feel1, dlt, dgt, deq, dge, dle, kH, kP, kO, kL, kA, kE, kC, kF, kS, kW, qWd, qHg, qWl, qSt, qWa, qCv, qSm, qMk, qSh, qCe, c_98, c_113, c_128, c_136, not_false_eq_true, not_true_eq_false, and_self, and_true, true_and, and_false, false_and, if_true, if_false, Bool.false_eq_true]))
            | exact fin _ ((show Up _ _ _ _ from (hu_id hf).symm).to (by simp only [sp_feel1, dlt, dgt, deq, dge, dle, kH, kP, kO, kL, kA, kE, kC, kF, kS, kW, qWd, qHg, qWl, qSt, qWa, qCv, qSm, qMk, qSh, qCe, c_98, c_113, c_128, c_136, and_self, and_true, true_and, and_false, false_and, if_true, if_false, Bool.false_eq_true]))
    · try simp only [cg_ge, cg_gt, cl_gt, cl_le, cl_eq, cl_lt, cl_ge, bi_eq0, bi_ne0, bI_eq0, Decidable.not_not, Bool.not_eq_false] at c_113
      first | refine w_aload_n C dX4_feel_116 (by rfl) ?_ | refine w_aload_nN C dX4_feel_116 (by rfl) ?_
      refine w_dup C dX4_feel_117 (by rfl) ?_
      refine gf_X4_31 C hf dX4_feel_118 ?_
      refine w_iconst (v := 2) C dX4_feel_121 (by rfl) ?_
      refine w_ior C dX4_feel_122 ?_
      refine pf_X4_31 C hf dX4_feel_123 (fun h3 u3 => ?_)
      have hf := u3.self
      refine w_iload C dX4_feel_126 (by rfl) ?_
      refine w_if_eq (tgt := 149) C dX4_feel_128 (by rfl) (fun c_128 => ?_) (fun c_128 => ?_)
      · try simp only [cg_ge, cg_gt, cl_gt, cl_le, cl_eq, cl_lt, cl_ge, bi_eq0, bi_ne0, bI_eq0, Decidable.not_not, Bool.not_eq_false] at c_128
        refine w_vret C M dX4_feel_149 ⟨by decide, by decide⟩ ⟨rfl, ?_⟩
        first
          | exact fin _ (u3.to (by simp only [sp_feel1, dlt, dgt, deq, dge, dle, kH, kP, kO, kL, kA, kE, kC, kF, kS, kW, qWd, qHg, qWl, qSt, qWa, qCv, qSm, qMk, qSh, qCe, c_98, c_113, c_128, not_false_eq_true, not_true_eq_false, and_self, and_true, true_and, and_false, false_and, if_true, if_false, Bool.false_eq_true]))
          | exact fin _ ((show Up _ _ _ _ from (hu_id hf).symm).to (by simp only [sp_feel1, dlt, dgt, deq, dge, dle, kH, kP, kO, kL, kA, kE, kC, kF, kS, kW, qWd, qHg, qWl, qSt, qWa, qCv, qSm, qMk, qSh, qCe, c_98, c_113, c_128, and_self, and_true, true_and, and_false, false_and, if_true, if_false, Bool.false_eq_true]))
      · try simp only [cg_ge, cg_gt, cl_gt, cl_le, cl_eq, cl_lt, cl_ge, bi_eq0, bi_ne0, bI_eq0, Decidable.not_not, Bool.not_eq_false] at c_128
        refine w_dload_n C dX4_feel_131 (by rfl) ?_
        refine lc_X4_73 C dX4_feel_132 ?_
        refine w_dcmp C dX4_feel_135 ?_
        refine w_if_lt (tgt := 149) C dX4_feel_136 (by rfl) (fun c_136 => ?_) (fun c_136 => ?_)
        · try simp only [cg_ge, cg_gt, cl_gt, cl_le, cl_eq, cl_lt, cl_ge, bi_eq0, bi_ne0, bI_eq0, Decidable.not_not, Bool.not_eq_false] at c_136
          refine w_vret C M dX4_feel_149 ⟨by decide, by decide⟩ ⟨rfl, ?_⟩
          first
            | exact fin _ (u3.to (by simp only [sp_feel1, dlt, dgt, deq, dge, dle, kH, kP, kO, kL, kA, kE, kC, kF, kS, kW, qWd, qHg, qWl, qSt, qWa, qCv, qSm, qMk, qSh, qCe, c_98, c_113, c_128, c_136, not_false_eq_true, not_true_eq_false, and_self, and_true, true_and, and_false, false_and, if_true, if_false, Bool.false_eq_true]))
            | exact fin _ ((show Up _ _ _ _ from (hu_id hf).symm).to (by simp only [sp_feel1, dlt, dgt, deq, dge, dle, kH, kP, kO, kL, kA, kE, kC, kF, kS, kW, qWd, qHg, qWl, qSt, qWa, qCv, qSm, qMk, qSh, qCe, c_98, c_113, c_128, c_136, and_self, and_true, true_and, and_false, false_and, if_true, if_false, Bool.false_eq_true]))
        · try simp only [cg_ge, cg_gt, cl_gt, cl_le, cl_eq, cl_lt, cl_ge, bi_eq0, bi_ne0, bI_eq0, Decidable.not_not, Bool.not_eq_false] at c_136
          first | refine w_aload_n C dX4_feel_139 (by rfl) ?_ | refine w_aload_nN C dX4_feel_139 (by rfl) ?_
          refine w_dup C dX4_feel_140 (by rfl) ?_
          refine gf_X4_28 C hf dX4_feel_141 ?_
          refine w_iconst (v := 1) C dX4_feel_144 (by rfl) ?_
          refine w_iadd C dX4_feel_145 ?_
          refine pf_X4_28 C hf dX4_feel_146 (fun h4 u4 => ?_)
          have hf := u4.self
          refine w_vret C M dX4_feel_149 ⟨by decide, by decide⟩ ⟨rfl, ?_⟩
          first
            | exact fin _ ((u3.tr u4).to (by simp only [sp_feel1, dlt, dgt, deq, dge, dle, kH, kP, kO, kL, kA, kE, kC, kF, kS, kW, qWd, qHg, qWl, qSt, qWa, qCv, qSm, qMk, qSh, qCe, c_98, c_113, c_128, c_136, not_false_eq_true, not_true_eq_false, and_self, and_true, true_and, and_false, false_and, if_true, if_false, Bool.false_eq_true]))
            | exact fin _ ((show Up _ _ _ _ from (hu_id hf).symm).to (by simp only [sp_feel1, dlt, dgt, deq, dge, dle, kH, kP, kO, kL, kA, kE, kC, kF, kS, kW, qWd, qHg, qWl, qSt, qWa, qCv, qSm, qMk, qSh, qCe, c_98, c_113, c_128, c_136, and_self, and_true, true_and, and_false, false_and, if_true, if_false, Bool.false_eq_true]))

set_option maxHeartbeats 4000000 in
set_option maxRecDepth 100000 in
theorem m_X4_feel {l : Launch} {D : va_G} {tc : Nat → ClassId} (hl : l.stackTraces = false) {h : HM} {a : Nat} {kv gv : Value} {q : QT} (hf : h a = some (potC kv gv q)) {old hot : UInt64} {smoky : Bool} (ho : DF old) (hh : DF hot) (hn : vf_n64 (FP.ddiv 4638707616191610880 (FP.i2d (qWl q)))) :
    CT l D tc yX4_feel cX4_feel 9 none rm_X4_feel [.ref a, .double old, .double hot, .int (bi smoky)] h (rV (fun h' => Up h a (potC kv gv (sp_feel old hot smoky q)) h')) := by
  refine CT.start [some (.ref a), some (.double old), none, some (.double hot), none, some (.int (bi smoky)), none, none, none] (by decide) hl rfl rfl (fun K C M => ?_)
  obtain ⟨rfl, rfl, rfl, -⟩ := id M
  have C : CX K RX4 cX4_feel 9 rm_X4_feel := C
  first | refine w_aload_n C dX4_feel_0 (by rfl) ?_ | refine w_aload_nN C dX4_feel_0 (by rfl) ?_
  refine gf_X4_15 C hf dX4_feel_1 ?_
  refine w_iconst (v := 5) C dX4_feel_4 (by rfl) ?_
  refine w_icmp_ne (tgt := 9) C dX4_feel_5 (by rfl) (fun c_5 => ?_) (fun c_5 => ?_)
  · have hx : ¬ qSt q = 5 := c_5
    first | refine w_aload_n C dX4_feel_9 (by rfl) ?_ | refine w_aload_nN C dX4_feel_9 (by rfl) ?_
    refine gf_X4_15 C hf dX4_feel_10 ?_
    refine w_if_ne (tgt := 40) C dX4_feel_13 (by rfl) (fun c_13 => ?_) (fun c_13 => ?_)
    · try simp only [cg_ge, cg_gt, cl_gt, cl_le, cl_eq, cl_lt, cl_ge, bi_eq0, bi_ne0, bI_eq0, Decidable.not_not, Bool.not_eq_false] at c_13
      have h1 : ¬ (qSt q = 0 ∧ dgt hot 4636737291354636288) := fun w => c_13 w.1
      refine w_dload_n C dX4_feel_40 (by rfl) ?_
      refine w_dload_n C dX4_feel_41 (by rfl) ?_
      refine w_dcmp C dX4_feel_42 ?_
      refine w_if_ge (tgt := 52) C dX4_feel_43 (by rfl) (fun c_43 => ?_) (fun c_43 => ?_)
      · try simp only [cg_ge, cg_gt, cl_gt, cl_le, cl_eq, cl_lt, cl_ge, bi_eq0, bi_ne0, bI_eq0, Decidable.not_not, Bool.not_eq_false] at c_43
        refine w_dload_n C dX4_feel_52 (by rfl) ?_
        refine w_dload_n C dX4_feel_53 (by rfl) ?_
        refine w_dsub C dX4_feel_54 (nn_of (dsub_n hh.n ho)) ?_
        refine w_dstore_6 C dX4_feel_55 (by first | trivial | rfl) ?_
        have h2 : _ = sp_change old hot := (if_neg c_43).symm
        refine w_dload_n C dX4_feel_57 (by rfl) ?_
        refine lc_X4_69 C dX4_feel_58 ?_
        refine w_dcmp C dX4_feel_61 ?_
        refine w_if_ge (tgt := 73) C dX4_feel_62 (by rfl) (fun c_62 => ?_) (fun c_62 => ?_)
        · try simp only [cg_ge, cg_gt, cl_gt, cl_le, cl_eq, cl_lt, cl_ge, bi_eq0, bi_ne0, bI_eq0, Decidable.not_not, Bool.not_eq_false] at c_62
          refine w_dload_n C dX4_feel_73 (by rfl) ?_
          refine lc_X4_69 C dX4_feel_74 ?_
          refine w_dcmp C dX4_feel_77 ?_
          refine w_if_le (tgt := 93) C dX4_feel_78 (by rfl) (fun c_78 => ?_) (fun c_78 => ?_)
          · try simp only [cg_ge, cg_gt, cl_gt, cl_le, cl_eq, cl_lt, cl_ge, bi_eq0, bi_ne0, bI_eq0, Decidable.not_not, Bool.not_eq_false] at c_78
            refine w_iconst (v := 0) C dX4_feel_93 (by rfl) ?_
            refine w_istore_8 C dX4_feel_94 (by first | trivial | rfl) ?_
            exact sg_X4_feel_96 C hl hf h2 (by first | (simp [bI, sp_over, dlt, dgt, dge, dle, c_5, c_13, c_43, c_62, c_78]; done) | exact absurd (c_62.symm.trans c_78) (by decide)) hn M (fun h9 u9 => u9.to (by rw [feel_1 c_5 h1]))
          · try simp only [cg_ge, cg_gt, cl_gt, cl_le, cl_eq, cl_lt, cl_ge, bi_eq0, bi_ne0, bI_eq0, Decidable.not_not, Bool.not_eq_false] at c_78
            refine w_dload_n C dX4_feel_81 (by rfl) ?_
            refine lc_X4_69 C dX4_feel_82 ?_
            refine w_dcmp C dX4_feel_85 ?_
            refine w_if_gt (tgt := 93) C dX4_feel_86 (by rfl) (fun c_86 => ?_) (fun c_86 => ?_)
            · try simp only [cg_ge, cg_gt, cl_gt, cl_le, cl_eq, cl_lt, cl_ge, bi_eq0, bi_ne0, bI_eq0, Decidable.not_not, Bool.not_eq_false] at c_86
              refine w_iconst (v := 0) C dX4_feel_93 (by rfl) ?_
              refine w_istore_8 C dX4_feel_94 (by first | trivial | rfl) ?_
              exact sg_X4_feel_96 C hl hf h2 (by first | (simp [bI, sp_over, dlt, dgt, dge, dle, c_5, c_13, c_43, c_62, c_78, c_86]; done) | exact absurd (c_62.symm.trans c_78) (by decide)) hn M (fun h9 u9 => u9.to (by rw [feel_1 c_5 h1]))
            · try simp only [cg_ge, cg_gt, cl_gt, cl_le, cl_eq, cl_lt, cl_ge, bi_eq0, bi_ne0, bI_eq0, Decidable.not_not, Bool.not_eq_false] at c_86
              refine w_iconst (v := 1) C dX4_feel_89 (by rfl) ?_
              refine w_goto (tgt := 94) C dX4_feel_90 (by rfl) ?_
              refine w_istore_8 C dX4_feel_94 (by first | trivial | rfl) ?_
              exact sg_X4_feel_96 C hl hf h2 (by first | (simp [bI, sp_over, dlt, dgt, dge, dle, c_5, c_13, c_43, c_62, c_78, c_86]; done) | exact absurd (c_62.symm.trans c_78) (by decide)) hn M (fun h9 u9 => u9.to (by rw [feel_1 c_5 h1]))
        · try simp only [cg_ge, cg_gt, cl_gt, cl_le, cl_eq, cl_lt, cl_ge, bi_eq0, bi_ne0, bI_eq0, Decidable.not_not, Bool.not_eq_false] at c_62
          refine w_dload_n C dX4_feel_65 (by rfl) ?_
          refine lc_X4_69 C dX4_feel_66 ?_
          refine w_dcmp C dX4_feel_69 ?_
          refine w_if_ge (tgt := 89) C dX4_feel_70 (by rfl) (fun c_70 => ?_) (fun c_70 => ?_)
          · try simp only [cg_ge, cg_gt, cl_gt, cl_le, cl_eq, cl_lt, cl_ge, bi_eq0, bi_ne0, bI_eq0, Decidable.not_not, Bool.not_eq_false] at c_70
            refine w_iconst (v := 1) C dX4_feel_89 (by rfl) ?_
            refine w_goto (tgt := 94) C dX4_feel_90 (by rfl) ?_
            refine w_istore_8 C dX4_feel_94 (by first | trivial | rfl) ?_
            exact sg_X4_feel_96 C hl hf h2 (by first | (simp [bI, sp_over, dlt, dgt, dge, dle, c_5, c_13, c_43, c_62, c_70]; done) | exact absurd (c_62.symm.trans c_78) (by decide)) hn M (fun h9 u9 => u9.to (by rw [feel_1 c_5 h1]))
          · try simp only [cg_ge, cg_gt, cl_gt, cl_le, cl_eq, cl_lt, cl_ge, bi_eq0, bi_ne0, bI_eq0, Decidable.not_not, Bool.not_eq_false] at c_70
            refine w_dload_n C dX4_feel_73 (by rfl) ?_
            refine lc_X4_69 C dX4_feel_74 ?_
            refine w_dcmp C dX4_feel_77 ?_
            refine w_if_le (tgt := 93) C dX4_feel_78 (by rfl) (fun c_78 => ?_) (fun c_78 => ?_)
            · try simp only [cg_ge, cg_gt, cl_gt, cl_le, cl_eq, cl_lt, cl_ge, bi_eq0, bi_ne0, bI_eq0, Decidable.not_not, Bool.not_eq_false] at c_78
              refine w_iconst (v := 0) C dX4_feel_93 (by rfl) ?_
              refine w_istore_8 C dX4_feel_94 (by first | trivial | rfl) ?_
              exact sg_X4_feel_96 C hl hf h2 (by first | (simp [bI, sp_over, dlt, dgt, dge, dle, c_5, c_13, c_43, c_62, c_70, c_78]; done) | exact absurd (c_62.symm.trans c_78) (by decide)) hn M (fun h9 u9 => u9.to (by rw [feel_1 c_5 h1]))
            · try simp only [cg_ge, cg_gt, cl_gt, cl_le, cl_eq, cl_lt, cl_ge, bi_eq0, bi_ne0, bI_eq0, Decidable.not_not, Bool.not_eq_false] at c_78
              refine w_dload_n C dX4_feel_81 (by rfl) ?_
              refine lc_X4_69 C dX4_feel_82 ?_
              refine w_dcmp C dX4_feel_85 ?_
              refine w_if_gt (tgt := 93) C dX4_feel_86 (by rfl) (fun c_86 => ?_) (fun c_86 => ?_)
              · try simp only [cg_ge, cg_gt, cl_gt, cl_le, cl_eq, cl_lt, cl_ge, bi_eq0, bi_ne0, bI_eq0, Decidable.not_not, Bool.not_eq_false] at c_86
                refine w_iconst (v := 0) C dX4_feel_93 (by rfl) ?_
                refine w_istore_8 C dX4_feel_94 (by first | trivial | rfl) ?_
                exact sg_X4_feel_96 C hl hf h2 (by first | (simp [bI, sp_over, dlt, dgt, dge, dle, c_5, c_13, c_43, c_62, c_70, c_78, c_86]; done) | exact absurd (c_62.symm.trans c_78) (by decide)) hn M (fun h9 u9 => u9.to (by rw [feel_1 c_5 h1]))
              · try simp only [cg_ge, cg_gt, cl_gt, cl_le, cl_eq, cl_lt, cl_ge, bi_eq0, bi_ne0, bI_eq0, Decidable.not_not, Bool.not_eq_false] at c_86
                refine w_iconst (v := 1) C dX4_feel_89 (by rfl) ?_
                refine w_goto (tgt := 94) C dX4_feel_90 (by rfl) ?_
                refine w_istore_8 C dX4_feel_94 (by first | trivial | rfl) ?_
                exact sg_X4_feel_96 C hl hf h2 (by first | (simp [bI, sp_over, dlt, dgt, dge, dle, c_5, c_13, c_43, c_62, c_70, c_78, c_86]; done) | exact absurd (c_62.symm.trans c_78) (by decide)) hn M (fun h9 u9 => u9.to (by rw [feel_1 c_5 h1]))
      · try simp only [cg_ge, cg_gt, cl_gt, cl_le, cl_eq, cl_lt, cl_ge, bi_eq0, bi_ne0, bI_eq0, Decidable.not_not, Bool.not_eq_false] at c_43
        refine w_dload_n C dX4_feel_46 (by rfl) ?_
        refine w_dload_n C dX4_feel_47 (by rfl) ?_
        refine w_dsub C dX4_feel_48 (nn_of (dsub_n ho.n hh)) ?_
        refine w_goto (tgt := 55) C dX4_feel_49 (by rfl) ?_
        refine w_dstore_6 C dX4_feel_55 (by first | trivial | rfl) ?_
        have h2 : _ = sp_change old hot := (if_pos c_43).symm
        refine w_dload_n C dX4_feel_57 (by rfl) ?_
        refine lc_X4_69 C dX4_feel_58 ?_
        refine w_dcmp C dX4_feel_61 ?_
        refine w_if_ge (tgt := 73) C dX4_feel_62 (by rfl) (fun c_62 => ?_) (fun c_62 => ?_)
        · try simp only [cg_ge, cg_gt, cl_gt, cl_le, cl_eq, cl_lt, cl_ge, bi_eq0, bi_ne0, bI_eq0, Decidable.not_not, Bool.not_eq_false] at c_62
          refine w_dload_n C dX4_feel_73 (by rfl) ?_
          refine lc_X4_69 C dX4_feel_74 ?_
          refine w_dcmp C dX4_feel_77 ?_
          refine w_if_le (tgt := 93) C dX4_feel_78 (by rfl) (fun c_78 => ?_) (fun c_78 => ?_)
          · try simp only [cg_ge, cg_gt, cl_gt, cl_le, cl_eq, cl_lt, cl_ge, bi_eq0, bi_ne0, bI_eq0, Decidable.not_not, Bool.not_eq_false] at c_78
            refine w_iconst (v := 0) C dX4_feel_93 (by rfl) ?_
            refine w_istore_8 C dX4_feel_94 (by first | trivial | rfl) ?_
            exact sg_X4_feel_96 C hl hf h2 (by first | (simp [bI, sp_over, dlt, dgt, dge, dle, c_5, c_13, c_43, c_62, c_78]; done) | exact absurd (c_62.symm.trans c_78) (by decide)) hn M (fun h9 u9 => u9.to (by rw [feel_1 c_5 h1]))
          · try simp only [cg_ge, cg_gt, cl_gt, cl_le, cl_eq, cl_lt, cl_ge, bi_eq0, bi_ne0, bI_eq0, Decidable.not_not, Bool.not_eq_false] at c_78
            refine w_dload_n C dX4_feel_81 (by rfl) ?_
            refine lc_X4_69 C dX4_feel_82 ?_
            refine w_dcmp C dX4_feel_85 ?_
            refine w_if_gt (tgt := 93) C dX4_feel_86 (by rfl) (fun c_86 => ?_) (fun c_86 => ?_)
            · try simp only [cg_ge, cg_gt, cl_gt, cl_le, cl_eq, cl_lt, cl_ge, bi_eq0, bi_ne0, bI_eq0, Decidable.not_not, Bool.not_eq_false] at c_86
              refine w_iconst (v := 0) C dX4_feel_93 (by rfl) ?_
              refine w_istore_8 C dX4_feel_94 (by first | trivial | rfl) ?_
              exact sg_X4_feel_96 C hl hf h2 (by first | (simp [bI, sp_over, dlt, dgt, dge, dle, c_5, c_13, c_43, c_62, c_78, c_86]; done) | exact absurd (c_62.symm.trans c_78) (by decide)) hn M (fun h9 u9 => u9.to (by rw [feel_1 c_5 h1]))
            · try simp only [cg_ge, cg_gt, cl_gt, cl_le, cl_eq, cl_lt, cl_ge, bi_eq0, bi_ne0, bI_eq0, Decidable.not_not, Bool.not_eq_false] at c_86
              refine w_iconst (v := 1) C dX4_feel_89 (by rfl) ?_
              refine w_goto (tgt := 94) C dX4_feel_90 (by rfl) ?_
              refine w_istore_8 C dX4_feel_94 (by first | trivial | rfl) ?_
              exact sg_X4_feel_96 C hl hf h2 (by first | (simp [bI, sp_over, dlt, dgt, dge, dle, c_5, c_13, c_43, c_62, c_78, c_86]; done) | exact absurd (c_62.symm.trans c_78) (by decide)) hn M (fun h9 u9 => u9.to (by rw [feel_1 c_5 h1]))
        · try simp only [cg_ge, cg_gt, cl_gt, cl_le, cl_eq, cl_lt, cl_ge, bi_eq0, bi_ne0, bI_eq0, Decidable.not_not, Bool.not_eq_false] at c_62
          refine w_dload_n C dX4_feel_65 (by rfl) ?_
          refine lc_X4_69 C dX4_feel_66 ?_
          refine w_dcmp C dX4_feel_69 ?_
          refine w_if_ge (tgt := 89) C dX4_feel_70 (by rfl) (fun c_70 => ?_) (fun c_70 => ?_)
          · try simp only [cg_ge, cg_gt, cl_gt, cl_le, cl_eq, cl_lt, cl_ge, bi_eq0, bi_ne0, bI_eq0, Decidable.not_not, Bool.not_eq_false] at c_70
            refine w_iconst (v := 1) C dX4_feel_89 (by rfl) ?_
            refine w_goto (tgt := 94) C dX4_feel_90 (by rfl) ?_
            refine w_istore_8 C dX4_feel_94 (by first | trivial | rfl) ?_
            exact sg_X4_feel_96 C hl hf h2 (by first | (simp [bI, sp_over, dlt, dgt, dge, dle, c_5, c_13, c_43, c_62, c_70]; done) | exact absurd (c_62.symm.trans c_78) (by decide)) hn M (fun h9 u9 => u9.to (by rw [feel_1 c_5 h1]))
          · try simp only [cg_ge, cg_gt, cl_gt, cl_le, cl_eq, cl_lt, cl_ge, bi_eq0, bi_ne0, bI_eq0, Decidable.not_not, Bool.not_eq_false] at c_70
            refine w_dload_n C dX4_feel_73 (by rfl) ?_
            refine lc_X4_69 C dX4_feel_74 ?_
            refine w_dcmp C dX4_feel_77 ?_
            refine w_if_le (tgt := 93) C dX4_feel_78 (by rfl) (fun c_78 => ?_) (fun c_78 => ?_)
            · try simp only [cg_ge, cg_gt, cl_gt, cl_le, cl_eq, cl_lt, cl_ge, bi_eq0, bi_ne0, bI_eq0, Decidable.not_not, Bool.not_eq_false] at c_78
              refine w_iconst (v := 0) C dX4_feel_93 (by rfl) ?_
              refine w_istore_8 C dX4_feel_94 (by first | trivial | rfl) ?_
              exact sg_X4_feel_96 C hl hf h2 (by first | (simp [bI, sp_over, dlt, dgt, dge, dle, c_5, c_13, c_43, c_62, c_70, c_78]; done) | exact absurd (c_62.symm.trans c_78) (by decide)) hn M (fun h9 u9 => u9.to (by rw [feel_1 c_5 h1]))
            · try simp only [cg_ge, cg_gt, cl_gt, cl_le, cl_eq, cl_lt, cl_ge, bi_eq0, bi_ne0, bI_eq0, Decidable.not_not, Bool.not_eq_false] at c_78
              refine w_dload_n C dX4_feel_81 (by rfl) ?_
              refine lc_X4_69 C dX4_feel_82 ?_
              refine w_dcmp C dX4_feel_85 ?_
              refine w_if_gt (tgt := 93) C dX4_feel_86 (by rfl) (fun c_86 => ?_) (fun c_86 => ?_)
              · try simp only [cg_ge, cg_gt, cl_gt, cl_le, cl_eq, cl_lt, cl_ge, bi_eq0, bi_ne0, bI_eq0, Decidable.not_not, Bool.not_eq_false] at c_86
                refine w_iconst (v := 0) C dX4_feel_93 (by rfl) ?_
                refine w_istore_8 C dX4_feel_94 (by first | trivial | rfl) ?_
                exact sg_X4_feel_96 C hl hf h2 (by first | (simp [bI, sp_over, dlt, dgt, dge, dle, c_5, c_13, c_43, c_62, c_70, c_78, c_86]; done) | exact absurd (c_62.symm.trans c_78) (by decide)) hn M (fun h9 u9 => u9.to (by rw [feel_1 c_5 h1]))
              · try simp only [cg_ge, cg_gt, cl_gt, cl_le, cl_eq, cl_lt, cl_ge, bi_eq0, bi_ne0, bI_eq0, Decidable.not_not, Bool.not_eq_false] at c_86
                refine w_iconst (v := 1) C dX4_feel_89 (by rfl) ?_
                refine w_goto (tgt := 94) C dX4_feel_90 (by rfl) ?_
                refine w_istore_8 C dX4_feel_94 (by first | trivial | rfl) ?_
                exact sg_X4_feel_96 C hl hf h2 (by first | (simp [bI, sp_over, dlt, dgt, dge, dle, c_5, c_13, c_43, c_62, c_70, c_78, c_86]; done) | exact absurd (c_62.symm.trans c_78) (by decide)) hn M (fun h9 u9 => u9.to (by rw [feel_1 c_5 h1]))
    · try simp only [cg_ge, cg_gt, cl_gt, cl_le, cl_eq, cl_lt, cl_ge, bi_eq0, bi_ne0, bI_eq0, Decidable.not_not, Bool.not_eq_false] at c_13
      refine w_dload_n C dX4_feel_16 (by rfl) ?_
      refine lc_X4_67 C dX4_feel_17 ?_
      refine w_dcmp C dX4_feel_20 ?_
      refine w_if_le (tgt := 40) C dX4_feel_21 (by rfl) (fun c_21 => ?_) (fun c_21 => ?_)
      · try simp only [cg_ge, cg_gt, cl_gt, cl_le, cl_eq, cl_lt, cl_ge, bi_eq0, bi_ne0, bI_eq0, Decidable.not_not, Bool.not_eq_false] at c_21
        have h1 : ¬ (qSt q = 0 ∧ dgt hot 4636737291354636288) := fun w => c_21 w.2
        refine w_dload_n C dX4_feel_40 (by rfl) ?_
        refine w_dload_n C dX4_feel_41 (by rfl) ?_
        refine w_dcmp C dX4_feel_42 ?_
        refine w_if_ge (tgt := 52) C dX4_feel_43 (by rfl) (fun c_43 => ?_) (fun c_43 => ?_)
        · try simp only [cg_ge, cg_gt, cl_gt, cl_le, cl_eq, cl_lt, cl_ge, bi_eq0, bi_ne0, bI_eq0, Decidable.not_not, Bool.not_eq_false] at c_43
          refine w_dload_n C dX4_feel_52 (by rfl) ?_
          refine w_dload_n C dX4_feel_53 (by rfl) ?_
          refine w_dsub C dX4_feel_54 (nn_of (dsub_n hh.n ho)) ?_
          refine w_dstore_6 C dX4_feel_55 (by first | trivial | rfl) ?_
          have h2 : _ = sp_change old hot := (if_neg c_43).symm
          refine w_dload_n C dX4_feel_57 (by rfl) ?_
          refine lc_X4_69 C dX4_feel_58 ?_
          refine w_dcmp C dX4_feel_61 ?_
          refine w_if_ge (tgt := 73) C dX4_feel_62 (by rfl) (fun c_62 => ?_) (fun c_62 => ?_)
          · try simp only [cg_ge, cg_gt, cl_gt, cl_le, cl_eq, cl_lt, cl_ge, bi_eq0, bi_ne0, bI_eq0, Decidable.not_not, Bool.not_eq_false] at c_62
            refine w_dload_n C dX4_feel_73 (by rfl) ?_
            refine lc_X4_69 C dX4_feel_74 ?_
            refine w_dcmp C dX4_feel_77 ?_
            refine w_if_le (tgt := 93) C dX4_feel_78 (by rfl) (fun c_78 => ?_) (fun c_78 => ?_)
            · try simp only [cg_ge, cg_gt, cl_gt, cl_le, cl_eq, cl_lt, cl_ge, bi_eq0, bi_ne0, bI_eq0, Decidable.not_not, Bool.not_eq_false] at c_78
              refine w_iconst (v := 0) C dX4_feel_93 (by rfl) ?_
              refine w_istore_8 C dX4_feel_94 (by first | trivial | rfl) ?_
              exact sg_X4_feel_96 C hl hf h2 (by first | (simp [bI, sp_over, dlt, dgt, dge, dle, c_5, c_13, c_21, c_43, c_62, c_78]; done) | exact absurd (c_62.symm.trans c_78) (by decide)) hn M (fun h9 u9 => u9.to (by rw [feel_1 c_5 h1]))
            · try simp only [cg_ge, cg_gt, cl_gt, cl_le, cl_eq, cl_lt, cl_ge, bi_eq0, bi_ne0, bI_eq0, Decidable.not_not, Bool.not_eq_false] at c_78
              refine w_dload_n C dX4_feel_81 (by rfl) ?_
              refine lc_X4_69 C dX4_feel_82 ?_
              refine w_dcmp C dX4_feel_85 ?_
              refine w_if_gt (tgt := 93) C dX4_feel_86 (by rfl) (fun c_86 => ?_) (fun c_86 => ?_)
              · try simp only [cg_ge, cg_gt, cl_gt, cl_le, cl_eq, cl_lt, cl_ge, bi_eq0, bi_ne0, bI_eq0, Decidable.not_not, Bool.not_eq_false] at c_86
                refine w_iconst (v := 0) C dX4_feel_93 (by rfl) ?_
                refine w_istore_8 C dX4_feel_94 (by first | trivial | rfl) ?_
                exact sg_X4_feel_96 C hl hf h2 (by first | (simp [bI, sp_over, dlt, dgt, dge, dle, c_5, c_13, c_21, c_43, c_62, c_78, c_86]; done) | exact absurd (c_62.symm.trans c_78) (by decide)) hn M (fun h9 u9 => u9.to (by rw [feel_1 c_5 h1]))
              · try simp only [cg_ge, cg_gt, cl_gt, cl_le, cl_eq, cl_lt, cl_ge, bi_eq0, bi_ne0, bI_eq0, Decidable.not_not, Bool.not_eq_false] at c_86
                refine w_iconst (v := 1) C dX4_feel_89 (by rfl) ?_
                refine w_goto (tgt := 94) C dX4_feel_90 (by rfl) ?_
                refine w_istore_8 C dX4_feel_94 (by first | trivial | rfl) ?_
                exact sg_X4_feel_96 C hl hf h2 (by first | (simp [bI, sp_over, dlt, dgt, dge, dle, c_5, c_13, c_21, c_43, c_62, c_78, c_86]; done) | exact absurd (c_62.symm.trans c_78) (by decide)) hn M (fun h9 u9 => u9.to (by rw [feel_1 c_5 h1]))
          · try simp only [cg_ge, cg_gt, cl_gt, cl_le, cl_eq, cl_lt, cl_ge, bi_eq0, bi_ne0, bI_eq0, Decidable.not_not, Bool.not_eq_false] at c_62
            refine w_dload_n C dX4_feel_65 (by rfl) ?_
            refine lc_X4_69 C dX4_feel_66 ?_
            refine w_dcmp C dX4_feel_69 ?_
            refine w_if_ge (tgt := 89) C dX4_feel_70 (by rfl) (fun c_70 => ?_) (fun c_70 => ?_)
            · try simp only [cg_ge, cg_gt, cl_gt, cl_le, cl_eq, cl_lt, cl_ge, bi_eq0, bi_ne0, bI_eq0, Decidable.not_not, Bool.not_eq_false] at c_70
              refine w_iconst (v := 1) C dX4_feel_89 (by rfl) ?_
              refine w_goto (tgt := 94) C dX4_feel_90 (by rfl) ?_
              refine w_istore_8 C dX4_feel_94 (by first | trivial | rfl) ?_
              exact sg_X4_feel_96 C hl hf h2 (by first | (simp [bI, sp_over, dlt, dgt, dge, dle, c_5, c_13, c_21, c_43, c_62, c_70]; done) | exact absurd (c_62.symm.trans c_78) (by decide)) hn M (fun h9 u9 => u9.to (by rw [feel_1 c_5 h1]))
            · try simp only [cg_ge, cg_gt, cl_gt, cl_le, cl_eq, cl_lt, cl_ge, bi_eq0, bi_ne0, bI_eq0, Decidable.not_not, Bool.not_eq_false] at c_70
              refine w_dload_n C dX4_feel_73 (by rfl) ?_
              refine lc_X4_69 C dX4_feel_74 ?_
              refine w_dcmp C dX4_feel_77 ?_
              refine w_if_le (tgt := 93) C dX4_feel_78 (by rfl) (fun c_78 => ?_) (fun c_78 => ?_)
              · try simp only [cg_ge, cg_gt, cl_gt, cl_le, cl_eq, cl_lt, cl_ge, bi_eq0, bi_ne0, bI_eq0, Decidable.not_not, Bool.not_eq_false] at c_78
                refine w_iconst (v := 0) C dX4_feel_93 (by rfl) ?_
                refine w_istore_8 C dX4_feel_94 (by first | trivial | rfl) ?_
                exact sg_X4_feel_96 C hl hf h2 (by first | (simp [bI, sp_over, dlt, dgt, dge, dle, c_5, c_13, c_21, c_43, c_62, c_70, c_78]; done) | exact absurd (c_62.symm.trans c_78) (by decide)) hn M (fun h9 u9 => u9.to (by rw [feel_1 c_5 h1]))
              · try simp only [cg_ge, cg_gt, cl_gt, cl_le, cl_eq, cl_lt, cl_ge, bi_eq0, bi_ne0, bI_eq0, Decidable.not_not, Bool.not_eq_false] at c_78
                refine w_dload_n C dX4_feel_81 (by rfl) ?_
                refine lc_X4_69 C dX4_feel_82 ?_
                refine w_dcmp C dX4_feel_85 ?_
                refine w_if_gt (tgt := 93) C dX4_feel_86 (by rfl) (fun c_86 => ?_) (fun c_86 => ?_)
                · try simp only [cg_ge, cg_gt, cl_gt, cl_le, cl_eq, cl_lt, cl_ge, bi_eq0, bi_ne0, bI_eq0, Decidable.not_not, Bool.not_eq_false] at c_86
                  refine w_iconst (v := 0) C dX4_feel_93 (by rfl) ?_
                  refine w_istore_8 C dX4_feel_94 (by first | trivial | rfl) ?_
                  exact sg_X4_feel_96 C hl hf h2 (by first | (simp [bI, sp_over, dlt, dgt, dge, dle, c_5, c_13, c_21, c_43, c_62, c_70, c_78, c_86]; done) | exact absurd (c_62.symm.trans c_78) (by decide)) hn M (fun h9 u9 => u9.to (by rw [feel_1 c_5 h1]))
                · try simp only [cg_ge, cg_gt, cl_gt, cl_le, cl_eq, cl_lt, cl_ge, bi_eq0, bi_ne0, bI_eq0, Decidable.not_not, Bool.not_eq_false] at c_86
                  refine w_iconst (v := 1) C dX4_feel_89 (by rfl) ?_
                  refine w_goto (tgt := 94) C dX4_feel_90 (by rfl) ?_
                  refine w_istore_8 C dX4_feel_94 (by first | trivial | rfl) ?_
                  exact sg_X4_feel_96 C hl hf h2 (by first | (simp [bI, sp_over, dlt, dgt, dge, dle, c_5, c_13, c_21, c_43, c_62, c_70, c_78, c_86]; done) | exact absurd (c_62.symm.trans c_78) (by decide)) hn M (fun h9 u9 => u9.to (by rw [feel_1 c_5 h1]))
        · try simp only [cg_ge, cg_gt, cl_gt, cl_le, cl_eq, cl_lt, cl_ge, bi_eq0, bi_ne0, bI_eq0, Decidable.not_not, Bool.not_eq_false] at c_43
          refine w_dload_n C dX4_feel_46 (by rfl) ?_
          refine w_dload_n C dX4_feel_47 (by rfl) ?_
          refine w_dsub C dX4_feel_48 (nn_of (dsub_n ho.n hh)) ?_
          refine w_goto (tgt := 55) C dX4_feel_49 (by rfl) ?_
          refine w_dstore_6 C dX4_feel_55 (by first | trivial | rfl) ?_
          have h2 : _ = sp_change old hot := (if_pos c_43).symm
          refine w_dload_n C dX4_feel_57 (by rfl) ?_
          refine lc_X4_69 C dX4_feel_58 ?_
          refine w_dcmp C dX4_feel_61 ?_
          refine w_if_ge (tgt := 73) C dX4_feel_62 (by rfl) (fun c_62 => ?_) (fun c_62 => ?_)
          · try simp only [cg_ge, cg_gt, cl_gt, cl_le, cl_eq, cl_lt, cl_ge, bi_eq0, bi_ne0, bI_eq0, Decidable.not_not, Bool.not_eq_false] at c_62
            refine w_dload_n C dX4_feel_73 (by rfl) ?_
            refine lc_X4_69 C dX4_feel_74 ?_
            refine w_dcmp C dX4_feel_77 ?_
            refine w_if_le (tgt := 93) C dX4_feel_78 (by rfl) (fun c_78 => ?_) (fun c_78 => ?_)
            · try simp only [cg_ge, cg_gt, cl_gt, cl_le, cl_eq, cl_lt, cl_ge, bi_eq0, bi_ne0, bI_eq0, Decidable.not_not, Bool.not_eq_false] at c_78
              refine w_iconst (v := 0) C dX4_feel_93 (by rfl) ?_
              refine w_istore_8 C dX4_feel_94 (by first | trivial | rfl) ?_
              exact sg_X4_feel_96 C hl hf h2 (by first | (simp [bI, sp_over, dlt, dgt, dge, dle, c_5, c_13, c_21, c_43, c_62, c_78]; done) | exact absurd (c_62.symm.trans c_78) (by decide)) hn M (fun h9 u9 => u9.to (by rw [feel_1 c_5 h1]))
            · try simp only [cg_ge, cg_gt, cl_gt, cl_le, cl_eq, cl_lt, cl_ge, bi_eq0, bi_ne0, bI_eq0, Decidable.not_not, Bool.not_eq_false] at c_78
              refine w_dload_n C dX4_feel_81 (by rfl) ?_
              refine lc_X4_69 C dX4_feel_82 ?_
              refine w_dcmp C dX4_feel_85 ?_
              refine w_if_gt (tgt := 93) C dX4_feel_86 (by rfl) (fun c_86 => ?_) (fun c_86 => ?_)
              · try simp only [cg_ge, cg_gt, cl_gt, cl_le, cl_eq, cl_lt, cl_ge, bi_eq0, bi_ne0, bI_eq0, Decidable.not_not, Bool.not_eq_false] at c_86
                refine w_iconst (v := 0) C dX4_feel_93 (by rfl) ?_
                refine w_istore_8 C dX4_feel_94 (by first | trivial | rfl) ?_
                exact sg_X4_feel_96 C hl hf h2 (by first | (simp [bI, sp_over, dlt, dgt, dge, dle, c_5, c_13, c_21, c_43, c_62, c_78, c_86]; done) | exact absurd (c_62.symm.trans c_78) (by decide)) hn M (fun h9 u9 => u9.to (by rw [feel_1 c_5 h1]))
              · try simp only [cg_ge, cg_gt, cl_gt, cl_le, cl_eq, cl_lt, cl_ge, bi_eq0, bi_ne0, bI_eq0, Decidable.not_not, Bool.not_eq_false] at c_86
                refine w_iconst (v := 1) C dX4_feel_89 (by rfl) ?_
                refine w_goto (tgt := 94) C dX4_feel_90 (by rfl) ?_
                refine w_istore_8 C dX4_feel_94 (by first | trivial | rfl) ?_
                exact sg_X4_feel_96 C hl hf h2 (by first | (simp [bI, sp_over, dlt, dgt, dge, dle, c_5, c_13, c_21, c_43, c_62, c_78, c_86]; done) | exact absurd (c_62.symm.trans c_78) (by decide)) hn M (fun h9 u9 => u9.to (by rw [feel_1 c_5 h1]))
          · try simp only [cg_ge, cg_gt, cl_gt, cl_le, cl_eq, cl_lt, cl_ge, bi_eq0, bi_ne0, bI_eq0, Decidable.not_not, Bool.not_eq_false] at c_62
            refine w_dload_n C dX4_feel_65 (by rfl) ?_
            refine lc_X4_69 C dX4_feel_66 ?_
            refine w_dcmp C dX4_feel_69 ?_
            refine w_if_ge (tgt := 89) C dX4_feel_70 (by rfl) (fun c_70 => ?_) (fun c_70 => ?_)
            · try simp only [cg_ge, cg_gt, cl_gt, cl_le, cl_eq, cl_lt, cl_ge, bi_eq0, bi_ne0, bI_eq0, Decidable.not_not, Bool.not_eq_false] at c_70
              refine w_iconst (v := 1) C dX4_feel_89 (by rfl) ?_
              refine w_goto (tgt := 94) C dX4_feel_90 (by rfl) ?_
              refine w_istore_8 C dX4_feel_94 (by first | trivial | rfl) ?_
              exact sg_X4_feel_96 C hl hf h2 (by first | (simp [bI, sp_over, dlt, dgt, dge, dle, c_5, c_13, c_21, c_43, c_62, c_70]; done) | exact absurd (c_62.symm.trans c_78) (by decide)) hn M (fun h9 u9 => u9.to (by rw [feel_1 c_5 h1]))
            · try simp only [cg_ge, cg_gt, cl_gt, cl_le, cl_eq, cl_lt, cl_ge, bi_eq0, bi_ne0, bI_eq0, Decidable.not_not, Bool.not_eq_false] at c_70
              refine w_dload_n C dX4_feel_73 (by rfl) ?_
              refine lc_X4_69 C dX4_feel_74 ?_
              refine w_dcmp C dX4_feel_77 ?_
              refine w_if_le (tgt := 93) C dX4_feel_78 (by rfl) (fun c_78 => ?_) (fun c_78 => ?_)
              · try simp only [cg_ge, cg_gt, cl_gt, cl_le, cl_eq, cl_lt, cl_ge, bi_eq0, bi_ne0, bI_eq0, Decidable.not_not, Bool.not_eq_false] at c_78
                refine w_iconst (v := 0) C dX4_feel_93 (by rfl) ?_
                refine w_istore_8 C dX4_feel_94 (by first | trivial | rfl) ?_
                exact sg_X4_feel_96 C hl hf h2 (by first | (simp [bI, sp_over, dlt, dgt, dge, dle, c_5, c_13, c_21, c_43, c_62, c_70, c_78]; done) | exact absurd (c_62.symm.trans c_78) (by decide)) hn M (fun h9 u9 => u9.to (by rw [feel_1 c_5 h1]))
              · try simp only [cg_ge, cg_gt, cl_gt, cl_le, cl_eq, cl_lt, cl_ge, bi_eq0, bi_ne0, bI_eq0, Decidable.not_not, Bool.not_eq_false] at c_78
                refine w_dload_n C dX4_feel_81 (by rfl) ?_
                refine lc_X4_69 C dX4_feel_82 ?_
                refine w_dcmp C dX4_feel_85 ?_
                refine w_if_gt (tgt := 93) C dX4_feel_86 (by rfl) (fun c_86 => ?_) (fun c_86 => ?_)
                · try simp only [cg_ge, cg_gt, cl_gt, cl_le, cl_eq, cl_lt, cl_ge, bi_eq0, bi_ne0, bI_eq0, Decidable.not_not, Bool.not_eq_false] at c_86
                  refine w_iconst (v := 0) C dX4_feel_93 (by rfl) ?_
                  refine w_istore_8 C dX4_feel_94 (by first | trivial | rfl) ?_
                  exact sg_X4_feel_96 C hl hf h2 (by first | (simp [bI, sp_over, dlt, dgt, dge, dle, c_5, c_13, c_21, c_43, c_62, c_70, c_78, c_86]; done) | exact absurd (c_62.symm.trans c_78) (by decide)) hn M (fun h9 u9 => u9.to (by rw [feel_1 c_5 h1]))
                · try simp only [cg_ge, cg_gt, cl_gt, cl_le, cl_eq, cl_lt, cl_ge, bi_eq0, bi_ne0, bI_eq0, Decidable.not_not, Bool.not_eq_false] at c_86
                  refine w_iconst (v := 1) C dX4_feel_89 (by rfl) ?_
                  refine w_goto (tgt := 94) C dX4_feel_90 (by rfl) ?_
                  refine w_istore_8 C dX4_feel_94 (by first | trivial | rfl) ?_
                  exact sg_X4_feel_96 C hl hf h2 (by first | (simp [bI, sp_over, dlt, dgt, dge, dle, c_5, c_13, c_21, c_43, c_62, c_70, c_78, c_86]; done) | exact absurd (c_62.symm.trans c_78) (by decide)) hn M (fun h9 u9 => u9.to (by rw [feel_1 c_5 h1]))
      · try simp only [cg_ge, cg_gt, cl_gt, cl_le, cl_eq, cl_lt, cl_ge, bi_eq0, bi_ne0, bI_eq0, Decidable.not_not, Bool.not_eq_false] at c_21
        first | refine w_aload_n C dX4_feel_24 (by rfl) ?_ | refine w_aload_nN C dX4_feel_24 (by rfl) ?_
        refine w_dup C dX4_feel_25 (by rfl) ?_
        refine gf_X4_31 C hf dX4_feel_26 ?_
        refine w_iconst (v := 1) C dX4_feel_29 (by rfl) ?_
        refine w_ior C dX4_feel_30 ?_
        refine pf_X4_31 C hf dX4_feel_31 (fun h1 u1 => ?_)
        have hf := u1.self
        first | refine w_aload_n C dX4_feel_34 (by rfl) ?_ | refine w_aload_nN C dX4_feel_34 (by rfl) ?_
        refine w_iconst (v := 5) C dX4_feel_35 (by rfl) ?_
        refine pf_X4_15 C hf dX4_feel_36 (fun h2 u2 => ?_)
        have hf := u2.self
        refine w_vret C M dX4_feel_39 ⟨by decide, by decide⟩ ⟨rfl, ?_⟩
        exact (u1.tr u2).to (by rw [feel_0 c_5 c_13 c_21])
  · refine w_vret C M dX4_feel_8 ⟨by decide, by decide⟩ ⟨rfl, ?_⟩
    rw [feel_5 c_5]
    exact (hu_id hf).symm

set_option maxHeartbeats 4000000 in
set_option maxRecDepth 100000 in
theorem m_X1_silicaToAlumina {l : Launch} {D : va_G} {tc : Nat → ClassId} (hl : l.stackTraces = false) {h : HM} {a i : Nat} {al si fe me : Int32} {gr : UInt64} (hf : h a = some (gCell i al si fe me gr)) (hn : ¬ al = 0 → vf_n64 (FP.ddiv (FP.i2d si) (FP.i2d al))) :
    CT l D tc yX1_silicaToAlumina cX1_silicaToAlumina 1 (some FieldType.double) rm_X1_silicaToAlumina [.ref a] h (rD (fun z h' => h' = h ∧ z = if al = 0 then 4636666922610458624 else FP.ddiv (FP.i2d si) (FP.i2d al))) := by
  refine CT.start [some (.ref a)] (by decide) hl rfl rfl (fun K C M => ?_)
  obtain ⟨rfl, rfl, rfl, -⟩ := id M
  have C : CX K RX1 cX1_silicaToAlumina 1 rm_X1_silicaToAlumina := C
  first | refine w_aload_n C dX1_silicaToAlumina_0 (by rfl) ?_ | refine w_aload_nN C dX1_silicaToAlumina_0 (by rfl) ?_
  refine gf_X1_15 C hf dX1_silicaToAlumina_1 ?_
  refine w_if_ne (tgt := 13) C dX1_silicaToAlumina_4 (by rfl) (fun c_4 => ?_) (fun c_4 => ?_)
  · try simp only [cg_ge, cg_gt, cl_gt, cl_le, cl_eq, cl_lt, cl_ge, bi_eq0, bi_ne0, bI_eq0, Decidable.not_not, Bool.not_eq_false] at c_4
    first | refine w_aload_n C dX1_silicaToAlumina_13 (by rfl) ?_ | refine w_aload_nN C dX1_silicaToAlumina_13 (by rfl) ?_
    refine gf_X1_18 C hf dX1_silicaToAlumina_14 ?_
    refine w_i2d C dX1_silicaToAlumina_17 ?_
    first | refine w_aload_n C dX1_silicaToAlumina_18 (by rfl) ?_ | refine w_aload_nN C dX1_silicaToAlumina_18 (by rfl) ?_
    refine gf_X1_15 C hf dX1_silicaToAlumina_19 ?_
    refine w_i2d C dX1_silicaToAlumina_22 ?_
    refine w_ddiv C dX1_silicaToAlumina_23 (hn c_4) ?_
    refine w_dret C M dX1_silicaToAlumina_24 ⟨by decide, by decide⟩ ⟨_, rfl, ?_⟩
    exact ⟨rfl, by simp only [c_4, if_true, if_false]⟩
  · try simp only [cg_ge, cg_gt, cl_gt, cl_le, cl_eq, cl_lt, cl_ge, bi_eq0, bi_ne0, bI_eq0, Decidable.not_not, Bool.not_eq_false] at c_4
    refine lc_X1_51 C dX1_silicaToAlumina_7 ?_
    refine w_goto (tgt := 24) C dX1_silicaToAlumina_10 (by rfl) ?_
    refine w_dret C M dX1_silicaToAlumina_24 ⟨by decide, by decide⟩ ⟨_, rfl, ?_⟩
    exact ⟨rfl, by simp only [c_4, if_true, if_false]⟩

set_option maxHeartbeats 4000000 in
set_option maxRecDepth 100000 in
theorem m_X1_marksOn {l : Launch} {D : va_G} {tc : Nat → ClassId} (hl : l.stackTraces = false) {h : HM} {a ka i : Nat} {al si fe me top cone : Int32} {gr kg : UInt64} (hf : h a = some (gCell i al si fe me gr)) (hk : h ka = some (cCell top kg)) (hn1 : vf_n64 (FP.dsub gr kg)) (hn2 : vf_n64 (FP.dsub kg gr)) :
    CT l D tc yX1_marksOn cX1_marksOn 4 (some FieldType.int) rm_X1_marksOn [.ref a, .ref ka, .int cone] h (rI (fun z h' => h' = h ∧ z = sp_marks me gr kg cone)) := by
  refine CT.start [some (.ref a), some (.ref ka), some (.int cone), none] (by decide) hl rfl rfl (fun K C M => ?_)
  obtain ⟨rfl, rfl, rfl, -⟩ := id M
  have C : CX K RX1 cX1_marksOn 4 rm_X1_marksOn := C
  refine w_iconst (v := 0) C dX1_marksOn_0 (by rfl) ?_
  refine w_istore_3 C dX1_marksOn_1 (by first | trivial | rfl) ?_
  refine w_iload_n C dX1_marksOn_2 (by rfl) ?_
  refine w_iload_n C dX1_marksOn_3 (by rfl) ?_
  first | refine w_aload_n C dX1_marksOn_4 (by rfl) ?_ | refine w_aload_nN C dX1_marksOn_4 (by rfl) ?_
  refine gf_X1_38 C hf dX1_marksOn_5 ?_
  refine w_icmp_ge (tgt := 16) C dX1_marksOn_8 (by rfl) (fun c_8 => ?_) (fun c_8 => ?_)
  · have c_8 : ¬ cone < me := Int32.not_lt.mpr c_8
    refine w_iconst (v := 0) C dX1_marksOn_16 (by rfl) ?_
    refine w_ior C dX1_marksOn_17 ?_
    refine w_istore_3 C dX1_marksOn_18 (by first | trivial | rfl) ?_
    refine w_iload_n C dX1_marksOn_19 (by rfl) ?_
    refine w_iload_n C dX1_marksOn_20 (by rfl) ?_
    first | refine w_aload_n C dX1_marksOn_21 (by rfl) ?_ | refine w_aload_nN C dX1_marksOn_21 (by rfl) ?_
    refine gf_X1_38 C hf dX1_marksOn_22 ?_
    refine w_iconst (v := 2) C dX1_marksOn_25 (by rfl) ?_
    refine w_iadd C dX1_marksOn_26 ?_
    refine w_icmp_le (tgt := 35) C dX1_marksOn_27 (by rfl) (fun c_27 => ?_) (fun c_27 => ?_)
    · have c_27 : ¬ me + 2 < cone := Int32.not_lt.mpr c_27
      refine w_iconst (v := 0) C dX1_marksOn_35 (by rfl) ?_
      refine w_ior C dX1_marksOn_36 ?_
      refine w_istore_3 C dX1_marksOn_37 (by first | trivial | rfl) ?_
      refine w_iload_n C dX1_marksOn_38 (by rfl) ?_
      first | refine w_aload_n C dX1_marksOn_39 (by rfl) ?_ | refine w_aload_nN C dX1_marksOn_39 (by rfl) ?_
      refine gf_X1_47 C hf dX1_marksOn_40 ?_
      first | refine w_aload_n C dX1_marksOn_43 (by rfl) ?_ | refine w_aload_nN C dX1_marksOn_43 (by rfl) ?_
      refine gf_X1_53 C hk dX1_marksOn_44 ?_
      refine w_dsub C dX1_marksOn_47 hn1 ?_
      refine lc_X1_45 C dX1_marksOn_48 ?_
      refine w_dcmp C dX1_marksOn_51 ?_
      refine w_if_le (tgt := 60) C dX1_marksOn_52 (by rfl) (fun c_52 => ?_) (fun c_52 => ?_)
      · try simp only [cg_ge, cg_gt, cl_gt, cl_le, cl_eq, cl_lt, cl_ge, bi_eq0, bi_ne0, bI_eq0, Decidable.not_not, Bool.not_eq_false] at c_52
        refine w_iconst (v := 0) C dX1_marksOn_60 (by rfl) ?_
        refine w_ior C dX1_marksOn_61 ?_
        refine w_istore_3 C dX1_marksOn_62 (by first | trivial | rfl) ?_
        refine w_iload_n C dX1_marksOn_63 (by rfl) ?_
        first | refine w_aload_n C dX1_marksOn_64 (by rfl) ?_ | refine w_aload_nN C dX1_marksOn_64 (by rfl) ?_
        refine gf_X1_53 C hk dX1_marksOn_65 ?_
        first | refine w_aload_n C dX1_marksOn_68 (by rfl) ?_ | refine w_aload_nN C dX1_marksOn_68 (by rfl) ?_
        refine gf_X1_47 C hf dX1_marksOn_69 ?_
        refine w_dsub C dX1_marksOn_72 hn2 ?_
        refine lc_X1_45 C dX1_marksOn_73 ?_
        refine w_dcmp C dX1_marksOn_76 ?_
        refine w_if_le (tgt := 85) C dX1_marksOn_77 (by rfl) (fun c_77 => ?_) (fun c_77 => ?_)
        · try simp only [cg_ge, cg_gt, cl_gt, cl_le, cl_eq, cl_lt, cl_ge, bi_eq0, bi_ne0, bI_eq0, Decidable.not_not, Bool.not_eq_false] at c_77
          refine w_iconst (v := 0) C dX1_marksOn_85 (by rfl) ?_
          refine w_ior C dX1_marksOn_86 ?_
          refine w_istore_3 C dX1_marksOn_87 (by first | trivial | rfl) ?_
          refine w_iload_n C dX1_marksOn_88 (by rfl) ?_
          refine w_iret C M dX1_marksOn_89 ⟨by decide, by decide⟩ ⟨_, rfl, ?_⟩
          exact ⟨rfl, by simp only [sp_marks, dlt, dgt, deq, dge, dle, kH, kP, kO, kL, kA, kE, kC, kF, kS, kW, c_8, c_27, c_52, c_77, if_true, if_false]⟩
        · try simp only [cg_ge, cg_gt, cl_gt, cl_le, cl_eq, cl_lt, cl_ge, bi_eq0, bi_ne0, bI_eq0, Decidable.not_not, Bool.not_eq_false] at c_77
          refine w_bipush (v := (64)) C dX1_marksOn_80 (by rfl) ?_
          refine w_goto (tgt := 86) C dX1_marksOn_82 (by rfl) ?_
          refine w_ior C dX1_marksOn_86 ?_
          refine w_istore_3 C dX1_marksOn_87 (by first | trivial | rfl) ?_
          refine w_iload_n C dX1_marksOn_88 (by rfl) ?_
          refine w_iret C M dX1_marksOn_89 ⟨by decide, by decide⟩ ⟨_, rfl, ?_⟩
          exact ⟨rfl, by simp only [sp_marks, dlt, dgt, deq, dge, dle, kH, kP, kO, kL, kA, kE, kC, kF, kS, kW, c_8, c_27, c_52, c_77, if_true, if_false]⟩
      · try simp only [cg_ge, cg_gt, cl_gt, cl_le, cl_eq, cl_lt, cl_ge, bi_eq0, bi_ne0, bI_eq0, Decidable.not_not, Bool.not_eq_false] at c_52
        refine w_bipush (v := (32)) C dX1_marksOn_55 (by rfl) ?_
        refine w_goto (tgt := 61) C dX1_marksOn_57 (by rfl) ?_
        refine w_ior C dX1_marksOn_61 ?_
        refine w_istore_3 C dX1_marksOn_62 (by first | trivial | rfl) ?_
        refine w_iload_n C dX1_marksOn_63 (by rfl) ?_
        first | refine w_aload_n C dX1_marksOn_64 (by rfl) ?_ | refine w_aload_nN C dX1_marksOn_64 (by rfl) ?_
        refine gf_X1_53 C hk dX1_marksOn_65 ?_
        first | refine w_aload_n C dX1_marksOn_68 (by rfl) ?_ | refine w_aload_nN C dX1_marksOn_68 (by rfl) ?_
        refine gf_X1_47 C hf dX1_marksOn_69 ?_
        refine w_dsub C dX1_marksOn_72 hn2 ?_
        refine lc_X1_45 C dX1_marksOn_73 ?_
        refine w_dcmp C dX1_marksOn_76 ?_
        refine w_if_le (tgt := 85) C dX1_marksOn_77 (by rfl) (fun c_77 => ?_) (fun c_77 => ?_)
        · try simp only [cg_ge, cg_gt, cl_gt, cl_le, cl_eq, cl_lt, cl_ge, bi_eq0, bi_ne0, bI_eq0, Decidable.not_not, Bool.not_eq_false] at c_77
          refine w_iconst (v := 0) C dX1_marksOn_85 (by rfl) ?_
          refine w_ior C dX1_marksOn_86 ?_
          refine w_istore_3 C dX1_marksOn_87 (by first | trivial | rfl) ?_
          refine w_iload_n C dX1_marksOn_88 (by rfl) ?_
          refine w_iret C M dX1_marksOn_89 ⟨by decide, by decide⟩ ⟨_, rfl, ?_⟩
          exact ⟨rfl, by simp only [sp_marks, dlt, dgt, deq, dge, dle, kH, kP, kO, kL, kA, kE, kC, kF, kS, kW, c_8, c_27, c_52, c_77, if_true, if_false]⟩
        · try simp only [cg_ge, cg_gt, cl_gt, cl_le, cl_eq, cl_lt, cl_ge, bi_eq0, bi_ne0, bI_eq0, Decidable.not_not, Bool.not_eq_false] at c_77
          refine w_bipush (v := (64)) C dX1_marksOn_80 (by rfl) ?_
          refine w_goto (tgt := 86) C dX1_marksOn_82 (by rfl) ?_
          refine w_ior C dX1_marksOn_86 ?_
          refine w_istore_3 C dX1_marksOn_87 (by first | trivial | rfl) ?_
          refine w_iload_n C dX1_marksOn_88 (by rfl) ?_
          refine w_iret C M dX1_marksOn_89 ⟨by decide, by decide⟩ ⟨_, rfl, ?_⟩
          exact ⟨rfl, by simp only [sp_marks, dlt, dgt, deq, dge, dle, kH, kP, kO, kL, kA, kE, kC, kF, kS, kW, c_8, c_27, c_52, c_77, if_true, if_false]⟩
    · have c_27 : me + 2 < cone := Int32.not_le.mp c_27
      refine w_bipush (v := (16)) C dX1_marksOn_30 (by rfl) ?_
      refine w_goto (tgt := 36) C dX1_marksOn_32 (by rfl) ?_
      refine w_ior C dX1_marksOn_36 ?_
      refine w_istore_3 C dX1_marksOn_37 (by first | trivial | rfl) ?_
      refine w_iload_n C dX1_marksOn_38 (by rfl) ?_
      first | refine w_aload_n C dX1_marksOn_39 (by rfl) ?_ | refine w_aload_nN C dX1_marksOn_39 (by rfl) ?_
      refine gf_X1_47 C hf dX1_marksOn_40 ?_
      first | refine w_aload_n C dX1_marksOn_43 (by rfl) ?_ | refine w_aload_nN C dX1_marksOn_43 (by rfl) ?_
      refine gf_X1_53 C hk dX1_marksOn_44 ?_
      refine w_dsub C dX1_marksOn_47 hn1 ?_
      refine lc_X1_45 C dX1_marksOn_48 ?_
      refine w_dcmp C dX1_marksOn_51 ?_
      refine w_if_le (tgt := 60) C dX1_marksOn_52 (by rfl) (fun c_52 => ?_) (fun c_52 => ?_)
      · try simp only [cg_ge, cg_gt, cl_gt, cl_le, cl_eq, cl_lt, cl_ge, bi_eq0, bi_ne0, bI_eq0, Decidable.not_not, Bool.not_eq_false] at c_52
        refine w_iconst (v := 0) C dX1_marksOn_60 (by rfl) ?_
        refine w_ior C dX1_marksOn_61 ?_
        refine w_istore_3 C dX1_marksOn_62 (by first | trivial | rfl) ?_
        refine w_iload_n C dX1_marksOn_63 (by rfl) ?_
        first | refine w_aload_n C dX1_marksOn_64 (by rfl) ?_ | refine w_aload_nN C dX1_marksOn_64 (by rfl) ?_
        refine gf_X1_53 C hk dX1_marksOn_65 ?_
        first | refine w_aload_n C dX1_marksOn_68 (by rfl) ?_ | refine w_aload_nN C dX1_marksOn_68 (by rfl) ?_
        refine gf_X1_47 C hf dX1_marksOn_69 ?_
        refine w_dsub C dX1_marksOn_72 hn2 ?_
        refine lc_X1_45 C dX1_marksOn_73 ?_
        refine w_dcmp C dX1_marksOn_76 ?_
        refine w_if_le (tgt := 85) C dX1_marksOn_77 (by rfl) (fun c_77 => ?_) (fun c_77 => ?_)
        · try simp only [cg_ge, cg_gt, cl_gt, cl_le, cl_eq, cl_lt, cl_ge, bi_eq0, bi_ne0, bI_eq0, Decidable.not_not, Bool.not_eq_false] at c_77
          refine w_iconst (v := 0) C dX1_marksOn_85 (by rfl) ?_
          refine w_ior C dX1_marksOn_86 ?_
          refine w_istore_3 C dX1_marksOn_87 (by first | trivial | rfl) ?_
          refine w_iload_n C dX1_marksOn_88 (by rfl) ?_
          refine w_iret C M dX1_marksOn_89 ⟨by decide, by decide⟩ ⟨_, rfl, ?_⟩
          exact ⟨rfl, by simp only [sp_marks, dlt, dgt, deq, dge, dle, kH, kP, kO, kL, kA, kE, kC, kF, kS, kW, c_8, c_27, c_52, c_77, if_true, if_false]⟩
        · try simp only [cg_ge, cg_gt, cl_gt, cl_le, cl_eq, cl_lt, cl_ge, bi_eq0, bi_ne0, bI_eq0, Decidable.not_not, Bool.not_eq_false] at c_77
          refine w_bipush (v := (64)) C dX1_marksOn_80 (by rfl) ?_
          refine w_goto (tgt := 86) C dX1_marksOn_82 (by rfl) ?_
          refine w_ior C dX1_marksOn_86 ?_
          refine w_istore_3 C dX1_marksOn_87 (by first | trivial | rfl) ?_
          refine w_iload_n C dX1_marksOn_88 (by rfl) ?_
          refine w_iret C M dX1_marksOn_89 ⟨by decide, by decide⟩ ⟨_, rfl, ?_⟩
          exact ⟨rfl, by simp only [sp_marks, dlt, dgt, deq, dge, dle, kH, kP, kO, kL, kA, kE, kC, kF, kS, kW, c_8, c_27, c_52, c_77, if_true, if_false]⟩
      · try simp only [cg_ge, cg_gt, cl_gt, cl_le, cl_eq, cl_lt, cl_ge, bi_eq0, bi_ne0, bI_eq0, Decidable.not_not, Bool.not_eq_false] at c_52
        refine w_bipush (v := (32)) C dX1_marksOn_55 (by rfl) ?_
        refine w_goto (tgt := 61) C dX1_marksOn_57 (by rfl) ?_
        refine w_ior C dX1_marksOn_61 ?_
        refine w_istore_3 C dX1_marksOn_62 (by first | trivial | rfl) ?_
        refine w_iload_n C dX1_marksOn_63 (by rfl) ?_
        first | refine w_aload_n C dX1_marksOn_64 (by rfl) ?_ | refine w_aload_nN C dX1_marksOn_64 (by rfl) ?_
        refine gf_X1_53 C hk dX1_marksOn_65 ?_
        first | refine w_aload_n C dX1_marksOn_68 (by rfl) ?_ | refine w_aload_nN C dX1_marksOn_68 (by rfl) ?_
        refine gf_X1_47 C hf dX1_marksOn_69 ?_
        refine w_dsub C dX1_marksOn_72 hn2 ?_
        refine lc_X1_45 C dX1_marksOn_73 ?_
        refine w_dcmp C dX1_marksOn_76 ?_
        refine w_if_le (tgt := 85) C dX1_marksOn_77 (by rfl) (fun c_77 => ?_) (fun c_77 => ?_)
        · try simp only [cg_ge, cg_gt, cl_gt, cl_le, cl_eq, cl_lt, cl_ge, bi_eq0, bi_ne0, bI_eq0, Decidable.not_not, Bool.not_eq_false] at c_77
          refine w_iconst (v := 0) C dX1_marksOn_85 (by rfl) ?_
          refine w_ior C dX1_marksOn_86 ?_
          refine w_istore_3 C dX1_marksOn_87 (by first | trivial | rfl) ?_
          refine w_iload_n C dX1_marksOn_88 (by rfl) ?_
          refine w_iret C M dX1_marksOn_89 ⟨by decide, by decide⟩ ⟨_, rfl, ?_⟩
          exact ⟨rfl, by simp only [sp_marks, dlt, dgt, deq, dge, dle, kH, kP, kO, kL, kA, kE, kC, kF, kS, kW, c_8, c_27, c_52, c_77, if_true, if_false]⟩
        · try simp only [cg_ge, cg_gt, cl_gt, cl_le, cl_eq, cl_lt, cl_ge, bi_eq0, bi_ne0, bI_eq0, Decidable.not_not, Bool.not_eq_false] at c_77
          refine w_bipush (v := (64)) C dX1_marksOn_80 (by rfl) ?_
          refine w_goto (tgt := 86) C dX1_marksOn_82 (by rfl) ?_
          refine w_ior C dX1_marksOn_86 ?_
          refine w_istore_3 C dX1_marksOn_87 (by first | trivial | rfl) ?_
          refine w_iload_n C dX1_marksOn_88 (by rfl) ?_
          refine w_iret C M dX1_marksOn_89 ⟨by decide, by decide⟩ ⟨_, rfl, ?_⟩
          exact ⟨rfl, by simp only [sp_marks, dlt, dgt, deq, dge, dle, kH, kP, kO, kL, kA, kE, kC, kF, kS, kW, c_8, c_27, c_52, c_77, if_true, if_false]⟩
  · have c_8 : cone < me := Int32.not_le.mp c_8
    refine w_bipush (v := (8)) C dX1_marksOn_11 (by rfl) ?_
    refine w_goto (tgt := 17) C dX1_marksOn_13 (by rfl) ?_
    refine w_ior C dX1_marksOn_17 ?_
    refine w_istore_3 C dX1_marksOn_18 (by first | trivial | rfl) ?_
    refine w_iload_n C dX1_marksOn_19 (by rfl) ?_
    refine w_iload_n C dX1_marksOn_20 (by rfl) ?_
    first | refine w_aload_n C dX1_marksOn_21 (by rfl) ?_ | refine w_aload_nN C dX1_marksOn_21 (by rfl) ?_
    refine gf_X1_38 C hf dX1_marksOn_22 ?_
    refine w_iconst (v := 2) C dX1_marksOn_25 (by rfl) ?_
    refine w_iadd C dX1_marksOn_26 ?_
    refine w_icmp_le (tgt := 35) C dX1_marksOn_27 (by rfl) (fun c_27 => ?_) (fun c_27 => ?_)
    · have c_27 : ¬ me + 2 < cone := Int32.not_lt.mpr c_27
      refine w_iconst (v := 0) C dX1_marksOn_35 (by rfl) ?_
      refine w_ior C dX1_marksOn_36 ?_
      refine w_istore_3 C dX1_marksOn_37 (by first | trivial | rfl) ?_
      refine w_iload_n C dX1_marksOn_38 (by rfl) ?_
      first | refine w_aload_n C dX1_marksOn_39 (by rfl) ?_ | refine w_aload_nN C dX1_marksOn_39 (by rfl) ?_
      refine gf_X1_47 C hf dX1_marksOn_40 ?_
      first | refine w_aload_n C dX1_marksOn_43 (by rfl) ?_ | refine w_aload_nN C dX1_marksOn_43 (by rfl) ?_
      refine gf_X1_53 C hk dX1_marksOn_44 ?_
      refine w_dsub C dX1_marksOn_47 hn1 ?_
      refine lc_X1_45 C dX1_marksOn_48 ?_
      refine w_dcmp C dX1_marksOn_51 ?_
      refine w_if_le (tgt := 60) C dX1_marksOn_52 (by rfl) (fun c_52 => ?_) (fun c_52 => ?_)
      · try simp only [cg_ge, cg_gt, cl_gt, cl_le, cl_eq, cl_lt, cl_ge, bi_eq0, bi_ne0, bI_eq0, Decidable.not_not, Bool.not_eq_false] at c_52
        refine w_iconst (v := 0) C dX1_marksOn_60 (by rfl) ?_
        refine w_ior C dX1_marksOn_61 ?_
        refine w_istore_3 C dX1_marksOn_62 (by first | trivial | rfl) ?_
        refine w_iload_n C dX1_marksOn_63 (by rfl) ?_
        first | refine w_aload_n C dX1_marksOn_64 (by rfl) ?_ | refine w_aload_nN C dX1_marksOn_64 (by rfl) ?_
        refine gf_X1_53 C hk dX1_marksOn_65 ?_
        first | refine w_aload_n C dX1_marksOn_68 (by rfl) ?_ | refine w_aload_nN C dX1_marksOn_68 (by rfl) ?_
        refine gf_X1_47 C hf dX1_marksOn_69 ?_
        refine w_dsub C dX1_marksOn_72 hn2 ?_
        refine lc_X1_45 C dX1_marksOn_73 ?_
        refine w_dcmp C dX1_marksOn_76 ?_
        refine w_if_le (tgt := 85) C dX1_marksOn_77 (by rfl) (fun c_77 => ?_) (fun c_77 => ?_)
        · try simp only [cg_ge, cg_gt, cl_gt, cl_le, cl_eq, cl_lt, cl_ge, bi_eq0, bi_ne0, bI_eq0, Decidable.not_not, Bool.not_eq_false] at c_77
          refine w_iconst (v := 0) C dX1_marksOn_85 (by rfl) ?_
          refine w_ior C dX1_marksOn_86 ?_
          refine w_istore_3 C dX1_marksOn_87 (by first | trivial | rfl) ?_
          refine w_iload_n C dX1_marksOn_88 (by rfl) ?_
          refine w_iret C M dX1_marksOn_89 ⟨by decide, by decide⟩ ⟨_, rfl, ?_⟩
          exact ⟨rfl, by simp only [sp_marks, dlt, dgt, deq, dge, dle, kH, kP, kO, kL, kA, kE, kC, kF, kS, kW, c_8, c_27, c_52, c_77, if_true, if_false]⟩
        · try simp only [cg_ge, cg_gt, cl_gt, cl_le, cl_eq, cl_lt, cl_ge, bi_eq0, bi_ne0, bI_eq0, Decidable.not_not, Bool.not_eq_false] at c_77
          refine w_bipush (v := (64)) C dX1_marksOn_80 (by rfl) ?_
          refine w_goto (tgt := 86) C dX1_marksOn_82 (by rfl) ?_
          refine w_ior C dX1_marksOn_86 ?_
          refine w_istore_3 C dX1_marksOn_87 (by first | trivial | rfl) ?_
          refine w_iload_n C dX1_marksOn_88 (by rfl) ?_
          refine w_iret C M dX1_marksOn_89 ⟨by decide, by decide⟩ ⟨_, rfl, ?_⟩
          exact ⟨rfl, by simp only [sp_marks, dlt, dgt, deq, dge, dle, kH, kP, kO, kL, kA, kE, kC, kF, kS, kW, c_8, c_27, c_52, c_77, if_true, if_false]⟩
      · try simp only [cg_ge, cg_gt, cl_gt, cl_le, cl_eq, cl_lt, cl_ge, bi_eq0, bi_ne0, bI_eq0, Decidable.not_not, Bool.not_eq_false] at c_52
        refine w_bipush (v := (32)) C dX1_marksOn_55 (by rfl) ?_
        refine w_goto (tgt := 61) C dX1_marksOn_57 (by rfl) ?_
        refine w_ior C dX1_marksOn_61 ?_
        refine w_istore_3 C dX1_marksOn_62 (by first | trivial | rfl) ?_
        refine w_iload_n C dX1_marksOn_63 (by rfl) ?_
        first | refine w_aload_n C dX1_marksOn_64 (by rfl) ?_ | refine w_aload_nN C dX1_marksOn_64 (by rfl) ?_
        refine gf_X1_53 C hk dX1_marksOn_65 ?_
        first | refine w_aload_n C dX1_marksOn_68 (by rfl) ?_ | refine w_aload_nN C dX1_marksOn_68 (by rfl) ?_
        refine gf_X1_47 C hf dX1_marksOn_69 ?_
        refine w_dsub C dX1_marksOn_72 hn2 ?_
        refine lc_X1_45 C dX1_marksOn_73 ?_
        refine w_dcmp C dX1_marksOn_76 ?_
        refine w_if_le (tgt := 85) C dX1_marksOn_77 (by rfl) (fun c_77 => ?_) (fun c_77 => ?_)
        · try simp only [cg_ge, cg_gt, cl_gt, cl_le, cl_eq, cl_lt, cl_ge, bi_eq0, bi_ne0, bI_eq0, Decidable.not_not, Bool.not_eq_false] at c_77
          refine w_iconst (v := 0) C dX1_marksOn_85 (by rfl) ?_
          refine w_ior C dX1_marksOn_86 ?_
          refine w_istore_3 C dX1_marksOn_87 (by first | trivial | rfl) ?_
          refine w_iload_n C dX1_marksOn_88 (by rfl) ?_
          refine w_iret C M dX1_marksOn_89 ⟨by decide, by decide⟩ ⟨_, rfl, ?_⟩
          exact ⟨rfl, by simp only [sp_marks, dlt, dgt, deq, dge, dle, kH, kP, kO, kL, kA, kE, kC, kF, kS, kW, c_8, c_27, c_52, c_77, if_true, if_false]⟩
        · try simp only [cg_ge, cg_gt, cl_gt, cl_le, cl_eq, cl_lt, cl_ge, bi_eq0, bi_ne0, bI_eq0, Decidable.not_not, Bool.not_eq_false] at c_77
          refine w_bipush (v := (64)) C dX1_marksOn_80 (by rfl) ?_
          refine w_goto (tgt := 86) C dX1_marksOn_82 (by rfl) ?_
          refine w_ior C dX1_marksOn_86 ?_
          refine w_istore_3 C dX1_marksOn_87 (by first | trivial | rfl) ?_
          refine w_iload_n C dX1_marksOn_88 (by rfl) ?_
          refine w_iret C M dX1_marksOn_89 ⟨by decide, by decide⟩ ⟨_, rfl, ?_⟩
          exact ⟨rfl, by simp only [sp_marks, dlt, dgt, deq, dge, dle, kH, kP, kO, kL, kA, kE, kC, kF, kS, kW, c_8, c_27, c_52, c_77, if_true, if_false]⟩
    · have c_27 : me + 2 < cone := Int32.not_le.mp c_27
      refine w_bipush (v := (16)) C dX1_marksOn_30 (by rfl) ?_
      refine w_goto (tgt := 36) C dX1_marksOn_32 (by rfl) ?_
      refine w_ior C dX1_marksOn_36 ?_
      refine w_istore_3 C dX1_marksOn_37 (by first | trivial | rfl) ?_
      refine w_iload_n C dX1_marksOn_38 (by rfl) ?_
      first | refine w_aload_n C dX1_marksOn_39 (by rfl) ?_ | refine w_aload_nN C dX1_marksOn_39 (by rfl) ?_
      refine gf_X1_47 C hf dX1_marksOn_40 ?_
      first | refine w_aload_n C dX1_marksOn_43 (by rfl) ?_ | refine w_aload_nN C dX1_marksOn_43 (by rfl) ?_
      refine gf_X1_53 C hk dX1_marksOn_44 ?_
      refine w_dsub C dX1_marksOn_47 hn1 ?_
      refine lc_X1_45 C dX1_marksOn_48 ?_
      refine w_dcmp C dX1_marksOn_51 ?_
      refine w_if_le (tgt := 60) C dX1_marksOn_52 (by rfl) (fun c_52 => ?_) (fun c_52 => ?_)
      · try simp only [cg_ge, cg_gt, cl_gt, cl_le, cl_eq, cl_lt, cl_ge, bi_eq0, bi_ne0, bI_eq0, Decidable.not_not, Bool.not_eq_false] at c_52
        refine w_iconst (v := 0) C dX1_marksOn_60 (by rfl) ?_
        refine w_ior C dX1_marksOn_61 ?_
        refine w_istore_3 C dX1_marksOn_62 (by first | trivial | rfl) ?_
        refine w_iload_n C dX1_marksOn_63 (by rfl) ?_
        first | refine w_aload_n C dX1_marksOn_64 (by rfl) ?_ | refine w_aload_nN C dX1_marksOn_64 (by rfl) ?_
        refine gf_X1_53 C hk dX1_marksOn_65 ?_
        first | refine w_aload_n C dX1_marksOn_68 (by rfl) ?_ | refine w_aload_nN C dX1_marksOn_68 (by rfl) ?_
        refine gf_X1_47 C hf dX1_marksOn_69 ?_
        refine w_dsub C dX1_marksOn_72 hn2 ?_
        refine lc_X1_45 C dX1_marksOn_73 ?_
        refine w_dcmp C dX1_marksOn_76 ?_
        refine w_if_le (tgt := 85) C dX1_marksOn_77 (by rfl) (fun c_77 => ?_) (fun c_77 => ?_)
        · try simp only [cg_ge, cg_gt, cl_gt, cl_le, cl_eq, cl_lt, cl_ge, bi_eq0, bi_ne0, bI_eq0, Decidable.not_not, Bool.not_eq_false] at c_77
          refine w_iconst (v := 0) C dX1_marksOn_85 (by rfl) ?_
          refine w_ior C dX1_marksOn_86 ?_
          refine w_istore_3 C dX1_marksOn_87 (by first | trivial | rfl) ?_
          refine w_iload_n C dX1_marksOn_88 (by rfl) ?_
          refine w_iret C M dX1_marksOn_89 ⟨by decide, by decide⟩ ⟨_, rfl, ?_⟩
          exact ⟨rfl, by simp only [sp_marks, dlt, dgt, deq, dge, dle, kH, kP, kO, kL, kA, kE, kC, kF, kS, kW, c_8, c_27, c_52, c_77, if_true, if_false]⟩
        · try simp only [cg_ge, cg_gt, cl_gt, cl_le, cl_eq, cl_lt, cl_ge, bi_eq0, bi_ne0, bI_eq0, Decidable.not_not, Bool.not_eq_false] at c_77
          refine w_bipush (v := (64)) C dX1_marksOn_80 (by rfl) ?_
          refine w_goto (tgt := 86) C dX1_marksOn_82 (by rfl) ?_
          refine w_ior C dX1_marksOn_86 ?_
          refine w_istore_3 C dX1_marksOn_87 (by first | trivial | rfl) ?_
          refine w_iload_n C dX1_marksOn_88 (by rfl) ?_
          refine w_iret C M dX1_marksOn_89 ⟨by decide, by decide⟩ ⟨_, rfl, ?_⟩
          exact ⟨rfl, by simp only [sp_marks, dlt, dgt, deq, dge, dle, kH, kP, kO, kL, kA, kE, kC, kF, kS, kW, c_8, c_27, c_52, c_77, if_true, if_false]⟩
      · try simp only [cg_ge, cg_gt, cl_gt, cl_le, cl_eq, cl_lt, cl_ge, bi_eq0, bi_ne0, bI_eq0, Decidable.not_not, Bool.not_eq_false] at c_52
        refine w_bipush (v := (32)) C dX1_marksOn_55 (by rfl) ?_
        refine w_goto (tgt := 61) C dX1_marksOn_57 (by rfl) ?_
        refine w_ior C dX1_marksOn_61 ?_
        refine w_istore_3 C dX1_marksOn_62 (by first | trivial | rfl) ?_
        refine w_iload_n C dX1_marksOn_63 (by rfl) ?_
        first | refine w_aload_n C dX1_marksOn_64 (by rfl) ?_ | refine w_aload_nN C dX1_marksOn_64 (by rfl) ?_
        refine gf_X1_53 C hk dX1_marksOn_65 ?_
        first | refine w_aload_n C dX1_marksOn_68 (by rfl) ?_ | refine w_aload_nN C dX1_marksOn_68 (by rfl) ?_
        refine gf_X1_47 C hf dX1_marksOn_69 ?_
        refine w_dsub C dX1_marksOn_72 hn2 ?_
        refine lc_X1_45 C dX1_marksOn_73 ?_
        refine w_dcmp C dX1_marksOn_76 ?_
        refine w_if_le (tgt := 85) C dX1_marksOn_77 (by rfl) (fun c_77 => ?_) (fun c_77 => ?_)
        · try simp only [cg_ge, cg_gt, cl_gt, cl_le, cl_eq, cl_lt, cl_ge, bi_eq0, bi_ne0, bI_eq0, Decidable.not_not, Bool.not_eq_false] at c_77
          refine w_iconst (v := 0) C dX1_marksOn_85 (by rfl) ?_
          refine w_ior C dX1_marksOn_86 ?_
          refine w_istore_3 C dX1_marksOn_87 (by first | trivial | rfl) ?_
          refine w_iload_n C dX1_marksOn_88 (by rfl) ?_
          refine w_iret C M dX1_marksOn_89 ⟨by decide, by decide⟩ ⟨_, rfl, ?_⟩
          exact ⟨rfl, by simp only [sp_marks, dlt, dgt, deq, dge, dle, kH, kP, kO, kL, kA, kE, kC, kF, kS, kW, c_8, c_27, c_52, c_77, if_true, if_false]⟩
        · try simp only [cg_ge, cg_gt, cl_gt, cl_le, cl_eq, cl_lt, cl_ge, bi_eq0, bi_ne0, bI_eq0, Decidable.not_not, Bool.not_eq_false] at c_77
          refine w_bipush (v := (64)) C dX1_marksOn_80 (by rfl) ?_
          refine w_goto (tgt := 86) C dX1_marksOn_82 (by rfl) ?_
          refine w_ior C dX1_marksOn_86 ?_
          refine w_istore_3 C dX1_marksOn_87 (by first | trivial | rfl) ?_
          refine w_iload_n C dX1_marksOn_88 (by rfl) ?_
          refine w_iret C M dX1_marksOn_89 ⟨by decide, by decide⟩ ⟨_, rfl, ?_⟩
          exact ⟨rfl, by simp only [sp_marks, dlt, dgt, deq, dge, dle, kH, kP, kO, kL, kA, kE, kC, kF, kS, kW, c_8, c_27, c_52, c_77, if_true, if_false]⟩

set_option maxHeartbeats 4000000 in
set_option maxRecDepth 100000 in
theorem m_X1_distanceTo {l : Launch} {D : va_G} {tc : Nat → ClassId} (hl : l.stackTraces = false) {h : HM} {a ka i : Nat} {al si fe me top : Int32} {gr kg : UInt64} (hf : h a = some (gCell i al si fe me gr)) (hk : h ka = some (cCell top kg)) (hn1 : vf_n64 (FP.dsub gr kg)) :
    CT l D tc yX1_distanceTo cX1_distanceTo 4 (some FieldType.double) rm_X1_distanceTo [.ref a, .ref ka] h (rD (fun z h' => h' = h ∧ z = sp_dist gr kg)) := by
  refine CT.start [some (.ref a), some (.ref ka), none, none] (by decide) hl rfl rfl (fun K C M => ?_)
  obtain ⟨rfl, rfl, rfl, -⟩ := id M
  have C : CX K RX1 cX1_distanceTo 4 rm_X1_distanceTo := C
  first | refine w_aload_n C dX1_distanceTo_0 (by rfl) ?_ | refine w_aload_nN C dX1_distanceTo_0 (by rfl) ?_
  refine gf_X1_47 C hf dX1_distanceTo_1 ?_
  first | refine w_aload_n C dX1_distanceTo_4 (by rfl) ?_ | refine w_aload_nN C dX1_distanceTo_4 (by rfl) ?_
  refine gf_X1_53 C hk dX1_distanceTo_5 ?_
  refine w_dsub C dX1_distanceTo_8 hn1 ?_
  refine w_dstore_2 C dX1_distanceTo_9 (by first | trivial | rfl) ?_
  refine w_dload_n C dX1_distanceTo_10 (by rfl) ?_
  refine w_dconst0 C dX1_distanceTo_11 ?_
  refine w_dcmp C dX1_distanceTo_12 ?_
  refine w_if_ge (tgt := 21) C dX1_distanceTo_13 (by rfl) (fun c_13 => ?_) (fun c_13 => ?_)
  · try simp only [cg_ge, cg_gt, cl_gt, cl_le, cl_eq, cl_lt, cl_ge, bi_eq0, bi_ne0, bI_eq0, Decidable.not_not, Bool.not_eq_false] at c_13
    refine w_dload_n C dX1_distanceTo_21 (by rfl) ?_
    refine w_dret C M dX1_distanceTo_22 ⟨by decide, by decide⟩ ⟨_, rfl, ?_⟩
    first
      | exact ⟨rfl, (if_neg c_13).symm⟩
      | exact ⟨rfl, (if_pos c_13).symm⟩
  · try simp only [cg_ge, cg_gt, cl_gt, cl_le, cl_eq, cl_lt, cl_ge, bi_eq0, bi_ne0, bI_eq0, Decidable.not_not, Bool.not_eq_false] at c_13
    refine w_dload_n C dX1_distanceTo_16 (by rfl) ?_
    refine w_dneg C dX1_distanceTo_17 ?_
    refine w_goto (tgt := 22) C dX1_distanceTo_18 (by rfl) ?_
    refine w_dret C M dX1_distanceTo_22 ⟨by decide, by decide⟩ ⟨_, rfl, ?_⟩
    first
      | exact ⟨rfl, (if_neg c_13).symm⟩
      | exact ⟨rfl, (if_pos c_13).symm⟩

set_option maxHeartbeats 4000000 in
set_option maxRecDepth 100000 in
theorem m_X1_rounded {l : Launch} {D : va_G} {tc : Nat → ClassId} (hl : l.stackTraces = false) {h : HM} {x : UInt64} (hx : dN x) :
    CT l D tc yX1_rounded cX1_rounded 6 (some FieldType.int) rm_X1_rounded [.double x] h (rI (fun z h' => h' = h ∧ z = sp_round x)) := by
  refine CT.start [some (.double x), none, none, none, none, none] (by decide) hl rfl rfl (fun K C M => ?_)
  obtain ⟨rfl, rfl, rfl, -⟩ := id M
  have C : CX K RX1 cX1_rounded 6 rm_X1_rounded := C
  refine w_dload_n C dX1_rounded_0 (by rfl) ?_
  refine w_d2i C dX1_rounded_1 ?_
  refine w_istore_2 C dX1_rounded_2 (by first | trivial | rfl) ?_
  refine w_dload_n C dX1_rounded_3 (by rfl) ?_
  refine w_iload_n C dX1_rounded_4 (by rfl) ?_
  refine w_i2d C dX1_rounded_5 ?_
  refine w_dsub C dX1_rounded_6 (nn_of (dsub_n hx (df_i2d _))) ?_
  refine w_dstore_3 C dX1_rounded_7 (by first | trivial | rfl) ?_
  refine w_dload_n C dX1_rounded_8 (by rfl) ?_
  refine lc_X1_26 C dX1_rounded_9 ?_
  refine w_dcmp C dX1_rounded_12 ?_
  refine w_if_gt (tgt := 30) C dX1_rounded_13 (by rfl) (fun c_13 => ?_) (fun c_13 => ?_)
  · try simp only [cg_ge, cg_gt, cl_gt, cl_le, cl_eq, cl_lt, cl_ge, bi_eq0, bi_ne0, bI_eq0, Decidable.not_not, Bool.not_eq_false] at c_13
    refine w_iconst (v := 1) C dX1_rounded_30 (by rfl) ?_
    refine w_goto (tgt := 35) C dX1_rounded_31 (by rfl) ?_
    refine w_istore_5 C dX1_rounded_35 (by first | trivial | rfl) ?_
    refine w_iload C dX1_rounded_37 (by rfl) ?_
    refine w_if_eq (tgt := 48) C dX1_rounded_39 (by rfl) (fun c_39 => ?_) (fun c_39 => ?_)
    · exact absurd c_39 (by decide)
    · try simp only [cg_ge, cg_gt, cl_gt, cl_le, cl_eq, cl_lt, cl_ge, bi_eq0, bi_ne0, bI_eq0, Decidable.not_not, Bool.not_eq_false] at c_39
      refine w_iload_n C dX1_rounded_42 (by rfl) ?_
      refine w_iconst (v := 1) C dX1_rounded_43 (by rfl) ?_
      refine w_iadd C dX1_rounded_44 ?_
      refine w_goto (tgt := 49) C dX1_rounded_45 (by rfl) ?_
      refine w_iret C M dX1_rounded_49 ⟨by decide, by decide⟩ ⟨_, rfl, ?_⟩
      exact ⟨rfl, by simp [sp_round, dlt, dgt, deq, dge, dle, kH, kP, kO, kL, kA, kE, kC, kF, kS, kW, c_13, c_39]⟩
  · try simp only [cg_ge, cg_gt, cl_gt, cl_le, cl_eq, cl_lt, cl_ge, bi_eq0, bi_ne0, bI_eq0, Decidable.not_not, Bool.not_eq_false] at c_13
    refine w_dload_n C dX1_rounded_16 (by rfl) ?_
    refine lc_X1_26 C dX1_rounded_17 ?_
    refine w_dcmp C dX1_rounded_20 ?_
    refine w_if_ne (tgt := 34) C dX1_rounded_21 (by rfl) (fun c_21 => ?_) (fun c_21 => ?_)
    · try simp only [cg_ge, cg_gt, cl_gt, cl_le, cl_eq, cl_lt, cl_ge, bi_eq0, bi_ne0, bI_eq0, Decidable.not_not, Bool.not_eq_false] at c_21
      refine w_iconst (v := 0) C dX1_rounded_34 (by rfl) ?_
      refine w_istore_5 C dX1_rounded_35 (by first | trivial | rfl) ?_
      refine w_iload C dX1_rounded_37 (by rfl) ?_
      refine w_if_eq (tgt := 48) C dX1_rounded_39 (by rfl) (fun c_39 => ?_) (fun c_39 => ?_)
      · try simp only [cg_ge, cg_gt, cl_gt, cl_le, cl_eq, cl_lt, cl_ge, bi_eq0, bi_ne0, bI_eq0, Decidable.not_not, Bool.not_eq_false] at c_39
        refine w_iload_n C dX1_rounded_48 (by rfl) ?_
        refine w_iret C M dX1_rounded_49 ⟨by decide, by decide⟩ ⟨_, rfl, ?_⟩
        exact ⟨rfl, by simp [sp_round, dlt, dgt, deq, dge, dle, kH, kP, kO, kL, kA, kE, kC, kF, kS, kW, c_13, c_21, c_39]⟩
      · exact absurd rfl c_39
    · try simp only [cg_ge, cg_gt, cl_gt, cl_le, cl_eq, cl_lt, cl_ge, bi_eq0, bi_ne0, bI_eq0, Decidable.not_not, Bool.not_eq_false] at c_21
      refine w_iload_n C dX1_rounded_24 (by rfl) ?_
      refine w_iconst (v := 2) C dX1_rounded_25 (by rfl) ?_
      refine w_irem C dX1_rounded_26 (by decide) ?_
      refine w_if_eq (tgt := 34) C dX1_rounded_27 (by rfl) (fun c_27 => ?_) (fun c_27 => ?_)
      · try simp only [cg_ge, cg_gt, cl_gt, cl_le, cl_eq, cl_lt, cl_ge, bi_eq0, bi_ne0, bI_eq0, Decidable.not_not, Bool.not_eq_false] at c_27
        refine w_iconst (v := 0) C dX1_rounded_34 (by rfl) ?_
        refine w_istore_5 C dX1_rounded_35 (by first | trivial | rfl) ?_
        refine w_iload C dX1_rounded_37 (by rfl) ?_
        refine w_if_eq (tgt := 48) C dX1_rounded_39 (by rfl) (fun c_39 => ?_) (fun c_39 => ?_)
        · try simp only [cg_ge, cg_gt, cl_gt, cl_le, cl_eq, cl_lt, cl_ge, bi_eq0, bi_ne0, bI_eq0, Decidable.not_not, Bool.not_eq_false] at c_39
          refine w_iload_n C dX1_rounded_48 (by rfl) ?_
          refine w_iret C M dX1_rounded_49 ⟨by decide, by decide⟩ ⟨_, rfl, ?_⟩
          exact ⟨rfl, by simp [sp_round, dlt, dgt, deq, dge, dle, kH, kP, kO, kL, kA, kE, kC, kF, kS, kW, c_13, c_21, c_27, c_39]⟩
        · exact absurd rfl c_39
      · try simp only [cg_ge, cg_gt, cl_gt, cl_le, cl_eq, cl_lt, cl_ge, bi_eq0, bi_ne0, bI_eq0, Decidable.not_not, Bool.not_eq_false] at c_27
        refine w_iconst (v := 1) C dX1_rounded_30 (by rfl) ?_
        refine w_goto (tgt := 35) C dX1_rounded_31 (by rfl) ?_
        refine w_istore_5 C dX1_rounded_35 (by first | trivial | rfl) ?_
        refine w_iload C dX1_rounded_37 (by rfl) ?_
        refine w_if_eq (tgt := 48) C dX1_rounded_39 (by rfl) (fun c_39 => ?_) (fun c_39 => ?_)
        · exact absurd c_39 (by decide)
        · try simp only [cg_ge, cg_gt, cl_gt, cl_le, cl_eq, cl_lt, cl_ge, bi_eq0, bi_ne0, bI_eq0, Decidable.not_not, Bool.not_eq_false] at c_39
          refine w_iload_n C dX1_rounded_42 (by rfl) ?_
          refine w_iconst (v := 1) C dX1_rounded_43 (by rfl) ?_
          refine w_iadd C dX1_rounded_44 ?_
          refine w_goto (tgt := 49) C dX1_rounded_45 (by rfl) ?_
          refine w_iret C M dX1_rounded_49 ⟨by decide, by decide⟩ ⟨_, rfl, ?_⟩
          exact ⟨rfl, by simp [sp_round, dlt, dgt, deq, dge, dle, kH, kP, kO, kL, kA, kE, kC, kF, kS, kW, c_13, c_21, c_27, c_39]⟩

/-- no NaN when a glaze is made -/
def glzN (g : GT) : Prop := vf_n64 (FP.ddiv (FP.i2d g.2.2.1) (FP.i2d (g.1 + g.2.1))) ∧ vf_n64 (FP.dmul 4609434218613702656 (FP.ddiv (FP.i2d g.2.2.1) (FP.i2d (g.1 + g.2.1)))) ∧ vf_n64 (FP.ddiv (FP.i2d g.2.2.2.1) (FP.i2d (g.1 + g.2.1))) ∧ vf_n64 (FP.dmul 4602678819172646912 (FP.ddiv (FP.i2d g.2.2.2.1) (FP.i2d (g.1 + g.2.1)))) ∧ dN (sp_mx g) ∧ vf_n64 (FP.dmul 4620693217682128896 (FP.i2d g.1)) ∧ vf_n64 (FP.dmul 4616189618054758400 (FP.i2d g.2.1)) ∧ vf_n64 (FP.dadd (FP.dmul 4620693217682128896 (FP.i2d g.1)) (FP.dmul 4616189618054758400 (FP.i2d g.2.1))) ∧ vf_n64 (FP.dmul 4611686018427387904 (FP.i2d g.2.2.1)) ∧ vf_n64 (FP.dadd (FP.dadd (FP.dmul 4620693217682128896 (FP.i2d g.1)) (FP.dmul 4616189618054758400 (FP.i2d g.2.1))) (FP.dmul 4611686018427387904 (FP.i2d g.2.2.1))) ∧ vf_n64 (sp_gnum g) ∧ vf_n64 (sp_growth g)

set_option maxHeartbeats 4000000 in
set_option maxRecDepth 100000 in
theorem m_X1_init {l : Launch} {D : va_G} {tc : Nat → ClassId} (hl : l.stackTraces = false) {h : HM} {a i : Nat} {v0 v1 v2 v3 v4 v5 : Value} {g : GT} (hf : h a = some (.inr (1, [v0, v1, v2, v3, v4, v5]))) (hn : glzN g) :
    CT l D tc yX1_init cX1_init 11 none rm_X1_init [.ref a, .int (nI i), .int g.1, .int g.2.1, .int g.2.2.1, .int g.2.2.2.1, .int g.2.2.2.2] h (rV (fun h' => Up h a (gCell i g.2.2.1 g.2.2.2.1 g.2.2.2.2 (sp_melts g) (sp_growth g)) h')) := by
  refine CT.start [some (.ref a), some (.int (nI i)), some (.int g.1), some (.int g.2.1), some (.int g.2.2.1), some (.int g.2.2.2.1), some (.int g.2.2.2.2), none, none, none, none] (by decide) hl rfl rfl (fun K C M => ?_)
  obtain ⟨rfl, rfl, rfl, -⟩ := id M
  have C : CX K RX1 cX1_init 11 rm_X1_init := C
  obtain ⟨n1, n2, n3, n4, n5, n6, n7, n8, n9, n10, n11, n12⟩ := hn
  first | refine w_aload_n C dX1_init_0 (by rfl) ?_ | refine w_aload_nN C dX1_init_0 (by rfl) ?_
  refine w_obji C gw_294 gw_44 gw_45 (by rfl) (by rfl) (by rfl) dX1_init_1 ?_
  first | refine w_aload_n C dX1_init_4 (by rfl) ?_ | refine w_aload_nN C dX1_init_4 (by rfl) ?_
  refine w_iload_n C dX1_init_5 (by rfl) ?_
  refine pf_X1_9 C hf dX1_init_6 M.2.2.2.2.2.2.1 (fun h1 u1 => ?_)
  have hf := u1.self
  first | refine w_aload_n C dX1_init_9 (by rfl) ?_ | refine w_aload_nN C dX1_init_9 (by rfl) ?_
  refine w_iload C dX1_init_10 (by rfl) ?_
  refine pf_X1_15 C hf dX1_init_12 M.2.2.2.2.2.2.1 (fun h2 u2 => ?_)
  have hf := u2.self
  first | refine w_aload_n C dX1_init_15 (by rfl) ?_ | refine w_aload_nN C dX1_init_15 (by rfl) ?_
  refine w_iload C dX1_init_16 (by rfl) ?_
  refine pf_X1_18 C hf dX1_init_18 M.2.2.2.2.2.2.1 (fun h3 u3 => ?_)
  have hf := u3.self
  first | refine w_aload_n C dX1_init_21 (by rfl) ?_ | refine w_aload_nN C dX1_init_21 (by rfl) ?_
  refine w_iload C dX1_init_22 (by rfl) ?_
  refine pf_X1_21 C hf dX1_init_24 M.2.2.2.2.2.2.1 (fun h4 u4 => ?_)
  have hf := u4.self
  refine w_iload_n C dX1_init_27 (by rfl) ?_
  refine w_iload_n C dX1_init_28 (by rfl) ?_
  refine w_iadd C dX1_init_29 ?_
  refine w_i2d C dX1_init_30 ?_
  refine w_dstore_7 C dX1_init_31 (by first | trivial | rfl) ?_
  first | refine w_aload_n C dX1_init_33 (by rfl) ?_ | refine w_aload_nN C dX1_init_33 (by rfl) ?_
  refine w_bipush (v := (12)) C dX1_init_34 (by rfl) ?_
  refine lc_X1_24 C dX1_init_36 ?_
  refine w_iload C dX1_init_39 (by rfl) ?_
  refine w_i2d C dX1_init_41 ?_
  refine w_dload C dX1_init_42 (by rfl) ?_
  refine w_ddiv C dX1_init_44 n1 ?_
  refine w_dmul C dX1_init_45 n2 ?_
  refine lc_X1_26 C dX1_init_46 ?_
  refine w_iload C dX1_init_49 (by rfl) ?_
  refine w_i2d C dX1_init_51 ?_
  refine w_dload C dX1_init_52 (by rfl) ?_
  refine w_ddiv C dX1_init_54 n3 ?_
  refine w_dmul C dX1_init_55 n4 ?_
  refine w_dadd C dX1_init_56 (nn_of n5) ?_
  refine cl_X1_28 C (m_X1_rounded hl (x := sp_mx g) n5) (by rfl) (by rfl) ⟨by decide, by decide⟩ (by rfl) dX1_init_57 (fun z1 h5 p5 => ?_)
  obtain ⟨rfl, rfl⟩ := p5
  refine w_imin C gw_300 gw_301 gw_33 gw_302 (by rfl) (by rfl) (by rfl) ⟨by decide, by decide⟩ dX1_init_60 ?_
  refine pf_X1_38 C hf dX1_init_63 M.2.2.2.2.2.2.1 (fun h6 u6 => ?_)
  have hf := u6.self
  refine w_iload_n C dX1_init_66 (by rfl) ?_
  refine w_iload_n C dX1_init_67 (by rfl) ?_
  refine w_iadd C dX1_init_68 ?_
  refine w_iload C dX1_init_69 (by rfl) ?_
  refine w_iadd C dX1_init_71 ?_
  refine w_iload C dX1_init_72 (by rfl) ?_
  refine w_iadd C dX1_init_74 ?_
  refine w_i2d C dX1_init_75 ?_
  refine w_dstore_9 C dX1_init_76 (by first | trivial | rfl) ?_
  first | refine w_aload_n C dX1_init_78 (by rfl) ?_ | refine w_aload_nN C dX1_init_78 (by rfl) ?_
  refine lc_X1_41 C dX1_init_79 ?_
  refine w_iload_n C dX1_init_82 (by rfl) ?_
  refine w_i2d C dX1_init_83 ?_
  refine w_dmul C dX1_init_84 n6 ?_
  refine lc_X1_43 C dX1_init_85 ?_
  refine w_iload_n C dX1_init_88 (by rfl) ?_
  refine w_i2d C dX1_init_89 ?_
  refine w_dmul C dX1_init_90 n7 ?_
  refine w_dadd C dX1_init_91 n8 ?_
  refine lc_X1_45 C dX1_init_92 ?_
  refine w_iload C dX1_init_95 (by rfl) ?_
  refine w_i2d C dX1_init_97 ?_
  refine w_dmul C dX1_init_98 n9 ?_
  refine w_dadd C dX1_init_99 n10 ?_
  refine w_iload C dX1_init_100 (by rfl) ?_
  refine w_i2d C dX1_init_102 ?_
  refine w_dadd C dX1_init_103 n11 ?_
  refine w_dload C dX1_init_104 (by rfl) ?_
  refine w_ddiv C dX1_init_106 n12 ?_
  refine pf_X1_47 C hf dX1_init_107 M.2.2.2.2.2.2.1 (fun h7 u7 => ?_)
  have hf := u7.self
  refine w_vret C M dX1_init_110 ⟨by decide, by decide⟩ ⟨rfl, ?_⟩
  exact (((((u1.tr u2).tr u3).tr u4).tr u6).tr u7)

/-- a pot without a glaze comes out of the kiln; one with one, that has these marks -/
def sp_fireN (cone top : Int32) (q : QT) : QT :=
  if (qSt q = 1 ∧ 2 ≤ cone) ∨ (qSt q = 3 ∧ 1 ≤ cone) then
    (if top < cone then (qWd q, qHg q, qWl q, 5, qWa q, qCv q, qSm q, qMk q ||| 4, qSh q, qCe q) else (qWd q, qHg q, qWl q, 2, qWa q, qCv q, qSm q, qMk q, qSh q, qCe q))
  else q
def sp_fireG (cone top marks : Int32) (q : QT) : QT :=
  if (qSt q = 1 ∧ 2 ≤ cone) ∨ (qSt q = 3 ∧ 1 ≤ cone) then
    (if top < cone then (qWd q, qHg q, qWl q, 5, qWa q, qCv q, qSm q, qMk q ||| 4, qSh q, qCe q) else (qWd q, qHg q, qWl q, 4, qWa q, qCv q, qSm q, qMk q ||| marks, qSh q, qCe q))
  else q
theorem fireN_no {cone top : Int32} {q : QT} (h : ¬ ((qSt q = 1 ∧ 2 ≤ cone) ∨ (qSt q = 3 ∧ 1 ≤ cone))) : sp_fireN cone top q = q := if_neg h
theorem fireG_no {cone top m : Int32} {q : QT} (h : ¬ ((qSt q = 1 ∧ 2 ≤ cone) ∨ (qSt q = 3 ∧ 1 ≤ cone))) : sp_fireG cone top m q = q := if_neg h
theorem fireN_b {cone top : Int32} {q : QT} (h : (qSt q = 1 ∧ 2 ≤ cone) ∨ (qSt q = 3 ∧ 1 ≤ cone)) (g : top < cone) : sp_fireN cone top q = (qWd q, qHg q, qWl q, 5, qWa q, qCv q, qSm q, qMk q ||| 4, qSh q, qCe q) := (if_pos h).trans (if_pos g)
theorem fireG_b {cone top m : Int32} {q : QT} (h : (qSt q = 1 ∧ 2 ≤ cone) ∨ (qSt q = 3 ∧ 1 ≤ cone)) (g : top < cone) : sp_fireG cone top m q = (qWd q, qHg q, qWl q, 5, qWa q, qCv q, qSm q, qMk q ||| 4, qSh q, qCe q) := (if_pos h).trans (if_pos g)
theorem fireN_k {cone top : Int32} {q : QT} (h : (qSt q = 1 ∧ 2 ≤ cone) ∨ (qSt q = 3 ∧ 1 ≤ cone)) (g : ¬ top < cone) : sp_fireN cone top q = (qWd q, qHg q, qWl q, 2, qWa q, qCv q, qSm q, qMk q, qSh q, qCe q) := (if_pos h).trans (if_neg g)
theorem fireG_k {cone top m : Int32} {q : QT} (h : (qSt q = 1 ∧ 2 ≤ cone) ∨ (qSt q = 3 ∧ 1 ≤ cone)) (g : ¬ top < cone) : sp_fireG cone top m q = (qWd q, qHg q, qWl q, 4, qWa q, qCv q, qSm q, qMk q ||| m, qSh q, qCe q) := (if_pos h).trans (if_neg g)

set_option maxHeartbeats 4000000 in
set_option maxRecDepth 100000 in
theorem m_X4_fireN {l : Launch} {D : va_G} {tc : Nat → ClassId} (hl : l.stackTraces = false) {h : HM} {a ka : Nat} {top cone : Int32} {kg : UInt64} {q : QT} (hf : h a = some (potC (.ref ka) .null q)) (hk : h ka = some (cCell top kg)) :
    CT l D tc yX4_fire cX4_fire 3 none rm_X4_fire [.ref a, .int cone] h (rV (fun h' => Up h a (potC (.ref ka) .null (sp_fireN cone top q)) h')) := by
  refine CT.start [some (.ref a), some (.int cone), none] (by decide) hl rfl rfl (fun K C M => ?_)
  obtain ⟨rfl, rfl, rfl, -⟩ := id M
  have C : CX K RX4 cX4_fire 3 rm_X4_fire := C
  first | refine w_aload_n C dX4_fire_0 (by rfl) ?_ | refine w_aload_nN C dX4_fire_0 (by rfl) ?_
  refine gf_X4_15 C hf dX4_fire_1 ?_
  refine w_iconst (v := 1) C dX4_fire_4 (by rfl) ?_
  refine w_icmp_ne (tgt := 13) C dX4_fire_5 (by rfl) (fun c_5 => ?_) (fun c_5 => ?_)
  · first | refine w_aload_n C dX4_fire_13 (by rfl) ?_ | refine w_aload_nN C dX4_fire_13 (by rfl) ?_
    refine gf_X4_15 C hf dX4_fire_14 ?_
    refine w_iconst (v := 3) C dX4_fire_17 (by rfl) ?_
    refine w_icmp_ne (tgt := 30) C dX4_fire_18 (by rfl) (fun c_18 => ?_) (fun c_18 => ?_)
    · refine w_iconst (v := 0) C dX4_fire_30 (by rfl) ?_
      refine w_istore_2 C dX4_fire_31 (by first | trivial | rfl) ?_
      refine w_iload_n C dX4_fire_32 (by rfl) ?_
      refine w_if_ne (tgt := 37) C dX4_fire_33 (by rfl) (fun c_33 => ?_) (fun c_33 => ?_)
      · exact absurd rfl c_33
      · try simp only [cg_ge, cg_gt, cl_gt, cl_le, cl_eq, cl_lt, cl_ge, bi_eq0, bi_ne0, bI_eq0, Decidable.not_not, Bool.not_eq_false] at c_33
        refine w_vret C M dX4_fire_36 ⟨by decide, by decide⟩ ⟨rfl, ?_⟩
        rw [fireN_no (by simp [qWd, qHg, qWl, qSt, qWa, qCv, qSm, qMk, qSh, qCe, c_5, c_18, c_33])]
        exact (hu_id hf).symm
    · refine w_iload_n C dX4_fire_21 (by rfl) ?_
      refine w_iconst (v := 1) C dX4_fire_22 (by rfl) ?_
      refine w_icmp_lt (tgt := 30) C dX4_fire_23 (by rfl) (fun c_23 => ?_) (fun c_23 => ?_)
      · have c_23 : ¬ 1 ≤ cone := Int32.not_le.mpr c_23
        refine w_iconst (v := 0) C dX4_fire_30 (by rfl) ?_
        refine w_istore_2 C dX4_fire_31 (by first | trivial | rfl) ?_
        refine w_iload_n C dX4_fire_32 (by rfl) ?_
        refine w_if_ne (tgt := 37) C dX4_fire_33 (by rfl) (fun c_33 => ?_) (fun c_33 => ?_)
        · exact absurd rfl c_33
        · try simp only [cg_ge, cg_gt, cl_gt, cl_le, cl_eq, cl_lt, cl_ge, bi_eq0, bi_ne0, bI_eq0, Decidable.not_not, Bool.not_eq_false] at c_33
          refine w_vret C M dX4_fire_36 ⟨by decide, by decide⟩ ⟨rfl, ?_⟩
          rw [fireN_no (by simp [qWd, qHg, qWl, qSt, qWa, qCv, qSm, qMk, qSh, qCe, c_5, c_18, c_23, c_33])]
          exact (hu_id hf).symm
      · have c_23 : 1 ≤ cone := Int32.not_lt.mp c_23
        refine w_iconst (v := 1) C dX4_fire_26 (by rfl) ?_
        refine w_goto (tgt := 31) C dX4_fire_27 (by rfl) ?_
        refine w_istore_2 C dX4_fire_31 (by first | trivial | rfl) ?_
        refine w_iload_n C dX4_fire_32 (by rfl) ?_
        refine w_if_ne (tgt := 37) C dX4_fire_33 (by rfl) (fun c_33 => ?_) (fun c_33 => ?_)
        · try simp only [cg_ge, cg_gt, cl_gt, cl_le, cl_eq, cl_lt, cl_ge, bi_eq0, bi_ne0, bI_eq0, Decidable.not_not, Bool.not_eq_false] at c_33
          have hfi : ((qSt q = 1 ∧ 2 ≤ cone) ∨ (qSt q = 3 ∧ 1 ≤ cone)) := by simp [qWd, qHg, qWl, qSt, qWa, qCv, qSm, qMk, qSh, qCe, c_5, c_18, c_23, c_33]
          refine w_iload_n C dX4_fire_37 (by rfl) ?_
          first | refine w_aload_n C dX4_fire_38 (by rfl) ?_ | refine w_aload_nN C dX4_fire_38 (by rfl) ?_
          refine gf_X4_40 C hf dX4_fire_39 ?_
          refine gf_X4_75 C hk dX4_fire_42 ?_
          refine w_icmp_le (tgt := 66) C dX4_fire_45 (by rfl) (fun c_45 => ?_) (fun c_45 => ?_)
          · have c_45 : ¬ top < cone := Int32.not_lt.mpr c_45
            first | refine w_aload_n C dX4_fire_66 (by rfl) ?_ | refine w_aload_nN C dX4_fire_66 (by rfl) ?_
            refine gf_X4_9 C hf dX4_fire_67 ?_
            refine w_ifnonnullN C dX4_fire_70 ?_
            first | refine w_aload_n C dX4_fire_73 (by rfl) ?_ | refine w_aload_nN C dX4_fire_73 (by rfl) ?_
            refine w_iconst (v := 2) C dX4_fire_74 (by rfl) ?_
            refine pf_X4_15 C hf dX4_fire_75 (fun h1 u1 => ?_)
            have hk := u1.oth hk hf (by intro q; simp at q)
            have hf := u1.self
            refine w_goto (tgt := 107) C dX4_fire_78 (by rfl) ?_
            refine w_vret C M dX4_fire_107 ⟨by decide, by decide⟩ ⟨rfl, ?_⟩
            first
              | exact u1.to (by rw [fireN_b hfi c_45])
              | exact u1.to (by rw [fireN_k hfi c_45])
          · have c_45 : top < cone := Int32.not_le.mp c_45
            first | refine w_aload_n C dX4_fire_48 (by rfl) ?_ | refine w_aload_nN C dX4_fire_48 (by rfl) ?_
            refine w_dup C dX4_fire_49 (by rfl) ?_
            refine gf_X4_31 C hf dX4_fire_50 ?_
            refine w_iconst (v := 4) C dX4_fire_53 (by rfl) ?_
            refine w_ior C dX4_fire_54 ?_
            refine pf_X4_31 C hf dX4_fire_55 (fun h2 u2 => ?_)
            have hk := u2.oth hk hf (by intro q; simp at q)
            have hf := u2.self
            first | refine w_aload_n C dX4_fire_58 (by rfl) ?_ | refine w_aload_nN C dX4_fire_58 (by rfl) ?_
            refine w_iconst (v := 5) C dX4_fire_59 (by rfl) ?_
            refine pf_X4_15 C hf dX4_fire_60 (fun h3 u3 => ?_)
            have hk := u3.oth hk hf (by intro q; simp at q)
            have hf := u3.self
            refine w_goto (tgt := 107) C dX4_fire_63 (by rfl) ?_
            refine w_vret C M dX4_fire_107 ⟨by decide, by decide⟩ ⟨rfl, ?_⟩
            first
              | exact (u2.tr u3).to (by rw [fireN_b hfi c_45])
              | exact (u2.tr u3).to (by rw [fireN_k hfi c_45])
        · exact absurd c_33 (by decide)
  · refine w_iload_n C dX4_fire_8 (by rfl) ?_
    refine w_iconst (v := 2) C dX4_fire_9 (by rfl) ?_
    refine w_icmp_ge (tgt := 26) C dX4_fire_10 (by rfl) (fun c_10 => ?_) (fun c_10 => ?_)
    · refine w_iconst (v := 1) C dX4_fire_26 (by rfl) ?_
      refine w_goto (tgt := 31) C dX4_fire_27 (by rfl) ?_
      refine w_istore_2 C dX4_fire_31 (by first | trivial | rfl) ?_
      refine w_iload_n C dX4_fire_32 (by rfl) ?_
      refine w_if_ne (tgt := 37) C dX4_fire_33 (by rfl) (fun c_33 => ?_) (fun c_33 => ?_)
      · try simp only [cg_ge, cg_gt, cl_gt, cl_le, cl_eq, cl_lt, cl_ge, bi_eq0, bi_ne0, bI_eq0, Decidable.not_not, Bool.not_eq_false] at c_33
        have hfi : ((qSt q = 1 ∧ 2 ≤ cone) ∨ (qSt q = 3 ∧ 1 ≤ cone)) := by simp [qWd, qHg, qWl, qSt, qWa, qCv, qSm, qMk, qSh, qCe, c_5, c_10, c_33]
        refine w_iload_n C dX4_fire_37 (by rfl) ?_
        first | refine w_aload_n C dX4_fire_38 (by rfl) ?_ | refine w_aload_nN C dX4_fire_38 (by rfl) ?_
        refine gf_X4_40 C hf dX4_fire_39 ?_
        refine gf_X4_75 C hk dX4_fire_42 ?_
        refine w_icmp_le (tgt := 66) C dX4_fire_45 (by rfl) (fun c_45 => ?_) (fun c_45 => ?_)
        · have c_45 : ¬ top < cone := Int32.not_lt.mpr c_45
          first | refine w_aload_n C dX4_fire_66 (by rfl) ?_ | refine w_aload_nN C dX4_fire_66 (by rfl) ?_
          refine gf_X4_9 C hf dX4_fire_67 ?_
          refine w_ifnonnullN C dX4_fire_70 ?_
          first | refine w_aload_n C dX4_fire_73 (by rfl) ?_ | refine w_aload_nN C dX4_fire_73 (by rfl) ?_
          refine w_iconst (v := 2) C dX4_fire_74 (by rfl) ?_
          refine pf_X4_15 C hf dX4_fire_75 (fun h4 u4 => ?_)
          have hk := u4.oth hk hf (by intro q; simp at q)
          have hf := u4.self
          refine w_goto (tgt := 107) C dX4_fire_78 (by rfl) ?_
          refine w_vret C M dX4_fire_107 ⟨by decide, by decide⟩ ⟨rfl, ?_⟩
          first
            | exact u4.to (by rw [fireN_b hfi c_45])
            | exact u4.to (by rw [fireN_k hfi c_45])
        · have c_45 : top < cone := Int32.not_le.mp c_45
          first | refine w_aload_n C dX4_fire_48 (by rfl) ?_ | refine w_aload_nN C dX4_fire_48 (by rfl) ?_
          refine w_dup C dX4_fire_49 (by rfl) ?_
          refine gf_X4_31 C hf dX4_fire_50 ?_
          refine w_iconst (v := 4) C dX4_fire_53 (by rfl) ?_
          refine w_ior C dX4_fire_54 ?_
          refine pf_X4_31 C hf dX4_fire_55 (fun h5 u5 => ?_)
          have hk := u5.oth hk hf (by intro q; simp at q)
          have hf := u5.self
          first | refine w_aload_n C dX4_fire_58 (by rfl) ?_ | refine w_aload_nN C dX4_fire_58 (by rfl) ?_
          refine w_iconst (v := 5) C dX4_fire_59 (by rfl) ?_
          refine pf_X4_15 C hf dX4_fire_60 (fun h6 u6 => ?_)
          have hk := u6.oth hk hf (by intro q; simp at q)
          have hf := u6.self
          refine w_goto (tgt := 107) C dX4_fire_63 (by rfl) ?_
          refine w_vret C M dX4_fire_107 ⟨by decide, by decide⟩ ⟨rfl, ?_⟩
          first
            | exact (u5.tr u6).to (by rw [fireN_b hfi c_45])
            | exact (u5.tr u6).to (by rw [fireN_k hfi c_45])
      · exact absurd c_33 (by decide)
    · first | refine w_aload_n C dX4_fire_13 (by rfl) ?_ | refine w_aload_nN C dX4_fire_13 (by rfl) ?_
      refine gf_X4_15 C hf dX4_fire_14 ?_
      refine w_iconst (v := 3) C dX4_fire_17 (by rfl) ?_
      refine w_icmp_ne (tgt := 30) C dX4_fire_18 (by rfl) (fun c_18 => ?_) (fun c_18 => ?_)
      · refine w_iconst (v := 0) C dX4_fire_30 (by rfl) ?_
        refine w_istore_2 C dX4_fire_31 (by first | trivial | rfl) ?_
        refine w_iload_n C dX4_fire_32 (by rfl) ?_
        refine w_if_ne (tgt := 37) C dX4_fire_33 (by rfl) (fun c_33 => ?_) (fun c_33 => ?_)
        · exact absurd rfl c_33
        · try simp only [cg_ge, cg_gt, cl_gt, cl_le, cl_eq, cl_lt, cl_ge, bi_eq0, bi_ne0, bI_eq0, Decidable.not_not, Bool.not_eq_false] at c_33
          refine w_vret C M dX4_fire_36 ⟨by decide, by decide⟩ ⟨rfl, ?_⟩
          rw [fireN_no (by simp [qWd, qHg, qWl, qSt, qWa, qCv, qSm, qMk, qSh, qCe, c_5, c_10, c_18, c_33])]
          exact (hu_id hf).symm
      · exact absurd (c_5.symm.trans c_18) (by decide)

set_option maxHeartbeats 4000000 in
set_option maxRecDepth 100000 in
theorem m_X4_fire {l : Launch} {D : va_G} {tc : Nat → ClassId} (hl : l.stackTraces = false) {h : HM} {a ka : Nat} {top cone : Int32} {kg : UInt64} {ga i : Nat} {al si fe me : Int32} {gr : UInt64} {q : QT} (hf : h a = some (potC (.ref ka) (.ref ga) q)) (hk : h ka = some (cCell top kg)) (hg : h ga = some (gCell i al si fe me gr)) (hn1 : vf_n64 (FP.dsub gr kg)) (hn2 : vf_n64 (FP.dsub kg gr)) :
    CT l D tc yX4_fire cX4_fire 3 none rm_X4_fire [.ref a, .int cone] h (rV (fun h' => Up h a (potC (.ref ka) (.ref ga) (sp_fireG cone top (sp_marks me gr kg cone) q)) h')) := by
  refine CT.start [some (.ref a), some (.int cone), none] (by decide) hl rfl rfl (fun K C M => ?_)
  obtain ⟨rfl, rfl, rfl, -⟩ := id M
  have C : CX K RX4 cX4_fire 3 rm_X4_fire := C
  first | refine w_aload_n C dX4_fire_0 (by rfl) ?_ | refine w_aload_nN C dX4_fire_0 (by rfl) ?_
  refine gf_X4_15 C hf dX4_fire_1 ?_
  refine w_iconst (v := 1) C dX4_fire_4 (by rfl) ?_
  refine w_icmp_ne (tgt := 13) C dX4_fire_5 (by rfl) (fun c_5 => ?_) (fun c_5 => ?_)
  · first | refine w_aload_n C dX4_fire_13 (by rfl) ?_ | refine w_aload_nN C dX4_fire_13 (by rfl) ?_
    refine gf_X4_15 C hf dX4_fire_14 ?_
    refine w_iconst (v := 3) C dX4_fire_17 (by rfl) ?_
    refine w_icmp_ne (tgt := 30) C dX4_fire_18 (by rfl) (fun c_18 => ?_) (fun c_18 => ?_)
    · refine w_iconst (v := 0) C dX4_fire_30 (by rfl) ?_
      refine w_istore_2 C dX4_fire_31 (by first | trivial | rfl) ?_
      refine w_iload_n C dX4_fire_32 (by rfl) ?_
      refine w_if_ne (tgt := 37) C dX4_fire_33 (by rfl) (fun c_33 => ?_) (fun c_33 => ?_)
      · exact absurd rfl c_33
      · try simp only [cg_ge, cg_gt, cl_gt, cl_le, cl_eq, cl_lt, cl_ge, bi_eq0, bi_ne0, bI_eq0, Decidable.not_not, Bool.not_eq_false] at c_33
        refine w_vret C M dX4_fire_36 ⟨by decide, by decide⟩ ⟨rfl, ?_⟩
        rw [fireG_no (by simp [qWd, qHg, qWl, qSt, qWa, qCv, qSm, qMk, qSh, qCe, c_5, c_18, c_33])]
        exact (hu_id hf).symm
    · refine w_iload_n C dX4_fire_21 (by rfl) ?_
      refine w_iconst (v := 1) C dX4_fire_22 (by rfl) ?_
      refine w_icmp_lt (tgt := 30) C dX4_fire_23 (by rfl) (fun c_23 => ?_) (fun c_23 => ?_)
      · have c_23 : ¬ 1 ≤ cone := Int32.not_le.mpr c_23
        refine w_iconst (v := 0) C dX4_fire_30 (by rfl) ?_
        refine w_istore_2 C dX4_fire_31 (by first | trivial | rfl) ?_
        refine w_iload_n C dX4_fire_32 (by rfl) ?_
        refine w_if_ne (tgt := 37) C dX4_fire_33 (by rfl) (fun c_33 => ?_) (fun c_33 => ?_)
        · exact absurd rfl c_33
        · try simp only [cg_ge, cg_gt, cl_gt, cl_le, cl_eq, cl_lt, cl_ge, bi_eq0, bi_ne0, bI_eq0, Decidable.not_not, Bool.not_eq_false] at c_33
          refine w_vret C M dX4_fire_36 ⟨by decide, by decide⟩ ⟨rfl, ?_⟩
          rw [fireG_no (by simp [qWd, qHg, qWl, qSt, qWa, qCv, qSm, qMk, qSh, qCe, c_5, c_18, c_23, c_33])]
          exact (hu_id hf).symm
      · have c_23 : 1 ≤ cone := Int32.not_lt.mp c_23
        refine w_iconst (v := 1) C dX4_fire_26 (by rfl) ?_
        refine w_goto (tgt := 31) C dX4_fire_27 (by rfl) ?_
        refine w_istore_2 C dX4_fire_31 (by first | trivial | rfl) ?_
        refine w_iload_n C dX4_fire_32 (by rfl) ?_
        refine w_if_ne (tgt := 37) C dX4_fire_33 (by rfl) (fun c_33 => ?_) (fun c_33 => ?_)
        · try simp only [cg_ge, cg_gt, cl_gt, cl_le, cl_eq, cl_lt, cl_ge, bi_eq0, bi_ne0, bI_eq0, Decidable.not_not, Bool.not_eq_false] at c_33
          have hfi : ((qSt q = 1 ∧ 2 ≤ cone) ∨ (qSt q = 3 ∧ 1 ≤ cone)) := by simp [qWd, qHg, qWl, qSt, qWa, qCv, qSm, qMk, qSh, qCe, c_5, c_18, c_23, c_33]
          refine w_iload_n C dX4_fire_37 (by rfl) ?_
          first | refine w_aload_n C dX4_fire_38 (by rfl) ?_ | refine w_aload_nN C dX4_fire_38 (by rfl) ?_
          refine gf_X4_40 C hf dX4_fire_39 ?_
          refine gf_X4_75 C hk dX4_fire_42 ?_
          refine w_icmp_le (tgt := 66) C dX4_fire_45 (by rfl) (fun c_45 => ?_) (fun c_45 => ?_)
          · have c_45 : ¬ top < cone := Int32.not_lt.mpr c_45
            first | refine w_aload_n C dX4_fire_66 (by rfl) ?_ | refine w_aload_nN C dX4_fire_66 (by rfl) ?_
            refine gf_X4_9 C hf dX4_fire_67 ?_
            refine w_ifnonnull (tgt := 81) C dX4_fire_70 (by rfl) ?_
            first | refine w_aload_n C dX4_fire_81 (by rfl) ?_ | refine w_aload_nN C dX4_fire_81 (by rfl) ?_
            refine w_dup C dX4_fire_82 (by rfl) ?_
            refine gf_X4_31 C hf dX4_fire_83 ?_
            first | refine w_aload_n C dX4_fire_86 (by rfl) ?_ | refine w_aload_nN C dX4_fire_86 (by rfl) ?_
            refine gf_X4_9 C hf dX4_fire_87 ?_
            first | refine w_aload_n C dX4_fire_90 (by rfl) ?_ | refine w_aload_nN C dX4_fire_90 (by rfl) ?_
            refine gf_X4_40 C hf dX4_fire_91 ?_
            refine w_iload_n C dX4_fire_94 (by rfl) ?_
            refine cl_X4_80 C (m_X1_marksOn hl hg hk hn1 hn2) hg (by rfl) (by rfl) ⟨by decide, by decide⟩ (by rfl) dX4_fire_95 (fun z1 h1 p1 => ?_)
            obtain ⟨rfl, rfl⟩ := p1
            refine w_ior C dX4_fire_98 ?_
            refine pf_X4_31 C hf dX4_fire_99 (fun h2 u2 => ?_)
            have hk := u2.oth hk hf (by intro q; simp at q)
            have hg := u2.oth hg hf (by intro q; simp at q)
            have hf := u2.self
            first | refine w_aload_n C dX4_fire_102 (by rfl) ?_ | refine w_aload_nN C dX4_fire_102 (by rfl) ?_
            refine w_iconst (v := 4) C dX4_fire_103 (by rfl) ?_
            refine pf_X4_15 C hf dX4_fire_104 (fun h3 u3 => ?_)
            have hk := u3.oth hk hf (by intro q; simp at q)
            have hg := u3.oth hg hf (by intro q; simp at q)
            have hf := u3.self
            refine w_vret C M dX4_fire_107 ⟨by decide, by decide⟩ ⟨rfl, ?_⟩
            first
              | exact (u2.tr u3).to (by rw [fireG_b hfi c_45])
              | exact (u2.tr u3).to (by rw [fireG_k hfi c_45])
          · have c_45 : top < cone := Int32.not_le.mp c_45
            first | refine w_aload_n C dX4_fire_48 (by rfl) ?_ | refine w_aload_nN C dX4_fire_48 (by rfl) ?_
            refine w_dup C dX4_fire_49 (by rfl) ?_
            refine gf_X4_31 C hf dX4_fire_50 ?_
            refine w_iconst (v := 4) C dX4_fire_53 (by rfl) ?_
            refine w_ior C dX4_fire_54 ?_
            refine pf_X4_31 C hf dX4_fire_55 (fun h4 u4 => ?_)
            have hk := u4.oth hk hf (by intro q; simp at q)
            have hg := u4.oth hg hf (by intro q; simp at q)
            have hf := u4.self
            first | refine w_aload_n C dX4_fire_58 (by rfl) ?_ | refine w_aload_nN C dX4_fire_58 (by rfl) ?_
            refine w_iconst (v := 5) C dX4_fire_59 (by rfl) ?_
            refine pf_X4_15 C hf dX4_fire_60 (fun h5 u5 => ?_)
            have hk := u5.oth hk hf (by intro q; simp at q)
            have hg := u5.oth hg hf (by intro q; simp at q)
            have hf := u5.self
            refine w_goto (tgt := 107) C dX4_fire_63 (by rfl) ?_
            refine w_vret C M dX4_fire_107 ⟨by decide, by decide⟩ ⟨rfl, ?_⟩
            first
              | exact (u4.tr u5).to (by rw [fireG_b hfi c_45])
              | exact (u4.tr u5).to (by rw [fireG_k hfi c_45])
        · exact absurd c_33 (by decide)
  · refine w_iload_n C dX4_fire_8 (by rfl) ?_
    refine w_iconst (v := 2) C dX4_fire_9 (by rfl) ?_
    refine w_icmp_ge (tgt := 26) C dX4_fire_10 (by rfl) (fun c_10 => ?_) (fun c_10 => ?_)
    · refine w_iconst (v := 1) C dX4_fire_26 (by rfl) ?_
      refine w_goto (tgt := 31) C dX4_fire_27 (by rfl) ?_
      refine w_istore_2 C dX4_fire_31 (by first | trivial | rfl) ?_
      refine w_iload_n C dX4_fire_32 (by rfl) ?_
      refine w_if_ne (tgt := 37) C dX4_fire_33 (by rfl) (fun c_33 => ?_) (fun c_33 => ?_)
      · try simp only [cg_ge, cg_gt, cl_gt, cl_le, cl_eq, cl_lt, cl_ge, bi_eq0, bi_ne0, bI_eq0, Decidable.not_not, Bool.not_eq_false] at c_33
        have hfi : ((qSt q = 1 ∧ 2 ≤ cone) ∨ (qSt q = 3 ∧ 1 ≤ cone)) := by simp [qWd, qHg, qWl, qSt, qWa, qCv, qSm, qMk, qSh, qCe, c_5, c_10, c_33]
        refine w_iload_n C dX4_fire_37 (by rfl) ?_
        first | refine w_aload_n C dX4_fire_38 (by rfl) ?_ | refine w_aload_nN C dX4_fire_38 (by rfl) ?_
        refine gf_X4_40 C hf dX4_fire_39 ?_
        refine gf_X4_75 C hk dX4_fire_42 ?_
        refine w_icmp_le (tgt := 66) C dX4_fire_45 (by rfl) (fun c_45 => ?_) (fun c_45 => ?_)
        · have c_45 : ¬ top < cone := Int32.not_lt.mpr c_45
          first | refine w_aload_n C dX4_fire_66 (by rfl) ?_ | refine w_aload_nN C dX4_fire_66 (by rfl) ?_
          refine gf_X4_9 C hf dX4_fire_67 ?_
          refine w_ifnonnull (tgt := 81) C dX4_fire_70 (by rfl) ?_
          first | refine w_aload_n C dX4_fire_81 (by rfl) ?_ | refine w_aload_nN C dX4_fire_81 (by rfl) ?_
          refine w_dup C dX4_fire_82 (by rfl) ?_
          refine gf_X4_31 C hf dX4_fire_83 ?_
          first | refine w_aload_n C dX4_fire_86 (by rfl) ?_ | refine w_aload_nN C dX4_fire_86 (by rfl) ?_
          refine gf_X4_9 C hf dX4_fire_87 ?_
          first | refine w_aload_n C dX4_fire_90 (by rfl) ?_ | refine w_aload_nN C dX4_fire_90 (by rfl) ?_
          refine gf_X4_40 C hf dX4_fire_91 ?_
          refine w_iload_n C dX4_fire_94 (by rfl) ?_
          refine cl_X4_80 C (m_X1_marksOn hl hg hk hn1 hn2) hg (by rfl) (by rfl) ⟨by decide, by decide⟩ (by rfl) dX4_fire_95 (fun z1 h6 p6 => ?_)
          obtain ⟨rfl, rfl⟩ := p6
          refine w_ior C dX4_fire_98 ?_
          refine pf_X4_31 C hf dX4_fire_99 (fun h7 u7 => ?_)
          have hk := u7.oth hk hf (by intro q; simp at q)
          have hg := u7.oth hg hf (by intro q; simp at q)
          have hf := u7.self
          first | refine w_aload_n C dX4_fire_102 (by rfl) ?_ | refine w_aload_nN C dX4_fire_102 (by rfl) ?_
          refine w_iconst (v := 4) C dX4_fire_103 (by rfl) ?_
          refine pf_X4_15 C hf dX4_fire_104 (fun h8 u8 => ?_)
          have hk := u8.oth hk hf (by intro q; simp at q)
          have hg := u8.oth hg hf (by intro q; simp at q)
          have hf := u8.self
          refine w_vret C M dX4_fire_107 ⟨by decide, by decide⟩ ⟨rfl, ?_⟩
          first
            | exact (u7.tr u8).to (by rw [fireG_b hfi c_45])
            | exact (u7.tr u8).to (by rw [fireG_k hfi c_45])
        · have c_45 : top < cone := Int32.not_le.mp c_45
          first | refine w_aload_n C dX4_fire_48 (by rfl) ?_ | refine w_aload_nN C dX4_fire_48 (by rfl) ?_
          refine w_dup C dX4_fire_49 (by rfl) ?_
          refine gf_X4_31 C hf dX4_fire_50 ?_
          refine w_iconst (v := 4) C dX4_fire_53 (by rfl) ?_
          refine w_ior C dX4_fire_54 ?_
          refine pf_X4_31 C hf dX4_fire_55 (fun h9 u9 => ?_)
          have hk := u9.oth hk hf (by intro q; simp at q)
          have hg := u9.oth hg hf (by intro q; simp at q)
          have hf := u9.self
          first | refine w_aload_n C dX4_fire_58 (by rfl) ?_ | refine w_aload_nN C dX4_fire_58 (by rfl) ?_
          refine w_iconst (v := 5) C dX4_fire_59 (by rfl) ?_
          refine pf_X4_15 C hf dX4_fire_60 (fun h10 u10 => ?_)
          have hk := u10.oth hk hf (by intro q; simp at q)
          have hg := u10.oth hg hf (by intro q; simp at q)
          have hf := u10.self
          refine w_goto (tgt := 107) C dX4_fire_63 (by rfl) ?_
          refine w_vret C M dX4_fire_107 ⟨by decide, by decide⟩ ⟨rfl, ?_⟩
          first
            | exact (u9.tr u10).to (by rw [fireG_b hfi c_45])
            | exact (u9.tr u10).to (by rw [fireG_k hfi c_45])
      · exact absurd c_33 (by decide)
    · first | refine w_aload_n C dX4_fire_13 (by rfl) ?_ | refine w_aload_nN C dX4_fire_13 (by rfl) ?_
      refine gf_X4_15 C hf dX4_fire_14 ?_
      refine w_iconst (v := 3) C dX4_fire_17 (by rfl) ?_
      refine w_icmp_ne (tgt := 30) C dX4_fire_18 (by rfl) (fun c_18 => ?_) (fun c_18 => ?_)
      · refine w_iconst (v := 0) C dX4_fire_30 (by rfl) ?_
        refine w_istore_2 C dX4_fire_31 (by first | trivial | rfl) ?_
        refine w_iload_n C dX4_fire_32 (by rfl) ?_
        refine w_if_ne (tgt := 37) C dX4_fire_33 (by rfl) (fun c_33 => ?_) (fun c_33 => ?_)
        · exact absurd rfl c_33
        · try simp only [cg_ge, cg_gt, cl_gt, cl_le, cl_eq, cl_lt, cl_ge, bi_eq0, bi_ne0, bI_eq0, Decidable.not_not, Bool.not_eq_false] at c_33
          refine w_vret C M dX4_fire_36 ⟨by decide, by decide⟩ ⟨rfl, ?_⟩
          rw [fireG_no (by simp [qWd, qHg, qWl, qSt, qWa, qCv, qSm, qMk, qSh, qCe, c_5, c_10, c_18, c_33])]
          exact (hu_id hf).symm
      · exact absurd (c_5.symm.trans c_18) (by decide)

-- none in p32: X3_worthOf
