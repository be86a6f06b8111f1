/-! WHAT HEAT AND FIRE DO; GLAZES; ORDERS -/
def sp_change (old hot : UInt64) : UInt64 := if dlt hot old then FP.dsub old hot else FP.dsub hot old
def sp_feel1 (old hot : UInt64) (smoky : Bool) (q : QT) : QT :=
  (qWd q, qHg q, qWl q, qSt q, qWa q, qCv q, (if smoky = true ∧ dge hot 4650248090236747776 then qSm q + 1 else qSm q), (if sp_over old hot ∧ dgt (sp_change old hot) (FP.ddiv 4638707616191610880 (FP.i2d (qWl q))) then qMk q ||| 2 else qMk q), qSh q, qCe q)
def sp_feel (old hot : UInt64) (smoky : Bool) (q : QT) : QT :=
  if qSt q = 5 then q
  else if qSt q = 0 ∧ dgt hot 4636737291354636288 then (qWd q, qHg q, qWl q, 5, qWa q, qCv q, qSm q, qMk q ||| 1, qSh q, qCe q)
  else sp_feel1 old hot smoky q
theorem feel_5 {old hot : UInt64} {sm : Bool} {q : QT} (h : qSt q = 5) : sp_feel old hot sm q = q := if_pos h
theorem feel_0 {old hot : UInt64} {sm : Bool} {q : QT} (h5 : ¬ qSt q = 5) (h : qSt q = 0) (g : dgt hot 4636737291354636288) : sp_feel old hot sm q = (qWd q, qHg q, qWl q, 5, qWa q, qCv q, qSm q, qMk q ||| 1, qSh q, qCe q) := (if_neg h5).trans (if_pos ⟨h, g⟩)
theorem feel_1 {old hot : UInt64} {sm : Bool} {q : QT} (h5 : ¬ qSt q = 5) (h : ¬ (qSt q = 0 ∧ dgt hot 4636737291354636288)) : sp_feel old hot sm q = sp_feel1 old hot sm q := (if_neg h5).trans (if_neg h)
/-- the marks that a glaze has on a clay -/
def sp_marks (me : Int32) (gr kg : UInt64) (cone : Int32) : Int32 :=
  (((0 ||| (if cone < me then 8 else 0)) ||| (if me + 2 < cone then 16 else 0)) ||| (if dgt (FP.dsub gr kg) 4611686018427387904 then 32 else 0)) ||| (if dgt (FP.dsub kg gr) 4611686018427387904 then 64 else 0)
def sp_fired (cone : Int32) (q : QT) : Prop := (qSt q = 1 ∧ 2 ≤ cone) ∨ (qSt q = 3 ∧ 1 ≤ cone)
def sp_dist (gr kg : UInt64) : UInt64 := if dlt (FP.dsub gr kg) 0 then FP.dneg (FP.dsub gr kg) else FP.dsub gr kg
def sp_round (x : UInt64) : Int32 := if dgt (FP.dsub x (FP.i2d (FP.d2i x))) 4602678819172646912 ∨ (deq (FP.dsub x (FP.i2d (FP.d2i x))) 4602678819172646912 ∧ ¬ FP.d2i x - FP.d2i x / 2 * 2 = 0) then FP.d2i x + 1 else FP.d2i x
def sp_mx (g : GT) : UInt64 := FP.dadd (FP.dmul 4609434218613702656 (FP.ddiv (FP.i2d g.2.2.1) (FP.i2d (g.1 + g.2.1)))) (FP.dmul 4602678819172646912 (FP.ddiv (FP.i2d g.2.2.2.1) (FP.i2d (g.1 + g.2.1))))
def sp_melts (g : GT) : Int32 := if 12 ≤ sp_round (sp_mx g) then 12 else sp_round (sp_mx g)
def sp_gnum (g : GT) : UInt64 := FP.dadd (FP.dadd (FP.dadd (FP.dmul 4620693217682128896 (FP.i2d g.1)) (FP.dmul 4616189618054758400 (FP.i2d g.2.1))) (FP.dmul 4611686018427387904 (FP.i2d g.2.2.1))) (FP.i2d g.2.2.2.1)
def sp_growth (g : GT) : UInt64 := FP.ddiv (sp_gnum g) (FP.i2d (g.1 + g.2.1 + g.2.2.1 + g.2.2.2.1))

set_option maxHeartbeats 4000000 in
set_option maxRecDepth 100000 in
theorem sg_X4_feel_96 {K : KC} (C : CX K RX4 cX4_feel 9 rm_X4_feel) (hl : (Kl K).stackTraces = false) {h : HM} {a : Nat} {kv gv : Value} {q : QT} (hf : h a = some (potC kv gv q)) {old hot ch : UInt64} {smoky : Bool} {ov : Int32} (hch : ch = sp_change old hot) (hov : ov = bI (sp_over old hot)) (hn : vf_n64 (FP.ddiv 4638707616191610880 (FP.i2d (qWl q)))) {h9 : HM} {P : HM → Prop} (M : MX K (KD K) (Kt K) (Kl K) rm_X4_feel none h9 (rV P) yX4_feel.name) (fin : ∀ h', Up h a (potC kv gv (sp_feel1 old hot smoky q)) h' → P h') : WW K (0, 0) 96 [some (.ref a), some (.double old), none, some (.double hot), none, some (.int (bi smoky)), some (.double ch), none, some (.int ov)] [] h := by
  subst hch
  subst hov
  refine w_iload C dX4_feel_96 (by rfl) ?_
  refine w_if_eq (tgt := 126) C dX4_feel_98 (by rfl) (fun c_98 => ?_) (fun c_98 => ?_)
  · try simp only [cg_ge, cg_gt, cl_gt, cl_le, cl_eq, cl_lt, cl_ge, bi_eq0, bi_ne0, bI_eq0, Decidable.not_not, Bool.not_eq_false] at c_98
    refine w_iload C dX4_feel_126 (by rfl) ?_
    refine w_if_eq (tgt := 149) C dX4_feel_128 (by rfl) (fun c_128 => ?_) (fun c_128 => ?_)
    · try simp only [cg_ge, cg_gt, cl_gt, cl_le, cl_eq, cl_lt, cl_ge, bi_eq0, bi_ne0, bI_eq0, Decidable.not_not, Bool.not_eq_false] at c_128
      refine w_vret C M dX4_feel_149 ⟨by decide, by decide⟩ ⟨rfl, ?_⟩
      first
        | exact fin _ ((no ups).to (by simp only [sp_feel1, dlt, dgt, deq, dge, dle, kH, kP, kO, kL, kA, kE, kC, kF, kS, kW, qWd, qHg, qWl, qSt, qWa, qCv, qSm, qMk, qSh, qCe, c_98, c_128, not_false_eq_true, not_true_eq_false, and_self, and_true, true_and, and_false, false_and, if_true, if_false, Bool.false_eq_true]))
        | exact fin _ ((show Up _ _ _ _ from (hu_id hf).symm).to (by simp only [sp_feel1, dlt, dgt, deq, dge, dle, kH, kP, kO, kL, kA, kE, kC, kF, kS, kW, qWd, qHg, qWl, qSt, qWa, qCv, qSm, qMk, qSh, qCe, c_98, c_128, and_self, and_true, true_and, and_false, false_and, if_true, if_false, Bool.false_eq_true]))
    · try simp only [cg_ge, cg_gt, cl_gt, cl_le, cl_eq, cl_lt, cl_ge, bi_eq0, bi_ne0, bI_eq0, Decidable.not_not, Bool.not_eq_false] at c_128
      refine w_dload_n C dX4_feel_131 (by rfl) ?_
      refine lc_X4_73 C dX4_feel_132 ?_
      refine w_dcmp C dX4_feel_135 ?_
      refine w_if_lt (tgt := 149) C dX4_feel_136 (by rfl) (fun c_136 => ?_) (fun c_136 => ?_)
      · try simp only [cg_ge, cg_gt, cl_gt, cl_le, cl_eq, cl_lt, cl_ge, bi_eq0, bi_ne0, bI_eq0, Decidable.not_not, Bool.not_eq_false] at c_136
        refine w_vret C M dX4_feel_149 ⟨by decide, by decide⟩ ⟨rfl, ?_⟩
        first
          | exact fin _ ((no ups).to (by simp only [sp_feel1, dlt, dgt, deq, dge, dle, kH, kP, kO, kL, kA, kE, kC, kF, kS, kW, qWd, qHg, qWl, qSt, qWa, qCv, qSm, qMk, qSh, qCe, c_98, c_128, c_136, not_false_eq_true, not_true_eq_false, and_self, and_true, true_and, and_false, false_and, if_true, if_false, Bool.false_eq_true]))
          | exact fin _ ((show Up _ _ _ _ from (hu_id hf).symm).to (by simp only [sp_feel1, dlt, dgt, deq, dge, dle, kH, kP, kO, kL, kA, kE, kC, kF, kS, kW, qWd, qHg, qWl, qSt, qWa, qCv, qSm, qMk, qSh, qCe, c_98, c_128, c_136, and_self, and_true, true_and, and_false, false_and, if_true, if_false, Bool.false_eq_true]))
      · try simp only [cg_ge, cg_gt, cl_gt, cl_le, cl_eq, cl_lt, cl_ge, bi_eq0, bi_ne0, bI_eq0, Decidable.not_not, Bool.not_eq_false] at c_136
        first | refine w_aload_n C dX4_feel_139 (by rfl) ?_ | refine w_aload_nN C dX4_feel_139 (by rfl) ?_
        refine w_dup C dX4_feel_140 (by rfl) ?_
        refine gf_X4_28 C hf dX4_feel_141 ?_
        refine w_iconst (v := 1) C dX4_feel_144 (by rfl) ?_
        refine w_iadd C dX4_feel_145 ?_
        refine pf_X4_28 C hf dX4_feel_146 (fun h1 u1 => ?_)
        have hf := u1.self
        refine w_vret C M dX4_feel_149 ⟨by decide, by decide⟩ ⟨rfl, ?_⟩
        first
          | exact fin _ (u1.to (by simp only [sp_feel1, dlt, dgt, deq, dge, dle, kH, kP, kO, kL, kA, kE, kC, kF, kS, kW, qWd, qHg, qWl, qSt, qWa, qCv, qSm, qMk, qSh, qCe, c_98, c_128, c_136, not_false_eq_true, not_true_eq_false, and_self, and_true, true_and, and_false, false_and, if_true, if_false, Bool.false_eq_true]))
          | exact fin _ ((show Up _ _ _ _ from (hu_id hf).symm).to (by simp only [sp_feel1, dlt, dgt, deq, dge, dle, kH, kP, kO, kL, kA, kE, kC, kF, kS, kW, qWd, qHg, qWl, qSt, qWa, qCv, qSm, qMk, qSh, qCe, c_98, c_128, c_136, and_self, and_true, true_and, and_false, false_and, if_true, if_false, Bool.false_eq_true]))
  · try simp only [cg_ge, cg_gt, cl_gt, cl_le, cl_eq, cl_lt, cl_ge, bi_eq0, bi_ne0, bI_eq0, Decidable.not_not, Bool.not_eq_false] at c_98
    refine w_dload C dX4_feel_101 (by rfl) ?_
    refine lc_X4_71 C dX4_feel_103 ?_
    first | refine w_aload_n C dX4_feel_106 (by rfl) ?_ | refine w_aload_nN C dX4_feel_106 (by rfl) ?_
    refine gf_X4_50 C hf dX4_feel_107 ?_
    refine w_i2d C dX4_feel_110 ?_
    refine w_ddiv C dX4_feel_111 hn ?_
    refine w_dcmp C dX4_feel_112 ?_
    refine w_if_le (tgt := 126) C dX4_feel_113 (by rfl) (fun c_113 => ?_) (fun c_113 => ?_)
    · try simp only [cg_ge, cg_gt, cl_gt, cl_le, cl_eq, cl_lt, cl_ge, bi_eq0, bi_ne0, bI_eq0, Decidable.not_not, Bool.not_eq_false] at c_113
      refine w_iload C dX4_feel_126 (by rfl) ?_
      refine w_if_eq (tgt := 149) C dX4_feel_128 (by rfl) (fun c_128 => ?_) (fun c_128 => ?_)
      · try simp only [cg_ge, cg_gt, cl_gt, cl_le, cl_eq, cl_lt, cl_ge, bi_eq0, bi_ne0, bI_eq0, Decidable.not_not, Bool.not_eq_false] at c_128
        refine w_vret C M dX4_feel_149 ⟨by decide, by decide⟩ ⟨rfl, ?_⟩
        first
          | exact fin _ ((no ups).to (by simp only [sp_feel1, dlt, dgt, deq, dge, dle, kH, kP, kO, kL, kA, kE, kC, kF, kS, kW, qWd, qHg, qWl, qSt, qWa, qCv, qSm, qMk, qSh, qCe, c_98, c_113, c_128, not_false_eq_true, not_true_eq_false, and_self, and_true, true_and, and_false, false_and, if_true, if_false, Bool.false_eq_true]))
          | exact fin _ ((show Up _ _ _ _ from (hu_id hf).symm).to (by simp only [sp_feel1, dlt, dgt, deq, dge, dle, kH, kP, kO, kL, kA, kE, kC, kF, kS, kW, qWd, qHg, qWl, qSt, qWa, qCv, qSm, qMk, qSh, qCe, c_98, c_113, c_128, and_self, and_true, true_and, and_false, false_and, if_true, if_false, Bool.false_eq_true]))
      · try simp only [cg_ge, cg_gt, cl_gt, cl_le, cl_eq, cl_lt, cl_ge, bi_eq0, bi_ne0, bI_eq0, Decidable.not_not, Bool.not_eq_false] at c_128
        refine w_dload_n C dX4_feel_131 (by rfl) ?_
        refine lc_X4_73 C dX4_feel_132 ?_
        refine w_dcmp C dX4_feel_135 ?_
        refine w_if_lt (tgt := 149) C dX4_feel_136 (by rfl) (fun c_136 => ?_) (fun c_136 => ?_)
        · try simp only [cg_ge, cg_gt, cl_gt, cl_le, cl_eq, cl_lt, cl_ge, bi_eq0, bi_ne0, bI_eq0, Decidable.not_not, Bool.not_eq_false] at c_136
          refine w_vret C M dX4_feel_149 ⟨by decide, by decide⟩ ⟨rfl, ?_⟩
          first
            | exact fin _ ((no ups).to (by simp only [sp_feel1, dlt, dgt, deq, dge, dle, kH, kP, kO, kL, kA, kE, kC, kF, kS, kW, qWd, qHg, qWl, qSt, qWa, qCv, qSm, qMk, qSh, qCe, c_98, c_113, c_128, c_136, not_false_eq_true, not_true_eq_false, and_self, and_true, true_and, and_false, false_and, if_true, if_false, Bool.false_eq_true]))
            | exact fin _ ((show Up _ _ _ _ from (hu_id hf).symm).to (by simp only [sp_feel1, dlt, dgt, deq, dge, dle, kH, kP, kO, kL, kA, kE, kC, kF, kS, kW, qWd, qHg, qWl, qSt, qWa, qCv, qSm, qMk, qSh, qCe, c_98, c_113, c_128, c_136, and_self, and_true, true_and, and_false, false_and, if_true, if_false, Bool.false_eq_true]))
        · try simp only [cg_ge, cg_gt, cl_gt, cl_le, cl_eq, cl_lt, cl_ge, bi_eq0, bi_ne0, bI_eq0, Decidable.not_not, Bool.not_eq_false] at c_136
          first | refine w_aload_n C dX4_feel_139 (by rfl) ?_ | refine w_aload_nN C dX4_feel_139 (by rfl) ?_
          refine w_dup C dX4_feel_140 (by rfl) ?_
          refine gf_X4_28 C hf dX4_feel_141 ?_
          refine w_iconst (v := 1) C dX4_feel_144 (by rfl) ?_
          refine w_iadd C dX4_feel_145 ?_
          refine pf_X4_28 C hf dX4_feel_146 (fun h2 u2 => ?_)
          have hf := u2.self
          refine w_vret C M dX4_feel_149 ⟨by decide, by decide⟩ ⟨rfl, ?_⟩
          first
            | exact fin _ (u2.to (by simp only [sp_feel1, dlt, dgt, deq, dge, dle, kH, kP, kO, kL, kA, kE, kC, kF, kS, kW, qWd, qHg, qWl, qSt, qWa, qCv, qSm, qMk, qSh, qCe, c_98, c_113, c_128, c_136, not_false_eq_true, not_true_eq_false, and_self, and_true, true_and, and_false, false_and, if_true, if_false, Bool.false_eq_true]))
            | exact fin _ ((show Up _ _ _ _ from (hu_id hf).symm).to (by simp only [sp_feel1, dlt, dgt, deq, dge, dle, kH, kP, kO, kL, kA, kE, kC, kF, kS, kW, qWd, qHg, qWl, qSt, qWa, qCv, qSm, qMk, qSh, qCe, c_98, c_113, c_128, c_136, and_self, and_true, true_and, and_false, false_and, if_true, if_false, Bool.false_eq_true]))
    · try simp only [cg_ge, cg_gt, cl_gt, cl_le, cl_eq, cl_lt, cl_ge, bi_eq0, bi_ne0, bI_eq0, Decidable.not_not, Bool.not_eq_false] at c_113
      first | refine w_aload_n C dX4_feel_116 (by rfl) ?_ | refine w_aload_nN C dX4_feel_116 (by rfl) ?_
      refine w_dup C dX4_feel_117 (by rfl) ?_
      refine gf_X4_31 C hf dX4_feel_118 ?_
      refine w_iconst (v := 2) C dX4_feel_121 (by rfl) ?_
      refine w_ior C dX4_feel_122 ?_
      refine pf_X4_31 C hf dX4_feel_123 (fun h3 u3 => ?_)
      have hf := u3.self
      refine w_iload C dX4_feel_126 (by rfl) ?_
      refine w_if_eq (tgt := 149) C dX4_feel_128 (by rfl) (fun c_128 => ?_) (fun c_128 => ?_)
      · try simp only [cg_ge, cg_gt, cl_gt, cl_le, cl_eq, cl_lt, cl_ge, bi_eq0, bi_ne0, bI_eq0, Decidable.not_not, Bool.not_eq_false] at c_128
        refine w_vret C M dX4_feel_149 ⟨by decide, by decide⟩ ⟨rfl, ?_⟩
        first
          | exact fin _ (u3.to (by simp only [sp_feel1, dlt, dgt, deq, dge, dle, kH, kP, kO, kL, kA, kE, kC, kF, kS, kW, qWd, qHg, qWl, qSt, qWa, qCv, qSm, qMk, qSh, qCe, c_98, c_113, c_128, not_false_eq_true, not_true_eq_false, and_self, and_true, true_and, and_false, false_and, if_true, if_false, Bool.false_eq_true]))
          | exact fin _ ((show Up _ _ _ _ from (hu_id hf).symm).to (by simp only [sp_feel1, dlt, dgt, deq, dge, dle, kH, kP, kO, kL, kA, kE, kC, kF, kS, kW, qWd, qHg, qWl, qSt, qWa, qCv, qSm, qMk, qSh, qCe, c_98, c_113, c_128, and_self, and_true, true_and, and_false, false_and, if_true, if_false, Bool.false_eq_true]))
      · try simp only [cg_ge, cg_gt, cl_gt, cl_le, cl_eq, cl_lt, cl_ge, bi_eq0, bi_ne0, bI_eq0, Decidable.not_not, Bool.not_eq_false] at c_128
        refine w_dload_n C dX4_feel_131 (by rfl) ?_
        refine lc_X4_73 C dX4_feel_132 ?_
        refine w_dcmp C dX4_feel_135 ?_
        refine w_if_lt (tgt := 149) C dX4_feel_136 (by rfl) (fun c_136 => ?_) (fun c_136 => ?_)
        · try simp only [cg_ge, cg_gt, cl_gt, cl_le, cl_eq, cl_lt, cl_ge, bi_eq0, bi_ne0, bI_eq0, Decidable.not_not, Bool.not_eq_false] at c_136
          refine w_vret C M dX4_feel_149 ⟨by decide, by decide⟩ ⟨rfl, ?_⟩
          first
            | exact fin _ (u3.to (by simp only [sp_feel1, dlt, dgt, deq, dge, dle, kH, kP, kO, kL, kA, kE, kC, kF, kS, kW, qWd, qHg, qWl, qSt, qWa, qCv, qSm, qMk, qSh, qCe, c_98, c_113, c_128, c_136, not_false_eq_true, not_true_eq_false, and_self, and_true, true_and, and_false, false_and, if_true, if_false, Bool.false_eq_true]))
            | exact fin _ ((show Up _ _ _ _ from (hu_id hf).symm).to (by simp only [sp_feel1, dlt, dgt, deq, dge, dle, kH, kP, kO, kL, kA, kE, kC, kF, kS, kW, qWd, qHg, qWl, qSt, qWa, qCv, qSm, qMk, qSh, qCe, c_98, c_113, c_128, c_136, and_self, and_true, true_and, and_false, false_and, if_true, if_false, Bool.false_eq_true]))
        · try simp only [cg_ge, cg_gt, cl_gt, cl_le, cl_eq, cl_lt, cl_ge, bi_eq0, bi_ne0, bI_eq0, Decidable.not_not, Bool.not_eq_false] at c_136
          first | refine w_aload_n C dX4_feel_139 (by rfl) ?_ | refine w_aload_nN C dX4_feel_139 (by rfl) ?_
          refine w_dup C dX4_feel_140 (by rfl) ?_
          refine gf_X4_28 C hf dX4_feel_141 ?_
          refine w_iconst (v := 1) C dX4_feel_144 (by rfl) ?_
          refine w_iadd C dX4_feel_145 ?_
          refine pf_X4_28 C hf dX4_feel_146 (fun h4 u4 => ?_)
          have hf := u4.self
          refine w_vret C M dX4_feel_149 ⟨by decide, by decide⟩ ⟨rfl, ?_⟩
          first
            | exact fin _ ((u3.tr u4).to (by simp only [sp_feel1, dlt, dgt, deq, dge, dle, kH, kP, kO, kL, kA, kE, kC, kF, kS, kW, qWd, qHg, qWl, qSt, qWa, qCv, qSm, qMk, qSh, qCe, c_98, c_113, c_128, c_136, not_false_eq_true, not_true_eq_false, and_self, and_true, true_and, and_false, false_and, if_true, if_false, Bool.false_eq_true]))
            | exact fin _ ((show Up _ _ _ _ from (hu_id hf).symm).to (by simp only [sp_feel1, dlt, dgt, deq, dge, dle, kH, kP, kO, kL, kA, kE, kC, kF, kS, kW, qWd, qHg, qWl, qSt, qWa, qCv, qSm, qMk, qSh, qCe, c_98, c_113, c_128, c_136, and_self, and_true, true_and, and_false, false_and, if_true, if_false, Bool.false_eq_true]))
