/-! MORE OF DOUBLES: bits from values; max, min, abs as choices; differences turned round -/
theorem key_pos {a : UInt64} (hn : dN a) (h : 0 < dz a) : a.toNat < 2 ^ 63 := by
  rcases Nat.lt_or_ge a.toNat (2 ^ 63) with w | w
  · exact w
  · have := FP.Core.zval_nonpos hn w
    have h9 : 0 < FP.Core.zval FP.Core.b64 (FP.Core.val64 a) := h
    omega
theorem eq_bits {a b : UInt64} (ha : dN a) (hb : dN b) (h : 0 < dz a) (e : deq a b) : a = b := by
  have hz : dz a = dz b := dcmp_eq9 ha hb e
  have k := (FP.Core.dcmp_eq_key ha hb).mp e
  have pa := key_pos ha h
  have pb := key_pos hb (by rw [← hz]; exact h)
  unfold FP.Core.dkey at k
  rw [if_neg (by omega), if_neg (by omega)] at k
  exact UInt64.toNat_inj.mp (by omega)
theorem tri9 {a b : UInt64} (ha : dN a) (hb : dN b) : dlt a b ∨ dgt a b ∨ deq a b := by
  have e := dcmp_of ha hb
  cases hc : compare (dz a) (dz b) with
  | lt => left; show FP.dcmp a b = _; rw [e, hc]
  | gt => right; left; show FP.dcmp a b = _; rw [e, hc]
  | eq => right; right; show FP.dcmp a b = _; rw [e, hc]
abbrev pk64 (g : Bool) (a b : UInt64) : UInt64 := Native.java_lang_Math.nans.pick64 g a b
theorem pk_max {a b : UInt64} (ha : dN a) (hb : dN b) (h : 0 < dz a) : pk64 true a b = if dlt b a then a else b := by
  unfold pk64 Native.java_lang_Math.nans.pick64
  rcases tri9 ha hb with w | w | w
  · have nb : ¬ dlt b a := fun v => by have := dcmp_lt9 ha hb w; have := dcmp_lt9 hb ha v; omega
    rw [show FP.dcmp a b = some .lt from w, if_neg nb]; rfl
  · have nb : dlt b a := (dcmp_lt9i hb ha).mpr (dcmp_gt9 ha hb w)
    rw [show FP.dcmp a b = some .gt from w, if_pos nb]; rfl
  · have e9 := eq_bits ha hb h w
    subst e9
    repeat' split
    all_goals rfl
theorem pk_min {a b : UInt64} (ha : dN a) (hb : dN b) (h : 0 < dz a) : pk64 false a b = if dgt b a then a else b := by
  unfold pk64 Native.java_lang_Math.nans.pick64
  rcases tri9 ha hb with w | w | w
  · have nb : dgt b a := (dcmp_gt9i hb ha).mpr (dcmp_lt9 ha hb w)
    rw [show FP.dcmp a b = some .lt from w, if_pos nb]; rfl
  · have nb : ¬ dgt b a := fun v => by have := dcmp_gt9 ha hb w; have := dcmp_gt9 hb ha v; omega
    rw [show FP.dcmp a b = some .gt from w, if_neg nb]; rfl
  · have e9 := eq_bits ha hb h w
    subst e9
    repeat' split
    all_goals rfl
theorem pk_min2 {a b : UInt64} (ha : dN a) (hb : dN b) (h : 0 < dz a) : pk64 false a b = if dlt b a then b else a := by
  unfold pk64 Native.java_lang_Math.nans.pick64
  rcases tri9 ha hb with w | w | w
  · have nb : ¬ dlt b a := fun v => by have := dcmp_lt9 ha hb w; have := dcmp_lt9 hb ha v; omega
    rw [show FP.dcmp a b = some .lt from w, if_neg nb]; rfl
  · have nb : dlt b a := (dcmp_lt9i hb ha).mpr (dcmp_gt9 ha hb w)
    rw [show FP.dcmp a b = some .gt from w, if_pos nb]; rfl
  · have e9 := eq_bits ha hb h w
    subst e9
    repeat' split
    all_goals rfl
theorem dsub_0 {a : UInt64} (h : dN a) : FP.dsub a FP.dconst0 = a := (FP.Core.dsub_eq a FP.dconst0).trans (by rw [show FP.Core.dneg FP.dconst0 = FP.Core.dzeroNeg from by decide +kernel]; exact FP.Core.dadd_zeroNeg h)
theorem dadd_n12 (t : UInt64) : FP.dadd t 13846317054350589952 = FP.dsub t 4622945017495814144 := by
  rw [show (13846317054350589952 : UInt64) = FP.Core.dneg 4622945017495814144 from by decide +kernel]
  exact (FP.Core.dsub_eq _ _).symm
theorem Ht.pos {t : UInt64} (H : Ht t) : 0 < dz t := by have := dO_pos; have := H.2.1; omega
theorem dadd_00 {t : UInt64} (h : dN t) (h0 : 0 < dz t) : FP.dadd t 0 = t := FP.Core.dadd_zero h (fun w => by
  have := key_pos h h0
  rw [w] at this
  revert this
  decide)
/-- how hot it is on a shelf, as the reference reckons it -/
theorem hot_near {t : UInt64} (H : Ht t) {s : Nat} (hs : s < 3) : FP.dadd t (nrC s) = sp_hot s t := by
  rcases s with _ | _ | _ | s
  · exact dadd_n12 t
  · exact dadd_00 H.1 H.pos
  · rfl
  · omega
theorem fall_pk {t : UInt64} {r : RT} (H : Ht t) (hr : 10 ≤ r.1.toInt ∧ r.1.toInt ≤ 200) (ht : 100 ≤ r.2.1.toInt ∧ r.2.1.toInt ≤ 1400) : pk64 true (FP.i2d r.2.1) (FP.dsub t (pk64 false (FP.i2d r.1) (sp_loss t))) = sp_fallH r t := by
  have p := dO_pos
  have e1 : 0 < dz (FP.i2d r.1) := by rw [dz_i2d]; exact Int.mul_pos (by omega) p
  have e2 : 0 < dz (FP.i2d r.2.1) := by rw [dz_i2d]; exact Int.mul_pos (by omega) p
  have dl := H.part8.1
  rw [pk_min2 (df_i2d _).n dl.n e1]
  have hx : DF (if dlt (sp_loss t) (FP.i2d r.1) then sp_loss t else FP.i2d r.1) := by
    split
    · exact dl
    · exact df_i2d _
  rw [pk_max (df_i2d _).n (dsub_n H.1 hx) e2]
  rfl
theorem rise_pk {t g : UInt64} {r : RT} (H : Ht t) (hr : 10 ≤ r.1.toInt ∧ r.1.toInt ≤ 200) (ht : 100 ≤ r.2.1.toInt ∧ r.2.1.toInt ≤ 1400) (hg : dN g) (h1 : ¬ dlt g FP.dconst1) : pk64 false (FP.i2d r.2.1) (FP.dadd t (pk64 false (FP.i2d r.1) g)) = if dgt (FP.dadd t (if dlt g (FP.i2d r.1) then g else FP.i2d r.1)) (FP.i2d r.2.1) then FP.i2d r.2.1 else FP.dadd t (if dlt g (FP.i2d r.1) then g else FP.i2d r.1) := by
  have p := dO_pos
  have e1 : 0 < dz (FP.i2d r.1) := by rw [dz_i2d]; exact Int.mul_pos (by omega) p
  have e2 : 0 < dz (FP.i2d r.2.1) := by rw [dz_i2d]; exact Int.mul_pos (by omega) p
  rw [pk_min2 (df_i2d _).n hg e1]
  have hx := (inc_ok hr hg h1).1
  rw [pk_min (df_i2d _).n (dadd_n H.1 hx) e2]
/-- the work of a step, as the reference reckons it -/
theorem addw_pk {t w : UInt64} (H : Ht t) (hw : okW w) {s : Nat} : FP.dadd w (FP.ddiv (pk64 true FP.dconst0 (FP.dsub (sp_hot s t) 4649368480934526976)) 4629700416936869888) = sp_addw (sp_hot s t) w := by
  have hh := hot_ok H s
  have d7 : DF 4649368480934526976 := df_whole w700
  have e7 : dz 4649368480934526976 = 700 * dO := by rw [dz_whole w700]; rfl
  have dc0 : FP.dconst0 = 0 := by decide +kernel
  rw [dc0]
  unfold sp_addw
  by_cases h : dgt (sp_hot s t) 4649368480934526976
  · rw [if_pos h]
    obtain ⟨k1, k2⟩ := hot700 hh.1 hh.2 h
    have lt : dlt 0 (FP.dsub (sp_hot s t) 4649368480934526976) := (dcmp_lt9i df_0.n k1.n).mpr (by rw [dz_0]; exact k2)
    unfold pk64 Native.java_lang_Math.nans.pick64
    rw [show FP.dcmp 0 (FP.dsub (sp_hot s t) 4649368480934526976) = some .lt from lt]
    rfl
  · rw [if_neg h]
    have le := dcmp_le9 hh.1.n d7.n h
    have dn := dsub_n hh.1.n d7
    have l0 : dz (FP.dsub (sp_hot s t) 4649368480934526976) ≤ 0 := by
      have := dsub_le hh.1 d7 df_0.n (V := 0) (by rw [dz_0]; omega)
      rwa [dz_0] at this
    have e : pk64 true 0 (FP.dsub (sp_hot s t) 4649368480934526976) = 0 := by
      unfold pk64 Native.java_lang_Math.nans.pick64
      rcases tri9 df_0.n dn with v | v | v
      · have := dcmp_lt9 df_0.n dn v; rw [dz_0] at this; omega
      · rw [show FP.dcmp 0 (FP.dsub (sp_hot s t) 4649368480934526976) = some .gt from v]; rfl
      · rw [show FP.dcmp 0 (FP.dsub (sp_hot s t) 4649368480934526976) = some .eq from v]
        dsimp only
        rw [if_neg (by decide)]
    rw [e, show FP.ddiv 0 4629700416936869888 = 0 from by decide +kernel]
    exact hw.z
/-- a difference, and the same turned round -/
theorem sub_turn {a b : UInt64} (ha : DF a) (hb : DF b) : dz (FP.dsub b a) = - dz (FP.dsub a b) := by
  obtain ⟨s, c, q, e⟩ := ha
  obtain ⟨t, d, r, e'⟩ := hb
  show FP.Core.zval _ (FP.Core.val64 (FP.Core.dsub b a)) = - FP.Core.zval _ (FP.Core.val64 (FP.Core.dsub a b))
  rw [FP.Core.val64_dsub, FP.Core.val64_dsub, e, e']
  show FP.Core.zval _ (FP.Core.roundRatio _ (FP.Core.sumSign t (!s) (FP.Core.sumUnits t d r (!s) c q (min r q))) (FP.Core.sumUnits t d r (!s) c q (min r q)).natAbs 1 (min r q)) = - FP.Core.zval _ (FP.Core.roundRatio _ (FP.Core.sumSign s (!t) (FP.Core.sumUnits s c q (!t) d r (min q r))) (FP.Core.sumUnits s c q (!t) d r (min q r)).natAbs 1 (min q r))
  rw [Int.min_comm r q]
  generalize hm : min q r = m
  have hv : FP.Core.sumUnits t d r (!s) c q m = - FP.Core.sumUnits s c q (!t) d r m := by
    unfold FP.Core.sumUnits FP.Core.signed
    cases s <;> cases t <;> simp <;> omega
  rw [hv, Int.natAbs_neg]
  generalize FP.Core.sumUnits s c q (!t) d r m = v
  by_cases h0 : v = 0
  · subst h0
    have z : ∀ s9 : Bool, FP.Core.zval FP.Core.b64 (FP.Core.roundRatio FP.Core.b64 s9 0 1 m) = 0 := by
      intro s9
      unfold FP.Core.roundRatio
      rw [if_pos rfl]
      unfold FP.Core.zval FP.Core.sgn FP.Core.zmag FP.Core.inUnits FP.Core.signed
      cases s9 <;> simp
    show FP.Core.zval _ (FP.Core.roundRatio _ _ 0 1 m) = - FP.Core.zval _ (FP.Core.roundRatio _ _ 0 1 m)
    rw [z, z]; rfl
  · have e9 : FP.Core.sumSign t (!s) (-v) = !(FP.Core.sumSign s (!t) v) := by
      unfold FP.Core.sumSign
      rw [if_neg (by omega), if_neg h0]
      by_cases h1 : v < 0
      · rw [decide_eq_true h1, decide_eq_false (by omega)]; rfl
      · rw [decide_eq_false h1, decide_eq_true (by omega)]; rfl
    rw [e9, ← FP.Core.negate_roundRatio, FP.Core.zval_negate]
/-- without its sign -/
theorem dz_abs {a : UInt64} (hn : dN a) : dN (a &&& 0x7fffffffffffffff) ∧ dz (a &&& 0x7fffffffffffffff) = if 0 ≤ dz a then dz a else - dz a := by
  have hm := FP.Core.mask_toNat a
  have hlt : a.toNat % 2 ^ 63 < 2 ^ 63 := Nat.mod_lt _ (by decide)
  have nn : dN (a &&& 0x7fffffffffffffff) := (FP.Core.ne_nan _).mpr (by rw [hm]; have := (FP.Core.ne_nan a).mp hn; rw [Nat.mod_eq_of_lt hlt]; exact this)
  refine ⟨nn, ?_⟩
  have e1 : FP.Core.zmag FP.Core.b64 (FP.Core.val64 (a &&& 0x7fffffffffffffff)) = FP.Core.zmag FP.Core.b64 (FP.Core.val64 a) := by
    rw [FP.Core.zmag_bits nn, FP.Core.zmag_bits hn, hm, Nat.mod_eq_of_lt hlt]
  have e2 : FP.Core.sgn (FP.Core.val64 (a &&& 0x7fffffffffffffff)) = false := by
    rw [FP.Core.sgn_bits nn, hm]; exact decide_eq_false (by omega)
  show FP.Core.zval _ _ = if 0 ≤ FP.Core.zval _ _ then FP.Core.zval _ _ else - FP.Core.zval _ _
  unfold FP.Core.zval
  rw [e1, e2]
  generalize FP.Core.zmag FP.Core.b64 (FP.Core.val64 a) = m
  cases FP.Core.sgn (FP.Core.val64 a) <;> unfold FP.Core.signed <;> simp <;> omega
theorem abs_nan {a : UInt64} (hn : dN a) : a &&& 0x7fffffffffffffff ≤ 0x7ff0000000000000 := nn_of hn
/-- what a pot feels of a change, either way -/
theorem change_abs {old hot : UInt64} (ho : DF old) (hh : DF hot) {lim : UInt64} (hl : dN lim) : dgt (FP.dsub hot old &&& 0x7fffffffffffffff) lim ↔ dgt (sp_change old hot) lim := by
  have n1 := dsub_n hh.n ho
  have n2 := dsub_n ho.n hh
  have tn := sub_turn ho hh
  obtain ⟨a1, a2⟩ := dz_abs n1
  have c1 : dN (sp_change old hot) ∧ dz (sp_change old hot) = if 0 ≤ dz (FP.dsub hot old) then dz (FP.dsub hot old) else - dz (FP.dsub hot old) := by
    unfold sp_change
    by_cases h : dlt hot old
    · rw [if_pos h]
      refine ⟨n2, ?_⟩
      have := dcmp_lt9 hh.n ho.n h
      have l0 : dz (FP.dsub hot old) ≤ 0 := by
        have := dsub_le hh ho df_0.n (V := 0) (by rw [dz_0]; omega)
        rwa [dz_0] at this
      split <;> omega
    · rw [if_neg h]
      refine ⟨n1, ?_⟩
      have := dcmp_ge9 hh.n ho.n h
      have l0 : 0 ≤ dz (FP.dsub hot old) := by
        have := dsub_ge hh ho df_0.n (V := 0) (by rw [dz_0]; omega)
        rwa [dz_0] at this
      rw [if_pos l0]
  rw [dcmp_gt9i a1 hl, dcmp_gt9i c1.1 hl, a2, c1.2]
/-- a distance, either way -/
theorem dist_abs {gr kg : UInt64} (hg : DF gr) (hk : DF kg) : dN (sp_dist gr kg) ∧ dz (sp_dist gr kg) = dz (FP.dsub gr kg &&& 0x7fffffffffffffff) ∧ dN (FP.dsub gr kg &&& 0x7fffffffffffffff) := by
  have n1 := dsub_n hg.n hk
  obtain ⟨a1, a2⟩ := dz_abs n1
  rw [a2]
  refine ⟨?_, ?_, a1⟩
  · unfold sp_dist
    split
    · intro w
      rw [FP.val64_dneg] at w
      exact n1 ((FP.Core.negate_nan _).mp w)
    · exact n1
  · unfold sp_dist
    by_cases h : dlt (FP.dsub gr kg) 0
    · have := dcmp_lt9 n1 df_0.n h
      rw [dz_0] at this
      rw [if_pos h, dz_dneg, if_neg (by omega)]
    · have := dcmp_ge9 n1 df_0.n h
      rw [dz_0] at this
      rw [if_neg h, if_pos this]
theorem w2 : FP.i2d 2 = 4611686018427387904 := by decide +kernel
theorem wn2 : FP.i2d (-2) = 13835058055282163712 := by decide +kernel
theorem shiv_turn {gr kg : UInt64} (hg : DF gr) (hk : DF kg) : dlt (FP.dsub gr kg) 13835058055282163712 ↔ dgt (FP.dsub kg gr) 4611686018427387904 := by
  have n1 := dsub_n hg.n hk
  have n2 := dsub_n hk.n hg
  have tn := sub_turn hg hk
  rw [dcmp_lt9i n1 (df_whole wn2).n, dcmp_gt9i n2 (df_whole w2).n, dz_whole wn2, dz_whole w2, tn]
  have e1 : (-2 : Int32).toInt = -2 := by decide
  have e2 : (2 : Int32).toInt = 2 := by decide
  rw [e1, e2]
  omega
/-- a clay's growth in quarters -/
theorem cg_mul {q : Int32} (h : 8 ≤ q.toInt ∧ q.toInt ≤ 40) : FP.dmul (FP.i2d q) 4598175219545276416 = sp_cg q := by
  obtain ⟨j, hj, rfl⟩ := nI_i (x := q) (N := 41) (by omega) (by omega)
  have key : ∀ j : Fin 41, FP.dmul (FP.i2d (nI j.1)) 4598175219545276416 = sp_cg (nI j.1) := by decide +kernel
  exact key ⟨j, hj⟩
theorem cg_fin {q : Int32} (h : 8 ≤ q.toInt ∧ q.toInt ≤ 40) : DF (sp_cg q) := by
  obtain ⟨j, hj, rfl⟩ := nI_i (x := q) (N := 41) (by omega) (by omega)
  have key : ∀ j : Fin 41, (sp_cg (nI j.1)).toNat % 2 ^ 63 < 9218868437227405312 := by decide +kernel
  exact df_lit (key ⟨j, hj⟩)
