/-! NEW ARRAYS, PROGRAMS, KILNS -/
theorem Up.frN {h h' : HM} {q : Nat} {e : va_E} (u : Up h q e h') (n : h q = none) : Fr [] h h' := fun b z _ hb => u.new hb n
theorem Fr.none1 {h h' : HM} {a q : Nat} {e : va_E} (u : Fr [a] h h') (ha : h' a = some e) (n : h' q = none) : h q = none := by
  cases hq : h q with
  | none => rfl
  | some z =>
    by_cases w : q = a
    · subst w; rw [ha] at n; cases n
    · rw [u q z (by simpa using w) hq] at n; cases n
section WWN
variable {K : KC} {n : Nat × Nat} {pc : Nat} {lv lv' : List (Option Value)} {st st0 : List Value} {h : HM} {own : String} {cc : ByteArray} {nL : Nat} {R : Room}
theorem ao_Clay (C : CX K own cc nL R) : va_AO "KilnYard$Clay" (Ks K) := (cx_sw C).ao.1
theorem ao_Glaze (C : CX K own cc nL R) : va_AO "KilnYard$Glaze" (Ks K) := (cx_sw C).ao.2.1
theorem ao_Order (C : CX K own cc nL R) : va_AO "KilnYard$Order" (Ks K) := (cx_sw C).ao.2.2.1
theorem ao_Pot (C : CX K own cc nL R) : va_AO "KilnYard$Pot" (Ks K) := (cx_sw C).ao.2.2.2.1
theorem ao_Ramp (C : CX K own cc nL R) : va_AO "KilnYard$Ramp" (Ks K) := (cx_sw C).ao.2.2.2.2
theorem w_newadn (C : CX K own cc nL R) {m : Int32} {N : Nat} (w1 : Cond.arrayClass .double ∈ lw_G) (hm : ¬ m < 0) (hN : m.toNatClampNeg = N) (hb : N * 8 ≤ 536870912) (h1 : n.1 + 1 ≤ R.cells) (h2 : n.2 + N ≤ R.slots) (hd : decode cc pc = .ok (.newarray .double, 2))
    (k : ∀ (q : Nat) (h' : HM), h q = none → Up h q (.inl (Kt K 2, N, .inr (.inr (.inr (.inl (fun _ => 0)))))) h' → WW K (n.1 + 1, n.2 + N) (pc + 2) lv (.ref q :: st) h') : WW K n pc lv (.int m :: st) h := w_newad C w1 hm hN hb h1 h2 hd (fun q hq => k q _ hq rfl)
theorem w_newain (C : CX K own cc nL R) {m : Int32} {N : Nat} (w1 : Cond.arrayClass .int ∈ lw_G) (hm : ¬ m < 0) (hN : m.toNatClampNeg = N) (hb : N * 4 ≤ 536870912) (h1 : n.1 + 1 ≤ R.cells) (h2 : n.2 + N ≤ R.slots) (hd : decode cc pc = .ok (.newarray .int, 2))
    (k : ∀ (q : Nat) (h' : HM), h q = none → Up h q (.inl (Kt K 0, N, .inl (fun _ => 0))) h' → WW K (n.1 + 1, n.2 + N) (pc + 2) lv (.ref q :: st) h') : WW K n pc lv (.int m :: st) h := w_newai C w1 hm hN hb h1 h2 hd (fun q hq => k q _ hq rfl)
theorem w_anewn (C : CX K own cc nL R) {m : Int32} {N idx : Nat} {E : String} (t0 : Nat) {cA : ClassId} (ht : (tysK (Kt K))[t0]? = some (cA, .object E)) (hE : va_AO E (Ks K)) (w1 : Cond.classLink own idx E ∈ lw_G) (hm : ¬ m < 0) (hN : m.toNatClampNeg = N) (hb : N * 4 ≤ 536870912) (h1 : n.1 + 1 ≤ R.cells) (h2 : n.2 + N ≤ R.slots) (hd : decode cc pc = .ok (.anewarray idx, 3))
    (k : ∀ (q : Nat) (h' : HM), h q = none → Up h q (qCell cA N (fun _ => none)) h' → WW K (n.1 + 1, n.2 + N) (pc + 3) lv (.ref q :: st) h') : WW K n pc lv (.int m :: st) h := w_anewa C t0 ht hE w1 hm hN hb h1 h2 hd (fun q hq => k q _ hq rfl)
end WWN

set_option maxHeartbeats 4000000 in
set_option maxRecDepth 100000 in
theorem m_X5_init {l : Launch} {D : va_G} {tc : Nat → ClassId} (hl : l.stackTraces = false) {h : HM} {a : Nat} {v0 v1 : Value} (hf : h a = some (.inr (4, [v0, v1]))) :
    CT l D tc yX5_init cX5_init 1 none rm_X5_init [.ref a] h (rV (fun h' => ∃ q, h q = none ∧ h' a = some (pCell q 0) ∧ h' q = some (qCell (tc 7) 5 (fun _ => none)) ∧ Fr [a] h h')) := by
  refine CT.start [some (.ref a)] (by decide) hl rfl rfl (fun K C M => ?_)
  obtain ⟨rfl, rfl, rfl, -⟩ := id M
  have C : CX K RX5 cX5_init 1 rm_X5_init := C
  first | refine w_aload_n C dX5_init_0 (by rfl) ?_ | refine w_aload_nN C dX5_init_0 (by rfl) ?_
  refine w_obji C gw_59 gw_44 gw_45 (by rfl) (by rfl) (by rfl) dX5_init_1 ?_
  first | refine w_aload_n C dX5_init_4 (by rfl) ?_ | refine w_aload_nN C dX5_init_4 (by rfl) ?_
  refine w_iconst (v := 5) C dX5_init_5 (by rfl) ?_
  refine w_anewn C 7 (by rfl) (ao_Ramp C) gw_60 (by decide) (by rfl) (by decide) (by decide) (by decide) dX5_init_6 (fun ra h1 n1 u1 => ?_)
  have hf := u1.new hf n1
  have f_ra := u1.self
  refine pf_X5_11 C hf dX5_init_9 M.2.2.2.2.2.2.1 (fun h2 u2 => ?_)
  have f_ra := u2.oth f_ra hf (by intro q; simp at q)
  have hf := u2.self
  first | refine w_aload_n C dX5_init_12 (by rfl) ?_ | refine w_aload_nN C dX5_init_12 (by rfl) ?_
  refine w_iconst (v := 0) C dX5_init_13 (by rfl) ?_
  refine pf_X5_17 C hf dX5_init_14 (fun h3 u3 => ?_)
  have f_ra := u3.oth f_ra hf (by intro q; simp at q)
  have hf := u3.self
  refine w_vret C M dX5_init_17 ⟨by decide, by decide⟩ ⟨rfl, ?_⟩
  exact ⟨ra, n1, hf, f_ra, ((((u1.frN n1).sub (by simp)).tr (u2.fr.sub (by simp))).tr (u3.fr.sub (by simp)))⟩

set_option maxHeartbeats 4000000 in
set_option maxRecDepth 100000 in
theorem m_X2_init {l : Launch} {D : va_G} {tc : Nat → ClassId} (hl : l.stackTraces = false) {h : HM} {a pr : Nat} {v0 v1 v2 v3 v4 v5 v6 v7 v8 v9 v10 v11 v12 : Value} (hf : h a = some (.inr (2, [v0, v1, v2, v3, v4, v5, v6, v7, v8, v9, v10, v11, v12]))) :
    CT l D tc yX2_init cX2_init 2 none rm_X2_init [.ref a, .ref pr] h (rV (fun h' => ∃ q, h q = none ∧ h' a = some (kCell pr q 4626322717216342016 0 (4626322717216342016, FP.fconst1, false, false, 0, 0, 0, 0, 0, fun _ => 0)) ∧ h' q = some (wCell tc (fun _ => 0)) ∧ Fr [a] h h')) := by
  refine CT.start [some (.ref a), some (.ref pr)] (by decide) hl rfl rfl (fun K C M => ?_)
  obtain ⟨rfl, rfl, rfl, -⟩ := id M
  have C : CX K RX2 cX2_init 2 rm_X2_init := C
  first | refine w_aload_n C dX2_init_0 (by rfl) ?_ | refine w_aload_nN C dX2_init_0 (by rfl) ?_
  refine w_obji C gw_77 gw_44 gw_45 (by rfl) (by rfl) (by rfl) dX2_init_1 ?_
  first | refine w_aload_n C dX2_init_4 (by rfl) ?_ | refine w_aload_nN C dX2_init_4 (by rfl) ?_
  refine lc_X2_9 C dX2_init_5 ?_
  refine pf_X2_11 C hf dX2_init_8 (fun h1 u1 => ?_)
  have hf := u1.self
  first | refine w_aload_n C dX2_init_11 (by rfl) ?_ | refine w_aload_nN C dX2_init_11 (by rfl) ?_
  refine lc_X2_9 C dX2_init_12 ?_
  refine pf_X2_17 C hf dX2_init_15 (fun h2 u2 => ?_)
  have hf := u2.self
  first | refine w_aload_n C dX2_init_18 (by rfl) ?_ | refine w_aload_nN C dX2_init_18 (by rfl) ?_
  refine w_fconst1 C dX2_init_19 ?_
  refine pf_X2_20 C hf dX2_init_20 (fun h3 u3 => ?_)
  have hf := u3.self
  first | refine w_aload_n C dX2_init_23 (by rfl) ?_ | refine w_aload_nN C dX2_init_23 (by rfl) ?_
  refine w_iconst (v := 0) C dX2_init_24 (by rfl) ?_
  refine pf_X2_24 C hf dX2_init_25 (fun h4 u4 => ?_)
  have hf := u4.self
  first | refine w_aload_n C dX2_init_28 (by rfl) ?_ | refine w_aload_nN C dX2_init_28 (by rfl) ?_
  refine w_iconst (v := 0) C dX2_init_29 (by rfl) ?_
  refine pf_X2_28 C hf (by first | exact Or.inl rfl | exact Or.inr rfl | assumption | exact bI_01 _ | exact bi_01 _) dX2_init_30 (fun h5 u5 => ?_)
  have hf := u5.self
  first | refine w_aload_n C dX2_init_33 (by rfl) ?_ | refine w_aload_nN C dX2_init_33 (by rfl) ?_
  refine w_iconst (v := 0) C dX2_init_34 (by rfl) ?_
  refine pf_X2_32 C hf (by first | exact Or.inl rfl | exact Or.inr rfl | assumption | exact bI_01 _ | exact bi_01 _) dX2_init_35 (fun h6 u6 => ?_)
  have hf := u6.self
  first | refine w_aload_n C dX2_init_38 (by rfl) ?_ | refine w_aload_nN C dX2_init_38 (by rfl) ?_
  refine w_iconst (v := 0) C dX2_init_39 (by rfl) ?_
  refine pf_X2_35 C hf dX2_init_40 (fun h7 u7 => ?_)
  have hf := u7.self
  first | refine w_aload_n C dX2_init_43 (by rfl) ?_ | refine w_aload_nN C dX2_init_43 (by rfl) ?_
  refine w_iconst (v := 0) C dX2_init_44 (by rfl) ?_
  refine pf_X2_38 C hf dX2_init_45 (fun h8 u8 => ?_)
  have hf := u8.self
  first | refine w_aload_n C dX2_init_48 (by rfl) ?_ | refine w_aload_nN C dX2_init_48 (by rfl) ?_
  refine w_iconst (v := 0) C dX2_init_49 (by rfl) ?_
  refine pf_X2_41 C hf dX2_init_50 (fun h9 u9 => ?_)
  have hf := u9.self
  first | refine w_aload_n C dX2_init_53 (by rfl) ?_ | refine w_aload_nN C dX2_init_53 (by rfl) ?_
  refine w_iconst (v := 0) C dX2_init_54 (by rfl) ?_
  refine pf_X2_44 C hf dX2_init_55 (fun h10 u10 => ?_)
  have hf := u10.self
  first | refine w_aload_n C dX2_init_58 (by rfl) ?_ | refine w_aload_nN C dX2_init_58 (by rfl) ?_
  refine w_iconst (v := 0) C dX2_init_59 (by rfl) ?_
  refine pf_X2_47 C hf dX2_init_60 (fun h11 u11 => ?_)
  have hf := u11.self
  first | refine w_aload_n C dX2_init_63 (by rfl) ?_ | refine w_aload_nN C dX2_init_63 (by rfl) ?_
  refine w_iconst (v := 3) C dX2_init_64 (by rfl) ?_
  have fr0 : Fr [a] h _ := (((((((((((u1.fr.sub (by simp)).tr (u2.fr.sub (by simp))).tr (u3.fr.sub (by simp))).tr (u4.fr.sub (by simp))).tr (u5.fr.sub (by simp))).tr (u6.fr.sub (by simp))).tr (u7.fr.sub (by simp))).tr (u8.fr.sub (by simp))).tr (u9.fr.sub (by simp))).tr (u10.fr.sub (by simp))).tr (u11.fr.sub (by simp)))
  have hf0 := hf
  refine w_newadn C gw_130 (by decide) (by rfl) (by decide) (by decide) (by decide) dX2_init_65 (fun wk h12 n12 u12 => ?_)
  have hf := u12.new hf n12
  have f_wk := u12.self
  refine pf_X2_50 C hf dX2_init_67 M.2.2.2.2.2.2.1 (fun h13 u13 => ?_)
  have f_wk := u13.oth f_wk hf (by intro q; simp at q)
  have hf := u13.self
  first | refine w_aload_n C dX2_init_70 (by rfl) ?_ | refine w_aload_nN C dX2_init_70 (by rfl) ?_
  first | refine w_aload_n C dX2_init_71 (by rfl) ?_ | refine w_aload_nN C dX2_init_71 (by rfl) ?_
  refine pf_X2_54 C hf dX2_init_72 M.2.2.2.2.2.2.1 (fun h14 u14 => ?_)
  have f_wk := u14.oth f_wk hf (by intro q; simp at q)
  have hf := u14.self
  refine w_vret C M dX2_init_75 ⟨by decide, by decide⟩ ⟨rfl, ?_⟩
  exact ⟨wk, fr0.none1 hf0 n12, hf, f_wk, ((((((((((((((u1.fr.sub (by simp)).tr (u2.fr.sub (by simp))).tr (u3.fr.sub (by simp))).tr (u4.fr.sub (by simp))).tr (u5.fr.sub (by simp))).tr (u6.fr.sub (by simp))).tr (u7.fr.sub (by simp))).tr (u8.fr.sub (by simp))).tr (u9.fr.sub (by simp))).tr (u10.fr.sub (by simp))).tr (u11.fr.sub (by simp))).tr ((u12.frN n12).sub (by simp))).tr (u13.fr.sub (by simp))).tr (u14.fr.sub (by simp)))⟩
