/-! THE LAW'S START: two new yards, two rows, and then the loop -/
theorem hj_none {a b : HM} {x : Nat} (h : hj a b x = none) : a x = none ∧ b x = none := by
  simp only [hj] at h
  cases ha : a x with
  | some z => rw [ha] at h; cases h
  | none => rw [ha] at h; exact ⟨rfl, h⟩
theorem hu_3 {a b c : HM} {o : Nat} {x : va_E} (n : hj a (hj b c) o = none) : hu (hj a (hj b c)) o x = hj a (hj b (hu c o x)) := by
  obtain ⟨n1, n2⟩ := hj_none n
  rw [hj_hu n1, hj_hu (hj_none n2).1]
theorem D2.hu9 {a c : HM} {o : Nat} {x : va_E} (d : D2 a c) (n : a o = none) : D2 a (hu c o x) := fun y e h => by
  by_cases w : y = o
  · subst w; exact n
  · rw [hu_ne _ _ w] at h; exact d _ _ h
theorem D2.e9 {a : HM} : D2 a (fun _ => none) := fun x e h => by cases h
theorem hj_e {a : HM} : hj a (fun _ => none) = a := by
  funext x
  simp only [hj]
  cases a x <;> rfl
theorem hu_2 {a : HM} {o : Nat} {x : va_E} (n : a o = none) : hu a o x = hj a (hj (hu (fun _ => none) o x) (fun _ => none)) := by
  rw [hj_e, ← hj_hu n, hj_e]

set_option maxHeartbeats 4000000 in
set_option maxRecDepth 100000 in
theorem law_start {K : KC} (C : CX K RL cL_law 9 room_1) (hl : (Kl K).stackTraces = false) (hN : NCs (Ks K)) {b L : Nat} {xs : Nat → Int32} (hL : L ≤ 3072) (X : LX K b L xs)
    (kend : ∀ (n : Nat × Nat) (lv : List (Option Value)) (h : HM), n.1 ≤ 757560 → n.2 ≤ 6823425 → WW K n 2008 lv [] h) :
    WW K (0, 0) 0 [some (.ref b), none, none, none, none, none, none, none, none] [] (fun _ => none) := by
  refine nw_L_8 C (by decide) (by decide) dL_law_0 (fun y0 h1 n1 u1 => ?_)
  refine w_dup C dL_law_3 (by rfl) ?_
  refine cl_L_100 C (m_X7_init hl u1.self) (by rfl) (by rfl) ⟨by decide, by decide⟩ (by rfl) dL_law_4 (fun hA Y => ?_)
  first | refine w_astore_1 C dL_law_7 (by first | trivial | rfl) ?_ | refine w_astore_1N C dL_law_7 (by first | trivial | rfl) ?_
  refine nw_L_101 C (by decide) (by decide) dL_law_8 (fun m0 h3 n3 u3 => ?_)
  obtain rfl := Eq.trans (show h3 = hu hA m0 _ from u3) (hu_2 n3)
  refine w_dup C dL_law_11 (by rfl) ?_
  refine cl_L_103 C (CT.fBV (D2.hu9 D2.e9 n3) D2.e9 D2.e9 (m_X10_init hl (hu_self _ _ _))) (by rfl) (by rfl) ⟨by decide, by decide⟩ (by rfl) dL_law_12 (fun h4 q4 => ?_)
  obtain ⟨hB, M, rfl, dAB, dBE⟩ := q4
  first | refine w_astore_2 C dL_law_15 (by first | trivial | rfl) ?_ | refine w_astore_2N C dL_law_15 (by first | trivial | rfl) ?_
  refine w_iconst (v := 1) C dL_law_16 (by rfl) ?_
  refine w_newal (N := 1) C gw_1607 (by decide) (by rfl) (by decide) (by decide) (by decide) dL_law_17 (fun o3 n5 => ?_)
  rw [hu_3 n5]
  first | refine w_astore_3 C dL_law_19 (by first | trivial | rfl) ?_ | refine w_astore_3N C dL_law_19 (by first | trivial | rfl) ?_
  refine w_iconst (v := 1) C dL_law_20 (by rfl) ?_
  refine w_newad (N := 1) C gw_175 (by decide) (by rfl) (by decide) (by decide) (by decide) dL_law_21 (fun o4 n6 => ?_)
  rw [hu_3 n6]
  first | refine w_astore_4 C dL_law_23 (by first | trivial | rfl) ?_ | refine w_astore_4N C dL_law_23 (by first | trivial | rfl) ?_
  refine w_iconst (v := 0) C dL_law_25 (by rfl) ?_
  refine w_istore_5 C dL_law_26 (by first | trivial | rfl) ?_
  obtain ⟨kl, wk, j9⟩ := jt_new Y M
  obtain ⟨a5, b5⟩ := hj_none n5
  obtain ⟨a6, b6⟩ := hj_none n6
  refine law_loop (kl := kl) (wk := wk) C hl hN hL X kend (L + 1) 0 0 (by omega) (Nat.zero_le _) (Nat.le_refl _) _ (by decide) (by decide) _ ?_
  exact ⟨hA, hB, _, _, _, _, rfl, dAB, (D2.hu9 (D2.hu9 D2.e9 a5) a6), (D2.hu9 (D2.hu9 D2.e9 (hj_none b5).1) (hj_none b6).1), ⟨hu_n (hu_self _ _ _) (hj_none b6).2, hu_self _ _ _⟩, j9⟩
