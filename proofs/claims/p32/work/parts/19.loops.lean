/-! LOOPS, PLACES, AND THE NUMBERS OF THE KILN -/
theorem up_ind {N : Nat} {P : Nat → Prop} (step : ∀ j, j ≤ N → (j < N → P (j + 1)) → P j) : ∀ j, j ≤ N → P j := by
  intro j hj
  obtain ⟨d, hd⟩ : ∃ d, j + d = N := ⟨N - j, by omega⟩
  induction d generalizing j with
  | zero => exact step j hj (fun h => absurd h (by omega))
  | succ d ih => exact step j hj (fun h => ih (j + 1) (by omega) (by omega))
theorem vin {j N : Nat} (h : j < N) (hN : N < 2 ^ 31) : vp_in (nI j) N := nI_in h hN
theorem nI_i {x : Int32} {N : Nat} (h0 : 0 ≤ x.toInt) (h1 : x.toInt < N) : ∃ j, j < N ∧ x = nI j := by
  obtain ⟨j, hj, rfl⟩ := nI_of (x := x) (by rw [Int32.lt_iff_toInt_lt]; simpa using h0)
  rw [nI_toInt hj] at h1
  exact ⟨j, by omega, rfl⟩
theorem nI_is0 {n : Nat} (h : n < 2 ^ 31) : nI n = 0 ↔ n = 0 := nI_eq (b := 0) h (by decide)
theorem nI_is1 {n : Nat} (h : n < 2 ^ 31) : nI n = 1 ↔ n = 1 := nI_eq (b := 1) h (by decide)
theorem nI_lt0 {n : Nat} (h : n < 2 ^ 31) : nI n < 0 ↔ False := ⟨fun q => nI_pos h q, False.elim⟩
theorem nI_ge0 {n : Nat} (h : n < 2 ^ 31) : 0 ≤ nI n ↔ True := ⟨fun _ => trivial, fun _ => nI_pos' h⟩
section WWP
variable {K : KC} {n : Nat × Nat} {pc : Nat} {lv lv' : List (Option Value)} {st st0 : List Value} {h : HM} {own : String} {cc : ByteArray} {nL : Nat} {R : Room}
theorem w_ialdn (C : CX K own cc nL R) {a m j : Nat} {f : Nat → Int32} (ha : h a = some (.inl (Kt K 0, m, .inl f))) (hj : j < m) (hm : m < 2 ^ 31) (hd : decode cc pc = .ok (.iaload, 1)) (k : WW K n (pc + 1) lv (.int (f j) :: st) h) : WW K n pc lv (.int (nI j) :: .ref a :: st) h := w_iald C ha (vin hj hm) hd (by rw [nI_clamp (by omega)]; exact k)
theorem w_zaldn (C : CX K own cc nL R) {a m j : Nat} {f : Nat → Int32} (ha : h a = some (.inl (Kt K 1, m, .inl f))) (hj : j < m) (hm : m < 2 ^ 31) (hd : decode cc pc = .ok (.baload, 1)) (k : WW K n (pc + 1) lv (.int (f j) :: st) h) : WW K n pc lv (.int (nI j) :: .ref a :: st) h := w_zald C ha (vin hj hm) hd (by rw [nI_clamp (by omega)]; exact k)
theorem w_zastn (C : CX K own cc nL R) {a m j : Nat} {f : Nat → Int32} (ha : h a = some (.inl (Kt K 1, m, .inl f))) {x : Int32} (hj : j < m) (hm : m < 2 ^ 31) (hx : x = 0 ∨ x = 1) (hd : decode cc pc = .ok (.bastore, 1)) (k : ∀ h', Up h a (.inl (Kt K 1, m, .inl (upd f j x))) h' → WW K n (pc + 1) lv st h') : WW K n pc lv (.int x :: .int (nI j) :: .ref a :: st) h :=
  w_zast C ha (vin hj hm) hx hd (by rw [nI_clamp (by omega)]; exact k _ rfl)
theorem w_daldn (C : CX K own cc nL R) {a m j : Nat} {f : Nat → UInt64} (ha : h a = some (.inl (Kt K 2, m, .inr (.inr (.inr (.inl f)))))) (hj : j < m) (hm : m < 2 ^ 31) (hd : decode cc pc = .ok (.daload, 1)) (k : WW K n (pc + 1) lv (.double (f j) :: st) h) : WW K n pc lv (.int (nI j) :: .ref a :: st) h := w_dald C ha (vin hj hm) hd (by rw [nI_clamp (by omega)]; exact k)
theorem w_aaldn (C : CX K own cc nL R) (t0 : Nat) {cA : ClassId} {E : String} {a m j : Nat} {f : Nat → Option Nat} (ha : h a = some (.inl (cA, m, .inr (.inr (.inr (.inr f)))))) (ht : (tysK (Kt K))[t0]? = some (cA, .object E)) (hj : j < m) (hm : m < 2 ^ 31) (hd : decode cc pc = .ok (.aaload, 1)) (k : WW K n (pc + 1) lv (va_rf (f j) :: st) h) : WW K n pc lv (.int (nI j) :: .ref a :: st) h := w_aald C t0 ha ht (vin hj hm) hd (by rw [nI_clamp (by omega)]; exact k)
theorem w_iastn (C : CX K own cc nL R) {a m j : Nat} {f : Nat → Int32} (ha : h a = some (.inl (Kt K 0, m, .inl f))) {x : Int32} (hj : j < m) (hm : m < 2 ^ 31) (hd : decode cc pc = .ok (.iastore, 1)) (k : ∀ h', Up h a (.inl (Kt K 0, m, .inl (upd f j x))) h' → WW K n (pc + 1) lv st h') : WW K n pc lv (.int x :: .int (nI j) :: .ref a :: st) h := w_iast C ha (vin hj hm) hd (k _ (by rw [nI_clamp (by omega)]; rfl))
theorem w_dastn (C : CX K own cc nL R) {a m j : Nat} {f : Nat → UInt64} (ha : h a = some (.inl (Kt K 2, m, .inr (.inr (.inr (.inl f)))))) {x : UInt64} (hj : j < m) (hm : m < 2 ^ 31) (hd : decode cc pc = .ok (.dastore, 1)) (k : ∀ h', Up h a (.inl (Kt K 2, m, .inr (.inr (.inr (.inl (vf_upd f j x)))))) h' → WW K n (pc + 1) lv st h') : WW K n pc lv (.double x :: .int (nI j) :: .ref a :: st) h := w_dast C ha (vin hj hm) hd (k _ (by rw [nI_clamp (by omega)]; rfl))
theorem w_aastn (C : CX K own cc nL R) (t0 : Nat) {cA : ClassId} {r : vw_C} {a m v ci j : Nat} {vs : List Value} {f : Nat → Option Nat} (ha : h a = some (.inl (cA, m, .inr (.inr (.inr (.inr f)))))) (ht : (tysK (Kt K))[t0]? = some (cA, .object r.1)) (hv : h v = some (.inr (ci, vs))) (hc : vwCl[ci]? = some r) (hj : j < m) (hm : m < 2 ^ 31) (hd : decode cc pc = .ok (.aastore, 1)) (k : ∀ h', Up h a (.inl (cA, m, .inr (.inr (.inr (.inr (va_up f j (some v))))))) h' → WW K n (pc + 1) lv st h') : WW K n pc lv (.ref v :: .int (nI j) :: .ref a :: st) h := w_aast C t0 ha ht hv hc (vin hj hm) hd (k _ (by rw [nI_clamp (by omega)]; rfl))
theorem w_tialdn (C : CX K own cc nL R) {t N j : Nat} {f : Nat → Value} (hT : va_T .int t N f (KA K) (Ks K) (Ks K).heap) (hj : j < N) (hm : N < 2 ^ 31) (hd : decode cc pc = .ok (.iaload, 1)) (k : WW K n (pc + 1) lv (f j :: st) h) : WW K n pc lv (.int (nI j) :: .ref t :: st) h := w_tiald C hT (vin hj hm) hd (by rw [nI_clamp (by omega)]; exact k)
theorem w_tdaldn (C : CX K own cc nL R) {t N j : Nat} {f : Nat → Value} (hT : va_T .double t N f (KA K) (Ks K) (Ks K).heap) (hj : j < N) (hm : N < 2 ^ 31) (hd : decode cc pc = .ok (.daload, 1)) (k : WW K n (pc + 1) lv (f j :: st) h) : WW K n pc lv (.int (nI j) :: .ref t :: st) h := w_tdald C hT (vin hj hm) hd (by rw [nI_clamp (by omega)]; exact k)
end WWP
/-! the numbers of the kiln -/
theorem dfin_f2d {p : UInt32} (h : FP.Core.FFin p) : DF (FP.f2d p) := by
  have e : FP.f2d p = FP.Core.f2d p := FP.f2d_core h.notNaN
  rw [e]; exact FP.Core.f2d_fin h
theorem Ht.part16 {t : UInt64} (H : Ht t) : DF (FP.ddiv (FP.dsub t 4626322717216342016) 4625196817309499392) := by
  obtain ⟨d, up, -, -, lo⟩ := H.sub20
  have p := dO_pos
  have e20 : dz 4626322717216342016 = 20 * dO := by rw [dz_whole w20]; rfl
  have n20 : dz (FP.dneg 4626322717216342016) = -(20 * dO) := by rw [dz_dneg, e20]
  have e14 : dz 4653872080561897472 = 1400 * dO := by rw [dz_whole w1400]; rfl
  have b := H.2.2
  have n := ddiv_n d.n (pw_df pw16) (pw_nz pw16)
  refine df_between n (df_dneg (df_whole w20)) (df_whole w1400) (ddiv_ge pw16 d (df_dneg (df_whole w20)).n ?_) (ddiv_le pw16 d (df_whole w1400).n ?_)
  · rw [n20]; omega
  · rw [e14]; omega
theorem Ht.part8 {t : UInt64} (H : Ht t) : DF (sp_loss t) ∧ dz (sp_loss t) ≤ 1400 * dO ∧ -(20 * dO) ≤ dz (sp_loss t) := by
  obtain ⟨d, up, -, -, lo⟩ := H.sub20
  have p := dO_pos
  have e20 : dz 4626322717216342016 = 20 * dO := by rw [dz_whole w20]; rfl
  have n20 : dz (FP.dneg 4626322717216342016) = -(20 * dO) := by rw [dz_dneg, e20]
  have e14 : dz 4653872080561897472 = 1400 * dO := by rw [dz_whole w1400]; rfl
  have b := H.2.2
  have n := ddiv_n d.n (pw_df pw8) (pw_nz pw8)
  have g1 := ddiv_ge pw8 d (df_dneg (df_whole w20)).n (by rw [n20]; omega)
  have g2 := ddiv_le pw8 d (df_whole w1400).n (by rw [e14]; omega)
  refine ⟨df_between n (df_dneg (df_whole w20)) (df_whole w1400) g1 g2, ?_, ?_⟩
  · rw [e14] at g2; exact g2
  · rw [n20] at g1; exact g1
theorem gives_n {t : UInt64} {p : UInt32} (H : Ht t) (hp : FP.Core.FFin p) : dN (FP.dmul (FP.f2d p) 4636033603912859648) ∧ dN (FP.dsub (FP.dmul (FP.f2d p) 4636033603912859648) (FP.ddiv (FP.dsub t 4626322717216342016) 4625196817309499392)) ∧ ∀ o, dN (sp_gives t p o) := by
  have h1 : dN (FP.dmul (FP.f2d p) 4636033603912859648) := dmul_n (dfin_f2d hp) (df_whole w90)
  have h2 := dsub_n h1 H.part16
  refine ⟨h1, h2, fun o => ?_⟩
  unfold sp_gives
  cases o
  · exact h2
  · exact dsub_n h2 (df_whole w50)
theorem cool_n {t : UInt64} (H : Ht t) : dN (FP.dsub t (FP.ddiv (FP.dsub t 4626322717216342016) 4611686018427387904)) ∧ dN (FP.ddiv (FP.dsub t 4626322717216342016) 4611686018427387904) ∧ dN (FP.dsub t (FP.ddiv (FP.dsub t 4626322717216342016) 4620693217682128896)) ∧ dN (FP.ddiv (FP.dsub t 4626322717216342016) 4620693217682128896) := by
  obtain ⟨d, up, -, -, lo⟩ := H.sub20
  have p := dO_pos
  have e20 : dz 4626322717216342016 = 20 * dO := by rw [dz_whole w20]; rfl
  have n20 : dz (FP.dneg 4626322717216342016) = -(20 * dO) := by rw [dz_dneg, e20]
  have e14 : dz 4653872080561897472 = 1400 * dO := by rw [dz_whole w1400]; rfl
  have b := H.2.2
  have n := ddiv_n d.n (pw_df pw2) (pw_nz pw2)
  have d2 : DF (FP.ddiv (FP.dsub t 4626322717216342016) 4611686018427387904) := by
    refine df_between n (df_dneg (df_whole w20)) (df_whole w1400) (ddiv_ge pw2 d (df_dneg (df_whole w20)).n ?_) (ddiv_le pw2 d (df_whole w1400).n ?_)
    · rw [n20]; omega
    · rw [e14]; omega
  exact ⟨dsub_n H.1 d2, n, dsub_n H.1 H.part8.1, H.part8.1.n⟩
