section WWH
variable {K : KC} {n : Nat × Nat} {pc : Nat} {lv lv' : List (Option Value)} {st : List Value} {h : HM} {own : String} {cc : ByteArray} {nL : Nat} {R : Room}
/-- what a list of the tables' words says of one shape's fields -/
theorem w_getf (C : CX K own cc nL R) {ref Cn : String} {T : u_T} {N ci index a : Nat} {fs : List Value} {v : Value} (kf : Nat) (ha : h a = some (.inr (ci, fs))) (hc : vwCl[ci]? = some (Cn, T, N)) (hin : ∀ w ∈ u_ws Cn T N, w ∈ lw_G) (hk : kf < N)
    (hw : Cond.fieldLink own index ref (T kf).2.1 (T kf).2.2.1 ∈ lw_G) (hr : (T kf).1 = ref) (hv : fs[kf]? = some v) (hd : decode cc pc = .ok (.getfield index, 3)) (k : WW K n (pc + 3) lv (v :: st) h) : WW K n pc lv (.ref a :: st) h := by
  intro H locs ls hP hS hl
  obtain ⟨ws, k9, e1, p1, p2, -⟩ := hP.cel1 ha
  exact va_get C.1 C.2.1 C.2.2.2.2.1 hin C.2.2.2.1 C.2.2.2.2.2.1 p1 k9 e1 hc kf hk (C.2.2.2.2.1 _ hw) (fun x hx => by rw [← hr]; exact hx) hv hd (k H locs ls hP hS hl)
theorem w_getfS (C : CX K own cc nL R) {ref Cn : String} {T : u_T} {N ci index a : Nat} {fs : List Value} {v : Value} (kf : Nat) (ha : h a = some (.inr (ci, fs))) (hc : vwCl[ci]? = some (Cn, T, N)) (hin : ∀ w ∈ u_ws Cn T N, w ∈ lw_G) (hk : kf < N)
    (hw : Cond.fieldLink own index ref (T kf).2.1 (T kf).2.2.1 ∈ lw_G) (hr : Cond.sameField ref (T kf).1 (T kf).2.1 (T kf).2.2.1 ∈ lw_G) (hv : fs[kf]? = some v) (hd : decode cc pc = .ok (.getfield index, 3)) (k : WW K n (pc + 3) lv (v :: st) h) : WW K n pc lv (.ref a :: st) h := by
  intro H locs ls hP hS hl
  obtain ⟨ws, k9, e1, p1, p2, -⟩ := hP.cel1 ha
  exact va_get C.1 C.2.1 C.2.2.2.2.1 hin C.2.2.2.1 C.2.2.2.2.2.1 p1 k9 e1 hc kf hk (C.2.2.2.2.1 _ hw) (fun x hx => u_same (C.2.2.2.2.1 _ hr) x hx) hv hd (k H locs ls hP hS hl)
theorem w_getfN (C : CX K own cc nL R) {ref Cn host : String} {T : u_T} {N ci index a : Nat} {fs : List Value} {v : Value} (kf : Nat) (ha : h a = some (.inr (ci, fs))) (hc : vwCl[ci]? = some (Cn, T, N)) (hin : ∀ w ∈ u_ws Cn T N, w ∈ lw_G) (hk : kf < N)
    (hw : Cond.fieldLinkNest own index ref (T kf).2.1 (T kf).2.2.1 host ∈ lw_tbl) (hr : (T kf).1 = ref) (hv : fs[kf]? = some v) (hd : decode cc pc = .ok (.getfield index, 3)) (k : WW K n (pc + 3) lv (v :: st) h) : WW K n pc lv (.ref a :: st) h := by
  intro H locs ls hP hS hl
  obtain ⟨ws, k9, e1, p1, p2, -⟩ := hP.cel1 ha
  have hn := SW.fn C.2.2.2.2.2.2.2.2.1 _ _ _ _ _ _ hw
  exact va_getN C.1 C.2.1 C.2.2.2.2.1 hin C.2.2.2.1 C.2.2.2.2.2.1 p1 k9 e1 hc kf hk (va_Nw.use rfl hn) (fun x hx => by rw [← hr]; exact hx) hv hd (k H locs ls hP hS hl)
theorem w_putf (C : CX K own cc nL R) {ref Cn : String} {T : u_T} {N ci index a : Nat} {fs : List Value} {v : Value} {ty0 : Nat → FieldType} (kf : Nat) (ha : h a = some (.inr (ci, fs))) (hc : vwCl[ci]? = some (Cn, T, N)) (hin : ∀ w ∈ u_ws Cn T N, w ∈ lw_G) (hty : ∀ k, k < N → parseFieldDescriptor (T k).2.2.1 = some (ty0 k)) (hnm : ∀ a, a < N → ∀ b, b < N → a ≠ b → (T a).2.1 ≠ (T b).2.1) (hk : kf < N)
    (hw : Cond.fieldLink own index ref (T kf).2.1 (T kf).2.2.1 ∈ lw_G) (hr : (T kf).1 = ref) (hfin : (T kf).2.2.2 = false) (hn : narrow (ty0 kf) v = v) (hfit : fits (ty0 kf) v = true) (hl9 : kf < fs.length) (hd : decode cc pc = .ok (.putfield index, 3))
    (k : WW K n (pc + 3) lv st (hu h a (.inr (ci, fs.set kf v)))) : WW K n pc lv (v :: .ref a :: st) h := by
  intro H locs ls hP hS hl
  obtain ⟨ws, k9, e1, p1, p2, p3⟩ := hP.cel1 ha
  exact va_put C.1 C.2.1 C.2.2.2.2.1 hin ty0 hty hnm C.2.2.2.1 C.2.2.2.2.2.1 p1 p2 hS k9 e1 hc kf hk (C.2.2.2.2.1 _ hw) (fun x hx => by rw [← hr]; exact hx) hfin (hty kf hk) hn hfit hl9 hd (fun H1 locs1 q1 q2 q3 => k H1 locs1 ls (p3 _ _ q1 q2) q3 hl)
theorem w_putfS (C : CX K own cc nL R) {ref Cn : String} {T : u_T} {N ci index a : Nat} {fs : List Value} {v : Value} {ty0 : Nat → FieldType} (kf : Nat) (ha : h a = some (.inr (ci, fs))) (hc : vwCl[ci]? = some (Cn, T, N)) (hin : ∀ w ∈ u_ws Cn T N, w ∈ lw_G) (hty : ∀ k, k < N → parseFieldDescriptor (T k).2.2.1 = some (ty0 k)) (hnm : ∀ a, a < N → ∀ b, b < N → a ≠ b → (T a).2.1 ≠ (T b).2.1) (hk : kf < N)
    (hw : Cond.fieldLink own index ref (T kf).2.1 (T kf).2.2.1 ∈ lw_G) (hr : Cond.sameField ref (T kf).1 (T kf).2.1 (T kf).2.2.1 ∈ lw_G) (hfin : (T kf).2.2.2 = false) (hn : narrow (ty0 kf) v = v) (hfit : fits (ty0 kf) v = true) (hl9 : kf < fs.length) (hd : decode cc pc = .ok (.putfield index, 3))
    (k : WW K n (pc + 3) lv st (hu h a (.inr (ci, fs.set kf v)))) : WW K n pc lv (v :: .ref a :: st) h := by
  intro H locs ls hP hS hl
  obtain ⟨ws, k9, e1, p1, p2, p3⟩ := hP.cel1 ha
  exact va_put C.1 C.2.1 C.2.2.2.2.1 hin ty0 hty hnm C.2.2.2.1 C.2.2.2.2.2.1 p1 p2 hS k9 e1 hc kf hk (C.2.2.2.2.1 _ hw) (fun x hx => u_same (C.2.2.2.2.1 _ hr) x hx) hfin (hty kf hk) hn hfit hl9 hd (fun H1 locs1 q1 q2 q3 => k H1 locs1 ls (p3 _ _ q1 q2) q3 hl)
theorem w_putfF (C : CX K own cc nL R) {ref Cn : String} {T : u_T} {N ci index a : Nat} {fs : List Value} {v : Value} {ty0 : Nat → FieldType} (kf : Nat) (ha : h a = some (.inr (ci, fs))) (hc : vwCl[ci]? = some (Cn, T, N)) (hin : ∀ w ∈ u_ws Cn T N, w ∈ lw_G) (hty : ∀ k, k < N → parseFieldDescriptor (T k).2.2.1 = some (ty0 k)) (hnm : ∀ a, a < N → ∀ b, b < N → a ≠ b → (T a).2.1 ≠ (T b).2.1) (hk : kf < N)
    (hw : Cond.fieldLink own index ref (T kf).2.1 (T kf).2.2.1 ∈ lw_G) (hr : (T kf).1 = ref) (hfin : (T kf).2.2.2 = true) (hi : (Kme K).name = "<init>") (ho : (T kf).1 = own) (hn : narrow (ty0 kf) v = v) (hfit : fits (ty0 kf) v = true) (hl9 : kf < fs.length) (hd : decode cc pc = .ok (.putfield index, 3))
    (k : WW K n (pc + 3) lv st (hu h a (.inr (ci, fs.set kf v)))) : WW K n pc lv (v :: .ref a :: st) h := by
  intro H locs ls hP hS hl
  obtain ⟨ws, k9, e1, p1, p2, p3⟩ := hP.cel1 ha
  exact va_putF C.1 C.2.1 C.2.2.2.2.1 hin ty0 hty hnm C.2.2.2.1 C.2.2.2.2.2.1 p1 p2 hS k9 e1 hc kf hk (C.2.2.2.2.1 _ hw) (fun x hx => by rw [← hr]; exact hx) hfin hi ho (hty kf hk) hn hfit hl9 hd (fun H1 locs1 q1 q2 q3 => k H1 locs1 ls (p3 _ _ q1 q2) q3 hl)
theorem w_new (C : CX K own cc nL R) {Cn : String} {T : u_T} {N ci index : Nat} {fs : List Value} {ty0 : Nat → FieldType} (hc : vwCl[ci]? = some (Cn, T, N)) (hin : ∀ w ∈ u_ws Cn T N, w ∈ lw_G) (hty : ∀ k, k < N → parseFieldDescriptor (T k).2.2.1 = some (ty0 k)) (hfs : ∀ j, j < N → defaultValue (ty0 j) = vp_V fs j)
    (w1 : Cond.classLink own index Cn ∈ lw_G) (w2 : Cond.instantiable Cn N ∈ lw_G) (w3 : Cond.initialized Cn ∈ lw_G) (h1 : n.1 + 1 ≤ R.cells) (h2 : n.2 + N ≤ R.slots) (hd : decode cc pc = .ok (.new index, 3))
    (k : ∀ q : Nat, h q = none → WW K (n.1 + 1, n.2 + N) (pc + 3) lv (.ref q :: st) (hu h q (.inr (ci, fs)))) : WW K n pc lv st h := by
  intro H locs ls hP hS hl
  obtain ⟨ws, p1, p2, p3⟩ := hP.celn
  have hR := C.2.2.2.2.2.2.2.1
  exact va_new C.1 C.2.1 C.2.2.2.2.1 hin ty0 hty C.2.2.2.1 (C.2.2.2.2.1 _ w1) (C.2.2.2.2.1 _ w2) (C.2.2.2.2.1 _ w3) C.2.2.2.2.2.1 p1 p2 hS C.2.2.2.2.2.2.1 hc hfs (by rw [hR]; exact h1) (by rw [hR]; exact h2) hd (fun q H1 q1 q2 q3 => k q (p3 q _ _ q1 q2).1 H1 locs ls (p3 q _ _ q1 q2).2 q3 hl)
theorem w_alen (C : CX K own cc nL R) {a : Nat} {cA : ClassId} {x : vp_A} (t0 : Nat) {ty : FieldType} (ha : h a = some (.inl (cA, x))) (ht : (tysK (Kt K))[t0]? = some (cA, ty)) (hd : decode cc pc = .ok (.arraylength, 1)) (k : WW K n (pc + 1) lv (.int (nI x.1) :: st) h) : WW K n pc lv (.ref a :: st) h := by
  intro H locs ls hP hS hl
  obtain ⟨ws, k9, e1, p1, p2, p3⟩ := hP.cel1 ha
  exact va_alen C.1 C.2.1 C.2.2.2.2.2.1 p1 k9 t0 e1 ht rfl hd (k H locs ls hP hS hl)
theorem w_iald (C : CX K own cc nL R) {a m : Nat} {f : Nat → Int32} (ha : h a = some (.inl (Kt K 0, m, .inl f))) {i : Int32} (hi : vp_in i m) (hd : decode cc pc = .ok (.iaload, 1)) (k : WW K n (pc + 1) lv (.int (f i.toNatClampNeg) :: st) h) : WW K n pc lv (.int i :: .ref a :: st) h := by
  intro H locs ls hP hS hl
  obtain ⟨ws, k9, e1, p1, p2, p3⟩ := hP.cel1 ha
  exact va_iald C.1 C.2.1 C.2.2.2.2.2.1 p1 k9 0 e1 rfl hi hd (k H locs ls hP hS hl)
theorem w_dald (C : CX K own cc nL R) {a m : Nat} {f : Nat → UInt64} (ha : h a = some (.inl (Kt K 2, m, .inr (.inr (.inr (.inl f)))))) {i : Int32} (hi : vp_in i m) (hd : decode cc pc = .ok (.daload, 1)) (k : WW K n (pc + 1) lv (.double (f i.toNatClampNeg) :: st) h) : WW K n pc lv (.int i :: .ref a :: st) h := by
  intro H locs ls hP hS hl
  obtain ⟨ws, k9, e1, p1, p2, p3⟩ := hP.cel1 ha
  exact va_dald C.1 C.2.1 C.2.2.2.2.2.1 p1 k9 2 e1 rfl hi hd (k H locs ls hP hS hl)
theorem w_aald (C : CX K own cc nL R) (t0 : Nat) {cA : ClassId} {E : String} {a m : Nat} {f : Nat → Option Nat} (ha : h a = some (.inl (cA, m, .inr (.inr (.inr (.inr f)))))) (ht : (tysK (Kt K))[t0]? = some (cA, .object E)) {i : Int32} (hi : vp_in i m) (hd : decode cc pc = .ok (.aaload, 1)) (k : WW K n (pc + 1) lv (va_rf (f i.toNatClampNeg) :: st) h) : WW K n pc lv (.int i :: .ref a :: st) h := by
  intro H locs ls hP hS hl
  obtain ⟨ws, k9, e1, p1, p2, p3⟩ := hP.cel1 ha
  exact va_aldq C.1 C.2.1 C.2.2.2.2.2.1 p1 k9 t0 e1 ht hi hd (k H locs ls hP hS hl)
theorem w_iast (C : CX K own cc nL R) {a m : Nat} {f : Nat → Int32} (ha : h a = some (.inl (Kt K 0, m, .inl f))) {i x : Int32} (hi : vp_in i m) (hd : decode cc pc = .ok (.iastore, 1)) (k : WW K n (pc + 1) lv st (hu h a (.inl (Kt K 0, m, .inl (upd f i.toNatClampNeg x))))) : WW K n pc lv (.int x :: .int i :: .ref a :: st) h := by
  intro H locs ls hP hS hl
  obtain ⟨ws, k9, e1, p1, p2, p3⟩ := hP.cel1 ha
  exact va_iast C.1 C.2.1 C.2.2.2.2.2.1 p1 p2 hS k9 0 e1 rfl hi hd (fun H1 locs1 q1 q2 q3 => k H1 locs1 ls (p3 _ _ q1 q2) q3 hl)
theorem w_dast (C : CX K own cc nL R) {a m : Nat} {f : Nat → UInt64} (ha : h a = some (.inl (Kt K 2, m, .inr (.inr (.inr (.inl f)))))) {i : Int32} {x : UInt64} (hi : vp_in i m) (hd : decode cc pc = .ok (.dastore, 1)) (k : WW K n (pc + 1) lv st (hu h a (.inl (Kt K 2, m, .inr (.inr (.inr (.inl (vf_upd f i.toNatClampNeg x)))))))) : WW K n pc lv (.double x :: .int i :: .ref a :: st) h := by
  intro H locs ls hP hS hl
  obtain ⟨ws, k9, e1, p1, p2, p3⟩ := hP.cel1 ha
  exact va_dast C.1 C.2.1 C.2.2.2.2.2.1 p1 p2 hS k9 2 e1 rfl hi hd (fun H1 locs1 q1 q2 q3 => k H1 locs1 ls (p3 _ _ q1 q2) q3 hl)
theorem w_aast (C : CX K own cc nL R) (t0 : Nat) {cA : ClassId} {r : vw_C} {a m v ci : Nat} {vs : List Value} {f : Nat → Option Nat} (ha : h a = some (.inl (cA, m, .inr (.inr (.inr (.inr f)))))) (ht : (tysK (Kt K))[t0]? = some (cA, .object r.1)) (hv : h v = some (.inr (ci, vs))) (hc : vwCl[ci]? = some r) {i : Int32} (hi : vp_in i m) (hd : decode cc pc = .ok (.aastore, 1))
    (k : WW K n (pc + 1) lv st (hu h a (.inl (cA, m, .inr (.inr (.inr (.inr (va_up f i.toNatClampNeg (some v))))))))) : WW K n pc lv (.ref v :: .int i :: .ref a :: st) h := by
  intro H locs ls hP hS hl
  obtain ⟨ws, k9, j9, e1, e2, p1, p2, p3⟩ := hP.cel2 ha hv
  exact va_astq C.1 C.2.1 C.2.2.2.2.2.1 p1 p2 hS k9 t0 j9 ci e1 ht e2 hc hi hd (fun H1 locs1 q1 q2 q3 => k H1 locs1 ls (p3 _ _ q1 q2) q3 hl)
theorem w_zald (C : CX K own cc nL R) {a m : Nat} {f : Nat → Int32} (ha : h a = some (.inl (Kt K 1, m, .inl f))) {i : Int32} (hi : vp_in i m) (hd : decode cc pc = .ok (.baload, 1)) (k : WW K n (pc + 1) lv (.int (f i.toNatClampNeg) :: st) h) : WW K n pc lv (.int i :: .ref a :: st) h := by
  intro H locs ls hP hS hl
  obtain ⟨ws, k9, e1, p1, p2, p3⟩ := hP.cel1 ha
  exact va_zald C.1 C.2.1 C.2.2.2.2.2.1 p1 k9 1 e1 rfl hi hd (k H locs ls hP hS hl)
theorem w_zast (C : CX K own cc nL R) {a m : Nat} {f : Nat → Int32} (ha : h a = some (.inl (Kt K 1, m, .inl f))) {i x : Int32} (hi : vp_in i m) (hx : x = 0 ∨ x = 1) (hd : decode cc pc = .ok (.bastore, 1)) (k : WW K n (pc + 1) lv st (hu h a (.inl (Kt K 1, m, .inl (upd f i.toNatClampNeg x))))) : WW K n pc lv (.int x :: .int i :: .ref a :: st) h := by
  intro H locs ls hP hS hl
  obtain ⟨ws, k9, e1, p1, p2, p3⟩ := hP.cel1 ha
  have e9 : vp_nar .boolean x = x := by rcases hx with e | e <;> rw [e] <;> rfl
  refine va_zast C.1 C.2.1 C.2.2.2.2.2.1 p1 p2 hS k9 1 e1 rfl hi hd (fun H1 locs1 q1 q2 q3 => ?_)
  rw [e9] at q1 q2
  exact k H1 locs1 ls (p3 _ _ q1 q2) q3 hl
end WWH
