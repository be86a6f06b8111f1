/-! THE REFERENCE'S YARD IN THE HEAP -/
abbrev mC (cL gL pL oL kl : Nat) (th day dmp pur rf : Int32) : va_E := .inr (12, [.int th, .ref cL, .ref gL, .ref pL, .ref oL, .ref kl, .int day, .int dmp, .int pur, .int rf])
abbrev mK (rL wk : Nat) (k : KT) : va_E := .inr (10, [.ref rL, .double (kH k), .float (kP k), .int (bi (kO k)), .int (bi (kL k)), .int (nI (kA k)), .int (kE k), .int (kC k), .int (kF k), .int (kS k), .ref wk])
abbrev mPc (cl gl : Int32) (q : QT) : va_E := .inr (11, [.int cl, .int (qWd q), .int (qHg q), .int (qWl q), .int gl, .int (qSt q), .float (qWa q), .int (bi (qCv q)), .int (qMk q), .int (qSh q), .int (qCe q), .int (qSm q)])
abbrev mP (p : PT) : va_E := mPc (nI p.1) (sp_gn p) p.2.2
abbrev cI (c : Int32 × Int32) : Nat → Int32 := upd (upd (fun _ => 0) 0 c.1) 1 c.2
abbrev gI (g : GT) : Nat → Int32 := upd (upd (upd (upd (upd (fun _ => 0) 0 g.1) 1 g.2.1) 2 g.2.2.1) 3 g.2.2.2.1) 4 g.2.2.2.2
abbrev oI (o : OT) : Nat → Int32 := upd (upd (upd (upd (upd (fun _ => 0) 0 (nI o.1)) 1 o.2.1) 2 o.2.2.1) 3 o.2.2.2.1) 4 (bi o.2.2.2.2)
abbrev rJ (r : RT) : Nat → Int32 := upd (upd (upd (fun _ => 0) 0 r.1) 1 r.2.1) 2 r.2.2
def n5 (a b c d e : Nat) : Nat → Nat := fun i => match i with
  | 0 => a
  | 1 => b
  | 2 => c
  | 3 => d
  | _ => e
def f5 (a b c d e : Nat → Nat) : Nat → Nat → Nat := fun i => match i with
  | 0 => a
  | 1 => b
  | 2 => c
  | 3 => d
  | _ => e
/-- five lists -/
def LL (tc : Nat → ClassId) (L E : Nat → Nat) (M : Nat → Int32) (N : Nat → Nat) (F : Nat → Nat → Nat) (h : HM) : Prop :=
  (∀ i, i < 5 → h (L i) = some (lC (M i) (E i) (N i)) ∧ LA tc (E i) (N i) (F i) h) ∧ (∀ i j, i < 5 → j < 5 → L i = L j → i = j) ∧ (∀ i j, i < 5 → j < 5 → E i = E j → i = j ∨ E i = tc 13)

def Mh (tc : Nat → ClassId) (m0 kl wk : Nat) (L : Nat → Nat) (E : Nat → Nat) (M : Nat → Int32) (ca : Nat → Nat) (ga : Nat → Nat) (pa : Nat → Nat) (oa : Nat → Nat) (ra : Nat → Nat) (th : Int32) (nC : Nat) (cs : Nat → Int32 × Int32) (nG : Nat) (gs : Nat → GT) (nP : Nat) (ps : Nat → PT) (nO : Nat) (os : Nat → OT) (nR : Nat) (rs : Nat → RT) (k : KT) (dmp : Int32) (day : Int32) (pur : Int32) (rf : Int32) (h : HM) : Prop :=
  h m0 = some (mC (L 0) (L 1) (L 2) (L 3) kl th day dmp pur rf) ∧ LL tc L E M (n5 nC nG nP nO nR) (f5 ca ga pa oa ra) h ∧ h kl = some (mK (L 4) wk k) ∧ h wk = some (wCell tc (kW k)) ∧
  (∀ i, i < nC → h (ca i) = some (iC (tc 0) 2 (cI (cs i)))) ∧ (∀ i, i < nG → h (ga i) = some (iC (tc 0) 5 (gI (gs i)))) ∧ (∀ i, i < nP → h (pa i) = some (mP (ps i))) ∧ (∀ i, i < nO → h (oa i) = some (iC (tc 0) 5 (oI (os i)))) ∧ (∀ i, i < nR → h (ra i) = some (iC (tc 0) 3 (rJ (rs i)))) ∧
  (∀ i j, i < nP → j < nP → pa i = pa j → i = j) ∧ (∀ i j, i < nO → j < nO → oa i = oa j → i = j) ∧ (∀ i j, i < nO → j < nG → oa i ≠ ga j)
/-- neither a list nor a list's row -/
def notL (e0 : va_E) : Prop := (∀ mc el n, lC mc el n ≠ e0) ∧ ∀ c m f, qCell c m f ≠ e0
theorem LA.fr {tc : Nat → ClassId} {el n : Nat} {F : Nat → Nat} {h h' : HM} (A : LA tc el n F h) (k : ∀ cap f, h el = some (qCell (tc 8) cap f) → h' el = some (qCell (tc 8) cap f)) : LA tc el n F h' := by
  rcases A with A | ⟨cap, a1, a2⟩
  · exact Or.inl A
  · exact Or.inr ⟨cap, k _ _ a1, a2⟩
theorem LL.up {tc : Nat → ClassId} {L E : Nat → Nat} {M : Nat → Int32} {N : Nat → Nat} {F : Nat → Nat → Nat} {h h' : HM} (l : LL tc L E M N F h) {S : List Nat} (u : Fr S h h') (hS : ∀ a ∈ S, ∃ e0, h a = some e0 ∧ notL e0) : LL tc L E M N F h' := by
  have key : ∀ {b : Nat} {z : va_E}, h b = some z → (∀ e0, notL e0 → z ≠ e0) → h' b = some z := fun {b z} hb nz => u b z (fun m => by
    obtain ⟨e0, q1, q2⟩ := hS b m
    rw [hb] at q1; injection q1 with q1; exact nz e0 q2 q1) hb
  exact ⟨fun i hi => ⟨key (l.1 i hi).1 (fun e0 q => q.1 _ _ _), (l.1 i hi).2.fr (fun cap f hb => key hb (fun e0 q => q.2 _ _ _))⟩, l.2.1, l.2.2⟩
theorem n5_0 (a b c d e x : Nat) : vf_upd (n5 a b c d e) 0 x = n5 x b c d e := by funext i; rcases i with _ | _ | _ | _ | _ <;> simp [vf_upd, n5]
theorem n5_1 (a b c d e x : Nat) : vf_upd (n5 a b c d e) 1 x = n5 a x c d e := by funext i; rcases i with _ | _ | _ | _ | _ <;> simp [vf_upd, n5]
theorem n5_2 (a b c d e x : Nat) : vf_upd (n5 a b c d e) 2 x = n5 a b x d e := by funext i; rcases i with _ | _ | _ | _ | _ <;> simp [vf_upd, n5]
theorem n5_3 (a b c d e x : Nat) : vf_upd (n5 a b c d e) 3 x = n5 a b c x e := by funext i; rcases i with _ | _ | _ | _ | _ <;> simp [vf_upd, n5]
def w5 {α : Type} (f : Nat → α) (i : Nat) (x : α) : Nat → α := fun j => if j = i then x else f j
theorem w5_s {α : Type} {f : Nat → α} {i : Nat} {x : α} : w5 f i x i = x := if_pos rfl
theorem w5_n {α : Type} {f : Nat → α} {i j : Nat} {x : α} (h : ¬ j = i) : w5 f i x j = f j := if_neg h
/-- one of five lists changed -/
theorem LL.set {tc : Nat → ClassId} {L E : Nat → Nat} {M : Nat → Int32} {N N' : Nat → Nat} {F F' : Nat → Nat → Nat} {h h' : HM} (l : LL tc L E M N F h) {i : Nat} (hi : i < 5) {mc : Int32} {el' : Nat} (hN : ∀ j, j < 5 → ¬ j = i → N' j = N j ∧ F' j = F j)
    (a1 : h' (L i) = some (lC mc el' (N' i))) (a2 : LA tc el' (N' i) (F' i) h') (a3 : (el' = E i ∧ Fr [L i, E i] h h' ∧ (∃ cap f, h (E i) = some (qCell (tc 8) cap f)) ∧ E i ≠ tc 13) ∨ (h el' = none ∧ Fr [L i] h h') ∨ (el' = E i ∧ Fr [L i] h h')) : LL tc L (w5 E i el') (w5 M i mc) N' F' h' := by
  obtain ⟨l1, l2, l3⟩ := l
  have oL : ∀ {b : Nat} {z : va_E}, h b = some z → b ≠ L i → (∀ cap f, z = qCell (tc 8) cap f → b ≠ E i) → (∀ cap f, z ≠ qCell (tc 8) cap f → True) → (z ≠ z ∨ True) → ((∃ cap f, z = qCell (tc 8) cap f) ∨ ∀ cap f, z ≠ qCell (tc 8) cap f) → h' b = some z := by
    intro b z hb n1 n2 _ _ hz
    rcases a3 with ⟨-, fr, ⟨cap, f, hE⟩, -⟩ | ⟨-, fr⟩ | ⟨-, fr⟩
    · refine fr b z (not2 n1 ?_) hb
      rcases hz with ⟨c9, f9, hz⟩ | hz
      · exact n2 c9 f9 hz
      · exact fun w => by rw [w, hE] at hb; injection hb with hb; exact hz _ _ hb.symm
    · exact fr b z (not1 n1) hb
    · exact fr b z (not1 n1) hb
  refine ⟨fun j hj => ?_, l2, fun a b ha hb w => ?_⟩
  · by_cases w : j = i
    · subst w
      rw [w5_s, w5_s]
      exact ⟨a1, a2⟩
    · rw [w5_n w, w5_n w, (hN j hj w).1, (hN j hj w).2]
      have nL : L j ≠ L i := fun q => w (l2 j i hj hi q)
      refine ⟨oL (l1 j hj).1 nL (fun cap f q => by simp at q) (fun _ _ _ => trivial) (Or.inr trivial) (Or.inr (fun cap f q => by simp at q)), ?_⟩
      rcases (l1 j hj).2 with A | ⟨cap, b1, b2, b3, b4⟩
      · exact Or.inl A
      · refine Or.inr ⟨cap, oL b1 (ne_of b1 (l1 i hi).1 (by intro q; simp at q)) (fun _ _ _ q => ?_) (fun _ _ _ => trivial) (Or.inr trivial) (Or.inl ⟨_, _, rfl⟩), b2, b3, b4⟩
        rcases l3 j i hj hi q with v | v
        · exact w v
        · exact b4 v
  · by_cases wa : a = i
    · by_cases wb : b = i
      · exact Or.inl (wa.trans wb.symm)
      · subst wa
        rw [w5_s, w5_n wb] at w
        rw [w5_s]
        rcases a3 with ⟨e1, -⟩ | ⟨e1, -⟩ | ⟨e1, -⟩
        · rw [e1] at w ⊢; exact l3 a b ha hb w
        · rcases (l1 b hb).2 with A | ⟨cap, b1, -⟩
          · exact Or.inr (w.trans A.1)
          · rw [w, b1] at e1; cases e1
        · rw [e1] at w ⊢; exact l3 a b ha hb w
    · by_cases wb : b = i
      · subst wb
        rw [w5_s, w5_n wa] at w
        rw [w5_n wa]
        rcases a3 with ⟨e1, -⟩ | ⟨e1, -⟩ | ⟨e1, -⟩
        · rw [e1] at w; exact l3 a b ha hb w
        · rcases (l1 a ha).2 with A | ⟨cap, b1, -⟩
          · exact Or.inr A.1
          · rw [← w, b1] at e1; cases e1
        · rw [e1] at w; exact l3 a b ha hb w
      · rw [w5_n wa, w5_n wb] at w
        rw [w5_n wa]
        exact l3 a b ha hb w

theorem Mh.lc {tc : Nat → ClassId} {h : HM} {m0 kl wk : Nat} {L : Nat → Nat} {E : Nat → Nat} {M : Nat → Int32} {ca : Nat → Nat} {ga : Nat → Nat} {pa : Nat → Nat} {oa : Nat → Nat} {ra : Nat → Nat} {th : Int32} {nC : Nat} {cs : Nat → Int32 × Int32} {nG : Nat} {gs : Nat → GT} {nP : Nat} {ps : Nat → PT} {nO : Nat} {os : Nat → OT} {nR : Nat} {rs : Nat → RT} {k : KT} {dmp : Int32} {day : Int32} {pur : Int32} {rf : Int32} (YY : Mh tc m0 kl wk L E M ca ga pa oa ra th nC cs nG gs nP ps nO os nR rs k dmp day pur rf h) : h (L 0) = some (lC (M 0) (E 0) nC) := (YY.2.1.1 0 (by decide)).1
theorem Mh.ac {tc : Nat → ClassId} {h : HM} {m0 kl wk : Nat} {L : Nat → Nat} {E : Nat → Nat} {M : Nat → Int32} {ca : Nat → Nat} {ga : Nat → Nat} {pa : Nat → Nat} {oa : Nat → Nat} {ra : Nat → Nat} {th : Int32} {nC : Nat} {cs : Nat → Int32 × Int32} {nG : Nat} {gs : Nat → GT} {nP : Nat} {ps : Nat → PT} {nO : Nat} {os : Nat → OT} {nR : Nat} {rs : Nat → RT} {k : KT} {dmp : Int32} {day : Int32} {pur : Int32} {rf : Int32} (YY : Mh tc m0 kl wk L E M ca ga pa oa ra th nC cs nG gs nP ps nO os nR rs k dmp day pur rf h) : LA tc (E 0) nC ca h := (YY.2.1.1 0 (by decide)).2
theorem Mh.lg {tc : Nat → ClassId} {h : HM} {m0 kl wk : Nat} {L : Nat → Nat} {E : Nat → Nat} {M : Nat → Int32} {ca : Nat → Nat} {ga : Nat → Nat} {pa : Nat → Nat} {oa : Nat → Nat} {ra : Nat → Nat} {th : Int32} {nC : Nat} {cs : Nat → Int32 × Int32} {nG : Nat} {gs : Nat → GT} {nP : Nat} {ps : Nat → PT} {nO : Nat} {os : Nat → OT} {nR : Nat} {rs : Nat → RT} {k : KT} {dmp : Int32} {day : Int32} {pur : Int32} {rf : Int32} (YY : Mh tc m0 kl wk L E M ca ga pa oa ra th nC cs nG gs nP ps nO os nR rs k dmp day pur rf h) : h (L 1) = some (lC (M 1) (E 1) nG) := (YY.2.1.1 1 (by decide)).1
theorem Mh.ag {tc : Nat → ClassId} {h : HM} {m0 kl wk : Nat} {L : Nat → Nat} {E : Nat → Nat} {M : Nat → Int32} {ca : Nat → Nat} {ga : Nat → Nat} {pa : Nat → Nat} {oa : Nat → Nat} {ra : Nat → Nat} {th : Int32} {nC : Nat} {cs : Nat → Int32 × Int32} {nG : Nat} {gs : Nat → GT} {nP : Nat} {ps : Nat → PT} {nO : Nat} {os : Nat → OT} {nR : Nat} {rs : Nat → RT} {k : KT} {dmp : Int32} {day : Int32} {pur : Int32} {rf : Int32} (YY : Mh tc m0 kl wk L E M ca ga pa oa ra th nC cs nG gs nP ps nO os nR rs k dmp day pur rf h) : LA tc (E 1) nG ga h := (YY.2.1.1 1 (by decide)).2
theorem Mh.lp {tc : Nat → ClassId} {h : HM} {m0 kl wk : Nat} {L : Nat → Nat} {E : Nat → Nat} {M : Nat → Int32} {ca : Nat → Nat} {ga : Nat → Nat} {pa : Nat → Nat} {oa : Nat → Nat} {ra : Nat → Nat} {th : Int32} {nC : Nat} {cs : Nat → Int32 × Int32} {nG : Nat} {gs : Nat → GT} {nP : Nat} {ps : Nat → PT} {nO : Nat} {os : Nat → OT} {nR : Nat} {rs : Nat → RT} {k : KT} {dmp : Int32} {day : Int32} {pur : Int32} {rf : Int32} (YY : Mh tc m0 kl wk L E M ca ga pa oa ra th nC cs nG gs nP ps nO os nR rs k dmp day pur rf h) : h (L 2) = some (lC (M 2) (E 2) nP) := (YY.2.1.1 2 (by decide)).1
theorem Mh.ap {tc : Nat → ClassId} {h : HM} {m0 kl wk : Nat} {L : Nat → Nat} {E : Nat → Nat} {M : Nat → Int32} {ca : Nat → Nat} {ga : Nat → Nat} {pa : Nat → Nat} {oa : Nat → Nat} {ra : Nat → Nat} {th : Int32} {nC : Nat} {cs : Nat → Int32 × Int32} {nG : Nat} {gs : Nat → GT} {nP : Nat} {ps : Nat → PT} {nO : Nat} {os : Nat → OT} {nR : Nat} {rs : Nat → RT} {k : KT} {dmp : Int32} {day : Int32} {pur : Int32} {rf : Int32} (YY : Mh tc m0 kl wk L E M ca ga pa oa ra th nC cs nG gs nP ps nO os nR rs k dmp day pur rf h) : LA tc (E 2) nP pa h := (YY.2.1.1 2 (by decide)).2
theorem Mh.lo {tc : Nat → ClassId} {h : HM} {m0 kl wk : Nat} {L : Nat → Nat} {E : Nat → Nat} {M : Nat → Int32} {ca : Nat → Nat} {ga : Nat → Nat} {pa : Nat → Nat} {oa : Nat → Nat} {ra : Nat → Nat} {th : Int32} {nC : Nat} {cs : Nat → Int32 × Int32} {nG : Nat} {gs : Nat → GT} {nP : Nat} {ps : Nat → PT} {nO : Nat} {os : Nat → OT} {nR : Nat} {rs : Nat → RT} {k : KT} {dmp : Int32} {day : Int32} {pur : Int32} {rf : Int32} (YY : Mh tc m0 kl wk L E M ca ga pa oa ra th nC cs nG gs nP ps nO os nR rs k dmp day pur rf h) : h (L 3) = some (lC (M 3) (E 3) nO) := (YY.2.1.1 3 (by decide)).1
theorem Mh.ao {tc : Nat → ClassId} {h : HM} {m0 kl wk : Nat} {L : Nat → Nat} {E : Nat → Nat} {M : Nat → Int32} {ca : Nat → Nat} {ga : Nat → Nat} {pa : Nat → Nat} {oa : Nat → Nat} {ra : Nat → Nat} {th : Int32} {nC : Nat} {cs : Nat → Int32 × Int32} {nG : Nat} {gs : Nat → GT} {nP : Nat} {ps : Nat → PT} {nO : Nat} {os : Nat → OT} {nR : Nat} {rs : Nat → RT} {k : KT} {dmp : Int32} {day : Int32} {pur : Int32} {rf : Int32} (YY : Mh tc m0 kl wk L E M ca ga pa oa ra th nC cs nG gs nP ps nO os nR rs k dmp day pur rf h) : LA tc (E 3) nO oa h := (YY.2.1.1 3 (by decide)).2
theorem Mh.lr {tc : Nat → ClassId} {h : HM} {m0 kl wk : Nat} {L : Nat → Nat} {E : Nat → Nat} {M : Nat → Int32} {ca : Nat → Nat} {ga : Nat → Nat} {pa : Nat → Nat} {oa : Nat → Nat} {ra : Nat → Nat} {th : Int32} {nC : Nat} {cs : Nat → Int32 × Int32} {nG : Nat} {gs : Nat → GT} {nP : Nat} {ps : Nat → PT} {nO : Nat} {os : Nat → OT} {nR : Nat} {rs : Nat → RT} {k : KT} {dmp : Int32} {day : Int32} {pur : Int32} {rf : Int32} (YY : Mh tc m0 kl wk L E M ca ga pa oa ra th nC cs nG gs nP ps nO os nR rs k dmp day pur rf h) : h (L 4) = some (lC (M 4) (E 4) nR) := (YY.2.1.1 4 (by decide)).1
theorem Mh.ar {tc : Nat → ClassId} {h : HM} {m0 kl wk : Nat} {L : Nat → Nat} {E : Nat → Nat} {M : Nat → Int32} {ca : Nat → Nat} {ga : Nat → Nat} {pa : Nat → Nat} {oa : Nat → Nat} {ra : Nat → Nat} {th : Int32} {nC : Nat} {cs : Nat → Int32 × Int32} {nG : Nat} {gs : Nat → GT} {nP : Nat} {ps : Nat → PT} {nO : Nat} {os : Nat → OT} {nR : Nat} {rs : Nat → RT} {k : KT} {dmp : Int32} {day : Int32} {pur : Int32} {rf : Int32} (YY : Mh tc m0 kl wk L E M ca ga pa oa ra th nC cs nG gs nP ps nO os nR rs k dmp day pur rf h) : LA tc (E 4) nR ra h := (YY.2.1.1 4 (by decide)).2
theorem Mh.me {tc : Nat → ClassId} {h h' : HM} {m0 kl wk : Nat} {L : Nat → Nat} {E : Nat → Nat} {M : Nat → Int32} {ca : Nat → Nat} {ga : Nat → Nat} {pa : Nat → Nat} {oa : Nat → Nat} {ra : Nat → Nat} {th : Int32} {nC : Nat} {cs : Nat → Int32 × Int32} {nG : Nat} {gs : Nat → GT} {nP : Nat} {ps : Nat → PT} {nO : Nat} {os : Nat → OT} {nR : Nat} {rs : Nat → RT} {k : KT} {dmp : Int32} {day : Int32} {pur : Int32} {rf : Int32} (YY : Mh tc m0 kl wk L E M ca ga pa oa ra th nC cs nG gs nP ps nO os nR rs k dmp day pur rf h) {th2 day2 dmp2 pur2 rf2 : Int32} (u : Up h m0 (mC (L 0) (L 1) (L 2) (L 3) kl th2 day2 dmp2 pur2 rf2) h') : Mh tc m0 kl wk L E M ca ga pa oa ra th2 nC cs nG gs nP ps nO os nR rs k dmp2 day2 pur2 rf2 h' := by
  obtain ⟨mm, mL, mk, mw, mCl, mGl, mPt, mOr, mRm, mn1, mn2, mn3⟩ := YY
  exact ⟨u.self, (mL.up u.fr (fun a m => by simp at m; subst m; exact ⟨_, mm, ⟨by intro _ _ _ q; simp at q, by intro _ _ _ q; simp at q⟩⟩)), u.oth mk mm (by intro q; simp at q), u.oth mw mm (by intro q; simp at q), fun j hj => u.oth (mCl j hj) mm (by intro q; simp at q), fun j hj => u.oth (mGl j hj) mm (by intro q; simp at q), fun j hj => u.oth (mPt j hj) mm (by intro q; simp at q), fun j hj => u.oth (mOr j hj) mm (by intro q; simp at q), fun j hj => u.oth (mRm j hj) mm (by intro q; simp at q), mn1, mn2, mn3⟩
theorem Mh.pot {tc : Nat → ClassId} {h h' : HM} {m0 kl wk : Nat} {L : Nat → Nat} {E : Nat → Nat} {M : Nat → Int32} {ca : Nat → Nat} {ga : Nat → Nat} {pa : Nat → Nat} {oa : Nat → Nat} {ra : Nat → Nat} {th : Int32} {nC : Nat} {cs : Nat → Int32 × Int32} {nG : Nat} {gs : Nat → GT} {nP : Nat} {ps : Nat → PT} {nO : Nat} {os : Nat → OT} {nR : Nat} {rs : Nat → RT} {k : KT} {dmp : Int32} {day : Int32} {pur : Int32} {rf : Int32} (YY : Mh tc m0 kl wk L E M ca ga pa oa ra th nC cs nG gs nP ps nO os nR rs k dmp day pur rf h) {i : Nat} (hi : i < nP) {p : PT} (u : Up h (pa i) (mP p) h') : Mh tc m0 kl wk L E M ca ga pa oa ra th nC cs nG gs nP (vf_upd ps i p) nO os nR rs k dmp day pur rf h' := by
  obtain ⟨mm, mL, mk, mw, mCl, mGl, mPt, mOr, mRm, mn1, mn2, mn3⟩ := YY
  have e := mPt i hi
  refine ⟨u.oth mm e (by intro q; simp at q), (mL.up u.fr (fun a m => by simp at m; subst m; exact ⟨_, e, ⟨by intro _ _ _ q; simp at q, by intro _ _ _ q; simp at q⟩⟩)), u.oth mk e (by intro q; simp at q), u.oth mw e (by intro q; simp at q), fun j hj => u.oth (mCl j hj) e (by intro q; simp at q), fun j hj => u.oth (mGl j hj) e (by intro q; simp at q), fun j hj => ?_, fun j hj => u.oth (mOr j hj) e (by intro q; simp at q), fun j hj => u.oth (mRm j hj) e (by intro q; simp at q), mn1, mn2, mn3⟩
  by_cases w : j = i
  · subst w; rw [show vf_upd ps j p j = p from if_pos rfl]; exact u.self
  · rw [show vf_upd ps i p j = ps j from if_neg w]
    exact (u.ne (fun q => w (mn1 j i hj hi q))).trans (mPt j hj)
theorem Mh.ord {tc : Nat → ClassId} {h h' : HM} {m0 kl wk : Nat} {L : Nat → Nat} {E : Nat → Nat} {M : Nat → Int32} {ca : Nat → Nat} {ga : Nat → Nat} {pa : Nat → Nat} {oa : Nat → Nat} {ra : Nat → Nat} {th : Int32} {nC : Nat} {cs : Nat → Int32 × Int32} {nG : Nat} {gs : Nat → GT} {nP : Nat} {ps : Nat → PT} {nO : Nat} {os : Nat → OT} {nR : Nat} {rs : Nat → RT} {k : KT} {dmp : Int32} {day : Int32} {pur : Int32} {rf : Int32} (YY : Mh tc m0 kl wk L E M ca ga pa oa ra th nC cs nG gs nP ps nO os nR rs k dmp day pur rf h) {i : Nat} (hi : i < nO) {o : OT} (u : Up h (oa i) (iC (tc 0) 5 (oI o)) h') : Mh tc m0 kl wk L E M ca ga pa oa ra th nC cs nG gs nP ps nO (vf_upd os i o) nR rs k dmp day pur rf h' := by
  obtain ⟨mm, mL, mk, mw, mCl, mGl, mPt, mOr, mRm, mn1, mn2, mn3⟩ := YY
  have e := mOr i hi
  refine ⟨u.oth mm e (by intro q; simp at q), (mL.up u.fr (fun a m => by simp at m; subst m; exact ⟨_, e, ⟨by intro _ _ _ q; simp at q, by intro _ _ _ q; simp at q⟩⟩)), u.oth mk e (by intro q; simp at q), u.oth mw e (by intro q; simp at q), fun j hj => u.oth (mCl j hj) e (by intro q; simp at q), fun j hj => (u.ne (fun q => mn3 i j hi hj q.symm)).trans (mGl j hj), fun j hj => u.oth (mPt j hj) e (by intro q; simp at q), fun j hj => ?_, fun j hj => u.oth (mRm j hj) e (by intro q; simp at q), mn1, mn2, mn3⟩
  by_cases w : j = i
  · subst w; rw [show vf_upd os j o j = o from if_pos rfl]; exact u.self
  · rw [show vf_upd os i o j = os j from if_neg w]
    exact (u.ne (fun q => w (mn2 j i hj hi q))).trans (mOr j hj)
theorem Mh.kiln {tc : Nat → ClassId} {h h' : HM} {m0 kl wk : Nat} {L : Nat → Nat} {E : Nat → Nat} {M : Nat → Int32} {ca : Nat → Nat} {ga : Nat → Nat} {pa : Nat → Nat} {oa : Nat → Nat} {ra : Nat → Nat} {th : Int32} {nC : Nat} {cs : Nat → Int32 × Int32} {nG : Nat} {gs : Nat → GT} {nP : Nat} {ps : Nat → PT} {nO : Nat} {os : Nat → OT} {nR : Nat} {rs : Nat → RT} {k : KT} {dmp : Int32} {day : Int32} {pur : Int32} {rf : Int32} (YY : Mh tc m0 kl wk L E M ca ga pa oa ra th nC cs nG gs nP ps nO os nR rs k dmp day pur rf h) {k2 : KT} (u1 : h' kl = some (mK (L 4) wk k2)) (u2 : h' wk = some (wCell tc (kW k2))) (u : Fr [kl, wk] h h') : Mh tc m0 kl wk L E M ca ga pa oa ra th nC cs nG gs nP ps nO os nR rs k2 dmp day pur rf h' := by
  obtain ⟨mm, mL, mk, mw, mCl, mGl, mPt, mOr, mRm, mn1, mn2, mn3⟩ := YY
  have N : ∀ {b : Nat} {z : va_E}, h b = some z → z ≠ mK (L 4) wk k → z ≠ wCell tc (kW k) → h' b = some z := fun hb1 n1 n2 => u _ _ (not2 (ne_of hb1 mk n1) (ne_of hb1 mw n2)) hb1
  exact ⟨N mm (by intro q; simp at q) (by intro q; simp at q), (mL.up u (fun a m => by simp at m; rcases m with m | m <;> subst m; exact ⟨_, mk, ⟨by intro _ _ _ q; simp at q, by intro _ _ _ q; simp at q⟩⟩; exact ⟨_, mw, ⟨by intro _ _ _ q; simp at q, by intro _ _ _ q; simp at q⟩⟩)), u1, u2, fun j hj => N (mCl j hj) (by intro q; simp at q) (by intro q; simp at q), fun j hj => N (mGl j hj) (by intro q; simp at q) (by intro q; simp at q), fun j hj => N (mPt j hj) (by intro q; simp at q) (by intro q; simp at q), fun j hj => N (mOr j hj) (by intro q; simp at q) (by intro q; simp at q), fun j hj => N (mRm j hj) (by intro q; simp at q) (by intro q; simp at q), mn1, mn2, mn3⟩
theorem Mh.fr0 {tc : Nat → ClassId} {h h' : HM} {m0 kl wk : Nat} {L : Nat → Nat} {E : Nat → Nat} {M : Nat → Int32} {ca : Nat → Nat} {ga : Nat → Nat} {pa : Nat → Nat} {oa : Nat → Nat} {ra : Nat → Nat} {th : Int32} {nC : Nat} {cs : Nat → Int32 × Int32} {nG : Nat} {gs : Nat → GT} {nP : Nat} {ps : Nat → PT} {nO : Nat} {os : Nat → OT} {nR : Nat} {rs : Nat → RT} {k : KT} {dmp : Int32} {day : Int32} {pur : Int32} {rf : Int32} (YY : Mh tc m0 kl wk L E M ca ga pa oa ra th nC cs nG gs nP ps nO os nR rs k dmp day pur rf h) (u : Fr [] h h') : Mh tc m0 kl wk L E M ca ga pa oa ra th nC cs nG gs nP ps nO os nR rs k dmp day pur rf h' := by
  obtain ⟨mm, mL, mk, mw, mCl, mGl, mPt, mOr, mRm, mn1, mn2, mn3⟩ := YY
  have N : ∀ {b : Nat} {z : va_E}, h b = some z → h' b = some z := fun hb1 => u _ _ List.not_mem_nil hb1
  exact ⟨N mm, mL.up u (fun a m => absurd m List.not_mem_nil), N mk, N mw, fun j hj => N (mCl j hj), fun j hj => N (mGl j hj), fun j hj => N (mPt j hj), fun j hj => N (mOr j hj), fun j hj => N (mRm j hj), mn1, mn2, mn3⟩
/-- behind one more in a list, or none: what is neither a list nor a row -/
abbrev LCh (tc : Nat → ClassId) (l e el' : Nat) (h h' : HM) : Prop := (el' = e ∧ Fr [l, e] h h' ∧ (∃ cap f, h e = some (qCell (tc 8) cap f)) ∧ e ≠ tc 13) ∨ (h el' = none ∧ Fr [l] h h') ∨ (el' = e ∧ Fr [l] h h')
theorem LCh.oth {tc : Nat → ClassId} {l e el' : Nat} {h h' : HM} (c : LCh tc l e el' h h') {mc : Int32} {el n : Nat} (hl : h l = some (lC mc el n)) {b : Nat} {z : va_E} (hb : h b = some z) (n1 : ∀ mc el n, z ≠ lC mc el n) (n2 : ∀ cA m f, z ≠ qCell cA m f) : h' b = some z := by
  rcases c with ⟨-, fr, ⟨cap, f, hE⟩, -⟩ | ⟨-, fr⟩ | ⟨-, fr⟩
  · exact fr b z (not2 (ne_of hb hl (n1 _ _ _)) (ne_of hb hE (n2 _ _ _))) hb
  · exact fr b z (not1 (ne_of hb hl (n1 _ _ _))) hb
  · exact fr b z (not1 (ne_of hb hl (n1 _ _ _))) hb

theorem Mh.addC {tc : Nat → ClassId} {h h' : HM} {m0 kl wk : Nat} {L : Nat → Nat} {E : Nat → Nat} {M : Nat → Int32} {ca : Nat → Nat} {ga : Nat → Nat} {pa : Nat → Nat} {oa : Nat → Nat} {ra : Nat → Nat} {th : Int32} {nC : Nat} {cs : Nat → Int32 × Int32} {nG : Nat} {gs : Nat → GT} {nP : Nat} {ps : Nat → PT} {nO : Nat} {os : Nat → OT} {nR : Nat} {rs : Nat → RT} {k : KT} {dmp : Int32} {day : Int32} {pur : Int32} {rf : Int32} (YY : Mh tc m0 kl wk L E M ca ga pa oa ra th nC cs nG gs nP ps nO os nR rs k dmp day pur rf h) {e el' : Nat} {mc : Int32} {c : Int32 × Int32} (hx : h' e = some (iC (tc 0) 2 (cI c))) (ne : ∀ z, h e ≠ some z) (a1 : h' (L 0) = some (lC mc el' (nC + 1))) (a2 : LA tc el' (nC + 1) (vf_upd ca nC e) h') (ch : LCh tc (L 0) (E 0) el' h h') : Mh tc m0 kl wk L (w5 E 0 el') (w5 M 0 mc) (vf_upd ca nC e) ga pa oa ra th (nC + 1) (vf_upd cs nC c) nG gs nP ps nO os nR rs k dmp day pur rf h' := by
  obtain ⟨mm, mL, mk, mw, mCl, mGl, mPt, mOr, mRm, mn1, mn2, mn3⟩ := YY
  have hl := (mL.1 0 (by decide)).1
  have N : ∀ {b : Nat} {z : va_E}, h b = some z → (∀ mc el n, z ≠ lC mc el n) → (∀ cA m f, z ≠ qCell cA m f) → h' b = some z := fun hb n1 n2 => ch.oth hl hb n1 n2
  refine ⟨N mm (by intro _ _ _ q; simp at q) (by intro _ _ _ q; simp at q), mL.set (i := 0) (by decide) (N' := n5 (nC + 1) nG nP nO nR) (F' := f5 (vf_upd ca nC e) ga pa oa ra) (fun j hj w => by rcases j with _ | _ | _ | _ | _ <;> first | exact absurd rfl w | exact ⟨rfl, rfl⟩ | omega) a1 a2 ch, N mk (by intro _ _ _ q; simp at q) (by intro _ _ _ q; simp at q), N mw (by intro _ _ _ q; simp at q) (by intro _ _ _ q; simp at q), fun j hj => ?_, fun j hj => N (mGl j hj) (by intro _ _ _ q; simp at q) (by intro _ _ _ q; simp at q), fun j hj => N (mPt j hj) (by intro _ _ _ q; simp at q) (by intro _ _ _ q; simp at q), fun j hj => N (mOr j hj) (by intro _ _ _ q; simp at q) (by intro _ _ _ q; simp at q), fun j hj => N (mRm j hj) (by intro _ _ _ q; simp at q) (by intro _ _ _ q; simp at q), mn1, mn2, mn3⟩
  · by_cases w : j = nC
    · subst w
      rw [show vf_upd ca j e j = e from if_pos rfl, show vf_upd cs j c j = c from if_pos rfl]
      exact hx
    · rw [show vf_upd ca nC e j = ca j from if_neg w, show vf_upd cs nC c j = cs j from if_neg w]
      exact N (mCl j (by omega)) (by intro _ _ _ q; simp at q) (by intro _ _ _ q; simp at q)

theorem Mh.addG {tc : Nat → ClassId} {h h' : HM} {m0 kl wk : Nat} {L : Nat → Nat} {E : Nat → Nat} {M : Nat → Int32} {ca : Nat → Nat} {ga : Nat → Nat} {pa : Nat → Nat} {oa : Nat → Nat} {ra : Nat → Nat} {th : Int32} {nC : Nat} {cs : Nat → Int32 × Int32} {nG : Nat} {gs : Nat → GT} {nP : Nat} {ps : Nat → PT} {nO : Nat} {os : Nat → OT} {nR : Nat} {rs : Nat → RT} {k : KT} {dmp : Int32} {day : Int32} {pur : Int32} {rf : Int32} (YY : Mh tc m0 kl wk L E M ca ga pa oa ra th nC cs nG gs nP ps nO os nR rs k dmp day pur rf h) {e el' : Nat} {mc : Int32} {g : GT} (hx : h' e = some (iC (tc 0) 5 (gI g))) (ne : ∀ z, h e ≠ some z) (a1 : h' (L 1) = some (lC mc el' (nG + 1))) (a2 : LA tc el' (nG + 1) (vf_upd ga nG e) h') (ch : LCh tc (L 1) (E 1) el' h h') : Mh tc m0 kl wk L (w5 E 1 el') (w5 M 1 mc) ca (vf_upd ga nG e) pa oa ra th nC cs (nG + 1) (vf_upd gs nG g) nP ps nO os nR rs k dmp day pur rf h' := by
  obtain ⟨mm, mL, mk, mw, mCl, mGl, mPt, mOr, mRm, mn1, mn2, mn3⟩ := YY
  have hl := (mL.1 1 (by decide)).1
  have N : ∀ {b : Nat} {z : va_E}, h b = some z → (∀ mc el n, z ≠ lC mc el n) → (∀ cA m f, z ≠ qCell cA m f) → h' b = some z := fun hb n1 n2 => ch.oth hl hb n1 n2
  refine ⟨N mm (by intro _ _ _ q; simp at q) (by intro _ _ _ q; simp at q), mL.set (i := 1) (by decide) (N' := n5 nC (nG + 1) nP nO nR) (F' := f5 ca (vf_upd ga nG e) pa oa ra) (fun j hj w => by rcases j with _ | _ | _ | _ | _ <;> first | exact absurd rfl w | exact ⟨rfl, rfl⟩ | omega) a1 a2 ch, N mk (by intro _ _ _ q; simp at q) (by intro _ _ _ q; simp at q), N mw (by intro _ _ _ q; simp at q) (by intro _ _ _ q; simp at q), fun j hj => N (mCl j hj) (by intro _ _ _ q; simp at q) (by intro _ _ _ q; simp at q), fun j hj => ?_, fun j hj => N (mPt j hj) (by intro _ _ _ q; simp at q) (by intro _ _ _ q; simp at q), fun j hj => N (mOr j hj) (by intro _ _ _ q; simp at q) (by intro _ _ _ q; simp at q), fun j hj => N (mRm j hj) (by intro _ _ _ q; simp at q) (by intro _ _ _ q; simp at q), mn1, mn2, fun i j hi hj w => ?_⟩
  · by_cases w : j = nG
    · subst w
      rw [show vf_upd ga j e j = e from if_pos rfl, show vf_upd gs j g j = g from if_pos rfl]
      exact hx
    · rw [show vf_upd ga nG e j = ga j from if_neg w, show vf_upd gs nG g j = gs j from if_neg w]
      exact N (mGl j (by omega)) (by intro _ _ _ q; simp at q) (by intro _ _ _ q; simp at q)
  · by_cases wj : j = nG
    · rw [show vf_upd ga nG e j = e from if_pos wj] at w
      exact absurd (mOr i hi) (by rw [w]; exact ne _)
    · rw [show vf_upd ga nG e j = ga j from if_neg wj] at w
      exact mn3 i j hi (by omega) w

theorem Mh.addP {tc : Nat → ClassId} {h h' : HM} {m0 kl wk : Nat} {L : Nat → Nat} {E : Nat → Nat} {M : Nat → Int32} {ca : Nat → Nat} {ga : Nat → Nat} {pa : Nat → Nat} {oa : Nat → Nat} {ra : Nat → Nat} {th : Int32} {nC : Nat} {cs : Nat → Int32 × Int32} {nG : Nat} {gs : Nat → GT} {nP : Nat} {ps : Nat → PT} {nO : Nat} {os : Nat → OT} {nR : Nat} {rs : Nat → RT} {k : KT} {dmp : Int32} {day : Int32} {pur : Int32} {rf : Int32} (YY : Mh tc m0 kl wk L E M ca ga pa oa ra th nC cs nG gs nP ps nO os nR rs k dmp day pur rf h) {e el' : Nat} {mc : Int32} {p : PT} (hx : h' e = some (mP p)) (ne : ∀ z, h e ≠ some z) (a1 : h' (L 2) = some (lC mc el' (nP + 1))) (a2 : LA tc el' (nP + 1) (vf_upd pa nP e) h') (ch : LCh tc (L 2) (E 2) el' h h') : Mh tc m0 kl wk L (w5 E 2 el') (w5 M 2 mc) ca ga (vf_upd pa nP e) oa ra th nC cs nG gs (nP + 1) (vf_upd ps nP p) nO os nR rs k dmp day pur rf h' := by
  obtain ⟨mm, mL, mk, mw, mCl, mGl, mPt, mOr, mRm, mn1, mn2, mn3⟩ := YY
  have hl := (mL.1 2 (by decide)).1
  have N : ∀ {b : Nat} {z : va_E}, h b = some z → (∀ mc el n, z ≠ lC mc el n) → (∀ cA m f, z ≠ qCell cA m f) → h' b = some z := fun hb n1 n2 => ch.oth hl hb n1 n2
  refine ⟨N mm (by intro _ _ _ q; simp at q) (by intro _ _ _ q; simp at q), mL.set (i := 2) (by decide) (N' := n5 nC nG (nP + 1) nO nR) (F' := f5 ca ga (vf_upd pa nP e) oa ra) (fun j hj w => by rcases j with _ | _ | _ | _ | _ <;> first | exact absurd rfl w | exact ⟨rfl, rfl⟩ | omega) a1 a2 ch, N mk (by intro _ _ _ q; simp at q) (by intro _ _ _ q; simp at q), N mw (by intro _ _ _ q; simp at q) (by intro _ _ _ q; simp at q), fun j hj => N (mCl j hj) (by intro _ _ _ q; simp at q) (by intro _ _ _ q; simp at q), fun j hj => N (mGl j hj) (by intro _ _ _ q; simp at q) (by intro _ _ _ q; simp at q), fun j hj => ?_, fun j hj => N (mOr j hj) (by intro _ _ _ q; simp at q) (by intro _ _ _ q; simp at q), fun j hj => N (mRm j hj) (by intro _ _ _ q; simp at q) (by intro _ _ _ q; simp at q), fun i j hi hj w => ?_, mn2, mn3⟩
  · by_cases w : j = nP
    · subst w
      rw [show vf_upd pa j e j = e from if_pos rfl, show vf_upd ps j p j = p from if_pos rfl]
      exact hx
    · rw [show vf_upd pa nP e j = pa j from if_neg w, show vf_upd ps nP p j = ps j from if_neg w]
      exact N (mPt j (by omega)) (by intro _ _ _ q; simp at q) (by intro _ _ _ q; simp at q)
  · by_cases wi : i = nP
    · by_cases wj : j = nP
      · omega
      · rw [show vf_upd pa nP e i = e from if_pos wi, show vf_upd pa nP e j = pa j from if_neg wj] at w
        exact absurd (mPt j (by omega)) (by rw [← w]; exact ne _)
    · by_cases wj : j = nP
      · rw [show vf_upd pa nP e i = pa i from if_neg wi, show vf_upd pa nP e j = e from if_pos wj] at w
        exact absurd (mPt i (by omega)) (by rw [w]; exact ne _)
      · rw [show vf_upd pa nP e i = pa i from if_neg wi, show vf_upd pa nP e j = pa j from if_neg wj] at w
        exact mn1 i j (by omega) (by omega) w

theorem Mh.addO {tc : Nat → ClassId} {h h' : HM} {m0 kl wk : Nat} {L : Nat → Nat} {E : Nat → Nat} {M : Nat → Int32} {ca : Nat → Nat} {ga : Nat → Nat} {pa : Nat → Nat} {oa : Nat → Nat} {ra : Nat → Nat} {th : Int32} {nC : Nat} {cs : Nat → Int32 × Int32} {nG : Nat} {gs : Nat → GT} {nP : Nat} {ps : Nat → PT} {nO : Nat} {os : Nat → OT} {nR : Nat} {rs : Nat → RT} {k : KT} {dmp : Int32} {day : Int32} {pur : Int32} {rf : Int32} (YY : Mh tc m0 kl wk L E M ca ga pa oa ra th nC cs nG gs nP ps nO os nR rs k dmp day pur rf h) {e el' : Nat} {mc : Int32} {o : OT} (hx : h' e = some (iC (tc 0) 5 (oI o))) (ne : ∀ z, h e ≠ some z) (a1 : h' (L 3) = some (lC mc el' (nO + 1))) (a2 : LA tc el' (nO + 1) (vf_upd oa nO e) h') (ch : LCh tc (L 3) (E 3) el' h h') : Mh tc m0 kl wk L (w5 E 3 el') (w5 M 3 mc) ca ga pa (vf_upd oa nO e) ra th nC cs nG gs nP ps (nO + 1) (vf_upd os nO o) nR rs k dmp day pur rf h' := by
  obtain ⟨mm, mL, mk, mw, mCl, mGl, mPt, mOr, mRm, mn1, mn2, mn3⟩ := YY
  have hl := (mL.1 3 (by decide)).1
  have N : ∀ {b : Nat} {z : va_E}, h b = some z → (∀ mc el n, z ≠ lC mc el n) → (∀ cA m f, z ≠ qCell cA m f) → h' b = some z := fun hb n1 n2 => ch.oth hl hb n1 n2
  refine ⟨N mm (by intro _ _ _ q; simp at q) (by intro _ _ _ q; simp at q), mL.set (i := 3) (by decide) (N' := n5 nC nG nP (nO + 1) nR) (F' := f5 ca ga pa (vf_upd oa nO e) ra) (fun j hj w => by rcases j with _ | _ | _ | _ | _ <;> first | exact absurd rfl w | exact ⟨rfl, rfl⟩ | omega) a1 a2 ch, N mk (by intro _ _ _ q; simp at q) (by intro _ _ _ q; simp at q), N mw (by intro _ _ _ q; simp at q) (by intro _ _ _ q; simp at q), fun j hj => N (mCl j hj) (by intro _ _ _ q; simp at q) (by intro _ _ _ q; simp at q), fun j hj => N (mGl j hj) (by intro _ _ _ q; simp at q) (by intro _ _ _ q; simp at q), fun j hj => N (mPt j hj) (by intro _ _ _ q; simp at q) (by intro _ _ _ q; simp at q), fun j hj => ?_, fun j hj => N (mRm j hj) (by intro _ _ _ q; simp at q) (by intro _ _ _ q; simp at q), mn1, fun i j hi hj w => ?_, fun i j hi hj w => ?_⟩
  · by_cases w : j = nO
    · subst w
      rw [show vf_upd oa j e j = e from if_pos rfl, show vf_upd os j o j = o from if_pos rfl]
      exact hx
    · rw [show vf_upd oa nO e j = oa j from if_neg w, show vf_upd os nO o j = os j from if_neg w]
      exact N (mOr j (by omega)) (by intro _ _ _ q; simp at q) (by intro _ _ _ q; simp at q)
  · by_cases wi : i = nO
    · by_cases wj : j = nO
      · omega
      · rw [show vf_upd oa nO e i = e from if_pos wi, show vf_upd oa nO e j = oa j from if_neg wj] at w
        exact absurd (mOr j (by omega)) (by rw [← w]; exact ne _)
    · by_cases wj : j = nO
      · rw [show vf_upd oa nO e i = oa i from if_neg wi, show vf_upd oa nO e j = e from if_pos wj] at w
        exact absurd (mOr i (by omega)) (by rw [w]; exact ne _)
      · rw [show vf_upd oa nO e i = oa i from if_neg wi, show vf_upd oa nO e j = oa j from if_neg wj] at w
        exact mn2 i j (by omega) (by omega) w
  · by_cases wi : i = nO
    · rw [show vf_upd oa nO e i = e from if_pos wi] at w
      exact absurd (mGl j hj) (by rw [← w]; exact ne _)
    · rw [show vf_upd oa nO e i = oa i from if_neg wi] at w
      exact mn3 i j (by omega) hj w

theorem Mh.addR {tc : Nat → ClassId} {h h' : HM} {m0 kl wk : Nat} {L : Nat → Nat} {E : Nat → Nat} {M : Nat → Int32} {ca : Nat → Nat} {ga : Nat → Nat} {pa : Nat → Nat} {oa : Nat → Nat} {ra : Nat → Nat} {th : Int32} {nC : Nat} {cs : Nat → Int32 × Int32} {nG : Nat} {gs : Nat → GT} {nP : Nat} {ps : Nat → PT} {nO : Nat} {os : Nat → OT} {nR : Nat} {rs : Nat → RT} {k : KT} {dmp : Int32} {day : Int32} {pur : Int32} {rf : Int32} (YY : Mh tc m0 kl wk L E M ca ga pa oa ra th nC cs nG gs nP ps nO os nR rs k dmp day pur rf h) {e el' : Nat} {mc : Int32} {r : RT} (hx : h' e = some (iC (tc 0) 3 (rJ r))) (ne : ∀ z, h e ≠ some z) (a1 : h' (L 4) = some (lC mc el' (nR + 1))) (a2 : LA tc el' (nR + 1) (vf_upd ra nR e) h') (ch : LCh tc (L 4) (E 4) el' h h') : Mh tc m0 kl wk L (w5 E 4 el') (w5 M 4 mc) ca ga pa oa (vf_upd ra nR e) th nC cs nG gs nP ps nO os (nR + 1) (vf_upd rs nR r) k dmp day pur rf h' := by
  obtain ⟨mm, mL, mk, mw, mCl, mGl, mPt, mOr, mRm, mn1, mn2, mn3⟩ := YY
  have hl := (mL.1 4 (by decide)).1
  have N : ∀ {b : Nat} {z : va_E}, h b = some z → (∀ mc el n, z ≠ lC mc el n) → (∀ cA m f, z ≠ qCell cA m f) → h' b = some z := fun hb n1 n2 => ch.oth hl hb n1 n2
  refine ⟨N mm (by intro _ _ _ q; simp at q) (by intro _ _ _ q; simp at q), mL.set (i := 4) (by decide) (N' := n5 nC nG nP nO (nR + 1)) (F' := f5 ca ga pa oa (vf_upd ra nR e)) (fun j hj w => by rcases j with _ | _ | _ | _ | _ <;> first | exact absurd rfl w | exact ⟨rfl, rfl⟩ | omega) a1 a2 ch, N mk (by intro _ _ _ q; simp at q) (by intro _ _ _ q; simp at q), N mw (by intro _ _ _ q; simp at q) (by intro _ _ _ q; simp at q), fun j hj => N (mCl j hj) (by intro _ _ _ q; simp at q) (by intro _ _ _ q; simp at q), fun j hj => N (mGl j hj) (by intro _ _ _ q; simp at q) (by intro _ _ _ q; simp at q), fun j hj => N (mPt j hj) (by intro _ _ _ q; simp at q) (by intro _ _ _ q; simp at q), fun j hj => N (mOr j hj) (by intro _ _ _ q; simp at q) (by intro _ _ _ q; simp at q), fun j hj => ?_, mn1, mn2, mn3⟩
  · by_cases w : j = nR
    · subst w
      rw [show vf_upd ra j e j = e from if_pos rfl, show vf_upd rs j r j = r from if_pos rfl]
      exact hx
    · rw [show vf_upd ra nR e j = ra j from if_neg w, show vf_upd rs nR r j = rs j from if_neg w]
      exact N (mRm j (by omega)) (by intro _ _ _ q; simp at q) (by intro _ _ _ q; simp at q)

theorem Mh.noR {tc : Nat → ClassId} {h h' : HM} {m0 kl wk : Nat} {L : Nat → Nat} {E : Nat → Nat} {M : Nat → Int32} {ca : Nat → Nat} {ga : Nat → Nat} {pa : Nat → Nat} {oa : Nat → Nat} {ra : Nat → Nat} {th : Int32} {nC : Nat} {cs : Nat → Int32 × Int32} {nG : Nat} {gs : Nat → GT} {nP : Nat} {ps : Nat → PT} {nO : Nat} {os : Nat → OT} {nR : Nat} {rs : Nat → RT} {k : KT} {dmp : Int32} {day : Int32} {pur : Int32} {rf : Int32} (YY : Mh tc m0 kl wk L E M ca ga pa oa ra th nC cs nG gs nP ps nO os nR rs k dmp day pur rf h) {mc : Int32} (a1 : h' (L 4) = some (lC mc (E 4) 0)) (a2 : LA tc (E 4) 0 ra h') (ch : LCh tc (L 4) (E 4) (E 4) h h') : Mh tc m0 kl wk L (w5 E 4 (E 4)) (w5 M 4 mc) ca ga pa oa ra th nC cs nG gs nP ps nO os 0 rs k dmp day pur rf h' := by
  obtain ⟨mm, mL, mk, mw, mCl, mGl, mPt, mOr, mRm, mn1, mn2, mn3⟩ := YY
  have hl := (mL.1 4 (by decide)).1
  have N : ∀ {b : Nat} {z : va_E}, h b = some z → (∀ mc el n, z ≠ lC mc el n) → (∀ cA m f, z ≠ qCell cA m f) → h' b = some z := fun hb n1 n2 => ch.oth hl hb n1 n2
  exact ⟨N mm (by intro _ _ _ q; simp at q) (by intro _ _ _ q; simp at q), mL.set (i := 4) (by decide) (N' := n5 nC nG nP nO 0) (F' := f5 ca ga pa oa ra) (fun j hj w => by rcases j with _ | _ | _ | _ | _ <;> first | exact absurd rfl w | exact ⟨rfl, rfl⟩ | omega) a1 a2 ch, N mk (by intro _ _ _ q; simp at q) (by intro _ _ _ q; simp at q), N mw (by intro _ _ _ q; simp at q) (by intro _ _ _ q; simp at q), fun j hj => N (mCl j hj) (by intro _ _ _ q; simp at q) (by intro _ _ _ q; simp at q), fun j hj => N (mGl j hj) (by intro _ _ _ q; simp at q) (by intro _ _ _ q; simp at q), fun j hj => N (mPt j hj) (by intro _ _ _ q; simp at q) (by intro _ _ _ q; simp at q), fun j hj => N (mOr j hj) (by intro _ _ _ q; simp at q) (by intro _ _ _ q; simp at q), fun j hj => absurd hj (Nat.not_lt_zero j), mn1, mn2, mn3⟩

