/-! WHAT THE LAW CHANGES -/

theorem q_cover {l : Launch} {D : va_G} {tc : Nat → ClassId} (hl : l.stackTraces = false) {h : HM} {y0 o2 o3 c : Nat} {fw : Nat → UInt64} {fz : Nat → Int32} {cs : Nat → Int32 × Int32} {gs : Nat → GT} {ps : Nat → PT} {nR : Nat} {rs : Nat → RT} {k : KT} {dmp day : Int32} (J : LJ tc y0 o2 o3 fw fz c cs gs ps nR rs k dmp day h) {j : Nat} (hj : j < 10) {b : Bool} :
    CTX l D tc yX7_cover cX7_cover 5 (some FieldType.boolean) rm_X7_cover [.ref y0, .int (nI j), .int (bi b)] h (rI (fun z h' => LJ tc y0 o2 o3 fw fz (c + 1) cs gs (vf_upd ps j (sp_cvr b (ps j))) nR rs k dmp day h')) (fun E h' => False) := by
  obtain ⟨hA, hO, rfl, d, ⟨⟨cA, gA, pA, oA, pr, ra, re, rw9, tr, tw, ca, ga, pa, oa, f, hb, hbt, dmt, kt, Y⟩, o⟩, u2, u3⟩ := J
  obtain ⟨a1, a2, a3, a4, a5, a6, a7, a8, a9, a10, pw, p1, p2⟩ := id o
  refine (CTX.frame d (m_X7_cover hl Y a3)).mono (fun r h' q => ?_) (fun E h' q => ?_)
  · obtain ⟨hA1, ⟨z, rfl, q⟩, rfl, d9⟩ := q
    refine ⟨z, rfl, ?_⟩
    obtain ⟨j2, hj2, e2, -, Y9⟩ := q
    obtain rfl := nI_inj (by omega) (by omega) e2
    exact ⟨_, hO, rfl, d9, ⟨⟨_, _, _, _, _, _, _, _, _, _, _, _, _, _, _, _, _, _, _, Y9⟩, o.upd9 ((a7 j hj).cvr b)⟩, u2, u3⟩
  · obtain ⟨hA1, q, rfl, d9⟩ := q
    exact not_out hj (by decide) q.2.2

theorem rng_nI {n a b : Nat} (h1 : a ≤ n) (h2 : n ≤ b) (h3 : b < 2 ^ 31) : nI a ≤ nI n ∧ nI n ≤ nI b := by
  rw [Int32.le_iff_toInt_le, Int32.le_iff_toInt_le, nI_toInt (by omega), nI_toInt (by omega), nI_toInt h3]
  omega

theorem q_dry {l : Launch} {D : va_G} {tc : Nat → ClassId} (hl : l.stackTraces = false) {h : HM} {y0 o2 o3 c : Nat} {fw : Nat → UInt64} {fz : Nat → Int32} {cs : Nat → Int32 × Int32} {gs : Nat → GT} {ps : Nat → PT} {nR : Nat} {rs : Nat → RT} {k : KT} {dmp day : Int32} (J : LJ tc y0 o2 o3 fw fz c cs gs ps nR rs k dmp day h) {n a d9 : Nat} (h1 : 1 ≤ n) (h2 : n ≤ 9) (ha1 : 1 ≤ a) (ha2 : a ≤ 8) (hd : d9 < 190) (ed : day = nI d9) :
    CTX l D tc yX7_dry cX7_dry 4 (some FieldType.int) rm_X7_dry [.ref y0, .int (nI n), .int (nI a)] h (rI (fun z h' => LJ tc y0 o2 o3 fw fz (c + 1) cs gs (sp_dps (nI a) 10 ps n) nR rs k dmp (nI (d9 + n)) h')) (fun E h' => False) := by
  obtain ⟨hA, hO, rfl, d, ⟨⟨cA, gA, pA, oA, pr, ra, re, rw9, tr, tw, ca, ga, pa, oa, f, hb, hbt, dmt, kt, Y⟩, o⟩, u2, u3⟩ := J
  obtain ⟨a1, a2, a3, a4, a5, a6, a7, a8, a9, a10, pw, p1, p2⟩ := id o
  refine (CTX.frame d (m_X7_dry hl Y (fun b1 b2 j i hi => (lose_okq ⟨b1, b2⟩ ((okPs.dps a7 ⟨b1, b2⟩ j) i hi).q).1))).mono (fun r h' q => ?_) (fun E h' q => ?_)
  · obtain ⟨hA1, ⟨z, rfl, q⟩, rfl, d8⟩ := q
    refine ⟨z, rfl, ?_⟩
    obtain ⟨-, -, m, hm, e2, -, Y9⟩ := q
    obtain rfl := nI_inj (by omega) (by omega) e2
    rw [ed, nI_add] at Y9
    exact ⟨_, hO, rfl, d8, ⟨⟨_, _, _, _, _, _, _, _, _, _, _, _, _, _, _, _, _, _, _, Y9⟩, o.dry (rng_nI (a := 1) (b := 8) ha1 ha2 (by decide))⟩, u2, u3⟩
  · obtain ⟨hA1, q, rfl, d8⟩ := q
    rcases q with ⟨-, -, w⟩ | ⟨-, -, -, w⟩
    · exact w ⟨rng_nI (a := 1) (b := 20) h1 (by omega) (by decide), rng_nI (a := 1) (b := 8) ha1 ha2 (by decide)⟩
    · rw [ed, nI_add, Int32.lt_iff_toInt_lt, nI_toInt (by omega)] at w
      have w : (200 : Int) < ((d9 + n : Nat) : Int) := w
      omega

theorem q_ramp {l : Launch} {D : va_G} {tc : Nat → ClassId} (hl : l.stackTraces = false) {h : HM} {y0 o2 o3 c : Nat} {fw : Nat → UInt64} {fz : Nat → Int32} {cs : Nat → Int32 × Int32} {gs : Nat → GT} {ps : Nat → PT} {nR : Nat} {rs : Nat → RT} {k : KT} {dmp day : Int32} (J : LJ tc y0 o2 o3 fw fz c cs gs ps nR rs k dmp day h) {r0 t0 h0 : Int32} (hr : (10 ≤ r0 ∧ r0 ≤ 200) ∧ (100 ≤ t0 ∧ t0 ≤ 1400) ∧ 0 ≤ h0 ∧ h0 ≤ 20) (hk : kL k = false) (h5 : nR < 5) :
    CTX l D tc yX7_ramp cX7_ramp 4 (some FieldType.int) rm_X7_ramp [.ref y0, .int r0, .int t0, .int h0] h (rI (fun z h' => LJ tc y0 o2 o3 fw fz (c + 1) cs gs ps (nR + 1) (vf_upd rs nR (r0, t0, h0)) k dmp day h')) (fun E h' => False) := by
  obtain ⟨hA, hO, rfl, d, ⟨⟨cA, gA, pA, oA, pr, ra, re, rw9, tr, tw, ca, ga, pa, oa, f, hb, hbt, dmt, kt, Y⟩, o⟩, u2, u3⟩ := J
  obtain ⟨a1, a2, a3, a4, a5, a6, a7, a8, a9, a10, pw, p1, p2⟩ := id o
  refine (CTX.frame d (m_X7_ramp hl Y a10.1)).mono (fun r h' q => ?_) (fun E h' q => ?_)
  · obtain ⟨hA1, ⟨z, rfl, q⟩, rfl, d9⟩ := q
    refine ⟨z, rfl, ?_⟩
    obtain ⟨-, -, -, -, q9, Y9⟩ := q
    exact ⟨_, hO, rfl, d9, ⟨⟨_, _, _, _, _, _, _, _, _, _, _, _, _, _, _, _, _, _, _, Y9⟩, o.ramp hr h5⟩, u2, u3⟩
  · obtain ⟨hA1, q, rfl, d9⟩ := q
    rcases q with ⟨-, -, w⟩ | ⟨-, -, -, w⟩
    · exact w hr
    · rcases w with w | w
      · rw [hk] at w; cases w
      · exact w h5

theorem q_light {l : Launch} {D : va_G} {tc : Nat → ClassId} (hl : l.stackTraces = false) {h : HM} {y0 o2 o3 c : Nat} {fw : Nat → UInt64} {fz : Nat → Int32} {cs : Nat → Int32 × Int32} {gs : Nat → GT} {ps : Nat → PT} {nR : Nat} {rs : Nat → RT} {k : KT} {dmp day : Int32} (J : LJ tc y0 o2 o3 fw fz c cs gs ps nR rs k dmp day h) (hk : kL k = false) (h0 : ¬ nR = 0) :
    CTX l D tc yX7_light cX7_light 3 (some FieldType.int) rm_X7_light [.ref y0] h (rI (fun z h' => LJ tc y0 o2 o3 fw fz (c + 1) cs gs ps nR rs (sp_kndl k) dmp day h')) (fun E h' => False) := by
  obtain ⟨hA, hO, rfl, d, ⟨⟨cA, gA, pA, oA, pr, ra, re, rw9, tr, tw, ca, ga, pa, oa, f, hb, hbt, dmt, kt, Y⟩, o⟩, u2, u3⟩ := J
  obtain ⟨a1, a2, a3, a4, a5, a6, a7, a8, a9, a10, pw, p1, p2⟩ := id o
  refine (CTX.frame d (m_X7_light hl Y a10.1)).mono (fun r h' q => ?_) (fun E h' q => ?_)
  · obtain ⟨hA1, ⟨z, rfl, q⟩, rfl, d9⟩ := q
    refine ⟨z, rfl, ?_⟩
    obtain ⟨-, -, -, Y9⟩ := q
    exact ⟨_, hO, rfl, d9, ⟨⟨_, _, _, _, _, _, _, _, _, _, _, _, _, _, _, _, _, _, _, Y9⟩, o.light h0⟩, u2, u3⟩
  · obtain ⟨hA1, q, rfl, d9⟩ := q
    rcases q.2.2 with w | w
    · rw [hk] at w; cases w
    · exact h0 w

theorem q_door {l : Launch} {D : va_G} {tc : Nat → ClassId} (hl : l.stackTraces = false) {h : HM} {y0 o2 o3 c : Nat} {fw : Nat → UInt64} {fz : Nat → Int32} {cs : Nat → Int32 × Int32} {gs : Nat → GT} {ps : Nat → PT} {nR : Nat} {rs : Nat → RT} {k : KT} {dmp day : Int32} (J : LJ tc y0 o2 o3 fw fz c cs gs ps nR rs k dmp day h) {b : Bool} :
    CT l D tc yX7_door cX7_door 3 (some FieldType.boolean) rm_X7_door [.ref y0, .int (bi b)] h (rI (fun z h' => LJ tc y0 o2 o3 fw fz (c + 1) cs gs ps nR rs ((kH k, kP k, b, kL k, kA k, kE k, kC k, kF k, kS k, kW k)) dmp day h')) := by
  obtain ⟨hA, hO, rfl, d, ⟨⟨cA, gA, pA, oA, pr, ra, re, rw9, tr, tw, ca, ga, pa, oa, f, hb, hbt, dmt, kt, Y⟩, o⟩, u2, u3⟩ := J
  obtain ⟨a1, a2, a3, a4, a5, a6, a7, a8, a9, a10, pw, p1, p2⟩ := id o
  refine (CT.frame d (m_X7_door hl Y)).mono (fun r h' q => ?_)
  · obtain ⟨hA1, ⟨z, rfl, q⟩, rfl, d9⟩ := q
    refine ⟨z, rfl, ?_⟩
    obtain ⟨-, Y9⟩ := q
    exact ⟨_, hO, rfl, d9, ⟨⟨_, _, _, _, _, _, _, _, _, _, _, _, _, _, _, _, _, _, _, Y9⟩, o.door⟩, u2, u3⟩

theorem q_unload {l : Launch} {D : va_G} {tc : Nat → ClassId} (hl : l.stackTraces = false) {h : HM} {y0 o2 o3 c : Nat} {fw : Nat → UInt64} {fz : Nat → Int32} {cs : Nat → Int32 × Int32} {gs : Nat → GT} {ps : Nat → PT} {nR : Nat} {rs : Nat → RT} {k : KT} {dmp day : Int32} (J : LJ tc y0 o2 o3 fw fz c cs gs ps nR rs k dmp day h) (hc5 : c ≤ 519) (hk : kL k = false ∧ dlt (kH k) 4636737291354636288) :
    CTX l D tc yX7_unload cX7_unload 6 (some FieldType.int) rm_X7_unload [.ref y0] h (rI (fun z h' => LJ tc y0 o2 o3 fw fz (c + 1) cs gs (sp_each 10 (sp_unl cs gs k) ps 14) nR rs (sp_clr k) dmp day h')) (fun E h' => False) := by
  obtain ⟨hA, hO, rfl, d, ⟨⟨cA, gA, pA, oA, pr, ra, re, rw9, tr, tw, ca, ga, pa, oa, f, hb, hbt, dmt, kt, Y⟩, o⟩, u2, u3⟩ := J
  obtain ⟨a1, a2, a3, a4, a5, a6, a7, a8, a9, a10, pw, p1, p2⟩ := id o
  have gn : ∀ c, c < 1 → ∀ g, g < 3 → vf_n64 (FP.dsub (sp_growth (gs g)) (sp_cg (cs c).2)) ∧ vf_n64 (FP.dsub (sp_cg (cs c).2) (sp_growth (gs g))) := fun c hc g hg =>
    ⟨nn_of (dsub_n (glz_all (a6 g hg)).2.1.n (cg_fin (a5 c hc).2)), nn_of (dsub_n (cg_fin (a5 c hc).2).n (glz_all (a6 g hg)).2.1)⟩
  refine (CTX.frame d (m_X7_unload hl Y (fun i hi => (a7 i hi).1) (fun i hi => (a7 i hi).2.1) (fun i hi h => (a7 i hi).sh.resolve_left h) gn a8.2.1)).mono (fun r h' q => ?_) (fun E h' q => ?_)
  · obtain ⟨hA1, ⟨z, rfl, q⟩, rfl, d9⟩ := q
    refine ⟨z, rfl, ?_⟩
    obtain ⟨-, -, Y9⟩ := q
    exact ⟨_, hO, rfl, d9, ⟨⟨_, _, _, _, _, _, _, _, _, _, _, _, _, _, _, _, _, _, _, Y9⟩, o.unload hc5⟩, u2, u3⟩
  · obtain ⟨hA1, q, rfl, d9⟩ := q
    exact q.2.2 hk

theorem q_damper {l : Launch} {D : va_G} {tc : Nat → ClassId} (hl : l.stackTraces = false) {h : HM} {y0 o2 o3 c : Nat} {fw : Nat → UInt64} {fz : Nat → Int32} {cs : Nat → Int32 × Int32} {gs : Nat → GT} {ps : Nat → PT} {nR : Nat} {rs : Nat → RT} {k : KT} {dmp day : Int32} (J : LJ tc y0 o2 o3 fw fz c cs gs ps nR rs k dmp day h) {v : Int32} (hv : 0 ≤ v ∧ v ≤ 4) :
    CTX l D tc yX7_damper cX7_damper 3 (some FieldType.int) rm_X7_damper [.ref y0, .int v] h (rI (fun z h' => LJ tc y0 o2 o3 fw fz (c + 1) cs gs ps nR rs k v day h')) (fun E h' => False) := by
  obtain ⟨hA, hO, rfl, d, ⟨⟨cA, gA, pA, oA, pr, ra, re, rw9, tr, tw, ca, ga, pa, oa, f, hb, hbt, dmt, kt, Y⟩, o⟩, u2, u3⟩ := J
  obtain ⟨a1, a2, a3, a4, a5, a6, a7, a8, a9, a10, pw, p1, p2⟩ := id o
  refine (CTX.frame d (m_X7_damper hl Y)).mono (fun r h' q => ?_) (fun E h' q => ?_)
  · obtain ⟨hA1, ⟨z, rfl, q⟩, rfl, d9⟩ := q
    refine ⟨z, rfl, ?_⟩
    obtain ⟨-, -, Y9⟩ := q
    exact ⟨_, hO, rfl, d9, ⟨⟨_, _, _, _, _, _, _, _, _, _, _, _, _, _, _, _, _, _, _, Y9⟩, o.same⟩, u2, u3⟩
  · obtain ⟨hA1, q, rfl, d9⟩ := q
    exact q.2.2 hv

theorem q_burn {l : Launch} {D : va_G} {tc : Nat → ClassId} (hl : l.stackTraces = false) {h : HM} {y0 o2 o3 c : Nat} {fw : Nat → UInt64} {fz : Nat → Int32} {cs : Nat → Int32 × Int32} {gs : Nat → GT} {ps : Nat → PT} {nR : Nat} {rs : Nat → RT} {k : KT} {dmp day : Int32} (J : LJ tc y0 o2 o3 fw fz c cs gs ps nR rs k dmp day h) {m : Nat} (h1 : 1 ≤ m) (h2 : m ≤ 60) :
    CTX l D tc yX7_burn cX7_burn 3 (some FieldType.boolean) rm_X7_burn [.ref y0, .int (nI m)] h (rI (fun z h' => LJ tc y0 o2 o3 fw fz (c + 1) cs gs (sp_bps nR rs k dmp 10 ps m) nR rs (sp_run nR rs k m) dmp day h')) (fun E h' => False) := by
  obtain ⟨hA, hO, rfl, d, ⟨⟨cA, gA, pA, oA, pr, ra, re, rw9, tr, tw, ca, ga, pa, oa, f, hb, hbt, dmt, kt, Y⟩, o⟩, u2, u3⟩ := J
  obtain ⟨a1, a2, a3, a4, a5, a6, a7, a8, a9, a10, pw, p1, p2⟩ := id o
  refine (CTX.frame d (m_X7_burn hl Y a8 a9 a10 (fun i hi h => (a7 i hi).sh.resolve_left h) (fun i hi => nn_of (a7 i hi).wall))).mono (fun r h' q => ?_) (fun E h' q => ?_)
  · obtain ⟨hA1, ⟨z, rfl, q⟩, rfl, d9⟩ := q
    refine ⟨z, rfl, ?_⟩
    obtain ⟨m2, hm2, e2, -, hb9, Y9⟩ := q
    obtain rfl := nI_inj (by omega) (by omega) e2
    exact ⟨_, hO, rfl, d9, ⟨⟨_, _, _, _, _, _, _, _, _, _, _, _, _, _, _, _, _, _, _, Y9⟩, o.burn⟩, u2, u3⟩
  · obtain ⟨hA1, q, rfl, d9⟩ := q
    exact q.2.2 ⟨one_le h1 (by omega), le_60 h2⟩

theorem q_dip {l : Launch} {D : va_G} {tc : Nat → ClassId} (hl : l.stackTraces = false) {h : HM} {y0 o2 o3 c : Nat} {fw : Nat → UInt64} {fz : Nat → Int32} {cs : Nat → Int32 × Int32} {gs : Nat → GT} {ps : Nat → PT} {nR : Nat} {rs : Nat → RT} {k : KT} {dmp day : Int32} (J : LJ tc y0 o2 o3 fw fz c cs gs ps nR rs k dmp day h) {j g : Nat} (hj : j < 10) (hg : g < 3) :
    CTX l D tc yX7_dip cX7_dip 5 (some FieldType.int) rm_X7_dip [.ref y0, .int (nI j), .int (nI g)] h (rI (fun z h' => qSt (ps j).2.2 = 2 ∧ LJ tc y0 o2 o3 fw fz (c + 1) cs gs (vf_upd ps j (sp_dipp g (ps j))) nR rs k dmp day h')) (fun E h' => E = "java/lang/IllegalStateException" ∧ h' = h) := by
  obtain ⟨hA, hO, rfl, d, ⟨⟨cA, gA, pA, oA, pr, ra, re, rw9, tr, tw, ca, ga, pa, oa, f, hb, hbt, dmt, kt, Y⟩, o⟩, u2, u3⟩ := J
  obtain ⟨a1, a2, a3, a4, a5, a6, a7, a8, a9, a10, pw, p1, p2⟩ := id o
  refine (CTX.frame d (m_X7_dip hl Y a3 a2)).mono (fun r h' q => ?_) (fun E h' q => ?_)
  · obtain ⟨hA1, ⟨z, rfl, q⟩, rfl, d9⟩ := q
    refine ⟨z, rfl, ?_⟩
    obtain ⟨j2, g2, hj2, e2, hg2, e3, w, -, Y9⟩ := q
    obtain rfl := nI_inj (by omega) (by omega) e2
    obtain rfl := nI_inj (by omega) (by omega) e3
    exact ⟨w, ⟨_, hO, rfl, d9, ⟨⟨_, _, _, _, _, _, _, _, _, _, _, _, _, _, _, _, _, _, _, Y9⟩, o.upd9 ((a7 j hj).dipp hg)⟩, u2, u3⟩⟩
  · obtain ⟨hA1, q, rfl, d9⟩ := q
    rcases q with ⟨-, -, w | w⟩ | ⟨e, rfl, -⟩
    · exact (not_out hj (by decide) w).elim
    · exact (not_out hg (by decide) w).elim
    · exact ⟨e, rfl⟩

theorem set_w {k : KT} {ps : Nat → PT} {s ce : Nat} {q : QT} (h : sp_setok k 10 ps s (nI ce) q) (hc : ce < 10) {w : Nat} (w1 : 1 ≤ w) (w2 : w ≤ 5) (e : qWd q = nI w) : ce + w ≤ 10 := by
  obtain ⟨-, -, -, h, -⟩ := h
  rw [e, nI_add, Int32.le_iff_toInt_le, nI_toInt (by omega)] at h
  have h : ((ce + w : Nat) : Int) ≤ 10 := h
  omega

theorem q_set {l : Launch} {D : va_G} {tc : Nat → ClassId} (hl : l.stackTraces = false) {h : HM} {y0 o2 o3 c : Nat} {fw : Nat → UInt64} {fz : Nat → Int32} {cs : Nat → Int32 × Int32} {gs : Nat → GT} {ps : Nat → PT} {nR : Nat} {rs : Nat → RT} {k : KT} {dmp day : Int32} (J : LJ tc y0 o2 o3 fw fz c cs gs ps nR rs k dmp day h) {j s ce : Nat} (hj : j < 10) (hs : s < 3) (hc : ce < 10) :
    CTX l D tc yX7_set cX7_set 6 (some FieldType.int) rm_X7_set [.ref y0, .int (nI j), .int (nI s), .int (nI ce)] h (rI (fun z h' => sp_setok k 10 ps s (nI ce) (ps j).2.2 ∧ LJ tc y0 o2 o3 fw fz (c + 1) cs gs (vf_upd ps j (sp_setp (nI s) (nI ce) (ps j))) nR rs k dmp day h')) (fun E h' => E = "java/lang/IllegalStateException" ∧ h' = h) := by
  obtain ⟨hA, hO, rfl, d, ⟨⟨cA, gA, pA, oA, pr, ra, re, rw9, tr, tw, ca, ga, pa, oa, f, hb, hbt, dmt, kt, Y⟩, o⟩, u2, u3⟩ := J
  obtain ⟨a1, a2, a3, a4, a5, a6, a7, a8, a9, a10, pw, p1, p2⟩ := id o
  refine (CTX.frame d (m_X7_set hl Y a3)).mono (fun r h' q => ?_) (fun E h' q => ?_)
  · obtain ⟨hA1, ⟨z, rfl, q⟩, rfl, d9⟩ := q
    refine ⟨z, rfl, ?_⟩
    obtain ⟨j2, s2, hj2, e2, hs2, e3, -, w, -, Y9⟩ := q
    obtain rfl := nI_inj (by omega) (by omega) e2
    obtain rfl := nI_inj (by omega) (by omega) e3
    obtain ⟨wd, ⟨w1, w2⟩, we⟩ := (a7 j hj).wd
    exact ⟨w, ⟨_, hO, rfl, d9, ⟨⟨_, _, _, _, _, _, _, _, _, _, _, _, _, _, _, _, _, _, _, Y9⟩, o.upd9 ((a7 j hj).setp hs w1 w2 (set_w w hc w1 w2 we) we)⟩, u2, u3⟩⟩
  · obtain ⟨hA1, q, rfl, d9⟩ := q
    rcases q with ⟨-, -, w⟩ | ⟨e, rfl, -⟩
    · rcases w with w | w | w
      · exact (not_out hj (by decide) w).elim
      · exact (not_out hs (by decide) w).elim
      · exact (w (rng_nI (a := 0) (b := 9) (Nat.zero_le _) (by omega) (by decide))).elim
    · exact ⟨e, rfl⟩

theorem i_clay {l : Launch} {D : va_G} {tc : Nat → ClassId} (hl : l.stackTraces = false) {h : HM} {y0 c nC : Nat} {cs : Nat → Int32 × Int32} {nG : Nat} {gs : Nat → GT} {nP : Nat} {ps : Nat → PT} {nR : Nat} {rs : Nat → RT} {k : KT} {dmp day : Int32} (J : JY tc y0 c nC cs nG gs nP ps nR rs k dmp day h) {t g : Int32} (hr : (1 ≤ t ∧ t ≤ 12) ∧ 8 ≤ g ∧ g ≤ 40) (h3 : nC < 3) :
    CTX l D tc yX7_clay cX7_clay 3 (some FieldType.int) rm_X7_clay [.ref y0, .int t, .int g] h (rI (fun z h' => JY tc y0 (c + 1) (nC + 1) (vf_upd cs nC (t, g)) nG gs nP ps nR rs k dmp day h')) (fun E h' => False) := by
  obtain ⟨⟨cA, gA, pA, oA, pr, ra, re, rw9, tr, tw, ca, ga, pa, oa, f, hb, hbt, dmt, kt, Y⟩, o⟩ := J
  obtain ⟨a1, a2, a3, a4, a5, a6, a7, a8, a9, a10, pw, p1, p2⟩ := id o
  refine CTX.mono (m_X7_clay hl Y a1 (fun i hi => (a7 i hi).1)) (fun r h' q => ?_) (fun E h' q => ?_)
  · obtain ⟨z, rfl, q⟩ := q
    refine ⟨z, rfl, ?_⟩
    obtain ⟨-, -, -, q9, Y9⟩ := q
    exact ⟨⟨_, _, _, _, _, _, _, _, _, _, _, _, _, _, _, _, _, _, _, Y9⟩, o.clay hr h3⟩
  · rcases q with ⟨-, -, w⟩ | ⟨-, -, -, w⟩
    · exact w hr
    · exact w h3

theorem i_glaze {l : Launch} {D : va_G} {tc : Nat → ClassId} (hl : l.stackTraces = false) {h : HM} {y0 c nC : Nat} {cs : Nat → Int32 × Int32} {nG : Nat} {gs : Nat → GT} {nP : Nat} {ps : Nat → PT} {nR : Nat} {rs : Nat → RT} {k : KT} {dmp day : Int32} (J : JY tc y0 c nC cs nG gs nP ps nR rs k dmp day h) {g0 : GT} (hr : glzOk g0) (h4 : nG < 4) :
    CTX l D tc yX7_glaze cX7_glaze 6 (some FieldType.int) rm_X7_glaze [.ref y0, .int g0.1, .int g0.2.1, .int g0.2.2.1, .int g0.2.2.2.1, .int g0.2.2.2.2] h (rI (fun z h' => JY tc y0 (c + 1) nC cs (nG + 1) (vf_upd gs nG g0) nP ps nR rs k dmp day h')) (fun E h' => False) := by
  obtain ⟨⟨cA, gA, pA, oA, pr, ra, re, rw9, tr, tw, ca, ga, pa, oa, f, hb, hbt, dmt, kt, Y⟩, o⟩ := J
  obtain ⟨a1, a2, a3, a4, a5, a6, a7, a8, a9, a10, pw, p1, p2⟩ := id o
  refine CTX.mono (m_X7_glaze hl Y a2 (fun i hi => (a7 i hi).2.1) (fun h => (glz_all h).1)) (fun r h' q => ?_) (fun E h' q => ?_)
  · obtain ⟨z, rfl, q⟩ := q
    refine ⟨z, rfl, ?_⟩
    obtain ⟨-, -, -, q9, Y9⟩ := q
    exact ⟨⟨_, _, _, _, _, _, _, _, _, _, _, _, _, _, _, _, _, _, _, Y9⟩, o.glaze hr h4⟩
  · rcases q with ⟨-, -, w⟩ | ⟨-, -, -, w⟩
    · exact w hr
    · exact w h4

theorem i_pot {l : Launch} {D : va_G} {tc : Nat → ClassId} (hl : l.stackTraces = false) {h : HM} {y0 c nC : Nat} {cs : Nat → Int32 × Int32} {nG : Nat} {gs : Nat → GT} {nP : Nat} {ps : Nat → PT} {nR : Nat} {rs : Nat → RT} {k : KT} {dmp day : Int32} (J : JY tc y0 c nC cs nG gs nP ps nR rs k dmp day h) {cl : Nat} (hcl : cl < nC) {wd hg wl : Int32} (hr : (1 ≤ wd ∧ wd ≤ 5) ∧ (1 ≤ hg ∧ hg ≤ 3) ∧ (wl = 1 ∨ wl = 2 ∨ wl = 4)) (h14 : nP < 14) :
    CTX l D tc yX7_pot cX7_pot 7 (some FieldType.int) rm_X7_pot [.ref y0, .int (nI cl), .int wd, .int hg, .int wl] h (rI (fun z h' => JY tc y0 (c + 1) nC cs nG gs (nP + 1) (vf_upd ps nP (cl, none, (wd, hg, wl, 0, 1090519040, false, 0, 0, -1, -1))) nR rs k dmp day h')) (fun E h' => False) := by
  obtain ⟨⟨cA, gA, pA, oA, pr, ra, re, rw9, tr, tw, ca, ga, pa, oa, f, hb, hbt, dmt, kt, Y⟩, o⟩ := J
  obtain ⟨a1, a2, a3, a4, a5, a6, a7, a8, a9, a10, pw, p1, p2⟩ := id o
  refine CTX.mono (m_X7_pot hl Y a1 a3) (fun r h' q => ?_) (fun E h' q => ?_)
  · obtain ⟨z, rfl, q⟩ := q
    refine ⟨z, rfl, ?_⟩
    obtain ⟨c2, hc2, e2, -, -, -, q9, Y9⟩ := q
    obtain rfl := nI_inj (by omega) (by omega) e2
    exact ⟨⟨_, _, _, _, _, _, _, _, _, _, _, _, _, _, _, _, _, _, _, Y9⟩, o.pot (new_pot hcl hr) h14⟩
  · rcases q with ⟨-, -, w⟩ | ⟨-, -, -, w⟩ | ⟨-, -, -, -, w⟩
    · exact not_out hcl (by omega) w
    · exact w hr
    · exact w h14
