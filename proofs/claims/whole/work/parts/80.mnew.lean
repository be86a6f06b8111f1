/-! THE REFERENCE: A NEW YARD -/

set_option maxHeartbeats 4000000 in
set_option maxRecDepth 100000 in
theorem m_X10_init {l : Launch} {D : va_G} {tc : Nat → ClassId} (hl : l.stackTraces = false) {h : HM} {a : Nat} (hf : h a = some (.inr (12, [.int 0, .null, .null, .null, .null, .null, .int 0, .int 0, .int 0, .int 0]))) :
    CT l D tc yX10_init cX10_init 1 none rm_X10_init [.ref a] h (rV (fun h' => ∃ kq wq, MhE tc a kq wq 0 0 (fun _ => (0, 0)) 0 (fun _ => (0, 0, 0, 0, 0)) 0 (fun _ => (0, none, q0T)) 0 (fun _ => (0, 0, 0, 0, false)) 0 (fun _ => (0, 0, 0)) k0 0 0 0 0 h')) := by
  refine CT.start [some (.ref a)] (by decide) hl rfl rfl (fun K C M => ?_)
  obtain ⟨rfl, rfl, rfl, -⟩ := id M
  have C : CX K RX10 cX10_init 1 rm_X10_init := C
  first | refine w_aload_n C dX10_init_0 (by rfl) ?_ | refine w_aload_nN C dX10_init_0 (by rfl) ?_
  refine w_obji C gw_942 gw_89 gw_90 (by rfl) (by rfl) (by rfl) dX10_init_1 ?_
  first | refine w_aload_n C dX10_init_4 (by rfl) ?_ | refine w_aload_nN C dX10_init_4 (by rfl) ?_
  refine nw_X10_7 C (by decide) (by decide) dX10_init_5 (fun c h1 n1 u1 => ?_)
  have hf := u1.new hf n1
  have f_c := u1.self
  refine w_dup C dX10_init_8 (by rfl) ?_
  refine cl_X10_9 C (m_Jx4a65c_init_da8c8 hl f_c) (by rfl) (by rfl) ⟨by decide, by decide⟩ (by rfl) dX10_init_9 (fun h2 p2 => ?_)
  have hf := p2.oth hf f_c (by intro q; simp at q)
  have f_c := p2.self
  refine pf_X10_10 C hf dX10_init_12 M.2.2.2.2.2.2.1 (fun h3 u3 => ?_)
  have f_c := u3.oth f_c hf (by intro q; simp at q)
  have hf := u3.self
  first | refine w_aload_n C dX10_init_15 (by rfl) ?_ | refine w_aload_nN C dX10_init_15 (by rfl) ?_
  have s_c := f_c
  refine nw_X10_7 C (by decide) (by decide) dX10_init_16 (fun g h4 n4 u4 => ?_)
  have hf := u4.new hf n4
  have f_c := u4.new f_c n4
  have f_g := u4.self
  have ncg : ¬ c = g := fun w9 => by rw [w9, n4] at s_c; cases s_c
  refine w_dup C dX10_init_19 (by rfl) ?_
  refine cl_X10_9 C (m_Jx4a65c_init_da8c8 hl f_g) (by rfl) (by rfl) ⟨by decide, by decide⟩ (by rfl) dX10_init_20 (fun h5 p5 => ?_)
  have hf := p5.oth hf f_g (by intro q; simp at q)
  have f_c := (p5.ne ncg).trans f_c
  have f_g := p5.self
  refine pf_X10_16 C hf dX10_init_23 M.2.2.2.2.2.2.1 (fun h6 u6 => ?_)
  have f_c := u6.oth f_c hf (by intro q; simp at q)
  have f_g := u6.oth f_g hf (by intro q; simp at q)
  have hf := u6.self
  first | refine w_aload_n C dX10_init_26 (by rfl) ?_ | refine w_aload_nN C dX10_init_26 (by rfl) ?_
  have s_c := f_c
  have s_g := f_g
  refine nw_X10_7 C (by decide) (by decide) dX10_init_27 (fun p h7 n7 u7 => ?_)
  have hf := u7.new hf n7
  have f_c := u7.new f_c n7
  have f_g := u7.new f_g n7
  have f_p := u7.self
  have ncp : ¬ c = p := fun w9 => by rw [w9, n7] at s_c; cases s_c
  have ngp : ¬ g = p := fun w9 => by rw [w9, n7] at s_g; cases s_g
  refine w_dup C dX10_init_30 (by rfl) ?_
  refine cl_X10_9 C (m_Jx4a65c_init_da8c8 hl f_p) (by rfl) (by rfl) ⟨by decide, by decide⟩ (by rfl) dX10_init_31 (fun h8 p8 => ?_)
  have hf := p8.oth hf f_p (by intro q; simp at q)
  have f_c := (p8.ne ncp).trans f_c
  have f_g := (p8.ne ngp).trans f_g
  have f_p := p8.self
  refine pf_X10_19 C hf dX10_init_34 M.2.2.2.2.2.2.1 (fun h9 u9 => ?_)
  have f_c := u9.oth f_c hf (by intro q; simp at q)
  have f_g := u9.oth f_g hf (by intro q; simp at q)
  have f_p := u9.oth f_p hf (by intro q; simp at q)
  have hf := u9.self
  first | refine w_aload_n C dX10_init_37 (by rfl) ?_ | refine w_aload_nN C dX10_init_37 (by rfl) ?_
  have s_c := f_c
  have s_g := f_g
  have s_p := f_p
  refine nw_X10_7 C (by decide) (by decide) dX10_init_38 (fun o h10 n10 u10 => ?_)
  have hf := u10.new hf n10
  have f_c := u10.new f_c n10
  have f_g := u10.new f_g n10
  have f_p := u10.new f_p n10
  have f_o := u10.self
  have nco : ¬ c = o := fun w9 => by rw [w9, n10] at s_c; cases s_c
  have ngo : ¬ g = o := fun w9 => by rw [w9, n10] at s_g; cases s_g
  have npo : ¬ p = o := fun w9 => by rw [w9, n10] at s_p; cases s_p
  refine w_dup C dX10_init_41 (by rfl) ?_
  refine cl_X10_9 C (m_Jx4a65c_init_da8c8 hl f_o) (by rfl) (by rfl) ⟨by decide, by decide⟩ (by rfl) dX10_init_42 (fun h11 p11 => ?_)
  have hf := p11.oth hf f_o (by intro q; simp at q)
  have f_c := (p11.ne nco).trans f_c
  have f_g := (p11.ne ngo).trans f_g
  have f_p := (p11.ne npo).trans f_p
  have f_o := p11.self
  refine pf_X10_22 C hf dX10_init_45 M.2.2.2.2.2.2.1 (fun h12 u12 => ?_)
  have f_c := u12.oth f_c hf (by intro q; simp at q)
  have f_g := u12.oth f_g hf (by intro q; simp at q)
  have f_p := u12.oth f_p hf (by intro q; simp at q)
  have f_o := u12.oth f_o hf (by intro q; simp at q)
  have hf := u12.self
  first | refine w_aload_n C dX10_init_48 (by rfl) ?_ | refine w_aload_nN C dX10_init_48 (by rfl) ?_
  refine nw_X10_25 C (by decide) (by decide) dX10_init_49 (fun kq h13 n13 u13 => ?_)
  have hf := u13.new hf n13
  have f_c := u13.new f_c n13
  have f_g := u13.new f_g n13
  have f_p := u13.new f_p n13
  have f_o := u13.new f_o n13
  have f_kq := u13.self
  refine w_dup C dX10_init_52 (by rfl) ?_
  refine cl_X10_27 C (m_X8_init hl f_kq) (by rfl) (by rfl) ⟨by decide, by decide⟩ (by rfl) dX10_init_53 (fun h14 p14 => ?_)
  obtain ⟨rq, wq, nrq, nwq, nqw, g_kq, f_rq, f_w, fr1⟩ := p14
  have ncr : ¬ c = rq := fun w9 => by rw [w9, nrq] at f_c; cases f_c
  have ngr : ¬ g = rq := fun w9 => by rw [w9, nrq] at f_g; cases f_g
  have npr : ¬ p = rq := fun w9 => by rw [w9, nrq] at f_p; cases f_p
  have nor : ¬ o = rq := fun w9 => by rw [w9, nrq] at f_o; cases f_o
  have hf := fr1 _ _ (not1 (ne_of hf f_kq (by intro v; simp at v))) hf
  have f_c := fr1 _ _ (not1 (ne_of f_c f_kq (by intro v; simp at v))) f_c
  have f_g := fr1 _ _ (not1 (ne_of f_g f_kq (by intro v; simp at v))) f_g
  have f_p := fr1 _ _ (not1 (ne_of f_p f_kq (by intro v; simp at v))) f_p
  have f_o := fr1 _ _ (not1 (ne_of f_o f_kq (by intro v; simp at v))) f_o
  have f_kq := g_kq
  refine pf_X10_28 C hf dX10_init_56 M.2.2.2.2.2.2.1 (fun h15 u15 => ?_)
  have f_c := u15.oth f_c hf (by intro q; simp at q)
  have f_g := u15.oth f_g hf (by intro q; simp at q)
  have f_p := u15.oth f_p hf (by intro q; simp at q)
  have f_o := u15.oth f_o hf (by intro q; simp at q)
  have f_kq := u15.oth f_kq hf (by intro q; simp at q)
  have f_rq := u15.oth f_rq hf (by intro q; simp at q)
  have f_w := u15.oth f_w hf (by intro q; simp at q)
  have hf := u15.self
  refine w_vret C M dX10_init_59 ⟨by decide, by decide⟩ ⟨rfl, ?_⟩
  refine ⟨kq, wq, (fun i => match i with | 0 => c | 1 => g | 2 => p | 3 => o | _ => rq), fun _ => Kt K 13, fun _ => 0, fun _ => 0, fun _ => 0, fun _ => 0, fun _ => 0, fun _ => 0, hf, ⟨fun i hi => ?_, fun i j hi hj e => ?_, fun i j hi hj e => Or.inr rfl⟩, f_kq, f_w, fun i hi => absurd hi (Nat.not_lt_zero i), fun i hi => absurd hi (Nat.not_lt_zero i), fun i hi => absurd hi (Nat.not_lt_zero i), fun i hi => absurd hi (Nat.not_lt_zero i), fun i hi => absurd hi (Nat.not_lt_zero i), fun i j hi => absurd hi (Nat.not_lt_zero i), fun i j hi => absurd hi (Nat.not_lt_zero i), fun i j hi => absurd hi (Nat.not_lt_zero i)⟩
  · rcases i with _ | _ | _ | _ | _ | i
    · exact ⟨f_c, Or.inl ⟨rfl, rfl⟩⟩
    · exact ⟨f_g, Or.inl ⟨rfl, rfl⟩⟩
    · exact ⟨f_p, Or.inl ⟨rfl, rfl⟩⟩
    · exact ⟨f_o, Or.inl ⟨rfl, rfl⟩⟩
    · exact ⟨f_rq, Or.inl ⟨rfl, rfl⟩⟩
    · omega
  · rcases i with _ | _ | _ | _ | _ | i <;> rcases j with _ | _ | _ | _ | _ | j <;> first
      | rfl
      | (exfalso; omega)
      | exact absurd e ncg
      | exact absurd e ncp
      | exact absurd e nco
      | exact absurd e ngp
      | exact absurd e ngo
      | exact absurd e npo
      | exact absurd e ncr
      | exact absurd e ngr
      | exact absurd e npr
      | exact absurd e nor
      | exact absurd e.symm ncg
      | exact absurd e.symm ncp
      | exact absurd e.symm nco
      | exact absurd e.symm ngp
      | exact absurd e.symm ngo
      | exact absurd e.symm npo
      | exact absurd e.symm ncr
      | exact absurd e.symm ngr
      | exact absurd e.symm npr
      | exact absurd e.symm nor
