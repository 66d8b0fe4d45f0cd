/-! the model: fault4, fault5, takes (wip/gen/p57.py) -/
section JMf
variable {l : Launch} {G : jl_G} {σ : jl_S}
variable {tb : Nat → Bool} {pr : Nat → Option Nat} {ow fi ft : Nat → Nat} {hs : Nat → Bool} {fa vf wh wy hg dp md ov oh dn an : Int32}
variable {u1 u2 : Nat → Option Nat} {ur ul uo : Nat → Nat} {ua : Nat → Int32} {uc us ut uk : Nat → Nat}
variable {sg : Int32 → Option Sg}
theorem d_Mo_parameters_0 : decode m_Mo_parameters.2.1 0 = .ok (.aload_n 0, 1) := by decide +kernel
theorem f_Mo_parameters_26 : jl_fd m_Mo_parameters 26 7 6 = true := by decide +kernel
theorem d_Mo_parameters_1 : decode m_Mo_parameters.2.1 1 = .ok (.getfield 26, 3) := by decide +kernel
theorem d_Mo_parameters_4 : decode m_Mo_parameters.2.1 4 = .ok (.iload_n 1, 1) := by decide +kernel
theorem d_Mo_parameters_5 : decode m_Mo_parameters.2.1 5 = .ok (.iaload, 1) := by decide +kernel
theorem d_Mo_parameters_6 : decode m_Mo_parameters.2.1 6 = .ok (.ifCond .ge 7, 3) := by decide +kernel
theorem d_Mo_parameters_9 : decode m_Mo_parameters.2.1 9 = .ok (.iconst 0, 1) := by decide +kernel
theorem d_Mo_parameters_10 : decode m_Mo_parameters.2.1 10 = .ok (.goto 17, 3) := by decide +kernel
theorem d_Mo_parameters_27 : decode m_Mo_parameters.2.1 27 = .ok (.ireturn, 1) := by decide +kernel
theorem d_Mo_parameters_13 : decode m_Mo_parameters.2.1 13 = .ok (.aload_n 0, 1) := by decide +kernel
theorem f_Mo_parameters_29 : jl_fd m_Mo_parameters 29 7 7 = true := by decide +kernel
theorem d_Mo_parameters_14 : decode m_Mo_parameters.2.1 14 = .ok (.getfield 29, 3) := by decide +kernel
theorem d_Mo_parameters_17 : decode m_Mo_parameters.2.1 17 = .ok (.iload_n 1, 1) := by decide +kernel
theorem d_Mo_parameters_18 : decode m_Mo_parameters.2.1 18 = .ok (.iaload, 1) := by decide +kernel
theorem d_Mo_parameters_19 : decode m_Mo_parameters.2.1 19 = .ok (.ifCond .ge 7, 3) := by decide +kernel
theorem d_Mo_parameters_22 : decode m_Mo_parameters.2.1 22 = .ok (.iconst 1, 1) := by decide +kernel
theorem d_Mo_parameters_23 : decode m_Mo_parameters.2.1 23 = .ok (.goto 4, 3) := by decide +kernel
theorem d_Mo_parameters_26 : decode m_Mo_parameters.2.1 26 = .ok (.iconst 2, 1) := by decide +kernel
theorem mo_params (hl : l.stackTraces = false) {m : Nat} {p q : Option Nat} (hO : MoO σ fa vf wh wy hg dp md ov oh dn an) (hw : MoW σ tb pr ow ft hs) (hu : MoM σ u1 u2 ur ul uo ua uc us ut uk)  (hm : m < 24) (e1 : u1 m = p) (e2 : u2 m = q) (hp : ob 16 p) (hq : ob 16 q) : jl_m l G m_Mo_parameters [.ref 22, .int (nI m)] σ (.inl (some (.int (nI (prm p q))))) (σ) := by
  obtain ⟨h23, h24, h25, h26, h27⟩ := id hw
  obtain ⟨h28, h29, h30, h31, h32, h33, h34, h35, h36, h37⟩ := id hu
  refine jl_of (as := [.ref 22, .int (nI m)]) rfl (by decide) hl (jl_cc rfl (jl_cc rfl jl_ca)) (Nat.le_of_ble_eq_true rfl) ?_
  show jl_W l G m_Mo_parameters (0, 0) 0 [some (.ref 22), some (.int (nI m))] [] (σ) (.inl (some (.int (nI (prm p q))))) (σ)
  refine jr_aload_n d_Mo_parameters_0 rfl ?_
  refine jr_getf d_Mo_parameters_1 f_Mo_parameters_26 hO rfl ?_
  refine jr_iload_n d_Mo_parameters_4 rfl ?_
  refine jr_ialdQ (v := (en p)) d_Mo_parameters_5 h28 (by omega) (by omega) (congrArg en e1) ?_
  cases p with
  | none =>
    show jl_W l G m_Mo_parameters (0, 0) 6 [some (.ref 22), some (.int (nI m))] [.int (-1)] (σ) (.inl (some (.int (nI (prm none q))))) (σ)
    refine jr_if_ge 13 d_Mo_parameters_6 (by decide) (fun z => absurd z (by decide)) (fun _ => ?_)
    refine jr_iconst ((nI (0))) d_Mo_parameters_9 (by decide) ?_
    refine jr_goto 27 d_Mo_parameters_10 (by decide) ?_
    exact jr_iretE d_Mo_parameters_27 rfl (by simp [prm]) (rfl) (by decide) (by decide)
  | some pa =>
    have hpa := hp pa rfl
    show jl_W l G m_Mo_parameters (0, 0) 6 [some (.ref 22), some (.int (nI m))] [.int (nI pa)] (σ) (.inl (some (.int (nI (prm (some pa) q))))) (σ)
    refine jr_if_ge 13 d_Mo_parameters_6 (by decide) (fun _ => ?_) (fun z => absurd (Int32.not_lt.mp (nI_pos (by omega))) z)
    refine jr_aload_n d_Mo_parameters_13 rfl ?_
    refine jr_getf d_Mo_parameters_14 f_Mo_parameters_29 hO rfl ?_
    refine jr_iload_n d_Mo_parameters_17 rfl ?_
    refine jr_ialdQ (v := (en q)) d_Mo_parameters_18 h29 (by omega) (by omega) (congrArg en e2) ?_
    cases q with
    | none =>
      show jl_W l G m_Mo_parameters (0, 0) 19 [some (.ref 22), some (.int (nI m))] [.int (-1)] (σ) (.inl (some (.int (nI (prm (some pa) none))))) (σ)
      refine jr_if_ge 26 d_Mo_parameters_19 (by decide) (fun z => absurd z (by decide)) (fun _ => ?_)
      refine jr_iconst ((nI (1))) d_Mo_parameters_22 (by decide) ?_
      refine jr_goto 27 d_Mo_parameters_23 (by decide) ?_
      exact jr_iretE d_Mo_parameters_27 rfl (by simp [prm]) (rfl) (by decide) (by decide)
    | some qa =>
      have hqa := hq qa rfl
      show jl_W l G m_Mo_parameters (0, 0) 19 [some (.ref 22), some (.int (nI m))] [.int (nI qa)] (σ) (.inl (some (.int (nI (prm (some pa) (some qa)))))) (σ)
      refine jr_if_ge 26 d_Mo_parameters_19 (by decide) (fun _ => ?_) (fun z => absurd (Int32.not_lt.mp (nI_pos (by omega))) z)
      refine jr_iconst ((nI (2))) d_Mo_parameters_26 (by decide) ?_
      exact jr_iretE d_Mo_parameters_27 rfl (by simp [prm]) (rfl) (by decide) (by decide)
theorem d_Mo_around_0 : decode m_Mo_around.2.1 0 = .ok (.iload_n 2, 1) := by decide +kernel
theorem d_Mo_around_1 : decode m_Mo_around.2.1 1 = .ok (.aload_n 0, 1) := by decide +kernel
theorem f_Mo_around_47 : jl_fd m_Mo_around 47 7 13 = true := by decide +kernel
theorem d_Mo_around_2 : decode m_Mo_around.2.1 2 = .ok (.getfield 47, 3) := by decide +kernel
theorem d_Mo_around_5 : decode m_Mo_around.2.1 5 = .ok (.iload_n 1, 1) := by decide +kernel
theorem d_Mo_around_6 : decode m_Mo_around.2.1 6 = .ok (.iaload, 1) := by decide +kernel
theorem d_Mo_around_7 : decode m_Mo_around.2.1 7 = .ok (.bipush 32, 2) := by decide +kernel
theorem d_Mo_around_9 : decode m_Mo_around.2.1 9 = .ok (.idiv, 1) := by decide +kernel
theorem d_Mo_around_10 : decode m_Mo_around.2.1 10 = .ok (.if_icmp .lt 20, 3) := by decide +kernel
theorem d_Mo_around_30 : decode m_Mo_around.2.1 30 = .ok (.iconst 0, 1) := by decide +kernel
theorem d_Mo_around_31 : decode m_Mo_around.2.1 31 = .ok (.ireturn, 1) := by decide +kernel
theorem d_Mo_around_13 : decode m_Mo_around.2.1 13 = .ok (.iload_n 2, 1) := by decide +kernel
theorem d_Mo_around_14 : decode m_Mo_around.2.1 14 = .ok (.aload_n 0, 1) := by decide +kernel
theorem d_Mo_around_15 : decode m_Mo_around.2.1 15 = .ok (.getfield 47, 3) := by decide +kernel
theorem d_Mo_around_18 : decode m_Mo_around.2.1 18 = .ok (.iload_n 1, 1) := by decide +kernel
theorem d_Mo_around_19 : decode m_Mo_around.2.1 19 = .ok (.iaload, 1) := by decide +kernel
theorem d_Mo_around_20 : decode m_Mo_around.2.1 20 = .ok (.bipush 32, 2) := by decide +kernel
theorem d_Mo_around_22 : decode m_Mo_around.2.1 22 = .ok (.irem, 1) := by decide +kernel
theorem d_Mo_around_23 : decode m_Mo_around.2.1 23 = .ok (.if_icmp .ge 7, 3) := by decide +kernel
theorem d_Mo_around_26 : decode m_Mo_around.2.1 26 = .ok (.iconst 1, 1) := by decide +kernel
theorem d_Mo_around_27 : decode m_Mo_around.2.1 27 = .ok (.goto 4, 3) := by decide +kernel
theorem mo_around (hl : l.stackTraces = false) {c pc : Nat} (hO : MoO σ fa vf wh wy hg dp md ov oh dn an) (hw : MoW σ tb pr ow ft hs) (hu : MoM σ u1 u2 ur ul uo ua uc us ut uk)  (hc : c < 48) (hpc : pc < 100) (hus : us c < 1024) : jl_m l G m_Mo_around [.ref 22, .int (nI c), .int (nI pc)] σ (.inl (some (.int (bi (aroU us c pc))))) (σ) := by
  obtain ⟨h23, h24, h25, h26, h27⟩ := id hw
  obtain ⟨h28, h29, h30, h31, h32, h33, h34, h35, h36, h37⟩ := id hu
  refine jl_of (as := [.ref 22, .int (nI c), .int (nI pc)]) rfl (by decide) hl (jl_cc rfl (jl_cc rfl (jl_cc rfl jl_ca))) (Nat.le_of_ble_eq_true rfl) ?_
  show jl_W l G m_Mo_around (0, 0) 0 [some (.ref 22), some (.int (nI c)), some (.int (nI pc))] [] (σ) (.inl (some (.int (bi (aroU us c pc))))) (σ)
  refine jr_iload_n d_Mo_around_0 rfl ?_
  refine jr_aload_n d_Mo_around_1 rfl ?_
  refine jr_getf d_Mo_around_2 f_Mo_around_47 hO rfl ?_
  refine jr_iload_n d_Mo_around_5 rfl ?_
  refine jr_ialdN d_Mo_around_6 h35 (by omega) (by omega) ?_
  refine jr_bipush ((nI (32))) d_Mo_around_7 (by decide) ?_
  refine jr_idivN d_Mo_around_9 (by omega) (by omega) (by omega) ?_
  refine jr_icmp_ltN 30 d_Mo_around_10 (by decide) (by omega) (by omega) (fun c1 => ?_) (fun c1 => ?_)
  · refine jr_iconst ((nI (0))) d_Mo_around_30 (by decide) ?_
    exact jr_zretE d_Mo_around_31 rfl (by decide) (bo0 (by first | (simp [aroU, c1, Nat.not_le.mpr c1]; done) | (simp [aroU, c1, Nat.not_le.mpr c1]; omega))) (rfl) (by decide) (by decide)
  · refine jr_iload_n d_Mo_around_13 rfl ?_
    refine jr_aload_n d_Mo_around_14 rfl ?_
    refine jr_getf d_Mo_around_15 f_Mo_around_47 hO rfl ?_
    refine jr_iload_n d_Mo_around_18 rfl ?_
    refine jr_ialdN d_Mo_around_19 h35 (by omega) (by omega) ?_
    refine jr_bipush ((nI (32))) d_Mo_around_20 (by decide) ?_
    refine jr_iremN d_Mo_around_22 (by omega) (by omega) (by omega) ?_
    refine jr_icmp_geN 30 d_Mo_around_23 (by decide) (by omega) (by omega) (fun c2 => ?_) (fun c2 => ?_)
    · refine jr_iconst ((nI (0))) d_Mo_around_30 (by decide) ?_
      exact jr_zretE d_Mo_around_31 rfl (by decide) (bo0 (by first | (simp [aroU, c1, Nat.not_lt.mpr c1, c2, Nat.not_lt.mpr c2]; done) | (simp [aroU, c1, Nat.not_lt.mpr c1, c2, Nat.not_lt.mpr c2]; omega))) (rfl) (by decide) (by decide)
    · refine jr_iconst ((nI (1))) d_Mo_around_26 (by decide) ?_
      refine jr_goto 31 d_Mo_around_27 (by decide) ?_
      exact jr_zretE d_Mo_around_31 rfl (by decide) (bo1 (by first | (simp [aroU, c1, Nat.not_lt.mpr c1, c2, Nat.not_le.mpr c2]; done) | (simp [aroU, c1, Nat.not_lt.mpr c1, c2, Nat.not_le.mpr c2]; omega))) (rfl) (by decide) (by decide)
theorem d_Mo_fault4_62 : decode m_Mo_fault4.2.1 62 = .ok (.aload_n 0, 1) := by decide +kernel
theorem f_Mo_fault4_38 : jl_fd m_Mo_fault4 38 7 10 = true := by decide +kernel
theorem d_Mo_fault4_63 : decode m_Mo_fault4.2.1 63 = .ok (.getfield 38, 3) := by decide +kernel
theorem d_Mo_fault4_66 : decode m_Mo_fault4.2.1 66 = .ok (.bipush 24, 2) := by decide +kernel
theorem d_Mo_fault4_68 : decode m_Mo_fault4.2.1 68 = .ok (.iload_n 1, 1) := by decide +kernel
theorem d_Mo_fault4_69 : decode m_Mo_fault4.2.1 69 = .ok (.imul, 1) := by decide +kernel
theorem d_Mo_fault4_70 : decode m_Mo_fault4.2.1 70 = .ok (.iload_n 2, 1) := by decide +kernel
theorem d_Mo_fault4_71 : decode m_Mo_fault4.2.1 71 = .ok (.iadd, 1) := by decide +kernel
theorem d_Mo_fault4_72 : decode m_Mo_fault4.2.1 72 = .ok (.iaload, 1) := by decide +kernel
theorem d_Mo_fault4_73 : decode m_Mo_fault4.2.1 73 = .ok (.istore_n 3, 1) := by decide +kernel
theorem d_Mo_fault4_74 : decode m_Mo_fault4.2.1 74 = .ok (.aload_n 0, 1) := by decide +kernel
theorem d_Mo_fault4_75 : decode m_Mo_fault4.2.1 75 = .ok (.iload_n 3, 1) := by decide +kernel
theorem k_Mo_fault4_148 : jl_cv m_Mo_fault4 m_Mo_jumps 148 1 = true := by decide +kernel
theorem d_Mo_fault4_76 : decode m_Mo_fault4.2.1 76 = .ok (.invokevirtual 148, 3) := by decide +kernel
theorem d_Mo_fault4_79 : decode m_Mo_fault4.2.1 79 = .ok (.ifCond .eq 27, 3) := by decide +kernel
theorem d_Mo_fault4_106 : decode m_Mo_fault4.2.1 106 = .ok (.aload_n 0, 1) := by decide +kernel
theorem d_Mo_fault4_107 : decode m_Mo_fault4.2.1 107 = .ok (.iload_n 3, 1) := by decide +kernel
theorem k_Mo_fault4_151 : jl_cv m_Mo_fault4 m_Mo_falls 151 1 = true := by decide +kernel
theorem d_Mo_fault4_108 : decode m_Mo_fault4.2.1 108 = .ok (.invokevirtual 151, 3) := by decide +kernel
theorem d_Mo_fault4_111 : decode m_Mo_fault4.2.1 111 = .ok (.ifCond .eq 19, 3) := by decide +kernel
theorem d_Mo_fault4_130 : decode m_Mo_fault4.2.1 130 = .ok (.iconst 0, 1) := by decide +kernel
theorem d_Mo_fault4_131 : decode m_Mo_fault4.2.1 131 = .ok (.ireturn, 1) := by decide +kernel
theorem d_Mo_fault4_114 : decode m_Mo_fault4.2.1 114 = .ok (.iload_n 2, 1) := by decide +kernel
theorem d_Mo_fault4_115 : decode m_Mo_fault4.2.1 115 = .ok (.iconst 1, 1) := by decide +kernel
theorem d_Mo_fault4_116 : decode m_Mo_fault4.2.1 116 = .ok (.iadd, 1) := by decide +kernel
theorem d_Mo_fault4_117 : decode m_Mo_fault4.2.1 117 = .ok (.aload_n 0, 1) := by decide +kernel
theorem f_Mo_fault4_35 : jl_fd m_Mo_fault4 35 7 9 = true := by decide +kernel
theorem d_Mo_fault4_118 : decode m_Mo_fault4.2.1 118 = .ok (.getfield 35, 3) := by decide +kernel
theorem d_Mo_fault4_121 : decode m_Mo_fault4.2.1 121 = .ok (.iload_n 1, 1) := by decide +kernel
theorem d_Mo_fault4_122 : decode m_Mo_fault4.2.1 122 = .ok (.iaload, 1) := by decide +kernel
theorem d_Mo_fault4_123 : decode m_Mo_fault4.2.1 123 = .ok (.if_icmp .lt 7, 3) := by decide +kernel
theorem d_Mo_fault4_126 : decode m_Mo_fault4.2.1 126 = .ok (.iconst 1, 1) := by decide +kernel
theorem d_Mo_fault4_127 : decode m_Mo_fault4.2.1 127 = .ok (.goto 4, 3) := by decide +kernel
theorem d_Mo_fault4_82 : decode m_Mo_fault4.2.1 82 = .ok (.aload_n 0, 1) := by decide +kernel
theorem d_Mo_fault4_83 : decode m_Mo_fault4.2.1 83 = .ok (.aload_n 0, 1) := by decide +kernel
theorem f_Mo_fault4_41 : jl_fd m_Mo_fault4 41 7 11 = true := by decide +kernel
theorem d_Mo_fault4_84 : decode m_Mo_fault4.2.1 84 = .ok (.getfield 41, 3) := by decide +kernel
theorem d_Mo_fault4_87 : decode m_Mo_fault4.2.1 87 = .ok (.bipush 24, 2) := by decide +kernel
theorem d_Mo_fault4_89 : decode m_Mo_fault4.2.1 89 = .ok (.iload_n 1, 1) := by decide +kernel
theorem d_Mo_fault4_90 : decode m_Mo_fault4.2.1 90 = .ok (.imul, 1) := by decide +kernel
theorem d_Mo_fault4_91 : decode m_Mo_fault4.2.1 91 = .ok (.iload_n 2, 1) := by decide +kernel
theorem d_Mo_fault4_92 : decode m_Mo_fault4.2.1 92 = .ok (.iadd, 1) := by decide +kernel
theorem d_Mo_fault4_93 : decode m_Mo_fault4.2.1 93 = .ok (.iaload, 1) := by decide +kernel
theorem d_Mo_fault4_94 : decode m_Mo_fault4.2.1 94 = .ok (.aload_n 0, 1) := by decide +kernel
theorem d_Mo_fault4_95 : decode m_Mo_fault4.2.1 95 = .ok (.getfield 35, 3) := by decide +kernel
theorem d_Mo_fault4_98 : decode m_Mo_fault4.2.1 98 = .ok (.iload_n 1, 1) := by decide +kernel
theorem d_Mo_fault4_99 : decode m_Mo_fault4.2.1 99 = .ok (.iaload, 1) := by decide +kernel
theorem k_Mo_fault4_114 : jl_cv m_Mo_fault4 m_Mo_out 114 2 = true := by decide +kernel
theorem d_Mo_fault4_100 : decode m_Mo_fault4.2.1 100 = .ok (.invokevirtual 114, 3) := by decide +kernel
theorem d_Mo_fault4_103 : decode m_Mo_fault4.2.1 103 = .ok (.ifCond .ne 23, 3) := by decide +kernel
theorem mo_f4_t (hl : l.stackTraces = false) {m pc o : Nat} {x : Int32} {v : Int32} (hO : MoO σ fa vf wh wy hg dp md ov oh dn an) (hw : MoW σ tb pr ow ft hs) (hu : MoM σ u1 u2 ur ul uo ua uc us ut uk)  (hK : MoK u1 u2 ur ul uo uc us ut uk) (hm : m < 24) (hpc : pc < 24) (ho : uo (24 * m + pc) = o) (hx : ua (24 * m + pc) = x) : jl_W l G m_Mo_fault4 (0, 0) 62 [some (.ref 22), some (.int (nI m)), some (.int (nI pc)), some (.int (v))] [] σ (.inl (some (.int (bi (f4r o x (ul m) pc))))) (σ) := by
  obtain ⟨h23, h24, h25, h26, h27⟩ := id hw
  obtain ⟨h28, h29, h30, h31, h32, h33, h34, h35, h36, h37⟩ := id hu
  have ho26 : o < 26 := ho ▸ hK.2.1 _ (by omega)
  obtain ⟨hk1, hk2, hk3, hk4, hk5, hk6⟩ := hK.1 m hm
  refine jr_aload_n d_Mo_fault4_62 rfl ?_
  refine jr_getf d_Mo_fault4_63 f_Mo_fault4_38 hO rfl ?_
  refine jr_bipush ((nI (24))) d_Mo_fault4_66 (by decide) ?_
  refine jr_iload_n d_Mo_fault4_68 rfl ?_
  refine jr_imulN d_Mo_fault4_69 ?_
  refine jr_iload_n d_Mo_fault4_70 rfl ?_
  refine jr_iaddN d_Mo_fault4_71 ?_
  refine jr_ialdQ (v := (nI (o))) d_Mo_fault4_72 h32 (by omega) (by omega) (congrArg nI ho) ?_
  refine jr_istore_n d_Mo_fault4_73 (by decide) ?_
  show jl_W l G m_Mo_fault4 (0, 0) 74 [some (.ref 22), some (.int (nI m)), some (.int (nI pc)), some (.int (nI o))] [] (σ) (.inl (some (.int (bi (f4r o x (ul m) pc))))) (σ)
  refine jr_aload_n d_Mo_fault4_74 rfl ?_
  refine jr_iload_n d_Mo_fault4_75 rfl ?_
  refine jr_callV (As := [.int (nI o)]) d_Mo_fault4_76 k_Mo_fault4_148 hO rfl rfl rfl (Nat.le_of_ble_eq_true rfl) (by decide) (by decide) (mo_jumps hl hO hw (by omega)) ?_
  show jl_W l G m_Mo_fault4 (0, 0) 79 [some (.ref 22), some (.int (nI m)), some (.int (nI pc)), some (.int (nI o))] [.int (bi (jmp o))] (σ) (.inl (some (.int (bi (f4r o x (ul m) pc))))) (σ)
  refine jr_if_eq 106 d_Mo_fault4_79 (by decide) (fun c1 => ?_) (fun c1 => ?_)
  · refine jr_aload_n d_Mo_fault4_106 rfl ?_
    refine jr_iload_n d_Mo_fault4_107 rfl ?_
    refine jr_callV (As := [.int (nI o)]) d_Mo_fault4_108 k_Mo_fault4_151 hO rfl rfl rfl (Nat.le_of_ble_eq_true rfl) (by decide) (by decide) (mo_falls hl hO hw (by omega)) ?_
    show jl_W l G m_Mo_fault4 (0, 0) 111 [some (.ref 22), some (.int (nI m)), some (.int (nI pc)), some (.int (nI o))] [.int (bi (fal o))] (σ) (.inl (some (.int (bi (f4r o x (ul m) pc))))) (σ)
    refine jr_if_eq 130 d_Mo_fault4_111 (by decide) (fun c2 => ?_) (fun c2 => ?_)
    · refine jr_iconst ((nI (0))) d_Mo_fault4_130 (by decide) ?_
      exact jr_zretE d_Mo_fault4_131 rfl (by decide) (bo0 (by first | (simp [f4r, bi_0.mp c1, bi_0.mp c2]; done) | (simp [f4r, bi_0.mp c1, bi_0.mp c2]; omega))) (rfl) (by decide) (by decide)
    · refine jr_iload_n d_Mo_fault4_114 rfl ?_
      refine jr_iconst ((nI (1))) d_Mo_fault4_115 (by decide) ?_
      refine jr_iaddN d_Mo_fault4_116 ?_
      refine jr_aload_n d_Mo_fault4_117 rfl ?_
      refine jr_getf d_Mo_fault4_118 f_Mo_fault4_35 hO rfl ?_
      refine jr_iload_n d_Mo_fault4_121 rfl ?_
      refine jr_ialdN d_Mo_fault4_122 h31 (by omega) (by omega) ?_
      refine jr_icmp_ltN 130 d_Mo_fault4_123 (by decide) (by omega) (by omega) (fun c3 => ?_) (fun c3 => ?_)
      · refine jr_iconst ((nI (0))) d_Mo_fault4_130 (by decide) ?_
        exact jr_zretE d_Mo_fault4_131 rfl (by decide) (bo0 (by first | (simp [f4r, bi_0.mp c1, bi_nf c2, c3, Nat.not_le.mpr c3]; done) | (simp [f4r, bi_0.mp c1, bi_nf c2, c3, Nat.not_le.mpr c3]; omega))) (rfl) (by decide) (by decide)
      · refine jr_iconst ((nI (1))) d_Mo_fault4_126 (by decide) ?_
        refine jr_goto 131 d_Mo_fault4_127 (by decide) ?_
        exact jr_zretE d_Mo_fault4_131 rfl (by decide) (bo1 (by first | (simp [f4r, bi_0.mp c1, bi_nf c2, c3, Nat.not_lt.mpr c3]; done) | (simp [f4r, bi_0.mp c1, bi_nf c2, c3, Nat.not_lt.mpr c3]; omega))) (rfl) (by decide) (by decide)
  · refine jr_aload_n d_Mo_fault4_82 rfl ?_
    refine jr_aload_n d_Mo_fault4_83 rfl ?_
    refine jr_getf d_Mo_fault4_84 f_Mo_fault4_41 hO rfl ?_
    refine jr_bipush ((nI (24))) d_Mo_fault4_87 (by decide) ?_
    refine jr_iload_n d_Mo_fault4_89 rfl ?_
    refine jr_imulN d_Mo_fault4_90 ?_
    refine jr_iload_n d_Mo_fault4_91 rfl ?_
    refine jr_iaddN d_Mo_fault4_92 ?_
    refine jr_ialdQ (v := (x)) d_Mo_fault4_93 h33 (by omega) (by omega) (hx) ?_
    refine jr_aload_n d_Mo_fault4_94 rfl ?_
    refine jr_getf d_Mo_fault4_95 f_Mo_fault4_35 hO rfl ?_
    refine jr_iload_n d_Mo_fault4_98 rfl ?_
    refine jr_ialdN d_Mo_fault4_99 h31 (by omega) (by omega) ?_
    refine jr_callV (As := [.int (x), .int (nI (ul (m)))]) d_Mo_fault4_100 k_Mo_fault4_114 hO rfl rfl rfl (Nat.le_of_ble_eq_true rfl) (by decide) (by decide) (mo_out hl hO hw) ?_
    show jl_W l G m_Mo_fault4 (0, 0) 103 [some (.ref 22), some (.int (nI m)), some (.int (nI pc)), some (.int (nI o))] [.int (bi (outB (x) (nI (ul (m)))))] (σ) (.inl (some (.int (bi (f4r o x (ul m) pc))))) (σ)
    refine jr_if_ne 126 d_Mo_fault4_103 (by decide) (fun c4 => ?_) (fun c4 => ?_)
    · refine jr_iconst ((nI (1))) d_Mo_fault4_126 (by decide) ?_
      refine jr_goto 131 d_Mo_fault4_127 (by decide) ?_
      exact jr_zretE d_Mo_fault4_131 rfl (by decide) (bo1 (by first | (simp [f4r, bi_nf c1, bi_nf c4]; done) | (simp [f4r, bi_nf c1, bi_nf c4]; omega))) (rfl) (by decide) (by decide)
    · refine jr_aload_n d_Mo_fault4_106 rfl ?_
      refine jr_iload_n d_Mo_fault4_107 rfl ?_
      refine jr_callV (As := [.int (nI o)]) d_Mo_fault4_108 k_Mo_fault4_151 hO rfl rfl rfl (Nat.le_of_ble_eq_true rfl) (by decide) (by decide) (mo_falls hl hO hw (by omega)) ?_
      show jl_W l G m_Mo_fault4 (0, 0) 111 [some (.ref 22), some (.int (nI m)), some (.int (nI pc)), some (.int (nI o))] [.int (bi (fal o))] (σ) (.inl (some (.int (bi (f4r o x (ul m) pc))))) (σ)
      refine jr_if_eq 130 d_Mo_fault4_111 (by decide) (fun c5 => ?_) (fun c5 => ?_)
      · refine jr_iconst ((nI (0))) d_Mo_fault4_130 (by decide) ?_
        exact jr_zretE d_Mo_fault4_131 rfl (by decide) (bo0 (by first | (simp [f4r, bi_nf c1, bi_0.mp c4, bi_0.mp c5]; done) | (simp [f4r, bi_nf c1, bi_0.mp c4, bi_0.mp c5]; omega))) (rfl) (by decide) (by decide)
      · refine jr_iload_n d_Mo_fault4_114 rfl ?_
        refine jr_iconst ((nI (1))) d_Mo_fault4_115 (by decide) ?_
        refine jr_iaddN d_Mo_fault4_116 ?_
        refine jr_aload_n d_Mo_fault4_117 rfl ?_
        refine jr_getf d_Mo_fault4_118 f_Mo_fault4_35 hO rfl ?_
        refine jr_iload_n d_Mo_fault4_121 rfl ?_
        refine jr_ialdN d_Mo_fault4_122 h31 (by omega) (by omega) ?_
        refine jr_icmp_ltN 130 d_Mo_fault4_123 (by decide) (by omega) (by omega) (fun c6 => ?_) (fun c6 => ?_)
        · refine jr_iconst ((nI (0))) d_Mo_fault4_130 (by decide) ?_
          exact jr_zretE d_Mo_fault4_131 rfl (by decide) (bo0 (by first | (simp [f4r, bi_nf c1, bi_0.mp c4, bi_nf c5, c6, Nat.not_le.mpr c6]; done) | (simp [f4r, bi_nf c1, bi_0.mp c4, bi_nf c5, c6, Nat.not_le.mpr c6]; omega))) (rfl) (by decide) (by decide)
        · refine jr_iconst ((nI (1))) d_Mo_fault4_126 (by decide) ?_
          refine jr_goto 131 d_Mo_fault4_127 (by decide) ?_
          exact jr_zretE d_Mo_fault4_131 rfl (by decide) (bo1 (by first | (simp [f4r, bi_nf c1, bi_0.mp c4, bi_nf c5, c6, Nat.not_lt.mpr c6]; done) | (simp [f4r, bi_nf c1, bi_0.mp c4, bi_nf c5, c6, Nat.not_lt.mpr c6]; omega))) (rfl) (by decide) (by decide)
theorem d_Mo_fault4_16 : decode m_Mo_fault4.2.1 16 = .ok (.iload_n 3, 1) := by decide +kernel
theorem d_Mo_fault4_17 : decode m_Mo_fault4.2.1 17 = .ok (.iconst 2, 1) := by decide +kernel
theorem d_Mo_fault4_18 : decode m_Mo_fault4.2.1 18 = .ok (.iload_n 1, 1) := by decide +kernel
theorem d_Mo_fault4_19 : decode m_Mo_fault4.2.1 19 = .ok (.imul, 1) := by decide +kernel
theorem d_Mo_fault4_20 : decode m_Mo_fault4.2.1 20 = .ok (.aload_n 0, 1) := by decide +kernel
theorem f_Mo_fault4_44 : jl_fd m_Mo_fault4 44 7 12 = true := by decide +kernel
theorem d_Mo_fault4_21 : decode m_Mo_fault4.2.1 21 = .ok (.getfield 44, 3) := by decide +kernel
theorem d_Mo_fault4_24 : decode m_Mo_fault4.2.1 24 = .ok (.iload_n 1, 1) := by decide +kernel
theorem d_Mo_fault4_25 : decode m_Mo_fault4.2.1 25 = .ok (.iaload, 1) := by decide +kernel
theorem d_Mo_fault4_26 : decode m_Mo_fault4.2.1 26 = .ok (.iadd, 1) := by decide +kernel
theorem d_Mo_fault4_27 : decode m_Mo_fault4.2.1 27 = .ok (.if_icmp .ge 35, 3) := by decide +kernel
theorem d_Mo_fault4_30 : decode m_Mo_fault4.2.1 30 = .ok (.aload_n 0, 1) := by decide +kernel
theorem d_Mo_fault4_31 : decode m_Mo_fault4.2.1 31 = .ok (.iload_n 3, 1) := by decide +kernel
theorem d_Mo_fault4_32 : decode m_Mo_fault4.2.1 32 = .ok (.iload_n 2, 1) := by decide +kernel
theorem k_Mo_fault4_145 : jl_cv m_Mo_fault4 m_Mo_around 145 2 = true := by decide +kernel
theorem d_Mo_fault4_33 : decode m_Mo_fault4.2.1 33 = .ok (.invokevirtual 145, 3) := by decide +kernel
theorem d_Mo_fault4_36 : decode m_Mo_fault4.2.1 36 = .ok (.ifCond .eq 20, 3) := by decide +kernel
theorem d_Mo_fault4_56 : decode m_Mo_fault4.2.1 56 = .ok (.iinc 3 1, 3) := by decide +kernel
theorem d_Mo_fault4_59 : decode m_Mo_fault4.2.1 59 = .ok (.goto (-43), 3) := by decide +kernel
theorem d_Mo_fault4_39 : decode m_Mo_fault4.2.1 39 = .ok (.aload_n 0, 1) := by decide +kernel
theorem f_Mo_fault4_50 : jl_fd m_Mo_fault4 50 7 14 = true := by decide +kernel
theorem d_Mo_fault4_40 : decode m_Mo_fault4.2.1 40 = .ok (.getfield 50, 3) := by decide +kernel
theorem d_Mo_fault4_43 : decode m_Mo_fault4.2.1 43 = .ok (.iload_n 3, 1) := by decide +kernel
theorem d_Mo_fault4_44 : decode m_Mo_fault4.2.1 44 = .ok (.iaload, 1) := by decide +kernel
theorem d_Mo_fault4_45 : decode m_Mo_fault4.2.1 45 = .ok (.aload_n 0, 1) := by decide +kernel
theorem d_Mo_fault4_46 : decode m_Mo_fault4.2.1 46 = .ok (.getfield 35, 3) := by decide +kernel
theorem d_Mo_fault4_49 : decode m_Mo_fault4.2.1 49 = .ok (.iload_n 1, 1) := by decide +kernel
theorem d_Mo_fault4_50 : decode m_Mo_fault4.2.1 50 = .ok (.iaload, 1) := by decide +kernel
theorem d_Mo_fault4_51 : decode m_Mo_fault4.2.1 51 = .ok (.if_icmp .lt 5, 3) := by decide +kernel
theorem d_Mo_fault4_54 : decode m_Mo_fault4.2.1 54 = .ok (.iconst 1, 1) := by decide +kernel
theorem d_Mo_fault4_55 : decode m_Mo_fault4.2.1 55 = .ok (.ireturn, 1) := by decide +kernel
theorem mo_f4_loop (hl : l.stackTraces = false) {m pc o : Nat} {x : Int32} (hO : MoO σ fa vf wh wy hg dp md ov oh dn an) (hw : MoW σ tb pr ow ft hs) (hu : MoM σ u1 u2 ur ul uo ua uc us ut uk)  (hK : MoK u1 u2 ur ul uo uc us ut uk) (hm : m < 24) (hpc : pc < 24) (ho : uo (24 * m + pc) = o) (hx : ua (24 * m + pc) = x) (hp : pc < ul m) : ∀ (nn : Nat) (i : Nat), uc m - i < nn → i ≤ uc m → jl_W l G m_Mo_fault4 (0, 0) 16 [some (.ref 22), some (.int (nI m)), some (.int (nI pc)), some (.int (nI (2 * m + i)))] [] σ (.inl (some (.int (bi (anyC (fun i => aroU us (2 * m + i) pc && decide (ul m ≤ ut (2 * m + i))) (uc m - i) i || f4r o x (ul m) pc))))) (σ) := by
  obtain ⟨h23, h24, h25, h26, h27⟩ := id hw
  obtain ⟨h28, h29, h30, h31, h32, h33, h34, h35, h36, h37⟩ := id hu
  have ho26 : o < 26 := ho ▸ hK.2.1 _ (by omega)
  obtain ⟨hk1, hk2, hk3, hk4, hk5, hk6⟩ := hK.1 m hm
  intro nn
  induction nn with
  | zero => intro i hnn; exact absurd hnn (Nat.not_lt_zero _)
  | succ nn ihn =>
    intro i hnn hi
    refine jr_iload_n d_Mo_fault4_16 rfl ?_
    refine jr_iconst ((nI (2))) d_Mo_fault4_17 (by decide) ?_
    refine jr_iload_n d_Mo_fault4_18 rfl ?_
    refine jr_imulN d_Mo_fault4_19 ?_
    refine jr_aload_n d_Mo_fault4_20 rfl ?_
    refine jr_getf d_Mo_fault4_21 f_Mo_fault4_44 hO rfl ?_
    refine jr_iload_n d_Mo_fault4_24 rfl ?_
    refine jr_ialdN d_Mo_fault4_25 h34 (by omega) (by omega) ?_
    refine jr_iaddN d_Mo_fault4_26 ?_
    refine jr_icmp_geN 62 d_Mo_fault4_27 (by decide) (by omega) (by omega) (fun c1 => ?_) (fun c1 => ?_)
    · exact jl_oeq (by rw [show uc m - i = 0 by omega]; simp [anyC]) (mo_f4_t hl hO hw hu hK hm hpc ho hx)
    · refine jr_aload_n d_Mo_fault4_30 rfl ?_
      refine jr_iload_n d_Mo_fault4_31 rfl ?_
      refine jr_iload_n d_Mo_fault4_32 rfl ?_
      refine jr_callV (As := [.int (nI (2 * m + i)), .int (nI pc)]) d_Mo_fault4_33 k_Mo_fault4_145 hO rfl rfl rfl (Nat.le_of_ble_eq_true rfl) (by decide) (by decide) (mo_around hl hO hw hu (by omega) (by omega) (hK.2.2 _ (by omega)).1) ?_
      show jl_W l G m_Mo_fault4 (0, 0) 36 [some (.ref 22), some (.int (nI m)), some (.int (nI pc)), some (.int (nI (2 * m + i)))] [.int (bi (aroU us (2 * m + i) (pc)))] (σ) (.inl (some (.int (bi (anyC (fun i => aroU us (2 * m + i) pc && decide (ul m ≤ ut (2 * m + i))) (uc m - i) i || f4r o x (ul m) pc))))) (σ)
      refine jr_if_eq 56 d_Mo_fault4_36 (by decide) (fun c2 => ?_) (fun c2 => ?_)
      · refine jr_iinc ((nI (2 * m + i + 1))) d_Mo_fault4_56 (by decide) rfl (jl_inc _) ?_
        show jl_W l G m_Mo_fault4 (0, 0) 59 [some (.ref 22), some (.int (nI m)), some (.int (nI pc)), some (.int (nI (2 * m + i + 1)))] [] (σ) (.inl (some (.int (bi (anyC (fun i => aroU us (2 * m + i) pc && decide (ul m ≤ ut (2 * m + i))) (uc m - i) i || f4r o x (ul m) pc))))) (σ)
        refine jr_goto 16 d_Mo_fault4_59 (by decide) ?_
        exact jl_oeq (by rw [show uc m - i = (uc m - (i + 1)) + 1 by omega]; simp [anyC, bi_0.mp c2]) (ihn (i + 1) (by omega) (by omega))
      · have htg := (hK.2.2 (2 * m + i) (by omega)).2.1
        refine jr_aload_n d_Mo_fault4_39 rfl ?_
        refine jr_getf d_Mo_fault4_40 f_Mo_fault4_50 hO rfl ?_
        refine jr_iload_n d_Mo_fault4_43 rfl ?_
        refine jr_ialdN d_Mo_fault4_44 h36 (by omega) (by omega) ?_
        refine jr_aload_n d_Mo_fault4_45 rfl ?_
        refine jr_getf d_Mo_fault4_46 f_Mo_fault4_35 hO rfl ?_
        refine jr_iload_n d_Mo_fault4_49 rfl ?_
        refine jr_ialdN d_Mo_fault4_50 h31 (by omega) (by omega) ?_
        refine jr_icmp_ltN 56 d_Mo_fault4_51 (by decide) (by omega) (by omega) (fun c3 => ?_) (fun c3 => ?_)
        · refine jr_iinc ((nI (2 * m + i + 1))) d_Mo_fault4_56 (by decide) rfl (jl_inc _) ?_
          show jl_W l G m_Mo_fault4 (0, 0) 59 [some (.ref 22), some (.int (nI m)), some (.int (nI pc)), some (.int (nI (2 * m + i + 1)))] [] (σ) (.inl (some (.int (bi (anyC (fun i => aroU us (2 * m + i) pc && decide (ul m ≤ ut (2 * m + i))) (uc m - i) i || f4r o x (ul m) pc))))) (σ)
          refine jr_goto 16 d_Mo_fault4_59 (by decide) ?_
          exact jl_oeq (by rw [show uc m - i = (uc m - (i + 1)) + 1 by omega]; simp [anyC, bi_nf c2, c3, Nat.not_le.mpr c3]) (ihn (i + 1) (by omega) (by omega))
        · refine jr_iconst ((nI (1))) d_Mo_fault4_54 (by decide) ?_
          exact jr_zretE d_Mo_fault4_55 rfl (by decide) (by rw [show uc m - i = (uc m - (i + 1)) + 1 by omega]; exact bo1 (by simp [anyC, bi_nf c2, c3, Nat.not_lt.mpr c3])) (rfl) (by decide) (by decide)
theorem d_Mo_fault4_0 : decode m_Mo_fault4.2.1 0 = .ok (.iload_n 2, 1) := by decide +kernel
theorem d_Mo_fault4_1 : decode m_Mo_fault4.2.1 1 = .ok (.aload_n 0, 1) := by decide +kernel
theorem d_Mo_fault4_2 : decode m_Mo_fault4.2.1 2 = .ok (.getfield 35, 3) := by decide +kernel
theorem d_Mo_fault4_5 : decode m_Mo_fault4.2.1 5 = .ok (.iload_n 1, 1) := by decide +kernel
theorem d_Mo_fault4_6 : decode m_Mo_fault4.2.1 6 = .ok (.iaload, 1) := by decide +kernel
theorem d_Mo_fault4_7 : decode m_Mo_fault4.2.1 7 = .ok (.if_icmp .lt 5, 3) := by decide +kernel
theorem d_Mo_fault4_12 : decode m_Mo_fault4.2.1 12 = .ok (.iconst 2, 1) := by decide +kernel
theorem d_Mo_fault4_13 : decode m_Mo_fault4.2.1 13 = .ok (.iload_n 1, 1) := by decide +kernel
theorem d_Mo_fault4_14 : decode m_Mo_fault4.2.1 14 = .ok (.imul, 1) := by decide +kernel
theorem d_Mo_fault4_15 : decode m_Mo_fault4.2.1 15 = .ok (.istore_n 3, 1) := by decide +kernel
theorem d_Mo_fault4_10 : decode m_Mo_fault4.2.1 10 = .ok (.iconst 1, 1) := by decide +kernel
theorem d_Mo_fault4_11 : decode m_Mo_fault4.2.1 11 = .ok (.ireturn, 1) := by decide +kernel
theorem mo_fault4 (hl : l.stackTraces = false) {m pc o : Nat} {x : Int32} (hO : MoO σ fa vf wh wy hg dp md ov oh dn an) (hw : MoW σ tb pr ow ft hs) (hu : MoM σ u1 u2 ur ul uo ua uc us ut uk)  (hK : MoK u1 u2 ur ul uo uc us ut uk) (hm : m < 24) (hpc : pc < 24) (ho : uo (24 * m + pc) = o) (hx : ua (24 * m + pc) = x) : jl_m l G m_Mo_fault4 [.ref 22, .int (nI m), .int (nI pc)] σ (.inl (some (.int (bi (f4 o x (ul m) (fun i => us (2 * m + i) / 32) (fun i => us (2 * m + i) % 32) (fun i => ut (2 * m + i)) (uc m) pc))))) (σ) := by
  obtain ⟨h23, h24, h25, h26, h27⟩ := id hw
  obtain ⟨h28, h29, h30, h31, h32, h33, h34, h35, h36, h37⟩ := id hu
  have ho26 : o < 26 := ho ▸ hK.2.1 _ (by omega)
  obtain ⟨hk1, hk2, hk3, hk4, hk5, hk6⟩ := hK.1 m hm
  refine jl_of (as := [.ref 22, .int (nI m), .int (nI pc)]) rfl (by decide) hl (jl_cc rfl (jl_cc rfl (jl_cc rfl jl_ca))) (Nat.le_of_ble_eq_true rfl) ?_
  show jl_W l G m_Mo_fault4 (0, 0) 0 [some (.ref 22), some (.int (nI m)), some (.int (nI pc)), none] [] (σ) (.inl (some (.int (bi (f4 o x (ul m) (fun i => us (2 * m + i) / 32) (fun i => us (2 * m + i) % 32) (fun i => ut (2 * m + i)) (uc m) pc))))) (σ)
  refine jr_iload_n d_Mo_fault4_0 rfl ?_
  refine jr_aload_n d_Mo_fault4_1 rfl ?_
  refine jr_getf d_Mo_fault4_2 f_Mo_fault4_35 hO rfl ?_
  refine jr_iload_n d_Mo_fault4_5 rfl ?_
  refine jr_ialdN d_Mo_fault4_6 h31 (by omega) (by omega) ?_
  refine jr_icmp_ltN 12 d_Mo_fault4_7 (by decide) (by omega) (by omega) (fun c1 => ?_) (fun c1 => ?_)
  · refine jr_iconst ((nI (2))) d_Mo_fault4_12 (by decide) ?_
    refine jr_iload_n d_Mo_fault4_13 rfl ?_
    refine jr_imulN d_Mo_fault4_14 ?_
    refine jr_istore_n d_Mo_fault4_15 (by decide) ?_
    show jl_W l G m_Mo_fault4 (0, 0) 16 [some (.ref 22), some (.int (nI m)), some (.int (nI pc)), some (.int (nI ((2) * (m))))] [] (σ) (.inl (some (.int (bi (f4 o x (ul m) (fun i => us (2 * m + i) / 32) (fun i => us (2 * m + i) % 32) (fun i => ut (2 * m + i)) (uc m) pc))))) (σ)
    exact jl_oeq (by unfold f4; rw [decide_eq_false (Nat.not_le.mpr c1), Bool.false_or]; rfl) (mo_f4_loop hl hO hw hu hK hm hpc ho hx c1 (uc m + 1) 0 (by omega) (by omega))
  · refine jr_iconst ((nI (1))) d_Mo_fault4_10 (by decide) ?_
    exact jr_zretE d_Mo_fault4_11 rfl (by decide) (bo1 (by first | (simp [f4, c1, Nat.not_lt.mpr c1]; done) | (simp [f4, c1, Nat.not_lt.mpr c1]; omega))) (rfl) (by decide) (by decide)
end JMf
