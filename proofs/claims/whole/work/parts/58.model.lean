/-! the model: fault5, takes (wip/gen/p58.py) -/
section JMg
variable {l : Launch} {G : jl_G} {σ : jl_S}
variable {tb : Nat → Bool} {pr : Nat → Option Nat} {ow fi ft : Nat → Nat} {hs : Nat → Bool} {fa vf wh wy hg dp md ov oh dn an : Int32}
variable {u1 u2 : Nat → Option Nat} {ur ul uo : Nat → Nat} {ua : Nat → Int32} {uc us ut uk : Nat → Nat}
variable {sg : Int32 → Option Sg}
theorem d_Mo_fault5_60 : decode m_Mo_fault5.2.1 60 = .ok (.aload_n 0, 1) := by decide +kernel
theorem f_Mo_fault5_38 : jl_fd m_Mo_fault5 38 7 10 = true := by decide +kernel
theorem d_Mo_fault5_61 : decode m_Mo_fault5.2.1 61 = .ok (.getfield 38, 3) := by decide +kernel
theorem d_Mo_fault5_64 : decode m_Mo_fault5.2.1 64 = .ok (.bipush 24, 2) := by decide +kernel
theorem d_Mo_fault5_66 : decode m_Mo_fault5.2.1 66 = .ok (.iload_n 1, 1) := by decide +kernel
theorem d_Mo_fault5_67 : decode m_Mo_fault5.2.1 67 = .ok (.imul, 1) := by decide +kernel
theorem d_Mo_fault5_68 : decode m_Mo_fault5.2.1 68 = .ok (.iload_n 2, 1) := by decide +kernel
theorem d_Mo_fault5_69 : decode m_Mo_fault5.2.1 69 = .ok (.iadd, 1) := by decide +kernel
theorem d_Mo_fault5_70 : decode m_Mo_fault5.2.1 70 = .ok (.iaload, 1) := by decide +kernel
theorem d_Mo_fault5_71 : decode m_Mo_fault5.2.1 71 = .ok (.istore_n 3, 1) := by decide +kernel
theorem d_Mo_fault5_72 : decode m_Mo_fault5.2.1 72 = .ok (.aload_n 0, 1) := by decide +kernel
theorem f_Mo_fault5_41 : jl_fd m_Mo_fault5 41 7 11 = true := by decide +kernel
theorem d_Mo_fault5_73 : decode m_Mo_fault5.2.1 73 = .ok (.getfield 41, 3) := by decide +kernel
theorem d_Mo_fault5_76 : decode m_Mo_fault5.2.1 76 = .ok (.bipush 24, 2) := by decide +kernel
theorem d_Mo_fault5_78 : decode m_Mo_fault5.2.1 78 = .ok (.iload_n 1, 1) := by decide +kernel
theorem d_Mo_fault5_79 : decode m_Mo_fault5.2.1 79 = .ok (.imul, 1) := by decide +kernel
theorem d_Mo_fault5_80 : decode m_Mo_fault5.2.1 80 = .ok (.iload_n 2, 1) := by decide +kernel
theorem d_Mo_fault5_81 : decode m_Mo_fault5.2.1 81 = .ok (.iadd, 1) := by decide +kernel
theorem d_Mo_fault5_82 : decode m_Mo_fault5.2.1 82 = .ok (.iaload, 1) := by decide +kernel
theorem d_Mo_fault5_83 : decode m_Mo_fault5.2.1 83 = .ok (.istore 4, 2) := by decide +kernel
theorem d_Mo_fault5_85 : decode m_Mo_fault5.2.1 85 = .ok (.iload_n 3, 1) := by decide +kernel
theorem d_Mo_fault5_86 : decode m_Mo_fault5.2.1 86 = .ok (.iconst 1, 1) := by decide +kernel
theorem d_Mo_fault5_87 : decode m_Mo_fault5.2.1 87 = .ok (.if_icmp .eq 8, 3) := by decide +kernel
theorem d_Mo_fault5_90 : decode m_Mo_fault5.2.1 90 = .ok (.iload_n 3, 1) := by decide +kernel
theorem d_Mo_fault5_91 : decode m_Mo_fault5.2.1 91 = .ok (.iconst 2, 1) := by decide +kernel
theorem d_Mo_fault5_92 : decode m_Mo_fault5.2.1 92 = .ok (.if_icmp .ne 12, 3) := by decide +kernel
theorem d_Mo_fault5_104 : decode m_Mo_fault5.2.1 104 = .ok (.iload_n 3, 1) := by decide +kernel
theorem d_Mo_fault5_105 : decode m_Mo_fault5.2.1 105 = .ok (.bipush 11, 2) := by decide +kernel
theorem d_Mo_fault5_107 : decode m_Mo_fault5.2.1 107 = .ok (.if_icmp .eq 9, 3) := by decide +kernel
theorem d_Mo_fault5_110 : decode m_Mo_fault5.2.1 110 = .ok (.iload_n 3, 1) := by decide +kernel
theorem d_Mo_fault5_111 : decode m_Mo_fault5.2.1 111 = .ok (.bipush 15, 2) := by decide +kernel
theorem d_Mo_fault5_113 : decode m_Mo_fault5.2.1 113 = .ok (.if_icmp .ne 18, 3) := by decide +kernel
theorem d_Mo_fault5_131 : decode m_Mo_fault5.2.1 131 = .ok (.iload_n 3, 1) := by decide +kernel
theorem d_Mo_fault5_132 : decode m_Mo_fault5.2.1 132 = .ok (.bipush 12, 2) := by decide +kernel
theorem d_Mo_fault5_134 : decode m_Mo_fault5.2.1 134 = .ok (.if_icmp .eq 9, 3) := by decide +kernel
theorem d_Mo_fault5_137 : decode m_Mo_fault5.2.1 137 = .ok (.iload_n 3, 1) := by decide +kernel
theorem d_Mo_fault5_138 : decode m_Mo_fault5.2.1 138 = .ok (.bipush 13, 2) := by decide +kernel
theorem d_Mo_fault5_140 : decode m_Mo_fault5.2.1 140 = .ok (.if_icmp .ne 43, 3) := by decide +kernel
theorem d_Mo_fault5_183 : decode m_Mo_fault5.2.1 183 = .ok (.iload_n 3, 1) := by decide +kernel
theorem d_Mo_fault5_184 : decode m_Mo_fault5.2.1 184 = .ok (.bipush 14, 2) := by decide +kernel
theorem d_Mo_fault5_186 : decode m_Mo_fault5.2.1 186 = .ok (.if_icmp .ne 38, 3) := by decide +kernel
theorem d_Mo_fault5_224 : decode m_Mo_fault5.2.1 224 = .ok (.iconst 0, 1) := by decide +kernel
theorem d_Mo_fault5_225 : decode m_Mo_fault5.2.1 225 = .ok (.ireturn, 1) := by decide +kernel
theorem mo_f5_r0 (hl : l.stackTraces = false) {m pc : Nat} {v : Int32} {x : Int32} (hO : MoO σ fa vf wh wy hg dp md ov oh dn an) (hw : MoW σ tb pr ow ft hs) (hu : MoM σ u1 u2 ur ul uo ua uc us ut uk) (hok : WoOk tb pr ow fi) (hsg : SgM tb pr hs u1 u2 ur sg) (hK : MoK u1 u2 ur ul uo uc us ut uk) (hm : m < 24) (hpc : pc < 24) (ho : uo (24 * m + pc) = 0) (hx : ua (24 * m + pc) = x) : jl_W l G m_Mo_fault5 (0, 0) 60 [some (.ref 22), some (.int (nI m)), some (.int (nI pc)), some (.int (v)), none] [] σ (.inl (some (.int (bi (f5o tb ow fi sg 0 (x)))))) (σ) := by
  obtain ⟨h23, h24, h25, h26, h27⟩ := id hw
  obtain ⟨h28, h29, h30, h31, h32, h33, h34, h35, h36, h37⟩ := id hu
  obtain ⟨hk1, hk2, hk3, hk4, hk5, hk6⟩ := hK.1 m hm
  refine jr_aload_n d_Mo_fault5_60 rfl ?_
  refine jr_getf d_Mo_fault5_61 f_Mo_fault5_38 hO rfl ?_
  refine jr_bipush ((nI (24))) d_Mo_fault5_64 (by decide) ?_
  refine jr_iload_n d_Mo_fault5_66 rfl ?_
  refine jr_imulN d_Mo_fault5_67 ?_
  refine jr_iload_n d_Mo_fault5_68 rfl ?_
  refine jr_iaddN d_Mo_fault5_69 ?_
  refine jr_ialdQ (v := (nI (0))) d_Mo_fault5_70 h32 (by omega) (by omega) (congrArg nI ho) ?_
  refine jr_istore_n d_Mo_fault5_71 (by decide) ?_
  show jl_W l G m_Mo_fault5 (0, 0) 72 [some (.ref 22), some (.int (nI m)), some (.int (nI pc)), some (.int (nI 0)), none] [] (σ) (.inl (some (.int (bi (f5o tb ow fi sg 0 (x)))))) (σ)
  refine jr_aload_n d_Mo_fault5_72 rfl ?_
  refine jr_getf d_Mo_fault5_73 f_Mo_fault5_41 hO rfl ?_
  refine jr_bipush ((nI (24))) d_Mo_fault5_76 (by decide) ?_
  refine jr_iload_n d_Mo_fault5_78 rfl ?_
  refine jr_imulN d_Mo_fault5_79 ?_
  refine jr_iload_n d_Mo_fault5_80 rfl ?_
  refine jr_iaddN d_Mo_fault5_81 ?_
  refine jr_ialdQ (v := (x)) d_Mo_fault5_82 h33 (by omega) (by omega) (hx) ?_
  refine jr_istore d_Mo_fault5_83 (by decide) ?_
  show jl_W l G m_Mo_fault5 (0, 0) 85 [some (.ref 22), some (.int (nI m)), some (.int (nI pc)), some (.int (nI 0)), some (.int (x))] [] (σ) (.inl (some (.int (bi (f5o tb ow fi sg 0 (x)))))) (σ)
  refine jr_iload_n d_Mo_fault5_85 rfl ?_
  refine jr_iconst ((nI (1))) d_Mo_fault5_86 (by decide) ?_
  refine jr_icmp_eq 95 d_Mo_fault5_87 (by decide) (fun z => absurd z (by decide)) (fun _ => ?_)
  refine jr_iload_n d_Mo_fault5_90 rfl ?_
  refine jr_iconst ((nI (2))) d_Mo_fault5_91 (by decide) ?_
  refine jr_icmp_ne 104 d_Mo_fault5_92 (by decide) (fun _ => ?_) (fun z => absurd z (by decide))
  refine jr_iload_n d_Mo_fault5_104 rfl ?_
  refine jr_bipush ((nI (11))) d_Mo_fault5_105 (by decide) ?_
  refine jr_icmp_eq 116 d_Mo_fault5_107 (by decide) (fun z => absurd z (by decide)) (fun _ => ?_)
  refine jr_iload_n d_Mo_fault5_110 rfl ?_
  refine jr_bipush ((nI (15))) d_Mo_fault5_111 (by decide) ?_
  refine jr_icmp_ne 131 d_Mo_fault5_113 (by decide) (fun _ => ?_) (fun z => absurd z (by decide))
  refine jr_iload_n d_Mo_fault5_131 rfl ?_
  refine jr_bipush ((nI (12))) d_Mo_fault5_132 (by decide) ?_
  refine jr_icmp_eq 143 d_Mo_fault5_134 (by decide) (fun z => absurd z (by decide)) (fun _ => ?_)
  refine jr_iload_n d_Mo_fault5_137 rfl ?_
  refine jr_bipush ((nI (13))) d_Mo_fault5_138 (by decide) ?_
  refine jr_icmp_ne 183 d_Mo_fault5_140 (by decide) (fun _ => ?_) (fun z => absurd z (by decide))
  refine jr_iload_n d_Mo_fault5_183 rfl ?_
  refine jr_bipush ((nI (14))) d_Mo_fault5_184 (by decide) ?_
  refine jr_icmp_ne 224 d_Mo_fault5_186 (by decide) (fun _ => ?_) (fun z => absurd z (by decide))
  refine jr_iconst ((nI (0))) d_Mo_fault5_224 (by decide) ?_
  exact jr_zretE d_Mo_fault5_225 rfl (by decide) (bo0 (by first | (simp [f5o, outB_lt6]; done) | (simp [f5o, outB_lt6]; omega))) (rfl) (by decide) (by decide)
theorem d_Mo_fault5_95 : decode m_Mo_fault5.2.1 95 = .ok (.aload_n 0, 1) := by decide +kernel
theorem d_Mo_fault5_96 : decode m_Mo_fault5.2.1 96 = .ok (.iload 4, 2) := by decide +kernel
theorem d_Mo_fault5_98 : decode m_Mo_fault5.2.1 98 = .ok (.bipush 6, 2) := by decide +kernel
theorem k_Mo_fault5_114 : jl_cv m_Mo_fault5 m_Mo_out 114 2 = true := by decide +kernel
theorem d_Mo_fault5_100 : decode m_Mo_fault5.2.1 100 = .ok (.invokevirtual 114, 3) := by decide +kernel
theorem d_Mo_fault5_103 : decode m_Mo_fault5.2.1 103 = .ok (.ireturn, 1) := by decide +kernel
theorem mo_f5_r1 (hl : l.stackTraces = false) {m pc : Nat} {v : Int32} {x : Int32} (hO : MoO σ fa vf wh wy hg dp md ov oh dn an) (hw : MoW σ tb pr ow ft hs) (hu : MoM σ u1 u2 ur ul uo ua uc us ut uk) (hok : WoOk tb pr ow fi) (hsg : SgM tb pr hs u1 u2 ur sg) (hK : MoK u1 u2 ur ul uo uc us ut uk) (hm : m < 24) (hpc : pc < 24) (ho : uo (24 * m + pc) = 1) (hx : ua (24 * m + pc) = x) : jl_W l G m_Mo_fault5 (0, 0) 60 [some (.ref 22), some (.int (nI m)), some (.int (nI pc)), some (.int (v)), none] [] σ (.inl (some (.int (bi (f5o tb ow fi sg 1 (x)))))) (σ) := by
  obtain ⟨h23, h24, h25, h26, h27⟩ := id hw
  obtain ⟨h28, h29, h30, h31, h32, h33, h34, h35, h36, h37⟩ := id hu
  obtain ⟨hk1, hk2, hk3, hk4, hk5, hk6⟩ := hK.1 m hm
  refine jr_aload_n d_Mo_fault5_60 rfl ?_
  refine jr_getf d_Mo_fault5_61 f_Mo_fault5_38 hO rfl ?_
  refine jr_bipush ((nI (24))) d_Mo_fault5_64 (by decide) ?_
  refine jr_iload_n d_Mo_fault5_66 rfl ?_
  refine jr_imulN d_Mo_fault5_67 ?_
  refine jr_iload_n d_Mo_fault5_68 rfl ?_
  refine jr_iaddN d_Mo_fault5_69 ?_
  refine jr_ialdQ (v := (nI (1))) d_Mo_fault5_70 h32 (by omega) (by omega) (congrArg nI ho) ?_
  refine jr_istore_n d_Mo_fault5_71 (by decide) ?_
  show jl_W l G m_Mo_fault5 (0, 0) 72 [some (.ref 22), some (.int (nI m)), some (.int (nI pc)), some (.int (nI 1)), none] [] (σ) (.inl (some (.int (bi (f5o tb ow fi sg 1 (x)))))) (σ)
  refine jr_aload_n d_Mo_fault5_72 rfl ?_
  refine jr_getf d_Mo_fault5_73 f_Mo_fault5_41 hO rfl ?_
  refine jr_bipush ((nI (24))) d_Mo_fault5_76 (by decide) ?_
  refine jr_iload_n d_Mo_fault5_78 rfl ?_
  refine jr_imulN d_Mo_fault5_79 ?_
  refine jr_iload_n d_Mo_fault5_80 rfl ?_
  refine jr_iaddN d_Mo_fault5_81 ?_
  refine jr_ialdQ (v := (x)) d_Mo_fault5_82 h33 (by omega) (by omega) (hx) ?_
  refine jr_istore d_Mo_fault5_83 (by decide) ?_
  show jl_W l G m_Mo_fault5 (0, 0) 85 [some (.ref 22), some (.int (nI m)), some (.int (nI pc)), some (.int (nI 1)), some (.int (x))] [] (σ) (.inl (some (.int (bi (f5o tb ow fi sg 1 (x)))))) (σ)
  refine jr_iload_n d_Mo_fault5_85 rfl ?_
  refine jr_iconst ((nI (1))) d_Mo_fault5_86 (by decide) ?_
  refine jr_icmp_eq 95 d_Mo_fault5_87 (by decide) (fun _ => ?_) (fun z => absurd (by decide) z)
  refine jr_aload_n d_Mo_fault5_95 rfl ?_
  refine jr_iload d_Mo_fault5_96 rfl ?_
  refine jr_bipush ((nI (6))) d_Mo_fault5_98 (by decide) ?_
  refine jr_callV (As := [.int (x), .int (nI 6)]) d_Mo_fault5_100 k_Mo_fault5_114 hO rfl rfl rfl (Nat.le_of_ble_eq_true rfl) (by decide) (by decide) (mo_out hl hO hw) ?_
  show jl_W l G m_Mo_fault5 (0, 0) 103 [some (.ref 22), some (.int (nI m)), some (.int (nI pc)), some (.int (nI 1)), some (.int (x))] [.int (bi (outB (x) (nI (6))))] (σ) (.inl (some (.int (bi (f5o tb ow fi sg 1 (x)))))) (σ)
  exact jr_zretE d_Mo_fault5_103 rfl (bi_01 _) (bov (by first | (simp [f5o, outB_lt6]; done) | (simp [f5o, outB_lt6]; omega))) (rfl) (by decide) (by decide)
theorem mo_f5_r2 (hl : l.stackTraces = false) {m pc : Nat} {v : Int32} {x : Int32} (hO : MoO σ fa vf wh wy hg dp md ov oh dn an) (hw : MoW σ tb pr ow ft hs) (hu : MoM σ u1 u2 ur ul uo ua uc us ut uk) (hok : WoOk tb pr ow fi) (hsg : SgM tb pr hs u1 u2 ur sg) (hK : MoK u1 u2 ur ul uo uc us ut uk) (hm : m < 24) (hpc : pc < 24) (ho : uo (24 * m + pc) = 2) (hx : ua (24 * m + pc) = x) : jl_W l G m_Mo_fault5 (0, 0) 60 [some (.ref 22), some (.int (nI m)), some (.int (nI pc)), some (.int (v)), none] [] σ (.inl (some (.int (bi (f5o tb ow fi sg 2 (x)))))) (σ) := by
  obtain ⟨h23, h24, h25, h26, h27⟩ := id hw
  obtain ⟨h28, h29, h30, h31, h32, h33, h34, h35, h36, h37⟩ := id hu
  obtain ⟨hk1, hk2, hk3, hk4, hk5, hk6⟩ := hK.1 m hm
  refine jr_aload_n d_Mo_fault5_60 rfl ?_
  refine jr_getf d_Mo_fault5_61 f_Mo_fault5_38 hO rfl ?_
  refine jr_bipush ((nI (24))) d_Mo_fault5_64 (by decide) ?_
  refine jr_iload_n d_Mo_fault5_66 rfl ?_
  refine jr_imulN d_Mo_fault5_67 ?_
  refine jr_iload_n d_Mo_fault5_68 rfl ?_
  refine jr_iaddN d_Mo_fault5_69 ?_
  refine jr_ialdQ (v := (nI (2))) d_Mo_fault5_70 h32 (by omega) (by omega) (congrArg nI ho) ?_
  refine jr_istore_n d_Mo_fault5_71 (by decide) ?_
  show jl_W l G m_Mo_fault5 (0, 0) 72 [some (.ref 22), some (.int (nI m)), some (.int (nI pc)), some (.int (nI 2)), none] [] (σ) (.inl (some (.int (bi (f5o tb ow fi sg 2 (x)))))) (σ)
  refine jr_aload_n d_Mo_fault5_72 rfl ?_
  refine jr_getf d_Mo_fault5_73 f_Mo_fault5_41 hO rfl ?_
  refine jr_bipush ((nI (24))) d_Mo_fault5_76 (by decide) ?_
  refine jr_iload_n d_Mo_fault5_78 rfl ?_
  refine jr_imulN d_Mo_fault5_79 ?_
  refine jr_iload_n d_Mo_fault5_80 rfl ?_
  refine jr_iaddN d_Mo_fault5_81 ?_
  refine jr_ialdQ (v := (x)) d_Mo_fault5_82 h33 (by omega) (by omega) (hx) ?_
  refine jr_istore d_Mo_fault5_83 (by decide) ?_
  show jl_W l G m_Mo_fault5 (0, 0) 85 [some (.ref 22), some (.int (nI m)), some (.int (nI pc)), some (.int (nI 2)), some (.int (x))] [] (σ) (.inl (some (.int (bi (f5o tb ow fi sg 2 (x)))))) (σ)
  refine jr_iload_n d_Mo_fault5_85 rfl ?_
  refine jr_iconst ((nI (1))) d_Mo_fault5_86 (by decide) ?_
  refine jr_icmp_eq 95 d_Mo_fault5_87 (by decide) (fun z => absurd z (by decide)) (fun _ => ?_)
  refine jr_iload_n d_Mo_fault5_90 rfl ?_
  refine jr_iconst ((nI (2))) d_Mo_fault5_91 (by decide) ?_
  refine jr_icmp_ne 104 d_Mo_fault5_92 (by decide) (fun z => absurd rfl z) (fun _ => ?_)
  refine jr_aload_n d_Mo_fault5_95 rfl ?_
  refine jr_iload d_Mo_fault5_96 rfl ?_
  refine jr_bipush ((nI (6))) d_Mo_fault5_98 (by decide) ?_
  refine jr_callV (As := [.int (x), .int (nI 6)]) d_Mo_fault5_100 k_Mo_fault5_114 hO rfl rfl rfl (Nat.le_of_ble_eq_true rfl) (by decide) (by decide) (mo_out hl hO hw) ?_
  show jl_W l G m_Mo_fault5 (0, 0) 103 [some (.ref 22), some (.int (nI m)), some (.int (nI pc)), some (.int (nI 2)), some (.int (x))] [.int (bi (outB (x) (nI (6))))] (σ) (.inl (some (.int (bi (f5o tb ow fi sg 2 (x)))))) (σ)
  exact jr_zretE d_Mo_fault5_103 rfl (bi_01 _) (bov (by first | (simp [f5o, outB_lt6]; done) | (simp [f5o, outB_lt6]; omega))) (rfl) (by decide) (by decide)
theorem mo_f5_r3 (hl : l.stackTraces = false) {m pc : Nat} {v : Int32} {x : Int32} (hO : MoO σ fa vf wh wy hg dp md ov oh dn an) (hw : MoW σ tb pr ow ft hs) (hu : MoM σ u1 u2 ur ul uo ua uc us ut uk) (hok : WoOk tb pr ow fi) (hsg : SgM tb pr hs u1 u2 ur sg) (hK : MoK u1 u2 ur ul uo uc us ut uk) (hm : m < 24) (hpc : pc < 24) (ho : uo (24 * m + pc) = 3) (hx : ua (24 * m + pc) = x) : jl_W l G m_Mo_fault5 (0, 0) 60 [some (.ref 22), some (.int (nI m)), some (.int (nI pc)), some (.int (v)), none] [] σ (.inl (some (.int (bi (f5o tb ow fi sg 3 (x)))))) (σ) := by
  obtain ⟨h23, h24, h25, h26, h27⟩ := id hw
  obtain ⟨h28, h29, h30, h31, h32, h33, h34, h35, h36, h37⟩ := id hu
  obtain ⟨hk1, hk2, hk3, hk4, hk5, hk6⟩ := hK.1 m hm
  refine jr_aload_n d_Mo_fault5_60 rfl ?_
  refine jr_getf d_Mo_fault5_61 f_Mo_fault5_38 hO rfl ?_
  refine jr_bipush ((nI (24))) d_Mo_fault5_64 (by decide) ?_
  refine jr_iload_n d_Mo_fault5_66 rfl ?_
  refine jr_imulN d_Mo_fault5_67 ?_
  refine jr_iload_n d_Mo_fault5_68 rfl ?_
  refine jr_iaddN d_Mo_fault5_69 ?_
  refine jr_ialdQ (v := (nI (3))) d_Mo_fault5_70 h32 (by omega) (by omega) (congrArg nI ho) ?_
  refine jr_istore_n d_Mo_fault5_71 (by decide) ?_
  show jl_W l G m_Mo_fault5 (0, 0) 72 [some (.ref 22), some (.int (nI m)), some (.int (nI pc)), some (.int (nI 3)), none] [] (σ) (.inl (some (.int (bi (f5o tb ow fi sg 3 (x)))))) (σ)
  refine jr_aload_n d_Mo_fault5_72 rfl ?_
  refine jr_getf d_Mo_fault5_73 f_Mo_fault5_41 hO rfl ?_
  refine jr_bipush ((nI (24))) d_Mo_fault5_76 (by decide) ?_
  refine jr_iload_n d_Mo_fault5_78 rfl ?_
  refine jr_imulN d_Mo_fault5_79 ?_
  refine jr_iload_n d_Mo_fault5_80 rfl ?_
  refine jr_iaddN d_Mo_fault5_81 ?_
  refine jr_ialdQ (v := (x)) d_Mo_fault5_82 h33 (by omega) (by omega) (hx) ?_
  refine jr_istore d_Mo_fault5_83 (by decide) ?_
  show jl_W l G m_Mo_fault5 (0, 0) 85 [some (.ref 22), some (.int (nI m)), some (.int (nI pc)), some (.int (nI 3)), some (.int (x))] [] (σ) (.inl (some (.int (bi (f5o tb ow fi sg 3 (x)))))) (σ)
  refine jr_iload_n d_Mo_fault5_85 rfl ?_
  refine jr_iconst ((nI (1))) d_Mo_fault5_86 (by decide) ?_
  refine jr_icmp_eq 95 d_Mo_fault5_87 (by decide) (fun z => absurd z (by decide)) (fun _ => ?_)
  refine jr_iload_n d_Mo_fault5_90 rfl ?_
  refine jr_iconst ((nI (2))) d_Mo_fault5_91 (by decide) ?_
  refine jr_icmp_ne 104 d_Mo_fault5_92 (by decide) (fun _ => ?_) (fun z => absurd z (by decide))
  refine jr_iload_n d_Mo_fault5_104 rfl ?_
  refine jr_bipush ((nI (11))) d_Mo_fault5_105 (by decide) ?_
  refine jr_icmp_eq 116 d_Mo_fault5_107 (by decide) (fun z => absurd z (by decide)) (fun _ => ?_)
  refine jr_iload_n d_Mo_fault5_110 rfl ?_
  refine jr_bipush ((nI (15))) d_Mo_fault5_111 (by decide) ?_
  refine jr_icmp_ne 131 d_Mo_fault5_113 (by decide) (fun _ => ?_) (fun z => absurd z (by decide))
  refine jr_iload_n d_Mo_fault5_131 rfl ?_
  refine jr_bipush ((nI (12))) d_Mo_fault5_132 (by decide) ?_
  refine jr_icmp_eq 143 d_Mo_fault5_134 (by decide) (fun z => absurd z (by decide)) (fun _ => ?_)
  refine jr_iload_n d_Mo_fault5_137 rfl ?_
  refine jr_bipush ((nI (13))) d_Mo_fault5_138 (by decide) ?_
  refine jr_icmp_ne 183 d_Mo_fault5_140 (by decide) (fun _ => ?_) (fun z => absurd z (by decide))
  refine jr_iload_n d_Mo_fault5_183 rfl ?_
  refine jr_bipush ((nI (14))) d_Mo_fault5_184 (by decide) ?_
  refine jr_icmp_ne 224 d_Mo_fault5_186 (by decide) (fun _ => ?_) (fun z => absurd z (by decide))
  refine jr_iconst ((nI (0))) d_Mo_fault5_224 (by decide) ?_
  exact jr_zretE d_Mo_fault5_225 rfl (by decide) (bo0 (by first | (simp [f5o, outB_lt6]; done) | (simp [f5o, outB_lt6]; omega))) (rfl) (by decide) (by decide)
theorem mo_f5_r4 (hl : l.stackTraces = false) {m pc : Nat} {v : Int32} {x : Int32} (hO : MoO σ fa vf wh wy hg dp md ov oh dn an) (hw : MoW σ tb pr ow ft hs) (hu : MoM σ u1 u2 ur ul uo ua uc us ut uk) (hok : WoOk tb pr ow fi) (hsg : SgM tb pr hs u1 u2 ur sg) (hK : MoK u1 u2 ur ul uo uc us ut uk) (hm : m < 24) (hpc : pc < 24) (ho : uo (24 * m + pc) = 4) (hx : ua (24 * m + pc) = x) : jl_W l G m_Mo_fault5 (0, 0) 60 [some (.ref 22), some (.int (nI m)), some (.int (nI pc)), some (.int (v)), none] [] σ (.inl (some (.int (bi (f5o tb ow fi sg 4 (x)))))) (σ) := by
  obtain ⟨h23, h24, h25, h26, h27⟩ := id hw
  obtain ⟨h28, h29, h30, h31, h32, h33, h34, h35, h36, h37⟩ := id hu
  obtain ⟨hk1, hk2, hk3, hk4, hk5, hk6⟩ := hK.1 m hm
  refine jr_aload_n d_Mo_fault5_60 rfl ?_
  refine jr_getf d_Mo_fault5_61 f_Mo_fault5_38 hO rfl ?_
  refine jr_bipush ((nI (24))) d_Mo_fault5_64 (by decide) ?_
  refine jr_iload_n d_Mo_fault5_66 rfl ?_
  refine jr_imulN d_Mo_fault5_67 ?_
  refine jr_iload_n d_Mo_fault5_68 rfl ?_
  refine jr_iaddN d_Mo_fault5_69 ?_
  refine jr_ialdQ (v := (nI (4))) d_Mo_fault5_70 h32 (by omega) (by omega) (congrArg nI ho) ?_
  refine jr_istore_n d_Mo_fault5_71 (by decide) ?_
  show jl_W l G m_Mo_fault5 (0, 0) 72 [some (.ref 22), some (.int (nI m)), some (.int (nI pc)), some (.int (nI 4)), none] [] (σ) (.inl (some (.int (bi (f5o tb ow fi sg 4 (x)))))) (σ)
  refine jr_aload_n d_Mo_fault5_72 rfl ?_
  refine jr_getf d_Mo_fault5_73 f_Mo_fault5_41 hO rfl ?_
  refine jr_bipush ((nI (24))) d_Mo_fault5_76 (by decide) ?_
  refine jr_iload_n d_Mo_fault5_78 rfl ?_
  refine jr_imulN d_Mo_fault5_79 ?_
  refine jr_iload_n d_Mo_fault5_80 rfl ?_
  refine jr_iaddN d_Mo_fault5_81 ?_
  refine jr_ialdQ (v := (x)) d_Mo_fault5_82 h33 (by omega) (by omega) (hx) ?_
  refine jr_istore d_Mo_fault5_83 (by decide) ?_
  show jl_W l G m_Mo_fault5 (0, 0) 85 [some (.ref 22), some (.int (nI m)), some (.int (nI pc)), some (.int (nI 4)), some (.int (x))] [] (σ) (.inl (some (.int (bi (f5o tb ow fi sg 4 (x)))))) (σ)
  refine jr_iload_n d_Mo_fault5_85 rfl ?_
  refine jr_iconst ((nI (1))) d_Mo_fault5_86 (by decide) ?_
  refine jr_icmp_eq 95 d_Mo_fault5_87 (by decide) (fun z => absurd z (by decide)) (fun _ => ?_)
  refine jr_iload_n d_Mo_fault5_90 rfl ?_
  refine jr_iconst ((nI (2))) d_Mo_fault5_91 (by decide) ?_
  refine jr_icmp_ne 104 d_Mo_fault5_92 (by decide) (fun _ => ?_) (fun z => absurd z (by decide))
  refine jr_iload_n d_Mo_fault5_104 rfl ?_
  refine jr_bipush ((nI (11))) d_Mo_fault5_105 (by decide) ?_
  refine jr_icmp_eq 116 d_Mo_fault5_107 (by decide) (fun z => absurd z (by decide)) (fun _ => ?_)
  refine jr_iload_n d_Mo_fault5_110 rfl ?_
  refine jr_bipush ((nI (15))) d_Mo_fault5_111 (by decide) ?_
  refine jr_icmp_ne 131 d_Mo_fault5_113 (by decide) (fun _ => ?_) (fun z => absurd z (by decide))
  refine jr_iload_n d_Mo_fault5_131 rfl ?_
  refine jr_bipush ((nI (12))) d_Mo_fault5_132 (by decide) ?_
  refine jr_icmp_eq 143 d_Mo_fault5_134 (by decide) (fun z => absurd z (by decide)) (fun _ => ?_)
  refine jr_iload_n d_Mo_fault5_137 rfl ?_
  refine jr_bipush ((nI (13))) d_Mo_fault5_138 (by decide) ?_
  refine jr_icmp_ne 183 d_Mo_fault5_140 (by decide) (fun _ => ?_) (fun z => absurd z (by decide))
  refine jr_iload_n d_Mo_fault5_183 rfl ?_
  refine jr_bipush ((nI (14))) d_Mo_fault5_184 (by decide) ?_
  refine jr_icmp_ne 224 d_Mo_fault5_186 (by decide) (fun _ => ?_) (fun z => absurd z (by decide))
  refine jr_iconst ((nI (0))) d_Mo_fault5_224 (by decide) ?_
  exact jr_zretE d_Mo_fault5_225 rfl (by decide) (bo0 (by first | (simp [f5o, outB_lt6]; done) | (simp [f5o, outB_lt6]; omega))) (rfl) (by decide) (by decide)
theorem mo_f5_r5 (hl : l.stackTraces = false) {m pc : Nat} {v : Int32} {x : Int32} (hO : MoO σ fa vf wh wy hg dp md ov oh dn an) (hw : MoW σ tb pr ow ft hs) (hu : MoM σ u1 u2 ur ul uo ua uc us ut uk) (hok : WoOk tb pr ow fi) (hsg : SgM tb pr hs u1 u2 ur sg) (hK : MoK u1 u2 ur ul uo uc us ut uk) (hm : m < 24) (hpc : pc < 24) (ho : uo (24 * m + pc) = 5) (hx : ua (24 * m + pc) = x) : jl_W l G m_Mo_fault5 (0, 0) 60 [some (.ref 22), some (.int (nI m)), some (.int (nI pc)), some (.int (v)), none] [] σ (.inl (some (.int (bi (f5o tb ow fi sg 5 (x)))))) (σ) := by
  obtain ⟨h23, h24, h25, h26, h27⟩ := id hw
  obtain ⟨h28, h29, h30, h31, h32, h33, h34, h35, h36, h37⟩ := id hu
  obtain ⟨hk1, hk2, hk3, hk4, hk5, hk6⟩ := hK.1 m hm
  refine jr_aload_n d_Mo_fault5_60 rfl ?_
  refine jr_getf d_Mo_fault5_61 f_Mo_fault5_38 hO rfl ?_
  refine jr_bipush ((nI (24))) d_Mo_fault5_64 (by decide) ?_
  refine jr_iload_n d_Mo_fault5_66 rfl ?_
  refine jr_imulN d_Mo_fault5_67 ?_
  refine jr_iload_n d_Mo_fault5_68 rfl ?_
  refine jr_iaddN d_Mo_fault5_69 ?_
  refine jr_ialdQ (v := (nI (5))) d_Mo_fault5_70 h32 (by omega) (by omega) (congrArg nI ho) ?_
  refine jr_istore_n d_Mo_fault5_71 (by decide) ?_
  show jl_W l G m_Mo_fault5 (0, 0) 72 [some (.ref 22), some (.int (nI m)), some (.int (nI pc)), some (.int (nI 5)), none] [] (σ) (.inl (some (.int (bi (f5o tb ow fi sg 5 (x)))))) (σ)
  refine jr_aload_n d_Mo_fault5_72 rfl ?_
  refine jr_getf d_Mo_fault5_73 f_Mo_fault5_41 hO rfl ?_
  refine jr_bipush ((nI (24))) d_Mo_fault5_76 (by decide) ?_
  refine jr_iload_n d_Mo_fault5_78 rfl ?_
  refine jr_imulN d_Mo_fault5_79 ?_
  refine jr_iload_n d_Mo_fault5_80 rfl ?_
  refine jr_iaddN d_Mo_fault5_81 ?_
  refine jr_ialdQ (v := (x)) d_Mo_fault5_82 h33 (by omega) (by omega) (hx) ?_
  refine jr_istore d_Mo_fault5_83 (by decide) ?_
  show jl_W l G m_Mo_fault5 (0, 0) 85 [some (.ref 22), some (.int (nI m)), some (.int (nI pc)), some (.int (nI 5)), some (.int (x))] [] (σ) (.inl (some (.int (bi (f5o tb ow fi sg 5 (x)))))) (σ)
  refine jr_iload_n d_Mo_fault5_85 rfl ?_
  refine jr_iconst ((nI (1))) d_Mo_fault5_86 (by decide) ?_
  refine jr_icmp_eq 95 d_Mo_fault5_87 (by decide) (fun z => absurd z (by decide)) (fun _ => ?_)
  refine jr_iload_n d_Mo_fault5_90 rfl ?_
  refine jr_iconst ((nI (2))) d_Mo_fault5_91 (by decide) ?_
  refine jr_icmp_ne 104 d_Mo_fault5_92 (by decide) (fun _ => ?_) (fun z => absurd z (by decide))
  refine jr_iload_n d_Mo_fault5_104 rfl ?_
  refine jr_bipush ((nI (11))) d_Mo_fault5_105 (by decide) ?_
  refine jr_icmp_eq 116 d_Mo_fault5_107 (by decide) (fun z => absurd z (by decide)) (fun _ => ?_)
  refine jr_iload_n d_Mo_fault5_110 rfl ?_
  refine jr_bipush ((nI (15))) d_Mo_fault5_111 (by decide) ?_
  refine jr_icmp_ne 131 d_Mo_fault5_113 (by decide) (fun _ => ?_) (fun z => absurd z (by decide))
  refine jr_iload_n d_Mo_fault5_131 rfl ?_
  refine jr_bipush ((nI (12))) d_Mo_fault5_132 (by decide) ?_
  refine jr_icmp_eq 143 d_Mo_fault5_134 (by decide) (fun z => absurd z (by decide)) (fun _ => ?_)
  refine jr_iload_n d_Mo_fault5_137 rfl ?_
  refine jr_bipush ((nI (13))) d_Mo_fault5_138 (by decide) ?_
  refine jr_icmp_ne 183 d_Mo_fault5_140 (by decide) (fun _ => ?_) (fun z => absurd z (by decide))
  refine jr_iload_n d_Mo_fault5_183 rfl ?_
  refine jr_bipush ((nI (14))) d_Mo_fault5_184 (by decide) ?_
  refine jr_icmp_ne 224 d_Mo_fault5_186 (by decide) (fun _ => ?_) (fun z => absurd z (by decide))
  refine jr_iconst ((nI (0))) d_Mo_fault5_224 (by decide) ?_
  exact jr_zretE d_Mo_fault5_225 rfl (by decide) (bo0 (by first | (simp [f5o, outB_lt6]; done) | (simp [f5o, outB_lt6]; omega))) (rfl) (by decide) (by decide)
theorem mo_f5_r6 (hl : l.stackTraces = false) {m pc : Nat} {v : Int32} {x : Int32} (hO : MoO σ fa vf wh wy hg dp md ov oh dn an) (hw : MoW σ tb pr ow ft hs) (hu : MoM σ u1 u2 ur ul uo ua uc us ut uk) (hok : WoOk tb pr ow fi) (hsg : SgM tb pr hs u1 u2 ur sg) (hK : MoK u1 u2 ur ul uo uc us ut uk) (hm : m < 24) (hpc : pc < 24) (ho : uo (24 * m + pc) = 6) (hx : ua (24 * m + pc) = x) : jl_W l G m_Mo_fault5 (0, 0) 60 [some (.ref 22), some (.int (nI m)), some (.int (nI pc)), some (.int (v)), none] [] σ (.inl (some (.int (bi (f5o tb ow fi sg 6 (x)))))) (σ) := by
  obtain ⟨h23, h24, h25, h26, h27⟩ := id hw
  obtain ⟨h28, h29, h30, h31, h32, h33, h34, h35, h36, h37⟩ := id hu
  obtain ⟨hk1, hk2, hk3, hk4, hk5, hk6⟩ := hK.1 m hm
  refine jr_aload_n d_Mo_fault5_60 rfl ?_
  refine jr_getf d_Mo_fault5_61 f_Mo_fault5_38 hO rfl ?_
  refine jr_bipush ((nI (24))) d_Mo_fault5_64 (by decide) ?_
  refine jr_iload_n d_Mo_fault5_66 rfl ?_
  refine jr_imulN d_Mo_fault5_67 ?_
  refine jr_iload_n d_Mo_fault5_68 rfl ?_
  refine jr_iaddN d_Mo_fault5_69 ?_
  refine jr_ialdQ (v := (nI (6))) d_Mo_fault5_70 h32 (by omega) (by omega) (congrArg nI ho) ?_
  refine jr_istore_n d_Mo_fault5_71 (by decide) ?_
  show jl_W l G m_Mo_fault5 (0, 0) 72 [some (.ref 22), some (.int (nI m)), some (.int (nI pc)), some (.int (nI 6)), none] [] (σ) (.inl (some (.int (bi (f5o tb ow fi sg 6 (x)))))) (σ)
  refine jr_aload_n d_Mo_fault5_72 rfl ?_
  refine jr_getf d_Mo_fault5_73 f_Mo_fault5_41 hO rfl ?_
  refine jr_bipush ((nI (24))) d_Mo_fault5_76 (by decide) ?_
  refine jr_iload_n d_Mo_fault5_78 rfl ?_
  refine jr_imulN d_Mo_fault5_79 ?_
  refine jr_iload_n d_Mo_fault5_80 rfl ?_
  refine jr_iaddN d_Mo_fault5_81 ?_
  refine jr_ialdQ (v := (x)) d_Mo_fault5_82 h33 (by omega) (by omega) (hx) ?_
  refine jr_istore d_Mo_fault5_83 (by decide) ?_
  show jl_W l G m_Mo_fault5 (0, 0) 85 [some (.ref 22), some (.int (nI m)), some (.int (nI pc)), some (.int (nI 6)), some (.int (x))] [] (σ) (.inl (some (.int (bi (f5o tb ow fi sg 6 (x)))))) (σ)
  refine jr_iload_n d_Mo_fault5_85 rfl ?_
  refine jr_iconst ((nI (1))) d_Mo_fault5_86 (by decide) ?_
  refine jr_icmp_eq 95 d_Mo_fault5_87 (by decide) (fun z => absurd z (by decide)) (fun _ => ?_)
  refine jr_iload_n d_Mo_fault5_90 rfl ?_
  refine jr_iconst ((nI (2))) d_Mo_fault5_91 (by decide) ?_
  refine jr_icmp_ne 104 d_Mo_fault5_92 (by decide) (fun _ => ?_) (fun z => absurd z (by decide))
  refine jr_iload_n d_Mo_fault5_104 rfl ?_
  refine jr_bipush ((nI (11))) d_Mo_fault5_105 (by decide) ?_
  refine jr_icmp_eq 116 d_Mo_fault5_107 (by decide) (fun z => absurd z (by decide)) (fun _ => ?_)
  refine jr_iload_n d_Mo_fault5_110 rfl ?_
  refine jr_bipush ((nI (15))) d_Mo_fault5_111 (by decide) ?_
  refine jr_icmp_ne 131 d_Mo_fault5_113 (by decide) (fun _ => ?_) (fun z => absurd z (by decide))
  refine jr_iload_n d_Mo_fault5_131 rfl ?_
  refine jr_bipush ((nI (12))) d_Mo_fault5_132 (by decide) ?_
  refine jr_icmp_eq 143 d_Mo_fault5_134 (by decide) (fun z => absurd z (by decide)) (fun _ => ?_)
  refine jr_iload_n d_Mo_fault5_137 rfl ?_
  refine jr_bipush ((nI (13))) d_Mo_fault5_138 (by decide) ?_
  refine jr_icmp_ne 183 d_Mo_fault5_140 (by decide) (fun _ => ?_) (fun z => absurd z (by decide))
  refine jr_iload_n d_Mo_fault5_183 rfl ?_
  refine jr_bipush ((nI (14))) d_Mo_fault5_184 (by decide) ?_
  refine jr_icmp_ne 224 d_Mo_fault5_186 (by decide) (fun _ => ?_) (fun z => absurd z (by decide))
  refine jr_iconst ((nI (0))) d_Mo_fault5_224 (by decide) ?_
  exact jr_zretE d_Mo_fault5_225 rfl (by decide) (bo0 (by first | (simp [f5o, outB_lt6]; done) | (simp [f5o, outB_lt6]; omega))) (rfl) (by decide) (by decide)
theorem mo_f5_r7 (hl : l.stackTraces = false) {m pc : Nat} {v : Int32} {x : Int32} (hO : MoO σ fa vf wh wy hg dp md ov oh dn an) (hw : MoW σ tb pr ow ft hs) (hu : MoM σ u1 u2 ur ul uo ua uc us ut uk) (hok : WoOk tb pr ow fi) (hsg : SgM tb pr hs u1 u2 ur sg) (hK : MoK u1 u2 ur ul uo uc us ut uk) (hm : m < 24) (hpc : pc < 24) (ho : uo (24 * m + pc) = 7) (hx : ua (24 * m + pc) = x) : jl_W l G m_Mo_fault5 (0, 0) 60 [some (.ref 22), some (.int (nI m)), some (.int (nI pc)), some (.int (v)), none] [] σ (.inl (some (.int (bi (f5o tb ow fi sg 7 (x)))))) (σ) := by
  obtain ⟨h23, h24, h25, h26, h27⟩ := id hw
  obtain ⟨h28, h29, h30, h31, h32, h33, h34, h35, h36, h37⟩ := id hu
  obtain ⟨hk1, hk2, hk3, hk4, hk5, hk6⟩ := hK.1 m hm
  refine jr_aload_n d_Mo_fault5_60 rfl ?_
  refine jr_getf d_Mo_fault5_61 f_Mo_fault5_38 hO rfl ?_
  refine jr_bipush ((nI (24))) d_Mo_fault5_64 (by decide) ?_
  refine jr_iload_n d_Mo_fault5_66 rfl ?_
  refine jr_imulN d_Mo_fault5_67 ?_
  refine jr_iload_n d_Mo_fault5_68 rfl ?_
  refine jr_iaddN d_Mo_fault5_69 ?_
  refine jr_ialdQ (v := (nI (7))) d_Mo_fault5_70 h32 (by omega) (by omega) (congrArg nI ho) ?_
  refine jr_istore_n d_Mo_fault5_71 (by decide) ?_
  show jl_W l G m_Mo_fault5 (0, 0) 72 [some (.ref 22), some (.int (nI m)), some (.int (nI pc)), some (.int (nI 7)), none] [] (σ) (.inl (some (.int (bi (f5o tb ow fi sg 7 (x)))))) (σ)
  refine jr_aload_n d_Mo_fault5_72 rfl ?_
  refine jr_getf d_Mo_fault5_73 f_Mo_fault5_41 hO rfl ?_
  refine jr_bipush ((nI (24))) d_Mo_fault5_76 (by decide) ?_
  refine jr_iload_n d_Mo_fault5_78 rfl ?_
  refine jr_imulN d_Mo_fault5_79 ?_
  refine jr_iload_n d_Mo_fault5_80 rfl ?_
  refine jr_iaddN d_Mo_fault5_81 ?_
  refine jr_ialdQ (v := (x)) d_Mo_fault5_82 h33 (by omega) (by omega) (hx) ?_
  refine jr_istore d_Mo_fault5_83 (by decide) ?_
  show jl_W l G m_Mo_fault5 (0, 0) 85 [some (.ref 22), some (.int (nI m)), some (.int (nI pc)), some (.int (nI 7)), some (.int (x))] [] (σ) (.inl (some (.int (bi (f5o tb ow fi sg 7 (x)))))) (σ)
  refine jr_iload_n d_Mo_fault5_85 rfl ?_
  refine jr_iconst ((nI (1))) d_Mo_fault5_86 (by decide) ?_
  refine jr_icmp_eq 95 d_Mo_fault5_87 (by decide) (fun z => absurd z (by decide)) (fun _ => ?_)
  refine jr_iload_n d_Mo_fault5_90 rfl ?_
  refine jr_iconst ((nI (2))) d_Mo_fault5_91 (by decide) ?_
  refine jr_icmp_ne 104 d_Mo_fault5_92 (by decide) (fun _ => ?_) (fun z => absurd z (by decide))
  refine jr_iload_n d_Mo_fault5_104 rfl ?_
  refine jr_bipush ((nI (11))) d_Mo_fault5_105 (by decide) ?_
  refine jr_icmp_eq 116 d_Mo_fault5_107 (by decide) (fun z => absurd z (by decide)) (fun _ => ?_)
  refine jr_iload_n d_Mo_fault5_110 rfl ?_
  refine jr_bipush ((nI (15))) d_Mo_fault5_111 (by decide) ?_
  refine jr_icmp_ne 131 d_Mo_fault5_113 (by decide) (fun _ => ?_) (fun z => absurd z (by decide))
  refine jr_iload_n d_Mo_fault5_131 rfl ?_
  refine jr_bipush ((nI (12))) d_Mo_fault5_132 (by decide) ?_
  refine jr_icmp_eq 143 d_Mo_fault5_134 (by decide) (fun z => absurd z (by decide)) (fun _ => ?_)
  refine jr_iload_n d_Mo_fault5_137 rfl ?_
  refine jr_bipush ((nI (13))) d_Mo_fault5_138 (by decide) ?_
  refine jr_icmp_ne 183 d_Mo_fault5_140 (by decide) (fun _ => ?_) (fun z => absurd z (by decide))
  refine jr_iload_n d_Mo_fault5_183 rfl ?_
  refine jr_bipush ((nI (14))) d_Mo_fault5_184 (by decide) ?_
  refine jr_icmp_ne 224 d_Mo_fault5_186 (by decide) (fun _ => ?_) (fun z => absurd z (by decide))
  refine jr_iconst ((nI (0))) d_Mo_fault5_224 (by decide) ?_
  exact jr_zretE d_Mo_fault5_225 rfl (by decide) (bo0 (by first | (simp [f5o, outB_lt6]; done) | (simp [f5o, outB_lt6]; omega))) (rfl) (by decide) (by decide)
theorem mo_f5_r8 (hl : l.stackTraces = false) {m pc : Nat} {v : Int32} {x : Int32} (hO : MoO σ fa vf wh wy hg dp md ov oh dn an) (hw : MoW σ tb pr ow ft hs) (hu : MoM σ u1 u2 ur ul uo ua uc us ut uk) (hok : WoOk tb pr ow fi) (hsg : SgM tb pr hs u1 u2 ur sg) (hK : MoK u1 u2 ur ul uo uc us ut uk) (hm : m < 24) (hpc : pc < 24) (ho : uo (24 * m + pc) = 8) (hx : ua (24 * m + pc) = x) : jl_W l G m_Mo_fault5 (0, 0) 60 [some (.ref 22), some (.int (nI m)), some (.int (nI pc)), some (.int (v)), none] [] σ (.inl (some (.int (bi (f5o tb ow fi sg 8 (x)))))) (σ) := by
  obtain ⟨h23, h24, h25, h26, h27⟩ := id hw
  obtain ⟨h28, h29, h30, h31, h32, h33, h34, h35, h36, h37⟩ := id hu
  obtain ⟨hk1, hk2, hk3, hk4, hk5, hk6⟩ := hK.1 m hm
  refine jr_aload_n d_Mo_fault5_60 rfl ?_
  refine jr_getf d_Mo_fault5_61 f_Mo_fault5_38 hO rfl ?_
  refine jr_bipush ((nI (24))) d_Mo_fault5_64 (by decide) ?_
  refine jr_iload_n d_Mo_fault5_66 rfl ?_
  refine jr_imulN d_Mo_fault5_67 ?_
  refine jr_iload_n d_Mo_fault5_68 rfl ?_
  refine jr_iaddN d_Mo_fault5_69 ?_
  refine jr_ialdQ (v := (nI (8))) d_Mo_fault5_70 h32 (by omega) (by omega) (congrArg nI ho) ?_
  refine jr_istore_n d_Mo_fault5_71 (by decide) ?_
  show jl_W l G m_Mo_fault5 (0, 0) 72 [some (.ref 22), some (.int (nI m)), some (.int (nI pc)), some (.int (nI 8)), none] [] (σ) (.inl (some (.int (bi (f5o tb ow fi sg 8 (x)))))) (σ)
  refine jr_aload_n d_Mo_fault5_72 rfl ?_
  refine jr_getf d_Mo_fault5_73 f_Mo_fault5_41 hO rfl ?_
  refine jr_bipush ((nI (24))) d_Mo_fault5_76 (by decide) ?_
  refine jr_iload_n d_Mo_fault5_78 rfl ?_
  refine jr_imulN d_Mo_fault5_79 ?_
  refine jr_iload_n d_Mo_fault5_80 rfl ?_
  refine jr_iaddN d_Mo_fault5_81 ?_
  refine jr_ialdQ (v := (x)) d_Mo_fault5_82 h33 (by omega) (by omega) (hx) ?_
  refine jr_istore d_Mo_fault5_83 (by decide) ?_
  show jl_W l G m_Mo_fault5 (0, 0) 85 [some (.ref 22), some (.int (nI m)), some (.int (nI pc)), some (.int (nI 8)), some (.int (x))] [] (σ) (.inl (some (.int (bi (f5o tb ow fi sg 8 (x)))))) (σ)
  refine jr_iload_n d_Mo_fault5_85 rfl ?_
  refine jr_iconst ((nI (1))) d_Mo_fault5_86 (by decide) ?_
  refine jr_icmp_eq 95 d_Mo_fault5_87 (by decide) (fun z => absurd z (by decide)) (fun _ => ?_)
  refine jr_iload_n d_Mo_fault5_90 rfl ?_
  refine jr_iconst ((nI (2))) d_Mo_fault5_91 (by decide) ?_
  refine jr_icmp_ne 104 d_Mo_fault5_92 (by decide) (fun _ => ?_) (fun z => absurd z (by decide))
  refine jr_iload_n d_Mo_fault5_104 rfl ?_
  refine jr_bipush ((nI (11))) d_Mo_fault5_105 (by decide) ?_
  refine jr_icmp_eq 116 d_Mo_fault5_107 (by decide) (fun z => absurd z (by decide)) (fun _ => ?_)
  refine jr_iload_n d_Mo_fault5_110 rfl ?_
  refine jr_bipush ((nI (15))) d_Mo_fault5_111 (by decide) ?_
  refine jr_icmp_ne 131 d_Mo_fault5_113 (by decide) (fun _ => ?_) (fun z => absurd z (by decide))
  refine jr_iload_n d_Mo_fault5_131 rfl ?_
  refine jr_bipush ((nI (12))) d_Mo_fault5_132 (by decide) ?_
  refine jr_icmp_eq 143 d_Mo_fault5_134 (by decide) (fun z => absurd z (by decide)) (fun _ => ?_)
  refine jr_iload_n d_Mo_fault5_137 rfl ?_
  refine jr_bipush ((nI (13))) d_Mo_fault5_138 (by decide) ?_
  refine jr_icmp_ne 183 d_Mo_fault5_140 (by decide) (fun _ => ?_) (fun z => absurd z (by decide))
  refine jr_iload_n d_Mo_fault5_183 rfl ?_
  refine jr_bipush ((nI (14))) d_Mo_fault5_184 (by decide) ?_
  refine jr_icmp_ne 224 d_Mo_fault5_186 (by decide) (fun _ => ?_) (fun z => absurd z (by decide))
  refine jr_iconst ((nI (0))) d_Mo_fault5_224 (by decide) ?_
  exact jr_zretE d_Mo_fault5_225 rfl (by decide) (bo0 (by first | (simp [f5o, outB_lt6]; done) | (simp [f5o, outB_lt6]; omega))) (rfl) (by decide) (by decide)
theorem mo_f5_r9 (hl : l.stackTraces = false) {m pc : Nat} {v : Int32} {x : Int32} (hO : MoO σ fa vf wh wy hg dp md ov oh dn an) (hw : MoW σ tb pr ow ft hs) (hu : MoM σ u1 u2 ur ul uo ua uc us ut uk) (hok : WoOk tb pr ow fi) (hsg : SgM tb pr hs u1 u2 ur sg) (hK : MoK u1 u2 ur ul uo uc us ut uk) (hm : m < 24) (hpc : pc < 24) (ho : uo (24 * m + pc) = 9) (hx : ua (24 * m + pc) = x) : jl_W l G m_Mo_fault5 (0, 0) 60 [some (.ref 22), some (.int (nI m)), some (.int (nI pc)), some (.int (v)), none] [] σ (.inl (some (.int (bi (f5o tb ow fi sg 9 (x)))))) (σ) := by
  obtain ⟨h23, h24, h25, h26, h27⟩ := id hw
  obtain ⟨h28, h29, h30, h31, h32, h33, h34, h35, h36, h37⟩ := id hu
  obtain ⟨hk1, hk2, hk3, hk4, hk5, hk6⟩ := hK.1 m hm
  refine jr_aload_n d_Mo_fault5_60 rfl ?_
  refine jr_getf d_Mo_fault5_61 f_Mo_fault5_38 hO rfl ?_
  refine jr_bipush ((nI (24))) d_Mo_fault5_64 (by decide) ?_
  refine jr_iload_n d_Mo_fault5_66 rfl ?_
  refine jr_imulN d_Mo_fault5_67 ?_
  refine jr_iload_n d_Mo_fault5_68 rfl ?_
  refine jr_iaddN d_Mo_fault5_69 ?_
  refine jr_ialdQ (v := (nI (9))) d_Mo_fault5_70 h32 (by omega) (by omega) (congrArg nI ho) ?_
  refine jr_istore_n d_Mo_fault5_71 (by decide) ?_
  show jl_W l G m_Mo_fault5 (0, 0) 72 [some (.ref 22), some (.int (nI m)), some (.int (nI pc)), some (.int (nI 9)), none] [] (σ) (.inl (some (.int (bi (f5o tb ow fi sg 9 (x)))))) (σ)
  refine jr_aload_n d_Mo_fault5_72 rfl ?_
  refine jr_getf d_Mo_fault5_73 f_Mo_fault5_41 hO rfl ?_
  refine jr_bipush ((nI (24))) d_Mo_fault5_76 (by decide) ?_
  refine jr_iload_n d_Mo_fault5_78 rfl ?_
  refine jr_imulN d_Mo_fault5_79 ?_
  refine jr_iload_n d_Mo_fault5_80 rfl ?_
  refine jr_iaddN d_Mo_fault5_81 ?_
  refine jr_ialdQ (v := (x)) d_Mo_fault5_82 h33 (by omega) (by omega) (hx) ?_
  refine jr_istore d_Mo_fault5_83 (by decide) ?_
  show jl_W l G m_Mo_fault5 (0, 0) 85 [some (.ref 22), some (.int (nI m)), some (.int (nI pc)), some (.int (nI 9)), some (.int (x))] [] (σ) (.inl (some (.int (bi (f5o tb ow fi sg 9 (x)))))) (σ)
  refine jr_iload_n d_Mo_fault5_85 rfl ?_
  refine jr_iconst ((nI (1))) d_Mo_fault5_86 (by decide) ?_
  refine jr_icmp_eq 95 d_Mo_fault5_87 (by decide) (fun z => absurd z (by decide)) (fun _ => ?_)
  refine jr_iload_n d_Mo_fault5_90 rfl ?_
  refine jr_iconst ((nI (2))) d_Mo_fault5_91 (by decide) ?_
  refine jr_icmp_ne 104 d_Mo_fault5_92 (by decide) (fun _ => ?_) (fun z => absurd z (by decide))
  refine jr_iload_n d_Mo_fault5_104 rfl ?_
  refine jr_bipush ((nI (11))) d_Mo_fault5_105 (by decide) ?_
  refine jr_icmp_eq 116 d_Mo_fault5_107 (by decide) (fun z => absurd z (by decide)) (fun _ => ?_)
  refine jr_iload_n d_Mo_fault5_110 rfl ?_
  refine jr_bipush ((nI (15))) d_Mo_fault5_111 (by decide) ?_
  refine jr_icmp_ne 131 d_Mo_fault5_113 (by decide) (fun _ => ?_) (fun z => absurd z (by decide))
  refine jr_iload_n d_Mo_fault5_131 rfl ?_
  refine jr_bipush ((nI (12))) d_Mo_fault5_132 (by decide) ?_
  refine jr_icmp_eq 143 d_Mo_fault5_134 (by decide) (fun z => absurd z (by decide)) (fun _ => ?_)
  refine jr_iload_n d_Mo_fault5_137 rfl ?_
  refine jr_bipush ((nI (13))) d_Mo_fault5_138 (by decide) ?_
  refine jr_icmp_ne 183 d_Mo_fault5_140 (by decide) (fun _ => ?_) (fun z => absurd z (by decide))
  refine jr_iload_n d_Mo_fault5_183 rfl ?_
  refine jr_bipush ((nI (14))) d_Mo_fault5_184 (by decide) ?_
  refine jr_icmp_ne 224 d_Mo_fault5_186 (by decide) (fun _ => ?_) (fun z => absurd z (by decide))
  refine jr_iconst ((nI (0))) d_Mo_fault5_224 (by decide) ?_
  exact jr_zretE d_Mo_fault5_225 rfl (by decide) (bo0 (by first | (simp [f5o, outB_lt6]; done) | (simp [f5o, outB_lt6]; omega))) (rfl) (by decide) (by decide)
theorem mo_f5_r10 (hl : l.stackTraces = false) {m pc : Nat} {v : Int32} {x : Int32} (hO : MoO σ fa vf wh wy hg dp md ov oh dn an) (hw : MoW σ tb pr ow ft hs) (hu : MoM σ u1 u2 ur ul uo ua uc us ut uk) (hok : WoOk tb pr ow fi) (hsg : SgM tb pr hs u1 u2 ur sg) (hK : MoK u1 u2 ur ul uo uc us ut uk) (hm : m < 24) (hpc : pc < 24) (ho : uo (24 * m + pc) = 10) (hx : ua (24 * m + pc) = x) : jl_W l G m_Mo_fault5 (0, 0) 60 [some (.ref 22), some (.int (nI m)), some (.int (nI pc)), some (.int (v)), none] [] σ (.inl (some (.int (bi (f5o tb ow fi sg 10 (x)))))) (σ) := by
  obtain ⟨h23, h24, h25, h26, h27⟩ := id hw
  obtain ⟨h28, h29, h30, h31, h32, h33, h34, h35, h36, h37⟩ := id hu
  obtain ⟨hk1, hk2, hk3, hk4, hk5, hk6⟩ := hK.1 m hm
  refine jr_aload_n d_Mo_fault5_60 rfl ?_
  refine jr_getf d_Mo_fault5_61 f_Mo_fault5_38 hO rfl ?_
  refine jr_bipush ((nI (24))) d_Mo_fault5_64 (by decide) ?_
  refine jr_iload_n d_Mo_fault5_66 rfl ?_
  refine jr_imulN d_Mo_fault5_67 ?_
  refine jr_iload_n d_Mo_fault5_68 rfl ?_
  refine jr_iaddN d_Mo_fault5_69 ?_
  refine jr_ialdQ (v := (nI (10))) d_Mo_fault5_70 h32 (by omega) (by omega) (congrArg nI ho) ?_
  refine jr_istore_n d_Mo_fault5_71 (by decide) ?_
  show jl_W l G m_Mo_fault5 (0, 0) 72 [some (.ref 22), some (.int (nI m)), some (.int (nI pc)), some (.int (nI 10)), none] [] (σ) (.inl (some (.int (bi (f5o tb ow fi sg 10 (x)))))) (σ)
  refine jr_aload_n d_Mo_fault5_72 rfl ?_
  refine jr_getf d_Mo_fault5_73 f_Mo_fault5_41 hO rfl ?_
  refine jr_bipush ((nI (24))) d_Mo_fault5_76 (by decide) ?_
  refine jr_iload_n d_Mo_fault5_78 rfl ?_
  refine jr_imulN d_Mo_fault5_79 ?_
  refine jr_iload_n d_Mo_fault5_80 rfl ?_
  refine jr_iaddN d_Mo_fault5_81 ?_
  refine jr_ialdQ (v := (x)) d_Mo_fault5_82 h33 (by omega) (by omega) (hx) ?_
  refine jr_istore d_Mo_fault5_83 (by decide) ?_
  show jl_W l G m_Mo_fault5 (0, 0) 85 [some (.ref 22), some (.int (nI m)), some (.int (nI pc)), some (.int (nI 10)), some (.int (x))] [] (σ) (.inl (some (.int (bi (f5o tb ow fi sg 10 (x)))))) (σ)
  refine jr_iload_n d_Mo_fault5_85 rfl ?_
  refine jr_iconst ((nI (1))) d_Mo_fault5_86 (by decide) ?_
  refine jr_icmp_eq 95 d_Mo_fault5_87 (by decide) (fun z => absurd z (by decide)) (fun _ => ?_)
  refine jr_iload_n d_Mo_fault5_90 rfl ?_
  refine jr_iconst ((nI (2))) d_Mo_fault5_91 (by decide) ?_
  refine jr_icmp_ne 104 d_Mo_fault5_92 (by decide) (fun _ => ?_) (fun z => absurd z (by decide))
  refine jr_iload_n d_Mo_fault5_104 rfl ?_
  refine jr_bipush ((nI (11))) d_Mo_fault5_105 (by decide) ?_
  refine jr_icmp_eq 116 d_Mo_fault5_107 (by decide) (fun z => absurd z (by decide)) (fun _ => ?_)
  refine jr_iload_n d_Mo_fault5_110 rfl ?_
  refine jr_bipush ((nI (15))) d_Mo_fault5_111 (by decide) ?_
  refine jr_icmp_ne 131 d_Mo_fault5_113 (by decide) (fun _ => ?_) (fun z => absurd z (by decide))
  refine jr_iload_n d_Mo_fault5_131 rfl ?_
  refine jr_bipush ((nI (12))) d_Mo_fault5_132 (by decide) ?_
  refine jr_icmp_eq 143 d_Mo_fault5_134 (by decide) (fun z => absurd z (by decide)) (fun _ => ?_)
  refine jr_iload_n d_Mo_fault5_137 rfl ?_
  refine jr_bipush ((nI (13))) d_Mo_fault5_138 (by decide) ?_
  refine jr_icmp_ne 183 d_Mo_fault5_140 (by decide) (fun _ => ?_) (fun z => absurd z (by decide))
  refine jr_iload_n d_Mo_fault5_183 rfl ?_
  refine jr_bipush ((nI (14))) d_Mo_fault5_184 (by decide) ?_
  refine jr_icmp_ne 224 d_Mo_fault5_186 (by decide) (fun _ => ?_) (fun z => absurd z (by decide))
  refine jr_iconst ((nI (0))) d_Mo_fault5_224 (by decide) ?_
  exact jr_zretE d_Mo_fault5_225 rfl (by decide) (bo0 (by first | (simp [f5o, outB_lt6]; done) | (simp [f5o, outB_lt6]; omega))) (rfl) (by decide) (by decide)
theorem d_Mo_fault5_116 : decode m_Mo_fault5.2.1 116 = .ok (.aload_n 0, 1) := by decide +kernel
theorem d_Mo_fault5_117 : decode m_Mo_fault5.2.1 117 = .ok (.iload 4, 2) := by decide +kernel
theorem k_Mo_fault5_154 : jl_cv m_Mo_fault5 m_Mo_isClass 154 1 = true := by decide +kernel
theorem d_Mo_fault5_119 : decode m_Mo_fault5.2.1 119 = .ok (.invokevirtual 154, 3) := by decide +kernel
theorem d_Mo_fault5_122 : decode m_Mo_fault5.2.1 122 = .ok (.ifCond .ne 7, 3) := by decide +kernel
theorem d_Mo_fault5_129 : decode m_Mo_fault5.2.1 129 = .ok (.iconst 0, 1) := by decide +kernel
theorem d_Mo_fault5_130 : decode m_Mo_fault5.2.1 130 = .ok (.ireturn, 1) := by decide +kernel
theorem d_Mo_fault5_125 : decode m_Mo_fault5.2.1 125 = .ok (.iconst 1, 1) := by decide +kernel
theorem d_Mo_fault5_126 : decode m_Mo_fault5.2.1 126 = .ok (.goto 4, 3) := by decide +kernel
theorem mo_f5_r11 (hl : l.stackTraces = false) {m pc : Nat} {v : Int32} {x : Int32} (hO : MoO σ fa vf wh wy hg dp md ov oh dn an) (hw : MoW σ tb pr ow ft hs) (hu : MoM σ u1 u2 ur ul uo ua uc us ut uk) (hok : WoOk tb pr ow fi) (hsg : SgM tb pr hs u1 u2 ur sg) (hK : MoK u1 u2 ur ul uo uc us ut uk) (hm : m < 24) (hpc : pc < 24) (ho : uo (24 * m + pc) = 11) (hx : ua (24 * m + pc) = x) : jl_W l G m_Mo_fault5 (0, 0) 60 [some (.ref 22), some (.int (nI m)), some (.int (nI pc)), some (.int (v)), none] [] σ (.inl (some (.int (bi (f5o tb ow fi sg 11 (x)))))) (σ) := by
  obtain ⟨h23, h24, h25, h26, h27⟩ := id hw
  obtain ⟨h28, h29, h30, h31, h32, h33, h34, h35, h36, h37⟩ := id hu
  obtain ⟨hk1, hk2, hk3, hk4, hk5, hk6⟩ := hK.1 m hm
  refine jr_aload_n d_Mo_fault5_60 rfl ?_
  refine jr_getf d_Mo_fault5_61 f_Mo_fault5_38 hO rfl ?_
  refine jr_bipush ((nI (24))) d_Mo_fault5_64 (by decide) ?_
  refine jr_iload_n d_Mo_fault5_66 rfl ?_
  refine jr_imulN d_Mo_fault5_67 ?_
  refine jr_iload_n d_Mo_fault5_68 rfl ?_
  refine jr_iaddN d_Mo_fault5_69 ?_
  refine jr_ialdQ (v := (nI (11))) d_Mo_fault5_70 h32 (by omega) (by omega) (congrArg nI ho) ?_
  refine jr_istore_n d_Mo_fault5_71 (by decide) ?_
  show jl_W l G m_Mo_fault5 (0, 0) 72 [some (.ref 22), some (.int (nI m)), some (.int (nI pc)), some (.int (nI 11)), none] [] (σ) (.inl (some (.int (bi (f5o tb ow fi sg 11 (x)))))) (σ)
  refine jr_aload_n d_Mo_fault5_72 rfl ?_
  refine jr_getf d_Mo_fault5_73 f_Mo_fault5_41 hO rfl ?_
  refine jr_bipush ((nI (24))) d_Mo_fault5_76 (by decide) ?_
  refine jr_iload_n d_Mo_fault5_78 rfl ?_
  refine jr_imulN d_Mo_fault5_79 ?_
  refine jr_iload_n d_Mo_fault5_80 rfl ?_
  refine jr_iaddN d_Mo_fault5_81 ?_
  refine jr_ialdQ (v := (x)) d_Mo_fault5_82 h33 (by omega) (by omega) (hx) ?_
  refine jr_istore d_Mo_fault5_83 (by decide) ?_
  show jl_W l G m_Mo_fault5 (0, 0) 85 [some (.ref 22), some (.int (nI m)), some (.int (nI pc)), some (.int (nI 11)), some (.int (x))] [] (σ) (.inl (some (.int (bi (f5o tb ow fi sg 11 (x)))))) (σ)
  refine jr_iload_n d_Mo_fault5_85 rfl ?_
  refine jr_iconst ((nI (1))) d_Mo_fault5_86 (by decide) ?_
  refine jr_icmp_eq 95 d_Mo_fault5_87 (by decide) (fun z => absurd z (by decide)) (fun _ => ?_)
  refine jr_iload_n d_Mo_fault5_90 rfl ?_
  refine jr_iconst ((nI (2))) d_Mo_fault5_91 (by decide) ?_
  refine jr_icmp_ne 104 d_Mo_fault5_92 (by decide) (fun _ => ?_) (fun z => absurd z (by decide))
  refine jr_iload_n d_Mo_fault5_104 rfl ?_
  refine jr_bipush ((nI (11))) d_Mo_fault5_105 (by decide) ?_
  refine jr_icmp_eq 116 d_Mo_fault5_107 (by decide) (fun _ => ?_) (fun z => absurd (by decide) z)
  refine jr_aload_n d_Mo_fault5_116 rfl ?_
  refine jr_iload d_Mo_fault5_117 rfl ?_
  refine jr_callV (As := [.int (x)]) d_Mo_fault5_119 k_Mo_fault5_154 hO rfl rfl rfl (Nat.le_of_ble_eq_true rfl) (by decide) (by decide) (mo_isClass hl hO hw) ?_
  show jl_W l G m_Mo_fault5 (0, 0) 122 [some (.ref 22), some (.int (nI m)), some (.int (nI pc)), some (.int (nI 11)), some (.int (x))] [.int (bi (hasI tb (x)))] (σ) (.inl (some (.int (bi (f5o tb ow fi sg 11 (x)))))) (σ)
  refine jr_if_ne 129 d_Mo_fault5_122 (by decide) (fun c1 => ?_) (fun c1 => ?_)
  · refine jr_iconst ((nI (0))) d_Mo_fault5_129 (by decide) ?_
    exact jr_zretE d_Mo_fault5_130 rfl (by decide) (bo0 (by first | (simp [f5o, outB_lt6, bi_nf c1]; done) | (simp [f5o, outB_lt6, bi_nf c1]; omega))) (rfl) (by decide) (by decide)
  · refine jr_iconst ((nI (1))) d_Mo_fault5_125 (by decide) ?_
    refine jr_goto 130 d_Mo_fault5_126 (by decide) ?_
    exact jr_zretE d_Mo_fault5_130 rfl (by decide) (bo1 (by first | (simp [f5o, outB_lt6, bi_0.mp c1]; done) | (simp [f5o, outB_lt6, bi_0.mp c1]; omega))) (rfl) (by decide) (by decide)
theorem d_Mo_fault5_143 : decode m_Mo_fault5.2.1 143 = .ok (.iload 4, 2) := by decide +kernel
theorem d_Mo_fault5_145 : decode m_Mo_fault5.2.1 145 = .ok (.ifCond .lt 32, 3) := by decide +kernel
theorem d_Mo_fault5_148 : decode m_Mo_fault5.2.1 148 = .ok (.aload_n 0, 1) := by decide +kernel
theorem d_Mo_fault5_149 : decode m_Mo_fault5.2.1 149 = .ok (.iload 4, 2) := by decide +kernel
theorem d_Mo_fault5_151 : decode m_Mo_fault5.2.1 151 = .ok (.bipush 32, 2) := by decide +kernel
theorem d_Mo_fault5_153 : decode m_Mo_fault5.2.1 153 = .ok (.idiv, 1) := by decide +kernel
theorem d_Mo_fault5_154 : decode m_Mo_fault5.2.1 154 = .ok (.invokevirtual 154, 3) := by decide +kernel
theorem d_Mo_fault5_157 : decode m_Mo_fault5.2.1 157 = .ok (.ifCond .eq 20, 3) := by decide +kernel
theorem d_Mo_fault5_177 : decode m_Mo_fault5.2.1 177 = .ok (.iconst 1, 1) := by decide +kernel
theorem d_Mo_fault5_178 : decode m_Mo_fault5.2.1 178 = .ok (.goto 4, 3) := by decide +kernel
theorem d_Mo_fault5_182 : decode m_Mo_fault5.2.1 182 = .ok (.ireturn, 1) := by decide +kernel
theorem d_Mo_fault5_160 : decode m_Mo_fault5.2.1 160 = .ok (.iload 4, 2) := by decide +kernel
theorem d_Mo_fault5_162 : decode m_Mo_fault5.2.1 162 = .ok (.bipush 32, 2) := by decide +kernel
theorem d_Mo_fault5_164 : decode m_Mo_fault5.2.1 164 = .ok (.irem, 1) := by decide +kernel
theorem d_Mo_fault5_165 : decode m_Mo_fault5.2.1 165 = .ok (.aload_n 0, 1) := by decide +kernel
theorem d_Mo_fault5_166 : decode m_Mo_fault5.2.1 166 = .ok (.iload 4, 2) := by decide +kernel
theorem d_Mo_fault5_168 : decode m_Mo_fault5.2.1 168 = .ok (.bipush 32, 2) := by decide +kernel
theorem d_Mo_fault5_170 : decode m_Mo_fault5.2.1 170 = .ok (.idiv, 1) := by decide +kernel
theorem k_Mo_fault5_126 : jl_cv m_Mo_fault5 m_Mo_fieldsOf 126 1 = true := by decide +kernel
theorem d_Mo_fault5_171 : decode m_Mo_fault5.2.1 171 = .ok (.invokevirtual 126, 3) := by decide +kernel
theorem d_Mo_fault5_174 : decode m_Mo_fault5.2.1 174 = .ok (.if_icmp .lt 7, 3) := by decide +kernel
theorem d_Mo_fault5_181 : decode m_Mo_fault5.2.1 181 = .ok (.iconst 0, 1) := by decide +kernel
theorem mo_f5_n12 (hl : l.stackTraces = false) {m pc : Nat} {v : Int32} {n : Nat} (hO : MoO σ fa vf wh wy hg dp md ov oh dn an) (hw : MoW σ tb pr ow ft hs) (hu : MoM σ u1 u2 ur ul uo ua uc us ut uk) (hok : WoOk tb pr ow fi) (hsg : SgM tb pr hs u1 u2 ur sg) (hK : MoK u1 u2 ur ul uo uc us ut uk) (hm : m < 24) (hpc : pc < 24) (ho : uo (24 * m + pc) = 12) (hx : ua (24 * m + pc) = nI n) (hn : n < 2 ^ 31) : jl_W l G m_Mo_fault5 (0, 0) 60 [some (.ref 22), some (.int (nI m)), some (.int (nI pc)), some (.int (v)), none] [] σ (.inl (some (.int (bi (f5o tb ow fi sg 12 (nI n)))))) (σ) := by
  obtain ⟨h23, h24, h25, h26, h27⟩ := id hw
  obtain ⟨h28, h29, h30, h31, h32, h33, h34, h35, h36, h37⟩ := id hu
  obtain ⟨hk1, hk2, hk3, hk4, hk5, hk6⟩ := hK.1 m hm
  refine jr_aload_n d_Mo_fault5_60 rfl ?_
  refine jr_getf d_Mo_fault5_61 f_Mo_fault5_38 hO rfl ?_
  refine jr_bipush ((nI (24))) d_Mo_fault5_64 (by decide) ?_
  refine jr_iload_n d_Mo_fault5_66 rfl ?_
  refine jr_imulN d_Mo_fault5_67 ?_
  refine jr_iload_n d_Mo_fault5_68 rfl ?_
  refine jr_iaddN d_Mo_fault5_69 ?_
  refine jr_ialdQ (v := (nI (12))) d_Mo_fault5_70 h32 (by omega) (by omega) (congrArg nI ho) ?_
  refine jr_istore_n d_Mo_fault5_71 (by decide) ?_
  show jl_W l G m_Mo_fault5 (0, 0) 72 [some (.ref 22), some (.int (nI m)), some (.int (nI pc)), some (.int (nI 12)), none] [] (σ) (.inl (some (.int (bi (f5o tb ow fi sg 12 (nI n)))))) (σ)
  refine jr_aload_n d_Mo_fault5_72 rfl ?_
  refine jr_getf d_Mo_fault5_73 f_Mo_fault5_41 hO rfl ?_
  refine jr_bipush ((nI (24))) d_Mo_fault5_76 (by decide) ?_
  refine jr_iload_n d_Mo_fault5_78 rfl ?_
  refine jr_imulN d_Mo_fault5_79 ?_
  refine jr_iload_n d_Mo_fault5_80 rfl ?_
  refine jr_iaddN d_Mo_fault5_81 ?_
  refine jr_ialdQ (v := (nI (n))) d_Mo_fault5_82 h33 (by omega) (by omega) (hx) ?_
  refine jr_istore d_Mo_fault5_83 (by decide) ?_
  show jl_W l G m_Mo_fault5 (0, 0) 85 [some (.ref 22), some (.int (nI m)), some (.int (nI pc)), some (.int (nI 12)), some (.int (nI n))] [] (σ) (.inl (some (.int (bi (f5o tb ow fi sg 12 (nI n)))))) (σ)
  refine jr_iload_n d_Mo_fault5_85 rfl ?_
  refine jr_iconst ((nI (1))) d_Mo_fault5_86 (by decide) ?_
  refine jr_icmp_eq 95 d_Mo_fault5_87 (by decide) (fun z => absurd z (by decide)) (fun _ => ?_)
  refine jr_iload_n d_Mo_fault5_90 rfl ?_
  refine jr_iconst ((nI (2))) d_Mo_fault5_91 (by decide) ?_
  refine jr_icmp_ne 104 d_Mo_fault5_92 (by decide) (fun _ => ?_) (fun z => absurd z (by decide))
  refine jr_iload_n d_Mo_fault5_104 rfl ?_
  refine jr_bipush ((nI (11))) d_Mo_fault5_105 (by decide) ?_
  refine jr_icmp_eq 116 d_Mo_fault5_107 (by decide) (fun z => absurd z (by decide)) (fun _ => ?_)
  refine jr_iload_n d_Mo_fault5_110 rfl ?_
  refine jr_bipush ((nI (15))) d_Mo_fault5_111 (by decide) ?_
  refine jr_icmp_ne 131 d_Mo_fault5_113 (by decide) (fun _ => ?_) (fun z => absurd z (by decide))
  refine jr_iload_n d_Mo_fault5_131 rfl ?_
  refine jr_bipush ((nI (12))) d_Mo_fault5_132 (by decide) ?_
  refine jr_icmp_eq 143 d_Mo_fault5_134 (by decide) (fun _ => ?_) (fun z => absurd (by decide) z)
  refine jr_iload d_Mo_fault5_143 rfl ?_
  refine jr_if_lt 177 d_Mo_fault5_145 (by decide) (fun z => absurd z (nI_pos (by omega))) (fun _ => ?_)
  refine jr_aload_n d_Mo_fault5_148 rfl ?_
  refine jr_iload d_Mo_fault5_149 rfl ?_
  refine jr_bipush ((nI (32))) d_Mo_fault5_151 (by decide) ?_
  refine jr_idivN d_Mo_fault5_153 (by omega) (by omega) (by omega) ?_
  refine jr_callV (As := [.int (nI ((n) / (32)))]) d_Mo_fault5_154 k_Mo_fault5_154 hO rfl rfl rfl (Nat.le_of_ble_eq_true rfl) (by decide) (by decide) (mo_isClass hl hO hw) ?_
  show jl_W l G m_Mo_fault5 (0, 0) 157 [some (.ref 22), some (.int (nI m)), some (.int (nI pc)), some (.int (nI 12)), some (.int (nI n))] [.int (bi (hasI tb (nI ((n) / (32)))))] (σ) (.inl (some (.int (bi (f5o tb ow fi sg 12 (nI n)))))) (σ)
  refine jr_if_eq 177 d_Mo_fault5_157 (by decide) (fun c1 => ?_) (fun c1 => ?_)
  · refine jr_iconst ((nI (1))) d_Mo_fault5_177 (by decide) ?_
    refine jr_goto 182 d_Mo_fault5_178 (by decide) ?_
    exact jr_zretE d_Mo_fault5_182 rfl (by decide) (bo1 (by simp [f5o, hasF_n hok hn, bi_0.mp c1])) (rfl) (by decide) (by decide)
  · have hk := (hasI_b (by omega) (bi_nf c1)).1; have hfb := hok.2.2.1 _ hk; have hob := hok.2.1 _ hk
    refine jr_iload d_Mo_fault5_160 rfl ?_
    refine jr_bipush ((nI (32))) d_Mo_fault5_162 (by decide) ?_
    refine jr_iremN d_Mo_fault5_164 (by omega) (by omega) (by omega) ?_
    refine jr_aload_n d_Mo_fault5_165 rfl ?_
    refine jr_iload d_Mo_fault5_166 rfl ?_
    refine jr_bipush ((nI (32))) d_Mo_fault5_168 (by decide) ?_
    refine jr_idivN d_Mo_fault5_170 (by omega) (by omega) (by omega) ?_
    refine jr_callV (As := [.int (nI ((n) / (32)))]) d_Mo_fault5_171 k_Mo_fault5_126 hO rfl rfl rfl (Nat.le_of_ble_eq_true rfl) (by decide) (by decide) (mo_fields (x := some (n / 32)) hl hO hw hok (ob_s hk)) ?_
    show jl_W l G m_Mo_fault5 (0, 0) 174 [some (.ref 22), some (.int (nI m)), some (.int (nI pc)), some (.int (nI 12)), some (.int (nI n))] [.int (nI (fi (n / 32) + ow (n / 32))), .int (nI ((n) % (32)))] (σ) (.inl (some (.int (bi (f5o tb ow fi sg 12 (nI n)))))) (σ)
    refine jr_icmp_ltN 181 d_Mo_fault5_174 (by decide) (by omega) (by omega) (fun c2 => ?_) (fun c2 => ?_)
    · refine jr_iconst ((nI (0))) d_Mo_fault5_181 (by decide) ?_
      exact jr_zretE d_Mo_fault5_182 rfl (by decide) (bo0 (by simp [f5o, hasF_n hok hn, bi_nf c1, c2, Nat.not_le.mpr c2])) (rfl) (by decide) (by decide)
    · refine jr_iconst ((nI (1))) d_Mo_fault5_177 (by decide) ?_
      refine jr_goto 182 d_Mo_fault5_178 (by decide) ?_
      exact jr_zretE d_Mo_fault5_182 rfl (by decide) (bo1 (by simp [f5o, hasF_n hok hn, bi_nf c1, c2, Nat.not_lt.mpr c2])) (rfl) (by decide) (by decide)
theorem mo_f5_g12 (hl : l.stackTraces = false) {m pc : Nat} {v : Int32} {x : Int32} (hO : MoO σ fa vf wh wy hg dp md ov oh dn an) (hw : MoW σ tb pr ow ft hs) (hu : MoM σ u1 u2 ur ul uo ua uc us ut uk) (hok : WoOk tb pr ow fi) (hsg : SgM tb pr hs u1 u2 ur sg) (hK : MoK u1 u2 ur ul uo uc us ut uk) (hm : m < 24) (hpc : pc < 24) (ho : uo (24 * m + pc) = 12) (hx : ua (24 * m + pc) = x) (hneg : x < 0) : jl_W l G m_Mo_fault5 (0, 0) 60 [some (.ref 22), some (.int (nI m)), some (.int (nI pc)), some (.int (v)), none] [] σ (.inl (some (.int (bi (f5o tb ow fi sg 12 (x)))))) (σ) := by
  obtain ⟨h23, h24, h25, h26, h27⟩ := id hw
  obtain ⟨h28, h29, h30, h31, h32, h33, h34, h35, h36, h37⟩ := id hu
  obtain ⟨hk1, hk2, hk3, hk4, hk5, hk6⟩ := hK.1 m hm
  refine jr_aload_n d_Mo_fault5_60 rfl ?_
  refine jr_getf d_Mo_fault5_61 f_Mo_fault5_38 hO rfl ?_
  refine jr_bipush ((nI (24))) d_Mo_fault5_64 (by decide) ?_
  refine jr_iload_n d_Mo_fault5_66 rfl ?_
  refine jr_imulN d_Mo_fault5_67 ?_
  refine jr_iload_n d_Mo_fault5_68 rfl ?_
  refine jr_iaddN d_Mo_fault5_69 ?_
  refine jr_ialdQ (v := (nI (12))) d_Mo_fault5_70 h32 (by omega) (by omega) (congrArg nI ho) ?_
  refine jr_istore_n d_Mo_fault5_71 (by decide) ?_
  show jl_W l G m_Mo_fault5 (0, 0) 72 [some (.ref 22), some (.int (nI m)), some (.int (nI pc)), some (.int (nI 12)), none] [] (σ) (.inl (some (.int (bi (f5o tb ow fi sg 12 (x)))))) (σ)
  refine jr_aload_n d_Mo_fault5_72 rfl ?_
  refine jr_getf d_Mo_fault5_73 f_Mo_fault5_41 hO rfl ?_
  refine jr_bipush ((nI (24))) d_Mo_fault5_76 (by decide) ?_
  refine jr_iload_n d_Mo_fault5_78 rfl ?_
  refine jr_imulN d_Mo_fault5_79 ?_
  refine jr_iload_n d_Mo_fault5_80 rfl ?_
  refine jr_iaddN d_Mo_fault5_81 ?_
  refine jr_ialdQ (v := (x)) d_Mo_fault5_82 h33 (by omega) (by omega) (hx) ?_
  refine jr_istore d_Mo_fault5_83 (by decide) ?_
  show jl_W l G m_Mo_fault5 (0, 0) 85 [some (.ref 22), some (.int (nI m)), some (.int (nI pc)), some (.int (nI 12)), some (.int (x))] [] (σ) (.inl (some (.int (bi (f5o tb ow fi sg 12 (x)))))) (σ)
  refine jr_iload_n d_Mo_fault5_85 rfl ?_
  refine jr_iconst ((nI (1))) d_Mo_fault5_86 (by decide) ?_
  refine jr_icmp_eq 95 d_Mo_fault5_87 (by decide) (fun z => absurd z (by decide)) (fun _ => ?_)
  refine jr_iload_n d_Mo_fault5_90 rfl ?_
  refine jr_iconst ((nI (2))) d_Mo_fault5_91 (by decide) ?_
  refine jr_icmp_ne 104 d_Mo_fault5_92 (by decide) (fun _ => ?_) (fun z => absurd z (by decide))
  refine jr_iload_n d_Mo_fault5_104 rfl ?_
  refine jr_bipush ((nI (11))) d_Mo_fault5_105 (by decide) ?_
  refine jr_icmp_eq 116 d_Mo_fault5_107 (by decide) (fun z => absurd z (by decide)) (fun _ => ?_)
  refine jr_iload_n d_Mo_fault5_110 rfl ?_
  refine jr_bipush ((nI (15))) d_Mo_fault5_111 (by decide) ?_
  refine jr_icmp_ne 131 d_Mo_fault5_113 (by decide) (fun _ => ?_) (fun z => absurd z (by decide))
  refine jr_iload_n d_Mo_fault5_131 rfl ?_
  refine jr_bipush ((nI (12))) d_Mo_fault5_132 (by decide) ?_
  refine jr_icmp_eq 143 d_Mo_fault5_134 (by decide) (fun _ => ?_) (fun z => absurd (by decide) z)
  refine jr_iload d_Mo_fault5_143 rfl ?_
  refine jr_if_lt 177 d_Mo_fault5_145 (by decide) (fun c1 => ?_) (fun c1 => ?_)
  · refine jr_iconst ((nI (1))) d_Mo_fault5_177 (by decide) ?_
    refine jr_goto 182 d_Mo_fault5_178 (by decide) ?_
    exact jr_zretE d_Mo_fault5_182 rfl (by decide) (bo1 (by simp [f5o, hasF_neg hneg])) (rfl) (by decide) (by decide)
  · exact absurd hneg c1
theorem mo_f5_n13 (hl : l.stackTraces = false) {m pc : Nat} {v : Int32} {n : Nat} (hO : MoO σ fa vf wh wy hg dp md ov oh dn an) (hw : MoW σ tb pr ow ft hs) (hu : MoM σ u1 u2 ur ul uo ua uc us ut uk) (hok : WoOk tb pr ow fi) (hsg : SgM tb pr hs u1 u2 ur sg) (hK : MoK u1 u2 ur ul uo uc us ut uk) (hm : m < 24) (hpc : pc < 24) (ho : uo (24 * m + pc) = 13) (hx : ua (24 * m + pc) = nI n) (hn : n < 2 ^ 31) : jl_W l G m_Mo_fault5 (0, 0) 60 [some (.ref 22), some (.int (nI m)), some (.int (nI pc)), some (.int (v)), none] [] σ (.inl (some (.int (bi (f5o tb ow fi sg 13 (nI n)))))) (σ) := by
  obtain ⟨h23, h24, h25, h26, h27⟩ := id hw
  obtain ⟨h28, h29, h30, h31, h32, h33, h34, h35, h36, h37⟩ := id hu
  obtain ⟨hk1, hk2, hk3, hk4, hk5, hk6⟩ := hK.1 m hm
  refine jr_aload_n d_Mo_fault5_60 rfl ?_
  refine jr_getf d_Mo_fault5_61 f_Mo_fault5_38 hO rfl ?_
  refine jr_bipush ((nI (24))) d_Mo_fault5_64 (by decide) ?_
  refine jr_iload_n d_Mo_fault5_66 rfl ?_
  refine jr_imulN d_Mo_fault5_67 ?_
  refine jr_iload_n d_Mo_fault5_68 rfl ?_
  refine jr_iaddN d_Mo_fault5_69 ?_
  refine jr_ialdQ (v := (nI (13))) d_Mo_fault5_70 h32 (by omega) (by omega) (congrArg nI ho) ?_
  refine jr_istore_n d_Mo_fault5_71 (by decide) ?_
  show jl_W l G m_Mo_fault5 (0, 0) 72 [some (.ref 22), some (.int (nI m)), some (.int (nI pc)), some (.int (nI 13)), none] [] (σ) (.inl (some (.int (bi (f5o tb ow fi sg 13 (nI n)))))) (σ)
  refine jr_aload_n d_Mo_fault5_72 rfl ?_
  refine jr_getf d_Mo_fault5_73 f_Mo_fault5_41 hO rfl ?_
  refine jr_bipush ((nI (24))) d_Mo_fault5_76 (by decide) ?_
  refine jr_iload_n d_Mo_fault5_78 rfl ?_
  refine jr_imulN d_Mo_fault5_79 ?_
  refine jr_iload_n d_Mo_fault5_80 rfl ?_
  refine jr_iaddN d_Mo_fault5_81 ?_
  refine jr_ialdQ (v := (nI (n))) d_Mo_fault5_82 h33 (by omega) (by omega) (hx) ?_
  refine jr_istore d_Mo_fault5_83 (by decide) ?_
  show jl_W l G m_Mo_fault5 (0, 0) 85 [some (.ref 22), some (.int (nI m)), some (.int (nI pc)), some (.int (nI 13)), some (.int (nI n))] [] (σ) (.inl (some (.int (bi (f5o tb ow fi sg 13 (nI n)))))) (σ)
  refine jr_iload_n d_Mo_fault5_85 rfl ?_
  refine jr_iconst ((nI (1))) d_Mo_fault5_86 (by decide) ?_
  refine jr_icmp_eq 95 d_Mo_fault5_87 (by decide) (fun z => absurd z (by decide)) (fun _ => ?_)
  refine jr_iload_n d_Mo_fault5_90 rfl ?_
  refine jr_iconst ((nI (2))) d_Mo_fault5_91 (by decide) ?_
  refine jr_icmp_ne 104 d_Mo_fault5_92 (by decide) (fun _ => ?_) (fun z => absurd z (by decide))
  refine jr_iload_n d_Mo_fault5_104 rfl ?_
  refine jr_bipush ((nI (11))) d_Mo_fault5_105 (by decide) ?_
  refine jr_icmp_eq 116 d_Mo_fault5_107 (by decide) (fun z => absurd z (by decide)) (fun _ => ?_)
  refine jr_iload_n d_Mo_fault5_110 rfl ?_
  refine jr_bipush ((nI (15))) d_Mo_fault5_111 (by decide) ?_
  refine jr_icmp_ne 131 d_Mo_fault5_113 (by decide) (fun _ => ?_) (fun z => absurd z (by decide))
  refine jr_iload_n d_Mo_fault5_131 rfl ?_
  refine jr_bipush ((nI (12))) d_Mo_fault5_132 (by decide) ?_
  refine jr_icmp_eq 143 d_Mo_fault5_134 (by decide) (fun z => absurd z (by decide)) (fun _ => ?_)
  refine jr_iload_n d_Mo_fault5_137 rfl ?_
  refine jr_bipush ((nI (13))) d_Mo_fault5_138 (by decide) ?_
  refine jr_icmp_ne 183 d_Mo_fault5_140 (by decide) (fun z => absurd rfl z) (fun _ => ?_)
  refine jr_iload d_Mo_fault5_143 rfl ?_
  refine jr_if_lt 177 d_Mo_fault5_145 (by decide) (fun z => absurd z (nI_pos (by omega))) (fun _ => ?_)
  refine jr_aload_n d_Mo_fault5_148 rfl ?_
  refine jr_iload d_Mo_fault5_149 rfl ?_
  refine jr_bipush ((nI (32))) d_Mo_fault5_151 (by decide) ?_
  refine jr_idivN d_Mo_fault5_153 (by omega) (by omega) (by omega) ?_
  refine jr_callV (As := [.int (nI ((n) / (32)))]) d_Mo_fault5_154 k_Mo_fault5_154 hO rfl rfl rfl (Nat.le_of_ble_eq_true rfl) (by decide) (by decide) (mo_isClass hl hO hw) ?_
  show jl_W l G m_Mo_fault5 (0, 0) 157 [some (.ref 22), some (.int (nI m)), some (.int (nI pc)), some (.int (nI 13)), some (.int (nI n))] [.int (bi (hasI tb (nI ((n) / (32)))))] (σ) (.inl (some (.int (bi (f5o tb ow fi sg 13 (nI n)))))) (σ)
  refine jr_if_eq 177 d_Mo_fault5_157 (by decide) (fun c1 => ?_) (fun c1 => ?_)
  · refine jr_iconst ((nI (1))) d_Mo_fault5_177 (by decide) ?_
    refine jr_goto 182 d_Mo_fault5_178 (by decide) ?_
    exact jr_zretE d_Mo_fault5_182 rfl (by decide) (bo1 (by simp [f5o, hasF_n hok hn, bi_0.mp c1])) (rfl) (by decide) (by decide)
  · have hk := (hasI_b (by omega) (bi_nf c1)).1; have hfb := hok.2.2.1 _ hk; have hob := hok.2.1 _ hk
    refine jr_iload d_Mo_fault5_160 rfl ?_
    refine jr_bipush ((nI (32))) d_Mo_fault5_162 (by decide) ?_
    refine jr_iremN d_Mo_fault5_164 (by omega) (by omega) (by omega) ?_
    refine jr_aload_n d_Mo_fault5_165 rfl ?_
    refine jr_iload d_Mo_fault5_166 rfl ?_
    refine jr_bipush ((nI (32))) d_Mo_fault5_168 (by decide) ?_
    refine jr_idivN d_Mo_fault5_170 (by omega) (by omega) (by omega) ?_
    refine jr_callV (As := [.int (nI ((n) / (32)))]) d_Mo_fault5_171 k_Mo_fault5_126 hO rfl rfl rfl (Nat.le_of_ble_eq_true rfl) (by decide) (by decide) (mo_fields (x := some (n / 32)) hl hO hw hok (ob_s hk)) ?_
    show jl_W l G m_Mo_fault5 (0, 0) 174 [some (.ref 22), some (.int (nI m)), some (.int (nI pc)), some (.int (nI 13)), some (.int (nI n))] [.int (nI (fi (n / 32) + ow (n / 32))), .int (nI ((n) % (32)))] (σ) (.inl (some (.int (bi (f5o tb ow fi sg 13 (nI n)))))) (σ)
    refine jr_icmp_ltN 181 d_Mo_fault5_174 (by decide) (by omega) (by omega) (fun c2 => ?_) (fun c2 => ?_)
    · refine jr_iconst ((nI (0))) d_Mo_fault5_181 (by decide) ?_
      exact jr_zretE d_Mo_fault5_182 rfl (by decide) (bo0 (by simp [f5o, hasF_n hok hn, bi_nf c1, c2, Nat.not_le.mpr c2])) (rfl) (by decide) (by decide)
    · refine jr_iconst ((nI (1))) d_Mo_fault5_177 (by decide) ?_
      refine jr_goto 182 d_Mo_fault5_178 (by decide) ?_
      exact jr_zretE d_Mo_fault5_182 rfl (by decide) (bo1 (by simp [f5o, hasF_n hok hn, bi_nf c1, c2, Nat.not_lt.mpr c2])) (rfl) (by decide) (by decide)
theorem mo_f5_g13 (hl : l.stackTraces = false) {m pc : Nat} {v : Int32} {x : Int32} (hO : MoO σ fa vf wh wy hg dp md ov oh dn an) (hw : MoW σ tb pr ow ft hs) (hu : MoM σ u1 u2 ur ul uo ua uc us ut uk) (hok : WoOk tb pr ow fi) (hsg : SgM tb pr hs u1 u2 ur sg) (hK : MoK u1 u2 ur ul uo uc us ut uk) (hm : m < 24) (hpc : pc < 24) (ho : uo (24 * m + pc) = 13) (hx : ua (24 * m + pc) = x) (hneg : x < 0) : jl_W l G m_Mo_fault5 (0, 0) 60 [some (.ref 22), some (.int (nI m)), some (.int (nI pc)), some (.int (v)), none] [] σ (.inl (some (.int (bi (f5o tb ow fi sg 13 (x)))))) (σ) := by
  obtain ⟨h23, h24, h25, h26, h27⟩ := id hw
  obtain ⟨h28, h29, h30, h31, h32, h33, h34, h35, h36, h37⟩ := id hu
  obtain ⟨hk1, hk2, hk3, hk4, hk5, hk6⟩ := hK.1 m hm
  refine jr_aload_n d_Mo_fault5_60 rfl ?_
  refine jr_getf d_Mo_fault5_61 f_Mo_fault5_38 hO rfl ?_
  refine jr_bipush ((nI (24))) d_Mo_fault5_64 (by decide) ?_
  refine jr_iload_n d_Mo_fault5_66 rfl ?_
  refine jr_imulN d_Mo_fault5_67 ?_
  refine jr_iload_n d_Mo_fault5_68 rfl ?_
  refine jr_iaddN d_Mo_fault5_69 ?_
  refine jr_ialdQ (v := (nI (13))) d_Mo_fault5_70 h32 (by omega) (by omega) (congrArg nI ho) ?_
  refine jr_istore_n d_Mo_fault5_71 (by decide) ?_
  show jl_W l G m_Mo_fault5 (0, 0) 72 [some (.ref 22), some (.int (nI m)), some (.int (nI pc)), some (.int (nI 13)), none] [] (σ) (.inl (some (.int (bi (f5o tb ow fi sg 13 (x)))))) (σ)
  refine jr_aload_n d_Mo_fault5_72 rfl ?_
  refine jr_getf d_Mo_fault5_73 f_Mo_fault5_41 hO rfl ?_
  refine jr_bipush ((nI (24))) d_Mo_fault5_76 (by decide) ?_
  refine jr_iload_n d_Mo_fault5_78 rfl ?_
  refine jr_imulN d_Mo_fault5_79 ?_
  refine jr_iload_n d_Mo_fault5_80 rfl ?_
  refine jr_iaddN d_Mo_fault5_81 ?_
  refine jr_ialdQ (v := (x)) d_Mo_fault5_82 h33 (by omega) (by omega) (hx) ?_
  refine jr_istore d_Mo_fault5_83 (by decide) ?_
  show jl_W l G m_Mo_fault5 (0, 0) 85 [some (.ref 22), some (.int (nI m)), some (.int (nI pc)), some (.int (nI 13)), some (.int (x))] [] (σ) (.inl (some (.int (bi (f5o tb ow fi sg 13 (x)))))) (σ)
  refine jr_iload_n d_Mo_fault5_85 rfl ?_
  refine jr_iconst ((nI (1))) d_Mo_fault5_86 (by decide) ?_
  refine jr_icmp_eq 95 d_Mo_fault5_87 (by decide) (fun z => absurd z (by decide)) (fun _ => ?_)
  refine jr_iload_n d_Mo_fault5_90 rfl ?_
  refine jr_iconst ((nI (2))) d_Mo_fault5_91 (by decide) ?_
  refine jr_icmp_ne 104 d_Mo_fault5_92 (by decide) (fun _ => ?_) (fun z => absurd z (by decide))
  refine jr_iload_n d_Mo_fault5_104 rfl ?_
  refine jr_bipush ((nI (11))) d_Mo_fault5_105 (by decide) ?_
  refine jr_icmp_eq 116 d_Mo_fault5_107 (by decide) (fun z => absurd z (by decide)) (fun _ => ?_)
  refine jr_iload_n d_Mo_fault5_110 rfl ?_
  refine jr_bipush ((nI (15))) d_Mo_fault5_111 (by decide) ?_
  refine jr_icmp_ne 131 d_Mo_fault5_113 (by decide) (fun _ => ?_) (fun z => absurd z (by decide))
  refine jr_iload_n d_Mo_fault5_131 rfl ?_
  refine jr_bipush ((nI (12))) d_Mo_fault5_132 (by decide) ?_
  refine jr_icmp_eq 143 d_Mo_fault5_134 (by decide) (fun z => absurd z (by decide)) (fun _ => ?_)
  refine jr_iload_n d_Mo_fault5_137 rfl ?_
  refine jr_bipush ((nI (13))) d_Mo_fault5_138 (by decide) ?_
  refine jr_icmp_ne 183 d_Mo_fault5_140 (by decide) (fun z => absurd rfl z) (fun _ => ?_)
  refine jr_iload d_Mo_fault5_143 rfl ?_
  refine jr_if_lt 177 d_Mo_fault5_145 (by decide) (fun c1 => ?_) (fun c1 => ?_)
  · refine jr_iconst ((nI (1))) d_Mo_fault5_177 (by decide) ?_
    refine jr_goto 182 d_Mo_fault5_178 (by decide) ?_
    exact jr_zretE d_Mo_fault5_182 rfl (by decide) (bo1 (by simp [f5o, hasF_neg hneg])) (rfl) (by decide) (by decide)
  · exact absurd hneg c1
theorem d_Mo_fault5_189 : decode m_Mo_fault5.2.1 189 = .ok (.iload 4, 2) := by decide +kernel
theorem d_Mo_fault5_191 : decode m_Mo_fault5.2.1 191 = .ok (.ifCond .lt 29, 3) := by decide +kernel
theorem d_Mo_fault5_194 : decode m_Mo_fault5.2.1 194 = .ok (.aload_n 0, 1) := by decide +kernel
theorem d_Mo_fault5_195 : decode m_Mo_fault5.2.1 195 = .ok (.iload 4, 2) := by decide +kernel
theorem d_Mo_fault5_197 : decode m_Mo_fault5.2.1 197 = .ok (.iconst 4, 1) := by decide +kernel
theorem d_Mo_fault5_198 : decode m_Mo_fault5.2.1 198 = .ok (.idiv, 1) := by decide +kernel
theorem d_Mo_fault5_199 : decode m_Mo_fault5.2.1 199 = .ok (.invokevirtual 154, 3) := by decide +kernel
theorem d_Mo_fault5_202 : decode m_Mo_fault5.2.1 202 = .ok (.ifCond .eq 18, 3) := by decide +kernel
theorem d_Mo_fault5_220 : decode m_Mo_fault5.2.1 220 = .ok (.iconst 1, 1) := by decide +kernel
theorem d_Mo_fault5_221 : decode m_Mo_fault5.2.1 221 = .ok (.goto 4, 3) := by decide +kernel
theorem d_Mo_fault5_205 : decode m_Mo_fault5.2.1 205 = .ok (.aload_n 0, 1) := by decide +kernel
theorem d_Mo_fault5_206 : decode m_Mo_fault5.2.1 206 = .ok (.iload 4, 2) := by decide +kernel
theorem d_Mo_fault5_208 : decode m_Mo_fault5.2.1 208 = .ok (.iconst 4, 1) := by decide +kernel
theorem d_Mo_fault5_209 : decode m_Mo_fault5.2.1 209 = .ok (.idiv, 1) := by decide +kernel
theorem d_Mo_fault5_210 : decode m_Mo_fault5.2.1 210 = .ok (.iload 4, 2) := by decide +kernel
theorem d_Mo_fault5_212 : decode m_Mo_fault5.2.1 212 = .ok (.iconst 4, 1) := by decide +kernel
theorem d_Mo_fault5_213 : decode m_Mo_fault5.2.1 213 = .ok (.irem, 1) := by decide +kernel
theorem k_Mo_fault5_157 : jl_cv m_Mo_fault5 m_Mo_methodOf 157 2 = true := by decide +kernel
theorem d_Mo_fault5_214 : decode m_Mo_fault5.2.1 214 = .ok (.invokevirtual 157, 3) := by decide +kernel
theorem d_Mo_fault5_217 : decode m_Mo_fault5.2.1 217 = .ok (.ifCond .ge 7, 3) := by decide +kernel
theorem mo_f5_n14 (hl : l.stackTraces = false) {m pc : Nat} {v : Int32} {n : Nat} (hO : MoO σ fa vf wh wy hg dp md ov oh dn an) (hw : MoW σ tb pr ow ft hs) (hu : MoM σ u1 u2 ur ul uo ua uc us ut uk) (hok : WoOk tb pr ow fi) (hsg : SgM tb pr hs u1 u2 ur sg) (hK : MoK u1 u2 ur ul uo uc us ut uk) (hm : m < 24) (hpc : pc < 24) (ho : uo (24 * m + pc) = 14) (hx : ua (24 * m + pc) = nI n) (hn : n < 2 ^ 31) : jl_W l G m_Mo_fault5 (0, 0) 60 [some (.ref 22), some (.int (nI m)), some (.int (nI pc)), some (.int (v)), none] [] σ (.inl (some (.int (bi (f5o tb ow fi sg 14 (nI n)))))) (σ) := by
  obtain ⟨h23, h24, h25, h26, h27⟩ := id hw
  obtain ⟨h28, h29, h30, h31, h32, h33, h34, h35, h36, h37⟩ := id hu
  obtain ⟨hk1, hk2, hk3, hk4, hk5, hk6⟩ := hK.1 m hm
  refine jr_aload_n d_Mo_fault5_60 rfl ?_
  refine jr_getf d_Mo_fault5_61 f_Mo_fault5_38 hO rfl ?_
  refine jr_bipush ((nI (24))) d_Mo_fault5_64 (by decide) ?_
  refine jr_iload_n d_Mo_fault5_66 rfl ?_
  refine jr_imulN d_Mo_fault5_67 ?_
  refine jr_iload_n d_Mo_fault5_68 rfl ?_
  refine jr_iaddN d_Mo_fault5_69 ?_
  refine jr_ialdQ (v := (nI (14))) d_Mo_fault5_70 h32 (by omega) (by omega) (congrArg nI ho) ?_
  refine jr_istore_n d_Mo_fault5_71 (by decide) ?_
  show jl_W l G m_Mo_fault5 (0, 0) 72 [some (.ref 22), some (.int (nI m)), some (.int (nI pc)), some (.int (nI 14)), none] [] (σ) (.inl (some (.int (bi (f5o tb ow fi sg 14 (nI n)))))) (σ)
  refine jr_aload_n d_Mo_fault5_72 rfl ?_
  refine jr_getf d_Mo_fault5_73 f_Mo_fault5_41 hO rfl ?_
  refine jr_bipush ((nI (24))) d_Mo_fault5_76 (by decide) ?_
  refine jr_iload_n d_Mo_fault5_78 rfl ?_
  refine jr_imulN d_Mo_fault5_79 ?_
  refine jr_iload_n d_Mo_fault5_80 rfl ?_
  refine jr_iaddN d_Mo_fault5_81 ?_
  refine jr_ialdQ (v := (nI (n))) d_Mo_fault5_82 h33 (by omega) (by omega) (hx) ?_
  refine jr_istore d_Mo_fault5_83 (by decide) ?_
  show jl_W l G m_Mo_fault5 (0, 0) 85 [some (.ref 22), some (.int (nI m)), some (.int (nI pc)), some (.int (nI 14)), some (.int (nI n))] [] (σ) (.inl (some (.int (bi (f5o tb ow fi sg 14 (nI n)))))) (σ)
  refine jr_iload_n d_Mo_fault5_85 rfl ?_
  refine jr_iconst ((nI (1))) d_Mo_fault5_86 (by decide) ?_
  refine jr_icmp_eq 95 d_Mo_fault5_87 (by decide) (fun z => absurd z (by decide)) (fun _ => ?_)
  refine jr_iload_n d_Mo_fault5_90 rfl ?_
  refine jr_iconst ((nI (2))) d_Mo_fault5_91 (by decide) ?_
  refine jr_icmp_ne 104 d_Mo_fault5_92 (by decide) (fun _ => ?_) (fun z => absurd z (by decide))
  refine jr_iload_n d_Mo_fault5_104 rfl ?_
  refine jr_bipush ((nI (11))) d_Mo_fault5_105 (by decide) ?_
  refine jr_icmp_eq 116 d_Mo_fault5_107 (by decide) (fun z => absurd z (by decide)) (fun _ => ?_)
  refine jr_iload_n d_Mo_fault5_110 rfl ?_
  refine jr_bipush ((nI (15))) d_Mo_fault5_111 (by decide) ?_
  refine jr_icmp_ne 131 d_Mo_fault5_113 (by decide) (fun _ => ?_) (fun z => absurd z (by decide))
  refine jr_iload_n d_Mo_fault5_131 rfl ?_
  refine jr_bipush ((nI (12))) d_Mo_fault5_132 (by decide) ?_
  refine jr_icmp_eq 143 d_Mo_fault5_134 (by decide) (fun z => absurd z (by decide)) (fun _ => ?_)
  refine jr_iload_n d_Mo_fault5_137 rfl ?_
  refine jr_bipush ((nI (13))) d_Mo_fault5_138 (by decide) ?_
  refine jr_icmp_ne 183 d_Mo_fault5_140 (by decide) (fun _ => ?_) (fun z => absurd z (by decide))
  refine jr_iload_n d_Mo_fault5_183 rfl ?_
  refine jr_bipush ((nI (14))) d_Mo_fault5_184 (by decide) ?_
  refine jr_icmp_ne 224 d_Mo_fault5_186 (by decide) (fun z => absurd rfl z) (fun _ => ?_)
  refine jr_iload d_Mo_fault5_189 rfl ?_
  refine jr_if_lt 220 d_Mo_fault5_191 (by decide) (fun z => absurd z (nI_pos (by omega))) (fun _ => ?_)
  refine jr_aload_n d_Mo_fault5_194 rfl ?_
  refine jr_iload d_Mo_fault5_195 rfl ?_
  refine jr_iconst ((nI (4))) d_Mo_fault5_197 (by decide) ?_
  refine jr_idivN d_Mo_fault5_198 (by omega) (by omega) (by omega) ?_
  refine jr_callV (As := [.int (nI ((n) / (4)))]) d_Mo_fault5_199 k_Mo_fault5_154 hO rfl rfl rfl (Nat.le_of_ble_eq_true rfl) (by decide) (by decide) (mo_isClass hl hO hw) ?_
  show jl_W l G m_Mo_fault5 (0, 0) 202 [some (.ref 22), some (.int (nI m)), some (.int (nI pc)), some (.int (nI 14)), some (.int (nI n))] [.int (bi (hasI tb (nI ((n) / (4)))))] (σ) (.inl (some (.int (bi (f5o tb ow fi sg 14 (nI n)))))) (σ)
  refine jr_if_eq 220 d_Mo_fault5_202 (by decide) (fun c1 => ?_) (fun c1 => ?_)
  · refine jr_iconst ((nI (1))) d_Mo_fault5_220 (by decide) ?_
    refine jr_goto 225 d_Mo_fault5_221 (by decide) ?_
    exact jr_zretE d_Mo_fault5_225 rfl (by decide) (bo1 (by simp only [f5o, hsg.2 n hn, sgm]; rw [if_neg (hasI_bf (by omega) (bi_0.mp c1))]; rfl)) (rfl) (by decide) (by decide)
  · obtain ⟨hk, htk⟩ := hasI_b (by omega) (bi_nf c1)
    refine jr_aload_n d_Mo_fault5_205 rfl ?_
    refine jr_iload d_Mo_fault5_206 rfl ?_
    refine jr_iconst ((nI (4))) d_Mo_fault5_208 (by decide) ?_
    refine jr_idivN d_Mo_fault5_209 (by omega) (by omega) (by omega) ?_
    refine jr_iload d_Mo_fault5_210 rfl ?_
    refine jr_iconst ((nI (4))) d_Mo_fault5_212 (by decide) ?_
    refine jr_iremN d_Mo_fault5_213 (by omega) (by omega) (by omega) ?_
    refine jr_callV (As := [.int (nI ((n) / (4))), .int (nI ((n) % (4)))]) d_Mo_fault5_214 k_Mo_fault5_157 hO rfl rfl rfl (Nat.le_of_ble_eq_true rfl) (by decide) (by decide) (mo_methodOf (x := some (n / 4)) hl hO hw (by omega) hok.dsc (ob_s hk)) ?_
    show jl_W l G m_Mo_fault5 (0, 0) 217 [some (.ref 22), some (.int (nI m)), some (.int (nI pc)), some (.int (nI 14)), some (.int (nI n))] [.int (en (mmo pr hs (n % 4) 6 (some (n / 4))))] (σ) (.inl (some (.int (bi (f5o tb ow fi sg 14 (nI n)))))) (σ)
    cases hmo : mmo pr hs (n % 4) 6 (some (n / 4)) with
    | none =>
      show jl_W l G m_Mo_fault5 (0, 0) 217 [some (.ref 22), some (.int (nI m)), some (.int (nI pc)), some (.int (nI 14)), some (.int (nI n))] [.int (-1)] (σ) (.inl (some (.int (bi (f5o tb ow fi sg 14 (nI n)))))) (σ)
      refine jr_if_ge 224 d_Mo_fault5_217 (by decide) (fun z => absurd z (by decide)) (fun _ => ?_)
      refine jr_iconst ((nI (1))) d_Mo_fault5_220 (by decide) ?_
      refine jr_goto 225 d_Mo_fault5_221 (by decide) ?_
      exact jr_zretE d_Mo_fault5_225 rfl (by decide) (bo1 (by simp only [f5o, hsg.2 n hn, sgm]; rw [if_pos ⟨hk, htk⟩, hmo]; rfl)) (rfl) (by decide) (by decide)
    | some mm =>
      have hmm := mmo_lt (sl := n % 4) (hs := hs) (by omega) hok.1 6 (some (n / 4)) (ob_s hk) mm hmo
      show jl_W l G m_Mo_fault5 (0, 0) 217 [some (.ref 22), some (.int (nI m)), some (.int (nI pc)), some (.int (nI 14)), some (.int (nI n))] [.int (nI mm)] (σ) (.inl (some (.int (bi (f5o tb ow fi sg 14 (nI n)))))) (σ)
      refine jr_if_ge 224 d_Mo_fault5_217 (by decide) (fun _ => ?_) (fun z => absurd (Int32.not_lt.mp (nI_pos (by omega))) z)
      refine jr_iconst ((nI (0))) d_Mo_fault5_224 (by decide) ?_
      exact jr_zretE d_Mo_fault5_225 rfl (by decide) (bo0 (by simp only [f5o, hsg.2 n hn, sgm]; rw [if_pos ⟨hk, htk⟩, hmo]; rfl)) (rfl) (by decide) (by decide)
theorem mo_f5_g14 (hl : l.stackTraces = false) {m pc : Nat} {v : Int32} {x : Int32} (hO : MoO σ fa vf wh wy hg dp md ov oh dn an) (hw : MoW σ tb pr ow ft hs) (hu : MoM σ u1 u2 ur ul uo ua uc us ut uk) (hok : WoOk tb pr ow fi) (hsg : SgM tb pr hs u1 u2 ur sg) (hK : MoK u1 u2 ur ul uo uc us ut uk) (hm : m < 24) (hpc : pc < 24) (ho : uo (24 * m + pc) = 14) (hx : ua (24 * m + pc) = x) (hneg : x < 0) : jl_W l G m_Mo_fault5 (0, 0) 60 [some (.ref 22), some (.int (nI m)), some (.int (nI pc)), some (.int (v)), none] [] σ (.inl (some (.int (bi (f5o tb ow fi sg 14 (x)))))) (σ) := by
  obtain ⟨h23, h24, h25, h26, h27⟩ := id hw
  obtain ⟨h28, h29, h30, h31, h32, h33, h34, h35, h36, h37⟩ := id hu
  obtain ⟨hk1, hk2, hk3, hk4, hk5, hk6⟩ := hK.1 m hm
  refine jr_aload_n d_Mo_fault5_60 rfl ?_
  refine jr_getf d_Mo_fault5_61 f_Mo_fault5_38 hO rfl ?_
  refine jr_bipush ((nI (24))) d_Mo_fault5_64 (by decide) ?_
  refine jr_iload_n d_Mo_fault5_66 rfl ?_
  refine jr_imulN d_Mo_fault5_67 ?_
  refine jr_iload_n d_Mo_fault5_68 rfl ?_
  refine jr_iaddN d_Mo_fault5_69 ?_
  refine jr_ialdQ (v := (nI (14))) d_Mo_fault5_70 h32 (by omega) (by omega) (congrArg nI ho) ?_
  refine jr_istore_n d_Mo_fault5_71 (by decide) ?_
  show jl_W l G m_Mo_fault5 (0, 0) 72 [some (.ref 22), some (.int (nI m)), some (.int (nI pc)), some (.int (nI 14)), none] [] (σ) (.inl (some (.int (bi (f5o tb ow fi sg 14 (x)))))) (σ)
  refine jr_aload_n d_Mo_fault5_72 rfl ?_
  refine jr_getf d_Mo_fault5_73 f_Mo_fault5_41 hO rfl ?_
  refine jr_bipush ((nI (24))) d_Mo_fault5_76 (by decide) ?_
  refine jr_iload_n d_Mo_fault5_78 rfl ?_
  refine jr_imulN d_Mo_fault5_79 ?_
  refine jr_iload_n d_Mo_fault5_80 rfl ?_
  refine jr_iaddN d_Mo_fault5_81 ?_
  refine jr_ialdQ (v := (x)) d_Mo_fault5_82 h33 (by omega) (by omega) (hx) ?_
  refine jr_istore d_Mo_fault5_83 (by decide) ?_
  show jl_W l G m_Mo_fault5 (0, 0) 85 [some (.ref 22), some (.int (nI m)), some (.int (nI pc)), some (.int (nI 14)), some (.int (x))] [] (σ) (.inl (some (.int (bi (f5o tb ow fi sg 14 (x)))))) (σ)
  refine jr_iload_n d_Mo_fault5_85 rfl ?_
  refine jr_iconst ((nI (1))) d_Mo_fault5_86 (by decide) ?_
  refine jr_icmp_eq 95 d_Mo_fault5_87 (by decide) (fun z => absurd z (by decide)) (fun _ => ?_)
  refine jr_iload_n d_Mo_fault5_90 rfl ?_
  refine jr_iconst ((nI (2))) d_Mo_fault5_91 (by decide) ?_
  refine jr_icmp_ne 104 d_Mo_fault5_92 (by decide) (fun _ => ?_) (fun z => absurd z (by decide))
  refine jr_iload_n d_Mo_fault5_104 rfl ?_
  refine jr_bipush ((nI (11))) d_Mo_fault5_105 (by decide) ?_
  refine jr_icmp_eq 116 d_Mo_fault5_107 (by decide) (fun z => absurd z (by decide)) (fun _ => ?_)
  refine jr_iload_n d_Mo_fault5_110 rfl ?_
  refine jr_bipush ((nI (15))) d_Mo_fault5_111 (by decide) ?_
  refine jr_icmp_ne 131 d_Mo_fault5_113 (by decide) (fun _ => ?_) (fun z => absurd z (by decide))
  refine jr_iload_n d_Mo_fault5_131 rfl ?_
  refine jr_bipush ((nI (12))) d_Mo_fault5_132 (by decide) ?_
  refine jr_icmp_eq 143 d_Mo_fault5_134 (by decide) (fun z => absurd z (by decide)) (fun _ => ?_)
  refine jr_iload_n d_Mo_fault5_137 rfl ?_
  refine jr_bipush ((nI (13))) d_Mo_fault5_138 (by decide) ?_
  refine jr_icmp_ne 183 d_Mo_fault5_140 (by decide) (fun _ => ?_) (fun z => absurd z (by decide))
  refine jr_iload_n d_Mo_fault5_183 rfl ?_
  refine jr_bipush ((nI (14))) d_Mo_fault5_184 (by decide) ?_
  refine jr_icmp_ne 224 d_Mo_fault5_186 (by decide) (fun z => absurd rfl z) (fun _ => ?_)
  refine jr_iload d_Mo_fault5_189 rfl ?_
  refine jr_if_lt 220 d_Mo_fault5_191 (by decide) (fun c1 => ?_) (fun c1 => ?_)
  · refine jr_iconst ((nI (1))) d_Mo_fault5_220 (by decide) ?_
    refine jr_goto 225 d_Mo_fault5_221 (by decide) ?_
    exact jr_zretE d_Mo_fault5_225 rfl (by decide) (bo1 (by simp [f5o, hsg.1 _ hneg])) (rfl) (by decide) (by decide)
  · exact absurd hneg c1
theorem mo_f5_r15 (hl : l.stackTraces = false) {m pc : Nat} {v : Int32} {x : Int32} (hO : MoO σ fa vf wh wy hg dp md ov oh dn an) (hw : MoW σ tb pr ow ft hs) (hu : MoM σ u1 u2 ur ul uo ua uc us ut uk) (hok : WoOk tb pr ow fi) (hsg : SgM tb pr hs u1 u2 ur sg) (hK : MoK u1 u2 ur ul uo uc us ut uk) (hm : m < 24) (hpc : pc < 24) (ho : uo (24 * m + pc) = 15) (hx : ua (24 * m + pc) = x) : jl_W l G m_Mo_fault5 (0, 0) 60 [some (.ref 22), some (.int (nI m)), some (.int (nI pc)), some (.int (v)), none] [] σ (.inl (some (.int (bi (f5o tb ow fi sg 15 (x)))))) (σ) := by
  obtain ⟨h23, h24, h25, h26, h27⟩ := id hw
  obtain ⟨h28, h29, h30, h31, h32, h33, h34, h35, h36, h37⟩ := id hu
  obtain ⟨hk1, hk2, hk3, hk4, hk5, hk6⟩ := hK.1 m hm
  refine jr_aload_n d_Mo_fault5_60 rfl ?_
  refine jr_getf d_Mo_fault5_61 f_Mo_fault5_38 hO rfl ?_
  refine jr_bipush ((nI (24))) d_Mo_fault5_64 (by decide) ?_
  refine jr_iload_n d_Mo_fault5_66 rfl ?_
  refine jr_imulN d_Mo_fault5_67 ?_
  refine jr_iload_n d_Mo_fault5_68 rfl ?_
  refine jr_iaddN d_Mo_fault5_69 ?_
  refine jr_ialdQ (v := (nI (15))) d_Mo_fault5_70 h32 (by omega) (by omega) (congrArg nI ho) ?_
  refine jr_istore_n d_Mo_fault5_71 (by decide) ?_
  show jl_W l G m_Mo_fault5 (0, 0) 72 [some (.ref 22), some (.int (nI m)), some (.int (nI pc)), some (.int (nI 15)), none] [] (σ) (.inl (some (.int (bi (f5o tb ow fi sg 15 (x)))))) (σ)
  refine jr_aload_n d_Mo_fault5_72 rfl ?_
  refine jr_getf d_Mo_fault5_73 f_Mo_fault5_41 hO rfl ?_
  refine jr_bipush ((nI (24))) d_Mo_fault5_76 (by decide) ?_
  refine jr_iload_n d_Mo_fault5_78 rfl ?_
  refine jr_imulN d_Mo_fault5_79 ?_
  refine jr_iload_n d_Mo_fault5_80 rfl ?_
  refine jr_iaddN d_Mo_fault5_81 ?_
  refine jr_ialdQ (v := (x)) d_Mo_fault5_82 h33 (by omega) (by omega) (hx) ?_
  refine jr_istore d_Mo_fault5_83 (by decide) ?_
  show jl_W l G m_Mo_fault5 (0, 0) 85 [some (.ref 22), some (.int (nI m)), some (.int (nI pc)), some (.int (nI 15)), some (.int (x))] [] (σ) (.inl (some (.int (bi (f5o tb ow fi sg 15 (x)))))) (σ)
  refine jr_iload_n d_Mo_fault5_85 rfl ?_
  refine jr_iconst ((nI (1))) d_Mo_fault5_86 (by decide) ?_
  refine jr_icmp_eq 95 d_Mo_fault5_87 (by decide) (fun z => absurd z (by decide)) (fun _ => ?_)
  refine jr_iload_n d_Mo_fault5_90 rfl ?_
  refine jr_iconst ((nI (2))) d_Mo_fault5_91 (by decide) ?_
  refine jr_icmp_ne 104 d_Mo_fault5_92 (by decide) (fun _ => ?_) (fun z => absurd z (by decide))
  refine jr_iload_n d_Mo_fault5_104 rfl ?_
  refine jr_bipush ((nI (11))) d_Mo_fault5_105 (by decide) ?_
  refine jr_icmp_eq 116 d_Mo_fault5_107 (by decide) (fun z => absurd z (by decide)) (fun _ => ?_)
  refine jr_iload_n d_Mo_fault5_110 rfl ?_
  refine jr_bipush ((nI (15))) d_Mo_fault5_111 (by decide) ?_
  refine jr_icmp_ne 131 d_Mo_fault5_113 (by decide) (fun z => absurd rfl z) (fun _ => ?_)
  refine jr_aload_n d_Mo_fault5_116 rfl ?_
  refine jr_iload d_Mo_fault5_117 rfl ?_
  refine jr_callV (As := [.int (x)]) d_Mo_fault5_119 k_Mo_fault5_154 hO rfl rfl rfl (Nat.le_of_ble_eq_true rfl) (by decide) (by decide) (mo_isClass hl hO hw) ?_
  show jl_W l G m_Mo_fault5 (0, 0) 122 [some (.ref 22), some (.int (nI m)), some (.int (nI pc)), some (.int (nI 15)), some (.int (x))] [.int (bi (hasI tb (x)))] (σ) (.inl (some (.int (bi (f5o tb ow fi sg 15 (x)))))) (σ)
  refine jr_if_ne 129 d_Mo_fault5_122 (by decide) (fun c1 => ?_) (fun c1 => ?_)
  · refine jr_iconst ((nI (0))) d_Mo_fault5_129 (by decide) ?_
    exact jr_zretE d_Mo_fault5_130 rfl (by decide) (bo0 (by first | (simp [f5o, outB_lt6, bi_nf c1]; done) | (simp [f5o, outB_lt6, bi_nf c1]; omega))) (rfl) (by decide) (by decide)
  · refine jr_iconst ((nI (1))) d_Mo_fault5_125 (by decide) ?_
    refine jr_goto 130 d_Mo_fault5_126 (by decide) ?_
    exact jr_zretE d_Mo_fault5_130 rfl (by decide) (bo1 (by first | (simp [f5o, outB_lt6, bi_0.mp c1]; done) | (simp [f5o, outB_lt6, bi_0.mp c1]; omega))) (rfl) (by decide) (by decide)
theorem mo_f5_r16 (hl : l.stackTraces = false) {m pc : Nat} {v : Int32} {x : Int32} (hO : MoO σ fa vf wh wy hg dp md ov oh dn an) (hw : MoW σ tb pr ow ft hs) (hu : MoM σ u1 u2 ur ul uo ua uc us ut uk) (hok : WoOk tb pr ow fi) (hsg : SgM tb pr hs u1 u2 ur sg) (hK : MoK u1 u2 ur ul uo uc us ut uk) (hm : m < 24) (hpc : pc < 24) (ho : uo (24 * m + pc) = 16) (hx : ua (24 * m + pc) = x) : jl_W l G m_Mo_fault5 (0, 0) 60 [some (.ref 22), some (.int (nI m)), some (.int (nI pc)), some (.int (v)), none] [] σ (.inl (some (.int (bi (f5o tb ow fi sg 16 (x)))))) (σ) := by
  obtain ⟨h23, h24, h25, h26, h27⟩ := id hw
  obtain ⟨h28, h29, h30, h31, h32, h33, h34, h35, h36, h37⟩ := id hu
  obtain ⟨hk1, hk2, hk3, hk4, hk5, hk6⟩ := hK.1 m hm
  refine jr_aload_n d_Mo_fault5_60 rfl ?_
  refine jr_getf d_Mo_fault5_61 f_Mo_fault5_38 hO rfl ?_
  refine jr_bipush ((nI (24))) d_Mo_fault5_64 (by decide) ?_
  refine jr_iload_n d_Mo_fault5_66 rfl ?_
  refine jr_imulN d_Mo_fault5_67 ?_
  refine jr_iload_n d_Mo_fault5_68 rfl ?_
  refine jr_iaddN d_Mo_fault5_69 ?_
  refine jr_ialdQ (v := (nI (16))) d_Mo_fault5_70 h32 (by omega) (by omega) (congrArg nI ho) ?_
  refine jr_istore_n d_Mo_fault5_71 (by decide) ?_
  show jl_W l G m_Mo_fault5 (0, 0) 72 [some (.ref 22), some (.int (nI m)), some (.int (nI pc)), some (.int (nI 16)), none] [] (σ) (.inl (some (.int (bi (f5o tb ow fi sg 16 (x)))))) (σ)
  refine jr_aload_n d_Mo_fault5_72 rfl ?_
  refine jr_getf d_Mo_fault5_73 f_Mo_fault5_41 hO rfl ?_
  refine jr_bipush ((nI (24))) d_Mo_fault5_76 (by decide) ?_
  refine jr_iload_n d_Mo_fault5_78 rfl ?_
  refine jr_imulN d_Mo_fault5_79 ?_
  refine jr_iload_n d_Mo_fault5_80 rfl ?_
  refine jr_iaddN d_Mo_fault5_81 ?_
  refine jr_ialdQ (v := (x)) d_Mo_fault5_82 h33 (by omega) (by omega) (hx) ?_
  refine jr_istore d_Mo_fault5_83 (by decide) ?_
  show jl_W l G m_Mo_fault5 (0, 0) 85 [some (.ref 22), some (.int (nI m)), some (.int (nI pc)), some (.int (nI 16)), some (.int (x))] [] (σ) (.inl (some (.int (bi (f5o tb ow fi sg 16 (x)))))) (σ)
  refine jr_iload_n d_Mo_fault5_85 rfl ?_
  refine jr_iconst ((nI (1))) d_Mo_fault5_86 (by decide) ?_
  refine jr_icmp_eq 95 d_Mo_fault5_87 (by decide) (fun z => absurd z (by decide)) (fun _ => ?_)
  refine jr_iload_n d_Mo_fault5_90 rfl ?_
  refine jr_iconst ((nI (2))) d_Mo_fault5_91 (by decide) ?_
  refine jr_icmp_ne 104 d_Mo_fault5_92 (by decide) (fun _ => ?_) (fun z => absurd z (by decide))
  refine jr_iload_n d_Mo_fault5_104 rfl ?_
  refine jr_bipush ((nI (11))) d_Mo_fault5_105 (by decide) ?_
  refine jr_icmp_eq 116 d_Mo_fault5_107 (by decide) (fun z => absurd z (by decide)) (fun _ => ?_)
  refine jr_iload_n d_Mo_fault5_110 rfl ?_
  refine jr_bipush ((nI (15))) d_Mo_fault5_111 (by decide) ?_
  refine jr_icmp_ne 131 d_Mo_fault5_113 (by decide) (fun _ => ?_) (fun z => absurd z (by decide))
  refine jr_iload_n d_Mo_fault5_131 rfl ?_
  refine jr_bipush ((nI (12))) d_Mo_fault5_132 (by decide) ?_
  refine jr_icmp_eq 143 d_Mo_fault5_134 (by decide) (fun z => absurd z (by decide)) (fun _ => ?_)
  refine jr_iload_n d_Mo_fault5_137 rfl ?_
  refine jr_bipush ((nI (13))) d_Mo_fault5_138 (by decide) ?_
  refine jr_icmp_ne 183 d_Mo_fault5_140 (by decide) (fun _ => ?_) (fun z => absurd z (by decide))
  refine jr_iload_n d_Mo_fault5_183 rfl ?_
  refine jr_bipush ((nI (14))) d_Mo_fault5_184 (by decide) ?_
  refine jr_icmp_ne 224 d_Mo_fault5_186 (by decide) (fun _ => ?_) (fun z => absurd z (by decide))
  refine jr_iconst ((nI (0))) d_Mo_fault5_224 (by decide) ?_
  exact jr_zretE d_Mo_fault5_225 rfl (by decide) (bo0 (by first | (simp [f5o, outB_lt6]; done) | (simp [f5o, outB_lt6]; omega))) (rfl) (by decide) (by decide)
theorem mo_f5_r17 (hl : l.stackTraces = false) {m pc : Nat} {v : Int32} {x : Int32} (hO : MoO σ fa vf wh wy hg dp md ov oh dn an) (hw : MoW σ tb pr ow ft hs) (hu : MoM σ u1 u2 ur ul uo ua uc us ut uk) (hok : WoOk tb pr ow fi) (hsg : SgM tb pr hs u1 u2 ur sg) (hK : MoK u1 u2 ur ul uo uc us ut uk) (hm : m < 24) (hpc : pc < 24) (ho : uo (24 * m + pc) = 17) (hx : ua (24 * m + pc) = x) : jl_W l G m_Mo_fault5 (0, 0) 60 [some (.ref 22), some (.int (nI m)), some (.int (nI pc)), some (.int (v)), none] [] σ (.inl (some (.int (bi (f5o tb ow fi sg 17 (x)))))) (σ) := by
  obtain ⟨h23, h24, h25, h26, h27⟩ := id hw
  obtain ⟨h28, h29, h30, h31, h32, h33, h34, h35, h36, h37⟩ := id hu
  obtain ⟨hk1, hk2, hk3, hk4, hk5, hk6⟩ := hK.1 m hm
  refine jr_aload_n d_Mo_fault5_60 rfl ?_
  refine jr_getf d_Mo_fault5_61 f_Mo_fault5_38 hO rfl ?_
  refine jr_bipush ((nI (24))) d_Mo_fault5_64 (by decide) ?_
  refine jr_iload_n d_Mo_fault5_66 rfl ?_
  refine jr_imulN d_Mo_fault5_67 ?_
  refine jr_iload_n d_Mo_fault5_68 rfl ?_
  refine jr_iaddN d_Mo_fault5_69 ?_
  refine jr_ialdQ (v := (nI (17))) d_Mo_fault5_70 h32 (by omega) (by omega) (congrArg nI ho) ?_
  refine jr_istore_n d_Mo_fault5_71 (by decide) ?_
  show jl_W l G m_Mo_fault5 (0, 0) 72 [some (.ref 22), some (.int (nI m)), some (.int (nI pc)), some (.int (nI 17)), none] [] (σ) (.inl (some (.int (bi (f5o tb ow fi sg 17 (x)))))) (σ)
  refine jr_aload_n d_Mo_fault5_72 rfl ?_
  refine jr_getf d_Mo_fault5_73 f_Mo_fault5_41 hO rfl ?_
  refine jr_bipush ((nI (24))) d_Mo_fault5_76 (by decide) ?_
  refine jr_iload_n d_Mo_fault5_78 rfl ?_
  refine jr_imulN d_Mo_fault5_79 ?_
  refine jr_iload_n d_Mo_fault5_80 rfl ?_
  refine jr_iaddN d_Mo_fault5_81 ?_
  refine jr_ialdQ (v := (x)) d_Mo_fault5_82 h33 (by omega) (by omega) (hx) ?_
  refine jr_istore d_Mo_fault5_83 (by decide) ?_
  show jl_W l G m_Mo_fault5 (0, 0) 85 [some (.ref 22), some (.int (nI m)), some (.int (nI pc)), some (.int (nI 17)), some (.int (x))] [] (σ) (.inl (some (.int (bi (f5o tb ow fi sg 17 (x)))))) (σ)
  refine jr_iload_n d_Mo_fault5_85 rfl ?_
  refine jr_iconst ((nI (1))) d_Mo_fault5_86 (by decide) ?_
  refine jr_icmp_eq 95 d_Mo_fault5_87 (by decide) (fun z => absurd z (by decide)) (fun _ => ?_)
  refine jr_iload_n d_Mo_fault5_90 rfl ?_
  refine jr_iconst ((nI (2))) d_Mo_fault5_91 (by decide) ?_
  refine jr_icmp_ne 104 d_Mo_fault5_92 (by decide) (fun _ => ?_) (fun z => absurd z (by decide))
  refine jr_iload_n d_Mo_fault5_104 rfl ?_
  refine jr_bipush ((nI (11))) d_Mo_fault5_105 (by decide) ?_
  refine jr_icmp_eq 116 d_Mo_fault5_107 (by decide) (fun z => absurd z (by decide)) (fun _ => ?_)
  refine jr_iload_n d_Mo_fault5_110 rfl ?_
  refine jr_bipush ((nI (15))) d_Mo_fault5_111 (by decide) ?_
  refine jr_icmp_ne 131 d_Mo_fault5_113 (by decide) (fun _ => ?_) (fun z => absurd z (by decide))
  refine jr_iload_n d_Mo_fault5_131 rfl ?_
  refine jr_bipush ((nI (12))) d_Mo_fault5_132 (by decide) ?_
  refine jr_icmp_eq 143 d_Mo_fault5_134 (by decide) (fun z => absurd z (by decide)) (fun _ => ?_)
  refine jr_iload_n d_Mo_fault5_137 rfl ?_
  refine jr_bipush ((nI (13))) d_Mo_fault5_138 (by decide) ?_
  refine jr_icmp_ne 183 d_Mo_fault5_140 (by decide) (fun _ => ?_) (fun z => absurd z (by decide))
  refine jr_iload_n d_Mo_fault5_183 rfl ?_
  refine jr_bipush ((nI (14))) d_Mo_fault5_184 (by decide) ?_
  refine jr_icmp_ne 224 d_Mo_fault5_186 (by decide) (fun _ => ?_) (fun z => absurd z (by decide))
  refine jr_iconst ((nI (0))) d_Mo_fault5_224 (by decide) ?_
  exact jr_zretE d_Mo_fault5_225 rfl (by decide) (bo0 (by first | (simp [f5o, outB_lt6]; done) | (simp [f5o, outB_lt6]; omega))) (rfl) (by decide) (by decide)
theorem mo_f5_r18 (hl : l.stackTraces = false) {m pc : Nat} {v : Int32} {x : Int32} (hO : MoO σ fa vf wh wy hg dp md ov oh dn an) (hw : MoW σ tb pr ow ft hs) (hu : MoM σ u1 u2 ur ul uo ua uc us ut uk) (hok : WoOk tb pr ow fi) (hsg : SgM tb pr hs u1 u2 ur sg) (hK : MoK u1 u2 ur ul uo uc us ut uk) (hm : m < 24) (hpc : pc < 24) (ho : uo (24 * m + pc) = 18) (hx : ua (24 * m + pc) = x) : jl_W l G m_Mo_fault5 (0, 0) 60 [some (.ref 22), some (.int (nI m)), some (.int (nI pc)), some (.int (v)), none] [] σ (.inl (some (.int (bi (f5o tb ow fi sg 18 (x)))))) (σ) := by
  obtain ⟨h23, h24, h25, h26, h27⟩ := id hw
  obtain ⟨h28, h29, h30, h31, h32, h33, h34, h35, h36, h37⟩ := id hu
  obtain ⟨hk1, hk2, hk3, hk4, hk5, hk6⟩ := hK.1 m hm
  refine jr_aload_n d_Mo_fault5_60 rfl ?_
  refine jr_getf d_Mo_fault5_61 f_Mo_fault5_38 hO rfl ?_
  refine jr_bipush ((nI (24))) d_Mo_fault5_64 (by decide) ?_
  refine jr_iload_n d_Mo_fault5_66 rfl ?_
  refine jr_imulN d_Mo_fault5_67 ?_
  refine jr_iload_n d_Mo_fault5_68 rfl ?_
  refine jr_iaddN d_Mo_fault5_69 ?_
  refine jr_ialdQ (v := (nI (18))) d_Mo_fault5_70 h32 (by omega) (by omega) (congrArg nI ho) ?_
  refine jr_istore_n d_Mo_fault5_71 (by decide) ?_
  show jl_W l G m_Mo_fault5 (0, 0) 72 [some (.ref 22), some (.int (nI m)), some (.int (nI pc)), some (.int (nI 18)), none] [] (σ) (.inl (some (.int (bi (f5o tb ow fi sg 18 (x)))))) (σ)
  refine jr_aload_n d_Mo_fault5_72 rfl ?_
  refine jr_getf d_Mo_fault5_73 f_Mo_fault5_41 hO rfl ?_
  refine jr_bipush ((nI (24))) d_Mo_fault5_76 (by decide) ?_
  refine jr_iload_n d_Mo_fault5_78 rfl ?_
  refine jr_imulN d_Mo_fault5_79 ?_
  refine jr_iload_n d_Mo_fault5_80 rfl ?_
  refine jr_iaddN d_Mo_fault5_81 ?_
  refine jr_ialdQ (v := (x)) d_Mo_fault5_82 h33 (by omega) (by omega) (hx) ?_
  refine jr_istore d_Mo_fault5_83 (by decide) ?_
  show jl_W l G m_Mo_fault5 (0, 0) 85 [some (.ref 22), some (.int (nI m)), some (.int (nI pc)), some (.int (nI 18)), some (.int (x))] [] (σ) (.inl (some (.int (bi (f5o tb ow fi sg 18 (x)))))) (σ)
  refine jr_iload_n d_Mo_fault5_85 rfl ?_
  refine jr_iconst ((nI (1))) d_Mo_fault5_86 (by decide) ?_
  refine jr_icmp_eq 95 d_Mo_fault5_87 (by decide) (fun z => absurd z (by decide)) (fun _ => ?_)
  refine jr_iload_n d_Mo_fault5_90 rfl ?_
  refine jr_iconst ((nI (2))) d_Mo_fault5_91 (by decide) ?_
  refine jr_icmp_ne 104 d_Mo_fault5_92 (by decide) (fun _ => ?_) (fun z => absurd z (by decide))
  refine jr_iload_n d_Mo_fault5_104 rfl ?_
  refine jr_bipush ((nI (11))) d_Mo_fault5_105 (by decide) ?_
  refine jr_icmp_eq 116 d_Mo_fault5_107 (by decide) (fun z => absurd z (by decide)) (fun _ => ?_)
  refine jr_iload_n d_Mo_fault5_110 rfl ?_
  refine jr_bipush ((nI (15))) d_Mo_fault5_111 (by decide) ?_
  refine jr_icmp_ne 131 d_Mo_fault5_113 (by decide) (fun _ => ?_) (fun z => absurd z (by decide))
  refine jr_iload_n d_Mo_fault5_131 rfl ?_
  refine jr_bipush ((nI (12))) d_Mo_fault5_132 (by decide) ?_
  refine jr_icmp_eq 143 d_Mo_fault5_134 (by decide) (fun z => absurd z (by decide)) (fun _ => ?_)
  refine jr_iload_n d_Mo_fault5_137 rfl ?_
  refine jr_bipush ((nI (13))) d_Mo_fault5_138 (by decide) ?_
  refine jr_icmp_ne 183 d_Mo_fault5_140 (by decide) (fun _ => ?_) (fun z => absurd z (by decide))
  refine jr_iload_n d_Mo_fault5_183 rfl ?_
  refine jr_bipush ((nI (14))) d_Mo_fault5_184 (by decide) ?_
  refine jr_icmp_ne 224 d_Mo_fault5_186 (by decide) (fun _ => ?_) (fun z => absurd z (by decide))
  refine jr_iconst ((nI (0))) d_Mo_fault5_224 (by decide) ?_
  exact jr_zretE d_Mo_fault5_225 rfl (by decide) (bo0 (by first | (simp [f5o, outB_lt6]; done) | (simp [f5o, outB_lt6]; omega))) (rfl) (by decide) (by decide)
theorem mo_f5_r19 (hl : l.stackTraces = false) {m pc : Nat} {v : Int32} {x : Int32} (hO : MoO σ fa vf wh wy hg dp md ov oh dn an) (hw : MoW σ tb pr ow ft hs) (hu : MoM σ u1 u2 ur ul uo ua uc us ut uk) (hok : WoOk tb pr ow fi) (hsg : SgM tb pr hs u1 u2 ur sg) (hK : MoK u1 u2 ur ul uo uc us ut uk) (hm : m < 24) (hpc : pc < 24) (ho : uo (24 * m + pc) = 19) (hx : ua (24 * m + pc) = x) : jl_W l G m_Mo_fault5 (0, 0) 60 [some (.ref 22), some (.int (nI m)), some (.int (nI pc)), some (.int (v)), none] [] σ (.inl (some (.int (bi (f5o tb ow fi sg 19 (x)))))) (σ) := by
  obtain ⟨h23, h24, h25, h26, h27⟩ := id hw
  obtain ⟨h28, h29, h30, h31, h32, h33, h34, h35, h36, h37⟩ := id hu
  obtain ⟨hk1, hk2, hk3, hk4, hk5, hk6⟩ := hK.1 m hm
  refine jr_aload_n d_Mo_fault5_60 rfl ?_
  refine jr_getf d_Mo_fault5_61 f_Mo_fault5_38 hO rfl ?_
  refine jr_bipush ((nI (24))) d_Mo_fault5_64 (by decide) ?_
  refine jr_iload_n d_Mo_fault5_66 rfl ?_
  refine jr_imulN d_Mo_fault5_67 ?_
  refine jr_iload_n d_Mo_fault5_68 rfl ?_
  refine jr_iaddN d_Mo_fault5_69 ?_
  refine jr_ialdQ (v := (nI (19))) d_Mo_fault5_70 h32 (by omega) (by omega) (congrArg nI ho) ?_
  refine jr_istore_n d_Mo_fault5_71 (by decide) ?_
  show jl_W l G m_Mo_fault5 (0, 0) 72 [some (.ref 22), some (.int (nI m)), some (.int (nI pc)), some (.int (nI 19)), none] [] (σ) (.inl (some (.int (bi (f5o tb ow fi sg 19 (x)))))) (σ)
  refine jr_aload_n d_Mo_fault5_72 rfl ?_
  refine jr_getf d_Mo_fault5_73 f_Mo_fault5_41 hO rfl ?_
  refine jr_bipush ((nI (24))) d_Mo_fault5_76 (by decide) ?_
  refine jr_iload_n d_Mo_fault5_78 rfl ?_
  refine jr_imulN d_Mo_fault5_79 ?_
  refine jr_iload_n d_Mo_fault5_80 rfl ?_
  refine jr_iaddN d_Mo_fault5_81 ?_
  refine jr_ialdQ (v := (x)) d_Mo_fault5_82 h33 (by omega) (by omega) (hx) ?_
  refine jr_istore d_Mo_fault5_83 (by decide) ?_
  show jl_W l G m_Mo_fault5 (0, 0) 85 [some (.ref 22), some (.int (nI m)), some (.int (nI pc)), some (.int (nI 19)), some (.int (x))] [] (σ) (.inl (some (.int (bi (f5o tb ow fi sg 19 (x)))))) (σ)
  refine jr_iload_n d_Mo_fault5_85 rfl ?_
  refine jr_iconst ((nI (1))) d_Mo_fault5_86 (by decide) ?_
  refine jr_icmp_eq 95 d_Mo_fault5_87 (by decide) (fun z => absurd z (by decide)) (fun _ => ?_)
  refine jr_iload_n d_Mo_fault5_90 rfl ?_
  refine jr_iconst ((nI (2))) d_Mo_fault5_91 (by decide) ?_
  refine jr_icmp_ne 104 d_Mo_fault5_92 (by decide) (fun _ => ?_) (fun z => absurd z (by decide))
  refine jr_iload_n d_Mo_fault5_104 rfl ?_
  refine jr_bipush ((nI (11))) d_Mo_fault5_105 (by decide) ?_
  refine jr_icmp_eq 116 d_Mo_fault5_107 (by decide) (fun z => absurd z (by decide)) (fun _ => ?_)
  refine jr_iload_n d_Mo_fault5_110 rfl ?_
  refine jr_bipush ((nI (15))) d_Mo_fault5_111 (by decide) ?_
  refine jr_icmp_ne 131 d_Mo_fault5_113 (by decide) (fun _ => ?_) (fun z => absurd z (by decide))
  refine jr_iload_n d_Mo_fault5_131 rfl ?_
  refine jr_bipush ((nI (12))) d_Mo_fault5_132 (by decide) ?_
  refine jr_icmp_eq 143 d_Mo_fault5_134 (by decide) (fun z => absurd z (by decide)) (fun _ => ?_)
  refine jr_iload_n d_Mo_fault5_137 rfl ?_
  refine jr_bipush ((nI (13))) d_Mo_fault5_138 (by decide) ?_
  refine jr_icmp_ne 183 d_Mo_fault5_140 (by decide) (fun _ => ?_) (fun z => absurd z (by decide))
  refine jr_iload_n d_Mo_fault5_183 rfl ?_
  refine jr_bipush ((nI (14))) d_Mo_fault5_184 (by decide) ?_
  refine jr_icmp_ne 224 d_Mo_fault5_186 (by decide) (fun _ => ?_) (fun z => absurd z (by decide))
  refine jr_iconst ((nI (0))) d_Mo_fault5_224 (by decide) ?_
  exact jr_zretE d_Mo_fault5_225 rfl (by decide) (bo0 (by first | (simp [f5o, outB_lt6]; done) | (simp [f5o, outB_lt6]; omega))) (rfl) (by decide) (by decide)
theorem mo_f5_r20 (hl : l.stackTraces = false) {m pc : Nat} {v : Int32} {x : Int32} (hO : MoO σ fa vf wh wy hg dp md ov oh dn an) (hw : MoW σ tb pr ow ft hs) (hu : MoM σ u1 u2 ur ul uo ua uc us ut uk) (hok : WoOk tb pr ow fi) (hsg : SgM tb pr hs u1 u2 ur sg) (hK : MoK u1 u2 ur ul uo uc us ut uk) (hm : m < 24) (hpc : pc < 24) (ho : uo (24 * m + pc) = 20) (hx : ua (24 * m + pc) = x) : jl_W l G m_Mo_fault5 (0, 0) 60 [some (.ref 22), some (.int (nI m)), some (.int (nI pc)), some (.int (v)), none] [] σ (.inl (some (.int (bi (f5o tb ow fi sg 20 (x)))))) (σ) := by
  obtain ⟨h23, h24, h25, h26, h27⟩ := id hw
  obtain ⟨h28, h29, h30, h31, h32, h33, h34, h35, h36, h37⟩ := id hu
  obtain ⟨hk1, hk2, hk3, hk4, hk5, hk6⟩ := hK.1 m hm
  refine jr_aload_n d_Mo_fault5_60 rfl ?_
  refine jr_getf d_Mo_fault5_61 f_Mo_fault5_38 hO rfl ?_
  refine jr_bipush ((nI (24))) d_Mo_fault5_64 (by decide) ?_
  refine jr_iload_n d_Mo_fault5_66 rfl ?_
  refine jr_imulN d_Mo_fault5_67 ?_
  refine jr_iload_n d_Mo_fault5_68 rfl ?_
  refine jr_iaddN d_Mo_fault5_69 ?_
  refine jr_ialdQ (v := (nI (20))) d_Mo_fault5_70 h32 (by omega) (by omega) (congrArg nI ho) ?_
  refine jr_istore_n d_Mo_fault5_71 (by decide) ?_
  show jl_W l G m_Mo_fault5 (0, 0) 72 [some (.ref 22), some (.int (nI m)), some (.int (nI pc)), some (.int (nI 20)), none] [] (σ) (.inl (some (.int (bi (f5o tb ow fi sg 20 (x)))))) (σ)
  refine jr_aload_n d_Mo_fault5_72 rfl ?_
  refine jr_getf d_Mo_fault5_73 f_Mo_fault5_41 hO rfl ?_
  refine jr_bipush ((nI (24))) d_Mo_fault5_76 (by decide) ?_
  refine jr_iload_n d_Mo_fault5_78 rfl ?_
  refine jr_imulN d_Mo_fault5_79 ?_
  refine jr_iload_n d_Mo_fault5_80 rfl ?_
  refine jr_iaddN d_Mo_fault5_81 ?_
  refine jr_ialdQ (v := (x)) d_Mo_fault5_82 h33 (by omega) (by omega) (hx) ?_
  refine jr_istore d_Mo_fault5_83 (by decide) ?_
  show jl_W l G m_Mo_fault5 (0, 0) 85 [some (.ref 22), some (.int (nI m)), some (.int (nI pc)), some (.int (nI 20)), some (.int (x))] [] (σ) (.inl (some (.int (bi (f5o tb ow fi sg 20 (x)))))) (σ)
  refine jr_iload_n d_Mo_fault5_85 rfl ?_
  refine jr_iconst ((nI (1))) d_Mo_fault5_86 (by decide) ?_
  refine jr_icmp_eq 95 d_Mo_fault5_87 (by decide) (fun z => absurd z (by decide)) (fun _ => ?_)
  refine jr_iload_n d_Mo_fault5_90 rfl ?_
  refine jr_iconst ((nI (2))) d_Mo_fault5_91 (by decide) ?_
  refine jr_icmp_ne 104 d_Mo_fault5_92 (by decide) (fun _ => ?_) (fun z => absurd z (by decide))
  refine jr_iload_n d_Mo_fault5_104 rfl ?_
  refine jr_bipush ((nI (11))) d_Mo_fault5_105 (by decide) ?_
  refine jr_icmp_eq 116 d_Mo_fault5_107 (by decide) (fun z => absurd z (by decide)) (fun _ => ?_)
  refine jr_iload_n d_Mo_fault5_110 rfl ?_
  refine jr_bipush ((nI (15))) d_Mo_fault5_111 (by decide) ?_
  refine jr_icmp_ne 131 d_Mo_fault5_113 (by decide) (fun _ => ?_) (fun z => absurd z (by decide))
  refine jr_iload_n d_Mo_fault5_131 rfl ?_
  refine jr_bipush ((nI (12))) d_Mo_fault5_132 (by decide) ?_
  refine jr_icmp_eq 143 d_Mo_fault5_134 (by decide) (fun z => absurd z (by decide)) (fun _ => ?_)
  refine jr_iload_n d_Mo_fault5_137 rfl ?_
  refine jr_bipush ((nI (13))) d_Mo_fault5_138 (by decide) ?_
  refine jr_icmp_ne 183 d_Mo_fault5_140 (by decide) (fun _ => ?_) (fun z => absurd z (by decide))
  refine jr_iload_n d_Mo_fault5_183 rfl ?_
  refine jr_bipush ((nI (14))) d_Mo_fault5_184 (by decide) ?_
  refine jr_icmp_ne 224 d_Mo_fault5_186 (by decide) (fun _ => ?_) (fun z => absurd z (by decide))
  refine jr_iconst ((nI (0))) d_Mo_fault5_224 (by decide) ?_
  exact jr_zretE d_Mo_fault5_225 rfl (by decide) (bo0 (by first | (simp [f5o, outB_lt6]; done) | (simp [f5o, outB_lt6]; omega))) (rfl) (by decide) (by decide)
theorem mo_f5_r21 (hl : l.stackTraces = false) {m pc : Nat} {v : Int32} {x : Int32} (hO : MoO σ fa vf wh wy hg dp md ov oh dn an) (hw : MoW σ tb pr ow ft hs) (hu : MoM σ u1 u2 ur ul uo ua uc us ut uk) (hok : WoOk tb pr ow fi) (hsg : SgM tb pr hs u1 u2 ur sg) (hK : MoK u1 u2 ur ul uo uc us ut uk) (hm : m < 24) (hpc : pc < 24) (ho : uo (24 * m + pc) = 21) (hx : ua (24 * m + pc) = x) : jl_W l G m_Mo_fault5 (0, 0) 60 [some (.ref 22), some (.int (nI m)), some (.int (nI pc)), some (.int (v)), none] [] σ (.inl (some (.int (bi (f5o tb ow fi sg 21 (x)))))) (σ) := by
  obtain ⟨h23, h24, h25, h26, h27⟩ := id hw
  obtain ⟨h28, h29, h30, h31, h32, h33, h34, h35, h36, h37⟩ := id hu
  obtain ⟨hk1, hk2, hk3, hk4, hk5, hk6⟩ := hK.1 m hm
  refine jr_aload_n d_Mo_fault5_60 rfl ?_
  refine jr_getf d_Mo_fault5_61 f_Mo_fault5_38 hO rfl ?_
  refine jr_bipush ((nI (24))) d_Mo_fault5_64 (by decide) ?_
  refine jr_iload_n d_Mo_fault5_66 rfl ?_
  refine jr_imulN d_Mo_fault5_67 ?_
  refine jr_iload_n d_Mo_fault5_68 rfl ?_
  refine jr_iaddN d_Mo_fault5_69 ?_
  refine jr_ialdQ (v := (nI (21))) d_Mo_fault5_70 h32 (by omega) (by omega) (congrArg nI ho) ?_
  refine jr_istore_n d_Mo_fault5_71 (by decide) ?_
  show jl_W l G m_Mo_fault5 (0, 0) 72 [some (.ref 22), some (.int (nI m)), some (.int (nI pc)), some (.int (nI 21)), none] [] (σ) (.inl (some (.int (bi (f5o tb ow fi sg 21 (x)))))) (σ)
  refine jr_aload_n d_Mo_fault5_72 rfl ?_
  refine jr_getf d_Mo_fault5_73 f_Mo_fault5_41 hO rfl ?_
  refine jr_bipush ((nI (24))) d_Mo_fault5_76 (by decide) ?_
  refine jr_iload_n d_Mo_fault5_78 rfl ?_
  refine jr_imulN d_Mo_fault5_79 ?_
  refine jr_iload_n d_Mo_fault5_80 rfl ?_
  refine jr_iaddN d_Mo_fault5_81 ?_
  refine jr_ialdQ (v := (x)) d_Mo_fault5_82 h33 (by omega) (by omega) (hx) ?_
  refine jr_istore d_Mo_fault5_83 (by decide) ?_
  show jl_W l G m_Mo_fault5 (0, 0) 85 [some (.ref 22), some (.int (nI m)), some (.int (nI pc)), some (.int (nI 21)), some (.int (x))] [] (σ) (.inl (some (.int (bi (f5o tb ow fi sg 21 (x)))))) (σ)
  refine jr_iload_n d_Mo_fault5_85 rfl ?_
  refine jr_iconst ((nI (1))) d_Mo_fault5_86 (by decide) ?_
  refine jr_icmp_eq 95 d_Mo_fault5_87 (by decide) (fun z => absurd z (by decide)) (fun _ => ?_)
  refine jr_iload_n d_Mo_fault5_90 rfl ?_
  refine jr_iconst ((nI (2))) d_Mo_fault5_91 (by decide) ?_
  refine jr_icmp_ne 104 d_Mo_fault5_92 (by decide) (fun _ => ?_) (fun z => absurd z (by decide))
  refine jr_iload_n d_Mo_fault5_104 rfl ?_
  refine jr_bipush ((nI (11))) d_Mo_fault5_105 (by decide) ?_
  refine jr_icmp_eq 116 d_Mo_fault5_107 (by decide) (fun z => absurd z (by decide)) (fun _ => ?_)
  refine jr_iload_n d_Mo_fault5_110 rfl ?_
  refine jr_bipush ((nI (15))) d_Mo_fault5_111 (by decide) ?_
  refine jr_icmp_ne 131 d_Mo_fault5_113 (by decide) (fun _ => ?_) (fun z => absurd z (by decide))
  refine jr_iload_n d_Mo_fault5_131 rfl ?_
  refine jr_bipush ((nI (12))) d_Mo_fault5_132 (by decide) ?_
  refine jr_icmp_eq 143 d_Mo_fault5_134 (by decide) (fun z => absurd z (by decide)) (fun _ => ?_)
  refine jr_iload_n d_Mo_fault5_137 rfl ?_
  refine jr_bipush ((nI (13))) d_Mo_fault5_138 (by decide) ?_
  refine jr_icmp_ne 183 d_Mo_fault5_140 (by decide) (fun _ => ?_) (fun z => absurd z (by decide))
  refine jr_iload_n d_Mo_fault5_183 rfl ?_
  refine jr_bipush ((nI (14))) d_Mo_fault5_184 (by decide) ?_
  refine jr_icmp_ne 224 d_Mo_fault5_186 (by decide) (fun _ => ?_) (fun z => absurd z (by decide))
  refine jr_iconst ((nI (0))) d_Mo_fault5_224 (by decide) ?_
  exact jr_zretE d_Mo_fault5_225 rfl (by decide) (bo0 (by first | (simp [f5o, outB_lt6]; done) | (simp [f5o, outB_lt6]; omega))) (rfl) (by decide) (by decide)
theorem mo_f5_r22 (hl : l.stackTraces = false) {m pc : Nat} {v : Int32} {x : Int32} (hO : MoO σ fa vf wh wy hg dp md ov oh dn an) (hw : MoW σ tb pr ow ft hs) (hu : MoM σ u1 u2 ur ul uo ua uc us ut uk) (hok : WoOk tb pr ow fi) (hsg : SgM tb pr hs u1 u2 ur sg) (hK : MoK u1 u2 ur ul uo uc us ut uk) (hm : m < 24) (hpc : pc < 24) (ho : uo (24 * m + pc) = 22) (hx : ua (24 * m + pc) = x) : jl_W l G m_Mo_fault5 (0, 0) 60 [some (.ref 22), some (.int (nI m)), some (.int (nI pc)), some (.int (v)), none] [] σ (.inl (some (.int (bi (f5o tb ow fi sg 22 (x)))))) (σ) := by
  obtain ⟨h23, h24, h25, h26, h27⟩ := id hw
  obtain ⟨h28, h29, h30, h31, h32, h33, h34, h35, h36, h37⟩ := id hu
  obtain ⟨hk1, hk2, hk3, hk4, hk5, hk6⟩ := hK.1 m hm
  refine jr_aload_n d_Mo_fault5_60 rfl ?_
  refine jr_getf d_Mo_fault5_61 f_Mo_fault5_38 hO rfl ?_
  refine jr_bipush ((nI (24))) d_Mo_fault5_64 (by decide) ?_
  refine jr_iload_n d_Mo_fault5_66 rfl ?_
  refine jr_imulN d_Mo_fault5_67 ?_
  refine jr_iload_n d_Mo_fault5_68 rfl ?_
  refine jr_iaddN d_Mo_fault5_69 ?_
  refine jr_ialdQ (v := (nI (22))) d_Mo_fault5_70 h32 (by omega) (by omega) (congrArg nI ho) ?_
  refine jr_istore_n d_Mo_fault5_71 (by decide) ?_
  show jl_W l G m_Mo_fault5 (0, 0) 72 [some (.ref 22), some (.int (nI m)), some (.int (nI pc)), some (.int (nI 22)), none] [] (σ) (.inl (some (.int (bi (f5o tb ow fi sg 22 (x)))))) (σ)
  refine jr_aload_n d_Mo_fault5_72 rfl ?_
  refine jr_getf d_Mo_fault5_73 f_Mo_fault5_41 hO rfl ?_
  refine jr_bipush ((nI (24))) d_Mo_fault5_76 (by decide) ?_
  refine jr_iload_n d_Mo_fault5_78 rfl ?_
  refine jr_imulN d_Mo_fault5_79 ?_
  refine jr_iload_n d_Mo_fault5_80 rfl ?_
  refine jr_iaddN d_Mo_fault5_81 ?_
  refine jr_ialdQ (v := (x)) d_Mo_fault5_82 h33 (by omega) (by omega) (hx) ?_
  refine jr_istore d_Mo_fault5_83 (by decide) ?_
  show jl_W l G m_Mo_fault5 (0, 0) 85 [some (.ref 22), some (.int (nI m)), some (.int (nI pc)), some (.int (nI 22)), some (.int (x))] [] (σ) (.inl (some (.int (bi (f5o tb ow fi sg 22 (x)))))) (σ)
  refine jr_iload_n d_Mo_fault5_85 rfl ?_
  refine jr_iconst ((nI (1))) d_Mo_fault5_86 (by decide) ?_
  refine jr_icmp_eq 95 d_Mo_fault5_87 (by decide) (fun z => absurd z (by decide)) (fun _ => ?_)
  refine jr_iload_n d_Mo_fault5_90 rfl ?_
  refine jr_iconst ((nI (2))) d_Mo_fault5_91 (by decide) ?_
  refine jr_icmp_ne 104 d_Mo_fault5_92 (by decide) (fun _ => ?_) (fun z => absurd z (by decide))
  refine jr_iload_n d_Mo_fault5_104 rfl ?_
  refine jr_bipush ((nI (11))) d_Mo_fault5_105 (by decide) ?_
  refine jr_icmp_eq 116 d_Mo_fault5_107 (by decide) (fun z => absurd z (by decide)) (fun _ => ?_)
  refine jr_iload_n d_Mo_fault5_110 rfl ?_
  refine jr_bipush ((nI (15))) d_Mo_fault5_111 (by decide) ?_
  refine jr_icmp_ne 131 d_Mo_fault5_113 (by decide) (fun _ => ?_) (fun z => absurd z (by decide))
  refine jr_iload_n d_Mo_fault5_131 rfl ?_
  refine jr_bipush ((nI (12))) d_Mo_fault5_132 (by decide) ?_
  refine jr_icmp_eq 143 d_Mo_fault5_134 (by decide) (fun z => absurd z (by decide)) (fun _ => ?_)
  refine jr_iload_n d_Mo_fault5_137 rfl ?_
  refine jr_bipush ((nI (13))) d_Mo_fault5_138 (by decide) ?_
  refine jr_icmp_ne 183 d_Mo_fault5_140 (by decide) (fun _ => ?_) (fun z => absurd z (by decide))
  refine jr_iload_n d_Mo_fault5_183 rfl ?_
  refine jr_bipush ((nI (14))) d_Mo_fault5_184 (by decide) ?_
  refine jr_icmp_ne 224 d_Mo_fault5_186 (by decide) (fun _ => ?_) (fun z => absurd z (by decide))
  refine jr_iconst ((nI (0))) d_Mo_fault5_224 (by decide) ?_
  exact jr_zretE d_Mo_fault5_225 rfl (by decide) (bo0 (by first | (simp [f5o, outB_lt6]; done) | (simp [f5o, outB_lt6]; omega))) (rfl) (by decide) (by decide)
theorem mo_f5_r23 (hl : l.stackTraces = false) {m pc : Nat} {v : Int32} {x : Int32} (hO : MoO σ fa vf wh wy hg dp md ov oh dn an) (hw : MoW σ tb pr ow ft hs) (hu : MoM σ u1 u2 ur ul uo ua uc us ut uk) (hok : WoOk tb pr ow fi) (hsg : SgM tb pr hs u1 u2 ur sg) (hK : MoK u1 u2 ur ul uo uc us ut uk) (hm : m < 24) (hpc : pc < 24) (ho : uo (24 * m + pc) = 23) (hx : ua (24 * m + pc) = x) : jl_W l G m_Mo_fault5 (0, 0) 60 [some (.ref 22), some (.int (nI m)), some (.int (nI pc)), some (.int (v)), none] [] σ (.inl (some (.int (bi (f5o tb ow fi sg 23 (x)))))) (σ) := by
  obtain ⟨h23, h24, h25, h26, h27⟩ := id hw
  obtain ⟨h28, h29, h30, h31, h32, h33, h34, h35, h36, h37⟩ := id hu
  obtain ⟨hk1, hk2, hk3, hk4, hk5, hk6⟩ := hK.1 m hm
  refine jr_aload_n d_Mo_fault5_60 rfl ?_
  refine jr_getf d_Mo_fault5_61 f_Mo_fault5_38 hO rfl ?_
  refine jr_bipush ((nI (24))) d_Mo_fault5_64 (by decide) ?_
  refine jr_iload_n d_Mo_fault5_66 rfl ?_
  refine jr_imulN d_Mo_fault5_67 ?_
  refine jr_iload_n d_Mo_fault5_68 rfl ?_
  refine jr_iaddN d_Mo_fault5_69 ?_
  refine jr_ialdQ (v := (nI (23))) d_Mo_fault5_70 h32 (by omega) (by omega) (congrArg nI ho) ?_
  refine jr_istore_n d_Mo_fault5_71 (by decide) ?_
  show jl_W l G m_Mo_fault5 (0, 0) 72 [some (.ref 22), some (.int (nI m)), some (.int (nI pc)), some (.int (nI 23)), none] [] (σ) (.inl (some (.int (bi (f5o tb ow fi sg 23 (x)))))) (σ)
  refine jr_aload_n d_Mo_fault5_72 rfl ?_
  refine jr_getf d_Mo_fault5_73 f_Mo_fault5_41 hO rfl ?_
  refine jr_bipush ((nI (24))) d_Mo_fault5_76 (by decide) ?_
  refine jr_iload_n d_Mo_fault5_78 rfl ?_
  refine jr_imulN d_Mo_fault5_79 ?_
  refine jr_iload_n d_Mo_fault5_80 rfl ?_
  refine jr_iaddN d_Mo_fault5_81 ?_
  refine jr_ialdQ (v := (x)) d_Mo_fault5_82 h33 (by omega) (by omega) (hx) ?_
  refine jr_istore d_Mo_fault5_83 (by decide) ?_
  show jl_W l G m_Mo_fault5 (0, 0) 85 [some (.ref 22), some (.int (nI m)), some (.int (nI pc)), some (.int (nI 23)), some (.int (x))] [] (σ) (.inl (some (.int (bi (f5o tb ow fi sg 23 (x)))))) (σ)
  refine jr_iload_n d_Mo_fault5_85 rfl ?_
  refine jr_iconst ((nI (1))) d_Mo_fault5_86 (by decide) ?_
  refine jr_icmp_eq 95 d_Mo_fault5_87 (by decide) (fun z => absurd z (by decide)) (fun _ => ?_)
  refine jr_iload_n d_Mo_fault5_90 rfl ?_
  refine jr_iconst ((nI (2))) d_Mo_fault5_91 (by decide) ?_
  refine jr_icmp_ne 104 d_Mo_fault5_92 (by decide) (fun _ => ?_) (fun z => absurd z (by decide))
  refine jr_iload_n d_Mo_fault5_104 rfl ?_
  refine jr_bipush ((nI (11))) d_Mo_fault5_105 (by decide) ?_
  refine jr_icmp_eq 116 d_Mo_fault5_107 (by decide) (fun z => absurd z (by decide)) (fun _ => ?_)
  refine jr_iload_n d_Mo_fault5_110 rfl ?_
  refine jr_bipush ((nI (15))) d_Mo_fault5_111 (by decide) ?_
  refine jr_icmp_ne 131 d_Mo_fault5_113 (by decide) (fun _ => ?_) (fun z => absurd z (by decide))
  refine jr_iload_n d_Mo_fault5_131 rfl ?_
  refine jr_bipush ((nI (12))) d_Mo_fault5_132 (by decide) ?_
  refine jr_icmp_eq 143 d_Mo_fault5_134 (by decide) (fun z => absurd z (by decide)) (fun _ => ?_)
  refine jr_iload_n d_Mo_fault5_137 rfl ?_
  refine jr_bipush ((nI (13))) d_Mo_fault5_138 (by decide) ?_
  refine jr_icmp_ne 183 d_Mo_fault5_140 (by decide) (fun _ => ?_) (fun z => absurd z (by decide))
  refine jr_iload_n d_Mo_fault5_183 rfl ?_
  refine jr_bipush ((nI (14))) d_Mo_fault5_184 (by decide) ?_
  refine jr_icmp_ne 224 d_Mo_fault5_186 (by decide) (fun _ => ?_) (fun z => absurd z (by decide))
  refine jr_iconst ((nI (0))) d_Mo_fault5_224 (by decide) ?_
  exact jr_zretE d_Mo_fault5_225 rfl (by decide) (bo0 (by first | (simp [f5o, outB_lt6]; done) | (simp [f5o, outB_lt6]; omega))) (rfl) (by decide) (by decide)
theorem mo_f5_r24 (hl : l.stackTraces = false) {m pc : Nat} {v : Int32} {x : Int32} (hO : MoO σ fa vf wh wy hg dp md ov oh dn an) (hw : MoW σ tb pr ow ft hs) (hu : MoM σ u1 u2 ur ul uo ua uc us ut uk) (hok : WoOk tb pr ow fi) (hsg : SgM tb pr hs u1 u2 ur sg) (hK : MoK u1 u2 ur ul uo uc us ut uk) (hm : m < 24) (hpc : pc < 24) (ho : uo (24 * m + pc) = 24) (hx : ua (24 * m + pc) = x) : jl_W l G m_Mo_fault5 (0, 0) 60 [some (.ref 22), some (.int (nI m)), some (.int (nI pc)), some (.int (v)), none] [] σ (.inl (some (.int (bi (f5o tb ow fi sg 24 (x)))))) (σ) := by
  obtain ⟨h23, h24, h25, h26, h27⟩ := id hw
  obtain ⟨h28, h29, h30, h31, h32, h33, h34, h35, h36, h37⟩ := id hu
  obtain ⟨hk1, hk2, hk3, hk4, hk5, hk6⟩ := hK.1 m hm
  refine jr_aload_n d_Mo_fault5_60 rfl ?_
  refine jr_getf d_Mo_fault5_61 f_Mo_fault5_38 hO rfl ?_
  refine jr_bipush ((nI (24))) d_Mo_fault5_64 (by decide) ?_
  refine jr_iload_n d_Mo_fault5_66 rfl ?_
  refine jr_imulN d_Mo_fault5_67 ?_
  refine jr_iload_n d_Mo_fault5_68 rfl ?_
  refine jr_iaddN d_Mo_fault5_69 ?_
  refine jr_ialdQ (v := (nI (24))) d_Mo_fault5_70 h32 (by omega) (by omega) (congrArg nI ho) ?_
  refine jr_istore_n d_Mo_fault5_71 (by decide) ?_
  show jl_W l G m_Mo_fault5 (0, 0) 72 [some (.ref 22), some (.int (nI m)), some (.int (nI pc)), some (.int (nI 24)), none] [] (σ) (.inl (some (.int (bi (f5o tb ow fi sg 24 (x)))))) (σ)
  refine jr_aload_n d_Mo_fault5_72 rfl ?_
  refine jr_getf d_Mo_fault5_73 f_Mo_fault5_41 hO rfl ?_
  refine jr_bipush ((nI (24))) d_Mo_fault5_76 (by decide) ?_
  refine jr_iload_n d_Mo_fault5_78 rfl ?_
  refine jr_imulN d_Mo_fault5_79 ?_
  refine jr_iload_n d_Mo_fault5_80 rfl ?_
  refine jr_iaddN d_Mo_fault5_81 ?_
  refine jr_ialdQ (v := (x)) d_Mo_fault5_82 h33 (by omega) (by omega) (hx) ?_
  refine jr_istore d_Mo_fault5_83 (by decide) ?_
  show jl_W l G m_Mo_fault5 (0, 0) 85 [some (.ref 22), some (.int (nI m)), some (.int (nI pc)), some (.int (nI 24)), some (.int (x))] [] (σ) (.inl (some (.int (bi (f5o tb ow fi sg 24 (x)))))) (σ)
  refine jr_iload_n d_Mo_fault5_85 rfl ?_
  refine jr_iconst ((nI (1))) d_Mo_fault5_86 (by decide) ?_
  refine jr_icmp_eq 95 d_Mo_fault5_87 (by decide) (fun z => absurd z (by decide)) (fun _ => ?_)
  refine jr_iload_n d_Mo_fault5_90 rfl ?_
  refine jr_iconst ((nI (2))) d_Mo_fault5_91 (by decide) ?_
  refine jr_icmp_ne 104 d_Mo_fault5_92 (by decide) (fun _ => ?_) (fun z => absurd z (by decide))
  refine jr_iload_n d_Mo_fault5_104 rfl ?_
  refine jr_bipush ((nI (11))) d_Mo_fault5_105 (by decide) ?_
  refine jr_icmp_eq 116 d_Mo_fault5_107 (by decide) (fun z => absurd z (by decide)) (fun _ => ?_)
  refine jr_iload_n d_Mo_fault5_110 rfl ?_
  refine jr_bipush ((nI (15))) d_Mo_fault5_111 (by decide) ?_
  refine jr_icmp_ne 131 d_Mo_fault5_113 (by decide) (fun _ => ?_) (fun z => absurd z (by decide))
  refine jr_iload_n d_Mo_fault5_131 rfl ?_
  refine jr_bipush ((nI (12))) d_Mo_fault5_132 (by decide) ?_
  refine jr_icmp_eq 143 d_Mo_fault5_134 (by decide) (fun z => absurd z (by decide)) (fun _ => ?_)
  refine jr_iload_n d_Mo_fault5_137 rfl ?_
  refine jr_bipush ((nI (13))) d_Mo_fault5_138 (by decide) ?_
  refine jr_icmp_ne 183 d_Mo_fault5_140 (by decide) (fun _ => ?_) (fun z => absurd z (by decide))
  refine jr_iload_n d_Mo_fault5_183 rfl ?_
  refine jr_bipush ((nI (14))) d_Mo_fault5_184 (by decide) ?_
  refine jr_icmp_ne 224 d_Mo_fault5_186 (by decide) (fun _ => ?_) (fun z => absurd z (by decide))
  refine jr_iconst ((nI (0))) d_Mo_fault5_224 (by decide) ?_
  exact jr_zretE d_Mo_fault5_225 rfl (by decide) (bo0 (by first | (simp [f5o, outB_lt6]; done) | (simp [f5o, outB_lt6]; omega))) (rfl) (by decide) (by decide)
theorem mo_f5_r25 (hl : l.stackTraces = false) {m pc : Nat} {v : Int32} {x : Int32} (hO : MoO σ fa vf wh wy hg dp md ov oh dn an) (hw : MoW σ tb pr ow ft hs) (hu : MoM σ u1 u2 ur ul uo ua uc us ut uk) (hok : WoOk tb pr ow fi) (hsg : SgM tb pr hs u1 u2 ur sg) (hK : MoK u1 u2 ur ul uo uc us ut uk) (hm : m < 24) (hpc : pc < 24) (ho : uo (24 * m + pc) = 25) (hx : ua (24 * m + pc) = x) : jl_W l G m_Mo_fault5 (0, 0) 60 [some (.ref 22), some (.int (nI m)), some (.int (nI pc)), some (.int (v)), none] [] σ (.inl (some (.int (bi (f5o tb ow fi sg 25 (x)))))) (σ) := by
  obtain ⟨h23, h24, h25, h26, h27⟩ := id hw
  obtain ⟨h28, h29, h30, h31, h32, h33, h34, h35, h36, h37⟩ := id hu
  obtain ⟨hk1, hk2, hk3, hk4, hk5, hk6⟩ := hK.1 m hm
  refine jr_aload_n d_Mo_fault5_60 rfl ?_
  refine jr_getf d_Mo_fault5_61 f_Mo_fault5_38 hO rfl ?_
  refine jr_bipush ((nI (24))) d_Mo_fault5_64 (by decide) ?_
  refine jr_iload_n d_Mo_fault5_66 rfl ?_
  refine jr_imulN d_Mo_fault5_67 ?_
  refine jr_iload_n d_Mo_fault5_68 rfl ?_
  refine jr_iaddN d_Mo_fault5_69 ?_
  refine jr_ialdQ (v := (nI (25))) d_Mo_fault5_70 h32 (by omega) (by omega) (congrArg nI ho) ?_
  refine jr_istore_n d_Mo_fault5_71 (by decide) ?_
  show jl_W l G m_Mo_fault5 (0, 0) 72 [some (.ref 22), some (.int (nI m)), some (.int (nI pc)), some (.int (nI 25)), none] [] (σ) (.inl (some (.int (bi (f5o tb ow fi sg 25 (x)))))) (σ)
  refine jr_aload_n d_Mo_fault5_72 rfl ?_
  refine jr_getf d_Mo_fault5_73 f_Mo_fault5_41 hO rfl ?_
  refine jr_bipush ((nI (24))) d_Mo_fault5_76 (by decide) ?_
  refine jr_iload_n d_Mo_fault5_78 rfl ?_
  refine jr_imulN d_Mo_fault5_79 ?_
  refine jr_iload_n d_Mo_fault5_80 rfl ?_
  refine jr_iaddN d_Mo_fault5_81 ?_
  refine jr_ialdQ (v := (x)) d_Mo_fault5_82 h33 (by omega) (by omega) (hx) ?_
  refine jr_istore d_Mo_fault5_83 (by decide) ?_
  show jl_W l G m_Mo_fault5 (0, 0) 85 [some (.ref 22), some (.int (nI m)), some (.int (nI pc)), some (.int (nI 25)), some (.int (x))] [] (σ) (.inl (some (.int (bi (f5o tb ow fi sg 25 (x)))))) (σ)
  refine jr_iload_n d_Mo_fault5_85 rfl ?_
  refine jr_iconst ((nI (1))) d_Mo_fault5_86 (by decide) ?_
  refine jr_icmp_eq 95 d_Mo_fault5_87 (by decide) (fun z => absurd z (by decide)) (fun _ => ?_)
  refine jr_iload_n d_Mo_fault5_90 rfl ?_
  refine jr_iconst ((nI (2))) d_Mo_fault5_91 (by decide) ?_
  refine jr_icmp_ne 104 d_Mo_fault5_92 (by decide) (fun _ => ?_) (fun z => absurd z (by decide))
  refine jr_iload_n d_Mo_fault5_104 rfl ?_
  refine jr_bipush ((nI (11))) d_Mo_fault5_105 (by decide) ?_
  refine jr_icmp_eq 116 d_Mo_fault5_107 (by decide) (fun z => absurd z (by decide)) (fun _ => ?_)
  refine jr_iload_n d_Mo_fault5_110 rfl ?_
  refine jr_bipush ((nI (15))) d_Mo_fault5_111 (by decide) ?_
  refine jr_icmp_ne 131 d_Mo_fault5_113 (by decide) (fun _ => ?_) (fun z => absurd z (by decide))
  refine jr_iload_n d_Mo_fault5_131 rfl ?_
  refine jr_bipush ((nI (12))) d_Mo_fault5_132 (by decide) ?_
  refine jr_icmp_eq 143 d_Mo_fault5_134 (by decide) (fun z => absurd z (by decide)) (fun _ => ?_)
  refine jr_iload_n d_Mo_fault5_137 rfl ?_
  refine jr_bipush ((nI (13))) d_Mo_fault5_138 (by decide) ?_
  refine jr_icmp_ne 183 d_Mo_fault5_140 (by decide) (fun _ => ?_) (fun z => absurd z (by decide))
  refine jr_iload_n d_Mo_fault5_183 rfl ?_
  refine jr_bipush ((nI (14))) d_Mo_fault5_184 (by decide) ?_
  refine jr_icmp_ne 224 d_Mo_fault5_186 (by decide) (fun _ => ?_) (fun z => absurd z (by decide))
  refine jr_iconst ((nI (0))) d_Mo_fault5_224 (by decide) ?_
  exact jr_zretE d_Mo_fault5_225 rfl (by decide) (bo0 (by first | (simp [f5o, outB_lt6]; done) | (simp [f5o, outB_lt6]; omega))) (rfl) (by decide) (by decide)
theorem mo_f5_t (hl : l.stackTraces = false) {m pc o : Nat} {v x : Int32} (hO : MoO σ fa vf wh wy hg dp md ov oh dn an) (hw : MoW σ tb pr ow ft hs) (hu : MoM σ u1 u2 ur ul uo ua uc us ut uk) (hok : WoOk tb pr ow fi) (hsg : SgM tb pr hs u1 u2 ur sg) (hK : MoK u1 u2 ur ul uo uc us ut uk) (hm : m < 24) (hpc : pc < 24) (ho : uo (24 * m + pc) = o) (hx : ua (24 * m + pc) = x) : jl_W l G m_Mo_fault5 (0, 0) 60 [some (.ref 22), some (.int (nI m)), some (.int (nI pc)), some (.int v), none] [] σ (.inl (some (.int (bi (f5o tb ow fi sg o x))))) σ := by
  have ho26 : o < 26 := ho ▸ hK.2.1 _ (by omega)
  have hq : o = 0 ∨ o = 1 ∨ o = 2 ∨ o = 3 ∨ o = 4 ∨ o = 5 ∨ o = 6 ∨ o = 7 ∨ o = 8 ∨ o = 9 ∨ o = 10 ∨ o = 11 ∨ o = 12 ∨ o = 13 ∨ o = 14 ∨ o = 15 ∨ o = 16 ∨ o = 17 ∨ o = 18 ∨ o = 19 ∨ o = 20 ∨ o = 21 ∨ o = 22 ∨ o = 23 ∨ o = 24 ∨ o = 25 := by omega
  rcases hq with hoo | hoo | hoo | hoo | hoo | hoo | hoo | hoo | hoo | hoo | hoo | hoo | hoo | hoo | hoo | hoo | hoo | hoo | hoo | hoo | hoo | hoo | hoo | hoo | hoo | hoo
  · exact jl_oeq (by rw [hoo]) (mo_f5_r0 hl hO hw hu hok hsg hK hm hpc (ho.trans hoo) hx)
  · exact jl_oeq (by rw [hoo]) (mo_f5_r1 hl hO hw hu hok hsg hK hm hpc (ho.trans hoo) hx)
  · exact jl_oeq (by rw [hoo]) (mo_f5_r2 hl hO hw hu hok hsg hK hm hpc (ho.trans hoo) hx)
  · exact jl_oeq (by rw [hoo]) (mo_f5_r3 hl hO hw hu hok hsg hK hm hpc (ho.trans hoo) hx)
  · exact jl_oeq (by rw [hoo]) (mo_f5_r4 hl hO hw hu hok hsg hK hm hpc (ho.trans hoo) hx)
  · exact jl_oeq (by rw [hoo]) (mo_f5_r5 hl hO hw hu hok hsg hK hm hpc (ho.trans hoo) hx)
  · exact jl_oeq (by rw [hoo]) (mo_f5_r6 hl hO hw hu hok hsg hK hm hpc (ho.trans hoo) hx)
  · exact jl_oeq (by rw [hoo]) (mo_f5_r7 hl hO hw hu hok hsg hK hm hpc (ho.trans hoo) hx)
  · exact jl_oeq (by rw [hoo]) (mo_f5_r8 hl hO hw hu hok hsg hK hm hpc (ho.trans hoo) hx)
  · exact jl_oeq (by rw [hoo]) (mo_f5_r9 hl hO hw hu hok hsg hK hm hpc (ho.trans hoo) hx)
  · exact jl_oeq (by rw [hoo]) (mo_f5_r10 hl hO hw hu hok hsg hK hm hpc (ho.trans hoo) hx)
  · exact jl_oeq (by rw [hoo]) (mo_f5_r11 hl hO hw hu hok hsg hK hm hpc (ho.trans hoo) hx)
  · by_cases hneg : x < 0
    · exact jl_oeq (by rw [hoo]) (mo_f5_g12 hl hO hw hu hok hsg hK hm hpc (ho.trans hoo) hx hneg)
    · obtain ⟨n, hn, e⟩ := nI_ofx hneg
      subst e
      exact jl_oeq (by rw [hoo]) (mo_f5_n12 hl hO hw hu hok hsg hK hm hpc (ho.trans hoo) hx hn)
  · by_cases hneg : x < 0
    · exact jl_oeq (by rw [hoo]) (mo_f5_g13 hl hO hw hu hok hsg hK hm hpc (ho.trans hoo) hx hneg)
    · obtain ⟨n, hn, e⟩ := nI_ofx hneg
      subst e
      exact jl_oeq (by rw [hoo]) (mo_f5_n13 hl hO hw hu hok hsg hK hm hpc (ho.trans hoo) hx hn)
  · by_cases hneg : x < 0
    · exact jl_oeq (by rw [hoo]) (mo_f5_g14 hl hO hw hu hok hsg hK hm hpc (ho.trans hoo) hx hneg)
    · obtain ⟨n, hn, e⟩ := nI_ofx hneg
      subst e
      exact jl_oeq (by rw [hoo]) (mo_f5_n14 hl hO hw hu hok hsg hK hm hpc (ho.trans hoo) hx hn)
  · exact jl_oeq (by rw [hoo]) (mo_f5_r15 hl hO hw hu hok hsg hK hm hpc (ho.trans hoo) hx)
  · exact jl_oeq (by rw [hoo]) (mo_f5_r16 hl hO hw hu hok hsg hK hm hpc (ho.trans hoo) hx)
  · exact jl_oeq (by rw [hoo]) (mo_f5_r17 hl hO hw hu hok hsg hK hm hpc (ho.trans hoo) hx)
  · exact jl_oeq (by rw [hoo]) (mo_f5_r18 hl hO hw hu hok hsg hK hm hpc (ho.trans hoo) hx)
  · exact jl_oeq (by rw [hoo]) (mo_f5_r19 hl hO hw hu hok hsg hK hm hpc (ho.trans hoo) hx)
  · exact jl_oeq (by rw [hoo]) (mo_f5_r20 hl hO hw hu hok hsg hK hm hpc (ho.trans hoo) hx)
  · exact jl_oeq (by rw [hoo]) (mo_f5_r21 hl hO hw hu hok hsg hK hm hpc (ho.trans hoo) hx)
  · exact jl_oeq (by rw [hoo]) (mo_f5_r22 hl hO hw hu hok hsg hK hm hpc (ho.trans hoo) hx)
  · exact jl_oeq (by rw [hoo]) (mo_f5_r23 hl hO hw hu hok hsg hK hm hpc (ho.trans hoo) hx)
  · exact jl_oeq (by rw [hoo]) (mo_f5_r24 hl hO hw hu hok hsg hK hm hpc (ho.trans hoo) hx)
  · exact jl_oeq (by rw [hoo]) (mo_f5_r25 hl hO hw hu hok hsg hK hm hpc (ho.trans hoo) hx)
theorem d_Mo_fault5_4 : decode m_Mo_fault5.2.1 4 = .ok (.iload_n 3, 1) := by decide +kernel
theorem d_Mo_fault5_5 : decode m_Mo_fault5.2.1 5 = .ok (.iconst 2, 1) := by decide +kernel
theorem d_Mo_fault5_6 : decode m_Mo_fault5.2.1 6 = .ok (.iload_n 1, 1) := by decide +kernel
theorem d_Mo_fault5_7 : decode m_Mo_fault5.2.1 7 = .ok (.imul, 1) := by decide +kernel
theorem d_Mo_fault5_8 : decode m_Mo_fault5.2.1 8 = .ok (.aload_n 0, 1) := by decide +kernel
theorem f_Mo_fault5_44 : jl_fd m_Mo_fault5 44 7 12 = true := by decide +kernel
theorem d_Mo_fault5_9 : decode m_Mo_fault5.2.1 9 = .ok (.getfield 44, 3) := by decide +kernel
theorem d_Mo_fault5_12 : decode m_Mo_fault5.2.1 12 = .ok (.iload_n 1, 1) := by decide +kernel
theorem d_Mo_fault5_13 : decode m_Mo_fault5.2.1 13 = .ok (.iaload, 1) := by decide +kernel
theorem d_Mo_fault5_14 : decode m_Mo_fault5.2.1 14 = .ok (.iadd, 1) := by decide +kernel
theorem d_Mo_fault5_15 : decode m_Mo_fault5.2.1 15 = .ok (.if_icmp .ge 45, 3) := by decide +kernel
theorem d_Mo_fault5_18 : decode m_Mo_fault5.2.1 18 = .ok (.aload_n 0, 1) := by decide +kernel
theorem d_Mo_fault5_19 : decode m_Mo_fault5.2.1 19 = .ok (.iload_n 3, 1) := by decide +kernel
theorem d_Mo_fault5_20 : decode m_Mo_fault5.2.1 20 = .ok (.iload_n 2, 1) := by decide +kernel
theorem k_Mo_fault5_145 : jl_cv m_Mo_fault5 m_Mo_around 145 2 = true := by decide +kernel
theorem d_Mo_fault5_21 : decode m_Mo_fault5.2.1 21 = .ok (.invokevirtual 145, 3) := by decide +kernel
theorem d_Mo_fault5_24 : decode m_Mo_fault5.2.1 24 = .ok (.ifCond .eq 30, 3) := by decide +kernel
theorem d_Mo_fault5_54 : decode m_Mo_fault5.2.1 54 = .ok (.iinc 3 1, 3) := by decide +kernel
theorem d_Mo_fault5_57 : decode m_Mo_fault5.2.1 57 = .ok (.goto (-53), 3) := by decide +kernel
theorem d_Mo_fault5_27 : decode m_Mo_fault5.2.1 27 = .ok (.aload_n 0, 1) := by decide +kernel
theorem f_Mo_fault5_53 : jl_fd m_Mo_fault5 53 7 15 = true := by decide +kernel
theorem d_Mo_fault5_28 : decode m_Mo_fault5.2.1 28 = .ok (.getfield 53, 3) := by decide +kernel
theorem d_Mo_fault5_31 : decode m_Mo_fault5.2.1 31 = .ok (.iload_n 3, 1) := by decide +kernel
theorem d_Mo_fault5_32 : decode m_Mo_fault5.2.1 32 = .ok (.iaload, 1) := by decide +kernel
theorem d_Mo_fault5_33 : decode m_Mo_fault5.2.1 33 = .ok (.bipush 6, 2) := by decide +kernel
theorem d_Mo_fault5_35 : decode m_Mo_fault5.2.1 35 = .ok (.if_icmp .ge 19, 3) := by decide +kernel
theorem d_Mo_fault5_38 : decode m_Mo_fault5.2.1 38 = .ok (.aload_n 0, 1) := by decide +kernel
theorem f_Mo_fault5_7 : jl_fd m_Mo_fault5 7 7 1 = true := by decide +kernel
theorem d_Mo_fault5_39 : decode m_Mo_fault5.2.1 39 = .ok (.getfield 7, 3) := by decide +kernel
theorem d_Mo_fault5_42 : decode m_Mo_fault5.2.1 42 = .ok (.aload_n 0, 1) := by decide +kernel
theorem d_Mo_fault5_43 : decode m_Mo_fault5.2.1 43 = .ok (.getfield 53, 3) := by decide +kernel
theorem d_Mo_fault5_46 : decode m_Mo_fault5.2.1 46 = .ok (.iload_n 3, 1) := by decide +kernel
theorem d_Mo_fault5_47 : decode m_Mo_fault5.2.1 47 = .ok (.iaload, 1) := by decide +kernel
theorem d_Mo_fault5_48 : decode m_Mo_fault5.2.1 48 = .ok (.baload, 1) := by decide +kernel
theorem d_Mo_fault5_49 : decode m_Mo_fault5.2.1 49 = .ok (.ifCond .ne 5, 3) := by decide +kernel
theorem d_Mo_fault5_52 : decode m_Mo_fault5.2.1 52 = .ok (.iconst 1, 1) := by decide +kernel
theorem d_Mo_fault5_53 : decode m_Mo_fault5.2.1 53 = .ok (.ireturn, 1) := by decide +kernel
theorem mo_f5_loop (hl : l.stackTraces = false) {m pc o : Nat} {x : Int32} (hO : MoO σ fa vf wh wy hg dp md ov oh dn an) (hw : MoW σ tb pr ow ft hs) (hu : MoM σ u1 u2 ur ul uo ua uc us ut uk) (hok : WoOk tb pr ow fi) (hsg : SgM tb pr hs u1 u2 ur sg) (hK : MoK u1 u2 ur ul uo uc us ut uk) (hm : m < 24) (hpc : pc < 24) (ho : uo (24 * m + pc) = o) (hx : ua (24 * m + pc) = x) : ∀ (nn : Nat) (i : Nat), uc m - i < nn → i ≤ uc m → jl_W l G m_Mo_fault5 (0, 0) 4 [some (.ref 22), some (.int (nI m)), some (.int (nI pc)), some (.int (nI (2 * m + i))), none] [] σ (.inl (some (.int (bi (anyC (fun i => aroU us (2 * m + i) pc && (decide (uk (2 * m + i) ≠ 6) && !hasI tb (nI (uk (2 * m + i))))) (uc m - i) i || f5o tb ow fi sg o x))))) (σ) := by
  obtain ⟨h23, h24, h25, h26, h27⟩ := id hw
  obtain ⟨h28, h29, h30, h31, h32, h33, h34, h35, h36, h37⟩ := id hu
  obtain ⟨hk1, hk2, hk3, hk4, hk5, hk6⟩ := hK.1 m hm
  intro nn
  induction nn with
  | zero => intro i hnn; exact absurd hnn (Nat.not_lt_zero _)
  | succ nn ihn =>
    intro i hnn hi
    refine jr_iload_n d_Mo_fault5_4 rfl ?_
    refine jr_iconst ((nI (2))) d_Mo_fault5_5 (by decide) ?_
    refine jr_iload_n d_Mo_fault5_6 rfl ?_
    refine jr_imulN d_Mo_fault5_7 ?_
    refine jr_aload_n d_Mo_fault5_8 rfl ?_
    refine jr_getf d_Mo_fault5_9 f_Mo_fault5_44 hO rfl ?_
    refine jr_iload_n d_Mo_fault5_12 rfl ?_
    refine jr_ialdN d_Mo_fault5_13 h34 (by omega) (by omega) ?_
    refine jr_iaddN d_Mo_fault5_14 ?_
    refine jr_icmp_geN 60 d_Mo_fault5_15 (by decide) (by omega) (by omega) (fun c1 => ?_) (fun c1 => ?_)
    · exact jl_oeq (by rw [show uc m - i = 0 by omega]; simp [anyC]) (mo_f5_t hl hO hw hu hok hsg hK hm hpc ho hx)
    · refine jr_aload_n d_Mo_fault5_18 rfl ?_
      refine jr_iload_n d_Mo_fault5_19 rfl ?_
      refine jr_iload_n d_Mo_fault5_20 rfl ?_
      refine jr_callV (As := [.int (nI (2 * m + i)), .int (nI pc)]) d_Mo_fault5_21 k_Mo_fault5_145 hO rfl rfl rfl (Nat.le_of_ble_eq_true rfl) (by decide) (by decide) (mo_around hl hO hw hu (by omega) (by omega) (hK.2.2 _ (by omega)).1) ?_
      show jl_W l G m_Mo_fault5 (0, 0) 24 [some (.ref 22), some (.int (nI m)), some (.int (nI pc)), some (.int (nI (2 * m + i))), none] [.int (bi (aroU us (2 * m + i) (pc)))] (σ) (.inl (some (.int (bi (anyC (fun i => aroU us (2 * m + i) pc && (decide (uk (2 * m + i) ≠ 6) && !hasI tb (nI (uk (2 * m + i))))) (uc m - i) i || f5o tb ow fi sg o x))))) (σ)
      refine jr_if_eq 54 d_Mo_fault5_24 (by decide) (fun c2 => ?_) (fun c2 => ?_)
      · refine jr_iinc ((nI (2 * m + i + 1))) d_Mo_fault5_54 (by decide) rfl (jl_inc _) ?_
        show jl_W l G m_Mo_fault5 (0, 0) 57 [some (.ref 22), some (.int (nI m)), some (.int (nI pc)), some (.int (nI (2 * m + i + 1))), none] [] (σ) (.inl (some (.int (bi (anyC (fun i => aroU us (2 * m + i) pc && (decide (uk (2 * m + i) ≠ 6) && !hasI tb (nI (uk (2 * m + i))))) (uc m - i) i || f5o tb ow fi sg o x))))) (σ)
        refine jr_goto 4 d_Mo_fault5_57 (by decide) ?_
        exact jl_oeq (by rw [show uc m - i = (uc m - (i + 1)) + 1 by omega]; simp [anyC, bi_0.mp c2]) (ihn (i + 1) (by omega) (by omega))
      · have hki := (hK.2.2 (2 * m + i) (by omega)).2.2
        refine jr_aload_n d_Mo_fault5_27 rfl ?_
        refine jr_getf d_Mo_fault5_28 f_Mo_fault5_53 hO rfl ?_
        refine jr_iload_n d_Mo_fault5_31 rfl ?_
        refine jr_ialdN d_Mo_fault5_32 h37 (by omega) (by omega) ?_
        refine jr_bipush ((nI (6))) d_Mo_fault5_33 (by decide) ?_
        refine jr_icmp_geN 54 d_Mo_fault5_35 (by decide) (by omega) (by omega) (fun c3 => ?_) (fun c3 => ?_)
        · refine jr_iinc ((nI (2 * m + i + 1))) d_Mo_fault5_54 (by decide) rfl (jl_inc _) ?_
          show jl_W l G m_Mo_fault5 (0, 0) 57 [some (.ref 22), some (.int (nI m)), some (.int (nI pc)), some (.int (nI (2 * m + i + 1))), none] [] (σ) (.inl (some (.int (bi (anyC (fun i => aroU us (2 * m + i) pc && (decide (uk (2 * m + i) ≠ 6) && !hasI tb (nI (uk (2 * m + i))))) (uc m - i) i || f5o tb ow fi sg o x))))) (σ)
          refine jr_goto 4 d_Mo_fault5_57 (by decide) ?_
          exact jl_oeq (by rw [show uc m - i = (uc m - (i + 1)) + 1 by omega]; simp [anyC, show uk (2 * m + i) = 6 by omega]) (ihn (i + 1) (by omega) (by omega))
        · refine jr_aload_n d_Mo_fault5_38 rfl ?_
          refine jr_getf d_Mo_fault5_39 f_Mo_fault5_7 hO rfl ?_
          refine jr_aload_n d_Mo_fault5_42 rfl ?_
          refine jr_getf d_Mo_fault5_43 f_Mo_fault5_53 hO rfl ?_
          refine jr_iload_n d_Mo_fault5_46 rfl ?_
          refine jr_ialdN d_Mo_fault5_47 h37 (by omega) (by omega) ?_
          refine jr_baldN d_Mo_fault5_48 h23 (by omega) (by omega) ?_
          refine jr_if_ne 54 d_Mo_fault5_49 (by decide) (fun c4 => ?_) (fun c4 => ?_)
          · refine jr_iinc ((nI (2 * m + i + 1))) d_Mo_fault5_54 (by decide) rfl (jl_inc _) ?_
            show jl_W l G m_Mo_fault5 (0, 0) 57 [some (.ref 22), some (.int (nI m)), some (.int (nI pc)), some (.int (nI (2 * m + i + 1))), none] [] (σ) (.inl (some (.int (bi (anyC (fun i => aroU us (2 * m + i) pc && (decide (uk (2 * m + i) ≠ 6) && !hasI tb (nI (uk (2 * m + i))))) (uc m - i) i || f5o tb ow fi sg o x))))) (σ)
            refine jr_goto 4 d_Mo_fault5_57 (by decide) ?_
            exact jl_oeq (by rw [show uc m - i = (uc m - (i + 1)) + 1 by omega]; simp [anyC, hasI_n (show uk (2 * m + i) < 6 by omega), bi_nf c4]) (ihn (i + 1) (by omega) (by omega))
          · refine jr_iconst ((nI (1))) d_Mo_fault5_52 (by decide) ?_
            exact jr_zretE d_Mo_fault5_53 rfl (by decide) (by rw [show uc m - i = (uc m - (i + 1)) + 1 by omega]; exact bo1 (by simp [anyC, hasI_n (show uk (2 * m + i) < 6 by omega), show uk (2 * m + i) ≠ 6 by omega, bi_nf c2, bi_0.mp c4])) (rfl) (by decide) (by decide)
theorem d_Mo_fault5_0 : decode m_Mo_fault5.2.1 0 = .ok (.iconst 2, 1) := by decide +kernel
theorem d_Mo_fault5_1 : decode m_Mo_fault5.2.1 1 = .ok (.iload_n 1, 1) := by decide +kernel
theorem d_Mo_fault5_2 : decode m_Mo_fault5.2.1 2 = .ok (.imul, 1) := by decide +kernel
theorem d_Mo_fault5_3 : decode m_Mo_fault5.2.1 3 = .ok (.istore_n 3, 1) := by decide +kernel
theorem mo_fault5 (hl : l.stackTraces = false) {m pc o : Nat} {x : Int32} (hO : MoO σ fa vf wh wy hg dp md ov oh dn an) (hw : MoW σ tb pr ow ft hs) (hu : MoM σ u1 u2 ur ul uo ua uc us ut uk) (hok : WoOk tb pr ow fi) (hsg : SgM tb pr hs u1 u2 ur sg) (hK : MoK u1 u2 ur ul uo uc us ut uk) (hm : m < 24) (hpc : pc < 24) (ho : uo (24 * m + pc) = o) (hx : ua (24 * m + pc) = x) : jl_m l G m_Mo_fault5 [.ref 22, .int (nI m), .int (nI pc)] σ (.inl (some (.int (bi (f5 tb ow fi sg o x (fun i => us (2 * m + i) / 32) (fun i => us (2 * m + i) % 32) (fun i => uk (2 * m + i)) (uc m) pc))))) (σ) := by
  obtain ⟨h23, h24, h25, h26, h27⟩ := id hw
  obtain ⟨h28, h29, h30, h31, h32, h33, h34, h35, h36, h37⟩ := id hu
  obtain ⟨hk1, hk2, hk3, hk4, hk5, hk6⟩ := hK.1 m hm
  refine jl_of (as := [.ref 22, .int (nI m), .int (nI pc)]) rfl (by decide) hl (jl_cc rfl (jl_cc rfl (jl_cc rfl jl_ca))) (Nat.le_of_ble_eq_true rfl) ?_
  show jl_W l G m_Mo_fault5 (0, 0) 0 [some (.ref 22), some (.int (nI m)), some (.int (nI pc)), none, none] [] (σ) (.inl (some (.int (bi (f5 tb ow fi sg o x (fun i => us (2 * m + i) / 32) (fun i => us (2 * m + i) % 32) (fun i => uk (2 * m + i)) (uc m) pc))))) (σ)
  refine jr_iconst ((nI (2))) d_Mo_fault5_0 (by decide) ?_
  refine jr_iload_n d_Mo_fault5_1 rfl ?_
  refine jr_imulN d_Mo_fault5_2 ?_
  refine jr_istore_n d_Mo_fault5_3 (by decide) ?_
  show jl_W l G m_Mo_fault5 (0, 0) 4 [some (.ref 22), some (.int (nI m)), some (.int (nI pc)), some (.int (nI ((2) * (m)))), none] [] (σ) (.inl (some (.int (bi (f5 tb ow fi sg o x (fun i => us (2 * m + i) / 32) (fun i => us (2 * m + i) % 32) (fun i => uk (2 * m + i)) (uc m) pc))))) (σ)
  exact mo_f5_loop hl hO hw hu hok hsg hK hm hpc ho hx (uc m + 1) 0 (by omega) (by omega)
theorem d_Mo_takes_0 : decode m_Mo_takes.2.1 0 = .ok (.iload_n 1, 1) := by decide +kernel
theorem d_Mo_takes_1 : decode m_Mo_takes.2.1 1 = .ok (.bipush 14, 2) := by decide +kernel
theorem d_Mo_takes_3 : decode m_Mo_takes.2.1 3 = .ok (.if_icmp .ne 20, 3) := by decide +kernel
theorem d_Mo_takes_23 : decode m_Mo_takes.2.1 23 = .ok (.iload_n 1, 1) := by decide +kernel
theorem d_Mo_takes_24 : decode m_Mo_takes.2.1 24 = .ok (.ifCond .eq 26, 3) := by decide +kernel
theorem d_Mo_takes_50 : decode m_Mo_takes.2.1 50 = .ok (.iconst 0, 1) := by decide +kernel
theorem d_Mo_takes_51 : decode m_Mo_takes.2.1 51 = .ok (.ireturn, 1) := by decide +kernel
theorem mo_tk_0 (hl : l.stackTraces = false) {x : Int32} (hO : MoO σ fa vf wh wy hg dp md ov oh dn an) (hw : MoW σ tb pr ow ft hs) (hu : MoM σ u1 u2 ur ul uo ua uc us ut uk)   : jl_m l G m_Mo_takes [.ref 22, .int (nI 0), .int (x)] σ (.inl (some (.int (nI (tk0 0))))) (σ) := by
  obtain ⟨h23, h24, h25, h26, h27⟩ := id hw
  obtain ⟨h28, h29, h30, h31, h32, h33, h34, h35, h36, h37⟩ := id hu
  refine jl_of (as := [.ref 22, .int (nI 0), .int (x)]) rfl (by decide) hl (jl_cc rfl (jl_cc rfl (jl_cc rfl jl_ca))) (Nat.le_of_ble_eq_true rfl) ?_
  show jl_W l G m_Mo_takes (0, 0) 0 [some (.ref 22), some (.int (nI 0)), some (.int (x))] [] (σ) (.inl (some (.int (nI (tk0 0))))) (σ)
  refine jr_iload_n d_Mo_takes_0 rfl ?_
  refine jr_bipush ((nI (14))) d_Mo_takes_1 (by decide) ?_
  refine jr_icmp_ne 23 d_Mo_takes_3 (by decide) (fun _ => ?_) (fun z => absurd z (by decide))
  refine jr_iload_n d_Mo_takes_23 rfl ?_
  refine jr_if_eq 50 d_Mo_takes_24 (by decide) (fun _ => ?_) (fun z => absurd (by decide) z)
  refine jr_iconst ((nI (0))) d_Mo_takes_50 (by decide) ?_
  exact jr_iretE d_Mo_takes_51 rfl (rfl) (rfl) (by decide) (by decide)
theorem d_Mo_takes_27 : decode m_Mo_takes.2.1 27 = .ok (.iload_n 1, 1) := by decide +kernel
theorem d_Mo_takes_28 : decode m_Mo_takes.2.1 28 = .ok (.iconst 1, 1) := by decide +kernel
theorem d_Mo_takes_29 : decode m_Mo_takes.2.1 29 = .ok (.if_icmp .eq 21, 3) := by decide +kernel
theorem mo_tk_1 (hl : l.stackTraces = false) {x : Int32} (hO : MoO σ fa vf wh wy hg dp md ov oh dn an) (hw : MoW σ tb pr ow ft hs) (hu : MoM σ u1 u2 ur ul uo ua uc us ut uk)   : jl_m l G m_Mo_takes [.ref 22, .int (nI 1), .int (x)] σ (.inl (some (.int (nI (tk0 1))))) (σ) := by
  obtain ⟨h23, h24, h25, h26, h27⟩ := id hw
  obtain ⟨h28, h29, h30, h31, h32, h33, h34, h35, h36, h37⟩ := id hu
  refine jl_of (as := [.ref 22, .int (nI 1), .int (x)]) rfl (by decide) hl (jl_cc rfl (jl_cc rfl (jl_cc rfl jl_ca))) (Nat.le_of_ble_eq_true rfl) ?_
  show jl_W l G m_Mo_takes (0, 0) 0 [some (.ref 22), some (.int (nI 1)), some (.int (x))] [] (σ) (.inl (some (.int (nI (tk0 1))))) (σ)
  refine jr_iload_n d_Mo_takes_0 rfl ?_
  refine jr_bipush ((nI (14))) d_Mo_takes_1 (by decide) ?_
  refine jr_icmp_ne 23 d_Mo_takes_3 (by decide) (fun _ => ?_) (fun z => absurd z (by decide))
  refine jr_iload_n d_Mo_takes_23 rfl ?_
  refine jr_if_eq 50 d_Mo_takes_24 (by decide) (fun z => absurd z (by decide)) (fun _ => ?_)
  refine jr_iload_n d_Mo_takes_27 rfl ?_
  refine jr_iconst ((nI (1))) d_Mo_takes_28 (by decide) ?_
  refine jr_icmp_eq 50 d_Mo_takes_29 (by decide) (fun _ => ?_) (fun z => absurd (by decide) z)
  refine jr_iconst ((nI (0))) d_Mo_takes_50 (by decide) ?_
  exact jr_iretE d_Mo_takes_51 rfl (rfl) (rfl) (by decide) (by decide)
theorem d_Mo_takes_32 : decode m_Mo_takes.2.1 32 = .ok (.iload_n 1, 1) := by decide +kernel
theorem d_Mo_takes_33 : decode m_Mo_takes.2.1 33 = .ok (.bipush 7, 2) := by decide +kernel
theorem d_Mo_takes_35 : decode m_Mo_takes.2.1 35 = .ok (.if_icmp .eq 15, 3) := by decide +kernel
theorem d_Mo_takes_38 : decode m_Mo_takes.2.1 38 = .ok (.iload_n 1, 1) := by decide +kernel
theorem d_Mo_takes_39 : decode m_Mo_takes.2.1 39 = .ok (.bipush 10, 2) := by decide +kernel
theorem d_Mo_takes_41 : decode m_Mo_takes.2.1 41 = .ok (.if_icmp .eq 9, 3) := by decide +kernel
theorem d_Mo_takes_44 : decode m_Mo_takes.2.1 44 = .ok (.iload_n 1, 1) := by decide +kernel
theorem d_Mo_takes_45 : decode m_Mo_takes.2.1 45 = .ok (.bipush 11, 2) := by decide +kernel
theorem d_Mo_takes_47 : decode m_Mo_takes.2.1 47 = .ok (.if_icmp .ne 5, 3) := by decide +kernel
theorem d_Mo_takes_52 : decode m_Mo_takes.2.1 52 = .ok (.iload_n 1, 1) := by decide +kernel
theorem d_Mo_takes_53 : decode m_Mo_takes.2.1 53 = .ok (.iconst 3, 1) := by decide +kernel
theorem d_Mo_takes_54 : decode m_Mo_takes.2.1 54 = .ok (.if_icmp .lt 9, 3) := by decide +kernel
theorem d_Mo_takes_63 : decode m_Mo_takes.2.1 63 = .ok (.iload_n 1, 1) := by decide +kernel
theorem d_Mo_takes_64 : decode m_Mo_takes.2.1 64 = .ok (.bipush 9, 2) := by decide +kernel
theorem d_Mo_takes_66 : decode m_Mo_takes.2.1 66 = .ok (.if_icmp .eq 21, 3) := by decide +kernel
theorem d_Mo_takes_69 : decode m_Mo_takes.2.1 69 = .ok (.iload_n 1, 1) := by decide +kernel
theorem d_Mo_takes_70 : decode m_Mo_takes.2.1 70 = .ok (.bipush 13, 2) := by decide +kernel
theorem d_Mo_takes_72 : decode m_Mo_takes.2.1 72 = .ok (.if_icmp .eq 15, 3) := by decide +kernel
theorem d_Mo_takes_75 : decode m_Mo_takes.2.1 75 = .ok (.iload_n 1, 1) := by decide +kernel
theorem d_Mo_takes_76 : decode m_Mo_takes.2.1 76 = .ok (.bipush 20, 2) := by decide +kernel
theorem d_Mo_takes_78 : decode m_Mo_takes.2.1 78 = .ok (.if_icmp .eq 9, 3) := by decide +kernel
theorem d_Mo_takes_81 : decode m_Mo_takes.2.1 81 = .ok (.iload_n 1, 1) := by decide +kernel
theorem d_Mo_takes_82 : decode m_Mo_takes.2.1 82 = .ok (.bipush 25, 2) := by decide +kernel
theorem d_Mo_takes_84 : decode m_Mo_takes.2.1 84 = .ok (.if_icmp .ne 5, 3) := by decide +kernel
theorem d_Mo_takes_89 : decode m_Mo_takes.2.1 89 = .ok (.iload_n 1, 1) := by decide +kernel
theorem d_Mo_takes_90 : decode m_Mo_takes.2.1 90 = .ok (.bipush 21, 2) := by decide +kernel
theorem d_Mo_takes_92 : decode m_Mo_takes.2.1 92 = .ok (.if_icmp .ne 7, 3) := by decide +kernel
theorem d_Mo_takes_99 : decode m_Mo_takes.2.1 99 = .ok (.iconst 1, 1) := by decide +kernel
theorem d_Mo_takes_100 : decode m_Mo_takes.2.1 100 = .ok (.ireturn, 1) := by decide +kernel
theorem mo_tk_2 (hl : l.stackTraces = false) {x : Int32} (hO : MoO σ fa vf wh wy hg dp md ov oh dn an) (hw : MoW σ tb pr ow ft hs) (hu : MoM σ u1 u2 ur ul uo ua uc us ut uk)   : jl_m l G m_Mo_takes [.ref 22, .int (nI 2), .int (x)] σ (.inl (some (.int (nI (tk0 2))))) (σ) := by
  obtain ⟨h23, h24, h25, h26, h27⟩ := id hw
  obtain ⟨h28, h29, h30, h31, h32, h33, h34, h35, h36, h37⟩ := id hu
  refine jl_of (as := [.ref 22, .int (nI 2), .int (x)]) rfl (by decide) hl (jl_cc rfl (jl_cc rfl (jl_cc rfl jl_ca))) (Nat.le_of_ble_eq_true rfl) ?_
  show jl_W l G m_Mo_takes (0, 0) 0 [some (.ref 22), some (.int (nI 2)), some (.int (x))] [] (σ) (.inl (some (.int (nI (tk0 2))))) (σ)
  refine jr_iload_n d_Mo_takes_0 rfl ?_
  refine jr_bipush ((nI (14))) d_Mo_takes_1 (by decide) ?_
  refine jr_icmp_ne 23 d_Mo_takes_3 (by decide) (fun _ => ?_) (fun z => absurd z (by decide))
  refine jr_iload_n d_Mo_takes_23 rfl ?_
  refine jr_if_eq 50 d_Mo_takes_24 (by decide) (fun z => absurd z (by decide)) (fun _ => ?_)
  refine jr_iload_n d_Mo_takes_27 rfl ?_
  refine jr_iconst ((nI (1))) d_Mo_takes_28 (by decide) ?_
  refine jr_icmp_eq 50 d_Mo_takes_29 (by decide) (fun z => absurd z (by decide)) (fun _ => ?_)
  refine jr_iload_n d_Mo_takes_32 rfl ?_
  refine jr_bipush ((nI (7))) d_Mo_takes_33 (by decide) ?_
  refine jr_icmp_eq 50 d_Mo_takes_35 (by decide) (fun z => absurd z (by decide)) (fun _ => ?_)
  refine jr_iload_n d_Mo_takes_38 rfl ?_
  refine jr_bipush ((nI (10))) d_Mo_takes_39 (by decide) ?_
  refine jr_icmp_eq 50 d_Mo_takes_41 (by decide) (fun z => absurd z (by decide)) (fun _ => ?_)
  refine jr_iload_n d_Mo_takes_44 rfl ?_
  refine jr_bipush ((nI (11))) d_Mo_takes_45 (by decide) ?_
  refine jr_icmp_ne 52 d_Mo_takes_47 (by decide) (fun _ => ?_) (fun z => absurd z (by decide))
  refine jr_iload_n d_Mo_takes_52 rfl ?_
  refine jr_iconst ((nI (3))) d_Mo_takes_53 (by decide) ?_
  refine jr_icmp_lt 63 d_Mo_takes_54 (by decide) (fun _ => ?_) (fun z => absurd (by decide) z)
  refine jr_iload_n d_Mo_takes_63 rfl ?_
  refine jr_bipush ((nI (9))) d_Mo_takes_64 (by decide) ?_
  refine jr_icmp_eq 87 d_Mo_takes_66 (by decide) (fun z => absurd z (by decide)) (fun _ => ?_)
  refine jr_iload_n d_Mo_takes_69 rfl ?_
  refine jr_bipush ((nI (13))) d_Mo_takes_70 (by decide) ?_
  refine jr_icmp_eq 87 d_Mo_takes_72 (by decide) (fun z => absurd z (by decide)) (fun _ => ?_)
  refine jr_iload_n d_Mo_takes_75 rfl ?_
  refine jr_bipush ((nI (20))) d_Mo_takes_76 (by decide) ?_
  refine jr_icmp_eq 87 d_Mo_takes_78 (by decide) (fun z => absurd z (by decide)) (fun _ => ?_)
  refine jr_iload_n d_Mo_takes_81 rfl ?_
  refine jr_bipush ((nI (25))) d_Mo_takes_82 (by decide) ?_
  refine jr_icmp_ne 89 d_Mo_takes_84 (by decide) (fun _ => ?_) (fun z => absurd z (by decide))
  refine jr_iload_n d_Mo_takes_89 rfl ?_
  refine jr_bipush ((nI (21))) d_Mo_takes_90 (by decide) ?_
  refine jr_icmp_ne 99 d_Mo_takes_92 (by decide) (fun _ => ?_) (fun z => absurd z (by decide))
  refine jr_iconst ((nI (1))) d_Mo_takes_99 (by decide) ?_
  exact jr_iretE d_Mo_takes_100 rfl (rfl) (rfl) (by decide) (by decide)
theorem d_Mo_takes_57 : decode m_Mo_takes.2.1 57 = .ok (.iload_n 1, 1) := by decide +kernel
theorem d_Mo_takes_58 : decode m_Mo_takes.2.1 58 = .ok (.bipush 6, 2) := by decide +kernel
theorem d_Mo_takes_60 : decode m_Mo_takes.2.1 60 = .ok (.if_icmp .le 27, 3) := by decide +kernel
theorem d_Mo_takes_87 : decode m_Mo_takes.2.1 87 = .ok (.iconst 2, 1) := by decide +kernel
theorem d_Mo_takes_88 : decode m_Mo_takes.2.1 88 = .ok (.ireturn, 1) := by decide +kernel
theorem mo_tk_3 (hl : l.stackTraces = false) {x : Int32} (hO : MoO σ fa vf wh wy hg dp md ov oh dn an) (hw : MoW σ tb pr ow ft hs) (hu : MoM σ u1 u2 ur ul uo ua uc us ut uk)   : jl_m l G m_Mo_takes [.ref 22, .int (nI 3), .int (x)] σ (.inl (some (.int (nI (tk0 3))))) (σ) := by
  obtain ⟨h23, h24, h25, h26, h27⟩ := id hw
  obtain ⟨h28, h29, h30, h31, h32, h33, h34, h35, h36, h37⟩ := id hu
  refine jl_of (as := [.ref 22, .int (nI 3), .int (x)]) rfl (by decide) hl (jl_cc rfl (jl_cc rfl (jl_cc rfl jl_ca))) (Nat.le_of_ble_eq_true rfl) ?_
  show jl_W l G m_Mo_takes (0, 0) 0 [some (.ref 22), some (.int (nI 3)), some (.int (x))] [] (σ) (.inl (some (.int (nI (tk0 3))))) (σ)
  refine jr_iload_n d_Mo_takes_0 rfl ?_
  refine jr_bipush ((nI (14))) d_Mo_takes_1 (by decide) ?_
  refine jr_icmp_ne 23 d_Mo_takes_3 (by decide) (fun _ => ?_) (fun z => absurd z (by decide))
  refine jr_iload_n d_Mo_takes_23 rfl ?_
  refine jr_if_eq 50 d_Mo_takes_24 (by decide) (fun z => absurd z (by decide)) (fun _ => ?_)
  refine jr_iload_n d_Mo_takes_27 rfl ?_
  refine jr_iconst ((nI (1))) d_Mo_takes_28 (by decide) ?_
  refine jr_icmp_eq 50 d_Mo_takes_29 (by decide) (fun z => absurd z (by decide)) (fun _ => ?_)
  refine jr_iload_n d_Mo_takes_32 rfl ?_
  refine jr_bipush ((nI (7))) d_Mo_takes_33 (by decide) ?_
  refine jr_icmp_eq 50 d_Mo_takes_35 (by decide) (fun z => absurd z (by decide)) (fun _ => ?_)
  refine jr_iload_n d_Mo_takes_38 rfl ?_
  refine jr_bipush ((nI (10))) d_Mo_takes_39 (by decide) ?_
  refine jr_icmp_eq 50 d_Mo_takes_41 (by decide) (fun z => absurd z (by decide)) (fun _ => ?_)
  refine jr_iload_n d_Mo_takes_44 rfl ?_
  refine jr_bipush ((nI (11))) d_Mo_takes_45 (by decide) ?_
  refine jr_icmp_ne 52 d_Mo_takes_47 (by decide) (fun _ => ?_) (fun z => absurd z (by decide))
  refine jr_iload_n d_Mo_takes_52 rfl ?_
  refine jr_iconst ((nI (3))) d_Mo_takes_53 (by decide) ?_
  refine jr_icmp_lt 63 d_Mo_takes_54 (by decide) (fun z => absurd z (by decide)) (fun _ => ?_)
  refine jr_iload_n d_Mo_takes_57 rfl ?_
  refine jr_bipush ((nI (6))) d_Mo_takes_58 (by decide) ?_
  refine jr_icmp_le 87 d_Mo_takes_60 (by decide) (fun _ => ?_) (fun z => absurd (by decide) z)
  refine jr_iconst ((nI (2))) d_Mo_takes_87 (by decide) ?_
  exact jr_iretE d_Mo_takes_88 rfl (rfl) (rfl) (by decide) (by decide)
theorem mo_tk_4 (hl : l.stackTraces = false) {x : Int32} (hO : MoO σ fa vf wh wy hg dp md ov oh dn an) (hw : MoW σ tb pr ow ft hs) (hu : MoM σ u1 u2 ur ul uo ua uc us ut uk)   : jl_m l G m_Mo_takes [.ref 22, .int (nI 4), .int (x)] σ (.inl (some (.int (nI (tk0 4))))) (σ) := by
  obtain ⟨h23, h24, h25, h26, h27⟩ := id hw
  obtain ⟨h28, h29, h30, h31, h32, h33, h34, h35, h36, h37⟩ := id hu
  refine jl_of (as := [.ref 22, .int (nI 4), .int (x)]) rfl (by decide) hl (jl_cc rfl (jl_cc rfl (jl_cc rfl jl_ca))) (Nat.le_of_ble_eq_true rfl) ?_
  show jl_W l G m_Mo_takes (0, 0) 0 [some (.ref 22), some (.int (nI 4)), some (.int (x))] [] (σ) (.inl (some (.int (nI (tk0 4))))) (σ)
  refine jr_iload_n d_Mo_takes_0 rfl ?_
  refine jr_bipush ((nI (14))) d_Mo_takes_1 (by decide) ?_
  refine jr_icmp_ne 23 d_Mo_takes_3 (by decide) (fun _ => ?_) (fun z => absurd z (by decide))
  refine jr_iload_n d_Mo_takes_23 rfl ?_
  refine jr_if_eq 50 d_Mo_takes_24 (by decide) (fun z => absurd z (by decide)) (fun _ => ?_)
  refine jr_iload_n d_Mo_takes_27 rfl ?_
  refine jr_iconst ((nI (1))) d_Mo_takes_28 (by decide) ?_
  refine jr_icmp_eq 50 d_Mo_takes_29 (by decide) (fun z => absurd z (by decide)) (fun _ => ?_)
  refine jr_iload_n d_Mo_takes_32 rfl ?_
  refine jr_bipush ((nI (7))) d_Mo_takes_33 (by decide) ?_
  refine jr_icmp_eq 50 d_Mo_takes_35 (by decide) (fun z => absurd z (by decide)) (fun _ => ?_)
  refine jr_iload_n d_Mo_takes_38 rfl ?_
  refine jr_bipush ((nI (10))) d_Mo_takes_39 (by decide) ?_
  refine jr_icmp_eq 50 d_Mo_takes_41 (by decide) (fun z => absurd z (by decide)) (fun _ => ?_)
  refine jr_iload_n d_Mo_takes_44 rfl ?_
  refine jr_bipush ((nI (11))) d_Mo_takes_45 (by decide) ?_
  refine jr_icmp_ne 52 d_Mo_takes_47 (by decide) (fun _ => ?_) (fun z => absurd z (by decide))
  refine jr_iload_n d_Mo_takes_52 rfl ?_
  refine jr_iconst ((nI (3))) d_Mo_takes_53 (by decide) ?_
  refine jr_icmp_lt 63 d_Mo_takes_54 (by decide) (fun z => absurd z (by decide)) (fun _ => ?_)
  refine jr_iload_n d_Mo_takes_57 rfl ?_
  refine jr_bipush ((nI (6))) d_Mo_takes_58 (by decide) ?_
  refine jr_icmp_le 87 d_Mo_takes_60 (by decide) (fun _ => ?_) (fun z => absurd (by decide) z)
  refine jr_iconst ((nI (2))) d_Mo_takes_87 (by decide) ?_
  exact jr_iretE d_Mo_takes_88 rfl (rfl) (rfl) (by decide) (by decide)
theorem mo_tk_5 (hl : l.stackTraces = false) {x : Int32} (hO : MoO σ fa vf wh wy hg dp md ov oh dn an) (hw : MoW σ tb pr ow ft hs) (hu : MoM σ u1 u2 ur ul uo ua uc us ut uk)   : jl_m l G m_Mo_takes [.ref 22, .int (nI 5), .int (x)] σ (.inl (some (.int (nI (tk0 5))))) (σ) := by
  obtain ⟨h23, h24, h25, h26, h27⟩ := id hw
  obtain ⟨h28, h29, h30, h31, h32, h33, h34, h35, h36, h37⟩ := id hu
  refine jl_of (as := [.ref 22, .int (nI 5), .int (x)]) rfl (by decide) hl (jl_cc rfl (jl_cc rfl (jl_cc rfl jl_ca))) (Nat.le_of_ble_eq_true rfl) ?_
  show jl_W l G m_Mo_takes (0, 0) 0 [some (.ref 22), some (.int (nI 5)), some (.int (x))] [] (σ) (.inl (some (.int (nI (tk0 5))))) (σ)
  refine jr_iload_n d_Mo_takes_0 rfl ?_
  refine jr_bipush ((nI (14))) d_Mo_takes_1 (by decide) ?_
  refine jr_icmp_ne 23 d_Mo_takes_3 (by decide) (fun _ => ?_) (fun z => absurd z (by decide))
  refine jr_iload_n d_Mo_takes_23 rfl ?_
  refine jr_if_eq 50 d_Mo_takes_24 (by decide) (fun z => absurd z (by decide)) (fun _ => ?_)
  refine jr_iload_n d_Mo_takes_27 rfl ?_
  refine jr_iconst ((nI (1))) d_Mo_takes_28 (by decide) ?_
  refine jr_icmp_eq 50 d_Mo_takes_29 (by decide) (fun z => absurd z (by decide)) (fun _ => ?_)
  refine jr_iload_n d_Mo_takes_32 rfl ?_
  refine jr_bipush ((nI (7))) d_Mo_takes_33 (by decide) ?_
  refine jr_icmp_eq 50 d_Mo_takes_35 (by decide) (fun z => absurd z (by decide)) (fun _ => ?_)
  refine jr_iload_n d_Mo_takes_38 rfl ?_
  refine jr_bipush ((nI (10))) d_Mo_takes_39 (by decide) ?_
  refine jr_icmp_eq 50 d_Mo_takes_41 (by decide) (fun z => absurd z (by decide)) (fun _ => ?_)
  refine jr_iload_n d_Mo_takes_44 rfl ?_
  refine jr_bipush ((nI (11))) d_Mo_takes_45 (by decide) ?_
  refine jr_icmp_ne 52 d_Mo_takes_47 (by decide) (fun _ => ?_) (fun z => absurd z (by decide))
  refine jr_iload_n d_Mo_takes_52 rfl ?_
  refine jr_iconst ((nI (3))) d_Mo_takes_53 (by decide) ?_
  refine jr_icmp_lt 63 d_Mo_takes_54 (by decide) (fun z => absurd z (by decide)) (fun _ => ?_)
  refine jr_iload_n d_Mo_takes_57 rfl ?_
  refine jr_bipush ((nI (6))) d_Mo_takes_58 (by decide) ?_
  refine jr_icmp_le 87 d_Mo_takes_60 (by decide) (fun _ => ?_) (fun z => absurd (by decide) z)
  refine jr_iconst ((nI (2))) d_Mo_takes_87 (by decide) ?_
  exact jr_iretE d_Mo_takes_88 rfl (rfl) (rfl) (by decide) (by decide)
theorem mo_tk_6 (hl : l.stackTraces = false) {x : Int32} (hO : MoO σ fa vf wh wy hg dp md ov oh dn an) (hw : MoW σ tb pr ow ft hs) (hu : MoM σ u1 u2 ur ul uo ua uc us ut uk)   : jl_m l G m_Mo_takes [.ref 22, .int (nI 6), .int (x)] σ (.inl (some (.int (nI (tk0 6))))) (σ) := by
  obtain ⟨h23, h24, h25, h26, h27⟩ := id hw
  obtain ⟨h28, h29, h30, h31, h32, h33, h34, h35, h36, h37⟩ := id hu
  refine jl_of (as := [.ref 22, .int (nI 6), .int (x)]) rfl (by decide) hl (jl_cc rfl (jl_cc rfl (jl_cc rfl jl_ca))) (Nat.le_of_ble_eq_true rfl) ?_
  show jl_W l G m_Mo_takes (0, 0) 0 [some (.ref 22), some (.int (nI 6)), some (.int (x))] [] (σ) (.inl (some (.int (nI (tk0 6))))) (σ)
  refine jr_iload_n d_Mo_takes_0 rfl ?_
  refine jr_bipush ((nI (14))) d_Mo_takes_1 (by decide) ?_
  refine jr_icmp_ne 23 d_Mo_takes_3 (by decide) (fun _ => ?_) (fun z => absurd z (by decide))
  refine jr_iload_n d_Mo_takes_23 rfl ?_
  refine jr_if_eq 50 d_Mo_takes_24 (by decide) (fun z => absurd z (by decide)) (fun _ => ?_)
  refine jr_iload_n d_Mo_takes_27 rfl ?_
  refine jr_iconst ((nI (1))) d_Mo_takes_28 (by decide) ?_
  refine jr_icmp_eq 50 d_Mo_takes_29 (by decide) (fun z => absurd z (by decide)) (fun _ => ?_)
  refine jr_iload_n d_Mo_takes_32 rfl ?_
  refine jr_bipush ((nI (7))) d_Mo_takes_33 (by decide) ?_
  refine jr_icmp_eq 50 d_Mo_takes_35 (by decide) (fun z => absurd z (by decide)) (fun _ => ?_)
  refine jr_iload_n d_Mo_takes_38 rfl ?_
  refine jr_bipush ((nI (10))) d_Mo_takes_39 (by decide) ?_
  refine jr_icmp_eq 50 d_Mo_takes_41 (by decide) (fun z => absurd z (by decide)) (fun _ => ?_)
  refine jr_iload_n d_Mo_takes_44 rfl ?_
  refine jr_bipush ((nI (11))) d_Mo_takes_45 (by decide) ?_
  refine jr_icmp_ne 52 d_Mo_takes_47 (by decide) (fun _ => ?_) (fun z => absurd z (by decide))
  refine jr_iload_n d_Mo_takes_52 rfl ?_
  refine jr_iconst ((nI (3))) d_Mo_takes_53 (by decide) ?_
  refine jr_icmp_lt 63 d_Mo_takes_54 (by decide) (fun z => absurd z (by decide)) (fun _ => ?_)
  refine jr_iload_n d_Mo_takes_57 rfl ?_
  refine jr_bipush ((nI (6))) d_Mo_takes_58 (by decide) ?_
  refine jr_icmp_le 87 d_Mo_takes_60 (by decide) (fun _ => ?_) (fun z => absurd (by decide) z)
  refine jr_iconst ((nI (2))) d_Mo_takes_87 (by decide) ?_
  exact jr_iretE d_Mo_takes_88 rfl (rfl) (rfl) (by decide) (by decide)
theorem mo_tk_7 (hl : l.stackTraces = false) {x : Int32} (hO : MoO σ fa vf wh wy hg dp md ov oh dn an) (hw : MoW σ tb pr ow ft hs) (hu : MoM σ u1 u2 ur ul uo ua uc us ut uk)   : jl_m l G m_Mo_takes [.ref 22, .int (nI 7), .int (x)] σ (.inl (some (.int (nI (tk0 7))))) (σ) := by
  obtain ⟨h23, h24, h25, h26, h27⟩ := id hw
  obtain ⟨h28, h29, h30, h31, h32, h33, h34, h35, h36, h37⟩ := id hu
  refine jl_of (as := [.ref 22, .int (nI 7), .int (x)]) rfl (by decide) hl (jl_cc rfl (jl_cc rfl (jl_cc rfl jl_ca))) (Nat.le_of_ble_eq_true rfl) ?_
  show jl_W l G m_Mo_takes (0, 0) 0 [some (.ref 22), some (.int (nI 7)), some (.int (x))] [] (σ) (.inl (some (.int (nI (tk0 7))))) (σ)
  refine jr_iload_n d_Mo_takes_0 rfl ?_
  refine jr_bipush ((nI (14))) d_Mo_takes_1 (by decide) ?_
  refine jr_icmp_ne 23 d_Mo_takes_3 (by decide) (fun _ => ?_) (fun z => absurd z (by decide))
  refine jr_iload_n d_Mo_takes_23 rfl ?_
  refine jr_if_eq 50 d_Mo_takes_24 (by decide) (fun z => absurd z (by decide)) (fun _ => ?_)
  refine jr_iload_n d_Mo_takes_27 rfl ?_
  refine jr_iconst ((nI (1))) d_Mo_takes_28 (by decide) ?_
  refine jr_icmp_eq 50 d_Mo_takes_29 (by decide) (fun z => absurd z (by decide)) (fun _ => ?_)
  refine jr_iload_n d_Mo_takes_32 rfl ?_
  refine jr_bipush ((nI (7))) d_Mo_takes_33 (by decide) ?_
  refine jr_icmp_eq 50 d_Mo_takes_35 (by decide) (fun _ => ?_) (fun z => absurd (by decide) z)
  refine jr_iconst ((nI (0))) d_Mo_takes_50 (by decide) ?_
  exact jr_iretE d_Mo_takes_51 rfl (rfl) (rfl) (by decide) (by decide)
theorem mo_tk_8 (hl : l.stackTraces = false) {x : Int32} (hO : MoO σ fa vf wh wy hg dp md ov oh dn an) (hw : MoW σ tb pr ow ft hs) (hu : MoM σ u1 u2 ur ul uo ua uc us ut uk)   : jl_m l G m_Mo_takes [.ref 22, .int (nI 8), .int (x)] σ (.inl (some (.int (nI (tk0 8))))) (σ) := by
  obtain ⟨h23, h24, h25, h26, h27⟩ := id hw
  obtain ⟨h28, h29, h30, h31, h32, h33, h34, h35, h36, h37⟩ := id hu
  refine jl_of (as := [.ref 22, .int (nI 8), .int (x)]) rfl (by decide) hl (jl_cc rfl (jl_cc rfl (jl_cc rfl jl_ca))) (Nat.le_of_ble_eq_true rfl) ?_
  show jl_W l G m_Mo_takes (0, 0) 0 [some (.ref 22), some (.int (nI 8)), some (.int (x))] [] (σ) (.inl (some (.int (nI (tk0 8))))) (σ)
  refine jr_iload_n d_Mo_takes_0 rfl ?_
  refine jr_bipush ((nI (14))) d_Mo_takes_1 (by decide) ?_
  refine jr_icmp_ne 23 d_Mo_takes_3 (by decide) (fun _ => ?_) (fun z => absurd z (by decide))
  refine jr_iload_n d_Mo_takes_23 rfl ?_
  refine jr_if_eq 50 d_Mo_takes_24 (by decide) (fun z => absurd z (by decide)) (fun _ => ?_)
  refine jr_iload_n d_Mo_takes_27 rfl ?_
  refine jr_iconst ((nI (1))) d_Mo_takes_28 (by decide) ?_
  refine jr_icmp_eq 50 d_Mo_takes_29 (by decide) (fun z => absurd z (by decide)) (fun _ => ?_)
  refine jr_iload_n d_Mo_takes_32 rfl ?_
  refine jr_bipush ((nI (7))) d_Mo_takes_33 (by decide) ?_
  refine jr_icmp_eq 50 d_Mo_takes_35 (by decide) (fun z => absurd z (by decide)) (fun _ => ?_)
  refine jr_iload_n d_Mo_takes_38 rfl ?_
  refine jr_bipush ((nI (10))) d_Mo_takes_39 (by decide) ?_
  refine jr_icmp_eq 50 d_Mo_takes_41 (by decide) (fun z => absurd z (by decide)) (fun _ => ?_)
  refine jr_iload_n d_Mo_takes_44 rfl ?_
  refine jr_bipush ((nI (11))) d_Mo_takes_45 (by decide) ?_
  refine jr_icmp_ne 52 d_Mo_takes_47 (by decide) (fun _ => ?_) (fun z => absurd z (by decide))
  refine jr_iload_n d_Mo_takes_52 rfl ?_
  refine jr_iconst ((nI (3))) d_Mo_takes_53 (by decide) ?_
  refine jr_icmp_lt 63 d_Mo_takes_54 (by decide) (fun z => absurd z (by decide)) (fun _ => ?_)
  refine jr_iload_n d_Mo_takes_57 rfl ?_
  refine jr_bipush ((nI (6))) d_Mo_takes_58 (by decide) ?_
  refine jr_icmp_le 87 d_Mo_takes_60 (by decide) (fun z => absurd z (by decide)) (fun _ => ?_)
  refine jr_iload_n d_Mo_takes_63 rfl ?_
  refine jr_bipush ((nI (9))) d_Mo_takes_64 (by decide) ?_
  refine jr_icmp_eq 87 d_Mo_takes_66 (by decide) (fun z => absurd z (by decide)) (fun _ => ?_)
  refine jr_iload_n d_Mo_takes_69 rfl ?_
  refine jr_bipush ((nI (13))) d_Mo_takes_70 (by decide) ?_
  refine jr_icmp_eq 87 d_Mo_takes_72 (by decide) (fun z => absurd z (by decide)) (fun _ => ?_)
  refine jr_iload_n d_Mo_takes_75 rfl ?_
  refine jr_bipush ((nI (20))) d_Mo_takes_76 (by decide) ?_
  refine jr_icmp_eq 87 d_Mo_takes_78 (by decide) (fun z => absurd z (by decide)) (fun _ => ?_)
  refine jr_iload_n d_Mo_takes_81 rfl ?_
  refine jr_bipush ((nI (25))) d_Mo_takes_82 (by decide) ?_
  refine jr_icmp_ne 89 d_Mo_takes_84 (by decide) (fun _ => ?_) (fun z => absurd z (by decide))
  refine jr_iload_n d_Mo_takes_89 rfl ?_
  refine jr_bipush ((nI (21))) d_Mo_takes_90 (by decide) ?_
  refine jr_icmp_ne 99 d_Mo_takes_92 (by decide) (fun _ => ?_) (fun z => absurd z (by decide))
  refine jr_iconst ((nI (1))) d_Mo_takes_99 (by decide) ?_
  exact jr_iretE d_Mo_takes_100 rfl (rfl) (rfl) (by decide) (by decide)
theorem mo_tk_9 (hl : l.stackTraces = false) {x : Int32} (hO : MoO σ fa vf wh wy hg dp md ov oh dn an) (hw : MoW σ tb pr ow ft hs) (hu : MoM σ u1 u2 ur ul uo ua uc us ut uk)   : jl_m l G m_Mo_takes [.ref 22, .int (nI 9), .int (x)] σ (.inl (some (.int (nI (tk0 9))))) (σ) := by
  obtain ⟨h23, h24, h25, h26, h27⟩ := id hw
  obtain ⟨h28, h29, h30, h31, h32, h33, h34, h35, h36, h37⟩ := id hu
  refine jl_of (as := [.ref 22, .int (nI 9), .int (x)]) rfl (by decide) hl (jl_cc rfl (jl_cc rfl (jl_cc rfl jl_ca))) (Nat.le_of_ble_eq_true rfl) ?_
  show jl_W l G m_Mo_takes (0, 0) 0 [some (.ref 22), some (.int (nI 9)), some (.int (x))] [] (σ) (.inl (some (.int (nI (tk0 9))))) (σ)
  refine jr_iload_n d_Mo_takes_0 rfl ?_
  refine jr_bipush ((nI (14))) d_Mo_takes_1 (by decide) ?_
  refine jr_icmp_ne 23 d_Mo_takes_3 (by decide) (fun _ => ?_) (fun z => absurd z (by decide))
  refine jr_iload_n d_Mo_takes_23 rfl ?_
  refine jr_if_eq 50 d_Mo_takes_24 (by decide) (fun z => absurd z (by decide)) (fun _ => ?_)
  refine jr_iload_n d_Mo_takes_27 rfl ?_
  refine jr_iconst ((nI (1))) d_Mo_takes_28 (by decide) ?_
  refine jr_icmp_eq 50 d_Mo_takes_29 (by decide) (fun z => absurd z (by decide)) (fun _ => ?_)
  refine jr_iload_n d_Mo_takes_32 rfl ?_
  refine jr_bipush ((nI (7))) d_Mo_takes_33 (by decide) ?_
  refine jr_icmp_eq 50 d_Mo_takes_35 (by decide) (fun z => absurd z (by decide)) (fun _ => ?_)
  refine jr_iload_n d_Mo_takes_38 rfl ?_
  refine jr_bipush ((nI (10))) d_Mo_takes_39 (by decide) ?_
  refine jr_icmp_eq 50 d_Mo_takes_41 (by decide) (fun z => absurd z (by decide)) (fun _ => ?_)
  refine jr_iload_n d_Mo_takes_44 rfl ?_
  refine jr_bipush ((nI (11))) d_Mo_takes_45 (by decide) ?_
  refine jr_icmp_ne 52 d_Mo_takes_47 (by decide) (fun _ => ?_) (fun z => absurd z (by decide))
  refine jr_iload_n d_Mo_takes_52 rfl ?_
  refine jr_iconst ((nI (3))) d_Mo_takes_53 (by decide) ?_
  refine jr_icmp_lt 63 d_Mo_takes_54 (by decide) (fun z => absurd z (by decide)) (fun _ => ?_)
  refine jr_iload_n d_Mo_takes_57 rfl ?_
  refine jr_bipush ((nI (6))) d_Mo_takes_58 (by decide) ?_
  refine jr_icmp_le 87 d_Mo_takes_60 (by decide) (fun z => absurd z (by decide)) (fun _ => ?_)
  refine jr_iload_n d_Mo_takes_63 rfl ?_
  refine jr_bipush ((nI (9))) d_Mo_takes_64 (by decide) ?_
  refine jr_icmp_eq 87 d_Mo_takes_66 (by decide) (fun _ => ?_) (fun z => absurd (by decide) z)
  refine jr_iconst ((nI (2))) d_Mo_takes_87 (by decide) ?_
  exact jr_iretE d_Mo_takes_88 rfl (rfl) (rfl) (by decide) (by decide)
theorem mo_tk_10 (hl : l.stackTraces = false) {x : Int32} (hO : MoO σ fa vf wh wy hg dp md ov oh dn an) (hw : MoW σ tb pr ow ft hs) (hu : MoM σ u1 u2 ur ul uo ua uc us ut uk)   : jl_m l G m_Mo_takes [.ref 22, .int (nI 10), .int (x)] σ (.inl (some (.int (nI (tk0 10))))) (σ) := by
  obtain ⟨h23, h24, h25, h26, h27⟩ := id hw
  obtain ⟨h28, h29, h30, h31, h32, h33, h34, h35, h36, h37⟩ := id hu
  refine jl_of (as := [.ref 22, .int (nI 10), .int (x)]) rfl (by decide) hl (jl_cc rfl (jl_cc rfl (jl_cc rfl jl_ca))) (Nat.le_of_ble_eq_true rfl) ?_
  show jl_W l G m_Mo_takes (0, 0) 0 [some (.ref 22), some (.int (nI 10)), some (.int (x))] [] (σ) (.inl (some (.int (nI (tk0 10))))) (σ)
  refine jr_iload_n d_Mo_takes_0 rfl ?_
  refine jr_bipush ((nI (14))) d_Mo_takes_1 (by decide) ?_
  refine jr_icmp_ne 23 d_Mo_takes_3 (by decide) (fun _ => ?_) (fun z => absurd z (by decide))
  refine jr_iload_n d_Mo_takes_23 rfl ?_
  refine jr_if_eq 50 d_Mo_takes_24 (by decide) (fun z => absurd z (by decide)) (fun _ => ?_)
  refine jr_iload_n d_Mo_takes_27 rfl ?_
  refine jr_iconst ((nI (1))) d_Mo_takes_28 (by decide) ?_
  refine jr_icmp_eq 50 d_Mo_takes_29 (by decide) (fun z => absurd z (by decide)) (fun _ => ?_)
  refine jr_iload_n d_Mo_takes_32 rfl ?_
  refine jr_bipush ((nI (7))) d_Mo_takes_33 (by decide) ?_
  refine jr_icmp_eq 50 d_Mo_takes_35 (by decide) (fun z => absurd z (by decide)) (fun _ => ?_)
  refine jr_iload_n d_Mo_takes_38 rfl ?_
  refine jr_bipush ((nI (10))) d_Mo_takes_39 (by decide) ?_
  refine jr_icmp_eq 50 d_Mo_takes_41 (by decide) (fun _ => ?_) (fun z => absurd (by decide) z)
  refine jr_iconst ((nI (0))) d_Mo_takes_50 (by decide) ?_
  exact jr_iretE d_Mo_takes_51 rfl (rfl) (rfl) (by decide) (by decide)
theorem mo_tk_11 (hl : l.stackTraces = false) {x : Int32} (hO : MoO σ fa vf wh wy hg dp md ov oh dn an) (hw : MoW σ tb pr ow ft hs) (hu : MoM σ u1 u2 ur ul uo ua uc us ut uk)   : jl_m l G m_Mo_takes [.ref 22, .int (nI 11), .int (x)] σ (.inl (some (.int (nI (tk0 11))))) (σ) := by
  obtain ⟨h23, h24, h25, h26, h27⟩ := id hw
  obtain ⟨h28, h29, h30, h31, h32, h33, h34, h35, h36, h37⟩ := id hu
  refine jl_of (as := [.ref 22, .int (nI 11), .int (x)]) rfl (by decide) hl (jl_cc rfl (jl_cc rfl (jl_cc rfl jl_ca))) (Nat.le_of_ble_eq_true rfl) ?_
  show jl_W l G m_Mo_takes (0, 0) 0 [some (.ref 22), some (.int (nI 11)), some (.int (x))] [] (σ) (.inl (some (.int (nI (tk0 11))))) (σ)
  refine jr_iload_n d_Mo_takes_0 rfl ?_
  refine jr_bipush ((nI (14))) d_Mo_takes_1 (by decide) ?_
  refine jr_icmp_ne 23 d_Mo_takes_3 (by decide) (fun _ => ?_) (fun z => absurd z (by decide))
  refine jr_iload_n d_Mo_takes_23 rfl ?_
  refine jr_if_eq 50 d_Mo_takes_24 (by decide) (fun z => absurd z (by decide)) (fun _ => ?_)
  refine jr_iload_n d_Mo_takes_27 rfl ?_
  refine jr_iconst ((nI (1))) d_Mo_takes_28 (by decide) ?_
  refine jr_icmp_eq 50 d_Mo_takes_29 (by decide) (fun z => absurd z (by decide)) (fun _ => ?_)
  refine jr_iload_n d_Mo_takes_32 rfl ?_
  refine jr_bipush ((nI (7))) d_Mo_takes_33 (by decide) ?_
  refine jr_icmp_eq 50 d_Mo_takes_35 (by decide) (fun z => absurd z (by decide)) (fun _ => ?_)
  refine jr_iload_n d_Mo_takes_38 rfl ?_
  refine jr_bipush ((nI (10))) d_Mo_takes_39 (by decide) ?_
  refine jr_icmp_eq 50 d_Mo_takes_41 (by decide) (fun z => absurd z (by decide)) (fun _ => ?_)
  refine jr_iload_n d_Mo_takes_44 rfl ?_
  refine jr_bipush ((nI (11))) d_Mo_takes_45 (by decide) ?_
  refine jr_icmp_ne 52 d_Mo_takes_47 (by decide) (fun z => absurd rfl z) (fun _ => ?_)
  refine jr_iconst ((nI (0))) d_Mo_takes_50 (by decide) ?_
  exact jr_iretE d_Mo_takes_51 rfl (rfl) (rfl) (by decide) (by decide)
theorem mo_tk_12 (hl : l.stackTraces = false) {x : Int32} (hO : MoO σ fa vf wh wy hg dp md ov oh dn an) (hw : MoW σ tb pr ow ft hs) (hu : MoM σ u1 u2 ur ul uo ua uc us ut uk)   : jl_m l G m_Mo_takes [.ref 22, .int (nI 12), .int (x)] σ (.inl (some (.int (nI (tk0 12))))) (σ) := by
  obtain ⟨h23, h24, h25, h26, h27⟩ := id hw
  obtain ⟨h28, h29, h30, h31, h32, h33, h34, h35, h36, h37⟩ := id hu
  refine jl_of (as := [.ref 22, .int (nI 12), .int (x)]) rfl (by decide) hl (jl_cc rfl (jl_cc rfl (jl_cc rfl jl_ca))) (Nat.le_of_ble_eq_true rfl) ?_
  show jl_W l G m_Mo_takes (0, 0) 0 [some (.ref 22), some (.int (nI 12)), some (.int (x))] [] (σ) (.inl (some (.int (nI (tk0 12))))) (σ)
  refine jr_iload_n d_Mo_takes_0 rfl ?_
  refine jr_bipush ((nI (14))) d_Mo_takes_1 (by decide) ?_
  refine jr_icmp_ne 23 d_Mo_takes_3 (by decide) (fun _ => ?_) (fun z => absurd z (by decide))
  refine jr_iload_n d_Mo_takes_23 rfl ?_
  refine jr_if_eq 50 d_Mo_takes_24 (by decide) (fun z => absurd z (by decide)) (fun _ => ?_)
  refine jr_iload_n d_Mo_takes_27 rfl ?_
  refine jr_iconst ((nI (1))) d_Mo_takes_28 (by decide) ?_
  refine jr_icmp_eq 50 d_Mo_takes_29 (by decide) (fun z => absurd z (by decide)) (fun _ => ?_)
  refine jr_iload_n d_Mo_takes_32 rfl ?_
  refine jr_bipush ((nI (7))) d_Mo_takes_33 (by decide) ?_
  refine jr_icmp_eq 50 d_Mo_takes_35 (by decide) (fun z => absurd z (by decide)) (fun _ => ?_)
  refine jr_iload_n d_Mo_takes_38 rfl ?_
  refine jr_bipush ((nI (10))) d_Mo_takes_39 (by decide) ?_
  refine jr_icmp_eq 50 d_Mo_takes_41 (by decide) (fun z => absurd z (by decide)) (fun _ => ?_)
  refine jr_iload_n d_Mo_takes_44 rfl ?_
  refine jr_bipush ((nI (11))) d_Mo_takes_45 (by decide) ?_
  refine jr_icmp_ne 52 d_Mo_takes_47 (by decide) (fun _ => ?_) (fun z => absurd z (by decide))
  refine jr_iload_n d_Mo_takes_52 rfl ?_
  refine jr_iconst ((nI (3))) d_Mo_takes_53 (by decide) ?_
  refine jr_icmp_lt 63 d_Mo_takes_54 (by decide) (fun z => absurd z (by decide)) (fun _ => ?_)
  refine jr_iload_n d_Mo_takes_57 rfl ?_
  refine jr_bipush ((nI (6))) d_Mo_takes_58 (by decide) ?_
  refine jr_icmp_le 87 d_Mo_takes_60 (by decide) (fun z => absurd z (by decide)) (fun _ => ?_)
  refine jr_iload_n d_Mo_takes_63 rfl ?_
  refine jr_bipush ((nI (9))) d_Mo_takes_64 (by decide) ?_
  refine jr_icmp_eq 87 d_Mo_takes_66 (by decide) (fun z => absurd z (by decide)) (fun _ => ?_)
  refine jr_iload_n d_Mo_takes_69 rfl ?_
  refine jr_bipush ((nI (13))) d_Mo_takes_70 (by decide) ?_
  refine jr_icmp_eq 87 d_Mo_takes_72 (by decide) (fun z => absurd z (by decide)) (fun _ => ?_)
  refine jr_iload_n d_Mo_takes_75 rfl ?_
  refine jr_bipush ((nI (20))) d_Mo_takes_76 (by decide) ?_
  refine jr_icmp_eq 87 d_Mo_takes_78 (by decide) (fun z => absurd z (by decide)) (fun _ => ?_)
  refine jr_iload_n d_Mo_takes_81 rfl ?_
  refine jr_bipush ((nI (25))) d_Mo_takes_82 (by decide) ?_
  refine jr_icmp_ne 89 d_Mo_takes_84 (by decide) (fun _ => ?_) (fun z => absurd z (by decide))
  refine jr_iload_n d_Mo_takes_89 rfl ?_
  refine jr_bipush ((nI (21))) d_Mo_takes_90 (by decide) ?_
  refine jr_icmp_ne 99 d_Mo_takes_92 (by decide) (fun _ => ?_) (fun z => absurd z (by decide))
  refine jr_iconst ((nI (1))) d_Mo_takes_99 (by decide) ?_
  exact jr_iretE d_Mo_takes_100 rfl (rfl) (rfl) (by decide) (by decide)
theorem mo_tk_13 (hl : l.stackTraces = false) {x : Int32} (hO : MoO σ fa vf wh wy hg dp md ov oh dn an) (hw : MoW σ tb pr ow ft hs) (hu : MoM σ u1 u2 ur ul uo ua uc us ut uk)   : jl_m l G m_Mo_takes [.ref 22, .int (nI 13), .int (x)] σ (.inl (some (.int (nI (tk0 13))))) (σ) := by
  obtain ⟨h23, h24, h25, h26, h27⟩ := id hw
  obtain ⟨h28, h29, h30, h31, h32, h33, h34, h35, h36, h37⟩ := id hu
  refine jl_of (as := [.ref 22, .int (nI 13), .int (x)]) rfl (by decide) hl (jl_cc rfl (jl_cc rfl (jl_cc rfl jl_ca))) (Nat.le_of_ble_eq_true rfl) ?_
  show jl_W l G m_Mo_takes (0, 0) 0 [some (.ref 22), some (.int (nI 13)), some (.int (x))] [] (σ) (.inl (some (.int (nI (tk0 13))))) (σ)
  refine jr_iload_n d_Mo_takes_0 rfl ?_
  refine jr_bipush ((nI (14))) d_Mo_takes_1 (by decide) ?_
  refine jr_icmp_ne 23 d_Mo_takes_3 (by decide) (fun _ => ?_) (fun z => absurd z (by decide))
  refine jr_iload_n d_Mo_takes_23 rfl ?_
  refine jr_if_eq 50 d_Mo_takes_24 (by decide) (fun z => absurd z (by decide)) (fun _ => ?_)
  refine jr_iload_n d_Mo_takes_27 rfl ?_
  refine jr_iconst ((nI (1))) d_Mo_takes_28 (by decide) ?_
  refine jr_icmp_eq 50 d_Mo_takes_29 (by decide) (fun z => absurd z (by decide)) (fun _ => ?_)
  refine jr_iload_n d_Mo_takes_32 rfl ?_
  refine jr_bipush ((nI (7))) d_Mo_takes_33 (by decide) ?_
  refine jr_icmp_eq 50 d_Mo_takes_35 (by decide) (fun z => absurd z (by decide)) (fun _ => ?_)
  refine jr_iload_n d_Mo_takes_38 rfl ?_
  refine jr_bipush ((nI (10))) d_Mo_takes_39 (by decide) ?_
  refine jr_icmp_eq 50 d_Mo_takes_41 (by decide) (fun z => absurd z (by decide)) (fun _ => ?_)
  refine jr_iload_n d_Mo_takes_44 rfl ?_
  refine jr_bipush ((nI (11))) d_Mo_takes_45 (by decide) ?_
  refine jr_icmp_ne 52 d_Mo_takes_47 (by decide) (fun _ => ?_) (fun z => absurd z (by decide))
  refine jr_iload_n d_Mo_takes_52 rfl ?_
  refine jr_iconst ((nI (3))) d_Mo_takes_53 (by decide) ?_
  refine jr_icmp_lt 63 d_Mo_takes_54 (by decide) (fun z => absurd z (by decide)) (fun _ => ?_)
  refine jr_iload_n d_Mo_takes_57 rfl ?_
  refine jr_bipush ((nI (6))) d_Mo_takes_58 (by decide) ?_
  refine jr_icmp_le 87 d_Mo_takes_60 (by decide) (fun z => absurd z (by decide)) (fun _ => ?_)
  refine jr_iload_n d_Mo_takes_63 rfl ?_
  refine jr_bipush ((nI (9))) d_Mo_takes_64 (by decide) ?_
  refine jr_icmp_eq 87 d_Mo_takes_66 (by decide) (fun z => absurd z (by decide)) (fun _ => ?_)
  refine jr_iload_n d_Mo_takes_69 rfl ?_
  refine jr_bipush ((nI (13))) d_Mo_takes_70 (by decide) ?_
  refine jr_icmp_eq 87 d_Mo_takes_72 (by decide) (fun _ => ?_) (fun z => absurd (by decide) z)
  refine jr_iconst ((nI (2))) d_Mo_takes_87 (by decide) ?_
  exact jr_iretE d_Mo_takes_88 rfl (rfl) (rfl) (by decide) (by decide)
theorem mo_tk_15 (hl : l.stackTraces = false) {x : Int32} (hO : MoO σ fa vf wh wy hg dp md ov oh dn an) (hw : MoW σ tb pr ow ft hs) (hu : MoM σ u1 u2 ur ul uo ua uc us ut uk)   : jl_m l G m_Mo_takes [.ref 22, .int (nI 15), .int (x)] σ (.inl (some (.int (nI (tk0 15))))) (σ) := by
  obtain ⟨h23, h24, h25, h26, h27⟩ := id hw
  obtain ⟨h28, h29, h30, h31, h32, h33, h34, h35, h36, h37⟩ := id hu
  refine jl_of (as := [.ref 22, .int (nI 15), .int (x)]) rfl (by decide) hl (jl_cc rfl (jl_cc rfl (jl_cc rfl jl_ca))) (Nat.le_of_ble_eq_true rfl) ?_
  show jl_W l G m_Mo_takes (0, 0) 0 [some (.ref 22), some (.int (nI 15)), some (.int (x))] [] (σ) (.inl (some (.int (nI (tk0 15))))) (σ)
  refine jr_iload_n d_Mo_takes_0 rfl ?_
  refine jr_bipush ((nI (14))) d_Mo_takes_1 (by decide) ?_
  refine jr_icmp_ne 23 d_Mo_takes_3 (by decide) (fun _ => ?_) (fun z => absurd z (by decide))
  refine jr_iload_n d_Mo_takes_23 rfl ?_
  refine jr_if_eq 50 d_Mo_takes_24 (by decide) (fun z => absurd z (by decide)) (fun _ => ?_)
  refine jr_iload_n d_Mo_takes_27 rfl ?_
  refine jr_iconst ((nI (1))) d_Mo_takes_28 (by decide) ?_
  refine jr_icmp_eq 50 d_Mo_takes_29 (by decide) (fun z => absurd z (by decide)) (fun _ => ?_)
  refine jr_iload_n d_Mo_takes_32 rfl ?_
  refine jr_bipush ((nI (7))) d_Mo_takes_33 (by decide) ?_
  refine jr_icmp_eq 50 d_Mo_takes_35 (by decide) (fun z => absurd z (by decide)) (fun _ => ?_)
  refine jr_iload_n d_Mo_takes_38 rfl ?_
  refine jr_bipush ((nI (10))) d_Mo_takes_39 (by decide) ?_
  refine jr_icmp_eq 50 d_Mo_takes_41 (by decide) (fun z => absurd z (by decide)) (fun _ => ?_)
  refine jr_iload_n d_Mo_takes_44 rfl ?_
  refine jr_bipush ((nI (11))) d_Mo_takes_45 (by decide) ?_
  refine jr_icmp_ne 52 d_Mo_takes_47 (by decide) (fun _ => ?_) (fun z => absurd z (by decide))
  refine jr_iload_n d_Mo_takes_52 rfl ?_
  refine jr_iconst ((nI (3))) d_Mo_takes_53 (by decide) ?_
  refine jr_icmp_lt 63 d_Mo_takes_54 (by decide) (fun z => absurd z (by decide)) (fun _ => ?_)
  refine jr_iload_n d_Mo_takes_57 rfl ?_
  refine jr_bipush ((nI (6))) d_Mo_takes_58 (by decide) ?_
  refine jr_icmp_le 87 d_Mo_takes_60 (by decide) (fun z => absurd z (by decide)) (fun _ => ?_)
  refine jr_iload_n d_Mo_takes_63 rfl ?_
  refine jr_bipush ((nI (9))) d_Mo_takes_64 (by decide) ?_
  refine jr_icmp_eq 87 d_Mo_takes_66 (by decide) (fun z => absurd z (by decide)) (fun _ => ?_)
  refine jr_iload_n d_Mo_takes_69 rfl ?_
  refine jr_bipush ((nI (13))) d_Mo_takes_70 (by decide) ?_
  refine jr_icmp_eq 87 d_Mo_takes_72 (by decide) (fun z => absurd z (by decide)) (fun _ => ?_)
  refine jr_iload_n d_Mo_takes_75 rfl ?_
  refine jr_bipush ((nI (20))) d_Mo_takes_76 (by decide) ?_
  refine jr_icmp_eq 87 d_Mo_takes_78 (by decide) (fun z => absurd z (by decide)) (fun _ => ?_)
  refine jr_iload_n d_Mo_takes_81 rfl ?_
  refine jr_bipush ((nI (25))) d_Mo_takes_82 (by decide) ?_
  refine jr_icmp_ne 89 d_Mo_takes_84 (by decide) (fun _ => ?_) (fun z => absurd z (by decide))
  refine jr_iload_n d_Mo_takes_89 rfl ?_
  refine jr_bipush ((nI (21))) d_Mo_takes_90 (by decide) ?_
  refine jr_icmp_ne 99 d_Mo_takes_92 (by decide) (fun _ => ?_) (fun z => absurd z (by decide))
  refine jr_iconst ((nI (1))) d_Mo_takes_99 (by decide) ?_
  exact jr_iretE d_Mo_takes_100 rfl (rfl) (rfl) (by decide) (by decide)
theorem mo_tk_16 (hl : l.stackTraces = false) {x : Int32} (hO : MoO σ fa vf wh wy hg dp md ov oh dn an) (hw : MoW σ tb pr ow ft hs) (hu : MoM σ u1 u2 ur ul uo ua uc us ut uk)   : jl_m l G m_Mo_takes [.ref 22, .int (nI 16), .int (x)] σ (.inl (some (.int (nI (tk0 16))))) (σ) := by
  obtain ⟨h23, h24, h25, h26, h27⟩ := id hw
  obtain ⟨h28, h29, h30, h31, h32, h33, h34, h35, h36, h37⟩ := id hu
  refine jl_of (as := [.ref 22, .int (nI 16), .int (x)]) rfl (by decide) hl (jl_cc rfl (jl_cc rfl (jl_cc rfl jl_ca))) (Nat.le_of_ble_eq_true rfl) ?_
  show jl_W l G m_Mo_takes (0, 0) 0 [some (.ref 22), some (.int (nI 16)), some (.int (x))] [] (σ) (.inl (some (.int (nI (tk0 16))))) (σ)
  refine jr_iload_n d_Mo_takes_0 rfl ?_
  refine jr_bipush ((nI (14))) d_Mo_takes_1 (by decide) ?_
  refine jr_icmp_ne 23 d_Mo_takes_3 (by decide) (fun _ => ?_) (fun z => absurd z (by decide))
  refine jr_iload_n d_Mo_takes_23 rfl ?_
  refine jr_if_eq 50 d_Mo_takes_24 (by decide) (fun z => absurd z (by decide)) (fun _ => ?_)
  refine jr_iload_n d_Mo_takes_27 rfl ?_
  refine jr_iconst ((nI (1))) d_Mo_takes_28 (by decide) ?_
  refine jr_icmp_eq 50 d_Mo_takes_29 (by decide) (fun z => absurd z (by decide)) (fun _ => ?_)
  refine jr_iload_n d_Mo_takes_32 rfl ?_
  refine jr_bipush ((nI (7))) d_Mo_takes_33 (by decide) ?_
  refine jr_icmp_eq 50 d_Mo_takes_35 (by decide) (fun z => absurd z (by decide)) (fun _ => ?_)
  refine jr_iload_n d_Mo_takes_38 rfl ?_
  refine jr_bipush ((nI (10))) d_Mo_takes_39 (by decide) ?_
  refine jr_icmp_eq 50 d_Mo_takes_41 (by decide) (fun z => absurd z (by decide)) (fun _ => ?_)
  refine jr_iload_n d_Mo_takes_44 rfl ?_
  refine jr_bipush ((nI (11))) d_Mo_takes_45 (by decide) ?_
  refine jr_icmp_ne 52 d_Mo_takes_47 (by decide) (fun _ => ?_) (fun z => absurd z (by decide))
  refine jr_iload_n d_Mo_takes_52 rfl ?_
  refine jr_iconst ((nI (3))) d_Mo_takes_53 (by decide) ?_
  refine jr_icmp_lt 63 d_Mo_takes_54 (by decide) (fun z => absurd z (by decide)) (fun _ => ?_)
  refine jr_iload_n d_Mo_takes_57 rfl ?_
  refine jr_bipush ((nI (6))) d_Mo_takes_58 (by decide) ?_
  refine jr_icmp_le 87 d_Mo_takes_60 (by decide) (fun z => absurd z (by decide)) (fun _ => ?_)
  refine jr_iload_n d_Mo_takes_63 rfl ?_
  refine jr_bipush ((nI (9))) d_Mo_takes_64 (by decide) ?_
  refine jr_icmp_eq 87 d_Mo_takes_66 (by decide) (fun z => absurd z (by decide)) (fun _ => ?_)
  refine jr_iload_n d_Mo_takes_69 rfl ?_
  refine jr_bipush ((nI (13))) d_Mo_takes_70 (by decide) ?_
  refine jr_icmp_eq 87 d_Mo_takes_72 (by decide) (fun z => absurd z (by decide)) (fun _ => ?_)
  refine jr_iload_n d_Mo_takes_75 rfl ?_
  refine jr_bipush ((nI (20))) d_Mo_takes_76 (by decide) ?_
  refine jr_icmp_eq 87 d_Mo_takes_78 (by decide) (fun z => absurd z (by decide)) (fun _ => ?_)
  refine jr_iload_n d_Mo_takes_81 rfl ?_
  refine jr_bipush ((nI (25))) d_Mo_takes_82 (by decide) ?_
  refine jr_icmp_ne 89 d_Mo_takes_84 (by decide) (fun _ => ?_) (fun z => absurd z (by decide))
  refine jr_iload_n d_Mo_takes_89 rfl ?_
  refine jr_bipush ((nI (21))) d_Mo_takes_90 (by decide) ?_
  refine jr_icmp_ne 99 d_Mo_takes_92 (by decide) (fun _ => ?_) (fun z => absurd z (by decide))
  refine jr_iconst ((nI (1))) d_Mo_takes_99 (by decide) ?_
  exact jr_iretE d_Mo_takes_100 rfl (rfl) (rfl) (by decide) (by decide)
theorem mo_tk_17 (hl : l.stackTraces = false) {x : Int32} (hO : MoO σ fa vf wh wy hg dp md ov oh dn an) (hw : MoW σ tb pr ow ft hs) (hu : MoM σ u1 u2 ur ul uo ua uc us ut uk)   : jl_m l G m_Mo_takes [.ref 22, .int (nI 17), .int (x)] σ (.inl (some (.int (nI (tk0 17))))) (σ) := by
  obtain ⟨h23, h24, h25, h26, h27⟩ := id hw
  obtain ⟨h28, h29, h30, h31, h32, h33, h34, h35, h36, h37⟩ := id hu
  refine jl_of (as := [.ref 22, .int (nI 17), .int (x)]) rfl (by decide) hl (jl_cc rfl (jl_cc rfl (jl_cc rfl jl_ca))) (Nat.le_of_ble_eq_true rfl) ?_
  show jl_W l G m_Mo_takes (0, 0) 0 [some (.ref 22), some (.int (nI 17)), some (.int (x))] [] (σ) (.inl (some (.int (nI (tk0 17))))) (σ)
  refine jr_iload_n d_Mo_takes_0 rfl ?_
  refine jr_bipush ((nI (14))) d_Mo_takes_1 (by decide) ?_
  refine jr_icmp_ne 23 d_Mo_takes_3 (by decide) (fun _ => ?_) (fun z => absurd z (by decide))
  refine jr_iload_n d_Mo_takes_23 rfl ?_
  refine jr_if_eq 50 d_Mo_takes_24 (by decide) (fun z => absurd z (by decide)) (fun _ => ?_)
  refine jr_iload_n d_Mo_takes_27 rfl ?_
  refine jr_iconst ((nI (1))) d_Mo_takes_28 (by decide) ?_
  refine jr_icmp_eq 50 d_Mo_takes_29 (by decide) (fun z => absurd z (by decide)) (fun _ => ?_)
  refine jr_iload_n d_Mo_takes_32 rfl ?_
  refine jr_bipush ((nI (7))) d_Mo_takes_33 (by decide) ?_
  refine jr_icmp_eq 50 d_Mo_takes_35 (by decide) (fun z => absurd z (by decide)) (fun _ => ?_)
  refine jr_iload_n d_Mo_takes_38 rfl ?_
  refine jr_bipush ((nI (10))) d_Mo_takes_39 (by decide) ?_
  refine jr_icmp_eq 50 d_Mo_takes_41 (by decide) (fun z => absurd z (by decide)) (fun _ => ?_)
  refine jr_iload_n d_Mo_takes_44 rfl ?_
  refine jr_bipush ((nI (11))) d_Mo_takes_45 (by decide) ?_
  refine jr_icmp_ne 52 d_Mo_takes_47 (by decide) (fun _ => ?_) (fun z => absurd z (by decide))
  refine jr_iload_n d_Mo_takes_52 rfl ?_
  refine jr_iconst ((nI (3))) d_Mo_takes_53 (by decide) ?_
  refine jr_icmp_lt 63 d_Mo_takes_54 (by decide) (fun z => absurd z (by decide)) (fun _ => ?_)
  refine jr_iload_n d_Mo_takes_57 rfl ?_
  refine jr_bipush ((nI (6))) d_Mo_takes_58 (by decide) ?_
  refine jr_icmp_le 87 d_Mo_takes_60 (by decide) (fun z => absurd z (by decide)) (fun _ => ?_)
  refine jr_iload_n d_Mo_takes_63 rfl ?_
  refine jr_bipush ((nI (9))) d_Mo_takes_64 (by decide) ?_
  refine jr_icmp_eq 87 d_Mo_takes_66 (by decide) (fun z => absurd z (by decide)) (fun _ => ?_)
  refine jr_iload_n d_Mo_takes_69 rfl ?_
  refine jr_bipush ((nI (13))) d_Mo_takes_70 (by decide) ?_
  refine jr_icmp_eq 87 d_Mo_takes_72 (by decide) (fun z => absurd z (by decide)) (fun _ => ?_)
  refine jr_iload_n d_Mo_takes_75 rfl ?_
  refine jr_bipush ((nI (20))) d_Mo_takes_76 (by decide) ?_
  refine jr_icmp_eq 87 d_Mo_takes_78 (by decide) (fun z => absurd z (by decide)) (fun _ => ?_)
  refine jr_iload_n d_Mo_takes_81 rfl ?_
  refine jr_bipush ((nI (25))) d_Mo_takes_82 (by decide) ?_
  refine jr_icmp_ne 89 d_Mo_takes_84 (by decide) (fun _ => ?_) (fun z => absurd z (by decide))
  refine jr_iload_n d_Mo_takes_89 rfl ?_
  refine jr_bipush ((nI (21))) d_Mo_takes_90 (by decide) ?_
  refine jr_icmp_ne 99 d_Mo_takes_92 (by decide) (fun _ => ?_) (fun z => absurd z (by decide))
  refine jr_iconst ((nI (1))) d_Mo_takes_99 (by decide) ?_
  exact jr_iretE d_Mo_takes_100 rfl (rfl) (rfl) (by decide) (by decide)
theorem mo_tk_18 (hl : l.stackTraces = false) {x : Int32} (hO : MoO σ fa vf wh wy hg dp md ov oh dn an) (hw : MoW σ tb pr ow ft hs) (hu : MoM σ u1 u2 ur ul uo ua uc us ut uk)   : jl_m l G m_Mo_takes [.ref 22, .int (nI 18), .int (x)] σ (.inl (some (.int (nI (tk0 18))))) (σ) := by
  obtain ⟨h23, h24, h25, h26, h27⟩ := id hw
  obtain ⟨h28, h29, h30, h31, h32, h33, h34, h35, h36, h37⟩ := id hu
  refine jl_of (as := [.ref 22, .int (nI 18), .int (x)]) rfl (by decide) hl (jl_cc rfl (jl_cc rfl (jl_cc rfl jl_ca))) (Nat.le_of_ble_eq_true rfl) ?_
  show jl_W l G m_Mo_takes (0, 0) 0 [some (.ref 22), some (.int (nI 18)), some (.int (x))] [] (σ) (.inl (some (.int (nI (tk0 18))))) (σ)
  refine jr_iload_n d_Mo_takes_0 rfl ?_
  refine jr_bipush ((nI (14))) d_Mo_takes_1 (by decide) ?_
  refine jr_icmp_ne 23 d_Mo_takes_3 (by decide) (fun _ => ?_) (fun z => absurd z (by decide))
  refine jr_iload_n d_Mo_takes_23 rfl ?_
  refine jr_if_eq 50 d_Mo_takes_24 (by decide) (fun z => absurd z (by decide)) (fun _ => ?_)
  refine jr_iload_n d_Mo_takes_27 rfl ?_
  refine jr_iconst ((nI (1))) d_Mo_takes_28 (by decide) ?_
  refine jr_icmp_eq 50 d_Mo_takes_29 (by decide) (fun z => absurd z (by decide)) (fun _ => ?_)
  refine jr_iload_n d_Mo_takes_32 rfl ?_
  refine jr_bipush ((nI (7))) d_Mo_takes_33 (by decide) ?_
  refine jr_icmp_eq 50 d_Mo_takes_35 (by decide) (fun z => absurd z (by decide)) (fun _ => ?_)
  refine jr_iload_n d_Mo_takes_38 rfl ?_
  refine jr_bipush ((nI (10))) d_Mo_takes_39 (by decide) ?_
  refine jr_icmp_eq 50 d_Mo_takes_41 (by decide) (fun z => absurd z (by decide)) (fun _ => ?_)
  refine jr_iload_n d_Mo_takes_44 rfl ?_
  refine jr_bipush ((nI (11))) d_Mo_takes_45 (by decide) ?_
  refine jr_icmp_ne 52 d_Mo_takes_47 (by decide) (fun _ => ?_) (fun z => absurd z (by decide))
  refine jr_iload_n d_Mo_takes_52 rfl ?_
  refine jr_iconst ((nI (3))) d_Mo_takes_53 (by decide) ?_
  refine jr_icmp_lt 63 d_Mo_takes_54 (by decide) (fun z => absurd z (by decide)) (fun _ => ?_)
  refine jr_iload_n d_Mo_takes_57 rfl ?_
  refine jr_bipush ((nI (6))) d_Mo_takes_58 (by decide) ?_
  refine jr_icmp_le 87 d_Mo_takes_60 (by decide) (fun z => absurd z (by decide)) (fun _ => ?_)
  refine jr_iload_n d_Mo_takes_63 rfl ?_
  refine jr_bipush ((nI (9))) d_Mo_takes_64 (by decide) ?_
  refine jr_icmp_eq 87 d_Mo_takes_66 (by decide) (fun z => absurd z (by decide)) (fun _ => ?_)
  refine jr_iload_n d_Mo_takes_69 rfl ?_
  refine jr_bipush ((nI (13))) d_Mo_takes_70 (by decide) ?_
  refine jr_icmp_eq 87 d_Mo_takes_72 (by decide) (fun z => absurd z (by decide)) (fun _ => ?_)
  refine jr_iload_n d_Mo_takes_75 rfl ?_
  refine jr_bipush ((nI (20))) d_Mo_takes_76 (by decide) ?_
  refine jr_icmp_eq 87 d_Mo_takes_78 (by decide) (fun z => absurd z (by decide)) (fun _ => ?_)
  refine jr_iload_n d_Mo_takes_81 rfl ?_
  refine jr_bipush ((nI (25))) d_Mo_takes_82 (by decide) ?_
  refine jr_icmp_ne 89 d_Mo_takes_84 (by decide) (fun _ => ?_) (fun z => absurd z (by decide))
  refine jr_iload_n d_Mo_takes_89 rfl ?_
  refine jr_bipush ((nI (21))) d_Mo_takes_90 (by decide) ?_
  refine jr_icmp_ne 99 d_Mo_takes_92 (by decide) (fun _ => ?_) (fun z => absurd z (by decide))
  refine jr_iconst ((nI (1))) d_Mo_takes_99 (by decide) ?_
  exact jr_iretE d_Mo_takes_100 rfl (rfl) (rfl) (by decide) (by decide)
theorem mo_tk_19 (hl : l.stackTraces = false) {x : Int32} (hO : MoO σ fa vf wh wy hg dp md ov oh dn an) (hw : MoW σ tb pr ow ft hs) (hu : MoM σ u1 u2 ur ul uo ua uc us ut uk)   : jl_m l G m_Mo_takes [.ref 22, .int (nI 19), .int (x)] σ (.inl (some (.int (nI (tk0 19))))) (σ) := by
  obtain ⟨h23, h24, h25, h26, h27⟩ := id hw
  obtain ⟨h28, h29, h30, h31, h32, h33, h34, h35, h36, h37⟩ := id hu
  refine jl_of (as := [.ref 22, .int (nI 19), .int (x)]) rfl (by decide) hl (jl_cc rfl (jl_cc rfl (jl_cc rfl jl_ca))) (Nat.le_of_ble_eq_true rfl) ?_
  show jl_W l G m_Mo_takes (0, 0) 0 [some (.ref 22), some (.int (nI 19)), some (.int (x))] [] (σ) (.inl (some (.int (nI (tk0 19))))) (σ)
  refine jr_iload_n d_Mo_takes_0 rfl ?_
  refine jr_bipush ((nI (14))) d_Mo_takes_1 (by decide) ?_
  refine jr_icmp_ne 23 d_Mo_takes_3 (by decide) (fun _ => ?_) (fun z => absurd z (by decide))
  refine jr_iload_n d_Mo_takes_23 rfl ?_
  refine jr_if_eq 50 d_Mo_takes_24 (by decide) (fun z => absurd z (by decide)) (fun _ => ?_)
  refine jr_iload_n d_Mo_takes_27 rfl ?_
  refine jr_iconst ((nI (1))) d_Mo_takes_28 (by decide) ?_
  refine jr_icmp_eq 50 d_Mo_takes_29 (by decide) (fun z => absurd z (by decide)) (fun _ => ?_)
  refine jr_iload_n d_Mo_takes_32 rfl ?_
  refine jr_bipush ((nI (7))) d_Mo_takes_33 (by decide) ?_
  refine jr_icmp_eq 50 d_Mo_takes_35 (by decide) (fun z => absurd z (by decide)) (fun _ => ?_)
  refine jr_iload_n d_Mo_takes_38 rfl ?_
  refine jr_bipush ((nI (10))) d_Mo_takes_39 (by decide) ?_
  refine jr_icmp_eq 50 d_Mo_takes_41 (by decide) (fun z => absurd z (by decide)) (fun _ => ?_)
  refine jr_iload_n d_Mo_takes_44 rfl ?_
  refine jr_bipush ((nI (11))) d_Mo_takes_45 (by decide) ?_
  refine jr_icmp_ne 52 d_Mo_takes_47 (by decide) (fun _ => ?_) (fun z => absurd z (by decide))
  refine jr_iload_n d_Mo_takes_52 rfl ?_
  refine jr_iconst ((nI (3))) d_Mo_takes_53 (by decide) ?_
  refine jr_icmp_lt 63 d_Mo_takes_54 (by decide) (fun z => absurd z (by decide)) (fun _ => ?_)
  refine jr_iload_n d_Mo_takes_57 rfl ?_
  refine jr_bipush ((nI (6))) d_Mo_takes_58 (by decide) ?_
  refine jr_icmp_le 87 d_Mo_takes_60 (by decide) (fun z => absurd z (by decide)) (fun _ => ?_)
  refine jr_iload_n d_Mo_takes_63 rfl ?_
  refine jr_bipush ((nI (9))) d_Mo_takes_64 (by decide) ?_
  refine jr_icmp_eq 87 d_Mo_takes_66 (by decide) (fun z => absurd z (by decide)) (fun _ => ?_)
  refine jr_iload_n d_Mo_takes_69 rfl ?_
  refine jr_bipush ((nI (13))) d_Mo_takes_70 (by decide) ?_
  refine jr_icmp_eq 87 d_Mo_takes_72 (by decide) (fun z => absurd z (by decide)) (fun _ => ?_)
  refine jr_iload_n d_Mo_takes_75 rfl ?_
  refine jr_bipush ((nI (20))) d_Mo_takes_76 (by decide) ?_
  refine jr_icmp_eq 87 d_Mo_takes_78 (by decide) (fun z => absurd z (by decide)) (fun _ => ?_)
  refine jr_iload_n d_Mo_takes_81 rfl ?_
  refine jr_bipush ((nI (25))) d_Mo_takes_82 (by decide) ?_
  refine jr_icmp_ne 89 d_Mo_takes_84 (by decide) (fun _ => ?_) (fun z => absurd z (by decide))
  refine jr_iload_n d_Mo_takes_89 rfl ?_
  refine jr_bipush ((nI (21))) d_Mo_takes_90 (by decide) ?_
  refine jr_icmp_ne 99 d_Mo_takes_92 (by decide) (fun _ => ?_) (fun z => absurd z (by decide))
  refine jr_iconst ((nI (1))) d_Mo_takes_99 (by decide) ?_
  exact jr_iretE d_Mo_takes_100 rfl (rfl) (rfl) (by decide) (by decide)
theorem mo_tk_20 (hl : l.stackTraces = false) {x : Int32} (hO : MoO σ fa vf wh wy hg dp md ov oh dn an) (hw : MoW σ tb pr ow ft hs) (hu : MoM σ u1 u2 ur ul uo ua uc us ut uk)   : jl_m l G m_Mo_takes [.ref 22, .int (nI 20), .int (x)] σ (.inl (some (.int (nI (tk0 20))))) (σ) := by
  obtain ⟨h23, h24, h25, h26, h27⟩ := id hw
  obtain ⟨h28, h29, h30, h31, h32, h33, h34, h35, h36, h37⟩ := id hu
  refine jl_of (as := [.ref 22, .int (nI 20), .int (x)]) rfl (by decide) hl (jl_cc rfl (jl_cc rfl (jl_cc rfl jl_ca))) (Nat.le_of_ble_eq_true rfl) ?_
  show jl_W l G m_Mo_takes (0, 0) 0 [some (.ref 22), some (.int (nI 20)), some (.int (x))] [] (σ) (.inl (some (.int (nI (tk0 20))))) (σ)
  refine jr_iload_n d_Mo_takes_0 rfl ?_
  refine jr_bipush ((nI (14))) d_Mo_takes_1 (by decide) ?_
  refine jr_icmp_ne 23 d_Mo_takes_3 (by decide) (fun _ => ?_) (fun z => absurd z (by decide))
  refine jr_iload_n d_Mo_takes_23 rfl ?_
  refine jr_if_eq 50 d_Mo_takes_24 (by decide) (fun z => absurd z (by decide)) (fun _ => ?_)
  refine jr_iload_n d_Mo_takes_27 rfl ?_
  refine jr_iconst ((nI (1))) d_Mo_takes_28 (by decide) ?_
  refine jr_icmp_eq 50 d_Mo_takes_29 (by decide) (fun z => absurd z (by decide)) (fun _ => ?_)
  refine jr_iload_n d_Mo_takes_32 rfl ?_
  refine jr_bipush ((nI (7))) d_Mo_takes_33 (by decide) ?_
  refine jr_icmp_eq 50 d_Mo_takes_35 (by decide) (fun z => absurd z (by decide)) (fun _ => ?_)
  refine jr_iload_n d_Mo_takes_38 rfl ?_
  refine jr_bipush ((nI (10))) d_Mo_takes_39 (by decide) ?_
  refine jr_icmp_eq 50 d_Mo_takes_41 (by decide) (fun z => absurd z (by decide)) (fun _ => ?_)
  refine jr_iload_n d_Mo_takes_44 rfl ?_
  refine jr_bipush ((nI (11))) d_Mo_takes_45 (by decide) ?_
  refine jr_icmp_ne 52 d_Mo_takes_47 (by decide) (fun _ => ?_) (fun z => absurd z (by decide))
  refine jr_iload_n d_Mo_takes_52 rfl ?_
  refine jr_iconst ((nI (3))) d_Mo_takes_53 (by decide) ?_
  refine jr_icmp_lt 63 d_Mo_takes_54 (by decide) (fun z => absurd z (by decide)) (fun _ => ?_)
  refine jr_iload_n d_Mo_takes_57 rfl ?_
  refine jr_bipush ((nI (6))) d_Mo_takes_58 (by decide) ?_
  refine jr_icmp_le 87 d_Mo_takes_60 (by decide) (fun z => absurd z (by decide)) (fun _ => ?_)
  refine jr_iload_n d_Mo_takes_63 rfl ?_
  refine jr_bipush ((nI (9))) d_Mo_takes_64 (by decide) ?_
  refine jr_icmp_eq 87 d_Mo_takes_66 (by decide) (fun z => absurd z (by decide)) (fun _ => ?_)
  refine jr_iload_n d_Mo_takes_69 rfl ?_
  refine jr_bipush ((nI (13))) d_Mo_takes_70 (by decide) ?_
  refine jr_icmp_eq 87 d_Mo_takes_72 (by decide) (fun z => absurd z (by decide)) (fun _ => ?_)
  refine jr_iload_n d_Mo_takes_75 rfl ?_
  refine jr_bipush ((nI (20))) d_Mo_takes_76 (by decide) ?_
  refine jr_icmp_eq 87 d_Mo_takes_78 (by decide) (fun _ => ?_) (fun z => absurd (by decide) z)
  refine jr_iconst ((nI (2))) d_Mo_takes_87 (by decide) ?_
  exact jr_iretE d_Mo_takes_88 rfl (rfl) (rfl) (by decide) (by decide)
theorem d_Mo_takes_95 : decode m_Mo_takes.2.1 95 = .ok (.iconst 3, 1) := by decide +kernel
theorem d_Mo_takes_96 : decode m_Mo_takes.2.1 96 = .ok (.goto 4, 3) := by decide +kernel
theorem mo_tk_21 (hl : l.stackTraces = false) {x : Int32} (hO : MoO σ fa vf wh wy hg dp md ov oh dn an) (hw : MoW σ tb pr ow ft hs) (hu : MoM σ u1 u2 ur ul uo ua uc us ut uk)   : jl_m l G m_Mo_takes [.ref 22, .int (nI 21), .int (x)] σ (.inl (some (.int (nI (tk0 21))))) (σ) := by
  obtain ⟨h23, h24, h25, h26, h27⟩ := id hw
  obtain ⟨h28, h29, h30, h31, h32, h33, h34, h35, h36, h37⟩ := id hu
  refine jl_of (as := [.ref 22, .int (nI 21), .int (x)]) rfl (by decide) hl (jl_cc rfl (jl_cc rfl (jl_cc rfl jl_ca))) (Nat.le_of_ble_eq_true rfl) ?_
  show jl_W l G m_Mo_takes (0, 0) 0 [some (.ref 22), some (.int (nI 21)), some (.int (x))] [] (σ) (.inl (some (.int (nI (tk0 21))))) (σ)
  refine jr_iload_n d_Mo_takes_0 rfl ?_
  refine jr_bipush ((nI (14))) d_Mo_takes_1 (by decide) ?_
  refine jr_icmp_ne 23 d_Mo_takes_3 (by decide) (fun _ => ?_) (fun z => absurd z (by decide))
  refine jr_iload_n d_Mo_takes_23 rfl ?_
  refine jr_if_eq 50 d_Mo_takes_24 (by decide) (fun z => absurd z (by decide)) (fun _ => ?_)
  refine jr_iload_n d_Mo_takes_27 rfl ?_
  refine jr_iconst ((nI (1))) d_Mo_takes_28 (by decide) ?_
  refine jr_icmp_eq 50 d_Mo_takes_29 (by decide) (fun z => absurd z (by decide)) (fun _ => ?_)
  refine jr_iload_n d_Mo_takes_32 rfl ?_
  refine jr_bipush ((nI (7))) d_Mo_takes_33 (by decide) ?_
  refine jr_icmp_eq 50 d_Mo_takes_35 (by decide) (fun z => absurd z (by decide)) (fun _ => ?_)
  refine jr_iload_n d_Mo_takes_38 rfl ?_
  refine jr_bipush ((nI (10))) d_Mo_takes_39 (by decide) ?_
  refine jr_icmp_eq 50 d_Mo_takes_41 (by decide) (fun z => absurd z (by decide)) (fun _ => ?_)
  refine jr_iload_n d_Mo_takes_44 rfl ?_
  refine jr_bipush ((nI (11))) d_Mo_takes_45 (by decide) ?_
  refine jr_icmp_ne 52 d_Mo_takes_47 (by decide) (fun _ => ?_) (fun z => absurd z (by decide))
  refine jr_iload_n d_Mo_takes_52 rfl ?_
  refine jr_iconst ((nI (3))) d_Mo_takes_53 (by decide) ?_
  refine jr_icmp_lt 63 d_Mo_takes_54 (by decide) (fun z => absurd z (by decide)) (fun _ => ?_)
  refine jr_iload_n d_Mo_takes_57 rfl ?_
  refine jr_bipush ((nI (6))) d_Mo_takes_58 (by decide) ?_
  refine jr_icmp_le 87 d_Mo_takes_60 (by decide) (fun z => absurd z (by decide)) (fun _ => ?_)
  refine jr_iload_n d_Mo_takes_63 rfl ?_
  refine jr_bipush ((nI (9))) d_Mo_takes_64 (by decide) ?_
  refine jr_icmp_eq 87 d_Mo_takes_66 (by decide) (fun z => absurd z (by decide)) (fun _ => ?_)
  refine jr_iload_n d_Mo_takes_69 rfl ?_
  refine jr_bipush ((nI (13))) d_Mo_takes_70 (by decide) ?_
  refine jr_icmp_eq 87 d_Mo_takes_72 (by decide) (fun z => absurd z (by decide)) (fun _ => ?_)
  refine jr_iload_n d_Mo_takes_75 rfl ?_
  refine jr_bipush ((nI (20))) d_Mo_takes_76 (by decide) ?_
  refine jr_icmp_eq 87 d_Mo_takes_78 (by decide) (fun z => absurd z (by decide)) (fun _ => ?_)
  refine jr_iload_n d_Mo_takes_81 rfl ?_
  refine jr_bipush ((nI (25))) d_Mo_takes_82 (by decide) ?_
  refine jr_icmp_ne 89 d_Mo_takes_84 (by decide) (fun _ => ?_) (fun z => absurd z (by decide))
  refine jr_iload_n d_Mo_takes_89 rfl ?_
  refine jr_bipush ((nI (21))) d_Mo_takes_90 (by decide) ?_
  refine jr_icmp_ne 99 d_Mo_takes_92 (by decide) (fun z => absurd rfl z) (fun _ => ?_)
  refine jr_iconst ((nI (3))) d_Mo_takes_95 (by decide) ?_
  refine jr_goto 100 d_Mo_takes_96 (by decide) ?_
  exact jr_iretE d_Mo_takes_100 rfl (rfl) (rfl) (by decide) (by decide)
theorem mo_tk_22 (hl : l.stackTraces = false) {x : Int32} (hO : MoO σ fa vf wh wy hg dp md ov oh dn an) (hw : MoW σ tb pr ow ft hs) (hu : MoM σ u1 u2 ur ul uo ua uc us ut uk)   : jl_m l G m_Mo_takes [.ref 22, .int (nI 22), .int (x)] σ (.inl (some (.int (nI (tk0 22))))) (σ) := by
  obtain ⟨h23, h24, h25, h26, h27⟩ := id hw
  obtain ⟨h28, h29, h30, h31, h32, h33, h34, h35, h36, h37⟩ := id hu
  refine jl_of (as := [.ref 22, .int (nI 22), .int (x)]) rfl (by decide) hl (jl_cc rfl (jl_cc rfl (jl_cc rfl jl_ca))) (Nat.le_of_ble_eq_true rfl) ?_
  show jl_W l G m_Mo_takes (0, 0) 0 [some (.ref 22), some (.int (nI 22)), some (.int (x))] [] (σ) (.inl (some (.int (nI (tk0 22))))) (σ)
  refine jr_iload_n d_Mo_takes_0 rfl ?_
  refine jr_bipush ((nI (14))) d_Mo_takes_1 (by decide) ?_
  refine jr_icmp_ne 23 d_Mo_takes_3 (by decide) (fun _ => ?_) (fun z => absurd z (by decide))
  refine jr_iload_n d_Mo_takes_23 rfl ?_
  refine jr_if_eq 50 d_Mo_takes_24 (by decide) (fun z => absurd z (by decide)) (fun _ => ?_)
  refine jr_iload_n d_Mo_takes_27 rfl ?_
  refine jr_iconst ((nI (1))) d_Mo_takes_28 (by decide) ?_
  refine jr_icmp_eq 50 d_Mo_takes_29 (by decide) (fun z => absurd z (by decide)) (fun _ => ?_)
  refine jr_iload_n d_Mo_takes_32 rfl ?_
  refine jr_bipush ((nI (7))) d_Mo_takes_33 (by decide) ?_
  refine jr_icmp_eq 50 d_Mo_takes_35 (by decide) (fun z => absurd z (by decide)) (fun _ => ?_)
  refine jr_iload_n d_Mo_takes_38 rfl ?_
  refine jr_bipush ((nI (10))) d_Mo_takes_39 (by decide) ?_
  refine jr_icmp_eq 50 d_Mo_takes_41 (by decide) (fun z => absurd z (by decide)) (fun _ => ?_)
  refine jr_iload_n d_Mo_takes_44 rfl ?_
  refine jr_bipush ((nI (11))) d_Mo_takes_45 (by decide) ?_
  refine jr_icmp_ne 52 d_Mo_takes_47 (by decide) (fun _ => ?_) (fun z => absurd z (by decide))
  refine jr_iload_n d_Mo_takes_52 rfl ?_
  refine jr_iconst ((nI (3))) d_Mo_takes_53 (by decide) ?_
  refine jr_icmp_lt 63 d_Mo_takes_54 (by decide) (fun z => absurd z (by decide)) (fun _ => ?_)
  refine jr_iload_n d_Mo_takes_57 rfl ?_
  refine jr_bipush ((nI (6))) d_Mo_takes_58 (by decide) ?_
  refine jr_icmp_le 87 d_Mo_takes_60 (by decide) (fun z => absurd z (by decide)) (fun _ => ?_)
  refine jr_iload_n d_Mo_takes_63 rfl ?_
  refine jr_bipush ((nI (9))) d_Mo_takes_64 (by decide) ?_
  refine jr_icmp_eq 87 d_Mo_takes_66 (by decide) (fun z => absurd z (by decide)) (fun _ => ?_)
  refine jr_iload_n d_Mo_takes_69 rfl ?_
  refine jr_bipush ((nI (13))) d_Mo_takes_70 (by decide) ?_
  refine jr_icmp_eq 87 d_Mo_takes_72 (by decide) (fun z => absurd z (by decide)) (fun _ => ?_)
  refine jr_iload_n d_Mo_takes_75 rfl ?_
  refine jr_bipush ((nI (20))) d_Mo_takes_76 (by decide) ?_
  refine jr_icmp_eq 87 d_Mo_takes_78 (by decide) (fun z => absurd z (by decide)) (fun _ => ?_)
  refine jr_iload_n d_Mo_takes_81 rfl ?_
  refine jr_bipush ((nI (25))) d_Mo_takes_82 (by decide) ?_
  refine jr_icmp_ne 89 d_Mo_takes_84 (by decide) (fun _ => ?_) (fun z => absurd z (by decide))
  refine jr_iload_n d_Mo_takes_89 rfl ?_
  refine jr_bipush ((nI (21))) d_Mo_takes_90 (by decide) ?_
  refine jr_icmp_ne 99 d_Mo_takes_92 (by decide) (fun _ => ?_) (fun z => absurd z (by decide))
  refine jr_iconst ((nI (1))) d_Mo_takes_99 (by decide) ?_
  exact jr_iretE d_Mo_takes_100 rfl (rfl) (rfl) (by decide) (by decide)
theorem mo_tk_23 (hl : l.stackTraces = false) {x : Int32} (hO : MoO σ fa vf wh wy hg dp md ov oh dn an) (hw : MoW σ tb pr ow ft hs) (hu : MoM σ u1 u2 ur ul uo ua uc us ut uk)   : jl_m l G m_Mo_takes [.ref 22, .int (nI 23), .int (x)] σ (.inl (some (.int (nI (tk0 23))))) (σ) := by
  obtain ⟨h23, h24, h25, h26, h27⟩ := id hw
  obtain ⟨h28, h29, h30, h31, h32, h33, h34, h35, h36, h37⟩ := id hu
  refine jl_of (as := [.ref 22, .int (nI 23), .int (x)]) rfl (by decide) hl (jl_cc rfl (jl_cc rfl (jl_cc rfl jl_ca))) (Nat.le_of_ble_eq_true rfl) ?_
  show jl_W l G m_Mo_takes (0, 0) 0 [some (.ref 22), some (.int (nI 23)), some (.int (x))] [] (σ) (.inl (some (.int (nI (tk0 23))))) (σ)
  refine jr_iload_n d_Mo_takes_0 rfl ?_
  refine jr_bipush ((nI (14))) d_Mo_takes_1 (by decide) ?_
  refine jr_icmp_ne 23 d_Mo_takes_3 (by decide) (fun _ => ?_) (fun z => absurd z (by decide))
  refine jr_iload_n d_Mo_takes_23 rfl ?_
  refine jr_if_eq 50 d_Mo_takes_24 (by decide) (fun z => absurd z (by decide)) (fun _ => ?_)
  refine jr_iload_n d_Mo_takes_27 rfl ?_
  refine jr_iconst ((nI (1))) d_Mo_takes_28 (by decide) ?_
  refine jr_icmp_eq 50 d_Mo_takes_29 (by decide) (fun z => absurd z (by decide)) (fun _ => ?_)
  refine jr_iload_n d_Mo_takes_32 rfl ?_
  refine jr_bipush ((nI (7))) d_Mo_takes_33 (by decide) ?_
  refine jr_icmp_eq 50 d_Mo_takes_35 (by decide) (fun z => absurd z (by decide)) (fun _ => ?_)
  refine jr_iload_n d_Mo_takes_38 rfl ?_
  refine jr_bipush ((nI (10))) d_Mo_takes_39 (by decide) ?_
  refine jr_icmp_eq 50 d_Mo_takes_41 (by decide) (fun z => absurd z (by decide)) (fun _ => ?_)
  refine jr_iload_n d_Mo_takes_44 rfl ?_
  refine jr_bipush ((nI (11))) d_Mo_takes_45 (by decide) ?_
  refine jr_icmp_ne 52 d_Mo_takes_47 (by decide) (fun _ => ?_) (fun z => absurd z (by decide))
  refine jr_iload_n d_Mo_takes_52 rfl ?_
  refine jr_iconst ((nI (3))) d_Mo_takes_53 (by decide) ?_
  refine jr_icmp_lt 63 d_Mo_takes_54 (by decide) (fun z => absurd z (by decide)) (fun _ => ?_)
  refine jr_iload_n d_Mo_takes_57 rfl ?_
  refine jr_bipush ((nI (6))) d_Mo_takes_58 (by decide) ?_
  refine jr_icmp_le 87 d_Mo_takes_60 (by decide) (fun z => absurd z (by decide)) (fun _ => ?_)
  refine jr_iload_n d_Mo_takes_63 rfl ?_
  refine jr_bipush ((nI (9))) d_Mo_takes_64 (by decide) ?_
  refine jr_icmp_eq 87 d_Mo_takes_66 (by decide) (fun z => absurd z (by decide)) (fun _ => ?_)
  refine jr_iload_n d_Mo_takes_69 rfl ?_
  refine jr_bipush ((nI (13))) d_Mo_takes_70 (by decide) ?_
  refine jr_icmp_eq 87 d_Mo_takes_72 (by decide) (fun z => absurd z (by decide)) (fun _ => ?_)
  refine jr_iload_n d_Mo_takes_75 rfl ?_
  refine jr_bipush ((nI (20))) d_Mo_takes_76 (by decide) ?_
  refine jr_icmp_eq 87 d_Mo_takes_78 (by decide) (fun z => absurd z (by decide)) (fun _ => ?_)
  refine jr_iload_n d_Mo_takes_81 rfl ?_
  refine jr_bipush ((nI (25))) d_Mo_takes_82 (by decide) ?_
  refine jr_icmp_ne 89 d_Mo_takes_84 (by decide) (fun _ => ?_) (fun z => absurd z (by decide))
  refine jr_iload_n d_Mo_takes_89 rfl ?_
  refine jr_bipush ((nI (21))) d_Mo_takes_90 (by decide) ?_
  refine jr_icmp_ne 99 d_Mo_takes_92 (by decide) (fun _ => ?_) (fun z => absurd z (by decide))
  refine jr_iconst ((nI (1))) d_Mo_takes_99 (by decide) ?_
  exact jr_iretE d_Mo_takes_100 rfl (rfl) (rfl) (by decide) (by decide)
theorem mo_tk_24 (hl : l.stackTraces = false) {x : Int32} (hO : MoO σ fa vf wh wy hg dp md ov oh dn an) (hw : MoW σ tb pr ow ft hs) (hu : MoM σ u1 u2 ur ul uo ua uc us ut uk)   : jl_m l G m_Mo_takes [.ref 22, .int (nI 24), .int (x)] σ (.inl (some (.int (nI (tk0 24))))) (σ) := by
  obtain ⟨h23, h24, h25, h26, h27⟩ := id hw
  obtain ⟨h28, h29, h30, h31, h32, h33, h34, h35, h36, h37⟩ := id hu
  refine jl_of (as := [.ref 22, .int (nI 24), .int (x)]) rfl (by decide) hl (jl_cc rfl (jl_cc rfl (jl_cc rfl jl_ca))) (Nat.le_of_ble_eq_true rfl) ?_
  show jl_W l G m_Mo_takes (0, 0) 0 [some (.ref 22), some (.int (nI 24)), some (.int (x))] [] (σ) (.inl (some (.int (nI (tk0 24))))) (σ)
  refine jr_iload_n d_Mo_takes_0 rfl ?_
  refine jr_bipush ((nI (14))) d_Mo_takes_1 (by decide) ?_
  refine jr_icmp_ne 23 d_Mo_takes_3 (by decide) (fun _ => ?_) (fun z => absurd z (by decide))
  refine jr_iload_n d_Mo_takes_23 rfl ?_
  refine jr_if_eq 50 d_Mo_takes_24 (by decide) (fun z => absurd z (by decide)) (fun _ => ?_)
  refine jr_iload_n d_Mo_takes_27 rfl ?_
  refine jr_iconst ((nI (1))) d_Mo_takes_28 (by decide) ?_
  refine jr_icmp_eq 50 d_Mo_takes_29 (by decide) (fun z => absurd z (by decide)) (fun _ => ?_)
  refine jr_iload_n d_Mo_takes_32 rfl ?_
  refine jr_bipush ((nI (7))) d_Mo_takes_33 (by decide) ?_
  refine jr_icmp_eq 50 d_Mo_takes_35 (by decide) (fun z => absurd z (by decide)) (fun _ => ?_)
  refine jr_iload_n d_Mo_takes_38 rfl ?_
  refine jr_bipush ((nI (10))) d_Mo_takes_39 (by decide) ?_
  refine jr_icmp_eq 50 d_Mo_takes_41 (by decide) (fun z => absurd z (by decide)) (fun _ => ?_)
  refine jr_iload_n d_Mo_takes_44 rfl ?_
  refine jr_bipush ((nI (11))) d_Mo_takes_45 (by decide) ?_
  refine jr_icmp_ne 52 d_Mo_takes_47 (by decide) (fun _ => ?_) (fun z => absurd z (by decide))
  refine jr_iload_n d_Mo_takes_52 rfl ?_
  refine jr_iconst ((nI (3))) d_Mo_takes_53 (by decide) ?_
  refine jr_icmp_lt 63 d_Mo_takes_54 (by decide) (fun z => absurd z (by decide)) (fun _ => ?_)
  refine jr_iload_n d_Mo_takes_57 rfl ?_
  refine jr_bipush ((nI (6))) d_Mo_takes_58 (by decide) ?_
  refine jr_icmp_le 87 d_Mo_takes_60 (by decide) (fun z => absurd z (by decide)) (fun _ => ?_)
  refine jr_iload_n d_Mo_takes_63 rfl ?_
  refine jr_bipush ((nI (9))) d_Mo_takes_64 (by decide) ?_
  refine jr_icmp_eq 87 d_Mo_takes_66 (by decide) (fun z => absurd z (by decide)) (fun _ => ?_)
  refine jr_iload_n d_Mo_takes_69 rfl ?_
  refine jr_bipush ((nI (13))) d_Mo_takes_70 (by decide) ?_
  refine jr_icmp_eq 87 d_Mo_takes_72 (by decide) (fun z => absurd z (by decide)) (fun _ => ?_)
  refine jr_iload_n d_Mo_takes_75 rfl ?_
  refine jr_bipush ((nI (20))) d_Mo_takes_76 (by decide) ?_
  refine jr_icmp_eq 87 d_Mo_takes_78 (by decide) (fun z => absurd z (by decide)) (fun _ => ?_)
  refine jr_iload_n d_Mo_takes_81 rfl ?_
  refine jr_bipush ((nI (25))) d_Mo_takes_82 (by decide) ?_
  refine jr_icmp_ne 89 d_Mo_takes_84 (by decide) (fun _ => ?_) (fun z => absurd z (by decide))
  refine jr_iload_n d_Mo_takes_89 rfl ?_
  refine jr_bipush ((nI (21))) d_Mo_takes_90 (by decide) ?_
  refine jr_icmp_ne 99 d_Mo_takes_92 (by decide) (fun _ => ?_) (fun z => absurd z (by decide))
  refine jr_iconst ((nI (1))) d_Mo_takes_99 (by decide) ?_
  exact jr_iretE d_Mo_takes_100 rfl (rfl) (rfl) (by decide) (by decide)
theorem mo_tk_25 (hl : l.stackTraces = false) {x : Int32} (hO : MoO σ fa vf wh wy hg dp md ov oh dn an) (hw : MoW σ tb pr ow ft hs) (hu : MoM σ u1 u2 ur ul uo ua uc us ut uk)   : jl_m l G m_Mo_takes [.ref 22, .int (nI 25), .int (x)] σ (.inl (some (.int (nI (tk0 25))))) (σ) := by
  obtain ⟨h23, h24, h25, h26, h27⟩ := id hw
  obtain ⟨h28, h29, h30, h31, h32, h33, h34, h35, h36, h37⟩ := id hu
  refine jl_of (as := [.ref 22, .int (nI 25), .int (x)]) rfl (by decide) hl (jl_cc rfl (jl_cc rfl (jl_cc rfl jl_ca))) (Nat.le_of_ble_eq_true rfl) ?_
  show jl_W l G m_Mo_takes (0, 0) 0 [some (.ref 22), some (.int (nI 25)), some (.int (x))] [] (σ) (.inl (some (.int (nI (tk0 25))))) (σ)
  refine jr_iload_n d_Mo_takes_0 rfl ?_
  refine jr_bipush ((nI (14))) d_Mo_takes_1 (by decide) ?_
  refine jr_icmp_ne 23 d_Mo_takes_3 (by decide) (fun _ => ?_) (fun z => absurd z (by decide))
  refine jr_iload_n d_Mo_takes_23 rfl ?_
  refine jr_if_eq 50 d_Mo_takes_24 (by decide) (fun z => absurd z (by decide)) (fun _ => ?_)
  refine jr_iload_n d_Mo_takes_27 rfl ?_
  refine jr_iconst ((nI (1))) d_Mo_takes_28 (by decide) ?_
  refine jr_icmp_eq 50 d_Mo_takes_29 (by decide) (fun z => absurd z (by decide)) (fun _ => ?_)
  refine jr_iload_n d_Mo_takes_32 rfl ?_
  refine jr_bipush ((nI (7))) d_Mo_takes_33 (by decide) ?_
  refine jr_icmp_eq 50 d_Mo_takes_35 (by decide) (fun z => absurd z (by decide)) (fun _ => ?_)
  refine jr_iload_n d_Mo_takes_38 rfl ?_
  refine jr_bipush ((nI (10))) d_Mo_takes_39 (by decide) ?_
  refine jr_icmp_eq 50 d_Mo_takes_41 (by decide) (fun z => absurd z (by decide)) (fun _ => ?_)
  refine jr_iload_n d_Mo_takes_44 rfl ?_
  refine jr_bipush ((nI (11))) d_Mo_takes_45 (by decide) ?_
  refine jr_icmp_ne 52 d_Mo_takes_47 (by decide) (fun _ => ?_) (fun z => absurd z (by decide))
  refine jr_iload_n d_Mo_takes_52 rfl ?_
  refine jr_iconst ((nI (3))) d_Mo_takes_53 (by decide) ?_
  refine jr_icmp_lt 63 d_Mo_takes_54 (by decide) (fun z => absurd z (by decide)) (fun _ => ?_)
  refine jr_iload_n d_Mo_takes_57 rfl ?_
  refine jr_bipush ((nI (6))) d_Mo_takes_58 (by decide) ?_
  refine jr_icmp_le 87 d_Mo_takes_60 (by decide) (fun z => absurd z (by decide)) (fun _ => ?_)
  refine jr_iload_n d_Mo_takes_63 rfl ?_
  refine jr_bipush ((nI (9))) d_Mo_takes_64 (by decide) ?_
  refine jr_icmp_eq 87 d_Mo_takes_66 (by decide) (fun z => absurd z (by decide)) (fun _ => ?_)
  refine jr_iload_n d_Mo_takes_69 rfl ?_
  refine jr_bipush ((nI (13))) d_Mo_takes_70 (by decide) ?_
  refine jr_icmp_eq 87 d_Mo_takes_72 (by decide) (fun z => absurd z (by decide)) (fun _ => ?_)
  refine jr_iload_n d_Mo_takes_75 rfl ?_
  refine jr_bipush ((nI (20))) d_Mo_takes_76 (by decide) ?_
  refine jr_icmp_eq 87 d_Mo_takes_78 (by decide) (fun z => absurd z (by decide)) (fun _ => ?_)
  refine jr_iload_n d_Mo_takes_81 rfl ?_
  refine jr_bipush ((nI (25))) d_Mo_takes_82 (by decide) ?_
  refine jr_icmp_ne 89 d_Mo_takes_84 (by decide) (fun z => absurd rfl z) (fun _ => ?_)
  refine jr_iconst ((nI (2))) d_Mo_takes_87 (by decide) ?_
  exact jr_iretE d_Mo_takes_88 rfl (rfl) (rfl) (by decide) (by decide)
theorem mo_tk (hl : l.stackTraces = false) {o : Nat} {x : Int32} (hO : MoO σ fa vf wh wy hg dp md ov oh dn an) (hw : MoW σ tb pr ow ft hs) (hu : MoM σ u1 u2 ur ul uo ua uc us ut uk)  (ho : o < 26) (h14 : o ≠ 14) : jl_m l G m_Mo_takes [.ref 22, .int (nI o), .int x] σ (.inl (some (.int (nI (tk0 o))))) σ := by
  have hq : o = 0 ∨ o = 1 ∨ o = 2 ∨ o = 3 ∨ o = 4 ∨ o = 5 ∨ o = 6 ∨ o = 7 ∨ o = 8 ∨ o = 9 ∨ o = 10 ∨ o = 11 ∨ o = 12 ∨ o = 13 ∨ o = 15 ∨ o = 16 ∨ o = 17 ∨ o = 18 ∨ o = 19 ∨ o = 20 ∨ o = 21 ∨ o = 22 ∨ o = 23 ∨ o = 24 ∨ o = 25 := by omega
  rcases hq with rfl | rfl | rfl | rfl | rfl | rfl | rfl | rfl | rfl | rfl | rfl | rfl | rfl | rfl | rfl | rfl | rfl | rfl | rfl | rfl | rfl | rfl | rfl | rfl | rfl
  · exact mo_tk_0 hl hO hw hu
  · exact mo_tk_1 hl hO hw hu
  · exact mo_tk_2 hl hO hw hu
  · exact mo_tk_3 hl hO hw hu
  · exact mo_tk_4 hl hO hw hu
  · exact mo_tk_5 hl hO hw hu
  · exact mo_tk_6 hl hO hw hu
  · exact mo_tk_7 hl hO hw hu
  · exact mo_tk_8 hl hO hw hu
  · exact mo_tk_9 hl hO hw hu
  · exact mo_tk_10 hl hO hw hu
  · exact mo_tk_11 hl hO hw hu
  · exact mo_tk_12 hl hO hw hu
  · exact mo_tk_13 hl hO hw hu
  · exact mo_tk_15 hl hO hw hu
  · exact mo_tk_16 hl hO hw hu
  · exact mo_tk_17 hl hO hw hu
  · exact mo_tk_18 hl hO hw hu
  · exact mo_tk_19 hl hO hw hu
  · exact mo_tk_20 hl hO hw hu
  · exact mo_tk_21 hl hO hw hu
  · exact mo_tk_22 hl hO hw hu
  · exact mo_tk_23 hl hO hw hu
  · exact mo_tk_24 hl hO hw hu
  · exact mo_tk_25 hl hO hw hu
theorem d_Mo_takes_6 : decode m_Mo_takes.2.1 6 = .ok (.iconst 1, 1) := by decide +kernel
theorem d_Mo_takes_7 : decode m_Mo_takes.2.1 7 = .ok (.aload_n 0, 1) := by decide +kernel
theorem d_Mo_takes_8 : decode m_Mo_takes.2.1 8 = .ok (.aload_n 0, 1) := by decide +kernel
theorem d_Mo_takes_9 : decode m_Mo_takes.2.1 9 = .ok (.iload_n 2, 1) := by decide +kernel
theorem d_Mo_takes_10 : decode m_Mo_takes.2.1 10 = .ok (.iconst 4, 1) := by decide +kernel
theorem d_Mo_takes_11 : decode m_Mo_takes.2.1 11 = .ok (.idiv, 1) := by decide +kernel
theorem d_Mo_takes_12 : decode m_Mo_takes.2.1 12 = .ok (.iload_n 2, 1) := by decide +kernel
theorem d_Mo_takes_13 : decode m_Mo_takes.2.1 13 = .ok (.iconst 4, 1) := by decide +kernel
theorem d_Mo_takes_14 : decode m_Mo_takes.2.1 14 = .ok (.irem, 1) := by decide +kernel
theorem k_Mo_takes_157 : jl_cv m_Mo_takes m_Mo_methodOf 157 2 = true := by decide +kernel
theorem d_Mo_takes_15 : decode m_Mo_takes.2.1 15 = .ok (.invokevirtual 157, 3) := by decide +kernel
theorem k_Mo_takes_161 : jl_cv m_Mo_takes m_Mo_parameters 161 1 = true := by decide +kernel
theorem d_Mo_takes_18 : decode m_Mo_takes.2.1 18 = .ok (.invokevirtual 161, 3) := by decide +kernel
theorem d_Mo_takes_21 : decode m_Mo_takes.2.1 21 = .ok (.iadd, 1) := by decide +kernel
theorem d_Mo_takes_22 : decode m_Mo_takes.2.1 22 = .ok (.ireturn, 1) := by decide +kernel
theorem mo_tk_14 (hl : l.stackTraces = false) {n c : Nat} {p q : Option Nat} (hO : MoO σ fa vf wh wy hg dp md ov oh dn an) (hw : MoW σ tb pr ow ft hs) (hu : MoM σ u1 u2 ur ul uo ua uc us ut uk) (hok : WoOk tb pr ow fi) (hn : n < 2 ^ 31) (hk : n / 4 < 6) (hmo : mmo pr hs (n % 4) 6 (some (n / 4)) = some c) (hc : c < 24) (e1 : u1 c = p) (e2 : u2 c = q) (hp : ob 16 p) (hq : ob 16 q) : jl_m l G m_Mo_takes [.ref 22, .int (nI 14), .int (nI n)] σ (.inl (some (.int (nI (1 + prm p q))))) (σ) := by
  obtain ⟨h23, h24, h25, h26, h27⟩ := id hw
  obtain ⟨h28, h29, h30, h31, h32, h33, h34, h35, h36, h37⟩ := id hu
  have hpl := prm_le p q
  refine jl_of (as := [.ref 22, .int (nI 14), .int (nI n)]) rfl (by decide) hl (jl_cc rfl (jl_cc rfl (jl_cc rfl jl_ca))) (Nat.le_of_ble_eq_true rfl) ?_
  show jl_W l G m_Mo_takes (0, 0) 0 [some (.ref 22), some (.int (nI 14)), some (.int (nI n))] [] (σ) (.inl (some (.int (nI (1 + prm p q))))) (σ)
  refine jr_iload_n d_Mo_takes_0 rfl ?_
  refine jr_bipush ((nI (14))) d_Mo_takes_1 (by decide) ?_
  refine jr_icmp_ne 23 d_Mo_takes_3 (by decide) (fun z => absurd rfl z) (fun _ => ?_)
  refine jr_iconst ((nI (1))) d_Mo_takes_6 (by decide) ?_
  refine jr_aload_n d_Mo_takes_7 rfl ?_
  refine jr_aload_n d_Mo_takes_8 rfl ?_
  refine jr_iload_n d_Mo_takes_9 rfl ?_
  refine jr_iconst ((nI (4))) d_Mo_takes_10 (by decide) ?_
  refine jr_idivN d_Mo_takes_11 (by omega) (by omega) (by omega) ?_
  refine jr_iload_n d_Mo_takes_12 rfl ?_
  refine jr_iconst ((nI (4))) d_Mo_takes_13 (by decide) ?_
  refine jr_iremN d_Mo_takes_14 (by omega) (by omega) (by omega) ?_
  refine jr_callV (As := [.int (nI ((n) / (4))), .int (nI ((n) % (4)))]) d_Mo_takes_15 k_Mo_takes_157 hO rfl rfl rfl (Nat.le_of_ble_eq_true rfl) (by decide) (by decide) (jl_meq (by rw [hmo]) (mo_methodOf (x := some (n / 4)) hl hO hw (by omega) hok.dsc (ob_s hk))) ?_
  show jl_W l G m_Mo_takes (0, 0) 18 [some (.ref 22), some (.int (nI 14)), some (.int (nI n))] [.int (nI c), .ref 22, .int (nI 1)] (σ) (.inl (some (.int (nI (1 + prm p q))))) (σ)
  refine jr_callV (As := [.int (nI c)]) d_Mo_takes_18 k_Mo_takes_161 hO rfl rfl rfl (Nat.le_of_ble_eq_true rfl) (by decide) (by decide) (mo_params hl hO hw hu hc e1 e2 hp hq) ?_
  show jl_W l G m_Mo_takes (0, 0) 21 [some (.ref 22), some (.int (nI 14)), some (.int (nI n))] [.int (nI (prm p q)), .int (nI 1)] (σ) (.inl (some (.int (nI (1 + prm p q))))) (σ)
  refine jr_iaddN d_Mo_takes_21 ?_
  exact jr_iretE d_Mo_takes_22 rfl (rfl) (rfl) (by decide) (by decide)
end JMg
