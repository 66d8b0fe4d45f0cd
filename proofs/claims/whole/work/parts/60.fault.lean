/-! the model: faultAt (wip/gen/p60.py) -/
section JMi
variable {l : Launch} {G : jl_G} {σ : jl_S}
variable {tb : Nat → Bool} {pr : Nat → Option Nat} {ow fi ft : Nat → Nat} {hs : Nat → Bool} {fa vf wh wy hg dp md ov oh dn an : Int32}
variable {u1 u2 : Nat → Option Nat} {ur ul uo : Nat → Nat} {ua : Nat → Int32} {uc us ut uk : Nat → Nat}
variable {lo sk : Nat → Option Nat}
theorem d_Mo_faultAt_22 : decode m_Mo_faultAt.2.1 22 = .ok (.aload_n 0, 1) := by decide +kernel
theorem f_Mo_faultAt_38 : jl_fd m_Mo_faultAt 38 7 10 = true := by decide +kernel
theorem d_Mo_faultAt_23 : decode m_Mo_faultAt.2.1 23 = .ok (.getfield 38, 3) := by decide +kernel
theorem d_Mo_faultAt_26 : decode m_Mo_faultAt.2.1 26 = .ok (.bipush 24, 2) := by decide +kernel
theorem d_Mo_faultAt_28 : decode m_Mo_faultAt.2.1 28 = .ok (.iload_n 1, 1) := by decide +kernel
theorem d_Mo_faultAt_29 : decode m_Mo_faultAt.2.1 29 = .ok (.imul, 1) := by decide +kernel
theorem d_Mo_faultAt_30 : decode m_Mo_faultAt.2.1 30 = .ok (.iload_n 2, 1) := by decide +kernel
theorem d_Mo_faultAt_31 : decode m_Mo_faultAt.2.1 31 = .ok (.iadd, 1) := by decide +kernel
theorem d_Mo_faultAt_32 : decode m_Mo_faultAt.2.1 32 = .ok (.iaload, 1) := by decide +kernel
theorem d_Mo_faultAt_33 : decode m_Mo_faultAt.2.1 33 = .ok (.istore_n 3, 1) := by decide +kernel
theorem d_Mo_faultAt_34 : decode m_Mo_faultAt.2.1 34 = .ok (.aload_n 0, 1) := by decide +kernel
theorem d_Mo_faultAt_35 : decode m_Mo_faultAt.2.1 35 = .ok (.iload_n 3, 1) := by decide +kernel
theorem d_Mo_faultAt_36 : decode m_Mo_faultAt.2.1 36 = .ok (.aload_n 0, 1) := by decide +kernel
theorem f_Mo_faultAt_41 : jl_fd m_Mo_faultAt 41 7 11 = true := by decide +kernel
theorem d_Mo_faultAt_37 : decode m_Mo_faultAt.2.1 37 = .ok (.getfield 41, 3) := by decide +kernel
theorem d_Mo_faultAt_40 : decode m_Mo_faultAt.2.1 40 = .ok (.bipush 24, 2) := by decide +kernel
theorem d_Mo_faultAt_42 : decode m_Mo_faultAt.2.1 42 = .ok (.iload_n 1, 1) := by decide +kernel
theorem d_Mo_faultAt_43 : decode m_Mo_faultAt.2.1 43 = .ok (.imul, 1) := by decide +kernel
theorem d_Mo_faultAt_44 : decode m_Mo_faultAt.2.1 44 = .ok (.iload_n 2, 1) := by decide +kernel
theorem d_Mo_faultAt_45 : decode m_Mo_faultAt.2.1 45 = .ok (.iadd, 1) := by decide +kernel
theorem d_Mo_faultAt_46 : decode m_Mo_faultAt.2.1 46 = .ok (.iaload, 1) := by decide +kernel
theorem k_Mo_faultAt_176 : jl_cv m_Mo_faultAt m_Mo_takes 176 2 = true := by decide +kernel
theorem d_Mo_faultAt_47 : decode m_Mo_faultAt.2.1 47 = .ok (.invokevirtual 176, 3) := by decide +kernel
theorem d_Mo_faultAt_50 : decode m_Mo_faultAt.2.1 50 = .ok (.istore 4, 2) := by decide +kernel
theorem d_Mo_faultAt_52 : decode m_Mo_faultAt.2.1 52 = .ok (.aload_n 0, 1) := by decide +kernel
theorem f_Mo_faultAt_179 : jl_fd m_Mo_faultAt 179 7 23 = true := by decide +kernel
theorem d_Mo_faultAt_53 : decode m_Mo_faultAt.2.1 53 = .ok (.getfield 179, 3) := by decide +kernel
theorem d_Mo_faultAt_56 : decode m_Mo_faultAt.2.1 56 = .ok (.iload 4, 2) := by decide +kernel
theorem d_Mo_faultAt_58 : decode m_Mo_faultAt.2.1 58 = .ok (.if_icmp .lt 20, 3) := by decide +kernel
theorem d_Mo_faultAt_78 : decode m_Mo_faultAt.2.1 78 = .ok (.iconst 1, 1) := by decide +kernel
theorem d_Mo_faultAt_79 : decode m_Mo_faultAt.2.1 79 = .ok (.ireturn, 1) := by decide +kernel
theorem d_Mo_faultAt_61 : decode m_Mo_faultAt.2.1 61 = .ok (.aload_n 0, 1) := by decide +kernel
theorem d_Mo_faultAt_62 : decode m_Mo_faultAt.2.1 62 = .ok (.getfield 179, 3) := by decide +kernel
theorem d_Mo_faultAt_65 : decode m_Mo_faultAt.2.1 65 = .ok (.iload 4, 2) := by decide +kernel
theorem d_Mo_faultAt_67 : decode m_Mo_faultAt.2.1 67 = .ok (.isub, 1) := by decide +kernel
theorem d_Mo_faultAt_68 : decode m_Mo_faultAt.2.1 68 = .ok (.aload_n 0, 1) := by decide +kernel
theorem d_Mo_faultAt_69 : decode m_Mo_faultAt.2.1 69 = .ok (.iload_n 3, 1) := by decide +kernel
theorem k_Mo_faultAt_182 : jl_cv m_Mo_faultAt m_Mo_puts 182 1 = true := by decide +kernel
theorem d_Mo_faultAt_70 : decode m_Mo_faultAt.2.1 70 = .ok (.invokevirtual 182, 3) := by decide +kernel
theorem d_Mo_faultAt_73 : decode m_Mo_faultAt.2.1 73 = .ok (.iadd, 1) := by decide +kernel
theorem d_Mo_faultAt_74 : decode m_Mo_faultAt.2.1 74 = .ok (.iconst 5, 1) := by decide +kernel
theorem d_Mo_faultAt_75 : decode m_Mo_faultAt.2.1 75 = .ok (.if_icmp .le 5, 3) := by decide +kernel
theorem d_Mo_faultAt_80 : decode m_Mo_faultAt.2.1 80 = .ok (.iload_n 3, 1) := by decide +kernel
theorem d_Mo_faultAt_81 : decode m_Mo_faultAt.2.1 81 = .ok (.iconst 1, 1) := by decide +kernel
theorem d_Mo_faultAt_82 : decode m_Mo_faultAt.2.1 82 = .ok (.if_icmp .ne 25, 3) := by decide +kernel
theorem d_Mo_faultAt_107 : decode m_Mo_faultAt.2.1 107 = .ok (.iconst 0, 1) := by decide +kernel
theorem d_Mo_faultAt_108 : decode m_Mo_faultAt.2.1 108 = .ok (.istore 5, 2) := by decide +kernel
theorem d_Mo_faultAt_110 : decode m_Mo_faultAt.2.1 110 = .ok (.iload 5, 2) := by decide +kernel
theorem d_Mo_faultAt_112 : decode m_Mo_faultAt.2.1 112 = .ok (.iload 4, 2) := by decide +kernel
theorem d_Mo_faultAt_114 : decode m_Mo_faultAt.2.1 114 = .ok (.if_icmp .ge 37, 3) := by decide +kernel
theorem d_Mo_faultAt_151 : decode m_Mo_faultAt.2.1 151 = .ok (.iconst 0, 1) := by decide +kernel
theorem d_Mo_faultAt_152 : decode m_Mo_faultAt.2.1 152 = .ok (.ireturn, 1) := by decide +kernel
theorem mo_fa_0 (hl : l.stackTraces = false) {m pc h : Nat} {x : Int32} (hO : MoO σ fa vf wh wy (nI (h)) dp md ov oh dn an) (hw : MoW σ tb pr ow ft hs) (hu : MoM σ u1 u2 ur ul uo ua uc us ut uk) (hr : MoR σ lo sk) (hok : WoOk tb pr ow fi) (hK : MoK u1 u2 ur ul uo uc us ut uk) (hm : m < 24) (hpc : pc < 24) (ho : uo (24 * m + pc) = 0) (hx : ua (24 * m + pc) = x) (hh5 : h ≤ 5) : jl_W l G m_Mo_faultAt (0, 0) 22 [some (.ref 22), some (.int (nI m)), some (.int (nI pc)), none, none, none] [] σ (.inl (some (.int (nI (if 0 ≤ h ∧ h - 0 + 1 ≤ 5 then (if (true) = true then 0 else 2) else 1))))) (σ) := by
  obtain ⟨h23, h24, h25, h26, h27⟩ := id hw
  obtain ⟨h28, h29, h30, h31, h32, h33, h34, h35, h36, h37⟩ := id hu
  obtain ⟨r1, r2⟩ := id hr
  obtain ⟨hk1, hk2, hk3, hk4, hk5, hk6⟩ := hK.1 m hm
  refine jr_aload_n d_Mo_faultAt_22 rfl ?_
  refine jr_getf d_Mo_faultAt_23 f_Mo_faultAt_38 hO rfl ?_
  refine jr_bipush ((nI (24))) d_Mo_faultAt_26 (by decide) ?_
  refine jr_iload_n d_Mo_faultAt_28 rfl ?_
  refine jr_imulN d_Mo_faultAt_29 ?_
  refine jr_iload_n d_Mo_faultAt_30 rfl ?_
  refine jr_iaddN d_Mo_faultAt_31 ?_
  refine jr_ialdQ (v := (nI (0))) d_Mo_faultAt_32 h32 (by omega) (by omega) (congrArg nI ho) ?_
  refine jr_istore_n d_Mo_faultAt_33 (by decide) ?_
  show jl_W l G m_Mo_faultAt (0, 0) 34 [some (.ref 22), some (.int (nI m)), some (.int (nI pc)), some (.int (nI 0)), none, none] [] (σ) (.inl (some (.int (nI (if 0 ≤ h ∧ h - 0 + 1 ≤ 5 then (if (true) = true then 0 else 2) else 1))))) (σ)
  refine jr_aload_n d_Mo_faultAt_34 rfl ?_
  refine jr_iload_n d_Mo_faultAt_35 rfl ?_
  refine jr_aload_n d_Mo_faultAt_36 rfl ?_
  refine jr_getf d_Mo_faultAt_37 f_Mo_faultAt_41 hO rfl ?_
  refine jr_bipush ((nI (24))) d_Mo_faultAt_40 (by decide) ?_
  refine jr_iload_n d_Mo_faultAt_42 rfl ?_
  refine jr_imulN d_Mo_faultAt_43 ?_
  refine jr_iload_n d_Mo_faultAt_44 rfl ?_
  refine jr_iaddN d_Mo_faultAt_45 ?_
  refine jr_ialdQ (v := (x)) d_Mo_faultAt_46 h33 (by omega) (by omega) (hx) ?_
  refine jr_callV (As := [.int (nI 0), .int (x)]) d_Mo_faultAt_47 k_Mo_faultAt_176 hO rfl rfl rfl (Nat.le_of_ble_eq_true rfl) (by decide) (by decide) (mo_tk_0 hl hO hw hu) ?_
  show jl_W l G m_Mo_faultAt (0, 0) 50 [some (.ref 22), some (.int (nI m)), some (.int (nI pc)), some (.int (nI 0)), none, none] [.int (nI 0)] (σ) (.inl (some (.int (nI (if 0 ≤ h ∧ h - 0 + 1 ≤ 5 then (if (true) = true then 0 else 2) else 1))))) (σ)
  refine jr_istore d_Mo_faultAt_50 (by decide) ?_
  show jl_W l G m_Mo_faultAt (0, 0) 52 [some (.ref 22), some (.int (nI m)), some (.int (nI pc)), some (.int (nI 0)), some (.int (nI 0)), none] [] (σ) (.inl (some (.int (nI (if 0 ≤ h ∧ h - 0 + 1 ≤ 5 then (if (true) = true then 0 else 2) else 1))))) (σ)
  refine jr_aload_n d_Mo_faultAt_52 rfl ?_
  refine jr_getf d_Mo_faultAt_53 f_Mo_faultAt_179 hO rfl ?_
  refine jr_iload d_Mo_faultAt_56 rfl ?_
  refine jr_icmp_ltN 78 d_Mo_faultAt_58 (by decide) (by omega) (by omega) (fun c1 => ?_) (fun c1 => ?_)
  · refine jr_iconst ((nI (1))) d_Mo_faultAt_78 (by decide) ?_
    exact jr_iretE d_Mo_faultAt_79 rfl (by rw [if_neg (by omega)]) (rfl) (by decide) (by decide)
  · refine jr_aload_n d_Mo_faultAt_61 rfl ?_
    refine jr_getf d_Mo_faultAt_62 f_Mo_faultAt_179 hO rfl ?_
    refine jr_iload d_Mo_faultAt_65 rfl ?_
    refine jr_isubN d_Mo_faultAt_67 (by omega) ?_
    refine jr_aload_n d_Mo_faultAt_68 rfl ?_
    refine jr_iload_n d_Mo_faultAt_69 rfl ?_
    refine jr_callV (As := [.int (nI 0)]) d_Mo_faultAt_70 k_Mo_faultAt_182 hO rfl rfl rfl (Nat.le_of_ble_eq_true rfl) (by decide) (by decide) (mo_puts hl hO hw (by omega)) ?_
    show jl_W l G m_Mo_faultAt (0, 0) 73 [some (.ref 22), some (.int (nI m)), some (.int (nI pc)), some (.int (nI 0)), some (.int (nI 0)), none] [.int (nI 1), .int (nI ((h) - (0)))] (σ) (.inl (some (.int (nI (if 0 ≤ h ∧ h - 0 + 1 ≤ 5 then (if (true) = true then 0 else 2) else 1))))) (σ)
    refine jr_iaddN d_Mo_faultAt_73 ?_
    refine jr_iconst ((nI (5))) d_Mo_faultAt_74 (by decide) ?_
    refine jr_icmp_leN 80 d_Mo_faultAt_75 (by decide) (by omega) (by omega) (fun c2 => ?_) (fun c2 => ?_)
    · refine jr_iload_n d_Mo_faultAt_80 rfl ?_
      refine jr_iconst ((nI (1))) d_Mo_faultAt_81 (by decide) ?_
      refine jr_icmp_ne 107 d_Mo_faultAt_82 (by decide) (fun _ => ?_) (fun z => absurd z (by decide))
      refine jr_iconst ((nI (0))) d_Mo_faultAt_107 (by decide) ?_
      refine jr_istore d_Mo_faultAt_108 (by decide) ?_
      show jl_W l G m_Mo_faultAt (0, 0) 110 [some (.ref 22), some (.int (nI m)), some (.int (nI pc)), some (.int (nI 0)), some (.int (nI 0)), some (.int (nI 0))] [] (σ) (.inl (some (.int (nI (if 0 ≤ h ∧ h - 0 + 1 ≤ 5 then (if (true) = true then 0 else 2) else 1))))) (σ)
      refine jr_iload d_Mo_faultAt_110 rfl ?_
      refine jr_iload d_Mo_faultAt_112 rfl ?_
      refine jr_icmp_ge 151 d_Mo_faultAt_114 (by decide) (fun _ => ?_) (fun z => absurd (by decide) z)
      refine jr_iconst ((nI (0))) d_Mo_faultAt_151 (by decide) ?_
      exact jr_iretE d_Mo_faultAt_152 rfl (by rw [if_pos (by omega), if_pos (by simp [Bool.and_self])]) (rfl) (by decide) (by decide)
    · refine jr_iconst ((nI (1))) d_Mo_faultAt_78 (by decide) ?_
      exact jr_iretE d_Mo_faultAt_79 rfl (by rw [if_neg (by omega)]) (rfl) (by decide) (by decide)
theorem d_Mo_faultAt_85 : decode m_Mo_faultAt.2.1 85 = .ok (.aload_n 0, 1) := by decide +kernel
theorem f_Mo_faultAt_69 : jl_fd m_Mo_faultAt 69 7 21 = true := by decide +kernel
theorem d_Mo_faultAt_86 : decode m_Mo_faultAt.2.1 86 = .ok (.getfield 69, 3) := by decide +kernel
theorem d_Mo_faultAt_89 : decode m_Mo_faultAt.2.1 89 = .ok (.aload_n 0, 1) := by decide +kernel
theorem d_Mo_faultAt_90 : decode m_Mo_faultAt.2.1 90 = .ok (.getfield 41, 3) := by decide +kernel
theorem d_Mo_faultAt_93 : decode m_Mo_faultAt.2.1 93 = .ok (.bipush 24, 2) := by decide +kernel
theorem d_Mo_faultAt_95 : decode m_Mo_faultAt.2.1 95 = .ok (.iload_n 1, 1) := by decide +kernel
theorem d_Mo_faultAt_96 : decode m_Mo_faultAt.2.1 96 = .ok (.imul, 1) := by decide +kernel
theorem d_Mo_faultAt_97 : decode m_Mo_faultAt.2.1 97 = .ok (.iload_n 2, 1) := by decide +kernel
theorem d_Mo_faultAt_98 : decode m_Mo_faultAt.2.1 98 = .ok (.iadd, 1) := by decide +kernel
theorem d_Mo_faultAt_99 : decode m_Mo_faultAt.2.1 99 = .ok (.iaload, 1) := by decide +kernel
theorem d_Mo_faultAt_100 : decode m_Mo_faultAt.2.1 100 = .ok (.iaload, 1) := by decide +kernel
theorem d_Mo_faultAt_101 : decode m_Mo_faultAt.2.1 101 = .ok (.iconst (-1), 1) := by decide +kernel
theorem d_Mo_faultAt_102 : decode m_Mo_faultAt.2.1 102 = .ok (.if_icmp .ne 5, 3) := by decide +kernel
theorem d_Mo_faultAt_105 : decode m_Mo_faultAt.2.1 105 = .ok (.iconst 2, 1) := by decide +kernel
theorem d_Mo_faultAt_106 : decode m_Mo_faultAt.2.1 106 = .ok (.ireturn, 1) := by decide +kernel
theorem mo_fa_1 (hl : l.stackTraces = false) {m pc h : Nat} {n : Nat} {ld : Option Nat} (hO : MoO σ fa vf wh wy (nI (h)) dp md ov oh dn an) (hw : MoW σ tb pr ow ft hs) (hu : MoM σ u1 u2 ur ul uo ua uc us ut uk) (hr : MoR σ lo sk) (hok : WoOk tb pr ow fi) (hK : MoK u1 u2 ur ul uo uc us ut uk) (hm : m < 24) (hpc : pc < 24) (ho : uo (24 * m + pc) = 1) (hx : ua (24 * m + pc) = nI n) (hh5 : h ≤ 5) (hn : n < 6) (el : lo n = ld) (hld : ob 16 ld) : jl_W l G m_Mo_faultAt (0, 0) 22 [some (.ref 22), some (.int (nI m)), some (.int (nI pc)), none, none, none] [] σ (.inl (some (.int (nI (if 0 ≤ h ∧ h - 0 + 1 ≤ 5 then (if (ld.isSome) = true then 0 else 2) else 1))))) (σ) := by
  obtain ⟨h23, h24, h25, h26, h27⟩ := id hw
  obtain ⟨h28, h29, h30, h31, h32, h33, h34, h35, h36, h37⟩ := id hu
  obtain ⟨r1, r2⟩ := id hr
  obtain ⟨hk1, hk2, hk3, hk4, hk5, hk6⟩ := hK.1 m hm
  refine jr_aload_n d_Mo_faultAt_22 rfl ?_
  refine jr_getf d_Mo_faultAt_23 f_Mo_faultAt_38 hO rfl ?_
  refine jr_bipush ((nI (24))) d_Mo_faultAt_26 (by decide) ?_
  refine jr_iload_n d_Mo_faultAt_28 rfl ?_
  refine jr_imulN d_Mo_faultAt_29 ?_
  refine jr_iload_n d_Mo_faultAt_30 rfl ?_
  refine jr_iaddN d_Mo_faultAt_31 ?_
  refine jr_ialdQ (v := (nI (1))) d_Mo_faultAt_32 h32 (by omega) (by omega) (congrArg nI ho) ?_
  refine jr_istore_n d_Mo_faultAt_33 (by decide) ?_
  show jl_W l G m_Mo_faultAt (0, 0) 34 [some (.ref 22), some (.int (nI m)), some (.int (nI pc)), some (.int (nI 1)), none, none] [] (σ) (.inl (some (.int (nI (if 0 ≤ h ∧ h - 0 + 1 ≤ 5 then (if (ld.isSome) = true then 0 else 2) else 1))))) (σ)
  refine jr_aload_n d_Mo_faultAt_34 rfl ?_
  refine jr_iload_n d_Mo_faultAt_35 rfl ?_
  refine jr_aload_n d_Mo_faultAt_36 rfl ?_
  refine jr_getf d_Mo_faultAt_37 f_Mo_faultAt_41 hO rfl ?_
  refine jr_bipush ((nI (24))) d_Mo_faultAt_40 (by decide) ?_
  refine jr_iload_n d_Mo_faultAt_42 rfl ?_
  refine jr_imulN d_Mo_faultAt_43 ?_
  refine jr_iload_n d_Mo_faultAt_44 rfl ?_
  refine jr_iaddN d_Mo_faultAt_45 ?_
  refine jr_ialdQ (v := (nI (n))) d_Mo_faultAt_46 h33 (by omega) (by omega) (hx) ?_
  refine jr_callV (As := [.int (nI 1), .int (nI n)]) d_Mo_faultAt_47 k_Mo_faultAt_176 hO rfl rfl rfl (Nat.le_of_ble_eq_true rfl) (by decide) (by decide) (mo_tk_1 hl hO hw hu) ?_
  show jl_W l G m_Mo_faultAt (0, 0) 50 [some (.ref 22), some (.int (nI m)), some (.int (nI pc)), some (.int (nI 1)), none, none] [.int (nI 0)] (σ) (.inl (some (.int (nI (if 0 ≤ h ∧ h - 0 + 1 ≤ 5 then (if (ld.isSome) = true then 0 else 2) else 1))))) (σ)
  refine jr_istore d_Mo_faultAt_50 (by decide) ?_
  show jl_W l G m_Mo_faultAt (0, 0) 52 [some (.ref 22), some (.int (nI m)), some (.int (nI pc)), some (.int (nI 1)), some (.int (nI 0)), none] [] (σ) (.inl (some (.int (nI (if 0 ≤ h ∧ h - 0 + 1 ≤ 5 then (if (ld.isSome) = true then 0 else 2) else 1))))) (σ)
  refine jr_aload_n d_Mo_faultAt_52 rfl ?_
  refine jr_getf d_Mo_faultAt_53 f_Mo_faultAt_179 hO rfl ?_
  refine jr_iload d_Mo_faultAt_56 rfl ?_
  refine jr_icmp_ltN 78 d_Mo_faultAt_58 (by decide) (by omega) (by omega) (fun c1 => ?_) (fun c1 => ?_)
  · refine jr_iconst ((nI (1))) d_Mo_faultAt_78 (by decide) ?_
    exact jr_iretE d_Mo_faultAt_79 rfl (by rw [if_neg (by omega)]) (rfl) (by decide) (by decide)
  · refine jr_aload_n d_Mo_faultAt_61 rfl ?_
    refine jr_getf d_Mo_faultAt_62 f_Mo_faultAt_179 hO rfl ?_
    refine jr_iload d_Mo_faultAt_65 rfl ?_
    refine jr_isubN d_Mo_faultAt_67 (by omega) ?_
    refine jr_aload_n d_Mo_faultAt_68 rfl ?_
    refine jr_iload_n d_Mo_faultAt_69 rfl ?_
    refine jr_callV (As := [.int (nI 1)]) d_Mo_faultAt_70 k_Mo_faultAt_182 hO rfl rfl rfl (Nat.le_of_ble_eq_true rfl) (by decide) (by decide) (mo_puts hl hO hw (by omega)) ?_
    show jl_W l G m_Mo_faultAt (0, 0) 73 [some (.ref 22), some (.int (nI m)), some (.int (nI pc)), some (.int (nI 1)), some (.int (nI 0)), none] [.int (nI 1), .int (nI ((h) - (0)))] (σ) (.inl (some (.int (nI (if 0 ≤ h ∧ h - 0 + 1 ≤ 5 then (if (ld.isSome) = true then 0 else 2) else 1))))) (σ)
    refine jr_iaddN d_Mo_faultAt_73 ?_
    refine jr_iconst ((nI (5))) d_Mo_faultAt_74 (by decide) ?_
    refine jr_icmp_leN 80 d_Mo_faultAt_75 (by decide) (by omega) (by omega) (fun c2 => ?_) (fun c2 => ?_)
    · refine jr_iload_n d_Mo_faultAt_80 rfl ?_
      refine jr_iconst ((nI (1))) d_Mo_faultAt_81 (by decide) ?_
      refine jr_icmp_ne 107 d_Mo_faultAt_82 (by decide) (fun z => absurd rfl z) (fun _ => ?_)
      refine jr_aload_n d_Mo_faultAt_85 rfl ?_
      refine jr_getf d_Mo_faultAt_86 f_Mo_faultAt_69 hO rfl ?_
      refine jr_aload_n d_Mo_faultAt_89 rfl ?_
      refine jr_getf d_Mo_faultAt_90 f_Mo_faultAt_41 hO rfl ?_
      refine jr_bipush ((nI (24))) d_Mo_faultAt_93 (by decide) ?_
      refine jr_iload_n d_Mo_faultAt_95 rfl ?_
      refine jr_imulN d_Mo_faultAt_96 ?_
      refine jr_iload_n d_Mo_faultAt_97 rfl ?_
      refine jr_iaddN d_Mo_faultAt_98 ?_
      refine jr_ialdQ (v := (nI (n))) d_Mo_faultAt_99 h33 (by omega) (by omega) (hx) ?_
      refine jr_ialdQ (v := (en ld)) d_Mo_faultAt_100 r1 (by omega) (by omega) (congrArg en el) ?_
      cases ld with
      | none =>
        show jl_W l G m_Mo_faultAt (0, 0) 101 [some (.ref 22), some (.int (nI m)), some (.int (nI pc)), some (.int (nI 1)), some (.int (nI 0)), none] [.int (-1)] (σ) (.inl (some (.int (nI (if 0 ≤ h ∧ h - 0 + 1 ≤ 5 then (if (none.isSome) = true then 0 else 2) else 1))))) (σ)
        refine jr_iconst ((-1)) d_Mo_faultAt_101 (by decide) ?_
        refine jr_icmp_ne 107 d_Mo_faultAt_102 (by decide) (fun z => absurd rfl z) (fun _ => ?_)
        refine jr_iconst ((nI (2))) d_Mo_faultAt_105 (by decide) ?_
        exact jr_iretE d_Mo_faultAt_106 rfl (by rw [if_pos (by omega), if_neg (by simp [Bool.and_self])]) (rfl) (by decide) (by decide)
      | some t =>
        have htt : t < 16 := hld t rfl
        show jl_W l G m_Mo_faultAt (0, 0) 101 [some (.ref 22), some (.int (nI m)), some (.int (nI pc)), some (.int (nI 1)), some (.int (nI 0)), none] [.int (nI t)] (σ) (.inl (some (.int (nI (if 0 ≤ h ∧ h - 0 + 1 ≤ 5 then (if ((some t).isSome) = true then 0 else 2) else 1))))) (σ)
        refine jr_iconst ((-1)) d_Mo_faultAt_101 (by decide) ?_
        refine jr_icmp_ne 107 d_Mo_faultAt_102 (by decide) (fun _ => ?_) (fun z => absurd z (en_m1ne (by omega)))
        refine jr_iconst ((nI (0))) d_Mo_faultAt_107 (by decide) ?_
        refine jr_istore d_Mo_faultAt_108 (by decide) ?_
        show jl_W l G m_Mo_faultAt (0, 0) 110 [some (.ref 22), some (.int (nI m)), some (.int (nI pc)), some (.int (nI 1)), some (.int (nI 0)), some (.int (nI 0))] [] (σ) (.inl (some (.int (nI (if 0 ≤ h ∧ h - 0 + 1 ≤ 5 then (if ((some t).isSome) = true then 0 else 2) else 1))))) (σ)
        refine jr_iload d_Mo_faultAt_110 rfl ?_
        refine jr_iload d_Mo_faultAt_112 rfl ?_
        refine jr_icmp_ge 151 d_Mo_faultAt_114 (by decide) (fun _ => ?_) (fun z => absurd (by decide) z)
        refine jr_iconst ((nI (0))) d_Mo_faultAt_151 (by decide) ?_
        exact jr_iretE d_Mo_faultAt_152 rfl (by rw [if_pos (by omega), if_pos (by simp [Bool.and_self])]) (rfl) (by decide) (by decide)
    · refine jr_iconst ((nI (1))) d_Mo_faultAt_78 (by decide) ?_
      exact jr_iretE d_Mo_faultAt_79 rfl (by rw [if_neg (by omega)]) (rfl) (by decide) (by decide)
theorem d_Mo_faultAt_117 : decode m_Mo_faultAt.2.1 117 = .ok (.aload_n 0, 1) := by decide +kernel
theorem d_Mo_faultAt_118 : decode m_Mo_faultAt.2.1 118 = .ok (.iload_n 1, 1) := by decide +kernel
theorem d_Mo_faultAt_119 : decode m_Mo_faultAt.2.1 119 = .ok (.iload_n 2, 1) := by decide +kernel
theorem d_Mo_faultAt_120 : decode m_Mo_faultAt.2.1 120 = .ok (.iload 5, 2) := by decide +kernel
theorem d_Mo_faultAt_122 : decode m_Mo_faultAt.2.1 122 = .ok (.aload_n 0, 1) := by decide +kernel
theorem f_Mo_faultAt_72 : jl_fd m_Mo_faultAt 72 7 22 = true := by decide +kernel
theorem d_Mo_faultAt_123 : decode m_Mo_faultAt.2.1 123 = .ok (.getfield 72, 3) := by decide +kernel
theorem d_Mo_faultAt_126 : decode m_Mo_faultAt.2.1 126 = .ok (.aload_n 0, 1) := by decide +kernel
theorem d_Mo_faultAt_127 : decode m_Mo_faultAt.2.1 127 = .ok (.getfield 179, 3) := by decide +kernel
theorem d_Mo_faultAt_130 : decode m_Mo_faultAt.2.1 130 = .ok (.iload 4, 2) := by decide +kernel
theorem d_Mo_faultAt_132 : decode m_Mo_faultAt.2.1 132 = .ok (.isub, 1) := by decide +kernel
theorem d_Mo_faultAt_133 : decode m_Mo_faultAt.2.1 133 = .ok (.iload 5, 2) := by decide +kernel
theorem d_Mo_faultAt_135 : decode m_Mo_faultAt.2.1 135 = .ok (.iadd, 1) := by decide +kernel
theorem d_Mo_faultAt_136 : decode m_Mo_faultAt.2.1 136 = .ok (.iaload, 1) := by decide +kernel
theorem k_Mo_faultAt_185 : jl_cv m_Mo_faultAt m_Mo_fits 185 4 = true := by decide +kernel
theorem d_Mo_faultAt_137 : decode m_Mo_faultAt.2.1 137 = .ok (.invokevirtual 185, 3) := by decide +kernel
theorem d_Mo_faultAt_140 : decode m_Mo_faultAt.2.1 140 = .ok (.ifCond .ne 5, 3) := by decide +kernel
theorem d_Mo_faultAt_145 : decode m_Mo_faultAt.2.1 145 = .ok (.iinc 5 1, 3) := by decide +kernel
theorem d_Mo_faultAt_148 : decode m_Mo_faultAt.2.1 148 = .ok (.goto (-38), 3) := by decide +kernel
theorem mo_fa_2 (hl : l.stackTraces = false) {m pc h : Nat} {x : Int32} {t0 : Option Nat} (hO : MoO σ fa vf wh wy (nI (h)) dp md ov oh dn an) (hw : MoW σ tb pr ow ft hs) (hu : MoM σ u1 u2 ur ul uo ua uc us ut uk) (hr : MoR σ lo sk) (hok : WoOk tb pr ow fi) (hK : MoK u1 u2 ur ul uo uc us ut uk) (hm : m < 24) (hpc : pc < 24) (ho : uo (24 * m + pc) = 2) (hx : ua (24 * m + pc) = x) (hh5 : h ≤ 5) (e_0 : 0 < h → sk (h - 1 - 0) = t0) (ht0 : ob 16 t0) : jl_W l G m_Mo_faultAt (0, 0) 22 [some (.ref 22), some (.int (nI m)), some (.int (nI pc)), none, none, none] [] σ (.inl (some (.int (nI (if 1 ≤ h ∧ h - 1 + 0 ≤ 5 then (if (true) = true then 0 else 2) else 1))))) (σ) := by
  obtain ⟨h23, h24, h25, h26, h27⟩ := id hw
  obtain ⟨h28, h29, h30, h31, h32, h33, h34, h35, h36, h37⟩ := id hu
  obtain ⟨r1, r2⟩ := id hr
  obtain ⟨hk1, hk2, hk3, hk4, hk5, hk6⟩ := hK.1 m hm
  refine jr_aload_n d_Mo_faultAt_22 rfl ?_
  refine jr_getf d_Mo_faultAt_23 f_Mo_faultAt_38 hO rfl ?_
  refine jr_bipush ((nI (24))) d_Mo_faultAt_26 (by decide) ?_
  refine jr_iload_n d_Mo_faultAt_28 rfl ?_
  refine jr_imulN d_Mo_faultAt_29 ?_
  refine jr_iload_n d_Mo_faultAt_30 rfl ?_
  refine jr_iaddN d_Mo_faultAt_31 ?_
  refine jr_ialdQ (v := (nI (2))) d_Mo_faultAt_32 h32 (by omega) (by omega) (congrArg nI ho) ?_
  refine jr_istore_n d_Mo_faultAt_33 (by decide) ?_
  show jl_W l G m_Mo_faultAt (0, 0) 34 [some (.ref 22), some (.int (nI m)), some (.int (nI pc)), some (.int (nI 2)), none, none] [] (σ) (.inl (some (.int (nI (if 1 ≤ h ∧ h - 1 + 0 ≤ 5 then (if (true) = true then 0 else 2) else 1))))) (σ)
  refine jr_aload_n d_Mo_faultAt_34 rfl ?_
  refine jr_iload_n d_Mo_faultAt_35 rfl ?_
  refine jr_aload_n d_Mo_faultAt_36 rfl ?_
  refine jr_getf d_Mo_faultAt_37 f_Mo_faultAt_41 hO rfl ?_
  refine jr_bipush ((nI (24))) d_Mo_faultAt_40 (by decide) ?_
  refine jr_iload_n d_Mo_faultAt_42 rfl ?_
  refine jr_imulN d_Mo_faultAt_43 ?_
  refine jr_iload_n d_Mo_faultAt_44 rfl ?_
  refine jr_iaddN d_Mo_faultAt_45 ?_
  refine jr_ialdQ (v := (x)) d_Mo_faultAt_46 h33 (by omega) (by omega) (hx) ?_
  refine jr_callV (As := [.int (nI 2), .int (x)]) d_Mo_faultAt_47 k_Mo_faultAt_176 hO rfl rfl rfl (Nat.le_of_ble_eq_true rfl) (by decide) (by decide) (mo_tk_2 hl hO hw hu) ?_
  show jl_W l G m_Mo_faultAt (0, 0) 50 [some (.ref 22), some (.int (nI m)), some (.int (nI pc)), some (.int (nI 2)), none, none] [.int (nI 1)] (σ) (.inl (some (.int (nI (if 1 ≤ h ∧ h - 1 + 0 ≤ 5 then (if (true) = true then 0 else 2) else 1))))) (σ)
  refine jr_istore d_Mo_faultAt_50 (by decide) ?_
  show jl_W l G m_Mo_faultAt (0, 0) 52 [some (.ref 22), some (.int (nI m)), some (.int (nI pc)), some (.int (nI 2)), some (.int (nI 1)), none] [] (σ) (.inl (some (.int (nI (if 1 ≤ h ∧ h - 1 + 0 ≤ 5 then (if (true) = true then 0 else 2) else 1))))) (σ)
  refine jr_aload_n d_Mo_faultAt_52 rfl ?_
  refine jr_getf d_Mo_faultAt_53 f_Mo_faultAt_179 hO rfl ?_
  refine jr_iload d_Mo_faultAt_56 rfl ?_
  refine jr_icmp_ltN 78 d_Mo_faultAt_58 (by decide) (by omega) (by omega) (fun c1 => ?_) (fun c1 => ?_)
  · refine jr_iconst ((nI (1))) d_Mo_faultAt_78 (by decide) ?_
    exact jr_iretE d_Mo_faultAt_79 rfl (by rw [if_neg (by omega)]) (rfl) (by decide) (by decide)
  · refine jr_aload_n d_Mo_faultAt_61 rfl ?_
    refine jr_getf d_Mo_faultAt_62 f_Mo_faultAt_179 hO rfl ?_
    refine jr_iload d_Mo_faultAt_65 rfl ?_
    refine jr_isubN d_Mo_faultAt_67 (by omega) ?_
    refine jr_aload_n d_Mo_faultAt_68 rfl ?_
    refine jr_iload_n d_Mo_faultAt_69 rfl ?_
    refine jr_callV (As := [.int (nI 2)]) d_Mo_faultAt_70 k_Mo_faultAt_182 hO rfl rfl rfl (Nat.le_of_ble_eq_true rfl) (by decide) (by decide) (mo_puts hl hO hw (by omega)) ?_
    show jl_W l G m_Mo_faultAt (0, 0) 73 [some (.ref 22), some (.int (nI m)), some (.int (nI pc)), some (.int (nI 2)), some (.int (nI 1)), none] [.int (nI 0), .int (nI ((h) - (1)))] (σ) (.inl (some (.int (nI (if 1 ≤ h ∧ h - 1 + 0 ≤ 5 then (if (true) = true then 0 else 2) else 1))))) (σ)
    refine jr_iaddN d_Mo_faultAt_73 ?_
    refine jr_iconst ((nI (5))) d_Mo_faultAt_74 (by decide) ?_
    refine jr_icmp_leN 80 d_Mo_faultAt_75 (by decide) (by omega) (by omega) (fun c2 => ?_) (fun c2 => ?_)
    · refine jr_iload_n d_Mo_faultAt_80 rfl ?_
      refine jr_iconst ((nI (1))) d_Mo_faultAt_81 (by decide) ?_
      refine jr_icmp_ne 107 d_Mo_faultAt_82 (by decide) (fun _ => ?_) (fun z => absurd z (by decide))
      refine jr_iconst ((nI (0))) d_Mo_faultAt_107 (by decide) ?_
      refine jr_istore d_Mo_faultAt_108 (by decide) ?_
      show jl_W l G m_Mo_faultAt (0, 0) 110 [some (.ref 22), some (.int (nI m)), some (.int (nI pc)), some (.int (nI 2)), some (.int (nI 1)), some (.int (nI 0))] [] (σ) (.inl (some (.int (nI (if 1 ≤ h ∧ h - 1 + 0 ≤ 5 then (if (true) = true then 0 else 2) else 1))))) (σ)
      refine jr_iload d_Mo_faultAt_110 rfl ?_
      refine jr_iload d_Mo_faultAt_112 rfl ?_
      refine jr_icmp_ge 151 d_Mo_faultAt_114 (by decide) (fun z => absurd z (by decide)) (fun _ => ?_)
      refine jr_aload_n d_Mo_faultAt_117 rfl ?_
      refine jr_iload_n d_Mo_faultAt_118 rfl ?_
      refine jr_iload_n d_Mo_faultAt_119 rfl ?_
      refine jr_iload d_Mo_faultAt_120 rfl ?_
      refine jr_aload_n d_Mo_faultAt_122 rfl ?_
      refine jr_getf d_Mo_faultAt_123 f_Mo_faultAt_72 hO rfl ?_
      refine jr_aload_n d_Mo_faultAt_126 rfl ?_
      refine jr_getf d_Mo_faultAt_127 f_Mo_faultAt_179 hO rfl ?_
      refine jr_iload d_Mo_faultAt_130 rfl ?_
      refine jr_isubN d_Mo_faultAt_132 (by omega) ?_
      refine jr_iload d_Mo_faultAt_133 rfl ?_
      refine jr_iaddN d_Mo_faultAt_135 ?_
      refine jr_ialdQ (v := (en t0)) d_Mo_faultAt_136 r2 (by omega) (by omega) ((congrArg (fun j => en (sk j)) (show ((h) - (1)) + (0) = h - 1 - 0 by omega)).trans (congrArg en (e_0 (by omega)))) ?_
      refine jr_callV (As := [.int (nI m), .int (nI pc), .int (nI 0), .int (en t0)]) d_Mo_faultAt_137 k_Mo_faultAt_185 hO rfl rfl rfl (Nat.le_of_ble_eq_true rfl) (by decide) (by decide) (mo_fit_2_0 hl hO hw hu hok hK hm hpc ho hx ht0) ?_
      show jl_W l G m_Mo_faultAt (0, 0) 140 [some (.ref 22), some (.int (nI m)), some (.int (nI pc)), some (.int (nI 2)), some (.int (nI 1)), some (.int (nI 0))] [.int (nI 1)] (σ) (.inl (some (.int (nI (if 1 ≤ h ∧ h - 1 + 0 ≤ 5 then (if (true) = true then 0 else 2) else 1))))) (σ)
      refine jr_if_ne 145 d_Mo_faultAt_140 (by decide) (fun _ => ?_) (fun z => absurd z (by decide))
      refine jr_iinc ((nI (0 + 1))) d_Mo_faultAt_145 (by decide) rfl (jl_inc _) ?_
      show jl_W l G m_Mo_faultAt (0, 0) 148 [some (.ref 22), some (.int (nI m)), some (.int (nI pc)), some (.int (nI 2)), some (.int (nI 1)), some (.int (nI (0 + 1)))] [] (σ) (.inl (some (.int (nI (if 1 ≤ h ∧ h - 1 + 0 ≤ 5 then (if (true) = true then 0 else 2) else 1))))) (σ)
      refine jr_goto 110 d_Mo_faultAt_148 (by decide) ?_
      show jl_W l G m_Mo_faultAt (0, 0) 110 [some (.ref 22), some (.int (nI m)), some (.int (nI pc)), some (.int (nI 2)), some (.int (nI 1)), some (.int (nI 1))] [] (σ) (.inl (some (.int (nI (if 1 ≤ h ∧ h - 1 + 0 ≤ 5 then (if (true) = true then 0 else 2) else 1))))) (σ)
      refine jr_iload d_Mo_faultAt_110 rfl ?_
      refine jr_iload d_Mo_faultAt_112 rfl ?_
      refine jr_icmp_ge 151 d_Mo_faultAt_114 (by decide) (fun _ => ?_) (fun z => absurd (by decide) z)
      refine jr_iconst ((nI (0))) d_Mo_faultAt_151 (by decide) ?_
      exact jr_iretE d_Mo_faultAt_152 rfl (by rw [if_pos (by omega), if_pos (by simp [Bool.and_self])]) (rfl) (by decide) (by decide)
    · refine jr_iconst ((nI (1))) d_Mo_faultAt_78 (by decide) ?_
      exact jr_iretE d_Mo_faultAt_79 rfl (by rw [if_neg (by omega)]) (rfl) (by decide) (by decide)
theorem d_Mo_faultAt_143 : decode m_Mo_faultAt.2.1 143 = .ok (.iconst 2, 1) := by decide +kernel
theorem d_Mo_faultAt_144 : decode m_Mo_faultAt.2.1 144 = .ok (.ireturn, 1) := by decide +kernel
theorem mo_fa_3 (hl : l.stackTraces = false) {m pc h : Nat} {x : Int32} {t0 : Option Nat} {t1 : Option Nat} (hO : MoO σ fa vf wh wy (nI (h)) dp md ov oh dn an) (hw : MoW σ tb pr ow ft hs) (hu : MoM σ u1 u2 ur ul uo ua uc us ut uk) (hr : MoR σ lo sk) (hok : WoOk tb pr ow fi) (hK : MoK u1 u2 ur ul uo uc us ut uk) (hm : m < 24) (hpc : pc < 24) (ho : uo (24 * m + pc) = 3) (hx : ua (24 * m + pc) = x) (hh5 : h ≤ 5) (e_0 : 0 < h → sk (h - 1 - 0) = t0) (ht0 : ob 16 t0) (e_1 : 1 < h → sk (h - 1 - 1) = t1) (ht1 : ob 16 t1) : jl_W l G m_Mo_faultAt (0, 0) 22 [some (.ref 22), some (.int (nI m)), some (.int (nI pc)), none, none, none] [] σ (.inl (some (.int (nI (if 2 ≤ h ∧ h - 2 + 1 ≤ 5 then (if (isI t1 && isI t0) = true then 0 else 2) else 1))))) (σ) := by
  obtain ⟨h23, h24, h25, h26, h27⟩ := id hw
  obtain ⟨h28, h29, h30, h31, h32, h33, h34, h35, h36, h37⟩ := id hu
  obtain ⟨r1, r2⟩ := id hr
  obtain ⟨hk1, hk2, hk3, hk4, hk5, hk6⟩ := hK.1 m hm
  refine jr_aload_n d_Mo_faultAt_22 rfl ?_
  refine jr_getf d_Mo_faultAt_23 f_Mo_faultAt_38 hO rfl ?_
  refine jr_bipush ((nI (24))) d_Mo_faultAt_26 (by decide) ?_
  refine jr_iload_n d_Mo_faultAt_28 rfl ?_
  refine jr_imulN d_Mo_faultAt_29 ?_
  refine jr_iload_n d_Mo_faultAt_30 rfl ?_
  refine jr_iaddN d_Mo_faultAt_31 ?_
  refine jr_ialdQ (v := (nI (3))) d_Mo_faultAt_32 h32 (by omega) (by omega) (congrArg nI ho) ?_
  refine jr_istore_n d_Mo_faultAt_33 (by decide) ?_
  show jl_W l G m_Mo_faultAt (0, 0) 34 [some (.ref 22), some (.int (nI m)), some (.int (nI pc)), some (.int (nI 3)), none, none] [] (σ) (.inl (some (.int (nI (if 2 ≤ h ∧ h - 2 + 1 ≤ 5 then (if (isI t1 && isI t0) = true then 0 else 2) else 1))))) (σ)
  refine jr_aload_n d_Mo_faultAt_34 rfl ?_
  refine jr_iload_n d_Mo_faultAt_35 rfl ?_
  refine jr_aload_n d_Mo_faultAt_36 rfl ?_
  refine jr_getf d_Mo_faultAt_37 f_Mo_faultAt_41 hO rfl ?_
  refine jr_bipush ((nI (24))) d_Mo_faultAt_40 (by decide) ?_
  refine jr_iload_n d_Mo_faultAt_42 rfl ?_
  refine jr_imulN d_Mo_faultAt_43 ?_
  refine jr_iload_n d_Mo_faultAt_44 rfl ?_
  refine jr_iaddN d_Mo_faultAt_45 ?_
  refine jr_ialdQ (v := (x)) d_Mo_faultAt_46 h33 (by omega) (by omega) (hx) ?_
  refine jr_callV (As := [.int (nI 3), .int (x)]) d_Mo_faultAt_47 k_Mo_faultAt_176 hO rfl rfl rfl (Nat.le_of_ble_eq_true rfl) (by decide) (by decide) (mo_tk_3 hl hO hw hu) ?_
  show jl_W l G m_Mo_faultAt (0, 0) 50 [some (.ref 22), some (.int (nI m)), some (.int (nI pc)), some (.int (nI 3)), none, none] [.int (nI 2)] (σ) (.inl (some (.int (nI (if 2 ≤ h ∧ h - 2 + 1 ≤ 5 then (if (isI t1 && isI t0) = true then 0 else 2) else 1))))) (σ)
  refine jr_istore d_Mo_faultAt_50 (by decide) ?_
  show jl_W l G m_Mo_faultAt (0, 0) 52 [some (.ref 22), some (.int (nI m)), some (.int (nI pc)), some (.int (nI 3)), some (.int (nI 2)), none] [] (σ) (.inl (some (.int (nI (if 2 ≤ h ∧ h - 2 + 1 ≤ 5 then (if (isI t1 && isI t0) = true then 0 else 2) else 1))))) (σ)
  refine jr_aload_n d_Mo_faultAt_52 rfl ?_
  refine jr_getf d_Mo_faultAt_53 f_Mo_faultAt_179 hO rfl ?_
  refine jr_iload d_Mo_faultAt_56 rfl ?_
  refine jr_icmp_ltN 78 d_Mo_faultAt_58 (by decide) (by omega) (by omega) (fun c1 => ?_) (fun c1 => ?_)
  · refine jr_iconst ((nI (1))) d_Mo_faultAt_78 (by decide) ?_
    exact jr_iretE d_Mo_faultAt_79 rfl (by rw [if_neg (by omega)]) (rfl) (by decide) (by decide)
  · refine jr_aload_n d_Mo_faultAt_61 rfl ?_
    refine jr_getf d_Mo_faultAt_62 f_Mo_faultAt_179 hO rfl ?_
    refine jr_iload d_Mo_faultAt_65 rfl ?_
    refine jr_isubN d_Mo_faultAt_67 (by omega) ?_
    refine jr_aload_n d_Mo_faultAt_68 rfl ?_
    refine jr_iload_n d_Mo_faultAt_69 rfl ?_
    refine jr_callV (As := [.int (nI 3)]) d_Mo_faultAt_70 k_Mo_faultAt_182 hO rfl rfl rfl (Nat.le_of_ble_eq_true rfl) (by decide) (by decide) (mo_puts hl hO hw (by omega)) ?_
    show jl_W l G m_Mo_faultAt (0, 0) 73 [some (.ref 22), some (.int (nI m)), some (.int (nI pc)), some (.int (nI 3)), some (.int (nI 2)), none] [.int (nI 1), .int (nI ((h) - (2)))] (σ) (.inl (some (.int (nI (if 2 ≤ h ∧ h - 2 + 1 ≤ 5 then (if (isI t1 && isI t0) = true then 0 else 2) else 1))))) (σ)
    refine jr_iaddN d_Mo_faultAt_73 ?_
    refine jr_iconst ((nI (5))) d_Mo_faultAt_74 (by decide) ?_
    refine jr_icmp_leN 80 d_Mo_faultAt_75 (by decide) (by omega) (by omega) (fun c2 => ?_) (fun c2 => ?_)
    · refine jr_iload_n d_Mo_faultAt_80 rfl ?_
      refine jr_iconst ((nI (1))) d_Mo_faultAt_81 (by decide) ?_
      refine jr_icmp_ne 107 d_Mo_faultAt_82 (by decide) (fun _ => ?_) (fun z => absurd z (by decide))
      refine jr_iconst ((nI (0))) d_Mo_faultAt_107 (by decide) ?_
      refine jr_istore d_Mo_faultAt_108 (by decide) ?_
      show jl_W l G m_Mo_faultAt (0, 0) 110 [some (.ref 22), some (.int (nI m)), some (.int (nI pc)), some (.int (nI 3)), some (.int (nI 2)), some (.int (nI 0))] [] (σ) (.inl (some (.int (nI (if 2 ≤ h ∧ h - 2 + 1 ≤ 5 then (if (isI t1 && isI t0) = true then 0 else 2) else 1))))) (σ)
      refine jr_iload d_Mo_faultAt_110 rfl ?_
      refine jr_iload d_Mo_faultAt_112 rfl ?_
      refine jr_icmp_ge 151 d_Mo_faultAt_114 (by decide) (fun z => absurd z (by decide)) (fun _ => ?_)
      refine jr_aload_n d_Mo_faultAt_117 rfl ?_
      refine jr_iload_n d_Mo_faultAt_118 rfl ?_
      refine jr_iload_n d_Mo_faultAt_119 rfl ?_
      refine jr_iload d_Mo_faultAt_120 rfl ?_
      refine jr_aload_n d_Mo_faultAt_122 rfl ?_
      refine jr_getf d_Mo_faultAt_123 f_Mo_faultAt_72 hO rfl ?_
      refine jr_aload_n d_Mo_faultAt_126 rfl ?_
      refine jr_getf d_Mo_faultAt_127 f_Mo_faultAt_179 hO rfl ?_
      refine jr_iload d_Mo_faultAt_130 rfl ?_
      refine jr_isubN d_Mo_faultAt_132 (by omega) ?_
      refine jr_iload d_Mo_faultAt_133 rfl ?_
      refine jr_iaddN d_Mo_faultAt_135 ?_
      refine jr_ialdQ (v := (en t1)) d_Mo_faultAt_136 r2 (by omega) (by omega) ((congrArg (fun j => en (sk j)) (show ((h) - (2)) + (0) = h - 1 - 1 by omega)).trans (congrArg en (e_1 (by omega)))) ?_
      refine jr_callV (As := [.int (nI m), .int (nI pc), .int (nI 0), .int (en t1)]) d_Mo_faultAt_137 k_Mo_faultAt_185 hO rfl rfl rfl (Nat.le_of_ble_eq_true rfl) (by decide) (by decide) (mo_fit_3_0 hl hO hw hu hok hK hm hpc ho hx ht1) ?_
      show jl_W l G m_Mo_faultAt (0, 0) 140 [some (.ref 22), some (.int (nI m)), some (.int (nI pc)), some (.int (nI 3)), some (.int (nI 2)), some (.int (nI 0))] [.int (bi (isI t1))] (σ) (.inl (some (.int (nI (if 2 ≤ h ∧ h - 2 + 1 ≤ 5 then (if (isI t1 && isI t0) = true then 0 else 2) else 1))))) (σ)
      refine jr_if_ne 145 d_Mo_faultAt_140 (by decide) (fun c3 => ?_) (fun c3 => ?_)
      · refine jr_iinc ((nI (0 + 1))) d_Mo_faultAt_145 (by decide) rfl (jl_inc _) ?_
        show jl_W l G m_Mo_faultAt (0, 0) 148 [some (.ref 22), some (.int (nI m)), some (.int (nI pc)), some (.int (nI 3)), some (.int (nI 2)), some (.int (nI (0 + 1)))] [] (σ) (.inl (some (.int (nI (if 2 ≤ h ∧ h - 2 + 1 ≤ 5 then (if (isI t1 && isI t0) = true then 0 else 2) else 1))))) (σ)
        refine jr_goto 110 d_Mo_faultAt_148 (by decide) ?_
        show jl_W l G m_Mo_faultAt (0, 0) 110 [some (.ref 22), some (.int (nI m)), some (.int (nI pc)), some (.int (nI 3)), some (.int (nI 2)), some (.int (nI 1))] [] (σ) (.inl (some (.int (nI (if 2 ≤ h ∧ h - 2 + 1 ≤ 5 then (if (isI t1 && isI t0) = true then 0 else 2) else 1))))) (σ)
        refine jr_iload d_Mo_faultAt_110 rfl ?_
        refine jr_iload d_Mo_faultAt_112 rfl ?_
        refine jr_icmp_ge 151 d_Mo_faultAt_114 (by decide) (fun z => absurd z (by decide)) (fun _ => ?_)
        refine jr_aload_n d_Mo_faultAt_117 rfl ?_
        refine jr_iload_n d_Mo_faultAt_118 rfl ?_
        refine jr_iload_n d_Mo_faultAt_119 rfl ?_
        refine jr_iload d_Mo_faultAt_120 rfl ?_
        refine jr_aload_n d_Mo_faultAt_122 rfl ?_
        refine jr_getf d_Mo_faultAt_123 f_Mo_faultAt_72 hO rfl ?_
        refine jr_aload_n d_Mo_faultAt_126 rfl ?_
        refine jr_getf d_Mo_faultAt_127 f_Mo_faultAt_179 hO rfl ?_
        refine jr_iload d_Mo_faultAt_130 rfl ?_
        refine jr_isubN d_Mo_faultAt_132 (by omega) ?_
        refine jr_iload d_Mo_faultAt_133 rfl ?_
        refine jr_iaddN d_Mo_faultAt_135 ?_
        refine jr_ialdQ (v := (en t0)) d_Mo_faultAt_136 r2 (by omega) (by omega) ((congrArg (fun j => en (sk j)) (show ((h) - (2)) + (1) = h - 1 - 0 by omega)).trans (congrArg en (e_0 (by omega)))) ?_
        refine jr_callV (As := [.int (nI m), .int (nI pc), .int (nI 1), .int (en t0)]) d_Mo_faultAt_137 k_Mo_faultAt_185 hO rfl rfl rfl (Nat.le_of_ble_eq_true rfl) (by decide) (by decide) (mo_fit_3_1 hl hO hw hu hok hK hm hpc ho hx ht0) ?_
        show jl_W l G m_Mo_faultAt (0, 0) 140 [some (.ref 22), some (.int (nI m)), some (.int (nI pc)), some (.int (nI 3)), some (.int (nI 2)), some (.int (nI 1))] [.int (bi (isI t0))] (σ) (.inl (some (.int (nI (if 2 ≤ h ∧ h - 2 + 1 ≤ 5 then (if (isI t1 && isI t0) = true then 0 else 2) else 1))))) (σ)
        refine jr_if_ne 145 d_Mo_faultAt_140 (by decide) (fun c4 => ?_) (fun c4 => ?_)
        · refine jr_iinc ((nI (1 + 1))) d_Mo_faultAt_145 (by decide) rfl (jl_inc _) ?_
          show jl_W l G m_Mo_faultAt (0, 0) 148 [some (.ref 22), some (.int (nI m)), some (.int (nI pc)), some (.int (nI 3)), some (.int (nI 2)), some (.int (nI (1 + 1)))] [] (σ) (.inl (some (.int (nI (if 2 ≤ h ∧ h - 2 + 1 ≤ 5 then (if (isI t1 && isI t0) = true then 0 else 2) else 1))))) (σ)
          refine jr_goto 110 d_Mo_faultAt_148 (by decide) ?_
          show jl_W l G m_Mo_faultAt (0, 0) 110 [some (.ref 22), some (.int (nI m)), some (.int (nI pc)), some (.int (nI 3)), some (.int (nI 2)), some (.int (nI 2))] [] (σ) (.inl (some (.int (nI (if 2 ≤ h ∧ h - 2 + 1 ≤ 5 then (if (isI t1 && isI t0) = true then 0 else 2) else 1))))) (σ)
          refine jr_iload d_Mo_faultAt_110 rfl ?_
          refine jr_iload d_Mo_faultAt_112 rfl ?_
          refine jr_icmp_ge 151 d_Mo_faultAt_114 (by decide) (fun _ => ?_) (fun z => absurd (by decide) z)
          refine jr_iconst ((nI (0))) d_Mo_faultAt_151 (by decide) ?_
          exact jr_iretE d_Mo_faultAt_152 rfl (by rw [if_pos (by omega), if_pos (by simp [bi_nf c3, bi_nf c4])]) (rfl) (by decide) (by decide)
        · refine jr_iconst ((nI (2))) d_Mo_faultAt_143 (by decide) ?_
          exact jr_iretE d_Mo_faultAt_144 rfl (by rw [if_pos (by omega), if_neg (by simp [bi_nf c3, bi_0.mp c4])]) (rfl) (by decide) (by decide)
      · refine jr_iconst ((nI (2))) d_Mo_faultAt_143 (by decide) ?_
        exact jr_iretE d_Mo_faultAt_144 rfl (by rw [if_pos (by omega), if_neg (by simp [bi_0.mp c3])]) (rfl) (by decide) (by decide)
    · refine jr_iconst ((nI (1))) d_Mo_faultAt_78 (by decide) ?_
      exact jr_iretE d_Mo_faultAt_79 rfl (by rw [if_neg (by omega)]) (rfl) (by decide) (by decide)
theorem mo_fa_4 (hl : l.stackTraces = false) {m pc h : Nat} {x : Int32} {t0 : Option Nat} {t1 : Option Nat} (hO : MoO σ fa vf wh wy (nI (h)) dp md ov oh dn an) (hw : MoW σ tb pr ow ft hs) (hu : MoM σ u1 u2 ur ul uo ua uc us ut uk) (hr : MoR σ lo sk) (hok : WoOk tb pr ow fi) (hK : MoK u1 u2 ur ul uo uc us ut uk) (hm : m < 24) (hpc : pc < 24) (ho : uo (24 * m + pc) = 4) (hx : ua (24 * m + pc) = x) (hh5 : h ≤ 5) (e_0 : 0 < h → sk (h - 1 - 0) = t0) (ht0 : ob 16 t0) (e_1 : 1 < h → sk (h - 1 - 1) = t1) (ht1 : ob 16 t1) : jl_W l G m_Mo_faultAt (0, 0) 22 [some (.ref 22), some (.int (nI m)), some (.int (nI pc)), none, none, none] [] σ (.inl (some (.int (nI (if 2 ≤ h ∧ h - 2 + 1 ≤ 5 then (if (isI t1 && isI t0) = true then 0 else 2) else 1))))) (σ) := by
  obtain ⟨h23, h24, h25, h26, h27⟩ := id hw
  obtain ⟨h28, h29, h30, h31, h32, h33, h34, h35, h36, h37⟩ := id hu
  obtain ⟨r1, r2⟩ := id hr
  obtain ⟨hk1, hk2, hk3, hk4, hk5, hk6⟩ := hK.1 m hm
  refine jr_aload_n d_Mo_faultAt_22 rfl ?_
  refine jr_getf d_Mo_faultAt_23 f_Mo_faultAt_38 hO rfl ?_
  refine jr_bipush ((nI (24))) d_Mo_faultAt_26 (by decide) ?_
  refine jr_iload_n d_Mo_faultAt_28 rfl ?_
  refine jr_imulN d_Mo_faultAt_29 ?_
  refine jr_iload_n d_Mo_faultAt_30 rfl ?_
  refine jr_iaddN d_Mo_faultAt_31 ?_
  refine jr_ialdQ (v := (nI (4))) d_Mo_faultAt_32 h32 (by omega) (by omega) (congrArg nI ho) ?_
  refine jr_istore_n d_Mo_faultAt_33 (by decide) ?_
  show jl_W l G m_Mo_faultAt (0, 0) 34 [some (.ref 22), some (.int (nI m)), some (.int (nI pc)), some (.int (nI 4)), none, none] [] (σ) (.inl (some (.int (nI (if 2 ≤ h ∧ h - 2 + 1 ≤ 5 then (if (isI t1 && isI t0) = true then 0 else 2) else 1))))) (σ)
  refine jr_aload_n d_Mo_faultAt_34 rfl ?_
  refine jr_iload_n d_Mo_faultAt_35 rfl ?_
  refine jr_aload_n d_Mo_faultAt_36 rfl ?_
  refine jr_getf d_Mo_faultAt_37 f_Mo_faultAt_41 hO rfl ?_
  refine jr_bipush ((nI (24))) d_Mo_faultAt_40 (by decide) ?_
  refine jr_iload_n d_Mo_faultAt_42 rfl ?_
  refine jr_imulN d_Mo_faultAt_43 ?_
  refine jr_iload_n d_Mo_faultAt_44 rfl ?_
  refine jr_iaddN d_Mo_faultAt_45 ?_
  refine jr_ialdQ (v := (x)) d_Mo_faultAt_46 h33 (by omega) (by omega) (hx) ?_
  refine jr_callV (As := [.int (nI 4), .int (x)]) d_Mo_faultAt_47 k_Mo_faultAt_176 hO rfl rfl rfl (Nat.le_of_ble_eq_true rfl) (by decide) (by decide) (mo_tk_4 hl hO hw hu) ?_
  show jl_W l G m_Mo_faultAt (0, 0) 50 [some (.ref 22), some (.int (nI m)), some (.int (nI pc)), some (.int (nI 4)), none, none] [.int (nI 2)] (σ) (.inl (some (.int (nI (if 2 ≤ h ∧ h - 2 + 1 ≤ 5 then (if (isI t1 && isI t0) = true then 0 else 2) else 1))))) (σ)
  refine jr_istore d_Mo_faultAt_50 (by decide) ?_
  show jl_W l G m_Mo_faultAt (0, 0) 52 [some (.ref 22), some (.int (nI m)), some (.int (nI pc)), some (.int (nI 4)), some (.int (nI 2)), none] [] (σ) (.inl (some (.int (nI (if 2 ≤ h ∧ h - 2 + 1 ≤ 5 then (if (isI t1 && isI t0) = true then 0 else 2) else 1))))) (σ)
  refine jr_aload_n d_Mo_faultAt_52 rfl ?_
  refine jr_getf d_Mo_faultAt_53 f_Mo_faultAt_179 hO rfl ?_
  refine jr_iload d_Mo_faultAt_56 rfl ?_
  refine jr_icmp_ltN 78 d_Mo_faultAt_58 (by decide) (by omega) (by omega) (fun c1 => ?_) (fun c1 => ?_)
  · refine jr_iconst ((nI (1))) d_Mo_faultAt_78 (by decide) ?_
    exact jr_iretE d_Mo_faultAt_79 rfl (by rw [if_neg (by omega)]) (rfl) (by decide) (by decide)
  · refine jr_aload_n d_Mo_faultAt_61 rfl ?_
    refine jr_getf d_Mo_faultAt_62 f_Mo_faultAt_179 hO rfl ?_
    refine jr_iload d_Mo_faultAt_65 rfl ?_
    refine jr_isubN d_Mo_faultAt_67 (by omega) ?_
    refine jr_aload_n d_Mo_faultAt_68 rfl ?_
    refine jr_iload_n d_Mo_faultAt_69 rfl ?_
    refine jr_callV (As := [.int (nI 4)]) d_Mo_faultAt_70 k_Mo_faultAt_182 hO rfl rfl rfl (Nat.le_of_ble_eq_true rfl) (by decide) (by decide) (mo_puts hl hO hw (by omega)) ?_
    show jl_W l G m_Mo_faultAt (0, 0) 73 [some (.ref 22), some (.int (nI m)), some (.int (nI pc)), some (.int (nI 4)), some (.int (nI 2)), none] [.int (nI 1), .int (nI ((h) - (2)))] (σ) (.inl (some (.int (nI (if 2 ≤ h ∧ h - 2 + 1 ≤ 5 then (if (isI t1 && isI t0) = true then 0 else 2) else 1))))) (σ)
    refine jr_iaddN d_Mo_faultAt_73 ?_
    refine jr_iconst ((nI (5))) d_Mo_faultAt_74 (by decide) ?_
    refine jr_icmp_leN 80 d_Mo_faultAt_75 (by decide) (by omega) (by omega) (fun c2 => ?_) (fun c2 => ?_)
    · refine jr_iload_n d_Mo_faultAt_80 rfl ?_
      refine jr_iconst ((nI (1))) d_Mo_faultAt_81 (by decide) ?_
      refine jr_icmp_ne 107 d_Mo_faultAt_82 (by decide) (fun _ => ?_) (fun z => absurd z (by decide))
      refine jr_iconst ((nI (0))) d_Mo_faultAt_107 (by decide) ?_
      refine jr_istore d_Mo_faultAt_108 (by decide) ?_
      show jl_W l G m_Mo_faultAt (0, 0) 110 [some (.ref 22), some (.int (nI m)), some (.int (nI pc)), some (.int (nI 4)), some (.int (nI 2)), some (.int (nI 0))] [] (σ) (.inl (some (.int (nI (if 2 ≤ h ∧ h - 2 + 1 ≤ 5 then (if (isI t1 && isI t0) = true then 0 else 2) else 1))))) (σ)
      refine jr_iload d_Mo_faultAt_110 rfl ?_
      refine jr_iload d_Mo_faultAt_112 rfl ?_
      refine jr_icmp_ge 151 d_Mo_faultAt_114 (by decide) (fun z => absurd z (by decide)) (fun _ => ?_)
      refine jr_aload_n d_Mo_faultAt_117 rfl ?_
      refine jr_iload_n d_Mo_faultAt_118 rfl ?_
      refine jr_iload_n d_Mo_faultAt_119 rfl ?_
      refine jr_iload d_Mo_faultAt_120 rfl ?_
      refine jr_aload_n d_Mo_faultAt_122 rfl ?_
      refine jr_getf d_Mo_faultAt_123 f_Mo_faultAt_72 hO rfl ?_
      refine jr_aload_n d_Mo_faultAt_126 rfl ?_
      refine jr_getf d_Mo_faultAt_127 f_Mo_faultAt_179 hO rfl ?_
      refine jr_iload d_Mo_faultAt_130 rfl ?_
      refine jr_isubN d_Mo_faultAt_132 (by omega) ?_
      refine jr_iload d_Mo_faultAt_133 rfl ?_
      refine jr_iaddN d_Mo_faultAt_135 ?_
      refine jr_ialdQ (v := (en t1)) d_Mo_faultAt_136 r2 (by omega) (by omega) ((congrArg (fun j => en (sk j)) (show ((h) - (2)) + (0) = h - 1 - 1 by omega)).trans (congrArg en (e_1 (by omega)))) ?_
      refine jr_callV (As := [.int (nI m), .int (nI pc), .int (nI 0), .int (en t1)]) d_Mo_faultAt_137 k_Mo_faultAt_185 hO rfl rfl rfl (Nat.le_of_ble_eq_true rfl) (by decide) (by decide) (mo_fit_4_0 hl hO hw hu hok hK hm hpc ho hx ht1) ?_
      show jl_W l G m_Mo_faultAt (0, 0) 140 [some (.ref 22), some (.int (nI m)), some (.int (nI pc)), some (.int (nI 4)), some (.int (nI 2)), some (.int (nI 0))] [.int (bi (isI t1))] (σ) (.inl (some (.int (nI (if 2 ≤ h ∧ h - 2 + 1 ≤ 5 then (if (isI t1 && isI t0) = true then 0 else 2) else 1))))) (σ)
      refine jr_if_ne 145 d_Mo_faultAt_140 (by decide) (fun c3 => ?_) (fun c3 => ?_)
      · refine jr_iinc ((nI (0 + 1))) d_Mo_faultAt_145 (by decide) rfl (jl_inc _) ?_
        show jl_W l G m_Mo_faultAt (0, 0) 148 [some (.ref 22), some (.int (nI m)), some (.int (nI pc)), some (.int (nI 4)), some (.int (nI 2)), some (.int (nI (0 + 1)))] [] (σ) (.inl (some (.int (nI (if 2 ≤ h ∧ h - 2 + 1 ≤ 5 then (if (isI t1 && isI t0) = true then 0 else 2) else 1))))) (σ)
        refine jr_goto 110 d_Mo_faultAt_148 (by decide) ?_
        show jl_W l G m_Mo_faultAt (0, 0) 110 [some (.ref 22), some (.int (nI m)), some (.int (nI pc)), some (.int (nI 4)), some (.int (nI 2)), some (.int (nI 1))] [] (σ) (.inl (some (.int (nI (if 2 ≤ h ∧ h - 2 + 1 ≤ 5 then (if (isI t1 && isI t0) = true then 0 else 2) else 1))))) (σ)
        refine jr_iload d_Mo_faultAt_110 rfl ?_
        refine jr_iload d_Mo_faultAt_112 rfl ?_
        refine jr_icmp_ge 151 d_Mo_faultAt_114 (by decide) (fun z => absurd z (by decide)) (fun _ => ?_)
        refine jr_aload_n d_Mo_faultAt_117 rfl ?_
        refine jr_iload_n d_Mo_faultAt_118 rfl ?_
        refine jr_iload_n d_Mo_faultAt_119 rfl ?_
        refine jr_iload d_Mo_faultAt_120 rfl ?_
        refine jr_aload_n d_Mo_faultAt_122 rfl ?_
        refine jr_getf d_Mo_faultAt_123 f_Mo_faultAt_72 hO rfl ?_
        refine jr_aload_n d_Mo_faultAt_126 rfl ?_
        refine jr_getf d_Mo_faultAt_127 f_Mo_faultAt_179 hO rfl ?_
        refine jr_iload d_Mo_faultAt_130 rfl ?_
        refine jr_isubN d_Mo_faultAt_132 (by omega) ?_
        refine jr_iload d_Mo_faultAt_133 rfl ?_
        refine jr_iaddN d_Mo_faultAt_135 ?_
        refine jr_ialdQ (v := (en t0)) d_Mo_faultAt_136 r2 (by omega) (by omega) ((congrArg (fun j => en (sk j)) (show ((h) - (2)) + (1) = h - 1 - 0 by omega)).trans (congrArg en (e_0 (by omega)))) ?_
        refine jr_callV (As := [.int (nI m), .int (nI pc), .int (nI 1), .int (en t0)]) d_Mo_faultAt_137 k_Mo_faultAt_185 hO rfl rfl rfl (Nat.le_of_ble_eq_true rfl) (by decide) (by decide) (mo_fit_4_1 hl hO hw hu hok hK hm hpc ho hx ht0) ?_
        show jl_W l G m_Mo_faultAt (0, 0) 140 [some (.ref 22), some (.int (nI m)), some (.int (nI pc)), some (.int (nI 4)), some (.int (nI 2)), some (.int (nI 1))] [.int (bi (isI t0))] (σ) (.inl (some (.int (nI (if 2 ≤ h ∧ h - 2 + 1 ≤ 5 then (if (isI t1 && isI t0) = true then 0 else 2) else 1))))) (σ)
        refine jr_if_ne 145 d_Mo_faultAt_140 (by decide) (fun c4 => ?_) (fun c4 => ?_)
        · refine jr_iinc ((nI (1 + 1))) d_Mo_faultAt_145 (by decide) rfl (jl_inc _) ?_
          show jl_W l G m_Mo_faultAt (0, 0) 148 [some (.ref 22), some (.int (nI m)), some (.int (nI pc)), some (.int (nI 4)), some (.int (nI 2)), some (.int (nI (1 + 1)))] [] (σ) (.inl (some (.int (nI (if 2 ≤ h ∧ h - 2 + 1 ≤ 5 then (if (isI t1 && isI t0) = true then 0 else 2) else 1))))) (σ)
          refine jr_goto 110 d_Mo_faultAt_148 (by decide) ?_
          show jl_W l G m_Mo_faultAt (0, 0) 110 [some (.ref 22), some (.int (nI m)), some (.int (nI pc)), some (.int (nI 4)), some (.int (nI 2)), some (.int (nI 2))] [] (σ) (.inl (some (.int (nI (if 2 ≤ h ∧ h - 2 + 1 ≤ 5 then (if (isI t1 && isI t0) = true then 0 else 2) else 1))))) (σ)
          refine jr_iload d_Mo_faultAt_110 rfl ?_
          refine jr_iload d_Mo_faultAt_112 rfl ?_
          refine jr_icmp_ge 151 d_Mo_faultAt_114 (by decide) (fun _ => ?_) (fun z => absurd (by decide) z)
          refine jr_iconst ((nI (0))) d_Mo_faultAt_151 (by decide) ?_
          exact jr_iretE d_Mo_faultAt_152 rfl (by rw [if_pos (by omega), if_pos (by simp [bi_nf c3, bi_nf c4])]) (rfl) (by decide) (by decide)
        · refine jr_iconst ((nI (2))) d_Mo_faultAt_143 (by decide) ?_
          exact jr_iretE d_Mo_faultAt_144 rfl (by rw [if_pos (by omega), if_neg (by simp [bi_nf c3, bi_0.mp c4])]) (rfl) (by decide) (by decide)
      · refine jr_iconst ((nI (2))) d_Mo_faultAt_143 (by decide) ?_
        exact jr_iretE d_Mo_faultAt_144 rfl (by rw [if_pos (by omega), if_neg (by simp [bi_0.mp c3])]) (rfl) (by decide) (by decide)
    · refine jr_iconst ((nI (1))) d_Mo_faultAt_78 (by decide) ?_
      exact jr_iretE d_Mo_faultAt_79 rfl (by rw [if_neg (by omega)]) (rfl) (by decide) (by decide)
theorem mo_fa_5 (hl : l.stackTraces = false) {m pc h : Nat} {x : Int32} {t0 : Option Nat} {t1 : Option Nat} (hO : MoO σ fa vf wh wy (nI (h)) dp md ov oh dn an) (hw : MoW σ tb pr ow ft hs) (hu : MoM σ u1 u2 ur ul uo ua uc us ut uk) (hr : MoR σ lo sk) (hok : WoOk tb pr ow fi) (hK : MoK u1 u2 ur ul uo uc us ut uk) (hm : m < 24) (hpc : pc < 24) (ho : uo (24 * m + pc) = 5) (hx : ua (24 * m + pc) = x) (hh5 : h ≤ 5) (e_0 : 0 < h → sk (h - 1 - 0) = t0) (ht0 : ob 16 t0) (e_1 : 1 < h → sk (h - 1 - 1) = t1) (ht1 : ob 16 t1) : jl_W l G m_Mo_faultAt (0, 0) 22 [some (.ref 22), some (.int (nI m)), some (.int (nI pc)), none, none, none] [] σ (.inl (some (.int (nI (if 2 ≤ h ∧ h - 2 + 1 ≤ 5 then (if (isI t1 && isI t0) = true then 0 else 2) else 1))))) (σ) := by
  obtain ⟨h23, h24, h25, h26, h27⟩ := id hw
  obtain ⟨h28, h29, h30, h31, h32, h33, h34, h35, h36, h37⟩ := id hu
  obtain ⟨r1, r2⟩ := id hr
  obtain ⟨hk1, hk2, hk3, hk4, hk5, hk6⟩ := hK.1 m hm
  refine jr_aload_n d_Mo_faultAt_22 rfl ?_
  refine jr_getf d_Mo_faultAt_23 f_Mo_faultAt_38 hO rfl ?_
  refine jr_bipush ((nI (24))) d_Mo_faultAt_26 (by decide) ?_
  refine jr_iload_n d_Mo_faultAt_28 rfl ?_
  refine jr_imulN d_Mo_faultAt_29 ?_
  refine jr_iload_n d_Mo_faultAt_30 rfl ?_
  refine jr_iaddN d_Mo_faultAt_31 ?_
  refine jr_ialdQ (v := (nI (5))) d_Mo_faultAt_32 h32 (by omega) (by omega) (congrArg nI ho) ?_
  refine jr_istore_n d_Mo_faultAt_33 (by decide) ?_
  show jl_W l G m_Mo_faultAt (0, 0) 34 [some (.ref 22), some (.int (nI m)), some (.int (nI pc)), some (.int (nI 5)), none, none] [] (σ) (.inl (some (.int (nI (if 2 ≤ h ∧ h - 2 + 1 ≤ 5 then (if (isI t1 && isI t0) = true then 0 else 2) else 1))))) (σ)
  refine jr_aload_n d_Mo_faultAt_34 rfl ?_
  refine jr_iload_n d_Mo_faultAt_35 rfl ?_
  refine jr_aload_n d_Mo_faultAt_36 rfl ?_
  refine jr_getf d_Mo_faultAt_37 f_Mo_faultAt_41 hO rfl ?_
  refine jr_bipush ((nI (24))) d_Mo_faultAt_40 (by decide) ?_
  refine jr_iload_n d_Mo_faultAt_42 rfl ?_
  refine jr_imulN d_Mo_faultAt_43 ?_
  refine jr_iload_n d_Mo_faultAt_44 rfl ?_
  refine jr_iaddN d_Mo_faultAt_45 ?_
  refine jr_ialdQ (v := (x)) d_Mo_faultAt_46 h33 (by omega) (by omega) (hx) ?_
  refine jr_callV (As := [.int (nI 5), .int (x)]) d_Mo_faultAt_47 k_Mo_faultAt_176 hO rfl rfl rfl (Nat.le_of_ble_eq_true rfl) (by decide) (by decide) (mo_tk_5 hl hO hw hu) ?_
  show jl_W l G m_Mo_faultAt (0, 0) 50 [some (.ref 22), some (.int (nI m)), some (.int (nI pc)), some (.int (nI 5)), none, none] [.int (nI 2)] (σ) (.inl (some (.int (nI (if 2 ≤ h ∧ h - 2 + 1 ≤ 5 then (if (isI t1 && isI t0) = true then 0 else 2) else 1))))) (σ)
  refine jr_istore d_Mo_faultAt_50 (by decide) ?_
  show jl_W l G m_Mo_faultAt (0, 0) 52 [some (.ref 22), some (.int (nI m)), some (.int (nI pc)), some (.int (nI 5)), some (.int (nI 2)), none] [] (σ) (.inl (some (.int (nI (if 2 ≤ h ∧ h - 2 + 1 ≤ 5 then (if (isI t1 && isI t0) = true then 0 else 2) else 1))))) (σ)
  refine jr_aload_n d_Mo_faultAt_52 rfl ?_
  refine jr_getf d_Mo_faultAt_53 f_Mo_faultAt_179 hO rfl ?_
  refine jr_iload d_Mo_faultAt_56 rfl ?_
  refine jr_icmp_ltN 78 d_Mo_faultAt_58 (by decide) (by omega) (by omega) (fun c1 => ?_) (fun c1 => ?_)
  · refine jr_iconst ((nI (1))) d_Mo_faultAt_78 (by decide) ?_
    exact jr_iretE d_Mo_faultAt_79 rfl (by rw [if_neg (by omega)]) (rfl) (by decide) (by decide)
  · refine jr_aload_n d_Mo_faultAt_61 rfl ?_
    refine jr_getf d_Mo_faultAt_62 f_Mo_faultAt_179 hO rfl ?_
    refine jr_iload d_Mo_faultAt_65 rfl ?_
    refine jr_isubN d_Mo_faultAt_67 (by omega) ?_
    refine jr_aload_n d_Mo_faultAt_68 rfl ?_
    refine jr_iload_n d_Mo_faultAt_69 rfl ?_
    refine jr_callV (As := [.int (nI 5)]) d_Mo_faultAt_70 k_Mo_faultAt_182 hO rfl rfl rfl (Nat.le_of_ble_eq_true rfl) (by decide) (by decide) (mo_puts hl hO hw (by omega)) ?_
    show jl_W l G m_Mo_faultAt (0, 0) 73 [some (.ref 22), some (.int (nI m)), some (.int (nI pc)), some (.int (nI 5)), some (.int (nI 2)), none] [.int (nI 1), .int (nI ((h) - (2)))] (σ) (.inl (some (.int (nI (if 2 ≤ h ∧ h - 2 + 1 ≤ 5 then (if (isI t1 && isI t0) = true then 0 else 2) else 1))))) (σ)
    refine jr_iaddN d_Mo_faultAt_73 ?_
    refine jr_iconst ((nI (5))) d_Mo_faultAt_74 (by decide) ?_
    refine jr_icmp_leN 80 d_Mo_faultAt_75 (by decide) (by omega) (by omega) (fun c2 => ?_) (fun c2 => ?_)
    · refine jr_iload_n d_Mo_faultAt_80 rfl ?_
      refine jr_iconst ((nI (1))) d_Mo_faultAt_81 (by decide) ?_
      refine jr_icmp_ne 107 d_Mo_faultAt_82 (by decide) (fun _ => ?_) (fun z => absurd z (by decide))
      refine jr_iconst ((nI (0))) d_Mo_faultAt_107 (by decide) ?_
      refine jr_istore d_Mo_faultAt_108 (by decide) ?_
      show jl_W l G m_Mo_faultAt (0, 0) 110 [some (.ref 22), some (.int (nI m)), some (.int (nI pc)), some (.int (nI 5)), some (.int (nI 2)), some (.int (nI 0))] [] (σ) (.inl (some (.int (nI (if 2 ≤ h ∧ h - 2 + 1 ≤ 5 then (if (isI t1 && isI t0) = true then 0 else 2) else 1))))) (σ)
      refine jr_iload d_Mo_faultAt_110 rfl ?_
      refine jr_iload d_Mo_faultAt_112 rfl ?_
      refine jr_icmp_ge 151 d_Mo_faultAt_114 (by decide) (fun z => absurd z (by decide)) (fun _ => ?_)
      refine jr_aload_n d_Mo_faultAt_117 rfl ?_
      refine jr_iload_n d_Mo_faultAt_118 rfl ?_
      refine jr_iload_n d_Mo_faultAt_119 rfl ?_
      refine jr_iload d_Mo_faultAt_120 rfl ?_
      refine jr_aload_n d_Mo_faultAt_122 rfl ?_
      refine jr_getf d_Mo_faultAt_123 f_Mo_faultAt_72 hO rfl ?_
      refine jr_aload_n d_Mo_faultAt_126 rfl ?_
      refine jr_getf d_Mo_faultAt_127 f_Mo_faultAt_179 hO rfl ?_
      refine jr_iload d_Mo_faultAt_130 rfl ?_
      refine jr_isubN d_Mo_faultAt_132 (by omega) ?_
      refine jr_iload d_Mo_faultAt_133 rfl ?_
      refine jr_iaddN d_Mo_faultAt_135 ?_
      refine jr_ialdQ (v := (en t1)) d_Mo_faultAt_136 r2 (by omega) (by omega) ((congrArg (fun j => en (sk j)) (show ((h) - (2)) + (0) = h - 1 - 1 by omega)).trans (congrArg en (e_1 (by omega)))) ?_
      refine jr_callV (As := [.int (nI m), .int (nI pc), .int (nI 0), .int (en t1)]) d_Mo_faultAt_137 k_Mo_faultAt_185 hO rfl rfl rfl (Nat.le_of_ble_eq_true rfl) (by decide) (by decide) (mo_fit_5_0 hl hO hw hu hok hK hm hpc ho hx ht1) ?_
      show jl_W l G m_Mo_faultAt (0, 0) 140 [some (.ref 22), some (.int (nI m)), some (.int (nI pc)), some (.int (nI 5)), some (.int (nI 2)), some (.int (nI 0))] [.int (bi (isI t1))] (σ) (.inl (some (.int (nI (if 2 ≤ h ∧ h - 2 + 1 ≤ 5 then (if (isI t1 && isI t0) = true then 0 else 2) else 1))))) (σ)
      refine jr_if_ne 145 d_Mo_faultAt_140 (by decide) (fun c3 => ?_) (fun c3 => ?_)
      · refine jr_iinc ((nI (0 + 1))) d_Mo_faultAt_145 (by decide) rfl (jl_inc _) ?_
        show jl_W l G m_Mo_faultAt (0, 0) 148 [some (.ref 22), some (.int (nI m)), some (.int (nI pc)), some (.int (nI 5)), some (.int (nI 2)), some (.int (nI (0 + 1)))] [] (σ) (.inl (some (.int (nI (if 2 ≤ h ∧ h - 2 + 1 ≤ 5 then (if (isI t1 && isI t0) = true then 0 else 2) else 1))))) (σ)
        refine jr_goto 110 d_Mo_faultAt_148 (by decide) ?_
        show jl_W l G m_Mo_faultAt (0, 0) 110 [some (.ref 22), some (.int (nI m)), some (.int (nI pc)), some (.int (nI 5)), some (.int (nI 2)), some (.int (nI 1))] [] (σ) (.inl (some (.int (nI (if 2 ≤ h ∧ h - 2 + 1 ≤ 5 then (if (isI t1 && isI t0) = true then 0 else 2) else 1))))) (σ)
        refine jr_iload d_Mo_faultAt_110 rfl ?_
        refine jr_iload d_Mo_faultAt_112 rfl ?_
        refine jr_icmp_ge 151 d_Mo_faultAt_114 (by decide) (fun z => absurd z (by decide)) (fun _ => ?_)
        refine jr_aload_n d_Mo_faultAt_117 rfl ?_
        refine jr_iload_n d_Mo_faultAt_118 rfl ?_
        refine jr_iload_n d_Mo_faultAt_119 rfl ?_
        refine jr_iload d_Mo_faultAt_120 rfl ?_
        refine jr_aload_n d_Mo_faultAt_122 rfl ?_
        refine jr_getf d_Mo_faultAt_123 f_Mo_faultAt_72 hO rfl ?_
        refine jr_aload_n d_Mo_faultAt_126 rfl ?_
        refine jr_getf d_Mo_faultAt_127 f_Mo_faultAt_179 hO rfl ?_
        refine jr_iload d_Mo_faultAt_130 rfl ?_
        refine jr_isubN d_Mo_faultAt_132 (by omega) ?_
        refine jr_iload d_Mo_faultAt_133 rfl ?_
        refine jr_iaddN d_Mo_faultAt_135 ?_
        refine jr_ialdQ (v := (en t0)) d_Mo_faultAt_136 r2 (by omega) (by omega) ((congrArg (fun j => en (sk j)) (show ((h) - (2)) + (1) = h - 1 - 0 by omega)).trans (congrArg en (e_0 (by omega)))) ?_
        refine jr_callV (As := [.int (nI m), .int (nI pc), .int (nI 1), .int (en t0)]) d_Mo_faultAt_137 k_Mo_faultAt_185 hO rfl rfl rfl (Nat.le_of_ble_eq_true rfl) (by decide) (by decide) (mo_fit_5_1 hl hO hw hu hok hK hm hpc ho hx ht0) ?_
        show jl_W l G m_Mo_faultAt (0, 0) 140 [some (.ref 22), some (.int (nI m)), some (.int (nI pc)), some (.int (nI 5)), some (.int (nI 2)), some (.int (nI 1))] [.int (bi (isI t0))] (σ) (.inl (some (.int (nI (if 2 ≤ h ∧ h - 2 + 1 ≤ 5 then (if (isI t1 && isI t0) = true then 0 else 2) else 1))))) (σ)
        refine jr_if_ne 145 d_Mo_faultAt_140 (by decide) (fun c4 => ?_) (fun c4 => ?_)
        · refine jr_iinc ((nI (1 + 1))) d_Mo_faultAt_145 (by decide) rfl (jl_inc _) ?_
          show jl_W l G m_Mo_faultAt (0, 0) 148 [some (.ref 22), some (.int (nI m)), some (.int (nI pc)), some (.int (nI 5)), some (.int (nI 2)), some (.int (nI (1 + 1)))] [] (σ) (.inl (some (.int (nI (if 2 ≤ h ∧ h - 2 + 1 ≤ 5 then (if (isI t1 && isI t0) = true then 0 else 2) else 1))))) (σ)
          refine jr_goto 110 d_Mo_faultAt_148 (by decide) ?_
          show jl_W l G m_Mo_faultAt (0, 0) 110 [some (.ref 22), some (.int (nI m)), some (.int (nI pc)), some (.int (nI 5)), some (.int (nI 2)), some (.int (nI 2))] [] (σ) (.inl (some (.int (nI (if 2 ≤ h ∧ h - 2 + 1 ≤ 5 then (if (isI t1 && isI t0) = true then 0 else 2) else 1))))) (σ)
          refine jr_iload d_Mo_faultAt_110 rfl ?_
          refine jr_iload d_Mo_faultAt_112 rfl ?_
          refine jr_icmp_ge 151 d_Mo_faultAt_114 (by decide) (fun _ => ?_) (fun z => absurd (by decide) z)
          refine jr_iconst ((nI (0))) d_Mo_faultAt_151 (by decide) ?_
          exact jr_iretE d_Mo_faultAt_152 rfl (by rw [if_pos (by omega), if_pos (by simp [bi_nf c3, bi_nf c4])]) (rfl) (by decide) (by decide)
        · refine jr_iconst ((nI (2))) d_Mo_faultAt_143 (by decide) ?_
          exact jr_iretE d_Mo_faultAt_144 rfl (by rw [if_pos (by omega), if_neg (by simp [bi_nf c3, bi_0.mp c4])]) (rfl) (by decide) (by decide)
      · refine jr_iconst ((nI (2))) d_Mo_faultAt_143 (by decide) ?_
        exact jr_iretE d_Mo_faultAt_144 rfl (by rw [if_pos (by omega), if_neg (by simp [bi_0.mp c3])]) (rfl) (by decide) (by decide)
    · refine jr_iconst ((nI (1))) d_Mo_faultAt_78 (by decide) ?_
      exact jr_iretE d_Mo_faultAt_79 rfl (by rw [if_neg (by omega)]) (rfl) (by decide) (by decide)
theorem mo_fa_6 (hl : l.stackTraces = false) {m pc h : Nat} {x : Int32} {t0 : Option Nat} {t1 : Option Nat} (hO : MoO σ fa vf wh wy (nI (h)) dp md ov oh dn an) (hw : MoW σ tb pr ow ft hs) (hu : MoM σ u1 u2 ur ul uo ua uc us ut uk) (hr : MoR σ lo sk) (hok : WoOk tb pr ow fi) (hK : MoK u1 u2 ur ul uo uc us ut uk) (hm : m < 24) (hpc : pc < 24) (ho : uo (24 * m + pc) = 6) (hx : ua (24 * m + pc) = x) (hh5 : h ≤ 5) (e_0 : 0 < h → sk (h - 1 - 0) = t0) (ht0 : ob 16 t0) (e_1 : 1 < h → sk (h - 1 - 1) = t1) (ht1 : ob 16 t1) : jl_W l G m_Mo_faultAt (0, 0) 22 [some (.ref 22), some (.int (nI m)), some (.int (nI pc)), none, none, none] [] σ (.inl (some (.int (nI (if 2 ≤ h ∧ h - 2 + 1 ≤ 5 then (if (isI t1 && isI t0) = true then 0 else 2) else 1))))) (σ) := by
  obtain ⟨h23, h24, h25, h26, h27⟩ := id hw
  obtain ⟨h28, h29, h30, h31, h32, h33, h34, h35, h36, h37⟩ := id hu
  obtain ⟨r1, r2⟩ := id hr
  obtain ⟨hk1, hk2, hk3, hk4, hk5, hk6⟩ := hK.1 m hm
  refine jr_aload_n d_Mo_faultAt_22 rfl ?_
  refine jr_getf d_Mo_faultAt_23 f_Mo_faultAt_38 hO rfl ?_
  refine jr_bipush ((nI (24))) d_Mo_faultAt_26 (by decide) ?_
  refine jr_iload_n d_Mo_faultAt_28 rfl ?_
  refine jr_imulN d_Mo_faultAt_29 ?_
  refine jr_iload_n d_Mo_faultAt_30 rfl ?_
  refine jr_iaddN d_Mo_faultAt_31 ?_
  refine jr_ialdQ (v := (nI (6))) d_Mo_faultAt_32 h32 (by omega) (by omega) (congrArg nI ho) ?_
  refine jr_istore_n d_Mo_faultAt_33 (by decide) ?_
  show jl_W l G m_Mo_faultAt (0, 0) 34 [some (.ref 22), some (.int (nI m)), some (.int (nI pc)), some (.int (nI 6)), none, none] [] (σ) (.inl (some (.int (nI (if 2 ≤ h ∧ h - 2 + 1 ≤ 5 then (if (isI t1 && isI t0) = true then 0 else 2) else 1))))) (σ)
  refine jr_aload_n d_Mo_faultAt_34 rfl ?_
  refine jr_iload_n d_Mo_faultAt_35 rfl ?_
  refine jr_aload_n d_Mo_faultAt_36 rfl ?_
  refine jr_getf d_Mo_faultAt_37 f_Mo_faultAt_41 hO rfl ?_
  refine jr_bipush ((nI (24))) d_Mo_faultAt_40 (by decide) ?_
  refine jr_iload_n d_Mo_faultAt_42 rfl ?_
  refine jr_imulN d_Mo_faultAt_43 ?_
  refine jr_iload_n d_Mo_faultAt_44 rfl ?_
  refine jr_iaddN d_Mo_faultAt_45 ?_
  refine jr_ialdQ (v := (x)) d_Mo_faultAt_46 h33 (by omega) (by omega) (hx) ?_
  refine jr_callV (As := [.int (nI 6), .int (x)]) d_Mo_faultAt_47 k_Mo_faultAt_176 hO rfl rfl rfl (Nat.le_of_ble_eq_true rfl) (by decide) (by decide) (mo_tk_6 hl hO hw hu) ?_
  show jl_W l G m_Mo_faultAt (0, 0) 50 [some (.ref 22), some (.int (nI m)), some (.int (nI pc)), some (.int (nI 6)), none, none] [.int (nI 2)] (σ) (.inl (some (.int (nI (if 2 ≤ h ∧ h - 2 + 1 ≤ 5 then (if (isI t1 && isI t0) = true then 0 else 2) else 1))))) (σ)
  refine jr_istore d_Mo_faultAt_50 (by decide) ?_
  show jl_W l G m_Mo_faultAt (0, 0) 52 [some (.ref 22), some (.int (nI m)), some (.int (nI pc)), some (.int (nI 6)), some (.int (nI 2)), none] [] (σ) (.inl (some (.int (nI (if 2 ≤ h ∧ h - 2 + 1 ≤ 5 then (if (isI t1 && isI t0) = true then 0 else 2) else 1))))) (σ)
  refine jr_aload_n d_Mo_faultAt_52 rfl ?_
  refine jr_getf d_Mo_faultAt_53 f_Mo_faultAt_179 hO rfl ?_
  refine jr_iload d_Mo_faultAt_56 rfl ?_
  refine jr_icmp_ltN 78 d_Mo_faultAt_58 (by decide) (by omega) (by omega) (fun c1 => ?_) (fun c1 => ?_)
  · refine jr_iconst ((nI (1))) d_Mo_faultAt_78 (by decide) ?_
    exact jr_iretE d_Mo_faultAt_79 rfl (by rw [if_neg (by omega)]) (rfl) (by decide) (by decide)
  · refine jr_aload_n d_Mo_faultAt_61 rfl ?_
    refine jr_getf d_Mo_faultAt_62 f_Mo_faultAt_179 hO rfl ?_
    refine jr_iload d_Mo_faultAt_65 rfl ?_
    refine jr_isubN d_Mo_faultAt_67 (by omega) ?_
    refine jr_aload_n d_Mo_faultAt_68 rfl ?_
    refine jr_iload_n d_Mo_faultAt_69 rfl ?_
    refine jr_callV (As := [.int (nI 6)]) d_Mo_faultAt_70 k_Mo_faultAt_182 hO rfl rfl rfl (Nat.le_of_ble_eq_true rfl) (by decide) (by decide) (mo_puts hl hO hw (by omega)) ?_
    show jl_W l G m_Mo_faultAt (0, 0) 73 [some (.ref 22), some (.int (nI m)), some (.int (nI pc)), some (.int (nI 6)), some (.int (nI 2)), none] [.int (nI 1), .int (nI ((h) - (2)))] (σ) (.inl (some (.int (nI (if 2 ≤ h ∧ h - 2 + 1 ≤ 5 then (if (isI t1 && isI t0) = true then 0 else 2) else 1))))) (σ)
    refine jr_iaddN d_Mo_faultAt_73 ?_
    refine jr_iconst ((nI (5))) d_Mo_faultAt_74 (by decide) ?_
    refine jr_icmp_leN 80 d_Mo_faultAt_75 (by decide) (by omega) (by omega) (fun c2 => ?_) (fun c2 => ?_)
    · refine jr_iload_n d_Mo_faultAt_80 rfl ?_
      refine jr_iconst ((nI (1))) d_Mo_faultAt_81 (by decide) ?_
      refine jr_icmp_ne 107 d_Mo_faultAt_82 (by decide) (fun _ => ?_) (fun z => absurd z (by decide))
      refine jr_iconst ((nI (0))) d_Mo_faultAt_107 (by decide) ?_
      refine jr_istore d_Mo_faultAt_108 (by decide) ?_
      show jl_W l G m_Mo_faultAt (0, 0) 110 [some (.ref 22), some (.int (nI m)), some (.int (nI pc)), some (.int (nI 6)), some (.int (nI 2)), some (.int (nI 0))] [] (σ) (.inl (some (.int (nI (if 2 ≤ h ∧ h - 2 + 1 ≤ 5 then (if (isI t1 && isI t0) = true then 0 else 2) else 1))))) (σ)
      refine jr_iload d_Mo_faultAt_110 rfl ?_
      refine jr_iload d_Mo_faultAt_112 rfl ?_
      refine jr_icmp_ge 151 d_Mo_faultAt_114 (by decide) (fun z => absurd z (by decide)) (fun _ => ?_)
      refine jr_aload_n d_Mo_faultAt_117 rfl ?_
      refine jr_iload_n d_Mo_faultAt_118 rfl ?_
      refine jr_iload_n d_Mo_faultAt_119 rfl ?_
      refine jr_iload d_Mo_faultAt_120 rfl ?_
      refine jr_aload_n d_Mo_faultAt_122 rfl ?_
      refine jr_getf d_Mo_faultAt_123 f_Mo_faultAt_72 hO rfl ?_
      refine jr_aload_n d_Mo_faultAt_126 rfl ?_
      refine jr_getf d_Mo_faultAt_127 f_Mo_faultAt_179 hO rfl ?_
      refine jr_iload d_Mo_faultAt_130 rfl ?_
      refine jr_isubN d_Mo_faultAt_132 (by omega) ?_
      refine jr_iload d_Mo_faultAt_133 rfl ?_
      refine jr_iaddN d_Mo_faultAt_135 ?_
      refine jr_ialdQ (v := (en t1)) d_Mo_faultAt_136 r2 (by omega) (by omega) ((congrArg (fun j => en (sk j)) (show ((h) - (2)) + (0) = h - 1 - 1 by omega)).trans (congrArg en (e_1 (by omega)))) ?_
      refine jr_callV (As := [.int (nI m), .int (nI pc), .int (nI 0), .int (en t1)]) d_Mo_faultAt_137 k_Mo_faultAt_185 hO rfl rfl rfl (Nat.le_of_ble_eq_true rfl) (by decide) (by decide) (mo_fit_6_0 hl hO hw hu hok hK hm hpc ho hx ht1) ?_
      show jl_W l G m_Mo_faultAt (0, 0) 140 [some (.ref 22), some (.int (nI m)), some (.int (nI pc)), some (.int (nI 6)), some (.int (nI 2)), some (.int (nI 0))] [.int (bi (isI t1))] (σ) (.inl (some (.int (nI (if 2 ≤ h ∧ h - 2 + 1 ≤ 5 then (if (isI t1 && isI t0) = true then 0 else 2) else 1))))) (σ)
      refine jr_if_ne 145 d_Mo_faultAt_140 (by decide) (fun c3 => ?_) (fun c3 => ?_)
      · refine jr_iinc ((nI (0 + 1))) d_Mo_faultAt_145 (by decide) rfl (jl_inc _) ?_
        show jl_W l G m_Mo_faultAt (0, 0) 148 [some (.ref 22), some (.int (nI m)), some (.int (nI pc)), some (.int (nI 6)), some (.int (nI 2)), some (.int (nI (0 + 1)))] [] (σ) (.inl (some (.int (nI (if 2 ≤ h ∧ h - 2 + 1 ≤ 5 then (if (isI t1 && isI t0) = true then 0 else 2) else 1))))) (σ)
        refine jr_goto 110 d_Mo_faultAt_148 (by decide) ?_
        show jl_W l G m_Mo_faultAt (0, 0) 110 [some (.ref 22), some (.int (nI m)), some (.int (nI pc)), some (.int (nI 6)), some (.int (nI 2)), some (.int (nI 1))] [] (σ) (.inl (some (.int (nI (if 2 ≤ h ∧ h - 2 + 1 ≤ 5 then (if (isI t1 && isI t0) = true then 0 else 2) else 1))))) (σ)
        refine jr_iload d_Mo_faultAt_110 rfl ?_
        refine jr_iload d_Mo_faultAt_112 rfl ?_
        refine jr_icmp_ge 151 d_Mo_faultAt_114 (by decide) (fun z => absurd z (by decide)) (fun _ => ?_)
        refine jr_aload_n d_Mo_faultAt_117 rfl ?_
        refine jr_iload_n d_Mo_faultAt_118 rfl ?_
        refine jr_iload_n d_Mo_faultAt_119 rfl ?_
        refine jr_iload d_Mo_faultAt_120 rfl ?_
        refine jr_aload_n d_Mo_faultAt_122 rfl ?_
        refine jr_getf d_Mo_faultAt_123 f_Mo_faultAt_72 hO rfl ?_
        refine jr_aload_n d_Mo_faultAt_126 rfl ?_
        refine jr_getf d_Mo_faultAt_127 f_Mo_faultAt_179 hO rfl ?_
        refine jr_iload d_Mo_faultAt_130 rfl ?_
        refine jr_isubN d_Mo_faultAt_132 (by omega) ?_
        refine jr_iload d_Mo_faultAt_133 rfl ?_
        refine jr_iaddN d_Mo_faultAt_135 ?_
        refine jr_ialdQ (v := (en t0)) d_Mo_faultAt_136 r2 (by omega) (by omega) ((congrArg (fun j => en (sk j)) (show ((h) - (2)) + (1) = h - 1 - 0 by omega)).trans (congrArg en (e_0 (by omega)))) ?_
        refine jr_callV (As := [.int (nI m), .int (nI pc), .int (nI 1), .int (en t0)]) d_Mo_faultAt_137 k_Mo_faultAt_185 hO rfl rfl rfl (Nat.le_of_ble_eq_true rfl) (by decide) (by decide) (mo_fit_6_1 hl hO hw hu hok hK hm hpc ho hx ht0) ?_
        show jl_W l G m_Mo_faultAt (0, 0) 140 [some (.ref 22), some (.int (nI m)), some (.int (nI pc)), some (.int (nI 6)), some (.int (nI 2)), some (.int (nI 1))] [.int (bi (isI t0))] (σ) (.inl (some (.int (nI (if 2 ≤ h ∧ h - 2 + 1 ≤ 5 then (if (isI t1 && isI t0) = true then 0 else 2) else 1))))) (σ)
        refine jr_if_ne 145 d_Mo_faultAt_140 (by decide) (fun c4 => ?_) (fun c4 => ?_)
        · refine jr_iinc ((nI (1 + 1))) d_Mo_faultAt_145 (by decide) rfl (jl_inc _) ?_
          show jl_W l G m_Mo_faultAt (0, 0) 148 [some (.ref 22), some (.int (nI m)), some (.int (nI pc)), some (.int (nI 6)), some (.int (nI 2)), some (.int (nI (1 + 1)))] [] (σ) (.inl (some (.int (nI (if 2 ≤ h ∧ h - 2 + 1 ≤ 5 then (if (isI t1 && isI t0) = true then 0 else 2) else 1))))) (σ)
          refine jr_goto 110 d_Mo_faultAt_148 (by decide) ?_
          show jl_W l G m_Mo_faultAt (0, 0) 110 [some (.ref 22), some (.int (nI m)), some (.int (nI pc)), some (.int (nI 6)), some (.int (nI 2)), some (.int (nI 2))] [] (σ) (.inl (some (.int (nI (if 2 ≤ h ∧ h - 2 + 1 ≤ 5 then (if (isI t1 && isI t0) = true then 0 else 2) else 1))))) (σ)
          refine jr_iload d_Mo_faultAt_110 rfl ?_
          refine jr_iload d_Mo_faultAt_112 rfl ?_
          refine jr_icmp_ge 151 d_Mo_faultAt_114 (by decide) (fun _ => ?_) (fun z => absurd (by decide) z)
          refine jr_iconst ((nI (0))) d_Mo_faultAt_151 (by decide) ?_
          exact jr_iretE d_Mo_faultAt_152 rfl (by rw [if_pos (by omega), if_pos (by simp [bi_nf c3, bi_nf c4])]) (rfl) (by decide) (by decide)
        · refine jr_iconst ((nI (2))) d_Mo_faultAt_143 (by decide) ?_
          exact jr_iretE d_Mo_faultAt_144 rfl (by rw [if_pos (by omega), if_neg (by simp [bi_nf c3, bi_0.mp c4])]) (rfl) (by decide) (by decide)
      · refine jr_iconst ((nI (2))) d_Mo_faultAt_143 (by decide) ?_
        exact jr_iretE d_Mo_faultAt_144 rfl (by rw [if_pos (by omega), if_neg (by simp [bi_0.mp c3])]) (rfl) (by decide) (by decide)
    · refine jr_iconst ((nI (1))) d_Mo_faultAt_78 (by decide) ?_
      exact jr_iretE d_Mo_faultAt_79 rfl (by rw [if_neg (by omega)]) (rfl) (by decide) (by decide)
theorem mo_fa_7 (hl : l.stackTraces = false) {m pc h : Nat} {x : Int32} (hO : MoO σ fa vf wh wy (nI (h)) dp md ov oh dn an) (hw : MoW σ tb pr ow ft hs) (hu : MoM σ u1 u2 ur ul uo ua uc us ut uk) (hr : MoR σ lo sk) (hok : WoOk tb pr ow fi) (hK : MoK u1 u2 ur ul uo uc us ut uk) (hm : m < 24) (hpc : pc < 24) (ho : uo (24 * m + pc) = 7) (hx : ua (24 * m + pc) = x) (hh5 : h ≤ 5) : jl_W l G m_Mo_faultAt (0, 0) 22 [some (.ref 22), some (.int (nI m)), some (.int (nI pc)), none, none, none] [] σ (.inl (some (.int (nI (if 0 ≤ h ∧ h - 0 + 0 ≤ 5 then (if (true) = true then 0 else 2) else 1))))) (σ) := by
  obtain ⟨h23, h24, h25, h26, h27⟩ := id hw
  obtain ⟨h28, h29, h30, h31, h32, h33, h34, h35, h36, h37⟩ := id hu
  obtain ⟨r1, r2⟩ := id hr
  obtain ⟨hk1, hk2, hk3, hk4, hk5, hk6⟩ := hK.1 m hm
  refine jr_aload_n d_Mo_faultAt_22 rfl ?_
  refine jr_getf d_Mo_faultAt_23 f_Mo_faultAt_38 hO rfl ?_
  refine jr_bipush ((nI (24))) d_Mo_faultAt_26 (by decide) ?_
  refine jr_iload_n d_Mo_faultAt_28 rfl ?_
  refine jr_imulN d_Mo_faultAt_29 ?_
  refine jr_iload_n d_Mo_faultAt_30 rfl ?_
  refine jr_iaddN d_Mo_faultAt_31 ?_
  refine jr_ialdQ (v := (nI (7))) d_Mo_faultAt_32 h32 (by omega) (by omega) (congrArg nI ho) ?_
  refine jr_istore_n d_Mo_faultAt_33 (by decide) ?_
  show jl_W l G m_Mo_faultAt (0, 0) 34 [some (.ref 22), some (.int (nI m)), some (.int (nI pc)), some (.int (nI 7)), none, none] [] (σ) (.inl (some (.int (nI (if 0 ≤ h ∧ h - 0 + 0 ≤ 5 then (if (true) = true then 0 else 2) else 1))))) (σ)
  refine jr_aload_n d_Mo_faultAt_34 rfl ?_
  refine jr_iload_n d_Mo_faultAt_35 rfl ?_
  refine jr_aload_n d_Mo_faultAt_36 rfl ?_
  refine jr_getf d_Mo_faultAt_37 f_Mo_faultAt_41 hO rfl ?_
  refine jr_bipush ((nI (24))) d_Mo_faultAt_40 (by decide) ?_
  refine jr_iload_n d_Mo_faultAt_42 rfl ?_
  refine jr_imulN d_Mo_faultAt_43 ?_
  refine jr_iload_n d_Mo_faultAt_44 rfl ?_
  refine jr_iaddN d_Mo_faultAt_45 ?_
  refine jr_ialdQ (v := (x)) d_Mo_faultAt_46 h33 (by omega) (by omega) (hx) ?_
  refine jr_callV (As := [.int (nI 7), .int (x)]) d_Mo_faultAt_47 k_Mo_faultAt_176 hO rfl rfl rfl (Nat.le_of_ble_eq_true rfl) (by decide) (by decide) (mo_tk_7 hl hO hw hu) ?_
  show jl_W l G m_Mo_faultAt (0, 0) 50 [some (.ref 22), some (.int (nI m)), some (.int (nI pc)), some (.int (nI 7)), none, none] [.int (nI 0)] (σ) (.inl (some (.int (nI (if 0 ≤ h ∧ h - 0 + 0 ≤ 5 then (if (true) = true then 0 else 2) else 1))))) (σ)
  refine jr_istore d_Mo_faultAt_50 (by decide) ?_
  show jl_W l G m_Mo_faultAt (0, 0) 52 [some (.ref 22), some (.int (nI m)), some (.int (nI pc)), some (.int (nI 7)), some (.int (nI 0)), none] [] (σ) (.inl (some (.int (nI (if 0 ≤ h ∧ h - 0 + 0 ≤ 5 then (if (true) = true then 0 else 2) else 1))))) (σ)
  refine jr_aload_n d_Mo_faultAt_52 rfl ?_
  refine jr_getf d_Mo_faultAt_53 f_Mo_faultAt_179 hO rfl ?_
  refine jr_iload d_Mo_faultAt_56 rfl ?_
  refine jr_icmp_ltN 78 d_Mo_faultAt_58 (by decide) (by omega) (by omega) (fun c1 => ?_) (fun c1 => ?_)
  · refine jr_iconst ((nI (1))) d_Mo_faultAt_78 (by decide) ?_
    exact jr_iretE d_Mo_faultAt_79 rfl (by rw [if_neg (by omega)]) (rfl) (by decide) (by decide)
  · refine jr_aload_n d_Mo_faultAt_61 rfl ?_
    refine jr_getf d_Mo_faultAt_62 f_Mo_faultAt_179 hO rfl ?_
    refine jr_iload d_Mo_faultAt_65 rfl ?_
    refine jr_isubN d_Mo_faultAt_67 (by omega) ?_
    refine jr_aload_n d_Mo_faultAt_68 rfl ?_
    refine jr_iload_n d_Mo_faultAt_69 rfl ?_
    refine jr_callV (As := [.int (nI 7)]) d_Mo_faultAt_70 k_Mo_faultAt_182 hO rfl rfl rfl (Nat.le_of_ble_eq_true rfl) (by decide) (by decide) (mo_puts hl hO hw (by omega)) ?_
    show jl_W l G m_Mo_faultAt (0, 0) 73 [some (.ref 22), some (.int (nI m)), some (.int (nI pc)), some (.int (nI 7)), some (.int (nI 0)), none] [.int (nI 0), .int (nI ((h) - (0)))] (σ) (.inl (some (.int (nI (if 0 ≤ h ∧ h - 0 + 0 ≤ 5 then (if (true) = true then 0 else 2) else 1))))) (σ)
    refine jr_iaddN d_Mo_faultAt_73 ?_
    refine jr_iconst ((nI (5))) d_Mo_faultAt_74 (by decide) ?_
    refine jr_icmp_leN 80 d_Mo_faultAt_75 (by decide) (by omega) (by omega) (fun c2 => ?_) (fun c2 => ?_)
    · refine jr_iload_n d_Mo_faultAt_80 rfl ?_
      refine jr_iconst ((nI (1))) d_Mo_faultAt_81 (by decide) ?_
      refine jr_icmp_ne 107 d_Mo_faultAt_82 (by decide) (fun _ => ?_) (fun z => absurd z (by decide))
      refine jr_iconst ((nI (0))) d_Mo_faultAt_107 (by decide) ?_
      refine jr_istore d_Mo_faultAt_108 (by decide) ?_
      show jl_W l G m_Mo_faultAt (0, 0) 110 [some (.ref 22), some (.int (nI m)), some (.int (nI pc)), some (.int (nI 7)), some (.int (nI 0)), some (.int (nI 0))] [] (σ) (.inl (some (.int (nI (if 0 ≤ h ∧ h - 0 + 0 ≤ 5 then (if (true) = true then 0 else 2) else 1))))) (σ)
      refine jr_iload d_Mo_faultAt_110 rfl ?_
      refine jr_iload d_Mo_faultAt_112 rfl ?_
      refine jr_icmp_ge 151 d_Mo_faultAt_114 (by decide) (fun _ => ?_) (fun z => absurd (by decide) z)
      refine jr_iconst ((nI (0))) d_Mo_faultAt_151 (by decide) ?_
      exact jr_iretE d_Mo_faultAt_152 rfl (by rw [if_pos (by omega), if_pos (by simp [Bool.and_self])]) (rfl) (by decide) (by decide)
    · refine jr_iconst ((nI (1))) d_Mo_faultAt_78 (by decide) ?_
      exact jr_iretE d_Mo_faultAt_79 rfl (by rw [if_neg (by omega)]) (rfl) (by decide) (by decide)
theorem mo_fa_8 (hl : l.stackTraces = false) {m pc h : Nat} {x : Int32} {t0 : Option Nat} (hO : MoO σ fa vf wh wy (nI (h)) dp md ov oh dn an) (hw : MoW σ tb pr ow ft hs) (hu : MoM σ u1 u2 ur ul uo ua uc us ut uk) (hr : MoR σ lo sk) (hok : WoOk tb pr ow fi) (hK : MoK u1 u2 ur ul uo uc us ut uk) (hm : m < 24) (hpc : pc < 24) (ho : uo (24 * m + pc) = 8) (hx : ua (24 * m + pc) = x) (hh5 : h ≤ 5) (e_0 : 0 < h → sk (h - 1 - 0) = t0) (ht0 : ob 16 t0) : jl_W l G m_Mo_faultAt (0, 0) 22 [some (.ref 22), some (.int (nI m)), some (.int (nI pc)), none, none, none] [] σ (.inl (some (.int (nI (if 1 ≤ h ∧ h - 1 + 0 ≤ 5 then (if (isI t0) = true then 0 else 2) else 1))))) (σ) := by
  obtain ⟨h23, h24, h25, h26, h27⟩ := id hw
  obtain ⟨h28, h29, h30, h31, h32, h33, h34, h35, h36, h37⟩ := id hu
  obtain ⟨r1, r2⟩ := id hr
  obtain ⟨hk1, hk2, hk3, hk4, hk5, hk6⟩ := hK.1 m hm
  refine jr_aload_n d_Mo_faultAt_22 rfl ?_
  refine jr_getf d_Mo_faultAt_23 f_Mo_faultAt_38 hO rfl ?_
  refine jr_bipush ((nI (24))) d_Mo_faultAt_26 (by decide) ?_
  refine jr_iload_n d_Mo_faultAt_28 rfl ?_
  refine jr_imulN d_Mo_faultAt_29 ?_
  refine jr_iload_n d_Mo_faultAt_30 rfl ?_
  refine jr_iaddN d_Mo_faultAt_31 ?_
  refine jr_ialdQ (v := (nI (8))) d_Mo_faultAt_32 h32 (by omega) (by omega) (congrArg nI ho) ?_
  refine jr_istore_n d_Mo_faultAt_33 (by decide) ?_
  show jl_W l G m_Mo_faultAt (0, 0) 34 [some (.ref 22), some (.int (nI m)), some (.int (nI pc)), some (.int (nI 8)), none, none] [] (σ) (.inl (some (.int (nI (if 1 ≤ h ∧ h - 1 + 0 ≤ 5 then (if (isI t0) = true then 0 else 2) else 1))))) (σ)
  refine jr_aload_n d_Mo_faultAt_34 rfl ?_
  refine jr_iload_n d_Mo_faultAt_35 rfl ?_
  refine jr_aload_n d_Mo_faultAt_36 rfl ?_
  refine jr_getf d_Mo_faultAt_37 f_Mo_faultAt_41 hO rfl ?_
  refine jr_bipush ((nI (24))) d_Mo_faultAt_40 (by decide) ?_
  refine jr_iload_n d_Mo_faultAt_42 rfl ?_
  refine jr_imulN d_Mo_faultAt_43 ?_
  refine jr_iload_n d_Mo_faultAt_44 rfl ?_
  refine jr_iaddN d_Mo_faultAt_45 ?_
  refine jr_ialdQ (v := (x)) d_Mo_faultAt_46 h33 (by omega) (by omega) (hx) ?_
  refine jr_callV (As := [.int (nI 8), .int (x)]) d_Mo_faultAt_47 k_Mo_faultAt_176 hO rfl rfl rfl (Nat.le_of_ble_eq_true rfl) (by decide) (by decide) (mo_tk_8 hl hO hw hu) ?_
  show jl_W l G m_Mo_faultAt (0, 0) 50 [some (.ref 22), some (.int (nI m)), some (.int (nI pc)), some (.int (nI 8)), none, none] [.int (nI 1)] (σ) (.inl (some (.int (nI (if 1 ≤ h ∧ h - 1 + 0 ≤ 5 then (if (isI t0) = true then 0 else 2) else 1))))) (σ)
  refine jr_istore d_Mo_faultAt_50 (by decide) ?_
  show jl_W l G m_Mo_faultAt (0, 0) 52 [some (.ref 22), some (.int (nI m)), some (.int (nI pc)), some (.int (nI 8)), some (.int (nI 1)), none] [] (σ) (.inl (some (.int (nI (if 1 ≤ h ∧ h - 1 + 0 ≤ 5 then (if (isI t0) = true then 0 else 2) else 1))))) (σ)
  refine jr_aload_n d_Mo_faultAt_52 rfl ?_
  refine jr_getf d_Mo_faultAt_53 f_Mo_faultAt_179 hO rfl ?_
  refine jr_iload d_Mo_faultAt_56 rfl ?_
  refine jr_icmp_ltN 78 d_Mo_faultAt_58 (by decide) (by omega) (by omega) (fun c1 => ?_) (fun c1 => ?_)
  · refine jr_iconst ((nI (1))) d_Mo_faultAt_78 (by decide) ?_
    exact jr_iretE d_Mo_faultAt_79 rfl (by rw [if_neg (by omega)]) (rfl) (by decide) (by decide)
  · refine jr_aload_n d_Mo_faultAt_61 rfl ?_
    refine jr_getf d_Mo_faultAt_62 f_Mo_faultAt_179 hO rfl ?_
    refine jr_iload d_Mo_faultAt_65 rfl ?_
    refine jr_isubN d_Mo_faultAt_67 (by omega) ?_
    refine jr_aload_n d_Mo_faultAt_68 rfl ?_
    refine jr_iload_n d_Mo_faultAt_69 rfl ?_
    refine jr_callV (As := [.int (nI 8)]) d_Mo_faultAt_70 k_Mo_faultAt_182 hO rfl rfl rfl (Nat.le_of_ble_eq_true rfl) (by decide) (by decide) (mo_puts hl hO hw (by omega)) ?_
    show jl_W l G m_Mo_faultAt (0, 0) 73 [some (.ref 22), some (.int (nI m)), some (.int (nI pc)), some (.int (nI 8)), some (.int (nI 1)), none] [.int (nI 0), .int (nI ((h) - (1)))] (σ) (.inl (some (.int (nI (if 1 ≤ h ∧ h - 1 + 0 ≤ 5 then (if (isI t0) = true then 0 else 2) else 1))))) (σ)
    refine jr_iaddN d_Mo_faultAt_73 ?_
    refine jr_iconst ((nI (5))) d_Mo_faultAt_74 (by decide) ?_
    refine jr_icmp_leN 80 d_Mo_faultAt_75 (by decide) (by omega) (by omega) (fun c2 => ?_) (fun c2 => ?_)
    · refine jr_iload_n d_Mo_faultAt_80 rfl ?_
      refine jr_iconst ((nI (1))) d_Mo_faultAt_81 (by decide) ?_
      refine jr_icmp_ne 107 d_Mo_faultAt_82 (by decide) (fun _ => ?_) (fun z => absurd z (by decide))
      refine jr_iconst ((nI (0))) d_Mo_faultAt_107 (by decide) ?_
      refine jr_istore d_Mo_faultAt_108 (by decide) ?_
      show jl_W l G m_Mo_faultAt (0, 0) 110 [some (.ref 22), some (.int (nI m)), some (.int (nI pc)), some (.int (nI 8)), some (.int (nI 1)), some (.int (nI 0))] [] (σ) (.inl (some (.int (nI (if 1 ≤ h ∧ h - 1 + 0 ≤ 5 then (if (isI t0) = true then 0 else 2) else 1))))) (σ)
      refine jr_iload d_Mo_faultAt_110 rfl ?_
      refine jr_iload d_Mo_faultAt_112 rfl ?_
      refine jr_icmp_ge 151 d_Mo_faultAt_114 (by decide) (fun z => absurd z (by decide)) (fun _ => ?_)
      refine jr_aload_n d_Mo_faultAt_117 rfl ?_
      refine jr_iload_n d_Mo_faultAt_118 rfl ?_
      refine jr_iload_n d_Mo_faultAt_119 rfl ?_
      refine jr_iload d_Mo_faultAt_120 rfl ?_
      refine jr_aload_n d_Mo_faultAt_122 rfl ?_
      refine jr_getf d_Mo_faultAt_123 f_Mo_faultAt_72 hO rfl ?_
      refine jr_aload_n d_Mo_faultAt_126 rfl ?_
      refine jr_getf d_Mo_faultAt_127 f_Mo_faultAt_179 hO rfl ?_
      refine jr_iload d_Mo_faultAt_130 rfl ?_
      refine jr_isubN d_Mo_faultAt_132 (by omega) ?_
      refine jr_iload d_Mo_faultAt_133 rfl ?_
      refine jr_iaddN d_Mo_faultAt_135 ?_
      refine jr_ialdQ (v := (en t0)) d_Mo_faultAt_136 r2 (by omega) (by omega) ((congrArg (fun j => en (sk j)) (show ((h) - (1)) + (0) = h - 1 - 0 by omega)).trans (congrArg en (e_0 (by omega)))) ?_
      refine jr_callV (As := [.int (nI m), .int (nI pc), .int (nI 0), .int (en t0)]) d_Mo_faultAt_137 k_Mo_faultAt_185 hO rfl rfl rfl (Nat.le_of_ble_eq_true rfl) (by decide) (by decide) (mo_fit_8_0 hl hO hw hu hok hK hm hpc ho hx ht0) ?_
      show jl_W l G m_Mo_faultAt (0, 0) 140 [some (.ref 22), some (.int (nI m)), some (.int (nI pc)), some (.int (nI 8)), some (.int (nI 1)), some (.int (nI 0))] [.int (bi (isI t0))] (σ) (.inl (some (.int (nI (if 1 ≤ h ∧ h - 1 + 0 ≤ 5 then (if (isI t0) = true then 0 else 2) else 1))))) (σ)
      refine jr_if_ne 145 d_Mo_faultAt_140 (by decide) (fun c3 => ?_) (fun c3 => ?_)
      · refine jr_iinc ((nI (0 + 1))) d_Mo_faultAt_145 (by decide) rfl (jl_inc _) ?_
        show jl_W l G m_Mo_faultAt (0, 0) 148 [some (.ref 22), some (.int (nI m)), some (.int (nI pc)), some (.int (nI 8)), some (.int (nI 1)), some (.int (nI (0 + 1)))] [] (σ) (.inl (some (.int (nI (if 1 ≤ h ∧ h - 1 + 0 ≤ 5 then (if (isI t0) = true then 0 else 2) else 1))))) (σ)
        refine jr_goto 110 d_Mo_faultAt_148 (by decide) ?_
        show jl_W l G m_Mo_faultAt (0, 0) 110 [some (.ref 22), some (.int (nI m)), some (.int (nI pc)), some (.int (nI 8)), some (.int (nI 1)), some (.int (nI 1))] [] (σ) (.inl (some (.int (nI (if 1 ≤ h ∧ h - 1 + 0 ≤ 5 then (if (isI t0) = true then 0 else 2) else 1))))) (σ)
        refine jr_iload d_Mo_faultAt_110 rfl ?_
        refine jr_iload d_Mo_faultAt_112 rfl ?_
        refine jr_icmp_ge 151 d_Mo_faultAt_114 (by decide) (fun _ => ?_) (fun z => absurd (by decide) z)
        refine jr_iconst ((nI (0))) d_Mo_faultAt_151 (by decide) ?_
        exact jr_iretE d_Mo_faultAt_152 rfl (by rw [if_pos (by omega), if_pos (by simp [bi_nf c3])]) (rfl) (by decide) (by decide)
      · refine jr_iconst ((nI (2))) d_Mo_faultAt_143 (by decide) ?_
        exact jr_iretE d_Mo_faultAt_144 rfl (by rw [if_pos (by omega), if_neg (by simp [bi_0.mp c3])]) (rfl) (by decide) (by decide)
    · refine jr_iconst ((nI (1))) d_Mo_faultAt_78 (by decide) ?_
      exact jr_iretE d_Mo_faultAt_79 rfl (by rw [if_neg (by omega)]) (rfl) (by decide) (by decide)
theorem mo_fa_9 (hl : l.stackTraces = false) {m pc h : Nat} {x : Int32} {t0 : Option Nat} {t1 : Option Nat} (hO : MoO σ fa vf wh wy (nI (h)) dp md ov oh dn an) (hw : MoW σ tb pr ow ft hs) (hu : MoM σ u1 u2 ur ul uo ua uc us ut uk) (hr : MoR σ lo sk) (hok : WoOk tb pr ow fi) (hK : MoK u1 u2 ur ul uo uc us ut uk) (hm : m < 24) (hpc : pc < 24) (ho : uo (24 * m + pc) = 9) (hx : ua (24 * m + pc) = x) (hh5 : h ≤ 5) (e_0 : 0 < h → sk (h - 1 - 0) = t0) (ht0 : ob 16 t0) (e_1 : 1 < h → sk (h - 1 - 1) = t1) (ht1 : ob 16 t1) : jl_W l G m_Mo_faultAt (0, 0) 22 [some (.ref 22), some (.int (nI m)), some (.int (nI pc)), none, none, none] [] σ (.inl (some (.int (nI (if 2 ≤ h ∧ h - 2 + 0 ≤ 5 then (if (isI t1 && isI t0) = true then 0 else 2) else 1))))) (σ) := by
  obtain ⟨h23, h24, h25, h26, h27⟩ := id hw
  obtain ⟨h28, h29, h30, h31, h32, h33, h34, h35, h36, h37⟩ := id hu
  obtain ⟨r1, r2⟩ := id hr
  obtain ⟨hk1, hk2, hk3, hk4, hk5, hk6⟩ := hK.1 m hm
  refine jr_aload_n d_Mo_faultAt_22 rfl ?_
  refine jr_getf d_Mo_faultAt_23 f_Mo_faultAt_38 hO rfl ?_
  refine jr_bipush ((nI (24))) d_Mo_faultAt_26 (by decide) ?_
  refine jr_iload_n d_Mo_faultAt_28 rfl ?_
  refine jr_imulN d_Mo_faultAt_29 ?_
  refine jr_iload_n d_Mo_faultAt_30 rfl ?_
  refine jr_iaddN d_Mo_faultAt_31 ?_
  refine jr_ialdQ (v := (nI (9))) d_Mo_faultAt_32 h32 (by omega) (by omega) (congrArg nI ho) ?_
  refine jr_istore_n d_Mo_faultAt_33 (by decide) ?_
  show jl_W l G m_Mo_faultAt (0, 0) 34 [some (.ref 22), some (.int (nI m)), some (.int (nI pc)), some (.int (nI 9)), none, none] [] (σ) (.inl (some (.int (nI (if 2 ≤ h ∧ h - 2 + 0 ≤ 5 then (if (isI t1 && isI t0) = true then 0 else 2) else 1))))) (σ)
  refine jr_aload_n d_Mo_faultAt_34 rfl ?_
  refine jr_iload_n d_Mo_faultAt_35 rfl ?_
  refine jr_aload_n d_Mo_faultAt_36 rfl ?_
  refine jr_getf d_Mo_faultAt_37 f_Mo_faultAt_41 hO rfl ?_
  refine jr_bipush ((nI (24))) d_Mo_faultAt_40 (by decide) ?_
  refine jr_iload_n d_Mo_faultAt_42 rfl ?_
  refine jr_imulN d_Mo_faultAt_43 ?_
  refine jr_iload_n d_Mo_faultAt_44 rfl ?_
  refine jr_iaddN d_Mo_faultAt_45 ?_
  refine jr_ialdQ (v := (x)) d_Mo_faultAt_46 h33 (by omega) (by omega) (hx) ?_
  refine jr_callV (As := [.int (nI 9), .int (x)]) d_Mo_faultAt_47 k_Mo_faultAt_176 hO rfl rfl rfl (Nat.le_of_ble_eq_true rfl) (by decide) (by decide) (mo_tk_9 hl hO hw hu) ?_
  show jl_W l G m_Mo_faultAt (0, 0) 50 [some (.ref 22), some (.int (nI m)), some (.int (nI pc)), some (.int (nI 9)), none, none] [.int (nI 2)] (σ) (.inl (some (.int (nI (if 2 ≤ h ∧ h - 2 + 0 ≤ 5 then (if (isI t1 && isI t0) = true then 0 else 2) else 1))))) (σ)
  refine jr_istore d_Mo_faultAt_50 (by decide) ?_
  show jl_W l G m_Mo_faultAt (0, 0) 52 [some (.ref 22), some (.int (nI m)), some (.int (nI pc)), some (.int (nI 9)), some (.int (nI 2)), none] [] (σ) (.inl (some (.int (nI (if 2 ≤ h ∧ h - 2 + 0 ≤ 5 then (if (isI t1 && isI t0) = true then 0 else 2) else 1))))) (σ)
  refine jr_aload_n d_Mo_faultAt_52 rfl ?_
  refine jr_getf d_Mo_faultAt_53 f_Mo_faultAt_179 hO rfl ?_
  refine jr_iload d_Mo_faultAt_56 rfl ?_
  refine jr_icmp_ltN 78 d_Mo_faultAt_58 (by decide) (by omega) (by omega) (fun c1 => ?_) (fun c1 => ?_)
  · refine jr_iconst ((nI (1))) d_Mo_faultAt_78 (by decide) ?_
    exact jr_iretE d_Mo_faultAt_79 rfl (by rw [if_neg (by omega)]) (rfl) (by decide) (by decide)
  · refine jr_aload_n d_Mo_faultAt_61 rfl ?_
    refine jr_getf d_Mo_faultAt_62 f_Mo_faultAt_179 hO rfl ?_
    refine jr_iload d_Mo_faultAt_65 rfl ?_
    refine jr_isubN d_Mo_faultAt_67 (by omega) ?_
    refine jr_aload_n d_Mo_faultAt_68 rfl ?_
    refine jr_iload_n d_Mo_faultAt_69 rfl ?_
    refine jr_callV (As := [.int (nI 9)]) d_Mo_faultAt_70 k_Mo_faultAt_182 hO rfl rfl rfl (Nat.le_of_ble_eq_true rfl) (by decide) (by decide) (mo_puts hl hO hw (by omega)) ?_
    show jl_W l G m_Mo_faultAt (0, 0) 73 [some (.ref 22), some (.int (nI m)), some (.int (nI pc)), some (.int (nI 9)), some (.int (nI 2)), none] [.int (nI 0), .int (nI ((h) - (2)))] (σ) (.inl (some (.int (nI (if 2 ≤ h ∧ h - 2 + 0 ≤ 5 then (if (isI t1 && isI t0) = true then 0 else 2) else 1))))) (σ)
    refine jr_iaddN d_Mo_faultAt_73 ?_
    refine jr_iconst ((nI (5))) d_Mo_faultAt_74 (by decide) ?_
    refine jr_icmp_leN 80 d_Mo_faultAt_75 (by decide) (by omega) (by omega) (fun c2 => ?_) (fun c2 => ?_)
    · refine jr_iload_n d_Mo_faultAt_80 rfl ?_
      refine jr_iconst ((nI (1))) d_Mo_faultAt_81 (by decide) ?_
      refine jr_icmp_ne 107 d_Mo_faultAt_82 (by decide) (fun _ => ?_) (fun z => absurd z (by decide))
      refine jr_iconst ((nI (0))) d_Mo_faultAt_107 (by decide) ?_
      refine jr_istore d_Mo_faultAt_108 (by decide) ?_
      show jl_W l G m_Mo_faultAt (0, 0) 110 [some (.ref 22), some (.int (nI m)), some (.int (nI pc)), some (.int (nI 9)), some (.int (nI 2)), some (.int (nI 0))] [] (σ) (.inl (some (.int (nI (if 2 ≤ h ∧ h - 2 + 0 ≤ 5 then (if (isI t1 && isI t0) = true then 0 else 2) else 1))))) (σ)
      refine jr_iload d_Mo_faultAt_110 rfl ?_
      refine jr_iload d_Mo_faultAt_112 rfl ?_
      refine jr_icmp_ge 151 d_Mo_faultAt_114 (by decide) (fun z => absurd z (by decide)) (fun _ => ?_)
      refine jr_aload_n d_Mo_faultAt_117 rfl ?_
      refine jr_iload_n d_Mo_faultAt_118 rfl ?_
      refine jr_iload_n d_Mo_faultAt_119 rfl ?_
      refine jr_iload d_Mo_faultAt_120 rfl ?_
      refine jr_aload_n d_Mo_faultAt_122 rfl ?_
      refine jr_getf d_Mo_faultAt_123 f_Mo_faultAt_72 hO rfl ?_
      refine jr_aload_n d_Mo_faultAt_126 rfl ?_
      refine jr_getf d_Mo_faultAt_127 f_Mo_faultAt_179 hO rfl ?_
      refine jr_iload d_Mo_faultAt_130 rfl ?_
      refine jr_isubN d_Mo_faultAt_132 (by omega) ?_
      refine jr_iload d_Mo_faultAt_133 rfl ?_
      refine jr_iaddN d_Mo_faultAt_135 ?_
      refine jr_ialdQ (v := (en t1)) d_Mo_faultAt_136 r2 (by omega) (by omega) ((congrArg (fun j => en (sk j)) (show ((h) - (2)) + (0) = h - 1 - 1 by omega)).trans (congrArg en (e_1 (by omega)))) ?_
      refine jr_callV (As := [.int (nI m), .int (nI pc), .int (nI 0), .int (en t1)]) d_Mo_faultAt_137 k_Mo_faultAt_185 hO rfl rfl rfl (Nat.le_of_ble_eq_true rfl) (by decide) (by decide) (mo_fit_9_0 hl hO hw hu hok hK hm hpc ho hx ht1) ?_
      show jl_W l G m_Mo_faultAt (0, 0) 140 [some (.ref 22), some (.int (nI m)), some (.int (nI pc)), some (.int (nI 9)), some (.int (nI 2)), some (.int (nI 0))] [.int (bi (isI t1))] (σ) (.inl (some (.int (nI (if 2 ≤ h ∧ h - 2 + 0 ≤ 5 then (if (isI t1 && isI t0) = true then 0 else 2) else 1))))) (σ)
      refine jr_if_ne 145 d_Mo_faultAt_140 (by decide) (fun c3 => ?_) (fun c3 => ?_)
      · refine jr_iinc ((nI (0 + 1))) d_Mo_faultAt_145 (by decide) rfl (jl_inc _) ?_
        show jl_W l G m_Mo_faultAt (0, 0) 148 [some (.ref 22), some (.int (nI m)), some (.int (nI pc)), some (.int (nI 9)), some (.int (nI 2)), some (.int (nI (0 + 1)))] [] (σ) (.inl (some (.int (nI (if 2 ≤ h ∧ h - 2 + 0 ≤ 5 then (if (isI t1 && isI t0) = true then 0 else 2) else 1))))) (σ)
        refine jr_goto 110 d_Mo_faultAt_148 (by decide) ?_
        show jl_W l G m_Mo_faultAt (0, 0) 110 [some (.ref 22), some (.int (nI m)), some (.int (nI pc)), some (.int (nI 9)), some (.int (nI 2)), some (.int (nI 1))] [] (σ) (.inl (some (.int (nI (if 2 ≤ h ∧ h - 2 + 0 ≤ 5 then (if (isI t1 && isI t0) = true then 0 else 2) else 1))))) (σ)
        refine jr_iload d_Mo_faultAt_110 rfl ?_
        refine jr_iload d_Mo_faultAt_112 rfl ?_
        refine jr_icmp_ge 151 d_Mo_faultAt_114 (by decide) (fun z => absurd z (by decide)) (fun _ => ?_)
        refine jr_aload_n d_Mo_faultAt_117 rfl ?_
        refine jr_iload_n d_Mo_faultAt_118 rfl ?_
        refine jr_iload_n d_Mo_faultAt_119 rfl ?_
        refine jr_iload d_Mo_faultAt_120 rfl ?_
        refine jr_aload_n d_Mo_faultAt_122 rfl ?_
        refine jr_getf d_Mo_faultAt_123 f_Mo_faultAt_72 hO rfl ?_
        refine jr_aload_n d_Mo_faultAt_126 rfl ?_
        refine jr_getf d_Mo_faultAt_127 f_Mo_faultAt_179 hO rfl ?_
        refine jr_iload d_Mo_faultAt_130 rfl ?_
        refine jr_isubN d_Mo_faultAt_132 (by omega) ?_
        refine jr_iload d_Mo_faultAt_133 rfl ?_
        refine jr_iaddN d_Mo_faultAt_135 ?_
        refine jr_ialdQ (v := (en t0)) d_Mo_faultAt_136 r2 (by omega) (by omega) ((congrArg (fun j => en (sk j)) (show ((h) - (2)) + (1) = h - 1 - 0 by omega)).trans (congrArg en (e_0 (by omega)))) ?_
        refine jr_callV (As := [.int (nI m), .int (nI pc), .int (nI 1), .int (en t0)]) d_Mo_faultAt_137 k_Mo_faultAt_185 hO rfl rfl rfl (Nat.le_of_ble_eq_true rfl) (by decide) (by decide) (mo_fit_9_1 hl hO hw hu hok hK hm hpc ho hx ht0) ?_
        show jl_W l G m_Mo_faultAt (0, 0) 140 [some (.ref 22), some (.int (nI m)), some (.int (nI pc)), some (.int (nI 9)), some (.int (nI 2)), some (.int (nI 1))] [.int (bi (isI t0))] (σ) (.inl (some (.int (nI (if 2 ≤ h ∧ h - 2 + 0 ≤ 5 then (if (isI t1 && isI t0) = true then 0 else 2) else 1))))) (σ)
        refine jr_if_ne 145 d_Mo_faultAt_140 (by decide) (fun c4 => ?_) (fun c4 => ?_)
        · refine jr_iinc ((nI (1 + 1))) d_Mo_faultAt_145 (by decide) rfl (jl_inc _) ?_
          show jl_W l G m_Mo_faultAt (0, 0) 148 [some (.ref 22), some (.int (nI m)), some (.int (nI pc)), some (.int (nI 9)), some (.int (nI 2)), some (.int (nI (1 + 1)))] [] (σ) (.inl (some (.int (nI (if 2 ≤ h ∧ h - 2 + 0 ≤ 5 then (if (isI t1 && isI t0) = true then 0 else 2) else 1))))) (σ)
          refine jr_goto 110 d_Mo_faultAt_148 (by decide) ?_
          show jl_W l G m_Mo_faultAt (0, 0) 110 [some (.ref 22), some (.int (nI m)), some (.int (nI pc)), some (.int (nI 9)), some (.int (nI 2)), some (.int (nI 2))] [] (σ) (.inl (some (.int (nI (if 2 ≤ h ∧ h - 2 + 0 ≤ 5 then (if (isI t1 && isI t0) = true then 0 else 2) else 1))))) (σ)
          refine jr_iload d_Mo_faultAt_110 rfl ?_
          refine jr_iload d_Mo_faultAt_112 rfl ?_
          refine jr_icmp_ge 151 d_Mo_faultAt_114 (by decide) (fun _ => ?_) (fun z => absurd (by decide) z)
          refine jr_iconst ((nI (0))) d_Mo_faultAt_151 (by decide) ?_
          exact jr_iretE d_Mo_faultAt_152 rfl (by rw [if_pos (by omega), if_pos (by simp [bi_nf c3, bi_nf c4])]) (rfl) (by decide) (by decide)
        · refine jr_iconst ((nI (2))) d_Mo_faultAt_143 (by decide) ?_
          exact jr_iretE d_Mo_faultAt_144 rfl (by rw [if_pos (by omega), if_neg (by simp [bi_nf c3, bi_0.mp c4])]) (rfl) (by decide) (by decide)
      · refine jr_iconst ((nI (2))) d_Mo_faultAt_143 (by decide) ?_
        exact jr_iretE d_Mo_faultAt_144 rfl (by rw [if_pos (by omega), if_neg (by simp [bi_0.mp c3])]) (rfl) (by decide) (by decide)
    · refine jr_iconst ((nI (1))) d_Mo_faultAt_78 (by decide) ?_
      exact jr_iretE d_Mo_faultAt_79 rfl (by rw [if_neg (by omega)]) (rfl) (by decide) (by decide)
theorem mo_fa_10 (hl : l.stackTraces = false) {m pc h : Nat} {x : Int32} (hO : MoO σ fa vf wh wy (nI (h)) dp md ov oh dn an) (hw : MoW σ tb pr ow ft hs) (hu : MoM σ u1 u2 ur ul uo ua uc us ut uk) (hr : MoR σ lo sk) (hok : WoOk tb pr ow fi) (hK : MoK u1 u2 ur ul uo uc us ut uk) (hm : m < 24) (hpc : pc < 24) (ho : uo (24 * m + pc) = 10) (hx : ua (24 * m + pc) = x) (hh5 : h ≤ 5) : jl_W l G m_Mo_faultAt (0, 0) 22 [some (.ref 22), some (.int (nI m)), some (.int (nI pc)), none, none, none] [] σ (.inl (some (.int (nI (if 0 ≤ h ∧ h - 0 + 1 ≤ 5 then (if (true) = true then 0 else 2) else 1))))) (σ) := by
  obtain ⟨h23, h24, h25, h26, h27⟩ := id hw
  obtain ⟨h28, h29, h30, h31, h32, h33, h34, h35, h36, h37⟩ := id hu
  obtain ⟨r1, r2⟩ := id hr
  obtain ⟨hk1, hk2, hk3, hk4, hk5, hk6⟩ := hK.1 m hm
  refine jr_aload_n d_Mo_faultAt_22 rfl ?_
  refine jr_getf d_Mo_faultAt_23 f_Mo_faultAt_38 hO rfl ?_
  refine jr_bipush ((nI (24))) d_Mo_faultAt_26 (by decide) ?_
  refine jr_iload_n d_Mo_faultAt_28 rfl ?_
  refine jr_imulN d_Mo_faultAt_29 ?_
  refine jr_iload_n d_Mo_faultAt_30 rfl ?_
  refine jr_iaddN d_Mo_faultAt_31 ?_
  refine jr_ialdQ (v := (nI (10))) d_Mo_faultAt_32 h32 (by omega) (by omega) (congrArg nI ho) ?_
  refine jr_istore_n d_Mo_faultAt_33 (by decide) ?_
  show jl_W l G m_Mo_faultAt (0, 0) 34 [some (.ref 22), some (.int (nI m)), some (.int (nI pc)), some (.int (nI 10)), none, none] [] (σ) (.inl (some (.int (nI (if 0 ≤ h ∧ h - 0 + 1 ≤ 5 then (if (true) = true then 0 else 2) else 1))))) (σ)
  refine jr_aload_n d_Mo_faultAt_34 rfl ?_
  refine jr_iload_n d_Mo_faultAt_35 rfl ?_
  refine jr_aload_n d_Mo_faultAt_36 rfl ?_
  refine jr_getf d_Mo_faultAt_37 f_Mo_faultAt_41 hO rfl ?_
  refine jr_bipush ((nI (24))) d_Mo_faultAt_40 (by decide) ?_
  refine jr_iload_n d_Mo_faultAt_42 rfl ?_
  refine jr_imulN d_Mo_faultAt_43 ?_
  refine jr_iload_n d_Mo_faultAt_44 rfl ?_
  refine jr_iaddN d_Mo_faultAt_45 ?_
  refine jr_ialdQ (v := (x)) d_Mo_faultAt_46 h33 (by omega) (by omega) (hx) ?_
  refine jr_callV (As := [.int (nI 10), .int (x)]) d_Mo_faultAt_47 k_Mo_faultAt_176 hO rfl rfl rfl (Nat.le_of_ble_eq_true rfl) (by decide) (by decide) (mo_tk_10 hl hO hw hu) ?_
  show jl_W l G m_Mo_faultAt (0, 0) 50 [some (.ref 22), some (.int (nI m)), some (.int (nI pc)), some (.int (nI 10)), none, none] [.int (nI 0)] (σ) (.inl (some (.int (nI (if 0 ≤ h ∧ h - 0 + 1 ≤ 5 then (if (true) = true then 0 else 2) else 1))))) (σ)
  refine jr_istore d_Mo_faultAt_50 (by decide) ?_
  show jl_W l G m_Mo_faultAt (0, 0) 52 [some (.ref 22), some (.int (nI m)), some (.int (nI pc)), some (.int (nI 10)), some (.int (nI 0)), none] [] (σ) (.inl (some (.int (nI (if 0 ≤ h ∧ h - 0 + 1 ≤ 5 then (if (true) = true then 0 else 2) else 1))))) (σ)
  refine jr_aload_n d_Mo_faultAt_52 rfl ?_
  refine jr_getf d_Mo_faultAt_53 f_Mo_faultAt_179 hO rfl ?_
  refine jr_iload d_Mo_faultAt_56 rfl ?_
  refine jr_icmp_ltN 78 d_Mo_faultAt_58 (by decide) (by omega) (by omega) (fun c1 => ?_) (fun c1 => ?_)
  · refine jr_iconst ((nI (1))) d_Mo_faultAt_78 (by decide) ?_
    exact jr_iretE d_Mo_faultAt_79 rfl (by rw [if_neg (by omega)]) (rfl) (by decide) (by decide)
  · refine jr_aload_n d_Mo_faultAt_61 rfl ?_
    refine jr_getf d_Mo_faultAt_62 f_Mo_faultAt_179 hO rfl ?_
    refine jr_iload d_Mo_faultAt_65 rfl ?_
    refine jr_isubN d_Mo_faultAt_67 (by omega) ?_
    refine jr_aload_n d_Mo_faultAt_68 rfl ?_
    refine jr_iload_n d_Mo_faultAt_69 rfl ?_
    refine jr_callV (As := [.int (nI 10)]) d_Mo_faultAt_70 k_Mo_faultAt_182 hO rfl rfl rfl (Nat.le_of_ble_eq_true rfl) (by decide) (by decide) (mo_puts hl hO hw (by omega)) ?_
    show jl_W l G m_Mo_faultAt (0, 0) 73 [some (.ref 22), some (.int (nI m)), some (.int (nI pc)), some (.int (nI 10)), some (.int (nI 0)), none] [.int (nI 1), .int (nI ((h) - (0)))] (σ) (.inl (some (.int (nI (if 0 ≤ h ∧ h - 0 + 1 ≤ 5 then (if (true) = true then 0 else 2) else 1))))) (σ)
    refine jr_iaddN d_Mo_faultAt_73 ?_
    refine jr_iconst ((nI (5))) d_Mo_faultAt_74 (by decide) ?_
    refine jr_icmp_leN 80 d_Mo_faultAt_75 (by decide) (by omega) (by omega) (fun c2 => ?_) (fun c2 => ?_)
    · refine jr_iload_n d_Mo_faultAt_80 rfl ?_
      refine jr_iconst ((nI (1))) d_Mo_faultAt_81 (by decide) ?_
      refine jr_icmp_ne 107 d_Mo_faultAt_82 (by decide) (fun _ => ?_) (fun z => absurd z (by decide))
      refine jr_iconst ((nI (0))) d_Mo_faultAt_107 (by decide) ?_
      refine jr_istore d_Mo_faultAt_108 (by decide) ?_
      show jl_W l G m_Mo_faultAt (0, 0) 110 [some (.ref 22), some (.int (nI m)), some (.int (nI pc)), some (.int (nI 10)), some (.int (nI 0)), some (.int (nI 0))] [] (σ) (.inl (some (.int (nI (if 0 ≤ h ∧ h - 0 + 1 ≤ 5 then (if (true) = true then 0 else 2) else 1))))) (σ)
      refine jr_iload d_Mo_faultAt_110 rfl ?_
      refine jr_iload d_Mo_faultAt_112 rfl ?_
      refine jr_icmp_ge 151 d_Mo_faultAt_114 (by decide) (fun _ => ?_) (fun z => absurd (by decide) z)
      refine jr_iconst ((nI (0))) d_Mo_faultAt_151 (by decide) ?_
      exact jr_iretE d_Mo_faultAt_152 rfl (by rw [if_pos (by omega), if_pos (by simp [Bool.and_self])]) (rfl) (by decide) (by decide)
    · refine jr_iconst ((nI (1))) d_Mo_faultAt_78 (by decide) ?_
      exact jr_iretE d_Mo_faultAt_79 rfl (by rw [if_neg (by omega)]) (rfl) (by decide) (by decide)
theorem mo_fa_11 (hl : l.stackTraces = false) {m pc h : Nat} {x : Int32} (hO : MoO σ fa vf wh wy (nI (h)) dp md ov oh dn an) (hw : MoW σ tb pr ow ft hs) (hu : MoM σ u1 u2 ur ul uo ua uc us ut uk) (hr : MoR σ lo sk) (hok : WoOk tb pr ow fi) (hK : MoK u1 u2 ur ul uo uc us ut uk) (hm : m < 24) (hpc : pc < 24) (ho : uo (24 * m + pc) = 11) (hx : ua (24 * m + pc) = x) (hh5 : h ≤ 5) : jl_W l G m_Mo_faultAt (0, 0) 22 [some (.ref 22), some (.int (nI m)), some (.int (nI pc)), none, none, none] [] σ (.inl (some (.int (nI (if 0 ≤ h ∧ h - 0 + 1 ≤ 5 then (if (true) = true then 0 else 2) else 1))))) (σ) := by
  obtain ⟨h23, h24, h25, h26, h27⟩ := id hw
  obtain ⟨h28, h29, h30, h31, h32, h33, h34, h35, h36, h37⟩ := id hu
  obtain ⟨r1, r2⟩ := id hr
  obtain ⟨hk1, hk2, hk3, hk4, hk5, hk6⟩ := hK.1 m hm
  refine jr_aload_n d_Mo_faultAt_22 rfl ?_
  refine jr_getf d_Mo_faultAt_23 f_Mo_faultAt_38 hO rfl ?_
  refine jr_bipush ((nI (24))) d_Mo_faultAt_26 (by decide) ?_
  refine jr_iload_n d_Mo_faultAt_28 rfl ?_
  refine jr_imulN d_Mo_faultAt_29 ?_
  refine jr_iload_n d_Mo_faultAt_30 rfl ?_
  refine jr_iaddN d_Mo_faultAt_31 ?_
  refine jr_ialdQ (v := (nI (11))) d_Mo_faultAt_32 h32 (by omega) (by omega) (congrArg nI ho) ?_
  refine jr_istore_n d_Mo_faultAt_33 (by decide) ?_
  show jl_W l G m_Mo_faultAt (0, 0) 34 [some (.ref 22), some (.int (nI m)), some (.int (nI pc)), some (.int (nI 11)), none, none] [] (σ) (.inl (some (.int (nI (if 0 ≤ h ∧ h - 0 + 1 ≤ 5 then (if (true) = true then 0 else 2) else 1))))) (σ)
  refine jr_aload_n d_Mo_faultAt_34 rfl ?_
  refine jr_iload_n d_Mo_faultAt_35 rfl ?_
  refine jr_aload_n d_Mo_faultAt_36 rfl ?_
  refine jr_getf d_Mo_faultAt_37 f_Mo_faultAt_41 hO rfl ?_
  refine jr_bipush ((nI (24))) d_Mo_faultAt_40 (by decide) ?_
  refine jr_iload_n d_Mo_faultAt_42 rfl ?_
  refine jr_imulN d_Mo_faultAt_43 ?_
  refine jr_iload_n d_Mo_faultAt_44 rfl ?_
  refine jr_iaddN d_Mo_faultAt_45 ?_
  refine jr_ialdQ (v := (x)) d_Mo_faultAt_46 h33 (by omega) (by omega) (hx) ?_
  refine jr_callV (As := [.int (nI 11), .int (x)]) d_Mo_faultAt_47 k_Mo_faultAt_176 hO rfl rfl rfl (Nat.le_of_ble_eq_true rfl) (by decide) (by decide) (mo_tk_11 hl hO hw hu) ?_
  show jl_W l G m_Mo_faultAt (0, 0) 50 [some (.ref 22), some (.int (nI m)), some (.int (nI pc)), some (.int (nI 11)), none, none] [.int (nI 0)] (σ) (.inl (some (.int (nI (if 0 ≤ h ∧ h - 0 + 1 ≤ 5 then (if (true) = true then 0 else 2) else 1))))) (σ)
  refine jr_istore d_Mo_faultAt_50 (by decide) ?_
  show jl_W l G m_Mo_faultAt (0, 0) 52 [some (.ref 22), some (.int (nI m)), some (.int (nI pc)), some (.int (nI 11)), some (.int (nI 0)), none] [] (σ) (.inl (some (.int (nI (if 0 ≤ h ∧ h - 0 + 1 ≤ 5 then (if (true) = true then 0 else 2) else 1))))) (σ)
  refine jr_aload_n d_Mo_faultAt_52 rfl ?_
  refine jr_getf d_Mo_faultAt_53 f_Mo_faultAt_179 hO rfl ?_
  refine jr_iload d_Mo_faultAt_56 rfl ?_
  refine jr_icmp_ltN 78 d_Mo_faultAt_58 (by decide) (by omega) (by omega) (fun c1 => ?_) (fun c1 => ?_)
  · refine jr_iconst ((nI (1))) d_Mo_faultAt_78 (by decide) ?_
    exact jr_iretE d_Mo_faultAt_79 rfl (by rw [if_neg (by omega)]) (rfl) (by decide) (by decide)
  · refine jr_aload_n d_Mo_faultAt_61 rfl ?_
    refine jr_getf d_Mo_faultAt_62 f_Mo_faultAt_179 hO rfl ?_
    refine jr_iload d_Mo_faultAt_65 rfl ?_
    refine jr_isubN d_Mo_faultAt_67 (by omega) ?_
    refine jr_aload_n d_Mo_faultAt_68 rfl ?_
    refine jr_iload_n d_Mo_faultAt_69 rfl ?_
    refine jr_callV (As := [.int (nI 11)]) d_Mo_faultAt_70 k_Mo_faultAt_182 hO rfl rfl rfl (Nat.le_of_ble_eq_true rfl) (by decide) (by decide) (mo_puts hl hO hw (by omega)) ?_
    show jl_W l G m_Mo_faultAt (0, 0) 73 [some (.ref 22), some (.int (nI m)), some (.int (nI pc)), some (.int (nI 11)), some (.int (nI 0)), none] [.int (nI 1), .int (nI ((h) - (0)))] (σ) (.inl (some (.int (nI (if 0 ≤ h ∧ h - 0 + 1 ≤ 5 then (if (true) = true then 0 else 2) else 1))))) (σ)
    refine jr_iaddN d_Mo_faultAt_73 ?_
    refine jr_iconst ((nI (5))) d_Mo_faultAt_74 (by decide) ?_
    refine jr_icmp_leN 80 d_Mo_faultAt_75 (by decide) (by omega) (by omega) (fun c2 => ?_) (fun c2 => ?_)
    · refine jr_iload_n d_Mo_faultAt_80 rfl ?_
      refine jr_iconst ((nI (1))) d_Mo_faultAt_81 (by decide) ?_
      refine jr_icmp_ne 107 d_Mo_faultAt_82 (by decide) (fun _ => ?_) (fun z => absurd z (by decide))
      refine jr_iconst ((nI (0))) d_Mo_faultAt_107 (by decide) ?_
      refine jr_istore d_Mo_faultAt_108 (by decide) ?_
      show jl_W l G m_Mo_faultAt (0, 0) 110 [some (.ref 22), some (.int (nI m)), some (.int (nI pc)), some (.int (nI 11)), some (.int (nI 0)), some (.int (nI 0))] [] (σ) (.inl (some (.int (nI (if 0 ≤ h ∧ h - 0 + 1 ≤ 5 then (if (true) = true then 0 else 2) else 1))))) (σ)
      refine jr_iload d_Mo_faultAt_110 rfl ?_
      refine jr_iload d_Mo_faultAt_112 rfl ?_
      refine jr_icmp_ge 151 d_Mo_faultAt_114 (by decide) (fun _ => ?_) (fun z => absurd (by decide) z)
      refine jr_iconst ((nI (0))) d_Mo_faultAt_151 (by decide) ?_
      exact jr_iretE d_Mo_faultAt_152 rfl (by rw [if_pos (by omega), if_pos (by simp [Bool.and_self])]) (rfl) (by decide) (by decide)
    · refine jr_iconst ((nI (1))) d_Mo_faultAt_78 (by decide) ?_
      exact jr_iretE d_Mo_faultAt_79 rfl (by rw [if_neg (by omega)]) (rfl) (by decide) (by decide)
theorem mo_fa_12 (hl : l.stackTraces = false) {m pc h : Nat} {n : Nat} {t0 : Option Nat} (hO : MoO σ fa vf wh wy (nI (h)) dp md ov oh dn an) (hw : MoW σ tb pr ow ft hs) (hu : MoM σ u1 u2 ur ul uo ua uc us ut uk) (hr : MoR σ lo sk) (hok : WoOk tb pr ow fi) (hK : MoK u1 u2 ur ul uo uc us ut uk) (hm : m < 24) (hpc : pc < 24) (ho : uo (24 * m + pc) = 12) (hx : ua (24 * m + pc) = nI n) (hh5 : h ≤ 5) (e_0 : 0 < h → sk (h - 1 - 0) = t0) (ht0 : ob 16 t0) (hn : n < 2 ^ 31) (hk : n / 32 < 6) : jl_W l G m_Mo_faultAt (0, 0) 22 [some (.ref 22), some (.int (nI m)), some (.int (nI pc)), none, none, none] [] σ (.inl (some (.int (nI (if 1 ≤ h ∧ h - 1 + 1 ≤ 5 then (if (part pr t0 (some (10 + n / 32))) = true then 0 else 2) else 1))))) (σ) := by
  obtain ⟨h23, h24, h25, h26, h27⟩ := id hw
  obtain ⟨h28, h29, h30, h31, h32, h33, h34, h35, h36, h37⟩ := id hu
  obtain ⟨r1, r2⟩ := id hr
  obtain ⟨hk1, hk2, hk3, hk4, hk5, hk6⟩ := hK.1 m hm
  refine jr_aload_n d_Mo_faultAt_22 rfl ?_
  refine jr_getf d_Mo_faultAt_23 f_Mo_faultAt_38 hO rfl ?_
  refine jr_bipush ((nI (24))) d_Mo_faultAt_26 (by decide) ?_
  refine jr_iload_n d_Mo_faultAt_28 rfl ?_
  refine jr_imulN d_Mo_faultAt_29 ?_
  refine jr_iload_n d_Mo_faultAt_30 rfl ?_
  refine jr_iaddN d_Mo_faultAt_31 ?_
  refine jr_ialdQ (v := (nI (12))) d_Mo_faultAt_32 h32 (by omega) (by omega) (congrArg nI ho) ?_
  refine jr_istore_n d_Mo_faultAt_33 (by decide) ?_
  show jl_W l G m_Mo_faultAt (0, 0) 34 [some (.ref 22), some (.int (nI m)), some (.int (nI pc)), some (.int (nI 12)), none, none] [] (σ) (.inl (some (.int (nI (if 1 ≤ h ∧ h - 1 + 1 ≤ 5 then (if (part pr t0 (some (10 + n / 32))) = true then 0 else 2) else 1))))) (σ)
  refine jr_aload_n d_Mo_faultAt_34 rfl ?_
  refine jr_iload_n d_Mo_faultAt_35 rfl ?_
  refine jr_aload_n d_Mo_faultAt_36 rfl ?_
  refine jr_getf d_Mo_faultAt_37 f_Mo_faultAt_41 hO rfl ?_
  refine jr_bipush ((nI (24))) d_Mo_faultAt_40 (by decide) ?_
  refine jr_iload_n d_Mo_faultAt_42 rfl ?_
  refine jr_imulN d_Mo_faultAt_43 ?_
  refine jr_iload_n d_Mo_faultAt_44 rfl ?_
  refine jr_iaddN d_Mo_faultAt_45 ?_
  refine jr_ialdQ (v := (nI (n))) d_Mo_faultAt_46 h33 (by omega) (by omega) (hx) ?_
  refine jr_callV (As := [.int (nI 12), .int (nI n)]) d_Mo_faultAt_47 k_Mo_faultAt_176 hO rfl rfl rfl (Nat.le_of_ble_eq_true rfl) (by decide) (by decide) (mo_tk_12 hl hO hw hu) ?_
  show jl_W l G m_Mo_faultAt (0, 0) 50 [some (.ref 22), some (.int (nI m)), some (.int (nI pc)), some (.int (nI 12)), none, none] [.int (nI 1)] (σ) (.inl (some (.int (nI (if 1 ≤ h ∧ h - 1 + 1 ≤ 5 then (if (part pr t0 (some (10 + n / 32))) = true then 0 else 2) else 1))))) (σ)
  refine jr_istore d_Mo_faultAt_50 (by decide) ?_
  show jl_W l G m_Mo_faultAt (0, 0) 52 [some (.ref 22), some (.int (nI m)), some (.int (nI pc)), some (.int (nI 12)), some (.int (nI 1)), none] [] (σ) (.inl (some (.int (nI (if 1 ≤ h ∧ h - 1 + 1 ≤ 5 then (if (part pr t0 (some (10 + n / 32))) = true then 0 else 2) else 1))))) (σ)
  refine jr_aload_n d_Mo_faultAt_52 rfl ?_
  refine jr_getf d_Mo_faultAt_53 f_Mo_faultAt_179 hO rfl ?_
  refine jr_iload d_Mo_faultAt_56 rfl ?_
  refine jr_icmp_ltN 78 d_Mo_faultAt_58 (by decide) (by omega) (by omega) (fun c1 => ?_) (fun c1 => ?_)
  · refine jr_iconst ((nI (1))) d_Mo_faultAt_78 (by decide) ?_
    exact jr_iretE d_Mo_faultAt_79 rfl (by rw [if_neg (by omega)]) (rfl) (by decide) (by decide)
  · refine jr_aload_n d_Mo_faultAt_61 rfl ?_
    refine jr_getf d_Mo_faultAt_62 f_Mo_faultAt_179 hO rfl ?_
    refine jr_iload d_Mo_faultAt_65 rfl ?_
    refine jr_isubN d_Mo_faultAt_67 (by omega) ?_
    refine jr_aload_n d_Mo_faultAt_68 rfl ?_
    refine jr_iload_n d_Mo_faultAt_69 rfl ?_
    refine jr_callV (As := [.int (nI 12)]) d_Mo_faultAt_70 k_Mo_faultAt_182 hO rfl rfl rfl (Nat.le_of_ble_eq_true rfl) (by decide) (by decide) (mo_puts hl hO hw (by omega)) ?_
    show jl_W l G m_Mo_faultAt (0, 0) 73 [some (.ref 22), some (.int (nI m)), some (.int (nI pc)), some (.int (nI 12)), some (.int (nI 1)), none] [.int (nI 1), .int (nI ((h) - (1)))] (σ) (.inl (some (.int (nI (if 1 ≤ h ∧ h - 1 + 1 ≤ 5 then (if (part pr t0 (some (10 + n / 32))) = true then 0 else 2) else 1))))) (σ)
    refine jr_iaddN d_Mo_faultAt_73 ?_
    refine jr_iconst ((nI (5))) d_Mo_faultAt_74 (by decide) ?_
    refine jr_icmp_leN 80 d_Mo_faultAt_75 (by decide) (by omega) (by omega) (fun c2 => ?_) (fun c2 => ?_)
    · refine jr_iload_n d_Mo_faultAt_80 rfl ?_
      refine jr_iconst ((nI (1))) d_Mo_faultAt_81 (by decide) ?_
      refine jr_icmp_ne 107 d_Mo_faultAt_82 (by decide) (fun _ => ?_) (fun z => absurd z (by decide))
      refine jr_iconst ((nI (0))) d_Mo_faultAt_107 (by decide) ?_
      refine jr_istore d_Mo_faultAt_108 (by decide) ?_
      show jl_W l G m_Mo_faultAt (0, 0) 110 [some (.ref 22), some (.int (nI m)), some (.int (nI pc)), some (.int (nI 12)), some (.int (nI 1)), some (.int (nI 0))] [] (σ) (.inl (some (.int (nI (if 1 ≤ h ∧ h - 1 + 1 ≤ 5 then (if (part pr t0 (some (10 + n / 32))) = true then 0 else 2) else 1))))) (σ)
      refine jr_iload d_Mo_faultAt_110 rfl ?_
      refine jr_iload d_Mo_faultAt_112 rfl ?_
      refine jr_icmp_ge 151 d_Mo_faultAt_114 (by decide) (fun z => absurd z (by decide)) (fun _ => ?_)
      refine jr_aload_n d_Mo_faultAt_117 rfl ?_
      refine jr_iload_n d_Mo_faultAt_118 rfl ?_
      refine jr_iload_n d_Mo_faultAt_119 rfl ?_
      refine jr_iload d_Mo_faultAt_120 rfl ?_
      refine jr_aload_n d_Mo_faultAt_122 rfl ?_
      refine jr_getf d_Mo_faultAt_123 f_Mo_faultAt_72 hO rfl ?_
      refine jr_aload_n d_Mo_faultAt_126 rfl ?_
      refine jr_getf d_Mo_faultAt_127 f_Mo_faultAt_179 hO rfl ?_
      refine jr_iload d_Mo_faultAt_130 rfl ?_
      refine jr_isubN d_Mo_faultAt_132 (by omega) ?_
      refine jr_iload d_Mo_faultAt_133 rfl ?_
      refine jr_iaddN d_Mo_faultAt_135 ?_
      refine jr_ialdQ (v := (en t0)) d_Mo_faultAt_136 r2 (by omega) (by omega) ((congrArg (fun j => en (sk j)) (show ((h) - (1)) + (0) = h - 1 - 0 by omega)).trans (congrArg en (e_0 (by omega)))) ?_
      refine jr_callV (As := [.int (nI m), .int (nI pc), .int (nI 0), .int (en t0)]) d_Mo_faultAt_137 k_Mo_faultAt_185 hO rfl rfl rfl (Nat.le_of_ble_eq_true rfl) (by decide) (by decide) (mo_fit_12_0 hl hO hw hu hok hK hm hpc ho hx ht0 hn hk) ?_
      show jl_W l G m_Mo_faultAt (0, 0) 140 [some (.ref 22), some (.int (nI m)), some (.int (nI pc)), some (.int (nI 12)), some (.int (nI 1)), some (.int (nI 0))] [.int (bi (part pr t0 (some (10 + n / 32))))] (σ) (.inl (some (.int (nI (if 1 ≤ h ∧ h - 1 + 1 ≤ 5 then (if (part pr t0 (some (10 + n / 32))) = true then 0 else 2) else 1))))) (σ)
      refine jr_if_ne 145 d_Mo_faultAt_140 (by decide) (fun c3 => ?_) (fun c3 => ?_)
      · refine jr_iinc ((nI (0 + 1))) d_Mo_faultAt_145 (by decide) rfl (jl_inc _) ?_
        show jl_W l G m_Mo_faultAt (0, 0) 148 [some (.ref 22), some (.int (nI m)), some (.int (nI pc)), some (.int (nI 12)), some (.int (nI 1)), some (.int (nI (0 + 1)))] [] (σ) (.inl (some (.int (nI (if 1 ≤ h ∧ h - 1 + 1 ≤ 5 then (if (part pr t0 (some (10 + n / 32))) = true then 0 else 2) else 1))))) (σ)
        refine jr_goto 110 d_Mo_faultAt_148 (by decide) ?_
        show jl_W l G m_Mo_faultAt (0, 0) 110 [some (.ref 22), some (.int (nI m)), some (.int (nI pc)), some (.int (nI 12)), some (.int (nI 1)), some (.int (nI 1))] [] (σ) (.inl (some (.int (nI (if 1 ≤ h ∧ h - 1 + 1 ≤ 5 then (if (part pr t0 (some (10 + n / 32))) = true then 0 else 2) else 1))))) (σ)
        refine jr_iload d_Mo_faultAt_110 rfl ?_
        refine jr_iload d_Mo_faultAt_112 rfl ?_
        refine jr_icmp_ge 151 d_Mo_faultAt_114 (by decide) (fun _ => ?_) (fun z => absurd (by decide) z)
        refine jr_iconst ((nI (0))) d_Mo_faultAt_151 (by decide) ?_
        exact jr_iretE d_Mo_faultAt_152 rfl (by rw [if_pos (by omega), if_pos (by simp [bi_nf c3])]) (rfl) (by decide) (by decide)
      · refine jr_iconst ((nI (2))) d_Mo_faultAt_143 (by decide) ?_
        exact jr_iretE d_Mo_faultAt_144 rfl (by rw [if_pos (by omega), if_neg (by simp [bi_0.mp c3])]) (rfl) (by decide) (by decide)
    · refine jr_iconst ((nI (1))) d_Mo_faultAt_78 (by decide) ?_
      exact jr_iretE d_Mo_faultAt_79 rfl (by rw [if_neg (by omega)]) (rfl) (by decide) (by decide)
theorem mo_fa_13 (hl : l.stackTraces = false) {m pc h : Nat} {n : Nat} {t0 : Option Nat} {t1 : Option Nat} (hO : MoO σ fa vf wh wy (nI (h)) dp md ov oh dn an) (hw : MoW σ tb pr ow ft hs) (hu : MoM σ u1 u2 ur ul uo ua uc us ut uk) (hr : MoR σ lo sk) (hok : WoOk tb pr ow fi) (hK : MoK u1 u2 ur ul uo uc us ut uk) (hm : m < 24) (hpc : pc < 24) (ho : uo (24 * m + pc) = 13) (hx : ua (24 * m + pc) = nI n) (hh5 : h ≤ 5) (e_0 : 0 < h → sk (h - 1 - 0) = t0) (ht0 : ob 16 t0) (e_1 : 1 < h → sk (h - 1 - 1) = t1) (ht1 : ob 16 t1) (hn : n < 2 ^ 31) (hk : n / 32 < 6) (hf : n % 32 < fi (n / 32) + ow (n / 32)) (hft : fty pr fi ft (n / 32) (n % 32) < 16) : jl_W l G m_Mo_faultAt (0, 0) 22 [some (.ref 22), some (.int (nI m)), some (.int (nI pc)), none, none, none] [] σ (.inl (some (.int (nI (if 2 ≤ h ∧ h - 2 + 0 ≤ 5 then (if (part pr t1 (some (10 + n / 32)) && part pr t0 (some (fty pr fi ft (n / 32) (n % 32)))) = true then 0 else 2) else 1))))) (σ) := by
  obtain ⟨h23, h24, h25, h26, h27⟩ := id hw
  obtain ⟨h28, h29, h30, h31, h32, h33, h34, h35, h36, h37⟩ := id hu
  obtain ⟨r1, r2⟩ := id hr
  obtain ⟨hk1, hk2, hk3, hk4, hk5, hk6⟩ := hK.1 m hm
  refine jr_aload_n d_Mo_faultAt_22 rfl ?_
  refine jr_getf d_Mo_faultAt_23 f_Mo_faultAt_38 hO rfl ?_
  refine jr_bipush ((nI (24))) d_Mo_faultAt_26 (by decide) ?_
  refine jr_iload_n d_Mo_faultAt_28 rfl ?_
  refine jr_imulN d_Mo_faultAt_29 ?_
  refine jr_iload_n d_Mo_faultAt_30 rfl ?_
  refine jr_iaddN d_Mo_faultAt_31 ?_
  refine jr_ialdQ (v := (nI (13))) d_Mo_faultAt_32 h32 (by omega) (by omega) (congrArg nI ho) ?_
  refine jr_istore_n d_Mo_faultAt_33 (by decide) ?_
  show jl_W l G m_Mo_faultAt (0, 0) 34 [some (.ref 22), some (.int (nI m)), some (.int (nI pc)), some (.int (nI 13)), none, none] [] (σ) (.inl (some (.int (nI (if 2 ≤ h ∧ h - 2 + 0 ≤ 5 then (if (part pr t1 (some (10 + n / 32)) && part pr t0 (some (fty pr fi ft (n / 32) (n % 32)))) = true then 0 else 2) else 1))))) (σ)
  refine jr_aload_n d_Mo_faultAt_34 rfl ?_
  refine jr_iload_n d_Mo_faultAt_35 rfl ?_
  refine jr_aload_n d_Mo_faultAt_36 rfl ?_
  refine jr_getf d_Mo_faultAt_37 f_Mo_faultAt_41 hO rfl ?_
  refine jr_bipush ((nI (24))) d_Mo_faultAt_40 (by decide) ?_
  refine jr_iload_n d_Mo_faultAt_42 rfl ?_
  refine jr_imulN d_Mo_faultAt_43 ?_
  refine jr_iload_n d_Mo_faultAt_44 rfl ?_
  refine jr_iaddN d_Mo_faultAt_45 ?_
  refine jr_ialdQ (v := (nI (n))) d_Mo_faultAt_46 h33 (by omega) (by omega) (hx) ?_
  refine jr_callV (As := [.int (nI 13), .int (nI n)]) d_Mo_faultAt_47 k_Mo_faultAt_176 hO rfl rfl rfl (Nat.le_of_ble_eq_true rfl) (by decide) (by decide) (mo_tk_13 hl hO hw hu) ?_
  show jl_W l G m_Mo_faultAt (0, 0) 50 [some (.ref 22), some (.int (nI m)), some (.int (nI pc)), some (.int (nI 13)), none, none] [.int (nI 2)] (σ) (.inl (some (.int (nI (if 2 ≤ h ∧ h - 2 + 0 ≤ 5 then (if (part pr t1 (some (10 + n / 32)) && part pr t0 (some (fty pr fi ft (n / 32) (n % 32)))) = true then 0 else 2) else 1))))) (σ)
  refine jr_istore d_Mo_faultAt_50 (by decide) ?_
  show jl_W l G m_Mo_faultAt (0, 0) 52 [some (.ref 22), some (.int (nI m)), some (.int (nI pc)), some (.int (nI 13)), some (.int (nI 2)), none] [] (σ) (.inl (some (.int (nI (if 2 ≤ h ∧ h - 2 + 0 ≤ 5 then (if (part pr t1 (some (10 + n / 32)) && part pr t0 (some (fty pr fi ft (n / 32) (n % 32)))) = true then 0 else 2) else 1))))) (σ)
  refine jr_aload_n d_Mo_faultAt_52 rfl ?_
  refine jr_getf d_Mo_faultAt_53 f_Mo_faultAt_179 hO rfl ?_
  refine jr_iload d_Mo_faultAt_56 rfl ?_
  refine jr_icmp_ltN 78 d_Mo_faultAt_58 (by decide) (by omega) (by omega) (fun c1 => ?_) (fun c1 => ?_)
  · refine jr_iconst ((nI (1))) d_Mo_faultAt_78 (by decide) ?_
    exact jr_iretE d_Mo_faultAt_79 rfl (by rw [if_neg (by omega)]) (rfl) (by decide) (by decide)
  · refine jr_aload_n d_Mo_faultAt_61 rfl ?_
    refine jr_getf d_Mo_faultAt_62 f_Mo_faultAt_179 hO rfl ?_
    refine jr_iload d_Mo_faultAt_65 rfl ?_
    refine jr_isubN d_Mo_faultAt_67 (by omega) ?_
    refine jr_aload_n d_Mo_faultAt_68 rfl ?_
    refine jr_iload_n d_Mo_faultAt_69 rfl ?_
    refine jr_callV (As := [.int (nI 13)]) d_Mo_faultAt_70 k_Mo_faultAt_182 hO rfl rfl rfl (Nat.le_of_ble_eq_true rfl) (by decide) (by decide) (mo_puts hl hO hw (by omega)) ?_
    show jl_W l G m_Mo_faultAt (0, 0) 73 [some (.ref 22), some (.int (nI m)), some (.int (nI pc)), some (.int (nI 13)), some (.int (nI 2)), none] [.int (nI 0), .int (nI ((h) - (2)))] (σ) (.inl (some (.int (nI (if 2 ≤ h ∧ h - 2 + 0 ≤ 5 then (if (part pr t1 (some (10 + n / 32)) && part pr t0 (some (fty pr fi ft (n / 32) (n % 32)))) = true then 0 else 2) else 1))))) (σ)
    refine jr_iaddN d_Mo_faultAt_73 ?_
    refine jr_iconst ((nI (5))) d_Mo_faultAt_74 (by decide) ?_
    refine jr_icmp_leN 80 d_Mo_faultAt_75 (by decide) (by omega) (by omega) (fun c2 => ?_) (fun c2 => ?_)
    · refine jr_iload_n d_Mo_faultAt_80 rfl ?_
      refine jr_iconst ((nI (1))) d_Mo_faultAt_81 (by decide) ?_
      refine jr_icmp_ne 107 d_Mo_faultAt_82 (by decide) (fun _ => ?_) (fun z => absurd z (by decide))
      refine jr_iconst ((nI (0))) d_Mo_faultAt_107 (by decide) ?_
      refine jr_istore d_Mo_faultAt_108 (by decide) ?_
      show jl_W l G m_Mo_faultAt (0, 0) 110 [some (.ref 22), some (.int (nI m)), some (.int (nI pc)), some (.int (nI 13)), some (.int (nI 2)), some (.int (nI 0))] [] (σ) (.inl (some (.int (nI (if 2 ≤ h ∧ h - 2 + 0 ≤ 5 then (if (part pr t1 (some (10 + n / 32)) && part pr t0 (some (fty pr fi ft (n / 32) (n % 32)))) = true then 0 else 2) else 1))))) (σ)
      refine jr_iload d_Mo_faultAt_110 rfl ?_
      refine jr_iload d_Mo_faultAt_112 rfl ?_
      refine jr_icmp_ge 151 d_Mo_faultAt_114 (by decide) (fun z => absurd z (by decide)) (fun _ => ?_)
      refine jr_aload_n d_Mo_faultAt_117 rfl ?_
      refine jr_iload_n d_Mo_faultAt_118 rfl ?_
      refine jr_iload_n d_Mo_faultAt_119 rfl ?_
      refine jr_iload d_Mo_faultAt_120 rfl ?_
      refine jr_aload_n d_Mo_faultAt_122 rfl ?_
      refine jr_getf d_Mo_faultAt_123 f_Mo_faultAt_72 hO rfl ?_
      refine jr_aload_n d_Mo_faultAt_126 rfl ?_
      refine jr_getf d_Mo_faultAt_127 f_Mo_faultAt_179 hO rfl ?_
      refine jr_iload d_Mo_faultAt_130 rfl ?_
      refine jr_isubN d_Mo_faultAt_132 (by omega) ?_
      refine jr_iload d_Mo_faultAt_133 rfl ?_
      refine jr_iaddN d_Mo_faultAt_135 ?_
      refine jr_ialdQ (v := (en t1)) d_Mo_faultAt_136 r2 (by omega) (by omega) ((congrArg (fun j => en (sk j)) (show ((h) - (2)) + (0) = h - 1 - 1 by omega)).trans (congrArg en (e_1 (by omega)))) ?_
      refine jr_callV (As := [.int (nI m), .int (nI pc), .int (nI 0), .int (en t1)]) d_Mo_faultAt_137 k_Mo_faultAt_185 hO rfl rfl rfl (Nat.le_of_ble_eq_true rfl) (by decide) (by decide) (mo_fit_13_0 hl hO hw hu hok hK hm hpc ho hx ht1 hn hk hf hft) ?_
      show jl_W l G m_Mo_faultAt (0, 0) 140 [some (.ref 22), some (.int (nI m)), some (.int (nI pc)), some (.int (nI 13)), some (.int (nI 2)), some (.int (nI 0))] [.int (bi (part pr t1 (some (10 + n / 32))))] (σ) (.inl (some (.int (nI (if 2 ≤ h ∧ h - 2 + 0 ≤ 5 then (if (part pr t1 (some (10 + n / 32)) && part pr t0 (some (fty pr fi ft (n / 32) (n % 32)))) = true then 0 else 2) else 1))))) (σ)
      refine jr_if_ne 145 d_Mo_faultAt_140 (by decide) (fun c3 => ?_) (fun c3 => ?_)
      · refine jr_iinc ((nI (0 + 1))) d_Mo_faultAt_145 (by decide) rfl (jl_inc _) ?_
        show jl_W l G m_Mo_faultAt (0, 0) 148 [some (.ref 22), some (.int (nI m)), some (.int (nI pc)), some (.int (nI 13)), some (.int (nI 2)), some (.int (nI (0 + 1)))] [] (σ) (.inl (some (.int (nI (if 2 ≤ h ∧ h - 2 + 0 ≤ 5 then (if (part pr t1 (some (10 + n / 32)) && part pr t0 (some (fty pr fi ft (n / 32) (n % 32)))) = true then 0 else 2) else 1))))) (σ)
        refine jr_goto 110 d_Mo_faultAt_148 (by decide) ?_
        show jl_W l G m_Mo_faultAt (0, 0) 110 [some (.ref 22), some (.int (nI m)), some (.int (nI pc)), some (.int (nI 13)), some (.int (nI 2)), some (.int (nI 1))] [] (σ) (.inl (some (.int (nI (if 2 ≤ h ∧ h - 2 + 0 ≤ 5 then (if (part pr t1 (some (10 + n / 32)) && part pr t0 (some (fty pr fi ft (n / 32) (n % 32)))) = true then 0 else 2) else 1))))) (σ)
        refine jr_iload d_Mo_faultAt_110 rfl ?_
        refine jr_iload d_Mo_faultAt_112 rfl ?_
        refine jr_icmp_ge 151 d_Mo_faultAt_114 (by decide) (fun z => absurd z (by decide)) (fun _ => ?_)
        refine jr_aload_n d_Mo_faultAt_117 rfl ?_
        refine jr_iload_n d_Mo_faultAt_118 rfl ?_
        refine jr_iload_n d_Mo_faultAt_119 rfl ?_
        refine jr_iload d_Mo_faultAt_120 rfl ?_
        refine jr_aload_n d_Mo_faultAt_122 rfl ?_
        refine jr_getf d_Mo_faultAt_123 f_Mo_faultAt_72 hO rfl ?_
        refine jr_aload_n d_Mo_faultAt_126 rfl ?_
        refine jr_getf d_Mo_faultAt_127 f_Mo_faultAt_179 hO rfl ?_
        refine jr_iload d_Mo_faultAt_130 rfl ?_
        refine jr_isubN d_Mo_faultAt_132 (by omega) ?_
        refine jr_iload d_Mo_faultAt_133 rfl ?_
        refine jr_iaddN d_Mo_faultAt_135 ?_
        refine jr_ialdQ (v := (en t0)) d_Mo_faultAt_136 r2 (by omega) (by omega) ((congrArg (fun j => en (sk j)) (show ((h) - (2)) + (1) = h - 1 - 0 by omega)).trans (congrArg en (e_0 (by omega)))) ?_
        refine jr_callV (As := [.int (nI m), .int (nI pc), .int (nI 1), .int (en t0)]) d_Mo_faultAt_137 k_Mo_faultAt_185 hO rfl rfl rfl (Nat.le_of_ble_eq_true rfl) (by decide) (by decide) (mo_fit_13_1 hl hO hw hu hok hK hm hpc ho hx ht0 hn hk hf hft) ?_
        show jl_W l G m_Mo_faultAt (0, 0) 140 [some (.ref 22), some (.int (nI m)), some (.int (nI pc)), some (.int (nI 13)), some (.int (nI 2)), some (.int (nI 1))] [.int (bi (part pr t0 (some (fty pr fi ft (n / 32) (n % 32)))))] (σ) (.inl (some (.int (nI (if 2 ≤ h ∧ h - 2 + 0 ≤ 5 then (if (part pr t1 (some (10 + n / 32)) && part pr t0 (some (fty pr fi ft (n / 32) (n % 32)))) = true then 0 else 2) else 1))))) (σ)
        refine jr_if_ne 145 d_Mo_faultAt_140 (by decide) (fun c4 => ?_) (fun c4 => ?_)
        · refine jr_iinc ((nI (1 + 1))) d_Mo_faultAt_145 (by decide) rfl (jl_inc _) ?_
          show jl_W l G m_Mo_faultAt (0, 0) 148 [some (.ref 22), some (.int (nI m)), some (.int (nI pc)), some (.int (nI 13)), some (.int (nI 2)), some (.int (nI (1 + 1)))] [] (σ) (.inl (some (.int (nI (if 2 ≤ h ∧ h - 2 + 0 ≤ 5 then (if (part pr t1 (some (10 + n / 32)) && part pr t0 (some (fty pr fi ft (n / 32) (n % 32)))) = true then 0 else 2) else 1))))) (σ)
          refine jr_goto 110 d_Mo_faultAt_148 (by decide) ?_
          show jl_W l G m_Mo_faultAt (0, 0) 110 [some (.ref 22), some (.int (nI m)), some (.int (nI pc)), some (.int (nI 13)), some (.int (nI 2)), some (.int (nI 2))] [] (σ) (.inl (some (.int (nI (if 2 ≤ h ∧ h - 2 + 0 ≤ 5 then (if (part pr t1 (some (10 + n / 32)) && part pr t0 (some (fty pr fi ft (n / 32) (n % 32)))) = true then 0 else 2) else 1))))) (σ)
          refine jr_iload d_Mo_faultAt_110 rfl ?_
          refine jr_iload d_Mo_faultAt_112 rfl ?_
          refine jr_icmp_ge 151 d_Mo_faultAt_114 (by decide) (fun _ => ?_) (fun z => absurd (by decide) z)
          refine jr_iconst ((nI (0))) d_Mo_faultAt_151 (by decide) ?_
          exact jr_iretE d_Mo_faultAt_152 rfl (by rw [if_pos (by omega), if_pos (by simp [bi_nf c3, bi_nf c4])]) (rfl) (by decide) (by decide)
        · refine jr_iconst ((nI (2))) d_Mo_faultAt_143 (by decide) ?_
          exact jr_iretE d_Mo_faultAt_144 rfl (by rw [if_pos (by omega), if_neg (by simp [bi_nf c3, bi_0.mp c4])]) (rfl) (by decide) (by decide)
      · refine jr_iconst ((nI (2))) d_Mo_faultAt_143 (by decide) ?_
        exact jr_iretE d_Mo_faultAt_144 rfl (by rw [if_pos (by omega), if_neg (by simp [bi_0.mp c3])]) (rfl) (by decide) (by decide)
    · refine jr_iconst ((nI (1))) d_Mo_faultAt_78 (by decide) ?_
      exact jr_iretE d_Mo_faultAt_79 rfl (by rw [if_neg (by omega)]) (rfl) (by decide) (by decide)
theorem mo_fa_15 (hl : l.stackTraces = false) {m pc h : Nat} {x : Int32} {t0 : Option Nat} (hO : MoO σ fa vf wh wy (nI (h)) dp md ov oh dn an) (hw : MoW σ tb pr ow ft hs) (hu : MoM σ u1 u2 ur ul uo ua uc us ut uk) (hr : MoR σ lo sk) (hok : WoOk tb pr ow fi) (hK : MoK u1 u2 ur ul uo uc us ut uk) (hm : m < 24) (hpc : pc < 24) (ho : uo (24 * m + pc) = 15) (hx : ua (24 * m + pc) = x) (hh5 : h ≤ 5) (e_0 : 0 < h → sk (h - 1 - 0) = t0) (ht0 : ob 16 t0) : jl_W l G m_Mo_faultAt (0, 0) 22 [some (.ref 22), some (.int (nI m)), some (.int (nI pc)), none, none, none] [] σ (.inl (some (.int (nI (if 1 ≤ h ∧ h - 1 + 1 ≤ 5 then (if (isO t0) = true then 0 else 2) else 1))))) (σ) := by
  obtain ⟨h23, h24, h25, h26, h27⟩ := id hw
  obtain ⟨h28, h29, h30, h31, h32, h33, h34, h35, h36, h37⟩ := id hu
  obtain ⟨r1, r2⟩ := id hr
  obtain ⟨hk1, hk2, hk3, hk4, hk5, hk6⟩ := hK.1 m hm
  refine jr_aload_n d_Mo_faultAt_22 rfl ?_
  refine jr_getf d_Mo_faultAt_23 f_Mo_faultAt_38 hO rfl ?_
  refine jr_bipush ((nI (24))) d_Mo_faultAt_26 (by decide) ?_
  refine jr_iload_n d_Mo_faultAt_28 rfl ?_
  refine jr_imulN d_Mo_faultAt_29 ?_
  refine jr_iload_n d_Mo_faultAt_30 rfl ?_
  refine jr_iaddN d_Mo_faultAt_31 ?_
  refine jr_ialdQ (v := (nI (15))) d_Mo_faultAt_32 h32 (by omega) (by omega) (congrArg nI ho) ?_
  refine jr_istore_n d_Mo_faultAt_33 (by decide) ?_
  show jl_W l G m_Mo_faultAt (0, 0) 34 [some (.ref 22), some (.int (nI m)), some (.int (nI pc)), some (.int (nI 15)), none, none] [] (σ) (.inl (some (.int (nI (if 1 ≤ h ∧ h - 1 + 1 ≤ 5 then (if (isO t0) = true then 0 else 2) else 1))))) (σ)
  refine jr_aload_n d_Mo_faultAt_34 rfl ?_
  refine jr_iload_n d_Mo_faultAt_35 rfl ?_
  refine jr_aload_n d_Mo_faultAt_36 rfl ?_
  refine jr_getf d_Mo_faultAt_37 f_Mo_faultAt_41 hO rfl ?_
  refine jr_bipush ((nI (24))) d_Mo_faultAt_40 (by decide) ?_
  refine jr_iload_n d_Mo_faultAt_42 rfl ?_
  refine jr_imulN d_Mo_faultAt_43 ?_
  refine jr_iload_n d_Mo_faultAt_44 rfl ?_
  refine jr_iaddN d_Mo_faultAt_45 ?_
  refine jr_ialdQ (v := (x)) d_Mo_faultAt_46 h33 (by omega) (by omega) (hx) ?_
  refine jr_callV (As := [.int (nI 15), .int (x)]) d_Mo_faultAt_47 k_Mo_faultAt_176 hO rfl rfl rfl (Nat.le_of_ble_eq_true rfl) (by decide) (by decide) (mo_tk_15 hl hO hw hu) ?_
  show jl_W l G m_Mo_faultAt (0, 0) 50 [some (.ref 22), some (.int (nI m)), some (.int (nI pc)), some (.int (nI 15)), none, none] [.int (nI 1)] (σ) (.inl (some (.int (nI (if 1 ≤ h ∧ h - 1 + 1 ≤ 5 then (if (isO t0) = true then 0 else 2) else 1))))) (σ)
  refine jr_istore d_Mo_faultAt_50 (by decide) ?_
  show jl_W l G m_Mo_faultAt (0, 0) 52 [some (.ref 22), some (.int (nI m)), some (.int (nI pc)), some (.int (nI 15)), some (.int (nI 1)), none] [] (σ) (.inl (some (.int (nI (if 1 ≤ h ∧ h - 1 + 1 ≤ 5 then (if (isO t0) = true then 0 else 2) else 1))))) (σ)
  refine jr_aload_n d_Mo_faultAt_52 rfl ?_
  refine jr_getf d_Mo_faultAt_53 f_Mo_faultAt_179 hO rfl ?_
  refine jr_iload d_Mo_faultAt_56 rfl ?_
  refine jr_icmp_ltN 78 d_Mo_faultAt_58 (by decide) (by omega) (by omega) (fun c1 => ?_) (fun c1 => ?_)
  · refine jr_iconst ((nI (1))) d_Mo_faultAt_78 (by decide) ?_
    exact jr_iretE d_Mo_faultAt_79 rfl (by rw [if_neg (by omega)]) (rfl) (by decide) (by decide)
  · refine jr_aload_n d_Mo_faultAt_61 rfl ?_
    refine jr_getf d_Mo_faultAt_62 f_Mo_faultAt_179 hO rfl ?_
    refine jr_iload d_Mo_faultAt_65 rfl ?_
    refine jr_isubN d_Mo_faultAt_67 (by omega) ?_
    refine jr_aload_n d_Mo_faultAt_68 rfl ?_
    refine jr_iload_n d_Mo_faultAt_69 rfl ?_
    refine jr_callV (As := [.int (nI 15)]) d_Mo_faultAt_70 k_Mo_faultAt_182 hO rfl rfl rfl (Nat.le_of_ble_eq_true rfl) (by decide) (by decide) (mo_puts hl hO hw (by omega)) ?_
    show jl_W l G m_Mo_faultAt (0, 0) 73 [some (.ref 22), some (.int (nI m)), some (.int (nI pc)), some (.int (nI 15)), some (.int (nI 1)), none] [.int (nI 1), .int (nI ((h) - (1)))] (σ) (.inl (some (.int (nI (if 1 ≤ h ∧ h - 1 + 1 ≤ 5 then (if (isO t0) = true then 0 else 2) else 1))))) (σ)
    refine jr_iaddN d_Mo_faultAt_73 ?_
    refine jr_iconst ((nI (5))) d_Mo_faultAt_74 (by decide) ?_
    refine jr_icmp_leN 80 d_Mo_faultAt_75 (by decide) (by omega) (by omega) (fun c2 => ?_) (fun c2 => ?_)
    · refine jr_iload_n d_Mo_faultAt_80 rfl ?_
      refine jr_iconst ((nI (1))) d_Mo_faultAt_81 (by decide) ?_
      refine jr_icmp_ne 107 d_Mo_faultAt_82 (by decide) (fun _ => ?_) (fun z => absurd z (by decide))
      refine jr_iconst ((nI (0))) d_Mo_faultAt_107 (by decide) ?_
      refine jr_istore d_Mo_faultAt_108 (by decide) ?_
      show jl_W l G m_Mo_faultAt (0, 0) 110 [some (.ref 22), some (.int (nI m)), some (.int (nI pc)), some (.int (nI 15)), some (.int (nI 1)), some (.int (nI 0))] [] (σ) (.inl (some (.int (nI (if 1 ≤ h ∧ h - 1 + 1 ≤ 5 then (if (isO t0) = true then 0 else 2) else 1))))) (σ)
      refine jr_iload d_Mo_faultAt_110 rfl ?_
      refine jr_iload d_Mo_faultAt_112 rfl ?_
      refine jr_icmp_ge 151 d_Mo_faultAt_114 (by decide) (fun z => absurd z (by decide)) (fun _ => ?_)
      refine jr_aload_n d_Mo_faultAt_117 rfl ?_
      refine jr_iload_n d_Mo_faultAt_118 rfl ?_
      refine jr_iload_n d_Mo_faultAt_119 rfl ?_
      refine jr_iload d_Mo_faultAt_120 rfl ?_
      refine jr_aload_n d_Mo_faultAt_122 rfl ?_
      refine jr_getf d_Mo_faultAt_123 f_Mo_faultAt_72 hO rfl ?_
      refine jr_aload_n d_Mo_faultAt_126 rfl ?_
      refine jr_getf d_Mo_faultAt_127 f_Mo_faultAt_179 hO rfl ?_
      refine jr_iload d_Mo_faultAt_130 rfl ?_
      refine jr_isubN d_Mo_faultAt_132 (by omega) ?_
      refine jr_iload d_Mo_faultAt_133 rfl ?_
      refine jr_iaddN d_Mo_faultAt_135 ?_
      refine jr_ialdQ (v := (en t0)) d_Mo_faultAt_136 r2 (by omega) (by omega) ((congrArg (fun j => en (sk j)) (show ((h) - (1)) + (0) = h - 1 - 0 by omega)).trans (congrArg en (e_0 (by omega)))) ?_
      refine jr_callV (As := [.int (nI m), .int (nI pc), .int (nI 0), .int (en t0)]) d_Mo_faultAt_137 k_Mo_faultAt_185 hO rfl rfl rfl (Nat.le_of_ble_eq_true rfl) (by decide) (by decide) (mo_fit_15_0 hl hO hw hu hok hK hm hpc ho hx ht0) ?_
      show jl_W l G m_Mo_faultAt (0, 0) 140 [some (.ref 22), some (.int (nI m)), some (.int (nI pc)), some (.int (nI 15)), some (.int (nI 1)), some (.int (nI 0))] [.int (bi (isO t0))] (σ) (.inl (some (.int (nI (if 1 ≤ h ∧ h - 1 + 1 ≤ 5 then (if (isO t0) = true then 0 else 2) else 1))))) (σ)
      refine jr_if_ne 145 d_Mo_faultAt_140 (by decide) (fun c3 => ?_) (fun c3 => ?_)
      · refine jr_iinc ((nI (0 + 1))) d_Mo_faultAt_145 (by decide) rfl (jl_inc _) ?_
        show jl_W l G m_Mo_faultAt (0, 0) 148 [some (.ref 22), some (.int (nI m)), some (.int (nI pc)), some (.int (nI 15)), some (.int (nI 1)), some (.int (nI (0 + 1)))] [] (σ) (.inl (some (.int (nI (if 1 ≤ h ∧ h - 1 + 1 ≤ 5 then (if (isO t0) = true then 0 else 2) else 1))))) (σ)
        refine jr_goto 110 d_Mo_faultAt_148 (by decide) ?_
        show jl_W l G m_Mo_faultAt (0, 0) 110 [some (.ref 22), some (.int (nI m)), some (.int (nI pc)), some (.int (nI 15)), some (.int (nI 1)), some (.int (nI 1))] [] (σ) (.inl (some (.int (nI (if 1 ≤ h ∧ h - 1 + 1 ≤ 5 then (if (isO t0) = true then 0 else 2) else 1))))) (σ)
        refine jr_iload d_Mo_faultAt_110 rfl ?_
        refine jr_iload d_Mo_faultAt_112 rfl ?_
        refine jr_icmp_ge 151 d_Mo_faultAt_114 (by decide) (fun _ => ?_) (fun z => absurd (by decide) z)
        refine jr_iconst ((nI (0))) d_Mo_faultAt_151 (by decide) ?_
        exact jr_iretE d_Mo_faultAt_152 rfl (by rw [if_pos (by omega), if_pos (by simp [bi_nf c3])]) (rfl) (by decide) (by decide)
      · refine jr_iconst ((nI (2))) d_Mo_faultAt_143 (by decide) ?_
        exact jr_iretE d_Mo_faultAt_144 rfl (by rw [if_pos (by omega), if_neg (by simp [bi_0.mp c3])]) (rfl) (by decide) (by decide)
    · refine jr_iconst ((nI (1))) d_Mo_faultAt_78 (by decide) ?_
      exact jr_iretE d_Mo_faultAt_79 rfl (by rw [if_neg (by omega)]) (rfl) (by decide) (by decide)
theorem mo_fa_16 (hl : l.stackTraces = false) {m pc h : Nat} {x : Int32} {t0 : Nat} (hO : MoO σ fa vf wh wy (nI (h)) dp md ov oh dn an) (hw : MoW σ tb pr ow ft hs) (hu : MoM σ u1 u2 ur ul uo ua uc us ut uk) (hr : MoR σ lo sk) (hok : WoOk tb pr ow fi) (hK : MoK u1 u2 ur ul uo uc us ut uk) (hm : m < 24) (hpc : pc < 24) (ho : uo (24 * m + pc) = 16) (hx : ua (24 * m + pc) = x) (hh5 : h ≤ 5) (e_0 : 1 ≤ h → sk (h - 1 - 0) = some t0) (ht0 : t0 < 16) (hv0 : t0 ≤ 2 ∨ 10 ≤ t0) : jl_W l G m_Mo_faultAt (0, 0) 22 [some (.ref 22), some (.int (nI m)), some (.int (nI pc)), none, none, none] [] σ (.inl (some (.int (nI (if 1 ≤ h ∧ h - 1 + 0 ≤ 5 then (if (!isI (some t0)) = true then 0 else 2) else 1))))) (σ) := by
  obtain ⟨h23, h24, h25, h26, h27⟩ := id hw
  obtain ⟨h28, h29, h30, h31, h32, h33, h34, h35, h36, h37⟩ := id hu
  obtain ⟨r1, r2⟩ := id hr
  obtain ⟨hk1, hk2, hk3, hk4, hk5, hk6⟩ := hK.1 m hm
  refine jr_aload_n d_Mo_faultAt_22 rfl ?_
  refine jr_getf d_Mo_faultAt_23 f_Mo_faultAt_38 hO rfl ?_
  refine jr_bipush ((nI (24))) d_Mo_faultAt_26 (by decide) ?_
  refine jr_iload_n d_Mo_faultAt_28 rfl ?_
  refine jr_imulN d_Mo_faultAt_29 ?_
  refine jr_iload_n d_Mo_faultAt_30 rfl ?_
  refine jr_iaddN d_Mo_faultAt_31 ?_
  refine jr_ialdQ (v := (nI (16))) d_Mo_faultAt_32 h32 (by omega) (by omega) (congrArg nI ho) ?_
  refine jr_istore_n d_Mo_faultAt_33 (by decide) ?_
  show jl_W l G m_Mo_faultAt (0, 0) 34 [some (.ref 22), some (.int (nI m)), some (.int (nI pc)), some (.int (nI 16)), none, none] [] (σ) (.inl (some (.int (nI (if 1 ≤ h ∧ h - 1 + 0 ≤ 5 then (if (!isI (some t0)) = true then 0 else 2) else 1))))) (σ)
  refine jr_aload_n d_Mo_faultAt_34 rfl ?_
  refine jr_iload_n d_Mo_faultAt_35 rfl ?_
  refine jr_aload_n d_Mo_faultAt_36 rfl ?_
  refine jr_getf d_Mo_faultAt_37 f_Mo_faultAt_41 hO rfl ?_
  refine jr_bipush ((nI (24))) d_Mo_faultAt_40 (by decide) ?_
  refine jr_iload_n d_Mo_faultAt_42 rfl ?_
  refine jr_imulN d_Mo_faultAt_43 ?_
  refine jr_iload_n d_Mo_faultAt_44 rfl ?_
  refine jr_iaddN d_Mo_faultAt_45 ?_
  refine jr_ialdQ (v := (x)) d_Mo_faultAt_46 h33 (by omega) (by omega) (hx) ?_
  refine jr_callV (As := [.int (nI 16), .int (x)]) d_Mo_faultAt_47 k_Mo_faultAt_176 hO rfl rfl rfl (Nat.le_of_ble_eq_true rfl) (by decide) (by decide) (mo_tk_16 hl hO hw hu) ?_
  show jl_W l G m_Mo_faultAt (0, 0) 50 [some (.ref 22), some (.int (nI m)), some (.int (nI pc)), some (.int (nI 16)), none, none] [.int (nI 1)] (σ) (.inl (some (.int (nI (if 1 ≤ h ∧ h - 1 + 0 ≤ 5 then (if (!isI (some t0)) = true then 0 else 2) else 1))))) (σ)
  refine jr_istore d_Mo_faultAt_50 (by decide) ?_
  show jl_W l G m_Mo_faultAt (0, 0) 52 [some (.ref 22), some (.int (nI m)), some (.int (nI pc)), some (.int (nI 16)), some (.int (nI 1)), none] [] (σ) (.inl (some (.int (nI (if 1 ≤ h ∧ h - 1 + 0 ≤ 5 then (if (!isI (some t0)) = true then 0 else 2) else 1))))) (σ)
  refine jr_aload_n d_Mo_faultAt_52 rfl ?_
  refine jr_getf d_Mo_faultAt_53 f_Mo_faultAt_179 hO rfl ?_
  refine jr_iload d_Mo_faultAt_56 rfl ?_
  refine jr_icmp_ltN 78 d_Mo_faultAt_58 (by decide) (by omega) (by omega) (fun c1 => ?_) (fun c1 => ?_)
  · refine jr_iconst ((nI (1))) d_Mo_faultAt_78 (by decide) ?_
    exact jr_iretE d_Mo_faultAt_79 rfl (by rw [if_neg (by omega)]) (rfl) (by decide) (by decide)
  · refine jr_aload_n d_Mo_faultAt_61 rfl ?_
    refine jr_getf d_Mo_faultAt_62 f_Mo_faultAt_179 hO rfl ?_
    refine jr_iload d_Mo_faultAt_65 rfl ?_
    refine jr_isubN d_Mo_faultAt_67 (by omega) ?_
    refine jr_aload_n d_Mo_faultAt_68 rfl ?_
    refine jr_iload_n d_Mo_faultAt_69 rfl ?_
    refine jr_callV (As := [.int (nI 16)]) d_Mo_faultAt_70 k_Mo_faultAt_182 hO rfl rfl rfl (Nat.le_of_ble_eq_true rfl) (by decide) (by decide) (mo_puts hl hO hw (by omega)) ?_
    show jl_W l G m_Mo_faultAt (0, 0) 73 [some (.ref 22), some (.int (nI m)), some (.int (nI pc)), some (.int (nI 16)), some (.int (nI 1)), none] [.int (nI 0), .int (nI ((h) - (1)))] (σ) (.inl (some (.int (nI (if 1 ≤ h ∧ h - 1 + 0 ≤ 5 then (if (!isI (some t0)) = true then 0 else 2) else 1))))) (σ)
    refine jr_iaddN d_Mo_faultAt_73 ?_
    refine jr_iconst ((nI (5))) d_Mo_faultAt_74 (by decide) ?_
    refine jr_icmp_leN 80 d_Mo_faultAt_75 (by decide) (by omega) (by omega) (fun c2 => ?_) (fun c2 => ?_)
    · refine jr_iload_n d_Mo_faultAt_80 rfl ?_
      refine jr_iconst ((nI (1))) d_Mo_faultAt_81 (by decide) ?_
      refine jr_icmp_ne 107 d_Mo_faultAt_82 (by decide) (fun _ => ?_) (fun z => absurd z (by decide))
      refine jr_iconst ((nI (0))) d_Mo_faultAt_107 (by decide) ?_
      refine jr_istore d_Mo_faultAt_108 (by decide) ?_
      show jl_W l G m_Mo_faultAt (0, 0) 110 [some (.ref 22), some (.int (nI m)), some (.int (nI pc)), some (.int (nI 16)), some (.int (nI 1)), some (.int (nI 0))] [] (σ) (.inl (some (.int (nI (if 1 ≤ h ∧ h - 1 + 0 ≤ 5 then (if (!isI (some t0)) = true then 0 else 2) else 1))))) (σ)
      refine jr_iload d_Mo_faultAt_110 rfl ?_
      refine jr_iload d_Mo_faultAt_112 rfl ?_
      refine jr_icmp_ge 151 d_Mo_faultAt_114 (by decide) (fun z => absurd z (by decide)) (fun _ => ?_)
      refine jr_aload_n d_Mo_faultAt_117 rfl ?_
      refine jr_iload_n d_Mo_faultAt_118 rfl ?_
      refine jr_iload_n d_Mo_faultAt_119 rfl ?_
      refine jr_iload d_Mo_faultAt_120 rfl ?_
      refine jr_aload_n d_Mo_faultAt_122 rfl ?_
      refine jr_getf d_Mo_faultAt_123 f_Mo_faultAt_72 hO rfl ?_
      refine jr_aload_n d_Mo_faultAt_126 rfl ?_
      refine jr_getf d_Mo_faultAt_127 f_Mo_faultAt_179 hO rfl ?_
      refine jr_iload d_Mo_faultAt_130 rfl ?_
      refine jr_isubN d_Mo_faultAt_132 (by omega) ?_
      refine jr_iload d_Mo_faultAt_133 rfl ?_
      refine jr_iaddN d_Mo_faultAt_135 ?_
      refine jr_ialdQ (v := (nI (t0))) d_Mo_faultAt_136 r2 (by omega) (by omega) ((congrArg (fun j => en (sk j)) (show ((h) - (1)) + (0) = h - 1 - 0 by omega)).trans (congrArg en (e_0 (by omega)))) ?_
      refine jr_callV (As := [.int (nI m), .int (nI pc), .int (nI 0), .int (nI t0)]) d_Mo_faultAt_137 k_Mo_faultAt_185 hO rfl rfl rfl (Nat.le_of_ble_eq_true rfl) (by decide) (by decide) (mo_fit_16_0 hl hO hw hu hok hK hm hpc ho hx ht0 hv0) ?_
      show jl_W l G m_Mo_faultAt (0, 0) 140 [some (.ref 22), some (.int (nI m)), some (.int (nI pc)), some (.int (nI 16)), some (.int (nI 1)), some (.int (nI 0))] [.int (bi (!isI (some t0)))] (σ) (.inl (some (.int (nI (if 1 ≤ h ∧ h - 1 + 0 ≤ 5 then (if (!isI (some t0)) = true then 0 else 2) else 1))))) (σ)
      refine jr_if_ne 145 d_Mo_faultAt_140 (by decide) (fun c3 => ?_) (fun c3 => ?_)
      · refine jr_iinc ((nI (0 + 1))) d_Mo_faultAt_145 (by decide) rfl (jl_inc _) ?_
        show jl_W l G m_Mo_faultAt (0, 0) 148 [some (.ref 22), some (.int (nI m)), some (.int (nI pc)), some (.int (nI 16)), some (.int (nI 1)), some (.int (nI (0 + 1)))] [] (σ) (.inl (some (.int (nI (if 1 ≤ h ∧ h - 1 + 0 ≤ 5 then (if (!isI (some t0)) = true then 0 else 2) else 1))))) (σ)
        refine jr_goto 110 d_Mo_faultAt_148 (by decide) ?_
        show jl_W l G m_Mo_faultAt (0, 0) 110 [some (.ref 22), some (.int (nI m)), some (.int (nI pc)), some (.int (nI 16)), some (.int (nI 1)), some (.int (nI 1))] [] (σ) (.inl (some (.int (nI (if 1 ≤ h ∧ h - 1 + 0 ≤ 5 then (if (!isI (some t0)) = true then 0 else 2) else 1))))) (σ)
        refine jr_iload d_Mo_faultAt_110 rfl ?_
        refine jr_iload d_Mo_faultAt_112 rfl ?_
        refine jr_icmp_ge 151 d_Mo_faultAt_114 (by decide) (fun _ => ?_) (fun z => absurd (by decide) z)
        refine jr_iconst ((nI (0))) d_Mo_faultAt_151 (by decide) ?_
        exact jr_iretE d_Mo_faultAt_152 rfl (by rw [if_pos (by omega), if_pos (by simp [bi_nf c3])]) (rfl) (by decide) (by decide)
      · refine jr_iconst ((nI (2))) d_Mo_faultAt_143 (by decide) ?_
        exact jr_iretE d_Mo_faultAt_144 rfl (by rw [if_pos (by omega), if_neg (by simp [bi_0.mp c3])]) (rfl) (by decide) (by decide)
    · refine jr_iconst ((nI (1))) d_Mo_faultAt_78 (by decide) ?_
      exact jr_iretE d_Mo_faultAt_79 rfl (by rw [if_neg (by omega)]) (rfl) (by decide) (by decide)
theorem mo_fa_17 (hl : l.stackTraces = false) {m pc h : Nat} {x : Int32} {t0 : Option Nat} (hO : MoO σ fa vf wh wy (nI (h)) dp md ov oh dn an) (hw : MoW σ tb pr ow ft hs) (hu : MoM σ u1 u2 ur ul uo ua uc us ut uk) (hr : MoR σ lo sk) (hok : WoOk tb pr ow fi) (hK : MoK u1 u2 ur ul uo uc us ut uk) (hm : m < 24) (hpc : pc < 24) (ho : uo (24 * m + pc) = 17) (hx : ua (24 * m + pc) = x) (hh5 : h ≤ 5) (e_0 : 0 < h → sk (h - 1 - 0) = t0) (ht0 : ob 16 t0) : jl_W l G m_Mo_faultAt (0, 0) 22 [some (.ref 22), some (.int (nI m)), some (.int (nI pc)), none, none, none] [] σ (.inl (some (.int (nI (if 1 ≤ h ∧ h - 1 + 0 ≤ 5 then (if (isO t0) = true then 0 else 2) else 1))))) (σ) := by
  obtain ⟨h23, h24, h25, h26, h27⟩ := id hw
  obtain ⟨h28, h29, h30, h31, h32, h33, h34, h35, h36, h37⟩ := id hu
  obtain ⟨r1, r2⟩ := id hr
  obtain ⟨hk1, hk2, hk3, hk4, hk5, hk6⟩ := hK.1 m hm
  refine jr_aload_n d_Mo_faultAt_22 rfl ?_
  refine jr_getf d_Mo_faultAt_23 f_Mo_faultAt_38 hO rfl ?_
  refine jr_bipush ((nI (24))) d_Mo_faultAt_26 (by decide) ?_
  refine jr_iload_n d_Mo_faultAt_28 rfl ?_
  refine jr_imulN d_Mo_faultAt_29 ?_
  refine jr_iload_n d_Mo_faultAt_30 rfl ?_
  refine jr_iaddN d_Mo_faultAt_31 ?_
  refine jr_ialdQ (v := (nI (17))) d_Mo_faultAt_32 h32 (by omega) (by omega) (congrArg nI ho) ?_
  refine jr_istore_n d_Mo_faultAt_33 (by decide) ?_
  show jl_W l G m_Mo_faultAt (0, 0) 34 [some (.ref 22), some (.int (nI m)), some (.int (nI pc)), some (.int (nI 17)), none, none] [] (σ) (.inl (some (.int (nI (if 1 ≤ h ∧ h - 1 + 0 ≤ 5 then (if (isO t0) = true then 0 else 2) else 1))))) (σ)
  refine jr_aload_n d_Mo_faultAt_34 rfl ?_
  refine jr_iload_n d_Mo_faultAt_35 rfl ?_
  refine jr_aload_n d_Mo_faultAt_36 rfl ?_
  refine jr_getf d_Mo_faultAt_37 f_Mo_faultAt_41 hO rfl ?_
  refine jr_bipush ((nI (24))) d_Mo_faultAt_40 (by decide) ?_
  refine jr_iload_n d_Mo_faultAt_42 rfl ?_
  refine jr_imulN d_Mo_faultAt_43 ?_
  refine jr_iload_n d_Mo_faultAt_44 rfl ?_
  refine jr_iaddN d_Mo_faultAt_45 ?_
  refine jr_ialdQ (v := (x)) d_Mo_faultAt_46 h33 (by omega) (by omega) (hx) ?_
  refine jr_callV (As := [.int (nI 17), .int (x)]) d_Mo_faultAt_47 k_Mo_faultAt_176 hO rfl rfl rfl (Nat.le_of_ble_eq_true rfl) (by decide) (by decide) (mo_tk_17 hl hO hw hu) ?_
  show jl_W l G m_Mo_faultAt (0, 0) 50 [some (.ref 22), some (.int (nI m)), some (.int (nI pc)), some (.int (nI 17)), none, none] [.int (nI 1)] (σ) (.inl (some (.int (nI (if 1 ≤ h ∧ h - 1 + 0 ≤ 5 then (if (isO t0) = true then 0 else 2) else 1))))) (σ)
  refine jr_istore d_Mo_faultAt_50 (by decide) ?_
  show jl_W l G m_Mo_faultAt (0, 0) 52 [some (.ref 22), some (.int (nI m)), some (.int (nI pc)), some (.int (nI 17)), some (.int (nI 1)), none] [] (σ) (.inl (some (.int (nI (if 1 ≤ h ∧ h - 1 + 0 ≤ 5 then (if (isO t0) = true then 0 else 2) else 1))))) (σ)
  refine jr_aload_n d_Mo_faultAt_52 rfl ?_
  refine jr_getf d_Mo_faultAt_53 f_Mo_faultAt_179 hO rfl ?_
  refine jr_iload d_Mo_faultAt_56 rfl ?_
  refine jr_icmp_ltN 78 d_Mo_faultAt_58 (by decide) (by omega) (by omega) (fun c1 => ?_) (fun c1 => ?_)
  · refine jr_iconst ((nI (1))) d_Mo_faultAt_78 (by decide) ?_
    exact jr_iretE d_Mo_faultAt_79 rfl (by rw [if_neg (by omega)]) (rfl) (by decide) (by decide)
  · refine jr_aload_n d_Mo_faultAt_61 rfl ?_
    refine jr_getf d_Mo_faultAt_62 f_Mo_faultAt_179 hO rfl ?_
    refine jr_iload d_Mo_faultAt_65 rfl ?_
    refine jr_isubN d_Mo_faultAt_67 (by omega) ?_
    refine jr_aload_n d_Mo_faultAt_68 rfl ?_
    refine jr_iload_n d_Mo_faultAt_69 rfl ?_
    refine jr_callV (As := [.int (nI 17)]) d_Mo_faultAt_70 k_Mo_faultAt_182 hO rfl rfl rfl (Nat.le_of_ble_eq_true rfl) (by decide) (by decide) (mo_puts hl hO hw (by omega)) ?_
    show jl_W l G m_Mo_faultAt (0, 0) 73 [some (.ref 22), some (.int (nI m)), some (.int (nI pc)), some (.int (nI 17)), some (.int (nI 1)), none] [.int (nI 0), .int (nI ((h) - (1)))] (σ) (.inl (some (.int (nI (if 1 ≤ h ∧ h - 1 + 0 ≤ 5 then (if (isO t0) = true then 0 else 2) else 1))))) (σ)
    refine jr_iaddN d_Mo_faultAt_73 ?_
    refine jr_iconst ((nI (5))) d_Mo_faultAt_74 (by decide) ?_
    refine jr_icmp_leN 80 d_Mo_faultAt_75 (by decide) (by omega) (by omega) (fun c2 => ?_) (fun c2 => ?_)
    · refine jr_iload_n d_Mo_faultAt_80 rfl ?_
      refine jr_iconst ((nI (1))) d_Mo_faultAt_81 (by decide) ?_
      refine jr_icmp_ne 107 d_Mo_faultAt_82 (by decide) (fun _ => ?_) (fun z => absurd z (by decide))
      refine jr_iconst ((nI (0))) d_Mo_faultAt_107 (by decide) ?_
      refine jr_istore d_Mo_faultAt_108 (by decide) ?_
      show jl_W l G m_Mo_faultAt (0, 0) 110 [some (.ref 22), some (.int (nI m)), some (.int (nI pc)), some (.int (nI 17)), some (.int (nI 1)), some (.int (nI 0))] [] (σ) (.inl (some (.int (nI (if 1 ≤ h ∧ h - 1 + 0 ≤ 5 then (if (isO t0) = true then 0 else 2) else 1))))) (σ)
      refine jr_iload d_Mo_faultAt_110 rfl ?_
      refine jr_iload d_Mo_faultAt_112 rfl ?_
      refine jr_icmp_ge 151 d_Mo_faultAt_114 (by decide) (fun z => absurd z (by decide)) (fun _ => ?_)
      refine jr_aload_n d_Mo_faultAt_117 rfl ?_
      refine jr_iload_n d_Mo_faultAt_118 rfl ?_
      refine jr_iload_n d_Mo_faultAt_119 rfl ?_
      refine jr_iload d_Mo_faultAt_120 rfl ?_
      refine jr_aload_n d_Mo_faultAt_122 rfl ?_
      refine jr_getf d_Mo_faultAt_123 f_Mo_faultAt_72 hO rfl ?_
      refine jr_aload_n d_Mo_faultAt_126 rfl ?_
      refine jr_getf d_Mo_faultAt_127 f_Mo_faultAt_179 hO rfl ?_
      refine jr_iload d_Mo_faultAt_130 rfl ?_
      refine jr_isubN d_Mo_faultAt_132 (by omega) ?_
      refine jr_iload d_Mo_faultAt_133 rfl ?_
      refine jr_iaddN d_Mo_faultAt_135 ?_
      refine jr_ialdQ (v := (en t0)) d_Mo_faultAt_136 r2 (by omega) (by omega) ((congrArg (fun j => en (sk j)) (show ((h) - (1)) + (0) = h - 1 - 0 by omega)).trans (congrArg en (e_0 (by omega)))) ?_
      refine jr_callV (As := [.int (nI m), .int (nI pc), .int (nI 0), .int (en t0)]) d_Mo_faultAt_137 k_Mo_faultAt_185 hO rfl rfl rfl (Nat.le_of_ble_eq_true rfl) (by decide) (by decide) (mo_fit_17_0 hl hO hw hu hok hK hm hpc ho hx ht0) ?_
      show jl_W l G m_Mo_faultAt (0, 0) 140 [some (.ref 22), some (.int (nI m)), some (.int (nI pc)), some (.int (nI 17)), some (.int (nI 1)), some (.int (nI 0))] [.int (bi (isO t0))] (σ) (.inl (some (.int (nI (if 1 ≤ h ∧ h - 1 + 0 ≤ 5 then (if (isO t0) = true then 0 else 2) else 1))))) (σ)
      refine jr_if_ne 145 d_Mo_faultAt_140 (by decide) (fun c3 => ?_) (fun c3 => ?_)
      · refine jr_iinc ((nI (0 + 1))) d_Mo_faultAt_145 (by decide) rfl (jl_inc _) ?_
        show jl_W l G m_Mo_faultAt (0, 0) 148 [some (.ref 22), some (.int (nI m)), some (.int (nI pc)), some (.int (nI 17)), some (.int (nI 1)), some (.int (nI (0 + 1)))] [] (σ) (.inl (some (.int (nI (if 1 ≤ h ∧ h - 1 + 0 ≤ 5 then (if (isO t0) = true then 0 else 2) else 1))))) (σ)
        refine jr_goto 110 d_Mo_faultAt_148 (by decide) ?_
        show jl_W l G m_Mo_faultAt (0, 0) 110 [some (.ref 22), some (.int (nI m)), some (.int (nI pc)), some (.int (nI 17)), some (.int (nI 1)), some (.int (nI 1))] [] (σ) (.inl (some (.int (nI (if 1 ≤ h ∧ h - 1 + 0 ≤ 5 then (if (isO t0) = true then 0 else 2) else 1))))) (σ)
        refine jr_iload d_Mo_faultAt_110 rfl ?_
        refine jr_iload d_Mo_faultAt_112 rfl ?_
        refine jr_icmp_ge 151 d_Mo_faultAt_114 (by decide) (fun _ => ?_) (fun z => absurd (by decide) z)
        refine jr_iconst ((nI (0))) d_Mo_faultAt_151 (by decide) ?_
        exact jr_iretE d_Mo_faultAt_152 rfl (by rw [if_pos (by omega), if_pos (by simp [bi_nf c3])]) (rfl) (by decide) (by decide)
      · refine jr_iconst ((nI (2))) d_Mo_faultAt_143 (by decide) ?_
        exact jr_iretE d_Mo_faultAt_144 rfl (by rw [if_pos (by omega), if_neg (by simp [bi_0.mp c3])]) (rfl) (by decide) (by decide)
    · refine jr_iconst ((nI (1))) d_Mo_faultAt_78 (by decide) ?_
      exact jr_iretE d_Mo_faultAt_79 rfl (by rw [if_neg (by omega)]) (rfl) (by decide) (by decide)
theorem mo_fa_18 (hl : l.stackTraces = false) {m pc h : Nat} {x : Int32} {t0 : Option Nat} (hO : MoO σ fa vf wh wy (nI (h)) dp md ov oh dn an) (hw : MoW σ tb pr ow ft hs) (hu : MoM σ u1 u2 ur ul uo ua uc us ut uk) (hr : MoR σ lo sk) (hok : WoOk tb pr ow fi) (hK : MoK u1 u2 ur ul uo uc us ut uk) (hm : m < 24) (hpc : pc < 24) (ho : uo (24 * m + pc) = 18) (hx : ua (24 * m + pc) = x) (hh5 : h ≤ 5) (e_0 : 0 < h → sk (h - 1 - 0) = t0) (ht0 : ob 16 t0) : jl_W l G m_Mo_faultAt (0, 0) 22 [some (.ref 22), some (.int (nI m)), some (.int (nI pc)), none, none, none] [] σ (.inl (some (.int (nI (if 1 ≤ h ∧ h - 1 + 0 ≤ 5 then (if (part pr t0 (some (ur m))) = true then 0 else 2) else 1))))) (σ) := by
  obtain ⟨h23, h24, h25, h26, h27⟩ := id hw
  obtain ⟨h28, h29, h30, h31, h32, h33, h34, h35, h36, h37⟩ := id hu
  obtain ⟨r1, r2⟩ := id hr
  obtain ⟨hk1, hk2, hk3, hk4, hk5, hk6⟩ := hK.1 m hm
  refine jr_aload_n d_Mo_faultAt_22 rfl ?_
  refine jr_getf d_Mo_faultAt_23 f_Mo_faultAt_38 hO rfl ?_
  refine jr_bipush ((nI (24))) d_Mo_faultAt_26 (by decide) ?_
  refine jr_iload_n d_Mo_faultAt_28 rfl ?_
  refine jr_imulN d_Mo_faultAt_29 ?_
  refine jr_iload_n d_Mo_faultAt_30 rfl ?_
  refine jr_iaddN d_Mo_faultAt_31 ?_
  refine jr_ialdQ (v := (nI (18))) d_Mo_faultAt_32 h32 (by omega) (by omega) (congrArg nI ho) ?_
  refine jr_istore_n d_Mo_faultAt_33 (by decide) ?_
  show jl_W l G m_Mo_faultAt (0, 0) 34 [some (.ref 22), some (.int (nI m)), some (.int (nI pc)), some (.int (nI 18)), none, none] [] (σ) (.inl (some (.int (nI (if 1 ≤ h ∧ h - 1 + 0 ≤ 5 then (if (part pr t0 (some (ur m))) = true then 0 else 2) else 1))))) (σ)
  refine jr_aload_n d_Mo_faultAt_34 rfl ?_
  refine jr_iload_n d_Mo_faultAt_35 rfl ?_
  refine jr_aload_n d_Mo_faultAt_36 rfl ?_
  refine jr_getf d_Mo_faultAt_37 f_Mo_faultAt_41 hO rfl ?_
  refine jr_bipush ((nI (24))) d_Mo_faultAt_40 (by decide) ?_
  refine jr_iload_n d_Mo_faultAt_42 rfl ?_
  refine jr_imulN d_Mo_faultAt_43 ?_
  refine jr_iload_n d_Mo_faultAt_44 rfl ?_
  refine jr_iaddN d_Mo_faultAt_45 ?_
  refine jr_ialdQ (v := (x)) d_Mo_faultAt_46 h33 (by omega) (by omega) (hx) ?_
  refine jr_callV (As := [.int (nI 18), .int (x)]) d_Mo_faultAt_47 k_Mo_faultAt_176 hO rfl rfl rfl (Nat.le_of_ble_eq_true rfl) (by decide) (by decide) (mo_tk_18 hl hO hw hu) ?_
  show jl_W l G m_Mo_faultAt (0, 0) 50 [some (.ref 22), some (.int (nI m)), some (.int (nI pc)), some (.int (nI 18)), none, none] [.int (nI 1)] (σ) (.inl (some (.int (nI (if 1 ≤ h ∧ h - 1 + 0 ≤ 5 then (if (part pr t0 (some (ur m))) = true then 0 else 2) else 1))))) (σ)
  refine jr_istore d_Mo_faultAt_50 (by decide) ?_
  show jl_W l G m_Mo_faultAt (0, 0) 52 [some (.ref 22), some (.int (nI m)), some (.int (nI pc)), some (.int (nI 18)), some (.int (nI 1)), none] [] (σ) (.inl (some (.int (nI (if 1 ≤ h ∧ h - 1 + 0 ≤ 5 then (if (part pr t0 (some (ur m))) = true then 0 else 2) else 1))))) (σ)
  refine jr_aload_n d_Mo_faultAt_52 rfl ?_
  refine jr_getf d_Mo_faultAt_53 f_Mo_faultAt_179 hO rfl ?_
  refine jr_iload d_Mo_faultAt_56 rfl ?_
  refine jr_icmp_ltN 78 d_Mo_faultAt_58 (by decide) (by omega) (by omega) (fun c1 => ?_) (fun c1 => ?_)
  · refine jr_iconst ((nI (1))) d_Mo_faultAt_78 (by decide) ?_
    exact jr_iretE d_Mo_faultAt_79 rfl (by rw [if_neg (by omega)]) (rfl) (by decide) (by decide)
  · refine jr_aload_n d_Mo_faultAt_61 rfl ?_
    refine jr_getf d_Mo_faultAt_62 f_Mo_faultAt_179 hO rfl ?_
    refine jr_iload d_Mo_faultAt_65 rfl ?_
    refine jr_isubN d_Mo_faultAt_67 (by omega) ?_
    refine jr_aload_n d_Mo_faultAt_68 rfl ?_
    refine jr_iload_n d_Mo_faultAt_69 rfl ?_
    refine jr_callV (As := [.int (nI 18)]) d_Mo_faultAt_70 k_Mo_faultAt_182 hO rfl rfl rfl (Nat.le_of_ble_eq_true rfl) (by decide) (by decide) (mo_puts hl hO hw (by omega)) ?_
    show jl_W l G m_Mo_faultAt (0, 0) 73 [some (.ref 22), some (.int (nI m)), some (.int (nI pc)), some (.int (nI 18)), some (.int (nI 1)), none] [.int (nI 0), .int (nI ((h) - (1)))] (σ) (.inl (some (.int (nI (if 1 ≤ h ∧ h - 1 + 0 ≤ 5 then (if (part pr t0 (some (ur m))) = true then 0 else 2) else 1))))) (σ)
    refine jr_iaddN d_Mo_faultAt_73 ?_
    refine jr_iconst ((nI (5))) d_Mo_faultAt_74 (by decide) ?_
    refine jr_icmp_leN 80 d_Mo_faultAt_75 (by decide) (by omega) (by omega) (fun c2 => ?_) (fun c2 => ?_)
    · refine jr_iload_n d_Mo_faultAt_80 rfl ?_
      refine jr_iconst ((nI (1))) d_Mo_faultAt_81 (by decide) ?_
      refine jr_icmp_ne 107 d_Mo_faultAt_82 (by decide) (fun _ => ?_) (fun z => absurd z (by decide))
      refine jr_iconst ((nI (0))) d_Mo_faultAt_107 (by decide) ?_
      refine jr_istore d_Mo_faultAt_108 (by decide) ?_
      show jl_W l G m_Mo_faultAt (0, 0) 110 [some (.ref 22), some (.int (nI m)), some (.int (nI pc)), some (.int (nI 18)), some (.int (nI 1)), some (.int (nI 0))] [] (σ) (.inl (some (.int (nI (if 1 ≤ h ∧ h - 1 + 0 ≤ 5 then (if (part pr t0 (some (ur m))) = true then 0 else 2) else 1))))) (σ)
      refine jr_iload d_Mo_faultAt_110 rfl ?_
      refine jr_iload d_Mo_faultAt_112 rfl ?_
      refine jr_icmp_ge 151 d_Mo_faultAt_114 (by decide) (fun z => absurd z (by decide)) (fun _ => ?_)
      refine jr_aload_n d_Mo_faultAt_117 rfl ?_
      refine jr_iload_n d_Mo_faultAt_118 rfl ?_
      refine jr_iload_n d_Mo_faultAt_119 rfl ?_
      refine jr_iload d_Mo_faultAt_120 rfl ?_
      refine jr_aload_n d_Mo_faultAt_122 rfl ?_
      refine jr_getf d_Mo_faultAt_123 f_Mo_faultAt_72 hO rfl ?_
      refine jr_aload_n d_Mo_faultAt_126 rfl ?_
      refine jr_getf d_Mo_faultAt_127 f_Mo_faultAt_179 hO rfl ?_
      refine jr_iload d_Mo_faultAt_130 rfl ?_
      refine jr_isubN d_Mo_faultAt_132 (by omega) ?_
      refine jr_iload d_Mo_faultAt_133 rfl ?_
      refine jr_iaddN d_Mo_faultAt_135 ?_
      refine jr_ialdQ (v := (en t0)) d_Mo_faultAt_136 r2 (by omega) (by omega) ((congrArg (fun j => en (sk j)) (show ((h) - (1)) + (0) = h - 1 - 0 by omega)).trans (congrArg en (e_0 (by omega)))) ?_
      refine jr_callV (As := [.int (nI m), .int (nI pc), .int (nI 0), .int (en t0)]) d_Mo_faultAt_137 k_Mo_faultAt_185 hO rfl rfl rfl (Nat.le_of_ble_eq_true rfl) (by decide) (by decide) (mo_fit_18_0 hl hO hw hu hok hK hm hpc ho hx ht0) ?_
      show jl_W l G m_Mo_faultAt (0, 0) 140 [some (.ref 22), some (.int (nI m)), some (.int (nI pc)), some (.int (nI 18)), some (.int (nI 1)), some (.int (nI 0))] [.int (bi (part pr t0 (some (ur m))))] (σ) (.inl (some (.int (nI (if 1 ≤ h ∧ h - 1 + 0 ≤ 5 then (if (part pr t0 (some (ur m))) = true then 0 else 2) else 1))))) (σ)
      refine jr_if_ne 145 d_Mo_faultAt_140 (by decide) (fun c3 => ?_) (fun c3 => ?_)
      · refine jr_iinc ((nI (0 + 1))) d_Mo_faultAt_145 (by decide) rfl (jl_inc _) ?_
        show jl_W l G m_Mo_faultAt (0, 0) 148 [some (.ref 22), some (.int (nI m)), some (.int (nI pc)), some (.int (nI 18)), some (.int (nI 1)), some (.int (nI (0 + 1)))] [] (σ) (.inl (some (.int (nI (if 1 ≤ h ∧ h - 1 + 0 ≤ 5 then (if (part pr t0 (some (ur m))) = true then 0 else 2) else 1))))) (σ)
        refine jr_goto 110 d_Mo_faultAt_148 (by decide) ?_
        show jl_W l G m_Mo_faultAt (0, 0) 110 [some (.ref 22), some (.int (nI m)), some (.int (nI pc)), some (.int (nI 18)), some (.int (nI 1)), some (.int (nI 1))] [] (σ) (.inl (some (.int (nI (if 1 ≤ h ∧ h - 1 + 0 ≤ 5 then (if (part pr t0 (some (ur m))) = true then 0 else 2) else 1))))) (σ)
        refine jr_iload d_Mo_faultAt_110 rfl ?_
        refine jr_iload d_Mo_faultAt_112 rfl ?_
        refine jr_icmp_ge 151 d_Mo_faultAt_114 (by decide) (fun _ => ?_) (fun z => absurd (by decide) z)
        refine jr_iconst ((nI (0))) d_Mo_faultAt_151 (by decide) ?_
        exact jr_iretE d_Mo_faultAt_152 rfl (by rw [if_pos (by omega), if_pos (by simp [bi_nf c3])]) (rfl) (by decide) (by decide)
      · refine jr_iconst ((nI (2))) d_Mo_faultAt_143 (by decide) ?_
        exact jr_iretE d_Mo_faultAt_144 rfl (by rw [if_pos (by omega), if_neg (by simp [bi_0.mp c3])]) (rfl) (by decide) (by decide)
    · refine jr_iconst ((nI (1))) d_Mo_faultAt_78 (by decide) ?_
      exact jr_iretE d_Mo_faultAt_79 rfl (by rw [if_neg (by omega)]) (rfl) (by decide) (by decide)
theorem mo_fa_19 (hl : l.stackTraces = false) {m pc h : Nat} {x : Int32} {t0 : Option Nat} (hO : MoO σ fa vf wh wy (nI (h)) dp md ov oh dn an) (hw : MoW σ tb pr ow ft hs) (hu : MoM σ u1 u2 ur ul uo ua uc us ut uk) (hr : MoR σ lo sk) (hok : WoOk tb pr ow fi) (hK : MoK u1 u2 ur ul uo uc us ut uk) (hm : m < 24) (hpc : pc < 24) (ho : uo (24 * m + pc) = 19) (hx : ua (24 * m + pc) = x) (hh5 : h ≤ 5) (e_0 : 0 < h → sk (h - 1 - 0) = t0) (ht0 : ob 16 t0) : jl_W l G m_Mo_faultAt (0, 0) 22 [some (.ref 22), some (.int (nI m)), some (.int (nI pc)), none, none, none] [] σ (.inl (some (.int (nI (if 1 ≤ h ∧ h - 1 + 1 ≤ 5 then (if (isI t0) = true then 0 else 2) else 1))))) (σ) := by
  obtain ⟨h23, h24, h25, h26, h27⟩ := id hw
  obtain ⟨h28, h29, h30, h31, h32, h33, h34, h35, h36, h37⟩ := id hu
  obtain ⟨r1, r2⟩ := id hr
  obtain ⟨hk1, hk2, hk3, hk4, hk5, hk6⟩ := hK.1 m hm
  refine jr_aload_n d_Mo_faultAt_22 rfl ?_
  refine jr_getf d_Mo_faultAt_23 f_Mo_faultAt_38 hO rfl ?_
  refine jr_bipush ((nI (24))) d_Mo_faultAt_26 (by decide) ?_
  refine jr_iload_n d_Mo_faultAt_28 rfl ?_
  refine jr_imulN d_Mo_faultAt_29 ?_
  refine jr_iload_n d_Mo_faultAt_30 rfl ?_
  refine jr_iaddN d_Mo_faultAt_31 ?_
  refine jr_ialdQ (v := (nI (19))) d_Mo_faultAt_32 h32 (by omega) (by omega) (congrArg nI ho) ?_
  refine jr_istore_n d_Mo_faultAt_33 (by decide) ?_
  show jl_W l G m_Mo_faultAt (0, 0) 34 [some (.ref 22), some (.int (nI m)), some (.int (nI pc)), some (.int (nI 19)), none, none] [] (σ) (.inl (some (.int (nI (if 1 ≤ h ∧ h - 1 + 1 ≤ 5 then (if (isI t0) = true then 0 else 2) else 1))))) (σ)
  refine jr_aload_n d_Mo_faultAt_34 rfl ?_
  refine jr_iload_n d_Mo_faultAt_35 rfl ?_
  refine jr_aload_n d_Mo_faultAt_36 rfl ?_
  refine jr_getf d_Mo_faultAt_37 f_Mo_faultAt_41 hO rfl ?_
  refine jr_bipush ((nI (24))) d_Mo_faultAt_40 (by decide) ?_
  refine jr_iload_n d_Mo_faultAt_42 rfl ?_
  refine jr_imulN d_Mo_faultAt_43 ?_
  refine jr_iload_n d_Mo_faultAt_44 rfl ?_
  refine jr_iaddN d_Mo_faultAt_45 ?_
  refine jr_ialdQ (v := (x)) d_Mo_faultAt_46 h33 (by omega) (by omega) (hx) ?_
  refine jr_callV (As := [.int (nI 19), .int (x)]) d_Mo_faultAt_47 k_Mo_faultAt_176 hO rfl rfl rfl (Nat.le_of_ble_eq_true rfl) (by decide) (by decide) (mo_tk_19 hl hO hw hu) ?_
  show jl_W l G m_Mo_faultAt (0, 0) 50 [some (.ref 22), some (.int (nI m)), some (.int (nI pc)), some (.int (nI 19)), none, none] [.int (nI 1)] (σ) (.inl (some (.int (nI (if 1 ≤ h ∧ h - 1 + 1 ≤ 5 then (if (isI t0) = true then 0 else 2) else 1))))) (σ)
  refine jr_istore d_Mo_faultAt_50 (by decide) ?_
  show jl_W l G m_Mo_faultAt (0, 0) 52 [some (.ref 22), some (.int (nI m)), some (.int (nI pc)), some (.int (nI 19)), some (.int (nI 1)), none] [] (σ) (.inl (some (.int (nI (if 1 ≤ h ∧ h - 1 + 1 ≤ 5 then (if (isI t0) = true then 0 else 2) else 1))))) (σ)
  refine jr_aload_n d_Mo_faultAt_52 rfl ?_
  refine jr_getf d_Mo_faultAt_53 f_Mo_faultAt_179 hO rfl ?_
  refine jr_iload d_Mo_faultAt_56 rfl ?_
  refine jr_icmp_ltN 78 d_Mo_faultAt_58 (by decide) (by omega) (by omega) (fun c1 => ?_) (fun c1 => ?_)
  · refine jr_iconst ((nI (1))) d_Mo_faultAt_78 (by decide) ?_
    exact jr_iretE d_Mo_faultAt_79 rfl (by rw [if_neg (by omega)]) (rfl) (by decide) (by decide)
  · refine jr_aload_n d_Mo_faultAt_61 rfl ?_
    refine jr_getf d_Mo_faultAt_62 f_Mo_faultAt_179 hO rfl ?_
    refine jr_iload d_Mo_faultAt_65 rfl ?_
    refine jr_isubN d_Mo_faultAt_67 (by omega) ?_
    refine jr_aload_n d_Mo_faultAt_68 rfl ?_
    refine jr_iload_n d_Mo_faultAt_69 rfl ?_
    refine jr_callV (As := [.int (nI 19)]) d_Mo_faultAt_70 k_Mo_faultAt_182 hO rfl rfl rfl (Nat.le_of_ble_eq_true rfl) (by decide) (by decide) (mo_puts hl hO hw (by omega)) ?_
    show jl_W l G m_Mo_faultAt (0, 0) 73 [some (.ref 22), some (.int (nI m)), some (.int (nI pc)), some (.int (nI 19)), some (.int (nI 1)), none] [.int (nI 1), .int (nI ((h) - (1)))] (σ) (.inl (some (.int (nI (if 1 ≤ h ∧ h - 1 + 1 ≤ 5 then (if (isI t0) = true then 0 else 2) else 1))))) (σ)
    refine jr_iaddN d_Mo_faultAt_73 ?_
    refine jr_iconst ((nI (5))) d_Mo_faultAt_74 (by decide) ?_
    refine jr_icmp_leN 80 d_Mo_faultAt_75 (by decide) (by omega) (by omega) (fun c2 => ?_) (fun c2 => ?_)
    · refine jr_iload_n d_Mo_faultAt_80 rfl ?_
      refine jr_iconst ((nI (1))) d_Mo_faultAt_81 (by decide) ?_
      refine jr_icmp_ne 107 d_Mo_faultAt_82 (by decide) (fun _ => ?_) (fun z => absurd z (by decide))
      refine jr_iconst ((nI (0))) d_Mo_faultAt_107 (by decide) ?_
      refine jr_istore d_Mo_faultAt_108 (by decide) ?_
      show jl_W l G m_Mo_faultAt (0, 0) 110 [some (.ref 22), some (.int (nI m)), some (.int (nI pc)), some (.int (nI 19)), some (.int (nI 1)), some (.int (nI 0))] [] (σ) (.inl (some (.int (nI (if 1 ≤ h ∧ h - 1 + 1 ≤ 5 then (if (isI t0) = true then 0 else 2) else 1))))) (σ)
      refine jr_iload d_Mo_faultAt_110 rfl ?_
      refine jr_iload d_Mo_faultAt_112 rfl ?_
      refine jr_icmp_ge 151 d_Mo_faultAt_114 (by decide) (fun z => absurd z (by decide)) (fun _ => ?_)
      refine jr_aload_n d_Mo_faultAt_117 rfl ?_
      refine jr_iload_n d_Mo_faultAt_118 rfl ?_
      refine jr_iload_n d_Mo_faultAt_119 rfl ?_
      refine jr_iload d_Mo_faultAt_120 rfl ?_
      refine jr_aload_n d_Mo_faultAt_122 rfl ?_
      refine jr_getf d_Mo_faultAt_123 f_Mo_faultAt_72 hO rfl ?_
      refine jr_aload_n d_Mo_faultAt_126 rfl ?_
      refine jr_getf d_Mo_faultAt_127 f_Mo_faultAt_179 hO rfl ?_
      refine jr_iload d_Mo_faultAt_130 rfl ?_
      refine jr_isubN d_Mo_faultAt_132 (by omega) ?_
      refine jr_iload d_Mo_faultAt_133 rfl ?_
      refine jr_iaddN d_Mo_faultAt_135 ?_
      refine jr_ialdQ (v := (en t0)) d_Mo_faultAt_136 r2 (by omega) (by omega) ((congrArg (fun j => en (sk j)) (show ((h) - (1)) + (0) = h - 1 - 0 by omega)).trans (congrArg en (e_0 (by omega)))) ?_
      refine jr_callV (As := [.int (nI m), .int (nI pc), .int (nI 0), .int (en t0)]) d_Mo_faultAt_137 k_Mo_faultAt_185 hO rfl rfl rfl (Nat.le_of_ble_eq_true rfl) (by decide) (by decide) (mo_fit_19_0 hl hO hw hu hok hK hm hpc ho hx ht0) ?_
      show jl_W l G m_Mo_faultAt (0, 0) 140 [some (.ref 22), some (.int (nI m)), some (.int (nI pc)), some (.int (nI 19)), some (.int (nI 1)), some (.int (nI 0))] [.int (bi (isI t0))] (σ) (.inl (some (.int (nI (if 1 ≤ h ∧ h - 1 + 1 ≤ 5 then (if (isI t0) = true then 0 else 2) else 1))))) (σ)
      refine jr_if_ne 145 d_Mo_faultAt_140 (by decide) (fun c3 => ?_) (fun c3 => ?_)
      · refine jr_iinc ((nI (0 + 1))) d_Mo_faultAt_145 (by decide) rfl (jl_inc _) ?_
        show jl_W l G m_Mo_faultAt (0, 0) 148 [some (.ref 22), some (.int (nI m)), some (.int (nI pc)), some (.int (nI 19)), some (.int (nI 1)), some (.int (nI (0 + 1)))] [] (σ) (.inl (some (.int (nI (if 1 ≤ h ∧ h - 1 + 1 ≤ 5 then (if (isI t0) = true then 0 else 2) else 1))))) (σ)
        refine jr_goto 110 d_Mo_faultAt_148 (by decide) ?_
        show jl_W l G m_Mo_faultAt (0, 0) 110 [some (.ref 22), some (.int (nI m)), some (.int (nI pc)), some (.int (nI 19)), some (.int (nI 1)), some (.int (nI 1))] [] (σ) (.inl (some (.int (nI (if 1 ≤ h ∧ h - 1 + 1 ≤ 5 then (if (isI t0) = true then 0 else 2) else 1))))) (σ)
        refine jr_iload d_Mo_faultAt_110 rfl ?_
        refine jr_iload d_Mo_faultAt_112 rfl ?_
        refine jr_icmp_ge 151 d_Mo_faultAt_114 (by decide) (fun _ => ?_) (fun z => absurd (by decide) z)
        refine jr_iconst ((nI (0))) d_Mo_faultAt_151 (by decide) ?_
        exact jr_iretE d_Mo_faultAt_152 rfl (by rw [if_pos (by omega), if_pos (by simp [bi_nf c3])]) (rfl) (by decide) (by decide)
      · refine jr_iconst ((nI (2))) d_Mo_faultAt_143 (by decide) ?_
        exact jr_iretE d_Mo_faultAt_144 rfl (by rw [if_pos (by omega), if_neg (by simp [bi_0.mp c3])]) (rfl) (by decide) (by decide)
    · refine jr_iconst ((nI (1))) d_Mo_faultAt_78 (by decide) ?_
      exact jr_iretE d_Mo_faultAt_79 rfl (by rw [if_neg (by omega)]) (rfl) (by decide) (by decide)
theorem mo_fa_20 (hl : l.stackTraces = false) {m pc h : Nat} {x : Int32} {t0 : Option Nat} {t1 : Option Nat} (hO : MoO σ fa vf wh wy (nI (h)) dp md ov oh dn an) (hw : MoW σ tb pr ow ft hs) (hu : MoM σ u1 u2 ur ul uo ua uc us ut uk) (hr : MoR σ lo sk) (hok : WoOk tb pr ow fi) (hK : MoK u1 u2 ur ul uo uc us ut uk) (hm : m < 24) (hpc : pc < 24) (ho : uo (24 * m + pc) = 20) (hx : ua (24 * m + pc) = x) (hh5 : h ≤ 5) (e_0 : 0 < h → sk (h - 1 - 0) = t0) (ht0 : ob 16 t0) (e_1 : 1 < h → sk (h - 1 - 1) = t1) (ht1 : ob 16 t1) : jl_W l G m_Mo_faultAt (0, 0) 22 [some (.ref 22), some (.int (nI m)), some (.int (nI pc)), none, none, none] [] σ (.inl (some (.int (nI (if 2 ≤ h ∧ h - 2 + 1 ≤ 5 then (if (part pr t1 (some 1) && isI t0) = true then 0 else 2) else 1))))) (σ) := by
  obtain ⟨h23, h24, h25, h26, h27⟩ := id hw
  obtain ⟨h28, h29, h30, h31, h32, h33, h34, h35, h36, h37⟩ := id hu
  obtain ⟨r1, r2⟩ := id hr
  obtain ⟨hk1, hk2, hk3, hk4, hk5, hk6⟩ := hK.1 m hm
  refine jr_aload_n d_Mo_faultAt_22 rfl ?_
  refine jr_getf d_Mo_faultAt_23 f_Mo_faultAt_38 hO rfl ?_
  refine jr_bipush ((nI (24))) d_Mo_faultAt_26 (by decide) ?_
  refine jr_iload_n d_Mo_faultAt_28 rfl ?_
  refine jr_imulN d_Mo_faultAt_29 ?_
  refine jr_iload_n d_Mo_faultAt_30 rfl ?_
  refine jr_iaddN d_Mo_faultAt_31 ?_
  refine jr_ialdQ (v := (nI (20))) d_Mo_faultAt_32 h32 (by omega) (by omega) (congrArg nI ho) ?_
  refine jr_istore_n d_Mo_faultAt_33 (by decide) ?_
  show jl_W l G m_Mo_faultAt (0, 0) 34 [some (.ref 22), some (.int (nI m)), some (.int (nI pc)), some (.int (nI 20)), none, none] [] (σ) (.inl (some (.int (nI (if 2 ≤ h ∧ h - 2 + 1 ≤ 5 then (if (part pr t1 (some 1) && isI t0) = true then 0 else 2) else 1))))) (σ)
  refine jr_aload_n d_Mo_faultAt_34 rfl ?_
  refine jr_iload_n d_Mo_faultAt_35 rfl ?_
  refine jr_aload_n d_Mo_faultAt_36 rfl ?_
  refine jr_getf d_Mo_faultAt_37 f_Mo_faultAt_41 hO rfl ?_
  refine jr_bipush ((nI (24))) d_Mo_faultAt_40 (by decide) ?_
  refine jr_iload_n d_Mo_faultAt_42 rfl ?_
  refine jr_imulN d_Mo_faultAt_43 ?_
  refine jr_iload_n d_Mo_faultAt_44 rfl ?_
  refine jr_iaddN d_Mo_faultAt_45 ?_
  refine jr_ialdQ (v := (x)) d_Mo_faultAt_46 h33 (by omega) (by omega) (hx) ?_
  refine jr_callV (As := [.int (nI 20), .int (x)]) d_Mo_faultAt_47 k_Mo_faultAt_176 hO rfl rfl rfl (Nat.le_of_ble_eq_true rfl) (by decide) (by decide) (mo_tk_20 hl hO hw hu) ?_
  show jl_W l G m_Mo_faultAt (0, 0) 50 [some (.ref 22), some (.int (nI m)), some (.int (nI pc)), some (.int (nI 20)), none, none] [.int (nI 2)] (σ) (.inl (some (.int (nI (if 2 ≤ h ∧ h - 2 + 1 ≤ 5 then (if (part pr t1 (some 1) && isI t0) = true then 0 else 2) else 1))))) (σ)
  refine jr_istore d_Mo_faultAt_50 (by decide) ?_
  show jl_W l G m_Mo_faultAt (0, 0) 52 [some (.ref 22), some (.int (nI m)), some (.int (nI pc)), some (.int (nI 20)), some (.int (nI 2)), none] [] (σ) (.inl (some (.int (nI (if 2 ≤ h ∧ h - 2 + 1 ≤ 5 then (if (part pr t1 (some 1) && isI t0) = true then 0 else 2) else 1))))) (σ)
  refine jr_aload_n d_Mo_faultAt_52 rfl ?_
  refine jr_getf d_Mo_faultAt_53 f_Mo_faultAt_179 hO rfl ?_
  refine jr_iload d_Mo_faultAt_56 rfl ?_
  refine jr_icmp_ltN 78 d_Mo_faultAt_58 (by decide) (by omega) (by omega) (fun c1 => ?_) (fun c1 => ?_)
  · refine jr_iconst ((nI (1))) d_Mo_faultAt_78 (by decide) ?_
    exact jr_iretE d_Mo_faultAt_79 rfl (by rw [if_neg (by omega)]) (rfl) (by decide) (by decide)
  · refine jr_aload_n d_Mo_faultAt_61 rfl ?_
    refine jr_getf d_Mo_faultAt_62 f_Mo_faultAt_179 hO rfl ?_
    refine jr_iload d_Mo_faultAt_65 rfl ?_
    refine jr_isubN d_Mo_faultAt_67 (by omega) ?_
    refine jr_aload_n d_Mo_faultAt_68 rfl ?_
    refine jr_iload_n d_Mo_faultAt_69 rfl ?_
    refine jr_callV (As := [.int (nI 20)]) d_Mo_faultAt_70 k_Mo_faultAt_182 hO rfl rfl rfl (Nat.le_of_ble_eq_true rfl) (by decide) (by decide) (mo_puts hl hO hw (by omega)) ?_
    show jl_W l G m_Mo_faultAt (0, 0) 73 [some (.ref 22), some (.int (nI m)), some (.int (nI pc)), some (.int (nI 20)), some (.int (nI 2)), none] [.int (nI 1), .int (nI ((h) - (2)))] (σ) (.inl (some (.int (nI (if 2 ≤ h ∧ h - 2 + 1 ≤ 5 then (if (part pr t1 (some 1) && isI t0) = true then 0 else 2) else 1))))) (σ)
    refine jr_iaddN d_Mo_faultAt_73 ?_
    refine jr_iconst ((nI (5))) d_Mo_faultAt_74 (by decide) ?_
    refine jr_icmp_leN 80 d_Mo_faultAt_75 (by decide) (by omega) (by omega) (fun c2 => ?_) (fun c2 => ?_)
    · refine jr_iload_n d_Mo_faultAt_80 rfl ?_
      refine jr_iconst ((nI (1))) d_Mo_faultAt_81 (by decide) ?_
      refine jr_icmp_ne 107 d_Mo_faultAt_82 (by decide) (fun _ => ?_) (fun z => absurd z (by decide))
      refine jr_iconst ((nI (0))) d_Mo_faultAt_107 (by decide) ?_
      refine jr_istore d_Mo_faultAt_108 (by decide) ?_
      show jl_W l G m_Mo_faultAt (0, 0) 110 [some (.ref 22), some (.int (nI m)), some (.int (nI pc)), some (.int (nI 20)), some (.int (nI 2)), some (.int (nI 0))] [] (σ) (.inl (some (.int (nI (if 2 ≤ h ∧ h - 2 + 1 ≤ 5 then (if (part pr t1 (some 1) && isI t0) = true then 0 else 2) else 1))))) (σ)
      refine jr_iload d_Mo_faultAt_110 rfl ?_
      refine jr_iload d_Mo_faultAt_112 rfl ?_
      refine jr_icmp_ge 151 d_Mo_faultAt_114 (by decide) (fun z => absurd z (by decide)) (fun _ => ?_)
      refine jr_aload_n d_Mo_faultAt_117 rfl ?_
      refine jr_iload_n d_Mo_faultAt_118 rfl ?_
      refine jr_iload_n d_Mo_faultAt_119 rfl ?_
      refine jr_iload d_Mo_faultAt_120 rfl ?_
      refine jr_aload_n d_Mo_faultAt_122 rfl ?_
      refine jr_getf d_Mo_faultAt_123 f_Mo_faultAt_72 hO rfl ?_
      refine jr_aload_n d_Mo_faultAt_126 rfl ?_
      refine jr_getf d_Mo_faultAt_127 f_Mo_faultAt_179 hO rfl ?_
      refine jr_iload d_Mo_faultAt_130 rfl ?_
      refine jr_isubN d_Mo_faultAt_132 (by omega) ?_
      refine jr_iload d_Mo_faultAt_133 rfl ?_
      refine jr_iaddN d_Mo_faultAt_135 ?_
      refine jr_ialdQ (v := (en t1)) d_Mo_faultAt_136 r2 (by omega) (by omega) ((congrArg (fun j => en (sk j)) (show ((h) - (2)) + (0) = h - 1 - 1 by omega)).trans (congrArg en (e_1 (by omega)))) ?_
      refine jr_callV (As := [.int (nI m), .int (nI pc), .int (nI 0), .int (en t1)]) d_Mo_faultAt_137 k_Mo_faultAt_185 hO rfl rfl rfl (Nat.le_of_ble_eq_true rfl) (by decide) (by decide) (mo_fit_20_0 hl hO hw hu hok hK hm hpc ho hx ht1) ?_
      show jl_W l G m_Mo_faultAt (0, 0) 140 [some (.ref 22), some (.int (nI m)), some (.int (nI pc)), some (.int (nI 20)), some (.int (nI 2)), some (.int (nI 0))] [.int (bi (part pr t1 (some 1)))] (σ) (.inl (some (.int (nI (if 2 ≤ h ∧ h - 2 + 1 ≤ 5 then (if (part pr t1 (some 1) && isI t0) = true then 0 else 2) else 1))))) (σ)
      refine jr_if_ne 145 d_Mo_faultAt_140 (by decide) (fun c3 => ?_) (fun c3 => ?_)
      · refine jr_iinc ((nI (0 + 1))) d_Mo_faultAt_145 (by decide) rfl (jl_inc _) ?_
        show jl_W l G m_Mo_faultAt (0, 0) 148 [some (.ref 22), some (.int (nI m)), some (.int (nI pc)), some (.int (nI 20)), some (.int (nI 2)), some (.int (nI (0 + 1)))] [] (σ) (.inl (some (.int (nI (if 2 ≤ h ∧ h - 2 + 1 ≤ 5 then (if (part pr t1 (some 1) && isI t0) = true then 0 else 2) else 1))))) (σ)
        refine jr_goto 110 d_Mo_faultAt_148 (by decide) ?_
        show jl_W l G m_Mo_faultAt (0, 0) 110 [some (.ref 22), some (.int (nI m)), some (.int (nI pc)), some (.int (nI 20)), some (.int (nI 2)), some (.int (nI 1))] [] (σ) (.inl (some (.int (nI (if 2 ≤ h ∧ h - 2 + 1 ≤ 5 then (if (part pr t1 (some 1) && isI t0) = true then 0 else 2) else 1))))) (σ)
        refine jr_iload d_Mo_faultAt_110 rfl ?_
        refine jr_iload d_Mo_faultAt_112 rfl ?_
        refine jr_icmp_ge 151 d_Mo_faultAt_114 (by decide) (fun z => absurd z (by decide)) (fun _ => ?_)
        refine jr_aload_n d_Mo_faultAt_117 rfl ?_
        refine jr_iload_n d_Mo_faultAt_118 rfl ?_
        refine jr_iload_n d_Mo_faultAt_119 rfl ?_
        refine jr_iload d_Mo_faultAt_120 rfl ?_
        refine jr_aload_n d_Mo_faultAt_122 rfl ?_
        refine jr_getf d_Mo_faultAt_123 f_Mo_faultAt_72 hO rfl ?_
        refine jr_aload_n d_Mo_faultAt_126 rfl ?_
        refine jr_getf d_Mo_faultAt_127 f_Mo_faultAt_179 hO rfl ?_
        refine jr_iload d_Mo_faultAt_130 rfl ?_
        refine jr_isubN d_Mo_faultAt_132 (by omega) ?_
        refine jr_iload d_Mo_faultAt_133 rfl ?_
        refine jr_iaddN d_Mo_faultAt_135 ?_
        refine jr_ialdQ (v := (en t0)) d_Mo_faultAt_136 r2 (by omega) (by omega) ((congrArg (fun j => en (sk j)) (show ((h) - (2)) + (1) = h - 1 - 0 by omega)).trans (congrArg en (e_0 (by omega)))) ?_
        refine jr_callV (As := [.int (nI m), .int (nI pc), .int (nI 1), .int (en t0)]) d_Mo_faultAt_137 k_Mo_faultAt_185 hO rfl rfl rfl (Nat.le_of_ble_eq_true rfl) (by decide) (by decide) (mo_fit_20_1 hl hO hw hu hok hK hm hpc ho hx ht0) ?_
        show jl_W l G m_Mo_faultAt (0, 0) 140 [some (.ref 22), some (.int (nI m)), some (.int (nI pc)), some (.int (nI 20)), some (.int (nI 2)), some (.int (nI 1))] [.int (bi (isI t0))] (σ) (.inl (some (.int (nI (if 2 ≤ h ∧ h - 2 + 1 ≤ 5 then (if (part pr t1 (some 1) && isI t0) = true then 0 else 2) else 1))))) (σ)
        refine jr_if_ne 145 d_Mo_faultAt_140 (by decide) (fun c4 => ?_) (fun c4 => ?_)
        · refine jr_iinc ((nI (1 + 1))) d_Mo_faultAt_145 (by decide) rfl (jl_inc _) ?_
          show jl_W l G m_Mo_faultAt (0, 0) 148 [some (.ref 22), some (.int (nI m)), some (.int (nI pc)), some (.int (nI 20)), some (.int (nI 2)), some (.int (nI (1 + 1)))] [] (σ) (.inl (some (.int (nI (if 2 ≤ h ∧ h - 2 + 1 ≤ 5 then (if (part pr t1 (some 1) && isI t0) = true then 0 else 2) else 1))))) (σ)
          refine jr_goto 110 d_Mo_faultAt_148 (by decide) ?_
          show jl_W l G m_Mo_faultAt (0, 0) 110 [some (.ref 22), some (.int (nI m)), some (.int (nI pc)), some (.int (nI 20)), some (.int (nI 2)), some (.int (nI 2))] [] (σ) (.inl (some (.int (nI (if 2 ≤ h ∧ h - 2 + 1 ≤ 5 then (if (part pr t1 (some 1) && isI t0) = true then 0 else 2) else 1))))) (σ)
          refine jr_iload d_Mo_faultAt_110 rfl ?_
          refine jr_iload d_Mo_faultAt_112 rfl ?_
          refine jr_icmp_ge 151 d_Mo_faultAt_114 (by decide) (fun _ => ?_) (fun z => absurd (by decide) z)
          refine jr_iconst ((nI (0))) d_Mo_faultAt_151 (by decide) ?_
          exact jr_iretE d_Mo_faultAt_152 rfl (by rw [if_pos (by omega), if_pos (by simp [bi_nf c3, bi_nf c4])]) (rfl) (by decide) (by decide)
        · refine jr_iconst ((nI (2))) d_Mo_faultAt_143 (by decide) ?_
          exact jr_iretE d_Mo_faultAt_144 rfl (by rw [if_pos (by omega), if_neg (by simp [bi_nf c3, bi_0.mp c4])]) (rfl) (by decide) (by decide)
      · refine jr_iconst ((nI (2))) d_Mo_faultAt_143 (by decide) ?_
        exact jr_iretE d_Mo_faultAt_144 rfl (by rw [if_pos (by omega), if_neg (by simp [bi_0.mp c3])]) (rfl) (by decide) (by decide)
    · refine jr_iconst ((nI (1))) d_Mo_faultAt_78 (by decide) ?_
      exact jr_iretE d_Mo_faultAt_79 rfl (by rw [if_neg (by omega)]) (rfl) (by decide) (by decide)
theorem mo_fa_21 (hl : l.stackTraces = false) {m pc h : Nat} {x : Int32} {t0 : Option Nat} {t1 : Option Nat} {t2 : Option Nat} (hO : MoO σ fa vf wh wy (nI (h)) dp md ov oh dn an) (hw : MoW σ tb pr ow ft hs) (hu : MoM σ u1 u2 ur ul uo ua uc us ut uk) (hr : MoR σ lo sk) (hok : WoOk tb pr ow fi) (hK : MoK u1 u2 ur ul uo uc us ut uk) (hm : m < 24) (hpc : pc < 24) (ho : uo (24 * m + pc) = 21) (hx : ua (24 * m + pc) = x) (hh5 : h ≤ 5) (e_0 : 0 < h → sk (h - 1 - 0) = t0) (ht0 : ob 16 t0) (e_1 : 1 < h → sk (h - 1 - 1) = t1) (ht1 : ob 16 t1) (e_2 : 2 < h → sk (h - 1 - 2) = t2) (ht2 : ob 16 t2) : jl_W l G m_Mo_faultAt (0, 0) 22 [some (.ref 22), some (.int (nI m)), some (.int (nI pc)), none, none, none] [] σ (.inl (some (.int (nI (if 3 ≤ h ∧ h - 3 + 0 ≤ 5 then (if (part pr t2 (some 1) && (isI t1 && isI t0)) = true then 0 else 2) else 1))))) (σ) := by
  obtain ⟨h23, h24, h25, h26, h27⟩ := id hw
  obtain ⟨h28, h29, h30, h31, h32, h33, h34, h35, h36, h37⟩ := id hu
  obtain ⟨r1, r2⟩ := id hr
  obtain ⟨hk1, hk2, hk3, hk4, hk5, hk6⟩ := hK.1 m hm
  refine jr_aload_n d_Mo_faultAt_22 rfl ?_
  refine jr_getf d_Mo_faultAt_23 f_Mo_faultAt_38 hO rfl ?_
  refine jr_bipush ((nI (24))) d_Mo_faultAt_26 (by decide) ?_
  refine jr_iload_n d_Mo_faultAt_28 rfl ?_
  refine jr_imulN d_Mo_faultAt_29 ?_
  refine jr_iload_n d_Mo_faultAt_30 rfl ?_
  refine jr_iaddN d_Mo_faultAt_31 ?_
  refine jr_ialdQ (v := (nI (21))) d_Mo_faultAt_32 h32 (by omega) (by omega) (congrArg nI ho) ?_
  refine jr_istore_n d_Mo_faultAt_33 (by decide) ?_
  show jl_W l G m_Mo_faultAt (0, 0) 34 [some (.ref 22), some (.int (nI m)), some (.int (nI pc)), some (.int (nI 21)), none, none] [] (σ) (.inl (some (.int (nI (if 3 ≤ h ∧ h - 3 + 0 ≤ 5 then (if (part pr t2 (some 1) && (isI t1 && isI t0)) = true then 0 else 2) else 1))))) (σ)
  refine jr_aload_n d_Mo_faultAt_34 rfl ?_
  refine jr_iload_n d_Mo_faultAt_35 rfl ?_
  refine jr_aload_n d_Mo_faultAt_36 rfl ?_
  refine jr_getf d_Mo_faultAt_37 f_Mo_faultAt_41 hO rfl ?_
  refine jr_bipush ((nI (24))) d_Mo_faultAt_40 (by decide) ?_
  refine jr_iload_n d_Mo_faultAt_42 rfl ?_
  refine jr_imulN d_Mo_faultAt_43 ?_
  refine jr_iload_n d_Mo_faultAt_44 rfl ?_
  refine jr_iaddN d_Mo_faultAt_45 ?_
  refine jr_ialdQ (v := (x)) d_Mo_faultAt_46 h33 (by omega) (by omega) (hx) ?_
  refine jr_callV (As := [.int (nI 21), .int (x)]) d_Mo_faultAt_47 k_Mo_faultAt_176 hO rfl rfl rfl (Nat.le_of_ble_eq_true rfl) (by decide) (by decide) (mo_tk_21 hl hO hw hu) ?_
  show jl_W l G m_Mo_faultAt (0, 0) 50 [some (.ref 22), some (.int (nI m)), some (.int (nI pc)), some (.int (nI 21)), none, none] [.int (nI 3)] (σ) (.inl (some (.int (nI (if 3 ≤ h ∧ h - 3 + 0 ≤ 5 then (if (part pr t2 (some 1) && (isI t1 && isI t0)) = true then 0 else 2) else 1))))) (σ)
  refine jr_istore d_Mo_faultAt_50 (by decide) ?_
  show jl_W l G m_Mo_faultAt (0, 0) 52 [some (.ref 22), some (.int (nI m)), some (.int (nI pc)), some (.int (nI 21)), some (.int (nI 3)), none] [] (σ) (.inl (some (.int (nI (if 3 ≤ h ∧ h - 3 + 0 ≤ 5 then (if (part pr t2 (some 1) && (isI t1 && isI t0)) = true then 0 else 2) else 1))))) (σ)
  refine jr_aload_n d_Mo_faultAt_52 rfl ?_
  refine jr_getf d_Mo_faultAt_53 f_Mo_faultAt_179 hO rfl ?_
  refine jr_iload d_Mo_faultAt_56 rfl ?_
  refine jr_icmp_ltN 78 d_Mo_faultAt_58 (by decide) (by omega) (by omega) (fun c1 => ?_) (fun c1 => ?_)
  · refine jr_iconst ((nI (1))) d_Mo_faultAt_78 (by decide) ?_
    exact jr_iretE d_Mo_faultAt_79 rfl (by rw [if_neg (by omega)]) (rfl) (by decide) (by decide)
  · refine jr_aload_n d_Mo_faultAt_61 rfl ?_
    refine jr_getf d_Mo_faultAt_62 f_Mo_faultAt_179 hO rfl ?_
    refine jr_iload d_Mo_faultAt_65 rfl ?_
    refine jr_isubN d_Mo_faultAt_67 (by omega) ?_
    refine jr_aload_n d_Mo_faultAt_68 rfl ?_
    refine jr_iload_n d_Mo_faultAt_69 rfl ?_
    refine jr_callV (As := [.int (nI 21)]) d_Mo_faultAt_70 k_Mo_faultAt_182 hO rfl rfl rfl (Nat.le_of_ble_eq_true rfl) (by decide) (by decide) (mo_puts hl hO hw (by omega)) ?_
    show jl_W l G m_Mo_faultAt (0, 0) 73 [some (.ref 22), some (.int (nI m)), some (.int (nI pc)), some (.int (nI 21)), some (.int (nI 3)), none] [.int (nI 0), .int (nI ((h) - (3)))] (σ) (.inl (some (.int (nI (if 3 ≤ h ∧ h - 3 + 0 ≤ 5 then (if (part pr t2 (some 1) && (isI t1 && isI t0)) = true then 0 else 2) else 1))))) (σ)
    refine jr_iaddN d_Mo_faultAt_73 ?_
    refine jr_iconst ((nI (5))) d_Mo_faultAt_74 (by decide) ?_
    refine jr_icmp_leN 80 d_Mo_faultAt_75 (by decide) (by omega) (by omega) (fun c2 => ?_) (fun c2 => ?_)
    · refine jr_iload_n d_Mo_faultAt_80 rfl ?_
      refine jr_iconst ((nI (1))) d_Mo_faultAt_81 (by decide) ?_
      refine jr_icmp_ne 107 d_Mo_faultAt_82 (by decide) (fun _ => ?_) (fun z => absurd z (by decide))
      refine jr_iconst ((nI (0))) d_Mo_faultAt_107 (by decide) ?_
      refine jr_istore d_Mo_faultAt_108 (by decide) ?_
      show jl_W l G m_Mo_faultAt (0, 0) 110 [some (.ref 22), some (.int (nI m)), some (.int (nI pc)), some (.int (nI 21)), some (.int (nI 3)), some (.int (nI 0))] [] (σ) (.inl (some (.int (nI (if 3 ≤ h ∧ h - 3 + 0 ≤ 5 then (if (part pr t2 (some 1) && (isI t1 && isI t0)) = true then 0 else 2) else 1))))) (σ)
      refine jr_iload d_Mo_faultAt_110 rfl ?_
      refine jr_iload d_Mo_faultAt_112 rfl ?_
      refine jr_icmp_ge 151 d_Mo_faultAt_114 (by decide) (fun z => absurd z (by decide)) (fun _ => ?_)
      refine jr_aload_n d_Mo_faultAt_117 rfl ?_
      refine jr_iload_n d_Mo_faultAt_118 rfl ?_
      refine jr_iload_n d_Mo_faultAt_119 rfl ?_
      refine jr_iload d_Mo_faultAt_120 rfl ?_
      refine jr_aload_n d_Mo_faultAt_122 rfl ?_
      refine jr_getf d_Mo_faultAt_123 f_Mo_faultAt_72 hO rfl ?_
      refine jr_aload_n d_Mo_faultAt_126 rfl ?_
      refine jr_getf d_Mo_faultAt_127 f_Mo_faultAt_179 hO rfl ?_
      refine jr_iload d_Mo_faultAt_130 rfl ?_
      refine jr_isubN d_Mo_faultAt_132 (by omega) ?_
      refine jr_iload d_Mo_faultAt_133 rfl ?_
      refine jr_iaddN d_Mo_faultAt_135 ?_
      refine jr_ialdQ (v := (en t2)) d_Mo_faultAt_136 r2 (by omega) (by omega) ((congrArg (fun j => en (sk j)) (show ((h) - (3)) + (0) = h - 1 - 2 by omega)).trans (congrArg en (e_2 (by omega)))) ?_
      refine jr_callV (As := [.int (nI m), .int (nI pc), .int (nI 0), .int (en t2)]) d_Mo_faultAt_137 k_Mo_faultAt_185 hO rfl rfl rfl (Nat.le_of_ble_eq_true rfl) (by decide) (by decide) (mo_fit_21_0 hl hO hw hu hok hK hm hpc ho hx ht2) ?_
      show jl_W l G m_Mo_faultAt (0, 0) 140 [some (.ref 22), some (.int (nI m)), some (.int (nI pc)), some (.int (nI 21)), some (.int (nI 3)), some (.int (nI 0))] [.int (bi (part pr t2 (some 1)))] (σ) (.inl (some (.int (nI (if 3 ≤ h ∧ h - 3 + 0 ≤ 5 then (if (part pr t2 (some 1) && (isI t1 && isI t0)) = true then 0 else 2) else 1))))) (σ)
      refine jr_if_ne 145 d_Mo_faultAt_140 (by decide) (fun c3 => ?_) (fun c3 => ?_)
      · refine jr_iinc ((nI (0 + 1))) d_Mo_faultAt_145 (by decide) rfl (jl_inc _) ?_
        show jl_W l G m_Mo_faultAt (0, 0) 148 [some (.ref 22), some (.int (nI m)), some (.int (nI pc)), some (.int (nI 21)), some (.int (nI 3)), some (.int (nI (0 + 1)))] [] (σ) (.inl (some (.int (nI (if 3 ≤ h ∧ h - 3 + 0 ≤ 5 then (if (part pr t2 (some 1) && (isI t1 && isI t0)) = true then 0 else 2) else 1))))) (σ)
        refine jr_goto 110 d_Mo_faultAt_148 (by decide) ?_
        show jl_W l G m_Mo_faultAt (0, 0) 110 [some (.ref 22), some (.int (nI m)), some (.int (nI pc)), some (.int (nI 21)), some (.int (nI 3)), some (.int (nI 1))] [] (σ) (.inl (some (.int (nI (if 3 ≤ h ∧ h - 3 + 0 ≤ 5 then (if (part pr t2 (some 1) && (isI t1 && isI t0)) = true then 0 else 2) else 1))))) (σ)
        refine jr_iload d_Mo_faultAt_110 rfl ?_
        refine jr_iload d_Mo_faultAt_112 rfl ?_
        refine jr_icmp_ge 151 d_Mo_faultAt_114 (by decide) (fun z => absurd z (by decide)) (fun _ => ?_)
        refine jr_aload_n d_Mo_faultAt_117 rfl ?_
        refine jr_iload_n d_Mo_faultAt_118 rfl ?_
        refine jr_iload_n d_Mo_faultAt_119 rfl ?_
        refine jr_iload d_Mo_faultAt_120 rfl ?_
        refine jr_aload_n d_Mo_faultAt_122 rfl ?_
        refine jr_getf d_Mo_faultAt_123 f_Mo_faultAt_72 hO rfl ?_
        refine jr_aload_n d_Mo_faultAt_126 rfl ?_
        refine jr_getf d_Mo_faultAt_127 f_Mo_faultAt_179 hO rfl ?_
        refine jr_iload d_Mo_faultAt_130 rfl ?_
        refine jr_isubN d_Mo_faultAt_132 (by omega) ?_
        refine jr_iload d_Mo_faultAt_133 rfl ?_
        refine jr_iaddN d_Mo_faultAt_135 ?_
        refine jr_ialdQ (v := (en t1)) d_Mo_faultAt_136 r2 (by omega) (by omega) ((congrArg (fun j => en (sk j)) (show ((h) - (3)) + (1) = h - 1 - 1 by omega)).trans (congrArg en (e_1 (by omega)))) ?_
        refine jr_callV (As := [.int (nI m), .int (nI pc), .int (nI 1), .int (en t1)]) d_Mo_faultAt_137 k_Mo_faultAt_185 hO rfl rfl rfl (Nat.le_of_ble_eq_true rfl) (by decide) (by decide) (mo_fit_21_1 hl hO hw hu hok hK hm hpc ho hx ht1) ?_
        show jl_W l G m_Mo_faultAt (0, 0) 140 [some (.ref 22), some (.int (nI m)), some (.int (nI pc)), some (.int (nI 21)), some (.int (nI 3)), some (.int (nI 1))] [.int (bi (isI t1))] (σ) (.inl (some (.int (nI (if 3 ≤ h ∧ h - 3 + 0 ≤ 5 then (if (part pr t2 (some 1) && (isI t1 && isI t0)) = true then 0 else 2) else 1))))) (σ)
        refine jr_if_ne 145 d_Mo_faultAt_140 (by decide) (fun c4 => ?_) (fun c4 => ?_)
        · refine jr_iinc ((nI (1 + 1))) d_Mo_faultAt_145 (by decide) rfl (jl_inc _) ?_
          show jl_W l G m_Mo_faultAt (0, 0) 148 [some (.ref 22), some (.int (nI m)), some (.int (nI pc)), some (.int (nI 21)), some (.int (nI 3)), some (.int (nI (1 + 1)))] [] (σ) (.inl (some (.int (nI (if 3 ≤ h ∧ h - 3 + 0 ≤ 5 then (if (part pr t2 (some 1) && (isI t1 && isI t0)) = true then 0 else 2) else 1))))) (σ)
          refine jr_goto 110 d_Mo_faultAt_148 (by decide) ?_
          show jl_W l G m_Mo_faultAt (0, 0) 110 [some (.ref 22), some (.int (nI m)), some (.int (nI pc)), some (.int (nI 21)), some (.int (nI 3)), some (.int (nI 2))] [] (σ) (.inl (some (.int (nI (if 3 ≤ h ∧ h - 3 + 0 ≤ 5 then (if (part pr t2 (some 1) && (isI t1 && isI t0)) = true then 0 else 2) else 1))))) (σ)
          refine jr_iload d_Mo_faultAt_110 rfl ?_
          refine jr_iload d_Mo_faultAt_112 rfl ?_
          refine jr_icmp_ge 151 d_Mo_faultAt_114 (by decide) (fun z => absurd z (by decide)) (fun _ => ?_)
          refine jr_aload_n d_Mo_faultAt_117 rfl ?_
          refine jr_iload_n d_Mo_faultAt_118 rfl ?_
          refine jr_iload_n d_Mo_faultAt_119 rfl ?_
          refine jr_iload d_Mo_faultAt_120 rfl ?_
          refine jr_aload_n d_Mo_faultAt_122 rfl ?_
          refine jr_getf d_Mo_faultAt_123 f_Mo_faultAt_72 hO rfl ?_
          refine jr_aload_n d_Mo_faultAt_126 rfl ?_
          refine jr_getf d_Mo_faultAt_127 f_Mo_faultAt_179 hO rfl ?_
          refine jr_iload d_Mo_faultAt_130 rfl ?_
          refine jr_isubN d_Mo_faultAt_132 (by omega) ?_
          refine jr_iload d_Mo_faultAt_133 rfl ?_
          refine jr_iaddN d_Mo_faultAt_135 ?_
          refine jr_ialdQ (v := (en t0)) d_Mo_faultAt_136 r2 (by omega) (by omega) ((congrArg (fun j => en (sk j)) (show ((h) - (3)) + (2) = h - 1 - 0 by omega)).trans (congrArg en (e_0 (by omega)))) ?_
          refine jr_callV (As := [.int (nI m), .int (nI pc), .int (nI 2), .int (en t0)]) d_Mo_faultAt_137 k_Mo_faultAt_185 hO rfl rfl rfl (Nat.le_of_ble_eq_true rfl) (by decide) (by decide) (mo_fit_21_2 hl hO hw hu hok hK hm hpc ho hx ht0) ?_
          show jl_W l G m_Mo_faultAt (0, 0) 140 [some (.ref 22), some (.int (nI m)), some (.int (nI pc)), some (.int (nI 21)), some (.int (nI 3)), some (.int (nI 2))] [.int (bi (isI t0))] (σ) (.inl (some (.int (nI (if 3 ≤ h ∧ h - 3 + 0 ≤ 5 then (if (part pr t2 (some 1) && (isI t1 && isI t0)) = true then 0 else 2) else 1))))) (σ)
          refine jr_if_ne 145 d_Mo_faultAt_140 (by decide) (fun c5 => ?_) (fun c5 => ?_)
          · refine jr_iinc ((nI (2 + 1))) d_Mo_faultAt_145 (by decide) rfl (jl_inc _) ?_
            show jl_W l G m_Mo_faultAt (0, 0) 148 [some (.ref 22), some (.int (nI m)), some (.int (nI pc)), some (.int (nI 21)), some (.int (nI 3)), some (.int (nI (2 + 1)))] [] (σ) (.inl (some (.int (nI (if 3 ≤ h ∧ h - 3 + 0 ≤ 5 then (if (part pr t2 (some 1) && (isI t1 && isI t0)) = true then 0 else 2) else 1))))) (σ)
            refine jr_goto 110 d_Mo_faultAt_148 (by decide) ?_
            show jl_W l G m_Mo_faultAt (0, 0) 110 [some (.ref 22), some (.int (nI m)), some (.int (nI pc)), some (.int (nI 21)), some (.int (nI 3)), some (.int (nI 3))] [] (σ) (.inl (some (.int (nI (if 3 ≤ h ∧ h - 3 + 0 ≤ 5 then (if (part pr t2 (some 1) && (isI t1 && isI t0)) = true then 0 else 2) else 1))))) (σ)
            refine jr_iload d_Mo_faultAt_110 rfl ?_
            refine jr_iload d_Mo_faultAt_112 rfl ?_
            refine jr_icmp_ge 151 d_Mo_faultAt_114 (by decide) (fun _ => ?_) (fun z => absurd (by decide) z)
            refine jr_iconst ((nI (0))) d_Mo_faultAt_151 (by decide) ?_
            exact jr_iretE d_Mo_faultAt_152 rfl (by rw [if_pos (by omega), if_pos (by simp [bi_nf c3, bi_nf c4, bi_nf c5])]) (rfl) (by decide) (by decide)
          · refine jr_iconst ((nI (2))) d_Mo_faultAt_143 (by decide) ?_
            exact jr_iretE d_Mo_faultAt_144 rfl (by rw [if_pos (by omega), if_neg (by simp [bi_nf c3, bi_nf c4, bi_0.mp c5])]) (rfl) (by decide) (by decide)
        · refine jr_iconst ((nI (2))) d_Mo_faultAt_143 (by decide) ?_
          exact jr_iretE d_Mo_faultAt_144 rfl (by rw [if_pos (by omega), if_neg (by simp [bi_nf c3, bi_0.mp c4])]) (rfl) (by decide) (by decide)
      · refine jr_iconst ((nI (2))) d_Mo_faultAt_143 (by decide) ?_
        exact jr_iretE d_Mo_faultAt_144 rfl (by rw [if_pos (by omega), if_neg (by simp [bi_0.mp c3])]) (rfl) (by decide) (by decide)
    · refine jr_iconst ((nI (1))) d_Mo_faultAt_78 (by decide) ?_
      exact jr_iretE d_Mo_faultAt_79 rfl (by rw [if_neg (by omega)]) (rfl) (by decide) (by decide)
theorem mo_fa_22 (hl : l.stackTraces = false) {m pc h : Nat} {x : Int32} {t0 : Option Nat} (hO : MoO σ fa vf wh wy (nI (h)) dp md ov oh dn an) (hw : MoW σ tb pr ow ft hs) (hu : MoM σ u1 u2 ur ul uo ua uc us ut uk) (hr : MoR σ lo sk) (hok : WoOk tb pr ow fi) (hK : MoK u1 u2 ur ul uo uc us ut uk) (hm : m < 24) (hpc : pc < 24) (ho : uo (24 * m + pc) = 22) (hx : ua (24 * m + pc) = x) (hh5 : h ≤ 5) (e_0 : 0 < h → sk (h - 1 - 0) = t0) (ht0 : ob 16 t0) : jl_W l G m_Mo_faultAt (0, 0) 22 [some (.ref 22), some (.int (nI m)), some (.int (nI pc)), none, none, none] [] σ (.inl (some (.int (nI (if 1 ≤ h ∧ h - 1 + 1 ≤ 5 then (if (part pr t0 (some 1)) = true then 0 else 2) else 1))))) (σ) := by
  obtain ⟨h23, h24, h25, h26, h27⟩ := id hw
  obtain ⟨h28, h29, h30, h31, h32, h33, h34, h35, h36, h37⟩ := id hu
  obtain ⟨r1, r2⟩ := id hr
  obtain ⟨hk1, hk2, hk3, hk4, hk5, hk6⟩ := hK.1 m hm
  refine jr_aload_n d_Mo_faultAt_22 rfl ?_
  refine jr_getf d_Mo_faultAt_23 f_Mo_faultAt_38 hO rfl ?_
  refine jr_bipush ((nI (24))) d_Mo_faultAt_26 (by decide) ?_
  refine jr_iload_n d_Mo_faultAt_28 rfl ?_
  refine jr_imulN d_Mo_faultAt_29 ?_
  refine jr_iload_n d_Mo_faultAt_30 rfl ?_
  refine jr_iaddN d_Mo_faultAt_31 ?_
  refine jr_ialdQ (v := (nI (22))) d_Mo_faultAt_32 h32 (by omega) (by omega) (congrArg nI ho) ?_
  refine jr_istore_n d_Mo_faultAt_33 (by decide) ?_
  show jl_W l G m_Mo_faultAt (0, 0) 34 [some (.ref 22), some (.int (nI m)), some (.int (nI pc)), some (.int (nI 22)), none, none] [] (σ) (.inl (some (.int (nI (if 1 ≤ h ∧ h - 1 + 1 ≤ 5 then (if (part pr t0 (some 1)) = true then 0 else 2) else 1))))) (σ)
  refine jr_aload_n d_Mo_faultAt_34 rfl ?_
  refine jr_iload_n d_Mo_faultAt_35 rfl ?_
  refine jr_aload_n d_Mo_faultAt_36 rfl ?_
  refine jr_getf d_Mo_faultAt_37 f_Mo_faultAt_41 hO rfl ?_
  refine jr_bipush ((nI (24))) d_Mo_faultAt_40 (by decide) ?_
  refine jr_iload_n d_Mo_faultAt_42 rfl ?_
  refine jr_imulN d_Mo_faultAt_43 ?_
  refine jr_iload_n d_Mo_faultAt_44 rfl ?_
  refine jr_iaddN d_Mo_faultAt_45 ?_
  refine jr_ialdQ (v := (x)) d_Mo_faultAt_46 h33 (by omega) (by omega) (hx) ?_
  refine jr_callV (As := [.int (nI 22), .int (x)]) d_Mo_faultAt_47 k_Mo_faultAt_176 hO rfl rfl rfl (Nat.le_of_ble_eq_true rfl) (by decide) (by decide) (mo_tk_22 hl hO hw hu) ?_
  show jl_W l G m_Mo_faultAt (0, 0) 50 [some (.ref 22), some (.int (nI m)), some (.int (nI pc)), some (.int (nI 22)), none, none] [.int (nI 1)] (σ) (.inl (some (.int (nI (if 1 ≤ h ∧ h - 1 + 1 ≤ 5 then (if (part pr t0 (some 1)) = true then 0 else 2) else 1))))) (σ)
  refine jr_istore d_Mo_faultAt_50 (by decide) ?_
  show jl_W l G m_Mo_faultAt (0, 0) 52 [some (.ref 22), some (.int (nI m)), some (.int (nI pc)), some (.int (nI 22)), some (.int (nI 1)), none] [] (σ) (.inl (some (.int (nI (if 1 ≤ h ∧ h - 1 + 1 ≤ 5 then (if (part pr t0 (some 1)) = true then 0 else 2) else 1))))) (σ)
  refine jr_aload_n d_Mo_faultAt_52 rfl ?_
  refine jr_getf d_Mo_faultAt_53 f_Mo_faultAt_179 hO rfl ?_
  refine jr_iload d_Mo_faultAt_56 rfl ?_
  refine jr_icmp_ltN 78 d_Mo_faultAt_58 (by decide) (by omega) (by omega) (fun c1 => ?_) (fun c1 => ?_)
  · refine jr_iconst ((nI (1))) d_Mo_faultAt_78 (by decide) ?_
    exact jr_iretE d_Mo_faultAt_79 rfl (by rw [if_neg (by omega)]) (rfl) (by decide) (by decide)
  · refine jr_aload_n d_Mo_faultAt_61 rfl ?_
    refine jr_getf d_Mo_faultAt_62 f_Mo_faultAt_179 hO rfl ?_
    refine jr_iload d_Mo_faultAt_65 rfl ?_
    refine jr_isubN d_Mo_faultAt_67 (by omega) ?_
    refine jr_aload_n d_Mo_faultAt_68 rfl ?_
    refine jr_iload_n d_Mo_faultAt_69 rfl ?_
    refine jr_callV (As := [.int (nI 22)]) d_Mo_faultAt_70 k_Mo_faultAt_182 hO rfl rfl rfl (Nat.le_of_ble_eq_true rfl) (by decide) (by decide) (mo_puts hl hO hw (by omega)) ?_
    show jl_W l G m_Mo_faultAt (0, 0) 73 [some (.ref 22), some (.int (nI m)), some (.int (nI pc)), some (.int (nI 22)), some (.int (nI 1)), none] [.int (nI 1), .int (nI ((h) - (1)))] (σ) (.inl (some (.int (nI (if 1 ≤ h ∧ h - 1 + 1 ≤ 5 then (if (part pr t0 (some 1)) = true then 0 else 2) else 1))))) (σ)
    refine jr_iaddN d_Mo_faultAt_73 ?_
    refine jr_iconst ((nI (5))) d_Mo_faultAt_74 (by decide) ?_
    refine jr_icmp_leN 80 d_Mo_faultAt_75 (by decide) (by omega) (by omega) (fun c2 => ?_) (fun c2 => ?_)
    · refine jr_iload_n d_Mo_faultAt_80 rfl ?_
      refine jr_iconst ((nI (1))) d_Mo_faultAt_81 (by decide) ?_
      refine jr_icmp_ne 107 d_Mo_faultAt_82 (by decide) (fun _ => ?_) (fun z => absurd z (by decide))
      refine jr_iconst ((nI (0))) d_Mo_faultAt_107 (by decide) ?_
      refine jr_istore d_Mo_faultAt_108 (by decide) ?_
      show jl_W l G m_Mo_faultAt (0, 0) 110 [some (.ref 22), some (.int (nI m)), some (.int (nI pc)), some (.int (nI 22)), some (.int (nI 1)), some (.int (nI 0))] [] (σ) (.inl (some (.int (nI (if 1 ≤ h ∧ h - 1 + 1 ≤ 5 then (if (part pr t0 (some 1)) = true then 0 else 2) else 1))))) (σ)
      refine jr_iload d_Mo_faultAt_110 rfl ?_
      refine jr_iload d_Mo_faultAt_112 rfl ?_
      refine jr_icmp_ge 151 d_Mo_faultAt_114 (by decide) (fun z => absurd z (by decide)) (fun _ => ?_)
      refine jr_aload_n d_Mo_faultAt_117 rfl ?_
      refine jr_iload_n d_Mo_faultAt_118 rfl ?_
      refine jr_iload_n d_Mo_faultAt_119 rfl ?_
      refine jr_iload d_Mo_faultAt_120 rfl ?_
      refine jr_aload_n d_Mo_faultAt_122 rfl ?_
      refine jr_getf d_Mo_faultAt_123 f_Mo_faultAt_72 hO rfl ?_
      refine jr_aload_n d_Mo_faultAt_126 rfl ?_
      refine jr_getf d_Mo_faultAt_127 f_Mo_faultAt_179 hO rfl ?_
      refine jr_iload d_Mo_faultAt_130 rfl ?_
      refine jr_isubN d_Mo_faultAt_132 (by omega) ?_
      refine jr_iload d_Mo_faultAt_133 rfl ?_
      refine jr_iaddN d_Mo_faultAt_135 ?_
      refine jr_ialdQ (v := (en t0)) d_Mo_faultAt_136 r2 (by omega) (by omega) ((congrArg (fun j => en (sk j)) (show ((h) - (1)) + (0) = h - 1 - 0 by omega)).trans (congrArg en (e_0 (by omega)))) ?_
      refine jr_callV (As := [.int (nI m), .int (nI pc), .int (nI 0), .int (en t0)]) d_Mo_faultAt_137 k_Mo_faultAt_185 hO rfl rfl rfl (Nat.le_of_ble_eq_true rfl) (by decide) (by decide) (mo_fit_22_0 hl hO hw hu hok hK hm hpc ho hx ht0) ?_
      show jl_W l G m_Mo_faultAt (0, 0) 140 [some (.ref 22), some (.int (nI m)), some (.int (nI pc)), some (.int (nI 22)), some (.int (nI 1)), some (.int (nI 0))] [.int (bi (part pr t0 (some 1)))] (σ) (.inl (some (.int (nI (if 1 ≤ h ∧ h - 1 + 1 ≤ 5 then (if (part pr t0 (some 1)) = true then 0 else 2) else 1))))) (σ)
      refine jr_if_ne 145 d_Mo_faultAt_140 (by decide) (fun c3 => ?_) (fun c3 => ?_)
      · refine jr_iinc ((nI (0 + 1))) d_Mo_faultAt_145 (by decide) rfl (jl_inc _) ?_
        show jl_W l G m_Mo_faultAt (0, 0) 148 [some (.ref 22), some (.int (nI m)), some (.int (nI pc)), some (.int (nI 22)), some (.int (nI 1)), some (.int (nI (0 + 1)))] [] (σ) (.inl (some (.int (nI (if 1 ≤ h ∧ h - 1 + 1 ≤ 5 then (if (part pr t0 (some 1)) = true then 0 else 2) else 1))))) (σ)
        refine jr_goto 110 d_Mo_faultAt_148 (by decide) ?_
        show jl_W l G m_Mo_faultAt (0, 0) 110 [some (.ref 22), some (.int (nI m)), some (.int (nI pc)), some (.int (nI 22)), some (.int (nI 1)), some (.int (nI 1))] [] (σ) (.inl (some (.int (nI (if 1 ≤ h ∧ h - 1 + 1 ≤ 5 then (if (part pr t0 (some 1)) = true then 0 else 2) else 1))))) (σ)
        refine jr_iload d_Mo_faultAt_110 rfl ?_
        refine jr_iload d_Mo_faultAt_112 rfl ?_
        refine jr_icmp_ge 151 d_Mo_faultAt_114 (by decide) (fun _ => ?_) (fun z => absurd (by decide) z)
        refine jr_iconst ((nI (0))) d_Mo_faultAt_151 (by decide) ?_
        exact jr_iretE d_Mo_faultAt_152 rfl (by rw [if_pos (by omega), if_pos (by simp [bi_nf c3])]) (rfl) (by decide) (by decide)
      · refine jr_iconst ((nI (2))) d_Mo_faultAt_143 (by decide) ?_
        exact jr_iretE d_Mo_faultAt_144 rfl (by rw [if_pos (by omega), if_neg (by simp [bi_0.mp c3])]) (rfl) (by decide) (by decide)
    · refine jr_iconst ((nI (1))) d_Mo_faultAt_78 (by decide) ?_
      exact jr_iretE d_Mo_faultAt_79 rfl (by rw [if_neg (by omega)]) (rfl) (by decide) (by decide)
theorem mo_fa_23 (hl : l.stackTraces = false) {m pc h : Nat} {x : Int32} {t0 : Option Nat} (hO : MoO σ fa vf wh wy (nI (h)) dp md ov oh dn an) (hw : MoW σ tb pr ow ft hs) (hu : MoM σ u1 u2 ur ul uo ua uc us ut uk) (hr : MoR σ lo sk) (hok : WoOk tb pr ow fi) (hK : MoK u1 u2 ur ul uo uc us ut uk) (hm : m < 24) (hpc : pc < 24) (ho : uo (24 * m + pc) = 23) (hx : ua (24 * m + pc) = x) (hh5 : h ≤ 5) (e_0 : 0 < h → sk (h - 1 - 0) = t0) (ht0 : ob 16 t0) : jl_W l G m_Mo_faultAt (0, 0) 22 [some (.ref 22), some (.int (nI m)), some (.int (nI pc)), none, none, none] [] σ (.inl (some (.int (nI (if 1 ≤ h ∧ h - 1 + 0 ≤ 5 then (if (true) = true then 0 else 2) else 1))))) (σ) := by
  obtain ⟨h23, h24, h25, h26, h27⟩ := id hw
  obtain ⟨h28, h29, h30, h31, h32, h33, h34, h35, h36, h37⟩ := id hu
  obtain ⟨r1, r2⟩ := id hr
  obtain ⟨hk1, hk2, hk3, hk4, hk5, hk6⟩ := hK.1 m hm
  refine jr_aload_n d_Mo_faultAt_22 rfl ?_
  refine jr_getf d_Mo_faultAt_23 f_Mo_faultAt_38 hO rfl ?_
  refine jr_bipush ((nI (24))) d_Mo_faultAt_26 (by decide) ?_
  refine jr_iload_n d_Mo_faultAt_28 rfl ?_
  refine jr_imulN d_Mo_faultAt_29 ?_
  refine jr_iload_n d_Mo_faultAt_30 rfl ?_
  refine jr_iaddN d_Mo_faultAt_31 ?_
  refine jr_ialdQ (v := (nI (23))) d_Mo_faultAt_32 h32 (by omega) (by omega) (congrArg nI ho) ?_
  refine jr_istore_n d_Mo_faultAt_33 (by decide) ?_
  show jl_W l G m_Mo_faultAt (0, 0) 34 [some (.ref 22), some (.int (nI m)), some (.int (nI pc)), some (.int (nI 23)), none, none] [] (σ) (.inl (some (.int (nI (if 1 ≤ h ∧ h - 1 + 0 ≤ 5 then (if (true) = true then 0 else 2) else 1))))) (σ)
  refine jr_aload_n d_Mo_faultAt_34 rfl ?_
  refine jr_iload_n d_Mo_faultAt_35 rfl ?_
  refine jr_aload_n d_Mo_faultAt_36 rfl ?_
  refine jr_getf d_Mo_faultAt_37 f_Mo_faultAt_41 hO rfl ?_
  refine jr_bipush ((nI (24))) d_Mo_faultAt_40 (by decide) ?_
  refine jr_iload_n d_Mo_faultAt_42 rfl ?_
  refine jr_imulN d_Mo_faultAt_43 ?_
  refine jr_iload_n d_Mo_faultAt_44 rfl ?_
  refine jr_iaddN d_Mo_faultAt_45 ?_
  refine jr_ialdQ (v := (x)) d_Mo_faultAt_46 h33 (by omega) (by omega) (hx) ?_
  refine jr_callV (As := [.int (nI 23), .int (x)]) d_Mo_faultAt_47 k_Mo_faultAt_176 hO rfl rfl rfl (Nat.le_of_ble_eq_true rfl) (by decide) (by decide) (mo_tk_23 hl hO hw hu) ?_
  show jl_W l G m_Mo_faultAt (0, 0) 50 [some (.ref 22), some (.int (nI m)), some (.int (nI pc)), some (.int (nI 23)), none, none] [.int (nI 1)] (σ) (.inl (some (.int (nI (if 1 ≤ h ∧ h - 1 + 0 ≤ 5 then (if (true) = true then 0 else 2) else 1))))) (σ)
  refine jr_istore d_Mo_faultAt_50 (by decide) ?_
  show jl_W l G m_Mo_faultAt (0, 0) 52 [some (.ref 22), some (.int (nI m)), some (.int (nI pc)), some (.int (nI 23)), some (.int (nI 1)), none] [] (σ) (.inl (some (.int (nI (if 1 ≤ h ∧ h - 1 + 0 ≤ 5 then (if (true) = true then 0 else 2) else 1))))) (σ)
  refine jr_aload_n d_Mo_faultAt_52 rfl ?_
  refine jr_getf d_Mo_faultAt_53 f_Mo_faultAt_179 hO rfl ?_
  refine jr_iload d_Mo_faultAt_56 rfl ?_
  refine jr_icmp_ltN 78 d_Mo_faultAt_58 (by decide) (by omega) (by omega) (fun c1 => ?_) (fun c1 => ?_)
  · refine jr_iconst ((nI (1))) d_Mo_faultAt_78 (by decide) ?_
    exact jr_iretE d_Mo_faultAt_79 rfl (by rw [if_neg (by omega)]) (rfl) (by decide) (by decide)
  · refine jr_aload_n d_Mo_faultAt_61 rfl ?_
    refine jr_getf d_Mo_faultAt_62 f_Mo_faultAt_179 hO rfl ?_
    refine jr_iload d_Mo_faultAt_65 rfl ?_
    refine jr_isubN d_Mo_faultAt_67 (by omega) ?_
    refine jr_aload_n d_Mo_faultAt_68 rfl ?_
    refine jr_iload_n d_Mo_faultAt_69 rfl ?_
    refine jr_callV (As := [.int (nI 23)]) d_Mo_faultAt_70 k_Mo_faultAt_182 hO rfl rfl rfl (Nat.le_of_ble_eq_true rfl) (by decide) (by decide) (mo_puts hl hO hw (by omega)) ?_
    show jl_W l G m_Mo_faultAt (0, 0) 73 [some (.ref 22), some (.int (nI m)), some (.int (nI pc)), some (.int (nI 23)), some (.int (nI 1)), none] [.int (nI 0), .int (nI ((h) - (1)))] (σ) (.inl (some (.int (nI (if 1 ≤ h ∧ h - 1 + 0 ≤ 5 then (if (true) = true then 0 else 2) else 1))))) (σ)
    refine jr_iaddN d_Mo_faultAt_73 ?_
    refine jr_iconst ((nI (5))) d_Mo_faultAt_74 (by decide) ?_
    refine jr_icmp_leN 80 d_Mo_faultAt_75 (by decide) (by omega) (by omega) (fun c2 => ?_) (fun c2 => ?_)
    · refine jr_iload_n d_Mo_faultAt_80 rfl ?_
      refine jr_iconst ((nI (1))) d_Mo_faultAt_81 (by decide) ?_
      refine jr_icmp_ne 107 d_Mo_faultAt_82 (by decide) (fun _ => ?_) (fun z => absurd z (by decide))
      refine jr_iconst ((nI (0))) d_Mo_faultAt_107 (by decide) ?_
      refine jr_istore d_Mo_faultAt_108 (by decide) ?_
      show jl_W l G m_Mo_faultAt (0, 0) 110 [some (.ref 22), some (.int (nI m)), some (.int (nI pc)), some (.int (nI 23)), some (.int (nI 1)), some (.int (nI 0))] [] (σ) (.inl (some (.int (nI (if 1 ≤ h ∧ h - 1 + 0 ≤ 5 then (if (true) = true then 0 else 2) else 1))))) (σ)
      refine jr_iload d_Mo_faultAt_110 rfl ?_
      refine jr_iload d_Mo_faultAt_112 rfl ?_
      refine jr_icmp_ge 151 d_Mo_faultAt_114 (by decide) (fun z => absurd z (by decide)) (fun _ => ?_)
      refine jr_aload_n d_Mo_faultAt_117 rfl ?_
      refine jr_iload_n d_Mo_faultAt_118 rfl ?_
      refine jr_iload_n d_Mo_faultAt_119 rfl ?_
      refine jr_iload d_Mo_faultAt_120 rfl ?_
      refine jr_aload_n d_Mo_faultAt_122 rfl ?_
      refine jr_getf d_Mo_faultAt_123 f_Mo_faultAt_72 hO rfl ?_
      refine jr_aload_n d_Mo_faultAt_126 rfl ?_
      refine jr_getf d_Mo_faultAt_127 f_Mo_faultAt_179 hO rfl ?_
      refine jr_iload d_Mo_faultAt_130 rfl ?_
      refine jr_isubN d_Mo_faultAt_132 (by omega) ?_
      refine jr_iload d_Mo_faultAt_133 rfl ?_
      refine jr_iaddN d_Mo_faultAt_135 ?_
      refine jr_ialdQ (v := (en t0)) d_Mo_faultAt_136 r2 (by omega) (by omega) ((congrArg (fun j => en (sk j)) (show ((h) - (1)) + (0) = h - 1 - 0 by omega)).trans (congrArg en (e_0 (by omega)))) ?_
      refine jr_callV (As := [.int (nI m), .int (nI pc), .int (nI 0), .int (en t0)]) d_Mo_faultAt_137 k_Mo_faultAt_185 hO rfl rfl rfl (Nat.le_of_ble_eq_true rfl) (by decide) (by decide) (mo_fit_23_0 hl hO hw hu hok hK hm hpc ho hx ht0) ?_
      show jl_W l G m_Mo_faultAt (0, 0) 140 [some (.ref 22), some (.int (nI m)), some (.int (nI pc)), some (.int (nI 23)), some (.int (nI 1)), some (.int (nI 0))] [.int (nI 1)] (σ) (.inl (some (.int (nI (if 1 ≤ h ∧ h - 1 + 0 ≤ 5 then (if (true) = true then 0 else 2) else 1))))) (σ)
      refine jr_if_ne 145 d_Mo_faultAt_140 (by decide) (fun _ => ?_) (fun z => absurd z (by decide))
      refine jr_iinc ((nI (0 + 1))) d_Mo_faultAt_145 (by decide) rfl (jl_inc _) ?_
      show jl_W l G m_Mo_faultAt (0, 0) 148 [some (.ref 22), some (.int (nI m)), some (.int (nI pc)), some (.int (nI 23)), some (.int (nI 1)), some (.int (nI (0 + 1)))] [] (σ) (.inl (some (.int (nI (if 1 ≤ h ∧ h - 1 + 0 ≤ 5 then (if (true) = true then 0 else 2) else 1))))) (σ)
      refine jr_goto 110 d_Mo_faultAt_148 (by decide) ?_
      show jl_W l G m_Mo_faultAt (0, 0) 110 [some (.ref 22), some (.int (nI m)), some (.int (nI pc)), some (.int (nI 23)), some (.int (nI 1)), some (.int (nI 1))] [] (σ) (.inl (some (.int (nI (if 1 ≤ h ∧ h - 1 + 0 ≤ 5 then (if (true) = true then 0 else 2) else 1))))) (σ)
      refine jr_iload d_Mo_faultAt_110 rfl ?_
      refine jr_iload d_Mo_faultAt_112 rfl ?_
      refine jr_icmp_ge 151 d_Mo_faultAt_114 (by decide) (fun _ => ?_) (fun z => absurd (by decide) z)
      refine jr_iconst ((nI (0))) d_Mo_faultAt_151 (by decide) ?_
      exact jr_iretE d_Mo_faultAt_152 rfl (by rw [if_pos (by omega), if_pos (by simp [Bool.and_self])]) (rfl) (by decide) (by decide)
    · refine jr_iconst ((nI (1))) d_Mo_faultAt_78 (by decide) ?_
      exact jr_iretE d_Mo_faultAt_79 rfl (by rw [if_neg (by omega)]) (rfl) (by decide) (by decide)
theorem mo_fa_24 (hl : l.stackTraces = false) {m pc h : Nat} {x : Int32} {t0 : Option Nat} (hO : MoO σ fa vf wh wy (nI (h)) dp md ov oh dn an) (hw : MoW σ tb pr ow ft hs) (hu : MoM σ u1 u2 ur ul uo ua uc us ut uk) (hr : MoR σ lo sk) (hok : WoOk tb pr ow fi) (hK : MoK u1 u2 ur ul uo uc us ut uk) (hm : m < 24) (hpc : pc < 24) (ho : uo (24 * m + pc) = 24) (hx : ua (24 * m + pc) = x) (hh5 : h ≤ 5) (e_0 : 0 < h → sk (h - 1 - 0) = t0) (ht0 : ob 16 t0) : jl_W l G m_Mo_faultAt (0, 0) 22 [some (.ref 22), some (.int (nI m)), some (.int (nI pc)), none, none, none] [] σ (.inl (some (.int (nI (if 1 ≤ h ∧ h - 1 + 2 ≤ 5 then (if (true) = true then 0 else 2) else 1))))) (σ) := by
  obtain ⟨h23, h24, h25, h26, h27⟩ := id hw
  obtain ⟨h28, h29, h30, h31, h32, h33, h34, h35, h36, h37⟩ := id hu
  obtain ⟨r1, r2⟩ := id hr
  obtain ⟨hk1, hk2, hk3, hk4, hk5, hk6⟩ := hK.1 m hm
  refine jr_aload_n d_Mo_faultAt_22 rfl ?_
  refine jr_getf d_Mo_faultAt_23 f_Mo_faultAt_38 hO rfl ?_
  refine jr_bipush ((nI (24))) d_Mo_faultAt_26 (by decide) ?_
  refine jr_iload_n d_Mo_faultAt_28 rfl ?_
  refine jr_imulN d_Mo_faultAt_29 ?_
  refine jr_iload_n d_Mo_faultAt_30 rfl ?_
  refine jr_iaddN d_Mo_faultAt_31 ?_
  refine jr_ialdQ (v := (nI (24))) d_Mo_faultAt_32 h32 (by omega) (by omega) (congrArg nI ho) ?_
  refine jr_istore_n d_Mo_faultAt_33 (by decide) ?_
  show jl_W l G m_Mo_faultAt (0, 0) 34 [some (.ref 22), some (.int (nI m)), some (.int (nI pc)), some (.int (nI 24)), none, none] [] (σ) (.inl (some (.int (nI (if 1 ≤ h ∧ h - 1 + 2 ≤ 5 then (if (true) = true then 0 else 2) else 1))))) (σ)
  refine jr_aload_n d_Mo_faultAt_34 rfl ?_
  refine jr_iload_n d_Mo_faultAt_35 rfl ?_
  refine jr_aload_n d_Mo_faultAt_36 rfl ?_
  refine jr_getf d_Mo_faultAt_37 f_Mo_faultAt_41 hO rfl ?_
  refine jr_bipush ((nI (24))) d_Mo_faultAt_40 (by decide) ?_
  refine jr_iload_n d_Mo_faultAt_42 rfl ?_
  refine jr_imulN d_Mo_faultAt_43 ?_
  refine jr_iload_n d_Mo_faultAt_44 rfl ?_
  refine jr_iaddN d_Mo_faultAt_45 ?_
  refine jr_ialdQ (v := (x)) d_Mo_faultAt_46 h33 (by omega) (by omega) (hx) ?_
  refine jr_callV (As := [.int (nI 24), .int (x)]) d_Mo_faultAt_47 k_Mo_faultAt_176 hO rfl rfl rfl (Nat.le_of_ble_eq_true rfl) (by decide) (by decide) (mo_tk_24 hl hO hw hu) ?_
  show jl_W l G m_Mo_faultAt (0, 0) 50 [some (.ref 22), some (.int (nI m)), some (.int (nI pc)), some (.int (nI 24)), none, none] [.int (nI 1)] (σ) (.inl (some (.int (nI (if 1 ≤ h ∧ h - 1 + 2 ≤ 5 then (if (true) = true then 0 else 2) else 1))))) (σ)
  refine jr_istore d_Mo_faultAt_50 (by decide) ?_
  show jl_W l G m_Mo_faultAt (0, 0) 52 [some (.ref 22), some (.int (nI m)), some (.int (nI pc)), some (.int (nI 24)), some (.int (nI 1)), none] [] (σ) (.inl (some (.int (nI (if 1 ≤ h ∧ h - 1 + 2 ≤ 5 then (if (true) = true then 0 else 2) else 1))))) (σ)
  refine jr_aload_n d_Mo_faultAt_52 rfl ?_
  refine jr_getf d_Mo_faultAt_53 f_Mo_faultAt_179 hO rfl ?_
  refine jr_iload d_Mo_faultAt_56 rfl ?_
  refine jr_icmp_ltN 78 d_Mo_faultAt_58 (by decide) (by omega) (by omega) (fun c1 => ?_) (fun c1 => ?_)
  · refine jr_iconst ((nI (1))) d_Mo_faultAt_78 (by decide) ?_
    exact jr_iretE d_Mo_faultAt_79 rfl (by rw [if_neg (by omega)]) (rfl) (by decide) (by decide)
  · refine jr_aload_n d_Mo_faultAt_61 rfl ?_
    refine jr_getf d_Mo_faultAt_62 f_Mo_faultAt_179 hO rfl ?_
    refine jr_iload d_Mo_faultAt_65 rfl ?_
    refine jr_isubN d_Mo_faultAt_67 (by omega) ?_
    refine jr_aload_n d_Mo_faultAt_68 rfl ?_
    refine jr_iload_n d_Mo_faultAt_69 rfl ?_
    refine jr_callV (As := [.int (nI 24)]) d_Mo_faultAt_70 k_Mo_faultAt_182 hO rfl rfl rfl (Nat.le_of_ble_eq_true rfl) (by decide) (by decide) (mo_puts hl hO hw (by omega)) ?_
    show jl_W l G m_Mo_faultAt (0, 0) 73 [some (.ref 22), some (.int (nI m)), some (.int (nI pc)), some (.int (nI 24)), some (.int (nI 1)), none] [.int (nI 2), .int (nI ((h) - (1)))] (σ) (.inl (some (.int (nI (if 1 ≤ h ∧ h - 1 + 2 ≤ 5 then (if (true) = true then 0 else 2) else 1))))) (σ)
    refine jr_iaddN d_Mo_faultAt_73 ?_
    refine jr_iconst ((nI (5))) d_Mo_faultAt_74 (by decide) ?_
    refine jr_icmp_leN 80 d_Mo_faultAt_75 (by decide) (by omega) (by omega) (fun c2 => ?_) (fun c2 => ?_)
    · refine jr_iload_n d_Mo_faultAt_80 rfl ?_
      refine jr_iconst ((nI (1))) d_Mo_faultAt_81 (by decide) ?_
      refine jr_icmp_ne 107 d_Mo_faultAt_82 (by decide) (fun _ => ?_) (fun z => absurd z (by decide))
      refine jr_iconst ((nI (0))) d_Mo_faultAt_107 (by decide) ?_
      refine jr_istore d_Mo_faultAt_108 (by decide) ?_
      show jl_W l G m_Mo_faultAt (0, 0) 110 [some (.ref 22), some (.int (nI m)), some (.int (nI pc)), some (.int (nI 24)), some (.int (nI 1)), some (.int (nI 0))] [] (σ) (.inl (some (.int (nI (if 1 ≤ h ∧ h - 1 + 2 ≤ 5 then (if (true) = true then 0 else 2) else 1))))) (σ)
      refine jr_iload d_Mo_faultAt_110 rfl ?_
      refine jr_iload d_Mo_faultAt_112 rfl ?_
      refine jr_icmp_ge 151 d_Mo_faultAt_114 (by decide) (fun z => absurd z (by decide)) (fun _ => ?_)
      refine jr_aload_n d_Mo_faultAt_117 rfl ?_
      refine jr_iload_n d_Mo_faultAt_118 rfl ?_
      refine jr_iload_n d_Mo_faultAt_119 rfl ?_
      refine jr_iload d_Mo_faultAt_120 rfl ?_
      refine jr_aload_n d_Mo_faultAt_122 rfl ?_
      refine jr_getf d_Mo_faultAt_123 f_Mo_faultAt_72 hO rfl ?_
      refine jr_aload_n d_Mo_faultAt_126 rfl ?_
      refine jr_getf d_Mo_faultAt_127 f_Mo_faultAt_179 hO rfl ?_
      refine jr_iload d_Mo_faultAt_130 rfl ?_
      refine jr_isubN d_Mo_faultAt_132 (by omega) ?_
      refine jr_iload d_Mo_faultAt_133 rfl ?_
      refine jr_iaddN d_Mo_faultAt_135 ?_
      refine jr_ialdQ (v := (en t0)) d_Mo_faultAt_136 r2 (by omega) (by omega) ((congrArg (fun j => en (sk j)) (show ((h) - (1)) + (0) = h - 1 - 0 by omega)).trans (congrArg en (e_0 (by omega)))) ?_
      refine jr_callV (As := [.int (nI m), .int (nI pc), .int (nI 0), .int (en t0)]) d_Mo_faultAt_137 k_Mo_faultAt_185 hO rfl rfl rfl (Nat.le_of_ble_eq_true rfl) (by decide) (by decide) (mo_fit_24_0 hl hO hw hu hok hK hm hpc ho hx ht0) ?_
      show jl_W l G m_Mo_faultAt (0, 0) 140 [some (.ref 22), some (.int (nI m)), some (.int (nI pc)), some (.int (nI 24)), some (.int (nI 1)), some (.int (nI 0))] [.int (nI 1)] (σ) (.inl (some (.int (nI (if 1 ≤ h ∧ h - 1 + 2 ≤ 5 then (if (true) = true then 0 else 2) else 1))))) (σ)
      refine jr_if_ne 145 d_Mo_faultAt_140 (by decide) (fun _ => ?_) (fun z => absurd z (by decide))
      refine jr_iinc ((nI (0 + 1))) d_Mo_faultAt_145 (by decide) rfl (jl_inc _) ?_
      show jl_W l G m_Mo_faultAt (0, 0) 148 [some (.ref 22), some (.int (nI m)), some (.int (nI pc)), some (.int (nI 24)), some (.int (nI 1)), some (.int (nI (0 + 1)))] [] (σ) (.inl (some (.int (nI (if 1 ≤ h ∧ h - 1 + 2 ≤ 5 then (if (true) = true then 0 else 2) else 1))))) (σ)
      refine jr_goto 110 d_Mo_faultAt_148 (by decide) ?_
      show jl_W l G m_Mo_faultAt (0, 0) 110 [some (.ref 22), some (.int (nI m)), some (.int (nI pc)), some (.int (nI 24)), some (.int (nI 1)), some (.int (nI 1))] [] (σ) (.inl (some (.int (nI (if 1 ≤ h ∧ h - 1 + 2 ≤ 5 then (if (true) = true then 0 else 2) else 1))))) (σ)
      refine jr_iload d_Mo_faultAt_110 rfl ?_
      refine jr_iload d_Mo_faultAt_112 rfl ?_
      refine jr_icmp_ge 151 d_Mo_faultAt_114 (by decide) (fun _ => ?_) (fun z => absurd (by decide) z)
      refine jr_iconst ((nI (0))) d_Mo_faultAt_151 (by decide) ?_
      exact jr_iretE d_Mo_faultAt_152 rfl (by rw [if_pos (by omega), if_pos (by simp [Bool.and_self])]) (rfl) (by decide) (by decide)
    · refine jr_iconst ((nI (1))) d_Mo_faultAt_78 (by decide) ?_
      exact jr_iretE d_Mo_faultAt_79 rfl (by rw [if_neg (by omega)]) (rfl) (by decide) (by decide)
theorem mo_fa_25 (hl : l.stackTraces = false) {m pc h : Nat} {x : Int32} {t0 : Nat} {t1 : Nat} (hO : MoO σ fa vf wh wy (nI (h)) dp md ov oh dn an) (hw : MoW σ tb pr ow ft hs) (hu : MoM σ u1 u2 ur ul uo ua uc us ut uk) (hr : MoR σ lo sk) (hok : WoOk tb pr ow fi) (hK : MoK u1 u2 ur ul uo uc us ut uk) (hm : m < 24) (hpc : pc < 24) (ho : uo (24 * m + pc) = 25) (hx : ua (24 * m + pc) = x) (hh5 : h ≤ 5) (e_0 : 2 ≤ h → sk (h - 1 - 0) = some t0) (ht0 : t0 < 16) (hv0 : t0 ≤ 2 ∨ 10 ≤ t0) (e_1 : 2 ≤ h → sk (h - 1 - 1) = some t1) (ht1 : t1 < 16) (hv1 : t1 ≤ 2 ∨ 10 ≤ t1) : jl_W l G m_Mo_faultAt (0, 0) 22 [some (.ref 22), some (.int (nI m)), some (.int (nI pc)), none, none, none] [] σ (.inl (some (.int (nI (if 2 ≤ h ∧ h - 2 + 1 ≤ 5 then (if (!isI (some t1) && !isI (some t0)) = true then 0 else 2) else 1))))) (σ) := by
  obtain ⟨h23, h24, h25, h26, h27⟩ := id hw
  obtain ⟨h28, h29, h30, h31, h32, h33, h34, h35, h36, h37⟩ := id hu
  obtain ⟨r1, r2⟩ := id hr
  obtain ⟨hk1, hk2, hk3, hk4, hk5, hk6⟩ := hK.1 m hm
  refine jr_aload_n d_Mo_faultAt_22 rfl ?_
  refine jr_getf d_Mo_faultAt_23 f_Mo_faultAt_38 hO rfl ?_
  refine jr_bipush ((nI (24))) d_Mo_faultAt_26 (by decide) ?_
  refine jr_iload_n d_Mo_faultAt_28 rfl ?_
  refine jr_imulN d_Mo_faultAt_29 ?_
  refine jr_iload_n d_Mo_faultAt_30 rfl ?_
  refine jr_iaddN d_Mo_faultAt_31 ?_
  refine jr_ialdQ (v := (nI (25))) d_Mo_faultAt_32 h32 (by omega) (by omega) (congrArg nI ho) ?_
  refine jr_istore_n d_Mo_faultAt_33 (by decide) ?_
  show jl_W l G m_Mo_faultAt (0, 0) 34 [some (.ref 22), some (.int (nI m)), some (.int (nI pc)), some (.int (nI 25)), none, none] [] (σ) (.inl (some (.int (nI (if 2 ≤ h ∧ h - 2 + 1 ≤ 5 then (if (!isI (some t1) && !isI (some t0)) = true then 0 else 2) else 1))))) (σ)
  refine jr_aload_n d_Mo_faultAt_34 rfl ?_
  refine jr_iload_n d_Mo_faultAt_35 rfl ?_
  refine jr_aload_n d_Mo_faultAt_36 rfl ?_
  refine jr_getf d_Mo_faultAt_37 f_Mo_faultAt_41 hO rfl ?_
  refine jr_bipush ((nI (24))) d_Mo_faultAt_40 (by decide) ?_
  refine jr_iload_n d_Mo_faultAt_42 rfl ?_
  refine jr_imulN d_Mo_faultAt_43 ?_
  refine jr_iload_n d_Mo_faultAt_44 rfl ?_
  refine jr_iaddN d_Mo_faultAt_45 ?_
  refine jr_ialdQ (v := (x)) d_Mo_faultAt_46 h33 (by omega) (by omega) (hx) ?_
  refine jr_callV (As := [.int (nI 25), .int (x)]) d_Mo_faultAt_47 k_Mo_faultAt_176 hO rfl rfl rfl (Nat.le_of_ble_eq_true rfl) (by decide) (by decide) (mo_tk_25 hl hO hw hu) ?_
  show jl_W l G m_Mo_faultAt (0, 0) 50 [some (.ref 22), some (.int (nI m)), some (.int (nI pc)), some (.int (nI 25)), none, none] [.int (nI 2)] (σ) (.inl (some (.int (nI (if 2 ≤ h ∧ h - 2 + 1 ≤ 5 then (if (!isI (some t1) && !isI (some t0)) = true then 0 else 2) else 1))))) (σ)
  refine jr_istore d_Mo_faultAt_50 (by decide) ?_
  show jl_W l G m_Mo_faultAt (0, 0) 52 [some (.ref 22), some (.int (nI m)), some (.int (nI pc)), some (.int (nI 25)), some (.int (nI 2)), none] [] (σ) (.inl (some (.int (nI (if 2 ≤ h ∧ h - 2 + 1 ≤ 5 then (if (!isI (some t1) && !isI (some t0)) = true then 0 else 2) else 1))))) (σ)
  refine jr_aload_n d_Mo_faultAt_52 rfl ?_
  refine jr_getf d_Mo_faultAt_53 f_Mo_faultAt_179 hO rfl ?_
  refine jr_iload d_Mo_faultAt_56 rfl ?_
  refine jr_icmp_ltN 78 d_Mo_faultAt_58 (by decide) (by omega) (by omega) (fun c1 => ?_) (fun c1 => ?_)
  · refine jr_iconst ((nI (1))) d_Mo_faultAt_78 (by decide) ?_
    exact jr_iretE d_Mo_faultAt_79 rfl (by rw [if_neg (by omega)]) (rfl) (by decide) (by decide)
  · refine jr_aload_n d_Mo_faultAt_61 rfl ?_
    refine jr_getf d_Mo_faultAt_62 f_Mo_faultAt_179 hO rfl ?_
    refine jr_iload d_Mo_faultAt_65 rfl ?_
    refine jr_isubN d_Mo_faultAt_67 (by omega) ?_
    refine jr_aload_n d_Mo_faultAt_68 rfl ?_
    refine jr_iload_n d_Mo_faultAt_69 rfl ?_
    refine jr_callV (As := [.int (nI 25)]) d_Mo_faultAt_70 k_Mo_faultAt_182 hO rfl rfl rfl (Nat.le_of_ble_eq_true rfl) (by decide) (by decide) (mo_puts hl hO hw (by omega)) ?_
    show jl_W l G m_Mo_faultAt (0, 0) 73 [some (.ref 22), some (.int (nI m)), some (.int (nI pc)), some (.int (nI 25)), some (.int (nI 2)), none] [.int (nI 1), .int (nI ((h) - (2)))] (σ) (.inl (some (.int (nI (if 2 ≤ h ∧ h - 2 + 1 ≤ 5 then (if (!isI (some t1) && !isI (some t0)) = true then 0 else 2) else 1))))) (σ)
    refine jr_iaddN d_Mo_faultAt_73 ?_
    refine jr_iconst ((nI (5))) d_Mo_faultAt_74 (by decide) ?_
    refine jr_icmp_leN 80 d_Mo_faultAt_75 (by decide) (by omega) (by omega) (fun c2 => ?_) (fun c2 => ?_)
    · refine jr_iload_n d_Mo_faultAt_80 rfl ?_
      refine jr_iconst ((nI (1))) d_Mo_faultAt_81 (by decide) ?_
      refine jr_icmp_ne 107 d_Mo_faultAt_82 (by decide) (fun _ => ?_) (fun z => absurd z (by decide))
      refine jr_iconst ((nI (0))) d_Mo_faultAt_107 (by decide) ?_
      refine jr_istore d_Mo_faultAt_108 (by decide) ?_
      show jl_W l G m_Mo_faultAt (0, 0) 110 [some (.ref 22), some (.int (nI m)), some (.int (nI pc)), some (.int (nI 25)), some (.int (nI 2)), some (.int (nI 0))] [] (σ) (.inl (some (.int (nI (if 2 ≤ h ∧ h - 2 + 1 ≤ 5 then (if (!isI (some t1) && !isI (some t0)) = true then 0 else 2) else 1))))) (σ)
      refine jr_iload d_Mo_faultAt_110 rfl ?_
      refine jr_iload d_Mo_faultAt_112 rfl ?_
      refine jr_icmp_ge 151 d_Mo_faultAt_114 (by decide) (fun z => absurd z (by decide)) (fun _ => ?_)
      refine jr_aload_n d_Mo_faultAt_117 rfl ?_
      refine jr_iload_n d_Mo_faultAt_118 rfl ?_
      refine jr_iload_n d_Mo_faultAt_119 rfl ?_
      refine jr_iload d_Mo_faultAt_120 rfl ?_
      refine jr_aload_n d_Mo_faultAt_122 rfl ?_
      refine jr_getf d_Mo_faultAt_123 f_Mo_faultAt_72 hO rfl ?_
      refine jr_aload_n d_Mo_faultAt_126 rfl ?_
      refine jr_getf d_Mo_faultAt_127 f_Mo_faultAt_179 hO rfl ?_
      refine jr_iload d_Mo_faultAt_130 rfl ?_
      refine jr_isubN d_Mo_faultAt_132 (by omega) ?_
      refine jr_iload d_Mo_faultAt_133 rfl ?_
      refine jr_iaddN d_Mo_faultAt_135 ?_
      refine jr_ialdQ (v := (nI (t1))) d_Mo_faultAt_136 r2 (by omega) (by omega) ((congrArg (fun j => en (sk j)) (show ((h) - (2)) + (0) = h - 1 - 1 by omega)).trans (congrArg en (e_1 (by omega)))) ?_
      refine jr_callV (As := [.int (nI m), .int (nI pc), .int (nI 0), .int (nI t1)]) d_Mo_faultAt_137 k_Mo_faultAt_185 hO rfl rfl rfl (Nat.le_of_ble_eq_true rfl) (by decide) (by decide) (mo_fit_25_0 hl hO hw hu hok hK hm hpc ho hx ht1 hv1) ?_
      show jl_W l G m_Mo_faultAt (0, 0) 140 [some (.ref 22), some (.int (nI m)), some (.int (nI pc)), some (.int (nI 25)), some (.int (nI 2)), some (.int (nI 0))] [.int (bi (!isI (some t1)))] (σ) (.inl (some (.int (nI (if 2 ≤ h ∧ h - 2 + 1 ≤ 5 then (if (!isI (some t1) && !isI (some t0)) = true then 0 else 2) else 1))))) (σ)
      refine jr_if_ne 145 d_Mo_faultAt_140 (by decide) (fun c3 => ?_) (fun c3 => ?_)
      · refine jr_iinc ((nI (0 + 1))) d_Mo_faultAt_145 (by decide) rfl (jl_inc _) ?_
        show jl_W l G m_Mo_faultAt (0, 0) 148 [some (.ref 22), some (.int (nI m)), some (.int (nI pc)), some (.int (nI 25)), some (.int (nI 2)), some (.int (nI (0 + 1)))] [] (σ) (.inl (some (.int (nI (if 2 ≤ h ∧ h - 2 + 1 ≤ 5 then (if (!isI (some t1) && !isI (some t0)) = true then 0 else 2) else 1))))) (σ)
        refine jr_goto 110 d_Mo_faultAt_148 (by decide) ?_
        show jl_W l G m_Mo_faultAt (0, 0) 110 [some (.ref 22), some (.int (nI m)), some (.int (nI pc)), some (.int (nI 25)), some (.int (nI 2)), some (.int (nI 1))] [] (σ) (.inl (some (.int (nI (if 2 ≤ h ∧ h - 2 + 1 ≤ 5 then (if (!isI (some t1) && !isI (some t0)) = true then 0 else 2) else 1))))) (σ)
        refine jr_iload d_Mo_faultAt_110 rfl ?_
        refine jr_iload d_Mo_faultAt_112 rfl ?_
        refine jr_icmp_ge 151 d_Mo_faultAt_114 (by decide) (fun z => absurd z (by decide)) (fun _ => ?_)
        refine jr_aload_n d_Mo_faultAt_117 rfl ?_
        refine jr_iload_n d_Mo_faultAt_118 rfl ?_
        refine jr_iload_n d_Mo_faultAt_119 rfl ?_
        refine jr_iload d_Mo_faultAt_120 rfl ?_
        refine jr_aload_n d_Mo_faultAt_122 rfl ?_
        refine jr_getf d_Mo_faultAt_123 f_Mo_faultAt_72 hO rfl ?_
        refine jr_aload_n d_Mo_faultAt_126 rfl ?_
        refine jr_getf d_Mo_faultAt_127 f_Mo_faultAt_179 hO rfl ?_
        refine jr_iload d_Mo_faultAt_130 rfl ?_
        refine jr_isubN d_Mo_faultAt_132 (by omega) ?_
        refine jr_iload d_Mo_faultAt_133 rfl ?_
        refine jr_iaddN d_Mo_faultAt_135 ?_
        refine jr_ialdQ (v := (nI (t0))) d_Mo_faultAt_136 r2 (by omega) (by omega) ((congrArg (fun j => en (sk j)) (show ((h) - (2)) + (1) = h - 1 - 0 by omega)).trans (congrArg en (e_0 (by omega)))) ?_
        refine jr_callV (As := [.int (nI m), .int (nI pc), .int (nI 1), .int (nI t0)]) d_Mo_faultAt_137 k_Mo_faultAt_185 hO rfl rfl rfl (Nat.le_of_ble_eq_true rfl) (by decide) (by decide) (mo_fit_25_1 hl hO hw hu hok hK hm hpc ho hx ht0 hv0) ?_
        show jl_W l G m_Mo_faultAt (0, 0) 140 [some (.ref 22), some (.int (nI m)), some (.int (nI pc)), some (.int (nI 25)), some (.int (nI 2)), some (.int (nI 1))] [.int (bi (!isI (some t0)))] (σ) (.inl (some (.int (nI (if 2 ≤ h ∧ h - 2 + 1 ≤ 5 then (if (!isI (some t1) && !isI (some t0)) = true then 0 else 2) else 1))))) (σ)
        refine jr_if_ne 145 d_Mo_faultAt_140 (by decide) (fun c4 => ?_) (fun c4 => ?_)
        · refine jr_iinc ((nI (1 + 1))) d_Mo_faultAt_145 (by decide) rfl (jl_inc _) ?_
          show jl_W l G m_Mo_faultAt (0, 0) 148 [some (.ref 22), some (.int (nI m)), some (.int (nI pc)), some (.int (nI 25)), some (.int (nI 2)), some (.int (nI (1 + 1)))] [] (σ) (.inl (some (.int (nI (if 2 ≤ h ∧ h - 2 + 1 ≤ 5 then (if (!isI (some t1) && !isI (some t0)) = true then 0 else 2) else 1))))) (σ)
          refine jr_goto 110 d_Mo_faultAt_148 (by decide) ?_
          show jl_W l G m_Mo_faultAt (0, 0) 110 [some (.ref 22), some (.int (nI m)), some (.int (nI pc)), some (.int (nI 25)), some (.int (nI 2)), some (.int (nI 2))] [] (σ) (.inl (some (.int (nI (if 2 ≤ h ∧ h - 2 + 1 ≤ 5 then (if (!isI (some t1) && !isI (some t0)) = true then 0 else 2) else 1))))) (σ)
          refine jr_iload d_Mo_faultAt_110 rfl ?_
          refine jr_iload d_Mo_faultAt_112 rfl ?_
          refine jr_icmp_ge 151 d_Mo_faultAt_114 (by decide) (fun _ => ?_) (fun z => absurd (by decide) z)
          refine jr_iconst ((nI (0))) d_Mo_faultAt_151 (by decide) ?_
          exact jr_iretE d_Mo_faultAt_152 rfl (by rw [if_pos (by omega), if_pos (by simp [bi_nf c3, bi_nf c4])]) (rfl) (by decide) (by decide)
        · refine jr_iconst ((nI (2))) d_Mo_faultAt_143 (by decide) ?_
          exact jr_iretE d_Mo_faultAt_144 rfl (by rw [if_pos (by omega), if_neg (by simp [bi_nf c3, bi_0.mp c4])]) (rfl) (by decide) (by decide)
      · refine jr_iconst ((nI (2))) d_Mo_faultAt_143 (by decide) ?_
        exact jr_iretE d_Mo_faultAt_144 rfl (by rw [if_pos (by omega), if_neg (by simp [bi_0.mp c3])]) (rfl) (by decide) (by decide)
    · refine jr_iconst ((nI (1))) d_Mo_faultAt_78 (by decide) ?_
      exact jr_iretE d_Mo_faultAt_79 rfl (by rw [if_neg (by omega)]) (rfl) (by decide) (by decide)
theorem mo_fa_14_0 (hl : l.stackTraces = false) {m pc h : Nat} {n : Nat} {t0 : Option Nat} {c : Nat} (hO : MoO σ fa vf wh wy (nI (h)) dp md ov oh dn an) (hw : MoW σ tb pr ow ft hs) (hu : MoM σ u1 u2 ur ul uo ua uc us ut uk) (hr : MoR σ lo sk) (hok : WoOk tb pr ow fi) (hK : MoK u1 u2 ur ul uo uc us ut uk) (hm : m < 24) (hpc : pc < 24) (ho : uo (24 * m + pc) = 14) (hx : ua (24 * m + pc) = nI n) (hh5 : h ≤ 5) (e_0 : 0 < h → sk (h - 1 - 0) = t0) (ht0 : ob 16 t0) (hn : n < 2 ^ 31) (hk : n / 4 < 6) (hmo : mmo pr hs (n % 4) 6 (some (n / 4)) = some c) (hc : c < 24) (e1 : u1 c = none) (e2 : u2 c = none) (hp : ob 16 (none)) (hq : ob 16 (none)) : jl_W l G m_Mo_faultAt (0, 0) 22 [some (.ref 22), some (.int (nI m)), some (.int (nI pc)), none, none, none] [] σ (.inl (some (.int (nI (if 1 ≤ h ∧ h - 1 + 1 ≤ 5 then (if (part pr t0 (some (10 + n / 4))) = true then 0 else 2) else 1))))) (σ) := by
  obtain ⟨h23, h24, h25, h26, h27⟩ := id hw
  obtain ⟨h28, h29, h30, h31, h32, h33, h34, h35, h36, h37⟩ := id hu
  obtain ⟨r1, r2⟩ := id hr
  obtain ⟨hk1, hk2, hk3, hk4, hk5, hk6⟩ := hK.1 m hm
  refine jr_aload_n d_Mo_faultAt_22 rfl ?_
  refine jr_getf d_Mo_faultAt_23 f_Mo_faultAt_38 hO rfl ?_
  refine jr_bipush ((nI (24))) d_Mo_faultAt_26 (by decide) ?_
  refine jr_iload_n d_Mo_faultAt_28 rfl ?_
  refine jr_imulN d_Mo_faultAt_29 ?_
  refine jr_iload_n d_Mo_faultAt_30 rfl ?_
  refine jr_iaddN d_Mo_faultAt_31 ?_
  refine jr_ialdQ (v := (nI (14))) d_Mo_faultAt_32 h32 (by omega) (by omega) (congrArg nI ho) ?_
  refine jr_istore_n d_Mo_faultAt_33 (by decide) ?_
  show jl_W l G m_Mo_faultAt (0, 0) 34 [some (.ref 22), some (.int (nI m)), some (.int (nI pc)), some (.int (nI 14)), none, none] [] (σ) (.inl (some (.int (nI (if 1 ≤ h ∧ h - 1 + 1 ≤ 5 then (if (part pr t0 (some (10 + n / 4))) = true then 0 else 2) else 1))))) (σ)
  refine jr_aload_n d_Mo_faultAt_34 rfl ?_
  refine jr_iload_n d_Mo_faultAt_35 rfl ?_
  refine jr_aload_n d_Mo_faultAt_36 rfl ?_
  refine jr_getf d_Mo_faultAt_37 f_Mo_faultAt_41 hO rfl ?_
  refine jr_bipush ((nI (24))) d_Mo_faultAt_40 (by decide) ?_
  refine jr_iload_n d_Mo_faultAt_42 rfl ?_
  refine jr_imulN d_Mo_faultAt_43 ?_
  refine jr_iload_n d_Mo_faultAt_44 rfl ?_
  refine jr_iaddN d_Mo_faultAt_45 ?_
  refine jr_ialdQ (v := (nI (n))) d_Mo_faultAt_46 h33 (by omega) (by omega) (hx) ?_
  refine jr_callV (As := [.int (nI 14), .int (nI n)]) d_Mo_faultAt_47 k_Mo_faultAt_176 hO rfl rfl rfl (Nat.le_of_ble_eq_true rfl) (by decide) (by decide) (mo_tk_14 hl hO hw hu hok hn hk hmo hc e1 e2 hp hq) ?_
  show jl_W l G m_Mo_faultAt (0, 0) 50 [some (.ref 22), some (.int (nI m)), some (.int (nI pc)), some (.int (nI 14)), none, none] [.int (nI 1)] (σ) (.inl (some (.int (nI (if 1 ≤ h ∧ h - 1 + 1 ≤ 5 then (if (part pr t0 (some (10 + n / 4))) = true then 0 else 2) else 1))))) (σ)
  refine jr_istore d_Mo_faultAt_50 (by decide) ?_
  show jl_W l G m_Mo_faultAt (0, 0) 52 [some (.ref 22), some (.int (nI m)), some (.int (nI pc)), some (.int (nI 14)), some (.int (nI 1)), none] [] (σ) (.inl (some (.int (nI (if 1 ≤ h ∧ h - 1 + 1 ≤ 5 then (if (part pr t0 (some (10 + n / 4))) = true then 0 else 2) else 1))))) (σ)
  refine jr_aload_n d_Mo_faultAt_52 rfl ?_
  refine jr_getf d_Mo_faultAt_53 f_Mo_faultAt_179 hO rfl ?_
  refine jr_iload d_Mo_faultAt_56 rfl ?_
  refine jr_icmp_ltN 78 d_Mo_faultAt_58 (by decide) (by omega) (by omega) (fun c1 => ?_) (fun c1 => ?_)
  · refine jr_iconst ((nI (1))) d_Mo_faultAt_78 (by decide) ?_
    exact jr_iretE d_Mo_faultAt_79 rfl (by rw [if_neg (by omega)]) (rfl) (by decide) (by decide)
  · refine jr_aload_n d_Mo_faultAt_61 rfl ?_
    refine jr_getf d_Mo_faultAt_62 f_Mo_faultAt_179 hO rfl ?_
    refine jr_iload d_Mo_faultAt_65 rfl ?_
    refine jr_isubN d_Mo_faultAt_67 (by omega) ?_
    refine jr_aload_n d_Mo_faultAt_68 rfl ?_
    refine jr_iload_n d_Mo_faultAt_69 rfl ?_
    refine jr_callV (As := [.int (nI 14)]) d_Mo_faultAt_70 k_Mo_faultAt_182 hO rfl rfl rfl (Nat.le_of_ble_eq_true rfl) (by decide) (by decide) (mo_puts hl hO hw (by omega)) ?_
    show jl_W l G m_Mo_faultAt (0, 0) 73 [some (.ref 22), some (.int (nI m)), some (.int (nI pc)), some (.int (nI 14)), some (.int (nI 1)), none] [.int (nI 1), .int (nI ((h) - (1)))] (σ) (.inl (some (.int (nI (if 1 ≤ h ∧ h - 1 + 1 ≤ 5 then (if (part pr t0 (some (10 + n / 4))) = true then 0 else 2) else 1))))) (σ)
    refine jr_iaddN d_Mo_faultAt_73 ?_
    refine jr_iconst ((nI (5))) d_Mo_faultAt_74 (by decide) ?_
    refine jr_icmp_leN 80 d_Mo_faultAt_75 (by decide) (by omega) (by omega) (fun c2 => ?_) (fun c2 => ?_)
    · refine jr_iload_n d_Mo_faultAt_80 rfl ?_
      refine jr_iconst ((nI (1))) d_Mo_faultAt_81 (by decide) ?_
      refine jr_icmp_ne 107 d_Mo_faultAt_82 (by decide) (fun _ => ?_) (fun z => absurd z (by decide))
      refine jr_iconst ((nI (0))) d_Mo_faultAt_107 (by decide) ?_
      refine jr_istore d_Mo_faultAt_108 (by decide) ?_
      show jl_W l G m_Mo_faultAt (0, 0) 110 [some (.ref 22), some (.int (nI m)), some (.int (nI pc)), some (.int (nI 14)), some (.int (nI 1)), some (.int (nI 0))] [] (σ) (.inl (some (.int (nI (if 1 ≤ h ∧ h - 1 + 1 ≤ 5 then (if (part pr t0 (some (10 + n / 4))) = true then 0 else 2) else 1))))) (σ)
      refine jr_iload d_Mo_faultAt_110 rfl ?_
      refine jr_iload d_Mo_faultAt_112 rfl ?_
      refine jr_icmp_ge 151 d_Mo_faultAt_114 (by decide) (fun z => absurd z (by decide)) (fun _ => ?_)
      refine jr_aload_n d_Mo_faultAt_117 rfl ?_
      refine jr_iload_n d_Mo_faultAt_118 rfl ?_
      refine jr_iload_n d_Mo_faultAt_119 rfl ?_
      refine jr_iload d_Mo_faultAt_120 rfl ?_
      refine jr_aload_n d_Mo_faultAt_122 rfl ?_
      refine jr_getf d_Mo_faultAt_123 f_Mo_faultAt_72 hO rfl ?_
      refine jr_aload_n d_Mo_faultAt_126 rfl ?_
      refine jr_getf d_Mo_faultAt_127 f_Mo_faultAt_179 hO rfl ?_
      refine jr_iload d_Mo_faultAt_130 rfl ?_
      refine jr_isubN d_Mo_faultAt_132 (by omega) ?_
      refine jr_iload d_Mo_faultAt_133 rfl ?_
      refine jr_iaddN d_Mo_faultAt_135 ?_
      refine jr_ialdQ (v := (en t0)) d_Mo_faultAt_136 r2 (by omega) (by omega) ((congrArg (fun j => en (sk j)) (show ((h) - (1)) + (0) = h - 1 - 0 by omega)).trans (congrArg en (e_0 (by omega)))) ?_
      refine jr_callV (As := [.int (nI m), .int (nI pc), .int (nI 0), .int (en t0)]) d_Mo_faultAt_137 k_Mo_faultAt_185 hO rfl rfl rfl (Nat.le_of_ble_eq_true rfl) (by decide) (by decide) (mo_fit_14_0 hl hO hw hu hok hK hm hpc ho hx ht0 hn hk hmo hc e1 e2 hp hq) ?_
      show jl_W l G m_Mo_faultAt (0, 0) 140 [some (.ref 22), some (.int (nI m)), some (.int (nI pc)), some (.int (nI 14)), some (.int (nI 1)), some (.int (nI 0))] [.int (bi (part pr t0 (some (10 + n / 4))))] (σ) (.inl (some (.int (nI (if 1 ≤ h ∧ h - 1 + 1 ≤ 5 then (if (part pr t0 (some (10 + n / 4))) = true then 0 else 2) else 1))))) (σ)
      refine jr_if_ne 145 d_Mo_faultAt_140 (by decide) (fun c3 => ?_) (fun c3 => ?_)
      · refine jr_iinc ((nI (0 + 1))) d_Mo_faultAt_145 (by decide) rfl (jl_inc _) ?_
        show jl_W l G m_Mo_faultAt (0, 0) 148 [some (.ref 22), some (.int (nI m)), some (.int (nI pc)), some (.int (nI 14)), some (.int (nI 1)), some (.int (nI (0 + 1)))] [] (σ) (.inl (some (.int (nI (if 1 ≤ h ∧ h - 1 + 1 ≤ 5 then (if (part pr t0 (some (10 + n / 4))) = true then 0 else 2) else 1))))) (σ)
        refine jr_goto 110 d_Mo_faultAt_148 (by decide) ?_
        show jl_W l G m_Mo_faultAt (0, 0) 110 [some (.ref 22), some (.int (nI m)), some (.int (nI pc)), some (.int (nI 14)), some (.int (nI 1)), some (.int (nI 1))] [] (σ) (.inl (some (.int (nI (if 1 ≤ h ∧ h - 1 + 1 ≤ 5 then (if (part pr t0 (some (10 + n / 4))) = true then 0 else 2) else 1))))) (σ)
        refine jr_iload d_Mo_faultAt_110 rfl ?_
        refine jr_iload d_Mo_faultAt_112 rfl ?_
        refine jr_icmp_ge 151 d_Mo_faultAt_114 (by decide) (fun _ => ?_) (fun z => absurd (by decide) z)
        refine jr_iconst ((nI (0))) d_Mo_faultAt_151 (by decide) ?_
        exact jr_iretE d_Mo_faultAt_152 rfl (by rw [if_pos (by omega), if_pos (by simp [bi_nf c3])]) (rfl) (by decide) (by decide)
      · refine jr_iconst ((nI (2))) d_Mo_faultAt_143 (by decide) ?_
        exact jr_iretE d_Mo_faultAt_144 rfl (by rw [if_pos (by omega), if_neg (by simp [bi_0.mp c3])]) (rfl) (by decide) (by decide)
    · refine jr_iconst ((nI (1))) d_Mo_faultAt_78 (by decide) ?_
      exact jr_iretE d_Mo_faultAt_79 rfl (by rw [if_neg (by omega)]) (rfl) (by decide) (by decide)
theorem mo_fa_14_1 (hl : l.stackTraces = false) {m pc h : Nat} {n : Nat} {t0 : Option Nat} {t1 : Option Nat} {c : Nat} {p1 : Nat} (hO : MoO σ fa vf wh wy (nI (h)) dp md ov oh dn an) (hw : MoW σ tb pr ow ft hs) (hu : MoM σ u1 u2 ur ul uo ua uc us ut uk) (hr : MoR σ lo sk) (hok : WoOk tb pr ow fi) (hK : MoK u1 u2 ur ul uo uc us ut uk) (hm : m < 24) (hpc : pc < 24) (ho : uo (24 * m + pc) = 14) (hx : ua (24 * m + pc) = nI n) (hh5 : h ≤ 5) (e_0 : 0 < h → sk (h - 1 - 0) = t0) (ht0 : ob 16 t0) (e_1 : 1 < h → sk (h - 1 - 1) = t1) (ht1 : ob 16 t1) (hn : n < 2 ^ 31) (hk : n / 4 < 6) (hmo : mmo pr hs (n % 4) 6 (some (n / 4)) = some c) (hc : c < 24) (e1 : u1 c = some p1) (e2 : u2 c = none) (hp : ob 16 (some p1)) (hq : ob 16 (none)) : jl_W l G m_Mo_faultAt (0, 0) 22 [some (.ref 22), some (.int (nI m)), some (.int (nI pc)), none, none, none] [] σ (.inl (some (.int (nI (if 2 ≤ h ∧ h - 2 + 1 ≤ 5 then (if (part pr t0 (some p1) && part pr t1 (some (10 + n / 4))) = true then 0 else 2) else 1))))) (σ) := by
  obtain ⟨h23, h24, h25, h26, h27⟩ := id hw
  obtain ⟨h28, h29, h30, h31, h32, h33, h34, h35, h36, h37⟩ := id hu
  obtain ⟨r1, r2⟩ := id hr
  obtain ⟨hk1, hk2, hk3, hk4, hk5, hk6⟩ := hK.1 m hm
  refine jr_aload_n d_Mo_faultAt_22 rfl ?_
  refine jr_getf d_Mo_faultAt_23 f_Mo_faultAt_38 hO rfl ?_
  refine jr_bipush ((nI (24))) d_Mo_faultAt_26 (by decide) ?_
  refine jr_iload_n d_Mo_faultAt_28 rfl ?_
  refine jr_imulN d_Mo_faultAt_29 ?_
  refine jr_iload_n d_Mo_faultAt_30 rfl ?_
  refine jr_iaddN d_Mo_faultAt_31 ?_
  refine jr_ialdQ (v := (nI (14))) d_Mo_faultAt_32 h32 (by omega) (by omega) (congrArg nI ho) ?_
  refine jr_istore_n d_Mo_faultAt_33 (by decide) ?_
  show jl_W l G m_Mo_faultAt (0, 0) 34 [some (.ref 22), some (.int (nI m)), some (.int (nI pc)), some (.int (nI 14)), none, none] [] (σ) (.inl (some (.int (nI (if 2 ≤ h ∧ h - 2 + 1 ≤ 5 then (if (part pr t0 (some p1) && part pr t1 (some (10 + n / 4))) = true then 0 else 2) else 1))))) (σ)
  refine jr_aload_n d_Mo_faultAt_34 rfl ?_
  refine jr_iload_n d_Mo_faultAt_35 rfl ?_
  refine jr_aload_n d_Mo_faultAt_36 rfl ?_
  refine jr_getf d_Mo_faultAt_37 f_Mo_faultAt_41 hO rfl ?_
  refine jr_bipush ((nI (24))) d_Mo_faultAt_40 (by decide) ?_
  refine jr_iload_n d_Mo_faultAt_42 rfl ?_
  refine jr_imulN d_Mo_faultAt_43 ?_
  refine jr_iload_n d_Mo_faultAt_44 rfl ?_
  refine jr_iaddN d_Mo_faultAt_45 ?_
  refine jr_ialdQ (v := (nI (n))) d_Mo_faultAt_46 h33 (by omega) (by omega) (hx) ?_
  refine jr_callV (As := [.int (nI 14), .int (nI n)]) d_Mo_faultAt_47 k_Mo_faultAt_176 hO rfl rfl rfl (Nat.le_of_ble_eq_true rfl) (by decide) (by decide) (mo_tk_14 hl hO hw hu hok hn hk hmo hc e1 e2 hp hq) ?_
  show jl_W l G m_Mo_faultAt (0, 0) 50 [some (.ref 22), some (.int (nI m)), some (.int (nI pc)), some (.int (nI 14)), none, none] [.int (nI 2)] (σ) (.inl (some (.int (nI (if 2 ≤ h ∧ h - 2 + 1 ≤ 5 then (if (part pr t0 (some p1) && part pr t1 (some (10 + n / 4))) = true then 0 else 2) else 1))))) (σ)
  refine jr_istore d_Mo_faultAt_50 (by decide) ?_
  show jl_W l G m_Mo_faultAt (0, 0) 52 [some (.ref 22), some (.int (nI m)), some (.int (nI pc)), some (.int (nI 14)), some (.int (nI 2)), none] [] (σ) (.inl (some (.int (nI (if 2 ≤ h ∧ h - 2 + 1 ≤ 5 then (if (part pr t0 (some p1) && part pr t1 (some (10 + n / 4))) = true then 0 else 2) else 1))))) (σ)
  refine jr_aload_n d_Mo_faultAt_52 rfl ?_
  refine jr_getf d_Mo_faultAt_53 f_Mo_faultAt_179 hO rfl ?_
  refine jr_iload d_Mo_faultAt_56 rfl ?_
  refine jr_icmp_ltN 78 d_Mo_faultAt_58 (by decide) (by omega) (by omega) (fun c1 => ?_) (fun c1 => ?_)
  · refine jr_iconst ((nI (1))) d_Mo_faultAt_78 (by decide) ?_
    exact jr_iretE d_Mo_faultAt_79 rfl (by rw [if_neg (by omega)]) (rfl) (by decide) (by decide)
  · refine jr_aload_n d_Mo_faultAt_61 rfl ?_
    refine jr_getf d_Mo_faultAt_62 f_Mo_faultAt_179 hO rfl ?_
    refine jr_iload d_Mo_faultAt_65 rfl ?_
    refine jr_isubN d_Mo_faultAt_67 (by omega) ?_
    refine jr_aload_n d_Mo_faultAt_68 rfl ?_
    refine jr_iload_n d_Mo_faultAt_69 rfl ?_
    refine jr_callV (As := [.int (nI 14)]) d_Mo_faultAt_70 k_Mo_faultAt_182 hO rfl rfl rfl (Nat.le_of_ble_eq_true rfl) (by decide) (by decide) (mo_puts hl hO hw (by omega)) ?_
    show jl_W l G m_Mo_faultAt (0, 0) 73 [some (.ref 22), some (.int (nI m)), some (.int (nI pc)), some (.int (nI 14)), some (.int (nI 2)), none] [.int (nI 1), .int (nI ((h) - (2)))] (σ) (.inl (some (.int (nI (if 2 ≤ h ∧ h - 2 + 1 ≤ 5 then (if (part pr t0 (some p1) && part pr t1 (some (10 + n / 4))) = true then 0 else 2) else 1))))) (σ)
    refine jr_iaddN d_Mo_faultAt_73 ?_
    refine jr_iconst ((nI (5))) d_Mo_faultAt_74 (by decide) ?_
    refine jr_icmp_leN 80 d_Mo_faultAt_75 (by decide) (by omega) (by omega) (fun c2 => ?_) (fun c2 => ?_)
    · refine jr_iload_n d_Mo_faultAt_80 rfl ?_
      refine jr_iconst ((nI (1))) d_Mo_faultAt_81 (by decide) ?_
      refine jr_icmp_ne 107 d_Mo_faultAt_82 (by decide) (fun _ => ?_) (fun z => absurd z (by decide))
      refine jr_iconst ((nI (0))) d_Mo_faultAt_107 (by decide) ?_
      refine jr_istore d_Mo_faultAt_108 (by decide) ?_
      show jl_W l G m_Mo_faultAt (0, 0) 110 [some (.ref 22), some (.int (nI m)), some (.int (nI pc)), some (.int (nI 14)), some (.int (nI 2)), some (.int (nI 0))] [] (σ) (.inl (some (.int (nI (if 2 ≤ h ∧ h - 2 + 1 ≤ 5 then (if (part pr t0 (some p1) && part pr t1 (some (10 + n / 4))) = true then 0 else 2) else 1))))) (σ)
      refine jr_iload d_Mo_faultAt_110 rfl ?_
      refine jr_iload d_Mo_faultAt_112 rfl ?_
      refine jr_icmp_ge 151 d_Mo_faultAt_114 (by decide) (fun z => absurd z (by decide)) (fun _ => ?_)
      refine jr_aload_n d_Mo_faultAt_117 rfl ?_
      refine jr_iload_n d_Mo_faultAt_118 rfl ?_
      refine jr_iload_n d_Mo_faultAt_119 rfl ?_
      refine jr_iload d_Mo_faultAt_120 rfl ?_
      refine jr_aload_n d_Mo_faultAt_122 rfl ?_
      refine jr_getf d_Mo_faultAt_123 f_Mo_faultAt_72 hO rfl ?_
      refine jr_aload_n d_Mo_faultAt_126 rfl ?_
      refine jr_getf d_Mo_faultAt_127 f_Mo_faultAt_179 hO rfl ?_
      refine jr_iload d_Mo_faultAt_130 rfl ?_
      refine jr_isubN d_Mo_faultAt_132 (by omega) ?_
      refine jr_iload d_Mo_faultAt_133 rfl ?_
      refine jr_iaddN d_Mo_faultAt_135 ?_
      refine jr_ialdQ (v := (en t1)) d_Mo_faultAt_136 r2 (by omega) (by omega) ((congrArg (fun j => en (sk j)) (show ((h) - (2)) + (0) = h - 1 - 1 by omega)).trans (congrArg en (e_1 (by omega)))) ?_
      refine jr_callV (As := [.int (nI m), .int (nI pc), .int (nI 0), .int (en t1)]) d_Mo_faultAt_137 k_Mo_faultAt_185 hO rfl rfl rfl (Nat.le_of_ble_eq_true rfl) (by decide) (by decide) (mo_fit_14_0 hl hO hw hu hok hK hm hpc ho hx ht1 hn hk hmo hc e1 e2 hp hq) ?_
      show jl_W l G m_Mo_faultAt (0, 0) 140 [some (.ref 22), some (.int (nI m)), some (.int (nI pc)), some (.int (nI 14)), some (.int (nI 2)), some (.int (nI 0))] [.int (bi (part pr t1 (some (10 + n / 4))))] (σ) (.inl (some (.int (nI (if 2 ≤ h ∧ h - 2 + 1 ≤ 5 then (if (part pr t0 (some p1) && part pr t1 (some (10 + n / 4))) = true then 0 else 2) else 1))))) (σ)
      refine jr_if_ne 145 d_Mo_faultAt_140 (by decide) (fun c3 => ?_) (fun c3 => ?_)
      · refine jr_iinc ((nI (0 + 1))) d_Mo_faultAt_145 (by decide) rfl (jl_inc _) ?_
        show jl_W l G m_Mo_faultAt (0, 0) 148 [some (.ref 22), some (.int (nI m)), some (.int (nI pc)), some (.int (nI 14)), some (.int (nI 2)), some (.int (nI (0 + 1)))] [] (σ) (.inl (some (.int (nI (if 2 ≤ h ∧ h - 2 + 1 ≤ 5 then (if (part pr t0 (some p1) && part pr t1 (some (10 + n / 4))) = true then 0 else 2) else 1))))) (σ)
        refine jr_goto 110 d_Mo_faultAt_148 (by decide) ?_
        show jl_W l G m_Mo_faultAt (0, 0) 110 [some (.ref 22), some (.int (nI m)), some (.int (nI pc)), some (.int (nI 14)), some (.int (nI 2)), some (.int (nI 1))] [] (σ) (.inl (some (.int (nI (if 2 ≤ h ∧ h - 2 + 1 ≤ 5 then (if (part pr t0 (some p1) && part pr t1 (some (10 + n / 4))) = true then 0 else 2) else 1))))) (σ)
        refine jr_iload d_Mo_faultAt_110 rfl ?_
        refine jr_iload d_Mo_faultAt_112 rfl ?_
        refine jr_icmp_ge 151 d_Mo_faultAt_114 (by decide) (fun z => absurd z (by decide)) (fun _ => ?_)
        refine jr_aload_n d_Mo_faultAt_117 rfl ?_
        refine jr_iload_n d_Mo_faultAt_118 rfl ?_
        refine jr_iload_n d_Mo_faultAt_119 rfl ?_
        refine jr_iload d_Mo_faultAt_120 rfl ?_
        refine jr_aload_n d_Mo_faultAt_122 rfl ?_
        refine jr_getf d_Mo_faultAt_123 f_Mo_faultAt_72 hO rfl ?_
        refine jr_aload_n d_Mo_faultAt_126 rfl ?_
        refine jr_getf d_Mo_faultAt_127 f_Mo_faultAt_179 hO rfl ?_
        refine jr_iload d_Mo_faultAt_130 rfl ?_
        refine jr_isubN d_Mo_faultAt_132 (by omega) ?_
        refine jr_iload d_Mo_faultAt_133 rfl ?_
        refine jr_iaddN d_Mo_faultAt_135 ?_
        refine jr_ialdQ (v := (en t0)) d_Mo_faultAt_136 r2 (by omega) (by omega) ((congrArg (fun j => en (sk j)) (show ((h) - (2)) + (1) = h - 1 - 0 by omega)).trans (congrArg en (e_0 (by omega)))) ?_
        refine jr_callV (As := [.int (nI m), .int (nI pc), .int (nI 1), .int (en t0)]) d_Mo_faultAt_137 k_Mo_faultAt_185 hO rfl rfl rfl (Nat.le_of_ble_eq_true rfl) (by decide) (by decide) (mo_fit_14_1 hl hO hw hu hok hK hm hpc ho hx ht0 hn hk hmo hc e1 e2 hp hq) ?_
        show jl_W l G m_Mo_faultAt (0, 0) 140 [some (.ref 22), some (.int (nI m)), some (.int (nI pc)), some (.int (nI 14)), some (.int (nI 2)), some (.int (nI 1))] [.int (bi (part pr t0 (some p1)))] (σ) (.inl (some (.int (nI (if 2 ≤ h ∧ h - 2 + 1 ≤ 5 then (if (part pr t0 (some p1) && part pr t1 (some (10 + n / 4))) = true then 0 else 2) else 1))))) (σ)
        refine jr_if_ne 145 d_Mo_faultAt_140 (by decide) (fun c4 => ?_) (fun c4 => ?_)
        · refine jr_iinc ((nI (1 + 1))) d_Mo_faultAt_145 (by decide) rfl (jl_inc _) ?_
          show jl_W l G m_Mo_faultAt (0, 0) 148 [some (.ref 22), some (.int (nI m)), some (.int (nI pc)), some (.int (nI 14)), some (.int (nI 2)), some (.int (nI (1 + 1)))] [] (σ) (.inl (some (.int (nI (if 2 ≤ h ∧ h - 2 + 1 ≤ 5 then (if (part pr t0 (some p1) && part pr t1 (some (10 + n / 4))) = true then 0 else 2) else 1))))) (σ)
          refine jr_goto 110 d_Mo_faultAt_148 (by decide) ?_
          show jl_W l G m_Mo_faultAt (0, 0) 110 [some (.ref 22), some (.int (nI m)), some (.int (nI pc)), some (.int (nI 14)), some (.int (nI 2)), some (.int (nI 2))] [] (σ) (.inl (some (.int (nI (if 2 ≤ h ∧ h - 2 + 1 ≤ 5 then (if (part pr t0 (some p1) && part pr t1 (some (10 + n / 4))) = true then 0 else 2) else 1))))) (σ)
          refine jr_iload d_Mo_faultAt_110 rfl ?_
          refine jr_iload d_Mo_faultAt_112 rfl ?_
          refine jr_icmp_ge 151 d_Mo_faultAt_114 (by decide) (fun _ => ?_) (fun z => absurd (by decide) z)
          refine jr_iconst ((nI (0))) d_Mo_faultAt_151 (by decide) ?_
          exact jr_iretE d_Mo_faultAt_152 rfl (by rw [if_pos (by omega), if_pos (by simp [bi_nf c3, bi_nf c4])]) (rfl) (by decide) (by decide)
        · refine jr_iconst ((nI (2))) d_Mo_faultAt_143 (by decide) ?_
          exact jr_iretE d_Mo_faultAt_144 rfl (by rw [if_pos (by omega), if_neg (by simp [bi_nf c3, bi_0.mp c4])]) (rfl) (by decide) (by decide)
      · refine jr_iconst ((nI (2))) d_Mo_faultAt_143 (by decide) ?_
        exact jr_iretE d_Mo_faultAt_144 rfl (by rw [if_pos (by omega), if_neg (by simp [bi_0.mp c3])]) (rfl) (by decide) (by decide)
    · refine jr_iconst ((nI (1))) d_Mo_faultAt_78 (by decide) ?_
      exact jr_iretE d_Mo_faultAt_79 rfl (by rw [if_neg (by omega)]) (rfl) (by decide) (by decide)
theorem mo_fa_14_2 (hl : l.stackTraces = false) {m pc h : Nat} {n : Nat} {t0 : Option Nat} {t1 : Option Nat} {t2 : Option Nat} {c : Nat} {p1 p2 : Nat} (hO : MoO σ fa vf wh wy (nI (h)) dp md ov oh dn an) (hw : MoW σ tb pr ow ft hs) (hu : MoM σ u1 u2 ur ul uo ua uc us ut uk) (hr : MoR σ lo sk) (hok : WoOk tb pr ow fi) (hK : MoK u1 u2 ur ul uo uc us ut uk) (hm : m < 24) (hpc : pc < 24) (ho : uo (24 * m + pc) = 14) (hx : ua (24 * m + pc) = nI n) (hh5 : h ≤ 5) (e_0 : 0 < h → sk (h - 1 - 0) = t0) (ht0 : ob 16 t0) (e_1 : 1 < h → sk (h - 1 - 1) = t1) (ht1 : ob 16 t1) (e_2 : 2 < h → sk (h - 1 - 2) = t2) (ht2 : ob 16 t2) (hn : n < 2 ^ 31) (hk : n / 4 < 6) (hmo : mmo pr hs (n % 4) 6 (some (n / 4)) = some c) (hc : c < 24) (e1 : u1 c = some p1) (e2 : u2 c = some p2) (hp : ob 16 (some p1)) (hq : ob 16 (some p2)) : jl_W l G m_Mo_faultAt (0, 0) 22 [some (.ref 22), some (.int (nI m)), some (.int (nI pc)), none, none, none] [] σ (.inl (some (.int (nI (if 3 ≤ h ∧ h - 3 + 1 ≤ 5 then (if (part pr t1 (some p1) && (part pr t0 (some p2) && part pr t2 (some (10 + n / 4)))) = true then 0 else 2) else 1))))) (σ) := by
  obtain ⟨h23, h24, h25, h26, h27⟩ := id hw
  obtain ⟨h28, h29, h30, h31, h32, h33, h34, h35, h36, h37⟩ := id hu
  obtain ⟨r1, r2⟩ := id hr
  obtain ⟨hk1, hk2, hk3, hk4, hk5, hk6⟩ := hK.1 m hm
  refine jr_aload_n d_Mo_faultAt_22 rfl ?_
  refine jr_getf d_Mo_faultAt_23 f_Mo_faultAt_38 hO rfl ?_
  refine jr_bipush ((nI (24))) d_Mo_faultAt_26 (by decide) ?_
  refine jr_iload_n d_Mo_faultAt_28 rfl ?_
  refine jr_imulN d_Mo_faultAt_29 ?_
  refine jr_iload_n d_Mo_faultAt_30 rfl ?_
  refine jr_iaddN d_Mo_faultAt_31 ?_
  refine jr_ialdQ (v := (nI (14))) d_Mo_faultAt_32 h32 (by omega) (by omega) (congrArg nI ho) ?_
  refine jr_istore_n d_Mo_faultAt_33 (by decide) ?_
  show jl_W l G m_Mo_faultAt (0, 0) 34 [some (.ref 22), some (.int (nI m)), some (.int (nI pc)), some (.int (nI 14)), none, none] [] (σ) (.inl (some (.int (nI (if 3 ≤ h ∧ h - 3 + 1 ≤ 5 then (if (part pr t1 (some p1) && (part pr t0 (some p2) && part pr t2 (some (10 + n / 4)))) = true then 0 else 2) else 1))))) (σ)
  refine jr_aload_n d_Mo_faultAt_34 rfl ?_
  refine jr_iload_n d_Mo_faultAt_35 rfl ?_
  refine jr_aload_n d_Mo_faultAt_36 rfl ?_
  refine jr_getf d_Mo_faultAt_37 f_Mo_faultAt_41 hO rfl ?_
  refine jr_bipush ((nI (24))) d_Mo_faultAt_40 (by decide) ?_
  refine jr_iload_n d_Mo_faultAt_42 rfl ?_
  refine jr_imulN d_Mo_faultAt_43 ?_
  refine jr_iload_n d_Mo_faultAt_44 rfl ?_
  refine jr_iaddN d_Mo_faultAt_45 ?_
  refine jr_ialdQ (v := (nI (n))) d_Mo_faultAt_46 h33 (by omega) (by omega) (hx) ?_
  refine jr_callV (As := [.int (nI 14), .int (nI n)]) d_Mo_faultAt_47 k_Mo_faultAt_176 hO rfl rfl rfl (Nat.le_of_ble_eq_true rfl) (by decide) (by decide) (mo_tk_14 hl hO hw hu hok hn hk hmo hc e1 e2 hp hq) ?_
  show jl_W l G m_Mo_faultAt (0, 0) 50 [some (.ref 22), some (.int (nI m)), some (.int (nI pc)), some (.int (nI 14)), none, none] [.int (nI 3)] (σ) (.inl (some (.int (nI (if 3 ≤ h ∧ h - 3 + 1 ≤ 5 then (if (part pr t1 (some p1) && (part pr t0 (some p2) && part pr t2 (some (10 + n / 4)))) = true then 0 else 2) else 1))))) (σ)
  refine jr_istore d_Mo_faultAt_50 (by decide) ?_
  show jl_W l G m_Mo_faultAt (0, 0) 52 [some (.ref 22), some (.int (nI m)), some (.int (nI pc)), some (.int (nI 14)), some (.int (nI 3)), none] [] (σ) (.inl (some (.int (nI (if 3 ≤ h ∧ h - 3 + 1 ≤ 5 then (if (part pr t1 (some p1) && (part pr t0 (some p2) && part pr t2 (some (10 + n / 4)))) = true then 0 else 2) else 1))))) (σ)
  refine jr_aload_n d_Mo_faultAt_52 rfl ?_
  refine jr_getf d_Mo_faultAt_53 f_Mo_faultAt_179 hO rfl ?_
  refine jr_iload d_Mo_faultAt_56 rfl ?_
  refine jr_icmp_ltN 78 d_Mo_faultAt_58 (by decide) (by omega) (by omega) (fun c1 => ?_) (fun c1 => ?_)
  · refine jr_iconst ((nI (1))) d_Mo_faultAt_78 (by decide) ?_
    exact jr_iretE d_Mo_faultAt_79 rfl (by rw [if_neg (by omega)]) (rfl) (by decide) (by decide)
  · refine jr_aload_n d_Mo_faultAt_61 rfl ?_
    refine jr_getf d_Mo_faultAt_62 f_Mo_faultAt_179 hO rfl ?_
    refine jr_iload d_Mo_faultAt_65 rfl ?_
    refine jr_isubN d_Mo_faultAt_67 (by omega) ?_
    refine jr_aload_n d_Mo_faultAt_68 rfl ?_
    refine jr_iload_n d_Mo_faultAt_69 rfl ?_
    refine jr_callV (As := [.int (nI 14)]) d_Mo_faultAt_70 k_Mo_faultAt_182 hO rfl rfl rfl (Nat.le_of_ble_eq_true rfl) (by decide) (by decide) (mo_puts hl hO hw (by omega)) ?_
    show jl_W l G m_Mo_faultAt (0, 0) 73 [some (.ref 22), some (.int (nI m)), some (.int (nI pc)), some (.int (nI 14)), some (.int (nI 3)), none] [.int (nI 1), .int (nI ((h) - (3)))] (σ) (.inl (some (.int (nI (if 3 ≤ h ∧ h - 3 + 1 ≤ 5 then (if (part pr t1 (some p1) && (part pr t0 (some p2) && part pr t2 (some (10 + n / 4)))) = true then 0 else 2) else 1))))) (σ)
    refine jr_iaddN d_Mo_faultAt_73 ?_
    refine jr_iconst ((nI (5))) d_Mo_faultAt_74 (by decide) ?_
    refine jr_icmp_leN 80 d_Mo_faultAt_75 (by decide) (by omega) (by omega) (fun c2 => ?_) (fun c2 => ?_)
    · refine jr_iload_n d_Mo_faultAt_80 rfl ?_
      refine jr_iconst ((nI (1))) d_Mo_faultAt_81 (by decide) ?_
      refine jr_icmp_ne 107 d_Mo_faultAt_82 (by decide) (fun _ => ?_) (fun z => absurd z (by decide))
      refine jr_iconst ((nI (0))) d_Mo_faultAt_107 (by decide) ?_
      refine jr_istore d_Mo_faultAt_108 (by decide) ?_
      show jl_W l G m_Mo_faultAt (0, 0) 110 [some (.ref 22), some (.int (nI m)), some (.int (nI pc)), some (.int (nI 14)), some (.int (nI 3)), some (.int (nI 0))] [] (σ) (.inl (some (.int (nI (if 3 ≤ h ∧ h - 3 + 1 ≤ 5 then (if (part pr t1 (some p1) && (part pr t0 (some p2) && part pr t2 (some (10 + n / 4)))) = true then 0 else 2) else 1))))) (σ)
      refine jr_iload d_Mo_faultAt_110 rfl ?_
      refine jr_iload d_Mo_faultAt_112 rfl ?_
      refine jr_icmp_ge 151 d_Mo_faultAt_114 (by decide) (fun z => absurd z (by decide)) (fun _ => ?_)
      refine jr_aload_n d_Mo_faultAt_117 rfl ?_
      refine jr_iload_n d_Mo_faultAt_118 rfl ?_
      refine jr_iload_n d_Mo_faultAt_119 rfl ?_
      refine jr_iload d_Mo_faultAt_120 rfl ?_
      refine jr_aload_n d_Mo_faultAt_122 rfl ?_
      refine jr_getf d_Mo_faultAt_123 f_Mo_faultAt_72 hO rfl ?_
      refine jr_aload_n d_Mo_faultAt_126 rfl ?_
      refine jr_getf d_Mo_faultAt_127 f_Mo_faultAt_179 hO rfl ?_
      refine jr_iload d_Mo_faultAt_130 rfl ?_
      refine jr_isubN d_Mo_faultAt_132 (by omega) ?_
      refine jr_iload d_Mo_faultAt_133 rfl ?_
      refine jr_iaddN d_Mo_faultAt_135 ?_
      refine jr_ialdQ (v := (en t2)) d_Mo_faultAt_136 r2 (by omega) (by omega) ((congrArg (fun j => en (sk j)) (show ((h) - (3)) + (0) = h - 1 - 2 by omega)).trans (congrArg en (e_2 (by omega)))) ?_
      refine jr_callV (As := [.int (nI m), .int (nI pc), .int (nI 0), .int (en t2)]) d_Mo_faultAt_137 k_Mo_faultAt_185 hO rfl rfl rfl (Nat.le_of_ble_eq_true rfl) (by decide) (by decide) (mo_fit_14_0 hl hO hw hu hok hK hm hpc ho hx ht2 hn hk hmo hc e1 e2 hp hq) ?_
      show jl_W l G m_Mo_faultAt (0, 0) 140 [some (.ref 22), some (.int (nI m)), some (.int (nI pc)), some (.int (nI 14)), some (.int (nI 3)), some (.int (nI 0))] [.int (bi (part pr t2 (some (10 + n / 4))))] (σ) (.inl (some (.int (nI (if 3 ≤ h ∧ h - 3 + 1 ≤ 5 then (if (part pr t1 (some p1) && (part pr t0 (some p2) && part pr t2 (some (10 + n / 4)))) = true then 0 else 2) else 1))))) (σ)
      refine jr_if_ne 145 d_Mo_faultAt_140 (by decide) (fun c3 => ?_) (fun c3 => ?_)
      · refine jr_iinc ((nI (0 + 1))) d_Mo_faultAt_145 (by decide) rfl (jl_inc _) ?_
        show jl_W l G m_Mo_faultAt (0, 0) 148 [some (.ref 22), some (.int (nI m)), some (.int (nI pc)), some (.int (nI 14)), some (.int (nI 3)), some (.int (nI (0 + 1)))] [] (σ) (.inl (some (.int (nI (if 3 ≤ h ∧ h - 3 + 1 ≤ 5 then (if (part pr t1 (some p1) && (part pr t0 (some p2) && part pr t2 (some (10 + n / 4)))) = true then 0 else 2) else 1))))) (σ)
        refine jr_goto 110 d_Mo_faultAt_148 (by decide) ?_
        show jl_W l G m_Mo_faultAt (0, 0) 110 [some (.ref 22), some (.int (nI m)), some (.int (nI pc)), some (.int (nI 14)), some (.int (nI 3)), some (.int (nI 1))] [] (σ) (.inl (some (.int (nI (if 3 ≤ h ∧ h - 3 + 1 ≤ 5 then (if (part pr t1 (some p1) && (part pr t0 (some p2) && part pr t2 (some (10 + n / 4)))) = true then 0 else 2) else 1))))) (σ)
        refine jr_iload d_Mo_faultAt_110 rfl ?_
        refine jr_iload d_Mo_faultAt_112 rfl ?_
        refine jr_icmp_ge 151 d_Mo_faultAt_114 (by decide) (fun z => absurd z (by decide)) (fun _ => ?_)
        refine jr_aload_n d_Mo_faultAt_117 rfl ?_
        refine jr_iload_n d_Mo_faultAt_118 rfl ?_
        refine jr_iload_n d_Mo_faultAt_119 rfl ?_
        refine jr_iload d_Mo_faultAt_120 rfl ?_
        refine jr_aload_n d_Mo_faultAt_122 rfl ?_
        refine jr_getf d_Mo_faultAt_123 f_Mo_faultAt_72 hO rfl ?_
        refine jr_aload_n d_Mo_faultAt_126 rfl ?_
        refine jr_getf d_Mo_faultAt_127 f_Mo_faultAt_179 hO rfl ?_
        refine jr_iload d_Mo_faultAt_130 rfl ?_
        refine jr_isubN d_Mo_faultAt_132 (by omega) ?_
        refine jr_iload d_Mo_faultAt_133 rfl ?_
        refine jr_iaddN d_Mo_faultAt_135 ?_
        refine jr_ialdQ (v := (en t1)) d_Mo_faultAt_136 r2 (by omega) (by omega) ((congrArg (fun j => en (sk j)) (show ((h) - (3)) + (1) = h - 1 - 1 by omega)).trans (congrArg en (e_1 (by omega)))) ?_
        refine jr_callV (As := [.int (nI m), .int (nI pc), .int (nI 1), .int (en t1)]) d_Mo_faultAt_137 k_Mo_faultAt_185 hO rfl rfl rfl (Nat.le_of_ble_eq_true rfl) (by decide) (by decide) (mo_fit_14_1 hl hO hw hu hok hK hm hpc ho hx ht1 hn hk hmo hc e1 e2 hp hq) ?_
        show jl_W l G m_Mo_faultAt (0, 0) 140 [some (.ref 22), some (.int (nI m)), some (.int (nI pc)), some (.int (nI 14)), some (.int (nI 3)), some (.int (nI 1))] [.int (bi (part pr t1 (some p1)))] (σ) (.inl (some (.int (nI (if 3 ≤ h ∧ h - 3 + 1 ≤ 5 then (if (part pr t1 (some p1) && (part pr t0 (some p2) && part pr t2 (some (10 + n / 4)))) = true then 0 else 2) else 1))))) (σ)
        refine jr_if_ne 145 d_Mo_faultAt_140 (by decide) (fun c4 => ?_) (fun c4 => ?_)
        · refine jr_iinc ((nI (1 + 1))) d_Mo_faultAt_145 (by decide) rfl (jl_inc _) ?_
          show jl_W l G m_Mo_faultAt (0, 0) 148 [some (.ref 22), some (.int (nI m)), some (.int (nI pc)), some (.int (nI 14)), some (.int (nI 3)), some (.int (nI (1 + 1)))] [] (σ) (.inl (some (.int (nI (if 3 ≤ h ∧ h - 3 + 1 ≤ 5 then (if (part pr t1 (some p1) && (part pr t0 (some p2) && part pr t2 (some (10 + n / 4)))) = true then 0 else 2) else 1))))) (σ)
          refine jr_goto 110 d_Mo_faultAt_148 (by decide) ?_
          show jl_W l G m_Mo_faultAt (0, 0) 110 [some (.ref 22), some (.int (nI m)), some (.int (nI pc)), some (.int (nI 14)), some (.int (nI 3)), some (.int (nI 2))] [] (σ) (.inl (some (.int (nI (if 3 ≤ h ∧ h - 3 + 1 ≤ 5 then (if (part pr t1 (some p1) && (part pr t0 (some p2) && part pr t2 (some (10 + n / 4)))) = true then 0 else 2) else 1))))) (σ)
          refine jr_iload d_Mo_faultAt_110 rfl ?_
          refine jr_iload d_Mo_faultAt_112 rfl ?_
          refine jr_icmp_ge 151 d_Mo_faultAt_114 (by decide) (fun z => absurd z (by decide)) (fun _ => ?_)
          refine jr_aload_n d_Mo_faultAt_117 rfl ?_
          refine jr_iload_n d_Mo_faultAt_118 rfl ?_
          refine jr_iload_n d_Mo_faultAt_119 rfl ?_
          refine jr_iload d_Mo_faultAt_120 rfl ?_
          refine jr_aload_n d_Mo_faultAt_122 rfl ?_
          refine jr_getf d_Mo_faultAt_123 f_Mo_faultAt_72 hO rfl ?_
          refine jr_aload_n d_Mo_faultAt_126 rfl ?_
          refine jr_getf d_Mo_faultAt_127 f_Mo_faultAt_179 hO rfl ?_
          refine jr_iload d_Mo_faultAt_130 rfl ?_
          refine jr_isubN d_Mo_faultAt_132 (by omega) ?_
          refine jr_iload d_Mo_faultAt_133 rfl ?_
          refine jr_iaddN d_Mo_faultAt_135 ?_
          refine jr_ialdQ (v := (en t0)) d_Mo_faultAt_136 r2 (by omega) (by omega) ((congrArg (fun j => en (sk j)) (show ((h) - (3)) + (2) = h - 1 - 0 by omega)).trans (congrArg en (e_0 (by omega)))) ?_
          refine jr_callV (As := [.int (nI m), .int (nI pc), .int (nI 2), .int (en t0)]) d_Mo_faultAt_137 k_Mo_faultAt_185 hO rfl rfl rfl (Nat.le_of_ble_eq_true rfl) (by decide) (by decide) (mo_fit_14_2 hl hO hw hu hok hK hm hpc ho hx ht0 hn hk hmo hc e1 e2 hp hq) ?_
          show jl_W l G m_Mo_faultAt (0, 0) 140 [some (.ref 22), some (.int (nI m)), some (.int (nI pc)), some (.int (nI 14)), some (.int (nI 3)), some (.int (nI 2))] [.int (bi (part pr t0 (some p2)))] (σ) (.inl (some (.int (nI (if 3 ≤ h ∧ h - 3 + 1 ≤ 5 then (if (part pr t1 (some p1) && (part pr t0 (some p2) && part pr t2 (some (10 + n / 4)))) = true then 0 else 2) else 1))))) (σ)
          refine jr_if_ne 145 d_Mo_faultAt_140 (by decide) (fun c5 => ?_) (fun c5 => ?_)
          · refine jr_iinc ((nI (2 + 1))) d_Mo_faultAt_145 (by decide) rfl (jl_inc _) ?_
            show jl_W l G m_Mo_faultAt (0, 0) 148 [some (.ref 22), some (.int (nI m)), some (.int (nI pc)), some (.int (nI 14)), some (.int (nI 3)), some (.int (nI (2 + 1)))] [] (σ) (.inl (some (.int (nI (if 3 ≤ h ∧ h - 3 + 1 ≤ 5 then (if (part pr t1 (some p1) && (part pr t0 (some p2) && part pr t2 (some (10 + n / 4)))) = true then 0 else 2) else 1))))) (σ)
            refine jr_goto 110 d_Mo_faultAt_148 (by decide) ?_
            show jl_W l G m_Mo_faultAt (0, 0) 110 [some (.ref 22), some (.int (nI m)), some (.int (nI pc)), some (.int (nI 14)), some (.int (nI 3)), some (.int (nI 3))] [] (σ) (.inl (some (.int (nI (if 3 ≤ h ∧ h - 3 + 1 ≤ 5 then (if (part pr t1 (some p1) && (part pr t0 (some p2) && part pr t2 (some (10 + n / 4)))) = true then 0 else 2) else 1))))) (σ)
            refine jr_iload d_Mo_faultAt_110 rfl ?_
            refine jr_iload d_Mo_faultAt_112 rfl ?_
            refine jr_icmp_ge 151 d_Mo_faultAt_114 (by decide) (fun _ => ?_) (fun z => absurd (by decide) z)
            refine jr_iconst ((nI (0))) d_Mo_faultAt_151 (by decide) ?_
            exact jr_iretE d_Mo_faultAt_152 rfl (by rw [if_pos (by omega), if_pos (by simp [bi_nf c3, bi_nf c4, bi_nf c5])]) (rfl) (by decide) (by decide)
          · refine jr_iconst ((nI (2))) d_Mo_faultAt_143 (by decide) ?_
            exact jr_iretE d_Mo_faultAt_144 rfl (by rw [if_pos (by omega), if_neg (by simp [bi_nf c3, bi_nf c4, bi_0.mp c5])]) (rfl) (by decide) (by decide)
        · refine jr_iconst ((nI (2))) d_Mo_faultAt_143 (by decide) ?_
          exact jr_iretE d_Mo_faultAt_144 rfl (by rw [if_pos (by omega), if_neg (by simp [bi_nf c3, bi_0.mp c4])]) (rfl) (by decide) (by decide)
      · refine jr_iconst ((nI (2))) d_Mo_faultAt_143 (by decide) ?_
        exact jr_iretE d_Mo_faultAt_144 rfl (by rw [if_pos (by omega), if_neg (by simp [bi_0.mp c3])]) (rfl) (by decide) (by decide)
    · refine jr_iconst ((nI (1))) d_Mo_faultAt_78 (by decide) ?_
      exact jr_iretE d_Mo_faultAt_79 rfl (by rw [if_neg (by omega)]) (rfl) (by decide) (by decide)
end JMi
