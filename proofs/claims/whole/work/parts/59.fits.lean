/-! the model: fits (wip/gen/p59.py) -/
section JMh
variable {l : Launch} {G : jl_G} {σ : jl_S}
variable {tb : Nat → Bool} {pr : Nat → Option Nat} {ow fi ft : Nat → Nat} {hs : Nat → Bool} {fa vf wh wy hg dp md ov oh dn an : Int32}
variable {u1 u2 : Nat → Option Nat} {ur ul uo : Nat → Nat} {ua : Nat → Int32} {uc us ut uk : Nat → Nat}
theorem isR_v {t : Nat} (h : t ≤ 2 ∨ 10 ≤ t) (h2 : t < 16) : isR t = !isI (some t) := by
  have : ∀ t, t < 16 → (t ≤ 2 ∨ 10 ≤ t) → isR t = !isI (some t) := by decide
  exact this t h2 h
theorem d_Mo_fits_0 : decode m_Mo_fits.2.1 0 = .ok (.aload_n 0, 1) := by decide +kernel
theorem f_Mo_fits_38 : jl_fd m_Mo_fits 38 7 10 = true := by decide +kernel
theorem d_Mo_fits_1 : decode m_Mo_fits.2.1 1 = .ok (.getfield 38, 3) := by decide +kernel
theorem d_Mo_fits_4 : decode m_Mo_fits.2.1 4 = .ok (.bipush 24, 2) := by decide +kernel
theorem d_Mo_fits_6 : decode m_Mo_fits.2.1 6 = .ok (.iload_n 1, 1) := by decide +kernel
theorem d_Mo_fits_7 : decode m_Mo_fits.2.1 7 = .ok (.imul, 1) := by decide +kernel
theorem d_Mo_fits_8 : decode m_Mo_fits.2.1 8 = .ok (.iload_n 2, 1) := by decide +kernel
theorem d_Mo_fits_9 : decode m_Mo_fits.2.1 9 = .ok (.iadd, 1) := by decide +kernel
theorem d_Mo_fits_10 : decode m_Mo_fits.2.1 10 = .ok (.iaload, 1) := by decide +kernel
theorem d_Mo_fits_11 : decode m_Mo_fits.2.1 11 = .ok (.istore 5, 2) := by decide +kernel
theorem d_Mo_fits_13 : decode m_Mo_fits.2.1 13 = .ok (.aload_n 0, 1) := by decide +kernel
theorem f_Mo_fits_41 : jl_fd m_Mo_fits 41 7 11 = true := by decide +kernel
theorem d_Mo_fits_14 : decode m_Mo_fits.2.1 14 = .ok (.getfield 41, 3) := by decide +kernel
theorem d_Mo_fits_17 : decode m_Mo_fits.2.1 17 = .ok (.bipush 24, 2) := by decide +kernel
theorem d_Mo_fits_19 : decode m_Mo_fits.2.1 19 = .ok (.iload_n 1, 1) := by decide +kernel
theorem d_Mo_fits_20 : decode m_Mo_fits.2.1 20 = .ok (.imul, 1) := by decide +kernel
theorem d_Mo_fits_21 : decode m_Mo_fits.2.1 21 = .ok (.iload_n 2, 1) := by decide +kernel
theorem d_Mo_fits_22 : decode m_Mo_fits.2.1 22 = .ok (.iadd, 1) := by decide +kernel
theorem d_Mo_fits_23 : decode m_Mo_fits.2.1 23 = .ok (.iaload, 1) := by decide +kernel
theorem d_Mo_fits_24 : decode m_Mo_fits.2.1 24 = .ok (.istore 6, 2) := by decide +kernel
theorem d_Mo_fits_26 : decode m_Mo_fits.2.1 26 = .ok (.iload 5, 2) := by decide +kernel
theorem d_Mo_fits_28 : decode m_Mo_fits.2.1 28 = .ok (.iconst 3, 1) := by decide +kernel
theorem d_Mo_fits_29 : decode m_Mo_fits.2.1 29 = .ok (.if_icmp .lt 10, 3) := by decide +kernel
theorem d_Mo_fits_39 : decode m_Mo_fits.2.1 39 = .ok (.iload 5, 2) := by decide +kernel
theorem d_Mo_fits_41 : decode m_Mo_fits.2.1 41 = .ok (.bipush 8, 2) := by decide +kernel
theorem d_Mo_fits_43 : decode m_Mo_fits.2.1 43 = .ok (.if_icmp .eq 17, 3) := by decide +kernel
theorem d_Mo_fits_46 : decode m_Mo_fits.2.1 46 = .ok (.iload 5, 2) := by decide +kernel
theorem d_Mo_fits_48 : decode m_Mo_fits.2.1 48 = .ok (.bipush 9, 2) := by decide +kernel
theorem d_Mo_fits_50 : decode m_Mo_fits.2.1 50 = .ok (.if_icmp .eq 10, 3) := by decide +kernel
theorem d_Mo_fits_53 : decode m_Mo_fits.2.1 53 = .ok (.iload 5, 2) := by decide +kernel
theorem d_Mo_fits_55 : decode m_Mo_fits.2.1 55 = .ok (.bipush 19, 2) := by decide +kernel
theorem d_Mo_fits_57 : decode m_Mo_fits.2.1 57 = .ok (.if_icmp .ne 14, 3) := by decide +kernel
theorem d_Mo_fits_71 : decode m_Mo_fits.2.1 71 = .ok (.iload 5, 2) := by decide +kernel
theorem d_Mo_fits_73 : decode m_Mo_fits.2.1 73 = .ok (.bipush 12, 2) := by decide +kernel
theorem d_Mo_fits_75 : decode m_Mo_fits.2.1 75 = .ok (.if_icmp .eq 10, 3) := by decide +kernel
theorem d_Mo_fits_78 : decode m_Mo_fits.2.1 78 = .ok (.iload 5, 2) := by decide +kernel
theorem d_Mo_fits_80 : decode m_Mo_fits.2.1 80 = .ok (.bipush 13, 2) := by decide +kernel
theorem d_Mo_fits_82 : decode m_Mo_fits.2.1 82 = .ok (.if_icmp .ne 45, 3) := by decide +kernel
theorem d_Mo_fits_127 : decode m_Mo_fits.2.1 127 = .ok (.iload 5, 2) := by decide +kernel
theorem d_Mo_fits_129 : decode m_Mo_fits.2.1 129 = .ok (.bipush 14, 2) := by decide +kernel
theorem d_Mo_fits_131 : decode m_Mo_fits.2.1 131 = .ok (.if_icmp .ne 60, 3) := by decide +kernel
theorem d_Mo_fits_191 : decode m_Mo_fits.2.1 191 = .ok (.iload 5, 2) := by decide +kernel
theorem d_Mo_fits_193 : decode m_Mo_fits.2.1 193 = .ok (.bipush 15, 2) := by decide +kernel
theorem d_Mo_fits_195 : decode m_Mo_fits.2.1 195 = .ok (.if_icmp .eq 10, 3) := by decide +kernel
theorem d_Mo_fits_198 : decode m_Mo_fits.2.1 198 = .ok (.iload 5, 2) := by decide +kernel
theorem d_Mo_fits_200 : decode m_Mo_fits.2.1 200 = .ok (.bipush 17, 2) := by decide +kernel
theorem d_Mo_fits_202 : decode m_Mo_fits.2.1 202 = .ok (.if_icmp .ne 22, 3) := by decide +kernel
theorem d_Mo_fits_224 : decode m_Mo_fits.2.1 224 = .ok (.iload 5, 2) := by decide +kernel
theorem d_Mo_fits_226 : decode m_Mo_fits.2.1 226 = .ok (.bipush 16, 2) := by decide +kernel
theorem d_Mo_fits_228 : decode m_Mo_fits.2.1 228 = .ok (.if_icmp .eq 10, 3) := by decide +kernel
theorem d_Mo_fits_231 : decode m_Mo_fits.2.1 231 = .ok (.iload 5, 2) := by decide +kernel
theorem d_Mo_fits_233 : decode m_Mo_fits.2.1 233 = .ok (.bipush 25, 2) := by decide +kernel
theorem d_Mo_fits_235 : decode m_Mo_fits.2.1 235 = .ok (.if_icmp .ne 10, 3) := by decide +kernel
theorem d_Mo_fits_245 : decode m_Mo_fits.2.1 245 = .ok (.iload 5, 2) := by decide +kernel
theorem d_Mo_fits_247 : decode m_Mo_fits.2.1 247 = .ok (.bipush 18, 2) := by decide +kernel
theorem d_Mo_fits_249 : decode m_Mo_fits.2.1 249 = .ok (.if_icmp .ne 16, 3) := by decide +kernel
theorem d_Mo_fits_265 : decode m_Mo_fits.2.1 265 = .ok (.iload 5, 2) := by decide +kernel
theorem d_Mo_fits_267 : decode m_Mo_fits.2.1 267 = .ok (.bipush 20, 2) := by decide +kernel
theorem d_Mo_fits_269 : decode m_Mo_fits.2.1 269 = .ok (.if_icmp .lt 35, 3) := by decide +kernel
theorem d_Mo_fits_304 : decode m_Mo_fits.2.1 304 = .ok (.iconst 1, 1) := by decide +kernel
theorem d_Mo_fits_305 : decode m_Mo_fits.2.1 305 = .ok (.ireturn, 1) := by decide +kernel
theorem mo_fit_2_0 (hl : l.stackTraces = false) {m pc : Nat} {x : Int32} {t : Option Nat} (hO : MoO σ fa vf wh wy hg dp md ov oh dn an) (hw : MoW σ tb pr ow ft hs) (hu : MoM σ u1 u2 ur ul uo ua uc us ut uk) (hok : WoOk tb pr ow fi) (hK : MoK u1 u2 ur ul uo uc us ut uk) (hm : m < 24) (hpc : pc < 24) (ho : uo (24 * m + pc) = 2) (hx : ua (24 * m + pc) = x) (ht : ob 16 t) : jl_m l G m_Mo_fits [.ref 22, .int (nI m), .int (nI pc), .int (nI 0), .int (en t)] σ (.inl (some (.int (bi (true))))) (σ) := by
  obtain ⟨h23, h24, h25, h26, h27⟩ := id hw
  obtain ⟨h28, h29, h30, h31, h32, h33, h34, h35, h36, h37⟩ := id hu
  obtain ⟨hk1, hk2, hk3, hk4, hk5, hk6⟩ := hK.1 m hm
  refine jl_of (as := [.ref 22, .int (nI m), .int (nI pc), .int (nI 0), .int (en t)]) rfl (by decide) hl (jl_cc rfl (jl_cc rfl (jl_cc rfl (jl_cc rfl (jl_cc rfl jl_ca))))) (Nat.le_of_ble_eq_true rfl) ?_
  show jl_W l G m_Mo_fits (0, 0) 0 [some (.ref 22), some (.int (nI m)), some (.int (nI pc)), some (.int (nI 0)), some (.int (en t)), none, none, none] [] (σ) (.inl (some (.int (bi (true))))) (σ)
  refine jr_aload_n d_Mo_fits_0 rfl ?_
  refine jr_getf d_Mo_fits_1 f_Mo_fits_38 hO rfl ?_
  refine jr_bipush ((nI (24))) d_Mo_fits_4 (by decide) ?_
  refine jr_iload_n d_Mo_fits_6 rfl ?_
  refine jr_imulN d_Mo_fits_7 ?_
  refine jr_iload_n d_Mo_fits_8 rfl ?_
  refine jr_iaddN d_Mo_fits_9 ?_
  refine jr_ialdQ (v := (nI (2))) d_Mo_fits_10 h32 (by omega) (by omega) (congrArg nI ho) ?_
  refine jr_istore d_Mo_fits_11 (by decide) ?_
  show jl_W l G m_Mo_fits (0, 0) 13 [some (.ref 22), some (.int (nI m)), some (.int (nI pc)), some (.int (nI 0)), some (.int (en t)), some (.int (nI 2)), none, none] [] (σ) (.inl (some (.int (bi (true))))) (σ)
  refine jr_aload_n d_Mo_fits_13 rfl ?_
  refine jr_getf d_Mo_fits_14 f_Mo_fits_41 hO rfl ?_
  refine jr_bipush ((nI (24))) d_Mo_fits_17 (by decide) ?_
  refine jr_iload_n d_Mo_fits_19 rfl ?_
  refine jr_imulN d_Mo_fits_20 ?_
  refine jr_iload_n d_Mo_fits_21 rfl ?_
  refine jr_iaddN d_Mo_fits_22 ?_
  refine jr_ialdQ (v := (x)) d_Mo_fits_23 h33 (by omega) (by omega) (hx) ?_
  refine jr_istore d_Mo_fits_24 (by decide) ?_
  show jl_W l G m_Mo_fits (0, 0) 26 [some (.ref 22), some (.int (nI m)), some (.int (nI pc)), some (.int (nI 0)), some (.int (en t)), some (.int (nI 2)), some (.int (x)), none] [] (σ) (.inl (some (.int (bi (true))))) (σ)
  refine jr_iload d_Mo_fits_26 rfl ?_
  refine jr_iconst ((nI (3))) d_Mo_fits_28 (by decide) ?_
  refine jr_icmp_lt 39 d_Mo_fits_29 (by decide) (fun _ => ?_) (fun z => absurd (by decide) z)
  refine jr_iload d_Mo_fits_39 rfl ?_
  refine jr_bipush ((nI (8))) d_Mo_fits_41 (by decide) ?_
  refine jr_icmp_eq 60 d_Mo_fits_43 (by decide) (fun z => absurd z (by decide)) (fun _ => ?_)
  refine jr_iload d_Mo_fits_46 rfl ?_
  refine jr_bipush ((nI (9))) d_Mo_fits_48 (by decide) ?_
  refine jr_icmp_eq 60 d_Mo_fits_50 (by decide) (fun z => absurd z (by decide)) (fun _ => ?_)
  refine jr_iload d_Mo_fits_53 rfl ?_
  refine jr_bipush ((nI (19))) d_Mo_fits_55 (by decide) ?_
  refine jr_icmp_ne 71 d_Mo_fits_57 (by decide) (fun _ => ?_) (fun z => absurd z (by decide))
  refine jr_iload d_Mo_fits_71 rfl ?_
  refine jr_bipush ((nI (12))) d_Mo_fits_73 (by decide) ?_
  refine jr_icmp_eq 85 d_Mo_fits_75 (by decide) (fun z => absurd z (by decide)) (fun _ => ?_)
  refine jr_iload d_Mo_fits_78 rfl ?_
  refine jr_bipush ((nI (13))) d_Mo_fits_80 (by decide) ?_
  refine jr_icmp_ne 127 d_Mo_fits_82 (by decide) (fun _ => ?_) (fun z => absurd z (by decide))
  refine jr_iload d_Mo_fits_127 rfl ?_
  refine jr_bipush ((nI (14))) d_Mo_fits_129 (by decide) ?_
  refine jr_icmp_ne 191 d_Mo_fits_131 (by decide) (fun _ => ?_) (fun z => absurd z (by decide))
  refine jr_iload d_Mo_fits_191 rfl ?_
  refine jr_bipush ((nI (15))) d_Mo_fits_193 (by decide) ?_
  refine jr_icmp_eq 205 d_Mo_fits_195 (by decide) (fun z => absurd z (by decide)) (fun _ => ?_)
  refine jr_iload d_Mo_fits_198 rfl ?_
  refine jr_bipush ((nI (17))) d_Mo_fits_200 (by decide) ?_
  refine jr_icmp_ne 224 d_Mo_fits_202 (by decide) (fun _ => ?_) (fun z => absurd z (by decide))
  refine jr_iload d_Mo_fits_224 rfl ?_
  refine jr_bipush ((nI (16))) d_Mo_fits_226 (by decide) ?_
  refine jr_icmp_eq 238 d_Mo_fits_228 (by decide) (fun z => absurd z (by decide)) (fun _ => ?_)
  refine jr_iload d_Mo_fits_231 rfl ?_
  refine jr_bipush ((nI (25))) d_Mo_fits_233 (by decide) ?_
  refine jr_icmp_ne 245 d_Mo_fits_235 (by decide) (fun _ => ?_) (fun z => absurd z (by decide))
  refine jr_iload d_Mo_fits_245 rfl ?_
  refine jr_bipush ((nI (18))) d_Mo_fits_247 (by decide) ?_
  refine jr_icmp_ne 265 d_Mo_fits_249 (by decide) (fun _ => ?_) (fun z => absurd z (by decide))
  refine jr_iload d_Mo_fits_265 rfl ?_
  refine jr_bipush ((nI (20))) d_Mo_fits_267 (by decide) ?_
  refine jr_icmp_lt 304 d_Mo_fits_269 (by decide) (fun _ => ?_) (fun z => absurd (by decide) z)
  refine jr_iconst ((nI (1))) d_Mo_fits_304 (by decide) ?_
  exact jr_zretE d_Mo_fits_305 rfl (by decide) (bo1 (by first | (simp [isO]; done) | (simp [isO]; omega))) (rfl) (by decide) (by decide)
theorem d_Mo_fits_32 : decode m_Mo_fits.2.1 32 = .ok (.iload 5, 2) := by decide +kernel
theorem d_Mo_fits_34 : decode m_Mo_fits.2.1 34 = .ok (.bipush 6, 2) := by decide +kernel
theorem d_Mo_fits_36 : decode m_Mo_fits.2.1 36 = .ok (.if_icmp .le 24, 3) := by decide +kernel
theorem d_Mo_fits_60 : decode m_Mo_fits.2.1 60 = .ok (.iload 4, 2) := by decide +kernel
theorem d_Mo_fits_62 : decode m_Mo_fits.2.1 62 = .ok (.ifCond .ne 7, 3) := by decide +kernel
theorem d_Mo_fits_69 : decode m_Mo_fits.2.1 69 = .ok (.iconst 0, 1) := by decide +kernel
theorem d_Mo_fits_70 : decode m_Mo_fits.2.1 70 = .ok (.ireturn, 1) := by decide +kernel
theorem d_Mo_fits_65 : decode m_Mo_fits.2.1 65 = .ok (.iconst 1, 1) := by decide +kernel
theorem d_Mo_fits_66 : decode m_Mo_fits.2.1 66 = .ok (.goto 4, 3) := by decide +kernel
theorem mo_fit_3_0 (hl : l.stackTraces = false) {m pc : Nat} {x : Int32} {t : Option Nat} (hO : MoO σ fa vf wh wy hg dp md ov oh dn an) (hw : MoW σ tb pr ow ft hs) (hu : MoM σ u1 u2 ur ul uo ua uc us ut uk) (hok : WoOk tb pr ow fi) (hK : MoK u1 u2 ur ul uo uc us ut uk) (hm : m < 24) (hpc : pc < 24) (ho : uo (24 * m + pc) = 3) (hx : ua (24 * m + pc) = x) (ht : ob 16 t) : jl_m l G m_Mo_fits [.ref 22, .int (nI m), .int (nI pc), .int (nI 0), .int (en t)] σ (.inl (some (.int (bi (isI t))))) (σ) := by
  obtain ⟨h23, h24, h25, h26, h27⟩ := id hw
  obtain ⟨h28, h29, h30, h31, h32, h33, h34, h35, h36, h37⟩ := id hu
  obtain ⟨hk1, hk2, hk3, hk4, hk5, hk6⟩ := hK.1 m hm
  refine jl_of (as := [.ref 22, .int (nI m), .int (nI pc), .int (nI 0), .int (en t)]) rfl (by decide) hl (jl_cc rfl (jl_cc rfl (jl_cc rfl (jl_cc rfl (jl_cc rfl jl_ca))))) (Nat.le_of_ble_eq_true rfl) ?_
  show jl_W l G m_Mo_fits (0, 0) 0 [some (.ref 22), some (.int (nI m)), some (.int (nI pc)), some (.int (nI 0)), some (.int (en t)), none, none, none] [] (σ) (.inl (some (.int (bi (isI t))))) (σ)
  refine jr_aload_n d_Mo_fits_0 rfl ?_
  refine jr_getf d_Mo_fits_1 f_Mo_fits_38 hO rfl ?_
  refine jr_bipush ((nI (24))) d_Mo_fits_4 (by decide) ?_
  refine jr_iload_n d_Mo_fits_6 rfl ?_
  refine jr_imulN d_Mo_fits_7 ?_
  refine jr_iload_n d_Mo_fits_8 rfl ?_
  refine jr_iaddN d_Mo_fits_9 ?_
  refine jr_ialdQ (v := (nI (3))) d_Mo_fits_10 h32 (by omega) (by omega) (congrArg nI ho) ?_
  refine jr_istore d_Mo_fits_11 (by decide) ?_
  show jl_W l G m_Mo_fits (0, 0) 13 [some (.ref 22), some (.int (nI m)), some (.int (nI pc)), some (.int (nI 0)), some (.int (en t)), some (.int (nI 3)), none, none] [] (σ) (.inl (some (.int (bi (isI t))))) (σ)
  refine jr_aload_n d_Mo_fits_13 rfl ?_
  refine jr_getf d_Mo_fits_14 f_Mo_fits_41 hO rfl ?_
  refine jr_bipush ((nI (24))) d_Mo_fits_17 (by decide) ?_
  refine jr_iload_n d_Mo_fits_19 rfl ?_
  refine jr_imulN d_Mo_fits_20 ?_
  refine jr_iload_n d_Mo_fits_21 rfl ?_
  refine jr_iaddN d_Mo_fits_22 ?_
  refine jr_ialdQ (v := (x)) d_Mo_fits_23 h33 (by omega) (by omega) (hx) ?_
  refine jr_istore d_Mo_fits_24 (by decide) ?_
  show jl_W l G m_Mo_fits (0, 0) 26 [some (.ref 22), some (.int (nI m)), some (.int (nI pc)), some (.int (nI 0)), some (.int (en t)), some (.int (nI 3)), some (.int (x)), none] [] (σ) (.inl (some (.int (bi (isI t))))) (σ)
  refine jr_iload d_Mo_fits_26 rfl ?_
  refine jr_iconst ((nI (3))) d_Mo_fits_28 (by decide) ?_
  refine jr_icmp_lt 39 d_Mo_fits_29 (by decide) (fun z => absurd z (by decide)) (fun _ => ?_)
  refine jr_iload d_Mo_fits_32 rfl ?_
  refine jr_bipush ((nI (6))) d_Mo_fits_34 (by decide) ?_
  refine jr_icmp_le 60 d_Mo_fits_36 (by decide) (fun _ => ?_) (fun z => absurd (by decide) z)
  refine jr_iload d_Mo_fits_60 rfl ?_
  refine jr_if_ne 69 d_Mo_fits_62 (by decide) (fun c1 => ?_) (fun c1 => ?_)
  · refine jr_iconst ((nI (0))) d_Mo_fits_69 (by decide) ?_
    exact jr_zretE d_Mo_fits_70 rfl (by decide) (bo0 (by first | (simp [isO, isI_n (by assumption) c1]; done) | (simp [isO, isI_n (by assumption) c1]; omega))) (rfl) (by decide) (by decide)
  · refine jr_iconst ((nI (1))) d_Mo_fits_65 (by decide) ?_
    refine jr_goto 70 d_Mo_fits_66 (by decide) ?_
    exact jr_zretE d_Mo_fits_70 rfl (by decide) (bo1 (by first | (simp [isO, isI_y (by assumption) c1]; done) | (simp [isO, isI_y (by assumption) c1]; omega))) (rfl) (by decide) (by decide)
theorem mo_fit_3_1 (hl : l.stackTraces = false) {m pc : Nat} {x : Int32} {t : Option Nat} (hO : MoO σ fa vf wh wy hg dp md ov oh dn an) (hw : MoW σ tb pr ow ft hs) (hu : MoM σ u1 u2 ur ul uo ua uc us ut uk) (hok : WoOk tb pr ow fi) (hK : MoK u1 u2 ur ul uo uc us ut uk) (hm : m < 24) (hpc : pc < 24) (ho : uo (24 * m + pc) = 3) (hx : ua (24 * m + pc) = x) (ht : ob 16 t) : jl_m l G m_Mo_fits [.ref 22, .int (nI m), .int (nI pc), .int (nI 1), .int (en t)] σ (.inl (some (.int (bi (isI t))))) (σ) := by
  obtain ⟨h23, h24, h25, h26, h27⟩ := id hw
  obtain ⟨h28, h29, h30, h31, h32, h33, h34, h35, h36, h37⟩ := id hu
  obtain ⟨hk1, hk2, hk3, hk4, hk5, hk6⟩ := hK.1 m hm
  refine jl_of (as := [.ref 22, .int (nI m), .int (nI pc), .int (nI 1), .int (en t)]) rfl (by decide) hl (jl_cc rfl (jl_cc rfl (jl_cc rfl (jl_cc rfl (jl_cc rfl jl_ca))))) (Nat.le_of_ble_eq_true rfl) ?_
  show jl_W l G m_Mo_fits (0, 0) 0 [some (.ref 22), some (.int (nI m)), some (.int (nI pc)), some (.int (nI 1)), some (.int (en t)), none, none, none] [] (σ) (.inl (some (.int (bi (isI t))))) (σ)
  refine jr_aload_n d_Mo_fits_0 rfl ?_
  refine jr_getf d_Mo_fits_1 f_Mo_fits_38 hO rfl ?_
  refine jr_bipush ((nI (24))) d_Mo_fits_4 (by decide) ?_
  refine jr_iload_n d_Mo_fits_6 rfl ?_
  refine jr_imulN d_Mo_fits_7 ?_
  refine jr_iload_n d_Mo_fits_8 rfl ?_
  refine jr_iaddN d_Mo_fits_9 ?_
  refine jr_ialdQ (v := (nI (3))) d_Mo_fits_10 h32 (by omega) (by omega) (congrArg nI ho) ?_
  refine jr_istore d_Mo_fits_11 (by decide) ?_
  show jl_W l G m_Mo_fits (0, 0) 13 [some (.ref 22), some (.int (nI m)), some (.int (nI pc)), some (.int (nI 1)), some (.int (en t)), some (.int (nI 3)), none, none] [] (σ) (.inl (some (.int (bi (isI t))))) (σ)
  refine jr_aload_n d_Mo_fits_13 rfl ?_
  refine jr_getf d_Mo_fits_14 f_Mo_fits_41 hO rfl ?_
  refine jr_bipush ((nI (24))) d_Mo_fits_17 (by decide) ?_
  refine jr_iload_n d_Mo_fits_19 rfl ?_
  refine jr_imulN d_Mo_fits_20 ?_
  refine jr_iload_n d_Mo_fits_21 rfl ?_
  refine jr_iaddN d_Mo_fits_22 ?_
  refine jr_ialdQ (v := (x)) d_Mo_fits_23 h33 (by omega) (by omega) (hx) ?_
  refine jr_istore d_Mo_fits_24 (by decide) ?_
  show jl_W l G m_Mo_fits (0, 0) 26 [some (.ref 22), some (.int (nI m)), some (.int (nI pc)), some (.int (nI 1)), some (.int (en t)), some (.int (nI 3)), some (.int (x)), none] [] (σ) (.inl (some (.int (bi (isI t))))) (σ)
  refine jr_iload d_Mo_fits_26 rfl ?_
  refine jr_iconst ((nI (3))) d_Mo_fits_28 (by decide) ?_
  refine jr_icmp_lt 39 d_Mo_fits_29 (by decide) (fun z => absurd z (by decide)) (fun _ => ?_)
  refine jr_iload d_Mo_fits_32 rfl ?_
  refine jr_bipush ((nI (6))) d_Mo_fits_34 (by decide) ?_
  refine jr_icmp_le 60 d_Mo_fits_36 (by decide) (fun _ => ?_) (fun z => absurd (by decide) z)
  refine jr_iload d_Mo_fits_60 rfl ?_
  refine jr_if_ne 69 d_Mo_fits_62 (by decide) (fun c1 => ?_) (fun c1 => ?_)
  · refine jr_iconst ((nI (0))) d_Mo_fits_69 (by decide) ?_
    exact jr_zretE d_Mo_fits_70 rfl (by decide) (bo0 (by first | (simp [isO, isI_n (by assumption) c1]; done) | (simp [isO, isI_n (by assumption) c1]; omega))) (rfl) (by decide) (by decide)
  · refine jr_iconst ((nI (1))) d_Mo_fits_65 (by decide) ?_
    refine jr_goto 70 d_Mo_fits_66 (by decide) ?_
    exact jr_zretE d_Mo_fits_70 rfl (by decide) (bo1 (by first | (simp [isO, isI_y (by assumption) c1]; done) | (simp [isO, isI_y (by assumption) c1]; omega))) (rfl) (by decide) (by decide)
theorem mo_fit_4_0 (hl : l.stackTraces = false) {m pc : Nat} {x : Int32} {t : Option Nat} (hO : MoO σ fa vf wh wy hg dp md ov oh dn an) (hw : MoW σ tb pr ow ft hs) (hu : MoM σ u1 u2 ur ul uo ua uc us ut uk) (hok : WoOk tb pr ow fi) (hK : MoK u1 u2 ur ul uo uc us ut uk) (hm : m < 24) (hpc : pc < 24) (ho : uo (24 * m + pc) = 4) (hx : ua (24 * m + pc) = x) (ht : ob 16 t) : jl_m l G m_Mo_fits [.ref 22, .int (nI m), .int (nI pc), .int (nI 0), .int (en t)] σ (.inl (some (.int (bi (isI t))))) (σ) := by
  obtain ⟨h23, h24, h25, h26, h27⟩ := id hw
  obtain ⟨h28, h29, h30, h31, h32, h33, h34, h35, h36, h37⟩ := id hu
  obtain ⟨hk1, hk2, hk3, hk4, hk5, hk6⟩ := hK.1 m hm
  refine jl_of (as := [.ref 22, .int (nI m), .int (nI pc), .int (nI 0), .int (en t)]) rfl (by decide) hl (jl_cc rfl (jl_cc rfl (jl_cc rfl (jl_cc rfl (jl_cc rfl jl_ca))))) (Nat.le_of_ble_eq_true rfl) ?_
  show jl_W l G m_Mo_fits (0, 0) 0 [some (.ref 22), some (.int (nI m)), some (.int (nI pc)), some (.int (nI 0)), some (.int (en t)), none, none, none] [] (σ) (.inl (some (.int (bi (isI t))))) (σ)
  refine jr_aload_n d_Mo_fits_0 rfl ?_
  refine jr_getf d_Mo_fits_1 f_Mo_fits_38 hO rfl ?_
  refine jr_bipush ((nI (24))) d_Mo_fits_4 (by decide) ?_
  refine jr_iload_n d_Mo_fits_6 rfl ?_
  refine jr_imulN d_Mo_fits_7 ?_
  refine jr_iload_n d_Mo_fits_8 rfl ?_
  refine jr_iaddN d_Mo_fits_9 ?_
  refine jr_ialdQ (v := (nI (4))) d_Mo_fits_10 h32 (by omega) (by omega) (congrArg nI ho) ?_
  refine jr_istore d_Mo_fits_11 (by decide) ?_
  show jl_W l G m_Mo_fits (0, 0) 13 [some (.ref 22), some (.int (nI m)), some (.int (nI pc)), some (.int (nI 0)), some (.int (en t)), some (.int (nI 4)), none, none] [] (σ) (.inl (some (.int (bi (isI t))))) (σ)
  refine jr_aload_n d_Mo_fits_13 rfl ?_
  refine jr_getf d_Mo_fits_14 f_Mo_fits_41 hO rfl ?_
  refine jr_bipush ((nI (24))) d_Mo_fits_17 (by decide) ?_
  refine jr_iload_n d_Mo_fits_19 rfl ?_
  refine jr_imulN d_Mo_fits_20 ?_
  refine jr_iload_n d_Mo_fits_21 rfl ?_
  refine jr_iaddN d_Mo_fits_22 ?_
  refine jr_ialdQ (v := (x)) d_Mo_fits_23 h33 (by omega) (by omega) (hx) ?_
  refine jr_istore d_Mo_fits_24 (by decide) ?_
  show jl_W l G m_Mo_fits (0, 0) 26 [some (.ref 22), some (.int (nI m)), some (.int (nI pc)), some (.int (nI 0)), some (.int (en t)), some (.int (nI 4)), some (.int (x)), none] [] (σ) (.inl (some (.int (bi (isI t))))) (σ)
  refine jr_iload d_Mo_fits_26 rfl ?_
  refine jr_iconst ((nI (3))) d_Mo_fits_28 (by decide) ?_
  refine jr_icmp_lt 39 d_Mo_fits_29 (by decide) (fun z => absurd z (by decide)) (fun _ => ?_)
  refine jr_iload d_Mo_fits_32 rfl ?_
  refine jr_bipush ((nI (6))) d_Mo_fits_34 (by decide) ?_
  refine jr_icmp_le 60 d_Mo_fits_36 (by decide) (fun _ => ?_) (fun z => absurd (by decide) z)
  refine jr_iload d_Mo_fits_60 rfl ?_
  refine jr_if_ne 69 d_Mo_fits_62 (by decide) (fun c1 => ?_) (fun c1 => ?_)
  · refine jr_iconst ((nI (0))) d_Mo_fits_69 (by decide) ?_
    exact jr_zretE d_Mo_fits_70 rfl (by decide) (bo0 (by first | (simp [isO, isI_n (by assumption) c1]; done) | (simp [isO, isI_n (by assumption) c1]; omega))) (rfl) (by decide) (by decide)
  · refine jr_iconst ((nI (1))) d_Mo_fits_65 (by decide) ?_
    refine jr_goto 70 d_Mo_fits_66 (by decide) ?_
    exact jr_zretE d_Mo_fits_70 rfl (by decide) (bo1 (by first | (simp [isO, isI_y (by assumption) c1]; done) | (simp [isO, isI_y (by assumption) c1]; omega))) (rfl) (by decide) (by decide)
theorem mo_fit_4_1 (hl : l.stackTraces = false) {m pc : Nat} {x : Int32} {t : Option Nat} (hO : MoO σ fa vf wh wy hg dp md ov oh dn an) (hw : MoW σ tb pr ow ft hs) (hu : MoM σ u1 u2 ur ul uo ua uc us ut uk) (hok : WoOk tb pr ow fi) (hK : MoK u1 u2 ur ul uo uc us ut uk) (hm : m < 24) (hpc : pc < 24) (ho : uo (24 * m + pc) = 4) (hx : ua (24 * m + pc) = x) (ht : ob 16 t) : jl_m l G m_Mo_fits [.ref 22, .int (nI m), .int (nI pc), .int (nI 1), .int (en t)] σ (.inl (some (.int (bi (isI t))))) (σ) := by
  obtain ⟨h23, h24, h25, h26, h27⟩ := id hw
  obtain ⟨h28, h29, h30, h31, h32, h33, h34, h35, h36, h37⟩ := id hu
  obtain ⟨hk1, hk2, hk3, hk4, hk5, hk6⟩ := hK.1 m hm
  refine jl_of (as := [.ref 22, .int (nI m), .int (nI pc), .int (nI 1), .int (en t)]) rfl (by decide) hl (jl_cc rfl (jl_cc rfl (jl_cc rfl (jl_cc rfl (jl_cc rfl jl_ca))))) (Nat.le_of_ble_eq_true rfl) ?_
  show jl_W l G m_Mo_fits (0, 0) 0 [some (.ref 22), some (.int (nI m)), some (.int (nI pc)), some (.int (nI 1)), some (.int (en t)), none, none, none] [] (σ) (.inl (some (.int (bi (isI t))))) (σ)
  refine jr_aload_n d_Mo_fits_0 rfl ?_
  refine jr_getf d_Mo_fits_1 f_Mo_fits_38 hO rfl ?_
  refine jr_bipush ((nI (24))) d_Mo_fits_4 (by decide) ?_
  refine jr_iload_n d_Mo_fits_6 rfl ?_
  refine jr_imulN d_Mo_fits_7 ?_
  refine jr_iload_n d_Mo_fits_8 rfl ?_
  refine jr_iaddN d_Mo_fits_9 ?_
  refine jr_ialdQ (v := (nI (4))) d_Mo_fits_10 h32 (by omega) (by omega) (congrArg nI ho) ?_
  refine jr_istore d_Mo_fits_11 (by decide) ?_
  show jl_W l G m_Mo_fits (0, 0) 13 [some (.ref 22), some (.int (nI m)), some (.int (nI pc)), some (.int (nI 1)), some (.int (en t)), some (.int (nI 4)), none, none] [] (σ) (.inl (some (.int (bi (isI t))))) (σ)
  refine jr_aload_n d_Mo_fits_13 rfl ?_
  refine jr_getf d_Mo_fits_14 f_Mo_fits_41 hO rfl ?_
  refine jr_bipush ((nI (24))) d_Mo_fits_17 (by decide) ?_
  refine jr_iload_n d_Mo_fits_19 rfl ?_
  refine jr_imulN d_Mo_fits_20 ?_
  refine jr_iload_n d_Mo_fits_21 rfl ?_
  refine jr_iaddN d_Mo_fits_22 ?_
  refine jr_ialdQ (v := (x)) d_Mo_fits_23 h33 (by omega) (by omega) (hx) ?_
  refine jr_istore d_Mo_fits_24 (by decide) ?_
  show jl_W l G m_Mo_fits (0, 0) 26 [some (.ref 22), some (.int (nI m)), some (.int (nI pc)), some (.int (nI 1)), some (.int (en t)), some (.int (nI 4)), some (.int (x)), none] [] (σ) (.inl (some (.int (bi (isI t))))) (σ)
  refine jr_iload d_Mo_fits_26 rfl ?_
  refine jr_iconst ((nI (3))) d_Mo_fits_28 (by decide) ?_
  refine jr_icmp_lt 39 d_Mo_fits_29 (by decide) (fun z => absurd z (by decide)) (fun _ => ?_)
  refine jr_iload d_Mo_fits_32 rfl ?_
  refine jr_bipush ((nI (6))) d_Mo_fits_34 (by decide) ?_
  refine jr_icmp_le 60 d_Mo_fits_36 (by decide) (fun _ => ?_) (fun z => absurd (by decide) z)
  refine jr_iload d_Mo_fits_60 rfl ?_
  refine jr_if_ne 69 d_Mo_fits_62 (by decide) (fun c1 => ?_) (fun c1 => ?_)
  · refine jr_iconst ((nI (0))) d_Mo_fits_69 (by decide) ?_
    exact jr_zretE d_Mo_fits_70 rfl (by decide) (bo0 (by first | (simp [isO, isI_n (by assumption) c1]; done) | (simp [isO, isI_n (by assumption) c1]; omega))) (rfl) (by decide) (by decide)
  · refine jr_iconst ((nI (1))) d_Mo_fits_65 (by decide) ?_
    refine jr_goto 70 d_Mo_fits_66 (by decide) ?_
    exact jr_zretE d_Mo_fits_70 rfl (by decide) (bo1 (by first | (simp [isO, isI_y (by assumption) c1]; done) | (simp [isO, isI_y (by assumption) c1]; omega))) (rfl) (by decide) (by decide)
theorem mo_fit_5_0 (hl : l.stackTraces = false) {m pc : Nat} {x : Int32} {t : Option Nat} (hO : MoO σ fa vf wh wy hg dp md ov oh dn an) (hw : MoW σ tb pr ow ft hs) (hu : MoM σ u1 u2 ur ul uo ua uc us ut uk) (hok : WoOk tb pr ow fi) (hK : MoK u1 u2 ur ul uo uc us ut uk) (hm : m < 24) (hpc : pc < 24) (ho : uo (24 * m + pc) = 5) (hx : ua (24 * m + pc) = x) (ht : ob 16 t) : jl_m l G m_Mo_fits [.ref 22, .int (nI m), .int (nI pc), .int (nI 0), .int (en t)] σ (.inl (some (.int (bi (isI t))))) (σ) := by
  obtain ⟨h23, h24, h25, h26, h27⟩ := id hw
  obtain ⟨h28, h29, h30, h31, h32, h33, h34, h35, h36, h37⟩ := id hu
  obtain ⟨hk1, hk2, hk3, hk4, hk5, hk6⟩ := hK.1 m hm
  refine jl_of (as := [.ref 22, .int (nI m), .int (nI pc), .int (nI 0), .int (en t)]) rfl (by decide) hl (jl_cc rfl (jl_cc rfl (jl_cc rfl (jl_cc rfl (jl_cc rfl jl_ca))))) (Nat.le_of_ble_eq_true rfl) ?_
  show jl_W l G m_Mo_fits (0, 0) 0 [some (.ref 22), some (.int (nI m)), some (.int (nI pc)), some (.int (nI 0)), some (.int (en t)), none, none, none] [] (σ) (.inl (some (.int (bi (isI t))))) (σ)
  refine jr_aload_n d_Mo_fits_0 rfl ?_
  refine jr_getf d_Mo_fits_1 f_Mo_fits_38 hO rfl ?_
  refine jr_bipush ((nI (24))) d_Mo_fits_4 (by decide) ?_
  refine jr_iload_n d_Mo_fits_6 rfl ?_
  refine jr_imulN d_Mo_fits_7 ?_
  refine jr_iload_n d_Mo_fits_8 rfl ?_
  refine jr_iaddN d_Mo_fits_9 ?_
  refine jr_ialdQ (v := (nI (5))) d_Mo_fits_10 h32 (by omega) (by omega) (congrArg nI ho) ?_
  refine jr_istore d_Mo_fits_11 (by decide) ?_
  show jl_W l G m_Mo_fits (0, 0) 13 [some (.ref 22), some (.int (nI m)), some (.int (nI pc)), some (.int (nI 0)), some (.int (en t)), some (.int (nI 5)), none, none] [] (σ) (.inl (some (.int (bi (isI t))))) (σ)
  refine jr_aload_n d_Mo_fits_13 rfl ?_
  refine jr_getf d_Mo_fits_14 f_Mo_fits_41 hO rfl ?_
  refine jr_bipush ((nI (24))) d_Mo_fits_17 (by decide) ?_
  refine jr_iload_n d_Mo_fits_19 rfl ?_
  refine jr_imulN d_Mo_fits_20 ?_
  refine jr_iload_n d_Mo_fits_21 rfl ?_
  refine jr_iaddN d_Mo_fits_22 ?_
  refine jr_ialdQ (v := (x)) d_Mo_fits_23 h33 (by omega) (by omega) (hx) ?_
  refine jr_istore d_Mo_fits_24 (by decide) ?_
  show jl_W l G m_Mo_fits (0, 0) 26 [some (.ref 22), some (.int (nI m)), some (.int (nI pc)), some (.int (nI 0)), some (.int (en t)), some (.int (nI 5)), some (.int (x)), none] [] (σ) (.inl (some (.int (bi (isI t))))) (σ)
  refine jr_iload d_Mo_fits_26 rfl ?_
  refine jr_iconst ((nI (3))) d_Mo_fits_28 (by decide) ?_
  refine jr_icmp_lt 39 d_Mo_fits_29 (by decide) (fun z => absurd z (by decide)) (fun _ => ?_)
  refine jr_iload d_Mo_fits_32 rfl ?_
  refine jr_bipush ((nI (6))) d_Mo_fits_34 (by decide) ?_
  refine jr_icmp_le 60 d_Mo_fits_36 (by decide) (fun _ => ?_) (fun z => absurd (by decide) z)
  refine jr_iload d_Mo_fits_60 rfl ?_
  refine jr_if_ne 69 d_Mo_fits_62 (by decide) (fun c1 => ?_) (fun c1 => ?_)
  · refine jr_iconst ((nI (0))) d_Mo_fits_69 (by decide) ?_
    exact jr_zretE d_Mo_fits_70 rfl (by decide) (bo0 (by first | (simp [isO, isI_n (by assumption) c1]; done) | (simp [isO, isI_n (by assumption) c1]; omega))) (rfl) (by decide) (by decide)
  · refine jr_iconst ((nI (1))) d_Mo_fits_65 (by decide) ?_
    refine jr_goto 70 d_Mo_fits_66 (by decide) ?_
    exact jr_zretE d_Mo_fits_70 rfl (by decide) (bo1 (by first | (simp [isO, isI_y (by assumption) c1]; done) | (simp [isO, isI_y (by assumption) c1]; omega))) (rfl) (by decide) (by decide)
theorem mo_fit_5_1 (hl : l.stackTraces = false) {m pc : Nat} {x : Int32} {t : Option Nat} (hO : MoO σ fa vf wh wy hg dp md ov oh dn an) (hw : MoW σ tb pr ow ft hs) (hu : MoM σ u1 u2 ur ul uo ua uc us ut uk) (hok : WoOk tb pr ow fi) (hK : MoK u1 u2 ur ul uo uc us ut uk) (hm : m < 24) (hpc : pc < 24) (ho : uo (24 * m + pc) = 5) (hx : ua (24 * m + pc) = x) (ht : ob 16 t) : jl_m l G m_Mo_fits [.ref 22, .int (nI m), .int (nI pc), .int (nI 1), .int (en t)] σ (.inl (some (.int (bi (isI t))))) (σ) := by
  obtain ⟨h23, h24, h25, h26, h27⟩ := id hw
  obtain ⟨h28, h29, h30, h31, h32, h33, h34, h35, h36, h37⟩ := id hu
  obtain ⟨hk1, hk2, hk3, hk4, hk5, hk6⟩ := hK.1 m hm
  refine jl_of (as := [.ref 22, .int (nI m), .int (nI pc), .int (nI 1), .int (en t)]) rfl (by decide) hl (jl_cc rfl (jl_cc rfl (jl_cc rfl (jl_cc rfl (jl_cc rfl jl_ca))))) (Nat.le_of_ble_eq_true rfl) ?_
  show jl_W l G m_Mo_fits (0, 0) 0 [some (.ref 22), some (.int (nI m)), some (.int (nI pc)), some (.int (nI 1)), some (.int (en t)), none, none, none] [] (σ) (.inl (some (.int (bi (isI t))))) (σ)
  refine jr_aload_n d_Mo_fits_0 rfl ?_
  refine jr_getf d_Mo_fits_1 f_Mo_fits_38 hO rfl ?_
  refine jr_bipush ((nI (24))) d_Mo_fits_4 (by decide) ?_
  refine jr_iload_n d_Mo_fits_6 rfl ?_
  refine jr_imulN d_Mo_fits_7 ?_
  refine jr_iload_n d_Mo_fits_8 rfl ?_
  refine jr_iaddN d_Mo_fits_9 ?_
  refine jr_ialdQ (v := (nI (5))) d_Mo_fits_10 h32 (by omega) (by omega) (congrArg nI ho) ?_
  refine jr_istore d_Mo_fits_11 (by decide) ?_
  show jl_W l G m_Mo_fits (0, 0) 13 [some (.ref 22), some (.int (nI m)), some (.int (nI pc)), some (.int (nI 1)), some (.int (en t)), some (.int (nI 5)), none, none] [] (σ) (.inl (some (.int (bi (isI t))))) (σ)
  refine jr_aload_n d_Mo_fits_13 rfl ?_
  refine jr_getf d_Mo_fits_14 f_Mo_fits_41 hO rfl ?_
  refine jr_bipush ((nI (24))) d_Mo_fits_17 (by decide) ?_
  refine jr_iload_n d_Mo_fits_19 rfl ?_
  refine jr_imulN d_Mo_fits_20 ?_
  refine jr_iload_n d_Mo_fits_21 rfl ?_
  refine jr_iaddN d_Mo_fits_22 ?_
  refine jr_ialdQ (v := (x)) d_Mo_fits_23 h33 (by omega) (by omega) (hx) ?_
  refine jr_istore d_Mo_fits_24 (by decide) ?_
  show jl_W l G m_Mo_fits (0, 0) 26 [some (.ref 22), some (.int (nI m)), some (.int (nI pc)), some (.int (nI 1)), some (.int (en t)), some (.int (nI 5)), some (.int (x)), none] [] (σ) (.inl (some (.int (bi (isI t))))) (σ)
  refine jr_iload d_Mo_fits_26 rfl ?_
  refine jr_iconst ((nI (3))) d_Mo_fits_28 (by decide) ?_
  refine jr_icmp_lt 39 d_Mo_fits_29 (by decide) (fun z => absurd z (by decide)) (fun _ => ?_)
  refine jr_iload d_Mo_fits_32 rfl ?_
  refine jr_bipush ((nI (6))) d_Mo_fits_34 (by decide) ?_
  refine jr_icmp_le 60 d_Mo_fits_36 (by decide) (fun _ => ?_) (fun z => absurd (by decide) z)
  refine jr_iload d_Mo_fits_60 rfl ?_
  refine jr_if_ne 69 d_Mo_fits_62 (by decide) (fun c1 => ?_) (fun c1 => ?_)
  · refine jr_iconst ((nI (0))) d_Mo_fits_69 (by decide) ?_
    exact jr_zretE d_Mo_fits_70 rfl (by decide) (bo0 (by first | (simp [isO, isI_n (by assumption) c1]; done) | (simp [isO, isI_n (by assumption) c1]; omega))) (rfl) (by decide) (by decide)
  · refine jr_iconst ((nI (1))) d_Mo_fits_65 (by decide) ?_
    refine jr_goto 70 d_Mo_fits_66 (by decide) ?_
    exact jr_zretE d_Mo_fits_70 rfl (by decide) (bo1 (by first | (simp [isO, isI_y (by assumption) c1]; done) | (simp [isO, isI_y (by assumption) c1]; omega))) (rfl) (by decide) (by decide)
theorem mo_fit_6_0 (hl : l.stackTraces = false) {m pc : Nat} {x : Int32} {t : Option Nat} (hO : MoO σ fa vf wh wy hg dp md ov oh dn an) (hw : MoW σ tb pr ow ft hs) (hu : MoM σ u1 u2 ur ul uo ua uc us ut uk) (hok : WoOk tb pr ow fi) (hK : MoK u1 u2 ur ul uo uc us ut uk) (hm : m < 24) (hpc : pc < 24) (ho : uo (24 * m + pc) = 6) (hx : ua (24 * m + pc) = x) (ht : ob 16 t) : jl_m l G m_Mo_fits [.ref 22, .int (nI m), .int (nI pc), .int (nI 0), .int (en t)] σ (.inl (some (.int (bi (isI t))))) (σ) := by
  obtain ⟨h23, h24, h25, h26, h27⟩ := id hw
  obtain ⟨h28, h29, h30, h31, h32, h33, h34, h35, h36, h37⟩ := id hu
  obtain ⟨hk1, hk2, hk3, hk4, hk5, hk6⟩ := hK.1 m hm
  refine jl_of (as := [.ref 22, .int (nI m), .int (nI pc), .int (nI 0), .int (en t)]) rfl (by decide) hl (jl_cc rfl (jl_cc rfl (jl_cc rfl (jl_cc rfl (jl_cc rfl jl_ca))))) (Nat.le_of_ble_eq_true rfl) ?_
  show jl_W l G m_Mo_fits (0, 0) 0 [some (.ref 22), some (.int (nI m)), some (.int (nI pc)), some (.int (nI 0)), some (.int (en t)), none, none, none] [] (σ) (.inl (some (.int (bi (isI t))))) (σ)
  refine jr_aload_n d_Mo_fits_0 rfl ?_
  refine jr_getf d_Mo_fits_1 f_Mo_fits_38 hO rfl ?_
  refine jr_bipush ((nI (24))) d_Mo_fits_4 (by decide) ?_
  refine jr_iload_n d_Mo_fits_6 rfl ?_
  refine jr_imulN d_Mo_fits_7 ?_
  refine jr_iload_n d_Mo_fits_8 rfl ?_
  refine jr_iaddN d_Mo_fits_9 ?_
  refine jr_ialdQ (v := (nI (6))) d_Mo_fits_10 h32 (by omega) (by omega) (congrArg nI ho) ?_
  refine jr_istore d_Mo_fits_11 (by decide) ?_
  show jl_W l G m_Mo_fits (0, 0) 13 [some (.ref 22), some (.int (nI m)), some (.int (nI pc)), some (.int (nI 0)), some (.int (en t)), some (.int (nI 6)), none, none] [] (σ) (.inl (some (.int (bi (isI t))))) (σ)
  refine jr_aload_n d_Mo_fits_13 rfl ?_
  refine jr_getf d_Mo_fits_14 f_Mo_fits_41 hO rfl ?_
  refine jr_bipush ((nI (24))) d_Mo_fits_17 (by decide) ?_
  refine jr_iload_n d_Mo_fits_19 rfl ?_
  refine jr_imulN d_Mo_fits_20 ?_
  refine jr_iload_n d_Mo_fits_21 rfl ?_
  refine jr_iaddN d_Mo_fits_22 ?_
  refine jr_ialdQ (v := (x)) d_Mo_fits_23 h33 (by omega) (by omega) (hx) ?_
  refine jr_istore d_Mo_fits_24 (by decide) ?_
  show jl_W l G m_Mo_fits (0, 0) 26 [some (.ref 22), some (.int (nI m)), some (.int (nI pc)), some (.int (nI 0)), some (.int (en t)), some (.int (nI 6)), some (.int (x)), none] [] (σ) (.inl (some (.int (bi (isI t))))) (σ)
  refine jr_iload d_Mo_fits_26 rfl ?_
  refine jr_iconst ((nI (3))) d_Mo_fits_28 (by decide) ?_
  refine jr_icmp_lt 39 d_Mo_fits_29 (by decide) (fun z => absurd z (by decide)) (fun _ => ?_)
  refine jr_iload d_Mo_fits_32 rfl ?_
  refine jr_bipush ((nI (6))) d_Mo_fits_34 (by decide) ?_
  refine jr_icmp_le 60 d_Mo_fits_36 (by decide) (fun _ => ?_) (fun z => absurd (by decide) z)
  refine jr_iload d_Mo_fits_60 rfl ?_
  refine jr_if_ne 69 d_Mo_fits_62 (by decide) (fun c1 => ?_) (fun c1 => ?_)
  · refine jr_iconst ((nI (0))) d_Mo_fits_69 (by decide) ?_
    exact jr_zretE d_Mo_fits_70 rfl (by decide) (bo0 (by first | (simp [isO, isI_n (by assumption) c1]; done) | (simp [isO, isI_n (by assumption) c1]; omega))) (rfl) (by decide) (by decide)
  · refine jr_iconst ((nI (1))) d_Mo_fits_65 (by decide) ?_
    refine jr_goto 70 d_Mo_fits_66 (by decide) ?_
    exact jr_zretE d_Mo_fits_70 rfl (by decide) (bo1 (by first | (simp [isO, isI_y (by assumption) c1]; done) | (simp [isO, isI_y (by assumption) c1]; omega))) (rfl) (by decide) (by decide)
theorem mo_fit_6_1 (hl : l.stackTraces = false) {m pc : Nat} {x : Int32} {t : Option Nat} (hO : MoO σ fa vf wh wy hg dp md ov oh dn an) (hw : MoW σ tb pr ow ft hs) (hu : MoM σ u1 u2 ur ul uo ua uc us ut uk) (hok : WoOk tb pr ow fi) (hK : MoK u1 u2 ur ul uo uc us ut uk) (hm : m < 24) (hpc : pc < 24) (ho : uo (24 * m + pc) = 6) (hx : ua (24 * m + pc) = x) (ht : ob 16 t) : jl_m l G m_Mo_fits [.ref 22, .int (nI m), .int (nI pc), .int (nI 1), .int (en t)] σ (.inl (some (.int (bi (isI t))))) (σ) := by
  obtain ⟨h23, h24, h25, h26, h27⟩ := id hw
  obtain ⟨h28, h29, h30, h31, h32, h33, h34, h35, h36, h37⟩ := id hu
  obtain ⟨hk1, hk2, hk3, hk4, hk5, hk6⟩ := hK.1 m hm
  refine jl_of (as := [.ref 22, .int (nI m), .int (nI pc), .int (nI 1), .int (en t)]) rfl (by decide) hl (jl_cc rfl (jl_cc rfl (jl_cc rfl (jl_cc rfl (jl_cc rfl jl_ca))))) (Nat.le_of_ble_eq_true rfl) ?_
  show jl_W l G m_Mo_fits (0, 0) 0 [some (.ref 22), some (.int (nI m)), some (.int (nI pc)), some (.int (nI 1)), some (.int (en t)), none, none, none] [] (σ) (.inl (some (.int (bi (isI t))))) (σ)
  refine jr_aload_n d_Mo_fits_0 rfl ?_
  refine jr_getf d_Mo_fits_1 f_Mo_fits_38 hO rfl ?_
  refine jr_bipush ((nI (24))) d_Mo_fits_4 (by decide) ?_
  refine jr_iload_n d_Mo_fits_6 rfl ?_
  refine jr_imulN d_Mo_fits_7 ?_
  refine jr_iload_n d_Mo_fits_8 rfl ?_
  refine jr_iaddN d_Mo_fits_9 ?_
  refine jr_ialdQ (v := (nI (6))) d_Mo_fits_10 h32 (by omega) (by omega) (congrArg nI ho) ?_
  refine jr_istore d_Mo_fits_11 (by decide) ?_
  show jl_W l G m_Mo_fits (0, 0) 13 [some (.ref 22), some (.int (nI m)), some (.int (nI pc)), some (.int (nI 1)), some (.int (en t)), some (.int (nI 6)), none, none] [] (σ) (.inl (some (.int (bi (isI t))))) (σ)
  refine jr_aload_n d_Mo_fits_13 rfl ?_
  refine jr_getf d_Mo_fits_14 f_Mo_fits_41 hO rfl ?_
  refine jr_bipush ((nI (24))) d_Mo_fits_17 (by decide) ?_
  refine jr_iload_n d_Mo_fits_19 rfl ?_
  refine jr_imulN d_Mo_fits_20 ?_
  refine jr_iload_n d_Mo_fits_21 rfl ?_
  refine jr_iaddN d_Mo_fits_22 ?_
  refine jr_ialdQ (v := (x)) d_Mo_fits_23 h33 (by omega) (by omega) (hx) ?_
  refine jr_istore d_Mo_fits_24 (by decide) ?_
  show jl_W l G m_Mo_fits (0, 0) 26 [some (.ref 22), some (.int (nI m)), some (.int (nI pc)), some (.int (nI 1)), some (.int (en t)), some (.int (nI 6)), some (.int (x)), none] [] (σ) (.inl (some (.int (bi (isI t))))) (σ)
  refine jr_iload d_Mo_fits_26 rfl ?_
  refine jr_iconst ((nI (3))) d_Mo_fits_28 (by decide) ?_
  refine jr_icmp_lt 39 d_Mo_fits_29 (by decide) (fun z => absurd z (by decide)) (fun _ => ?_)
  refine jr_iload d_Mo_fits_32 rfl ?_
  refine jr_bipush ((nI (6))) d_Mo_fits_34 (by decide) ?_
  refine jr_icmp_le 60 d_Mo_fits_36 (by decide) (fun _ => ?_) (fun z => absurd (by decide) z)
  refine jr_iload d_Mo_fits_60 rfl ?_
  refine jr_if_ne 69 d_Mo_fits_62 (by decide) (fun c1 => ?_) (fun c1 => ?_)
  · refine jr_iconst ((nI (0))) d_Mo_fits_69 (by decide) ?_
    exact jr_zretE d_Mo_fits_70 rfl (by decide) (bo0 (by first | (simp [isO, isI_n (by assumption) c1]; done) | (simp [isO, isI_n (by assumption) c1]; omega))) (rfl) (by decide) (by decide)
  · refine jr_iconst ((nI (1))) d_Mo_fits_65 (by decide) ?_
    refine jr_goto 70 d_Mo_fits_66 (by decide) ?_
    exact jr_zretE d_Mo_fits_70 rfl (by decide) (bo1 (by first | (simp [isO, isI_y (by assumption) c1]; done) | (simp [isO, isI_y (by assumption) c1]; omega))) (rfl) (by decide) (by decide)
theorem mo_fit_8_0 (hl : l.stackTraces = false) {m pc : Nat} {x : Int32} {t : Option Nat} (hO : MoO σ fa vf wh wy hg dp md ov oh dn an) (hw : MoW σ tb pr ow ft hs) (hu : MoM σ u1 u2 ur ul uo ua uc us ut uk) (hok : WoOk tb pr ow fi) (hK : MoK u1 u2 ur ul uo uc us ut uk) (hm : m < 24) (hpc : pc < 24) (ho : uo (24 * m + pc) = 8) (hx : ua (24 * m + pc) = x) (ht : ob 16 t) : jl_m l G m_Mo_fits [.ref 22, .int (nI m), .int (nI pc), .int (nI 0), .int (en t)] σ (.inl (some (.int (bi (isI t))))) (σ) := by
  obtain ⟨h23, h24, h25, h26, h27⟩ := id hw
  obtain ⟨h28, h29, h30, h31, h32, h33, h34, h35, h36, h37⟩ := id hu
  obtain ⟨hk1, hk2, hk3, hk4, hk5, hk6⟩ := hK.1 m hm
  refine jl_of (as := [.ref 22, .int (nI m), .int (nI pc), .int (nI 0), .int (en t)]) rfl (by decide) hl (jl_cc rfl (jl_cc rfl (jl_cc rfl (jl_cc rfl (jl_cc rfl jl_ca))))) (Nat.le_of_ble_eq_true rfl) ?_
  show jl_W l G m_Mo_fits (0, 0) 0 [some (.ref 22), some (.int (nI m)), some (.int (nI pc)), some (.int (nI 0)), some (.int (en t)), none, none, none] [] (σ) (.inl (some (.int (bi (isI t))))) (σ)
  refine jr_aload_n d_Mo_fits_0 rfl ?_
  refine jr_getf d_Mo_fits_1 f_Mo_fits_38 hO rfl ?_
  refine jr_bipush ((nI (24))) d_Mo_fits_4 (by decide) ?_
  refine jr_iload_n d_Mo_fits_6 rfl ?_
  refine jr_imulN d_Mo_fits_7 ?_
  refine jr_iload_n d_Mo_fits_8 rfl ?_
  refine jr_iaddN d_Mo_fits_9 ?_
  refine jr_ialdQ (v := (nI (8))) d_Mo_fits_10 h32 (by omega) (by omega) (congrArg nI ho) ?_
  refine jr_istore d_Mo_fits_11 (by decide) ?_
  show jl_W l G m_Mo_fits (0, 0) 13 [some (.ref 22), some (.int (nI m)), some (.int (nI pc)), some (.int (nI 0)), some (.int (en t)), some (.int (nI 8)), none, none] [] (σ) (.inl (some (.int (bi (isI t))))) (σ)
  refine jr_aload_n d_Mo_fits_13 rfl ?_
  refine jr_getf d_Mo_fits_14 f_Mo_fits_41 hO rfl ?_
  refine jr_bipush ((nI (24))) d_Mo_fits_17 (by decide) ?_
  refine jr_iload_n d_Mo_fits_19 rfl ?_
  refine jr_imulN d_Mo_fits_20 ?_
  refine jr_iload_n d_Mo_fits_21 rfl ?_
  refine jr_iaddN d_Mo_fits_22 ?_
  refine jr_ialdQ (v := (x)) d_Mo_fits_23 h33 (by omega) (by omega) (hx) ?_
  refine jr_istore d_Mo_fits_24 (by decide) ?_
  show jl_W l G m_Mo_fits (0, 0) 26 [some (.ref 22), some (.int (nI m)), some (.int (nI pc)), some (.int (nI 0)), some (.int (en t)), some (.int (nI 8)), some (.int (x)), none] [] (σ) (.inl (some (.int (bi (isI t))))) (σ)
  refine jr_iload d_Mo_fits_26 rfl ?_
  refine jr_iconst ((nI (3))) d_Mo_fits_28 (by decide) ?_
  refine jr_icmp_lt 39 d_Mo_fits_29 (by decide) (fun z => absurd z (by decide)) (fun _ => ?_)
  refine jr_iload d_Mo_fits_32 rfl ?_
  refine jr_bipush ((nI (6))) d_Mo_fits_34 (by decide) ?_
  refine jr_icmp_le 60 d_Mo_fits_36 (by decide) (fun z => absurd z (by decide)) (fun _ => ?_)
  refine jr_iload d_Mo_fits_39 rfl ?_
  refine jr_bipush ((nI (8))) d_Mo_fits_41 (by decide) ?_
  refine jr_icmp_eq 60 d_Mo_fits_43 (by decide) (fun _ => ?_) (fun z => absurd (by decide) z)
  refine jr_iload d_Mo_fits_60 rfl ?_
  refine jr_if_ne 69 d_Mo_fits_62 (by decide) (fun c1 => ?_) (fun c1 => ?_)
  · refine jr_iconst ((nI (0))) d_Mo_fits_69 (by decide) ?_
    exact jr_zretE d_Mo_fits_70 rfl (by decide) (bo0 (by first | (simp [isO, isI_n (by assumption) c1]; done) | (simp [isO, isI_n (by assumption) c1]; omega))) (rfl) (by decide) (by decide)
  · refine jr_iconst ((nI (1))) d_Mo_fits_65 (by decide) ?_
    refine jr_goto 70 d_Mo_fits_66 (by decide) ?_
    exact jr_zretE d_Mo_fits_70 rfl (by decide) (bo1 (by first | (simp [isO, isI_y (by assumption) c1]; done) | (simp [isO, isI_y (by assumption) c1]; omega))) (rfl) (by decide) (by decide)
theorem mo_fit_9_0 (hl : l.stackTraces = false) {m pc : Nat} {x : Int32} {t : Option Nat} (hO : MoO σ fa vf wh wy hg dp md ov oh dn an) (hw : MoW σ tb pr ow ft hs) (hu : MoM σ u1 u2 ur ul uo ua uc us ut uk) (hok : WoOk tb pr ow fi) (hK : MoK u1 u2 ur ul uo uc us ut uk) (hm : m < 24) (hpc : pc < 24) (ho : uo (24 * m + pc) = 9) (hx : ua (24 * m + pc) = x) (ht : ob 16 t) : jl_m l G m_Mo_fits [.ref 22, .int (nI m), .int (nI pc), .int (nI 0), .int (en t)] σ (.inl (some (.int (bi (isI t))))) (σ) := by
  obtain ⟨h23, h24, h25, h26, h27⟩ := id hw
  obtain ⟨h28, h29, h30, h31, h32, h33, h34, h35, h36, h37⟩ := id hu
  obtain ⟨hk1, hk2, hk3, hk4, hk5, hk6⟩ := hK.1 m hm
  refine jl_of (as := [.ref 22, .int (nI m), .int (nI pc), .int (nI 0), .int (en t)]) rfl (by decide) hl (jl_cc rfl (jl_cc rfl (jl_cc rfl (jl_cc rfl (jl_cc rfl jl_ca))))) (Nat.le_of_ble_eq_true rfl) ?_
  show jl_W l G m_Mo_fits (0, 0) 0 [some (.ref 22), some (.int (nI m)), some (.int (nI pc)), some (.int (nI 0)), some (.int (en t)), none, none, none] [] (σ) (.inl (some (.int (bi (isI t))))) (σ)
  refine jr_aload_n d_Mo_fits_0 rfl ?_
  refine jr_getf d_Mo_fits_1 f_Mo_fits_38 hO rfl ?_
  refine jr_bipush ((nI (24))) d_Mo_fits_4 (by decide) ?_
  refine jr_iload_n d_Mo_fits_6 rfl ?_
  refine jr_imulN d_Mo_fits_7 ?_
  refine jr_iload_n d_Mo_fits_8 rfl ?_
  refine jr_iaddN d_Mo_fits_9 ?_
  refine jr_ialdQ (v := (nI (9))) d_Mo_fits_10 h32 (by omega) (by omega) (congrArg nI ho) ?_
  refine jr_istore d_Mo_fits_11 (by decide) ?_
  show jl_W l G m_Mo_fits (0, 0) 13 [some (.ref 22), some (.int (nI m)), some (.int (nI pc)), some (.int (nI 0)), some (.int (en t)), some (.int (nI 9)), none, none] [] (σ) (.inl (some (.int (bi (isI t))))) (σ)
  refine jr_aload_n d_Mo_fits_13 rfl ?_
  refine jr_getf d_Mo_fits_14 f_Mo_fits_41 hO rfl ?_
  refine jr_bipush ((nI (24))) d_Mo_fits_17 (by decide) ?_
  refine jr_iload_n d_Mo_fits_19 rfl ?_
  refine jr_imulN d_Mo_fits_20 ?_
  refine jr_iload_n d_Mo_fits_21 rfl ?_
  refine jr_iaddN d_Mo_fits_22 ?_
  refine jr_ialdQ (v := (x)) d_Mo_fits_23 h33 (by omega) (by omega) (hx) ?_
  refine jr_istore d_Mo_fits_24 (by decide) ?_
  show jl_W l G m_Mo_fits (0, 0) 26 [some (.ref 22), some (.int (nI m)), some (.int (nI pc)), some (.int (nI 0)), some (.int (en t)), some (.int (nI 9)), some (.int (x)), none] [] (σ) (.inl (some (.int (bi (isI t))))) (σ)
  refine jr_iload d_Mo_fits_26 rfl ?_
  refine jr_iconst ((nI (3))) d_Mo_fits_28 (by decide) ?_
  refine jr_icmp_lt 39 d_Mo_fits_29 (by decide) (fun z => absurd z (by decide)) (fun _ => ?_)
  refine jr_iload d_Mo_fits_32 rfl ?_
  refine jr_bipush ((nI (6))) d_Mo_fits_34 (by decide) ?_
  refine jr_icmp_le 60 d_Mo_fits_36 (by decide) (fun z => absurd z (by decide)) (fun _ => ?_)
  refine jr_iload d_Mo_fits_39 rfl ?_
  refine jr_bipush ((nI (8))) d_Mo_fits_41 (by decide) ?_
  refine jr_icmp_eq 60 d_Mo_fits_43 (by decide) (fun z => absurd z (by decide)) (fun _ => ?_)
  refine jr_iload d_Mo_fits_46 rfl ?_
  refine jr_bipush ((nI (9))) d_Mo_fits_48 (by decide) ?_
  refine jr_icmp_eq 60 d_Mo_fits_50 (by decide) (fun _ => ?_) (fun z => absurd (by decide) z)
  refine jr_iload d_Mo_fits_60 rfl ?_
  refine jr_if_ne 69 d_Mo_fits_62 (by decide) (fun c1 => ?_) (fun c1 => ?_)
  · refine jr_iconst ((nI (0))) d_Mo_fits_69 (by decide) ?_
    exact jr_zretE d_Mo_fits_70 rfl (by decide) (bo0 (by first | (simp [isO, isI_n (by assumption) c1]; done) | (simp [isO, isI_n (by assumption) c1]; omega))) (rfl) (by decide) (by decide)
  · refine jr_iconst ((nI (1))) d_Mo_fits_65 (by decide) ?_
    refine jr_goto 70 d_Mo_fits_66 (by decide) ?_
    exact jr_zretE d_Mo_fits_70 rfl (by decide) (bo1 (by first | (simp [isO, isI_y (by assumption) c1]; done) | (simp [isO, isI_y (by assumption) c1]; omega))) (rfl) (by decide) (by decide)
theorem mo_fit_9_1 (hl : l.stackTraces = false) {m pc : Nat} {x : Int32} {t : Option Nat} (hO : MoO σ fa vf wh wy hg dp md ov oh dn an) (hw : MoW σ tb pr ow ft hs) (hu : MoM σ u1 u2 ur ul uo ua uc us ut uk) (hok : WoOk tb pr ow fi) (hK : MoK u1 u2 ur ul uo uc us ut uk) (hm : m < 24) (hpc : pc < 24) (ho : uo (24 * m + pc) = 9) (hx : ua (24 * m + pc) = x) (ht : ob 16 t) : jl_m l G m_Mo_fits [.ref 22, .int (nI m), .int (nI pc), .int (nI 1), .int (en t)] σ (.inl (some (.int (bi (isI t))))) (σ) := by
  obtain ⟨h23, h24, h25, h26, h27⟩ := id hw
  obtain ⟨h28, h29, h30, h31, h32, h33, h34, h35, h36, h37⟩ := id hu
  obtain ⟨hk1, hk2, hk3, hk4, hk5, hk6⟩ := hK.1 m hm
  refine jl_of (as := [.ref 22, .int (nI m), .int (nI pc), .int (nI 1), .int (en t)]) rfl (by decide) hl (jl_cc rfl (jl_cc rfl (jl_cc rfl (jl_cc rfl (jl_cc rfl jl_ca))))) (Nat.le_of_ble_eq_true rfl) ?_
  show jl_W l G m_Mo_fits (0, 0) 0 [some (.ref 22), some (.int (nI m)), some (.int (nI pc)), some (.int (nI 1)), some (.int (en t)), none, none, none] [] (σ) (.inl (some (.int (bi (isI t))))) (σ)
  refine jr_aload_n d_Mo_fits_0 rfl ?_
  refine jr_getf d_Mo_fits_1 f_Mo_fits_38 hO rfl ?_
  refine jr_bipush ((nI (24))) d_Mo_fits_4 (by decide) ?_
  refine jr_iload_n d_Mo_fits_6 rfl ?_
  refine jr_imulN d_Mo_fits_7 ?_
  refine jr_iload_n d_Mo_fits_8 rfl ?_
  refine jr_iaddN d_Mo_fits_9 ?_
  refine jr_ialdQ (v := (nI (9))) d_Mo_fits_10 h32 (by omega) (by omega) (congrArg nI ho) ?_
  refine jr_istore d_Mo_fits_11 (by decide) ?_
  show jl_W l G m_Mo_fits (0, 0) 13 [some (.ref 22), some (.int (nI m)), some (.int (nI pc)), some (.int (nI 1)), some (.int (en t)), some (.int (nI 9)), none, none] [] (σ) (.inl (some (.int (bi (isI t))))) (σ)
  refine jr_aload_n d_Mo_fits_13 rfl ?_
  refine jr_getf d_Mo_fits_14 f_Mo_fits_41 hO rfl ?_
  refine jr_bipush ((nI (24))) d_Mo_fits_17 (by decide) ?_
  refine jr_iload_n d_Mo_fits_19 rfl ?_
  refine jr_imulN d_Mo_fits_20 ?_
  refine jr_iload_n d_Mo_fits_21 rfl ?_
  refine jr_iaddN d_Mo_fits_22 ?_
  refine jr_ialdQ (v := (x)) d_Mo_fits_23 h33 (by omega) (by omega) (hx) ?_
  refine jr_istore d_Mo_fits_24 (by decide) ?_
  show jl_W l G m_Mo_fits (0, 0) 26 [some (.ref 22), some (.int (nI m)), some (.int (nI pc)), some (.int (nI 1)), some (.int (en t)), some (.int (nI 9)), some (.int (x)), none] [] (σ) (.inl (some (.int (bi (isI t))))) (σ)
  refine jr_iload d_Mo_fits_26 rfl ?_
  refine jr_iconst ((nI (3))) d_Mo_fits_28 (by decide) ?_
  refine jr_icmp_lt 39 d_Mo_fits_29 (by decide) (fun z => absurd z (by decide)) (fun _ => ?_)
  refine jr_iload d_Mo_fits_32 rfl ?_
  refine jr_bipush ((nI (6))) d_Mo_fits_34 (by decide) ?_
  refine jr_icmp_le 60 d_Mo_fits_36 (by decide) (fun z => absurd z (by decide)) (fun _ => ?_)
  refine jr_iload d_Mo_fits_39 rfl ?_
  refine jr_bipush ((nI (8))) d_Mo_fits_41 (by decide) ?_
  refine jr_icmp_eq 60 d_Mo_fits_43 (by decide) (fun z => absurd z (by decide)) (fun _ => ?_)
  refine jr_iload d_Mo_fits_46 rfl ?_
  refine jr_bipush ((nI (9))) d_Mo_fits_48 (by decide) ?_
  refine jr_icmp_eq 60 d_Mo_fits_50 (by decide) (fun _ => ?_) (fun z => absurd (by decide) z)
  refine jr_iload d_Mo_fits_60 rfl ?_
  refine jr_if_ne 69 d_Mo_fits_62 (by decide) (fun c1 => ?_) (fun c1 => ?_)
  · refine jr_iconst ((nI (0))) d_Mo_fits_69 (by decide) ?_
    exact jr_zretE d_Mo_fits_70 rfl (by decide) (bo0 (by first | (simp [isO, isI_n (by assumption) c1]; done) | (simp [isO, isI_n (by assumption) c1]; omega))) (rfl) (by decide) (by decide)
  · refine jr_iconst ((nI (1))) d_Mo_fits_65 (by decide) ?_
    refine jr_goto 70 d_Mo_fits_66 (by decide) ?_
    exact jr_zretE d_Mo_fits_70 rfl (by decide) (bo1 (by first | (simp [isO, isI_y (by assumption) c1]; done) | (simp [isO, isI_y (by assumption) c1]; omega))) (rfl) (by decide) (by decide)
theorem d_Mo_fits_85 : decode m_Mo_fits.2.1 85 = .ok (.iload_n 3, 1) := by decide +kernel
theorem d_Mo_fits_86 : decode m_Mo_fits.2.1 86 = .ok (.ifCond .ne 20, 3) := by decide +kernel
theorem d_Mo_fits_89 : decode m_Mo_fits.2.1 89 = .ok (.aload_n 0, 1) := by decide +kernel
theorem d_Mo_fits_90 : decode m_Mo_fits.2.1 90 = .ok (.iload 4, 2) := by decide +kernel
theorem d_Mo_fits_92 : decode m_Mo_fits.2.1 92 = .ok (.bipush 10, 2) := by decide +kernel
theorem d_Mo_fits_94 : decode m_Mo_fits.2.1 94 = .ok (.iload 6, 2) := by decide +kernel
theorem d_Mo_fits_96 : decode m_Mo_fits.2.1 96 = .ok (.bipush 32, 2) := by decide +kernel
theorem d_Mo_fits_98 : decode m_Mo_fits.2.1 98 = .ok (.idiv, 1) := by decide +kernel
theorem d_Mo_fits_99 : decode m_Mo_fits.2.1 99 = .ok (.iadd, 1) := by decide +kernel
theorem k_Mo_fits_142 : jl_cv m_Mo_fits m_Mo_part 142 2 = true := by decide +kernel
theorem d_Mo_fits_100 : decode m_Mo_fits.2.1 100 = .ok (.invokevirtual 142, 3) := by decide +kernel
theorem d_Mo_fits_103 : decode m_Mo_fits.2.1 103 = .ok (.goto 23, 3) := by decide +kernel
theorem d_Mo_fits_126 : decode m_Mo_fits.2.1 126 = .ok (.ireturn, 1) := by decide +kernel
theorem mo_fit_12_0 (hl : l.stackTraces = false) {m pc : Nat} {n : Nat} {t : Option Nat} (hO : MoO σ fa vf wh wy hg dp md ov oh dn an) (hw : MoW σ tb pr ow ft hs) (hu : MoM σ u1 u2 ur ul uo ua uc us ut uk) (hok : WoOk tb pr ow fi) (hK : MoK u1 u2 ur ul uo uc us ut uk) (hm : m < 24) (hpc : pc < 24) (ho : uo (24 * m + pc) = 12) (hx : ua (24 * m + pc) = nI n) (ht : ob 16 t) (hn : n < 2 ^ 31) (hk : n / 32 < 6) : jl_m l G m_Mo_fits [.ref 22, .int (nI m), .int (nI pc), .int (nI 0), .int (en t)] σ (.inl (some (.int (bi (part pr t (some (10 + n / 32))))))) (σ) := by
  obtain ⟨h23, h24, h25, h26, h27⟩ := id hw
  obtain ⟨h28, h29, h30, h31, h32, h33, h34, h35, h36, h37⟩ := id hu
  obtain ⟨hk1, hk2, hk3, hk4, hk5, hk6⟩ := hK.1 m hm
  refine jl_of (as := [.ref 22, .int (nI m), .int (nI pc), .int (nI 0), .int (en t)]) rfl (by decide) hl (jl_cc rfl (jl_cc rfl (jl_cc rfl (jl_cc rfl (jl_cc rfl jl_ca))))) (Nat.le_of_ble_eq_true rfl) ?_
  show jl_W l G m_Mo_fits (0, 0) 0 [some (.ref 22), some (.int (nI m)), some (.int (nI pc)), some (.int (nI 0)), some (.int (en t)), none, none, none] [] (σ) (.inl (some (.int (bi (part pr t (some (10 + n / 32))))))) (σ)
  refine jr_aload_n d_Mo_fits_0 rfl ?_
  refine jr_getf d_Mo_fits_1 f_Mo_fits_38 hO rfl ?_
  refine jr_bipush ((nI (24))) d_Mo_fits_4 (by decide) ?_
  refine jr_iload_n d_Mo_fits_6 rfl ?_
  refine jr_imulN d_Mo_fits_7 ?_
  refine jr_iload_n d_Mo_fits_8 rfl ?_
  refine jr_iaddN d_Mo_fits_9 ?_
  refine jr_ialdQ (v := (nI (12))) d_Mo_fits_10 h32 (by omega) (by omega) (congrArg nI ho) ?_
  refine jr_istore d_Mo_fits_11 (by decide) ?_
  show jl_W l G m_Mo_fits (0, 0) 13 [some (.ref 22), some (.int (nI m)), some (.int (nI pc)), some (.int (nI 0)), some (.int (en t)), some (.int (nI 12)), none, none] [] (σ) (.inl (some (.int (bi (part pr t (some (10 + n / 32))))))) (σ)
  refine jr_aload_n d_Mo_fits_13 rfl ?_
  refine jr_getf d_Mo_fits_14 f_Mo_fits_41 hO rfl ?_
  refine jr_bipush ((nI (24))) d_Mo_fits_17 (by decide) ?_
  refine jr_iload_n d_Mo_fits_19 rfl ?_
  refine jr_imulN d_Mo_fits_20 ?_
  refine jr_iload_n d_Mo_fits_21 rfl ?_
  refine jr_iaddN d_Mo_fits_22 ?_
  refine jr_ialdQ (v := (nI (n))) d_Mo_fits_23 h33 (by omega) (by omega) (hx) ?_
  refine jr_istore d_Mo_fits_24 (by decide) ?_
  show jl_W l G m_Mo_fits (0, 0) 26 [some (.ref 22), some (.int (nI m)), some (.int (nI pc)), some (.int (nI 0)), some (.int (en t)), some (.int (nI 12)), some (.int (nI n)), none] [] (σ) (.inl (some (.int (bi (part pr t (some (10 + n / 32))))))) (σ)
  refine jr_iload d_Mo_fits_26 rfl ?_
  refine jr_iconst ((nI (3))) d_Mo_fits_28 (by decide) ?_
  refine jr_icmp_lt 39 d_Mo_fits_29 (by decide) (fun z => absurd z (by decide)) (fun _ => ?_)
  refine jr_iload d_Mo_fits_32 rfl ?_
  refine jr_bipush ((nI (6))) d_Mo_fits_34 (by decide) ?_
  refine jr_icmp_le 60 d_Mo_fits_36 (by decide) (fun z => absurd z (by decide)) (fun _ => ?_)
  refine jr_iload d_Mo_fits_39 rfl ?_
  refine jr_bipush ((nI (8))) d_Mo_fits_41 (by decide) ?_
  refine jr_icmp_eq 60 d_Mo_fits_43 (by decide) (fun z => absurd z (by decide)) (fun _ => ?_)
  refine jr_iload d_Mo_fits_46 rfl ?_
  refine jr_bipush ((nI (9))) d_Mo_fits_48 (by decide) ?_
  refine jr_icmp_eq 60 d_Mo_fits_50 (by decide) (fun z => absurd z (by decide)) (fun _ => ?_)
  refine jr_iload d_Mo_fits_53 rfl ?_
  refine jr_bipush ((nI (19))) d_Mo_fits_55 (by decide) ?_
  refine jr_icmp_ne 71 d_Mo_fits_57 (by decide) (fun _ => ?_) (fun z => absurd z (by decide))
  refine jr_iload d_Mo_fits_71 rfl ?_
  refine jr_bipush ((nI (12))) d_Mo_fits_73 (by decide) ?_
  refine jr_icmp_eq 85 d_Mo_fits_75 (by decide) (fun _ => ?_) (fun z => absurd (by decide) z)
  refine jr_iload_n d_Mo_fits_85 rfl ?_
  refine jr_if_ne 106 d_Mo_fits_86 (by decide) (fun z => absurd rfl z) (fun _ => ?_)
  refine jr_aload_n d_Mo_fits_89 rfl ?_
  refine jr_iload d_Mo_fits_90 rfl ?_
  refine jr_bipush ((nI (10))) d_Mo_fits_92 (by decide) ?_
  refine jr_iload d_Mo_fits_94 rfl ?_
  refine jr_bipush ((nI (32))) d_Mo_fits_96 (by decide) ?_
  refine jr_idivN d_Mo_fits_98 (by omega) (by omega) (by omega) ?_
  refine jr_iaddN d_Mo_fits_99 ?_
  refine jr_callV (As := [.int (en t), .int (nI ((10) + ((n) / (32))))]) d_Mo_fits_100 k_Mo_fits_142 hO rfl rfl rfl (Nat.le_of_ble_eq_true rfl) (by decide) (by decide) (mo_part (x := t) (y := some ((10) + ((n) / (32)))) hl hO hw hok.dsc (by assumption) (ob_s (by omega))) ?_
  show jl_W l G m_Mo_fits (0, 0) 103 [some (.ref 22), some (.int (nI m)), some (.int (nI pc)), some (.int (nI 0)), some (.int (en t)), some (.int (nI 12)), some (.int (nI n)), none] [.int (bi (part pr t (some ((10) + ((n) / (32))))))] (σ) (.inl (some (.int (bi (part pr t (some (10 + n / 32))))))) (σ)
  refine jr_goto 126 d_Mo_fits_103 (by decide) ?_
  exact jr_zretE d_Mo_fits_126 rfl (bi_01 _) (bov (by first | (simp [isO]; done) | (simp [isO]; omega))) (rfl) (by decide) (by decide)
theorem mo_fit_13_0 (hl : l.stackTraces = false) {m pc : Nat} {n : Nat} {t : Option Nat} (hO : MoO σ fa vf wh wy hg dp md ov oh dn an) (hw : MoW σ tb pr ow ft hs) (hu : MoM σ u1 u2 ur ul uo ua uc us ut uk) (hok : WoOk tb pr ow fi) (hK : MoK u1 u2 ur ul uo uc us ut uk) (hm : m < 24) (hpc : pc < 24) (ho : uo (24 * m + pc) = 13) (hx : ua (24 * m + pc) = nI n) (ht : ob 16 t) (hn : n < 2 ^ 31) (hk : n / 32 < 6) (hf : n % 32 < fi (n / 32) + ow (n / 32)) (hft : fty pr fi ft (n / 32) (n % 32) < 16) : jl_m l G m_Mo_fits [.ref 22, .int (nI m), .int (nI pc), .int (nI 0), .int (en t)] σ (.inl (some (.int (bi (part pr t (some (10 + n / 32))))))) (σ) := by
  obtain ⟨h23, h24, h25, h26, h27⟩ := id hw
  obtain ⟨h28, h29, h30, h31, h32, h33, h34, h35, h36, h37⟩ := id hu
  obtain ⟨hk1, hk2, hk3, hk4, hk5, hk6⟩ := hK.1 m hm
  refine jl_of (as := [.ref 22, .int (nI m), .int (nI pc), .int (nI 0), .int (en t)]) rfl (by decide) hl (jl_cc rfl (jl_cc rfl (jl_cc rfl (jl_cc rfl (jl_cc rfl jl_ca))))) (Nat.le_of_ble_eq_true rfl) ?_
  show jl_W l G m_Mo_fits (0, 0) 0 [some (.ref 22), some (.int (nI m)), some (.int (nI pc)), some (.int (nI 0)), some (.int (en t)), none, none, none] [] (σ) (.inl (some (.int (bi (part pr t (some (10 + n / 32))))))) (σ)
  refine jr_aload_n d_Mo_fits_0 rfl ?_
  refine jr_getf d_Mo_fits_1 f_Mo_fits_38 hO rfl ?_
  refine jr_bipush ((nI (24))) d_Mo_fits_4 (by decide) ?_
  refine jr_iload_n d_Mo_fits_6 rfl ?_
  refine jr_imulN d_Mo_fits_7 ?_
  refine jr_iload_n d_Mo_fits_8 rfl ?_
  refine jr_iaddN d_Mo_fits_9 ?_
  refine jr_ialdQ (v := (nI (13))) d_Mo_fits_10 h32 (by omega) (by omega) (congrArg nI ho) ?_
  refine jr_istore d_Mo_fits_11 (by decide) ?_
  show jl_W l G m_Mo_fits (0, 0) 13 [some (.ref 22), some (.int (nI m)), some (.int (nI pc)), some (.int (nI 0)), some (.int (en t)), some (.int (nI 13)), none, none] [] (σ) (.inl (some (.int (bi (part pr t (some (10 + n / 32))))))) (σ)
  refine jr_aload_n d_Mo_fits_13 rfl ?_
  refine jr_getf d_Mo_fits_14 f_Mo_fits_41 hO rfl ?_
  refine jr_bipush ((nI (24))) d_Mo_fits_17 (by decide) ?_
  refine jr_iload_n d_Mo_fits_19 rfl ?_
  refine jr_imulN d_Mo_fits_20 ?_
  refine jr_iload_n d_Mo_fits_21 rfl ?_
  refine jr_iaddN d_Mo_fits_22 ?_
  refine jr_ialdQ (v := (nI (n))) d_Mo_fits_23 h33 (by omega) (by omega) (hx) ?_
  refine jr_istore d_Mo_fits_24 (by decide) ?_
  show jl_W l G m_Mo_fits (0, 0) 26 [some (.ref 22), some (.int (nI m)), some (.int (nI pc)), some (.int (nI 0)), some (.int (en t)), some (.int (nI 13)), some (.int (nI n)), none] [] (σ) (.inl (some (.int (bi (part pr t (some (10 + n / 32))))))) (σ)
  refine jr_iload d_Mo_fits_26 rfl ?_
  refine jr_iconst ((nI (3))) d_Mo_fits_28 (by decide) ?_
  refine jr_icmp_lt 39 d_Mo_fits_29 (by decide) (fun z => absurd z (by decide)) (fun _ => ?_)
  refine jr_iload d_Mo_fits_32 rfl ?_
  refine jr_bipush ((nI (6))) d_Mo_fits_34 (by decide) ?_
  refine jr_icmp_le 60 d_Mo_fits_36 (by decide) (fun z => absurd z (by decide)) (fun _ => ?_)
  refine jr_iload d_Mo_fits_39 rfl ?_
  refine jr_bipush ((nI (8))) d_Mo_fits_41 (by decide) ?_
  refine jr_icmp_eq 60 d_Mo_fits_43 (by decide) (fun z => absurd z (by decide)) (fun _ => ?_)
  refine jr_iload d_Mo_fits_46 rfl ?_
  refine jr_bipush ((nI (9))) d_Mo_fits_48 (by decide) ?_
  refine jr_icmp_eq 60 d_Mo_fits_50 (by decide) (fun z => absurd z (by decide)) (fun _ => ?_)
  refine jr_iload d_Mo_fits_53 rfl ?_
  refine jr_bipush ((nI (19))) d_Mo_fits_55 (by decide) ?_
  refine jr_icmp_ne 71 d_Mo_fits_57 (by decide) (fun _ => ?_) (fun z => absurd z (by decide))
  refine jr_iload d_Mo_fits_71 rfl ?_
  refine jr_bipush ((nI (12))) d_Mo_fits_73 (by decide) ?_
  refine jr_icmp_eq 85 d_Mo_fits_75 (by decide) (fun z => absurd z (by decide)) (fun _ => ?_)
  refine jr_iload d_Mo_fits_78 rfl ?_
  refine jr_bipush ((nI (13))) d_Mo_fits_80 (by decide) ?_
  refine jr_icmp_ne 127 d_Mo_fits_82 (by decide) (fun z => absurd rfl z) (fun _ => ?_)
  refine jr_iload_n d_Mo_fits_85 rfl ?_
  refine jr_if_ne 106 d_Mo_fits_86 (by decide) (fun z => absurd rfl z) (fun _ => ?_)
  refine jr_aload_n d_Mo_fits_89 rfl ?_
  refine jr_iload d_Mo_fits_90 rfl ?_
  refine jr_bipush ((nI (10))) d_Mo_fits_92 (by decide) ?_
  refine jr_iload d_Mo_fits_94 rfl ?_
  refine jr_bipush ((nI (32))) d_Mo_fits_96 (by decide) ?_
  refine jr_idivN d_Mo_fits_98 (by omega) (by omega) (by omega) ?_
  refine jr_iaddN d_Mo_fits_99 ?_
  refine jr_callV (As := [.int (en t), .int (nI ((10) + ((n) / (32))))]) d_Mo_fits_100 k_Mo_fits_142 hO rfl rfl rfl (Nat.le_of_ble_eq_true rfl) (by decide) (by decide) (mo_part (x := t) (y := some ((10) + ((n) / (32)))) hl hO hw hok.dsc (by assumption) (ob_s (by omega))) ?_
  show jl_W l G m_Mo_fits (0, 0) 103 [some (.ref 22), some (.int (nI m)), some (.int (nI pc)), some (.int (nI 0)), some (.int (en t)), some (.int (nI 13)), some (.int (nI n)), none] [.int (bi (part pr t (some ((10) + ((n) / (32))))))] (σ) (.inl (some (.int (bi (part pr t (some (10 + n / 32))))))) (σ)
  refine jr_goto 126 d_Mo_fits_103 (by decide) ?_
  exact jr_zretE d_Mo_fits_126 rfl (bi_01 _) (bov (by first | (simp [isO]; done) | (simp [isO]; omega))) (rfl) (by decide) (by decide)
theorem d_Mo_fits_106 : decode m_Mo_fits.2.1 106 = .ok (.aload_n 0, 1) := by decide +kernel
theorem d_Mo_fits_107 : decode m_Mo_fits.2.1 107 = .ok (.iload 4, 2) := by decide +kernel
theorem d_Mo_fits_109 : decode m_Mo_fits.2.1 109 = .ok (.aload_n 0, 1) := by decide +kernel
theorem d_Mo_fits_110 : decode m_Mo_fits.2.1 110 = .ok (.iload 6, 2) := by decide +kernel
theorem d_Mo_fits_112 : decode m_Mo_fits.2.1 112 = .ok (.bipush 32, 2) := by decide +kernel
theorem d_Mo_fits_114 : decode m_Mo_fits.2.1 114 = .ok (.idiv, 1) := by decide +kernel
theorem d_Mo_fits_115 : decode m_Mo_fits.2.1 115 = .ok (.iload 6, 2) := by decide +kernel
theorem d_Mo_fits_117 : decode m_Mo_fits.2.1 117 = .ok (.bipush 32, 2) := by decide +kernel
theorem d_Mo_fits_119 : decode m_Mo_fits.2.1 119 = .ok (.irem, 1) := by decide +kernel
theorem k_Mo_fits_164 : jl_cv m_Mo_fits m_Mo_typeOfField 164 2 = true := by decide +kernel
theorem d_Mo_fits_120 : decode m_Mo_fits.2.1 120 = .ok (.invokevirtual 164, 3) := by decide +kernel
theorem d_Mo_fits_123 : decode m_Mo_fits.2.1 123 = .ok (.invokevirtual 142, 3) := by decide +kernel
theorem mo_fit_13_1 (hl : l.stackTraces = false) {m pc : Nat} {n : Nat} {t : Option Nat} (hO : MoO σ fa vf wh wy hg dp md ov oh dn an) (hw : MoW σ tb pr ow ft hs) (hu : MoM σ u1 u2 ur ul uo ua uc us ut uk) (hok : WoOk tb pr ow fi) (hK : MoK u1 u2 ur ul uo uc us ut uk) (hm : m < 24) (hpc : pc < 24) (ho : uo (24 * m + pc) = 13) (hx : ua (24 * m + pc) = nI n) (ht : ob 16 t) (hn : n < 2 ^ 31) (hk : n / 32 < 6) (hf : n % 32 < fi (n / 32) + ow (n / 32)) (hft : fty pr fi ft (n / 32) (n % 32) < 16) : jl_m l G m_Mo_fits [.ref 22, .int (nI m), .int (nI pc), .int (nI 1), .int (en t)] σ (.inl (some (.int (bi (part pr t (some (fty pr fi ft (n / 32) (n % 32)))))))) (σ) := by
  obtain ⟨h23, h24, h25, h26, h27⟩ := id hw
  obtain ⟨h28, h29, h30, h31, h32, h33, h34, h35, h36, h37⟩ := id hu
  obtain ⟨hk1, hk2, hk3, hk4, hk5, hk6⟩ := hK.1 m hm
  refine jl_of (as := [.ref 22, .int (nI m), .int (nI pc), .int (nI 1), .int (en t)]) rfl (by decide) hl (jl_cc rfl (jl_cc rfl (jl_cc rfl (jl_cc rfl (jl_cc rfl jl_ca))))) (Nat.le_of_ble_eq_true rfl) ?_
  show jl_W l G m_Mo_fits (0, 0) 0 [some (.ref 22), some (.int (nI m)), some (.int (nI pc)), some (.int (nI 1)), some (.int (en t)), none, none, none] [] (σ) (.inl (some (.int (bi (part pr t (some (fty pr fi ft (n / 32) (n % 32)))))))) (σ)
  refine jr_aload_n d_Mo_fits_0 rfl ?_
  refine jr_getf d_Mo_fits_1 f_Mo_fits_38 hO rfl ?_
  refine jr_bipush ((nI (24))) d_Mo_fits_4 (by decide) ?_
  refine jr_iload_n d_Mo_fits_6 rfl ?_
  refine jr_imulN d_Mo_fits_7 ?_
  refine jr_iload_n d_Mo_fits_8 rfl ?_
  refine jr_iaddN d_Mo_fits_9 ?_
  refine jr_ialdQ (v := (nI (13))) d_Mo_fits_10 h32 (by omega) (by omega) (congrArg nI ho) ?_
  refine jr_istore d_Mo_fits_11 (by decide) ?_
  show jl_W l G m_Mo_fits (0, 0) 13 [some (.ref 22), some (.int (nI m)), some (.int (nI pc)), some (.int (nI 1)), some (.int (en t)), some (.int (nI 13)), none, none] [] (σ) (.inl (some (.int (bi (part pr t (some (fty pr fi ft (n / 32) (n % 32)))))))) (σ)
  refine jr_aload_n d_Mo_fits_13 rfl ?_
  refine jr_getf d_Mo_fits_14 f_Mo_fits_41 hO rfl ?_
  refine jr_bipush ((nI (24))) d_Mo_fits_17 (by decide) ?_
  refine jr_iload_n d_Mo_fits_19 rfl ?_
  refine jr_imulN d_Mo_fits_20 ?_
  refine jr_iload_n d_Mo_fits_21 rfl ?_
  refine jr_iaddN d_Mo_fits_22 ?_
  refine jr_ialdQ (v := (nI (n))) d_Mo_fits_23 h33 (by omega) (by omega) (hx) ?_
  refine jr_istore d_Mo_fits_24 (by decide) ?_
  show jl_W l G m_Mo_fits (0, 0) 26 [some (.ref 22), some (.int (nI m)), some (.int (nI pc)), some (.int (nI 1)), some (.int (en t)), some (.int (nI 13)), some (.int (nI n)), none] [] (σ) (.inl (some (.int (bi (part pr t (some (fty pr fi ft (n / 32) (n % 32)))))))) (σ)
  refine jr_iload d_Mo_fits_26 rfl ?_
  refine jr_iconst ((nI (3))) d_Mo_fits_28 (by decide) ?_
  refine jr_icmp_lt 39 d_Mo_fits_29 (by decide) (fun z => absurd z (by decide)) (fun _ => ?_)
  refine jr_iload d_Mo_fits_32 rfl ?_
  refine jr_bipush ((nI (6))) d_Mo_fits_34 (by decide) ?_
  refine jr_icmp_le 60 d_Mo_fits_36 (by decide) (fun z => absurd z (by decide)) (fun _ => ?_)
  refine jr_iload d_Mo_fits_39 rfl ?_
  refine jr_bipush ((nI (8))) d_Mo_fits_41 (by decide) ?_
  refine jr_icmp_eq 60 d_Mo_fits_43 (by decide) (fun z => absurd z (by decide)) (fun _ => ?_)
  refine jr_iload d_Mo_fits_46 rfl ?_
  refine jr_bipush ((nI (9))) d_Mo_fits_48 (by decide) ?_
  refine jr_icmp_eq 60 d_Mo_fits_50 (by decide) (fun z => absurd z (by decide)) (fun _ => ?_)
  refine jr_iload d_Mo_fits_53 rfl ?_
  refine jr_bipush ((nI (19))) d_Mo_fits_55 (by decide) ?_
  refine jr_icmp_ne 71 d_Mo_fits_57 (by decide) (fun _ => ?_) (fun z => absurd z (by decide))
  refine jr_iload d_Mo_fits_71 rfl ?_
  refine jr_bipush ((nI (12))) d_Mo_fits_73 (by decide) ?_
  refine jr_icmp_eq 85 d_Mo_fits_75 (by decide) (fun z => absurd z (by decide)) (fun _ => ?_)
  refine jr_iload d_Mo_fits_78 rfl ?_
  refine jr_bipush ((nI (13))) d_Mo_fits_80 (by decide) ?_
  refine jr_icmp_ne 127 d_Mo_fits_82 (by decide) (fun z => absurd rfl z) (fun _ => ?_)
  refine jr_iload_n d_Mo_fits_85 rfl ?_
  refine jr_if_ne 106 d_Mo_fits_86 (by decide) (fun _ => ?_) (fun z => absurd z (by decide))
  refine jr_aload_n d_Mo_fits_106 rfl ?_
  refine jr_iload d_Mo_fits_107 rfl ?_
  refine jr_aload_n d_Mo_fits_109 rfl ?_
  refine jr_iload d_Mo_fits_110 rfl ?_
  refine jr_bipush ((nI (32))) d_Mo_fits_112 (by decide) ?_
  refine jr_idivN d_Mo_fits_114 (by omega) (by omega) (by omega) ?_
  refine jr_iload d_Mo_fits_115 rfl ?_
  refine jr_bipush ((nI (32))) d_Mo_fits_117 (by decide) ?_
  refine jr_iremN d_Mo_fits_119 (by omega) (by omega) (by omega) ?_
  refine jr_callV (As := [.int (nI ((n) / (32))), .int (nI ((n) % (32)))]) d_Mo_fits_120 k_Mo_fits_164 hO rfl rfl rfl (Nat.le_of_ble_eq_true rfl) (by decide) (by decide) (mo_tf hl hO hw hok hk hf) ?_
  show jl_W l G m_Mo_fits (0, 0) 123 [some (.ref 22), some (.int (nI m)), some (.int (nI pc)), some (.int (nI 1)), some (.int (en t)), some (.int (nI 13)), some (.int (nI n)), none] [.int (nI (fty pr fi ft (n / 32) (n % 32))), .int (en t), .ref 22] (σ) (.inl (some (.int (bi (part pr t (some (fty pr fi ft (n / 32) (n % 32)))))))) (σ)
  refine jr_callV (As := [.int (en t), .int (nI (fty pr fi ft (n / 32) (n % 32)))]) d_Mo_fits_123 k_Mo_fits_142 hO rfl rfl rfl (Nat.le_of_ble_eq_true rfl) (by decide) (by decide) (mo_part (x := t) (y := some (fty pr fi ft (n / 32) (n % 32))) hl hO hw hok.dsc (by assumption) (ob_s (by omega))) ?_
  show jl_W l G m_Mo_fits (0, 0) 126 [some (.ref 22), some (.int (nI m)), some (.int (nI pc)), some (.int (nI 1)), some (.int (en t)), some (.int (nI 13)), some (.int (nI n)), none] [.int (bi (part pr t (some (fty pr fi ft (n / 32) (n % 32)))))] (σ) (.inl (some (.int (bi (part pr t (some (fty pr fi ft (n / 32) (n % 32)))))))) (σ)
  exact jr_zretE d_Mo_fits_126 rfl (bi_01 _) (bov (by first | (simp [isO]; done) | (simp [isO]; omega))) (rfl) (by decide) (by decide)
theorem d_Mo_fits_134 : decode m_Mo_fits.2.1 134 = .ok (.aload_n 0, 1) := by decide +kernel
theorem d_Mo_fits_135 : decode m_Mo_fits.2.1 135 = .ok (.iload 6, 2) := by decide +kernel
theorem d_Mo_fits_137 : decode m_Mo_fits.2.1 137 = .ok (.iconst 4, 1) := by decide +kernel
theorem d_Mo_fits_138 : decode m_Mo_fits.2.1 138 = .ok (.idiv, 1) := by decide +kernel
theorem d_Mo_fits_139 : decode m_Mo_fits.2.1 139 = .ok (.iload 6, 2) := by decide +kernel
theorem d_Mo_fits_141 : decode m_Mo_fits.2.1 141 = .ok (.iconst 4, 1) := by decide +kernel
theorem d_Mo_fits_142 : decode m_Mo_fits.2.1 142 = .ok (.irem, 1) := by decide +kernel
theorem k_Mo_fits_157 : jl_cv m_Mo_fits m_Mo_methodOf 157 2 = true := by decide +kernel
theorem d_Mo_fits_143 : decode m_Mo_fits.2.1 143 = .ok (.invokevirtual 157, 3) := by decide +kernel
theorem d_Mo_fits_146 : decode m_Mo_fits.2.1 146 = .ok (.istore 7, 2) := by decide +kernel
theorem d_Mo_fits_148 : decode m_Mo_fits.2.1 148 = .ok (.aload_n 0, 1) := by decide +kernel
theorem d_Mo_fits_149 : decode m_Mo_fits.2.1 149 = .ok (.iload 4, 2) := by decide +kernel
theorem d_Mo_fits_151 : decode m_Mo_fits.2.1 151 = .ok (.iload_n 3, 1) := by decide +kernel
theorem d_Mo_fits_152 : decode m_Mo_fits.2.1 152 = .ok (.ifCond .ne 13, 3) := by decide +kernel
theorem d_Mo_fits_155 : decode m_Mo_fits.2.1 155 = .ok (.bipush 10, 2) := by decide +kernel
theorem d_Mo_fits_157 : decode m_Mo_fits.2.1 157 = .ok (.iload 6, 2) := by decide +kernel
theorem d_Mo_fits_159 : decode m_Mo_fits.2.1 159 = .ok (.iconst 4, 1) := by decide +kernel
theorem d_Mo_fits_160 : decode m_Mo_fits.2.1 160 = .ok (.idiv, 1) := by decide +kernel
theorem d_Mo_fits_161 : decode m_Mo_fits.2.1 161 = .ok (.iadd, 1) := by decide +kernel
theorem d_Mo_fits_162 : decode m_Mo_fits.2.1 162 = .ok (.goto 25, 3) := by decide +kernel
theorem d_Mo_fits_187 : decode m_Mo_fits.2.1 187 = .ok (.invokevirtual 142, 3) := by decide +kernel
theorem d_Mo_fits_190 : decode m_Mo_fits.2.1 190 = .ok (.ireturn, 1) := by decide +kernel
theorem mo_fit_14_0 (hl : l.stackTraces = false) {m pc : Nat} {n : Nat} {c : Nat} {p q : Option Nat} {t : Option Nat} (hO : MoO σ fa vf wh wy hg dp md ov oh dn an) (hw : MoW σ tb pr ow ft hs) (hu : MoM σ u1 u2 ur ul uo ua uc us ut uk) (hok : WoOk tb pr ow fi) (hK : MoK u1 u2 ur ul uo uc us ut uk) (hm : m < 24) (hpc : pc < 24) (ho : uo (24 * m + pc) = 14) (hx : ua (24 * m + pc) = nI n) (ht : ob 16 t) (hn : n < 2 ^ 31) (hk : n / 4 < 6) (hmo : mmo pr hs (n % 4) 6 (some (n / 4)) = some c) (hc : c < 24) (e1 : u1 c = p) (e2 : u2 c = q) (hp : ob 16 p) (hq : ob 16 q) : jl_m l G m_Mo_fits [.ref 22, .int (nI m), .int (nI pc), .int (nI 0), .int (en t)] σ (.inl (some (.int (bi (part pr t (some (10 + n / 4))))))) (σ) := by
  obtain ⟨h23, h24, h25, h26, h27⟩ := id hw
  obtain ⟨h28, h29, h30, h31, h32, h33, h34, h35, h36, h37⟩ := id hu
  obtain ⟨hk1, hk2, hk3, hk4, hk5, hk6⟩ := hK.1 m hm
  refine jl_of (as := [.ref 22, .int (nI m), .int (nI pc), .int (nI 0), .int (en t)]) rfl (by decide) hl (jl_cc rfl (jl_cc rfl (jl_cc rfl (jl_cc rfl (jl_cc rfl jl_ca))))) (Nat.le_of_ble_eq_true rfl) ?_
  show jl_W l G m_Mo_fits (0, 0) 0 [some (.ref 22), some (.int (nI m)), some (.int (nI pc)), some (.int (nI 0)), some (.int (en t)), none, none, none] [] (σ) (.inl (some (.int (bi (part pr t (some (10 + n / 4))))))) (σ)
  refine jr_aload_n d_Mo_fits_0 rfl ?_
  refine jr_getf d_Mo_fits_1 f_Mo_fits_38 hO rfl ?_
  refine jr_bipush ((nI (24))) d_Mo_fits_4 (by decide) ?_
  refine jr_iload_n d_Mo_fits_6 rfl ?_
  refine jr_imulN d_Mo_fits_7 ?_
  refine jr_iload_n d_Mo_fits_8 rfl ?_
  refine jr_iaddN d_Mo_fits_9 ?_
  refine jr_ialdQ (v := (nI (14))) d_Mo_fits_10 h32 (by omega) (by omega) (congrArg nI ho) ?_
  refine jr_istore d_Mo_fits_11 (by decide) ?_
  show jl_W l G m_Mo_fits (0, 0) 13 [some (.ref 22), some (.int (nI m)), some (.int (nI pc)), some (.int (nI 0)), some (.int (en t)), some (.int (nI 14)), none, none] [] (σ) (.inl (some (.int (bi (part pr t (some (10 + n / 4))))))) (σ)
  refine jr_aload_n d_Mo_fits_13 rfl ?_
  refine jr_getf d_Mo_fits_14 f_Mo_fits_41 hO rfl ?_
  refine jr_bipush ((nI (24))) d_Mo_fits_17 (by decide) ?_
  refine jr_iload_n d_Mo_fits_19 rfl ?_
  refine jr_imulN d_Mo_fits_20 ?_
  refine jr_iload_n d_Mo_fits_21 rfl ?_
  refine jr_iaddN d_Mo_fits_22 ?_
  refine jr_ialdQ (v := (nI (n))) d_Mo_fits_23 h33 (by omega) (by omega) (hx) ?_
  refine jr_istore d_Mo_fits_24 (by decide) ?_
  show jl_W l G m_Mo_fits (0, 0) 26 [some (.ref 22), some (.int (nI m)), some (.int (nI pc)), some (.int (nI 0)), some (.int (en t)), some (.int (nI 14)), some (.int (nI n)), none] [] (σ) (.inl (some (.int (bi (part pr t (some (10 + n / 4))))))) (σ)
  refine jr_iload d_Mo_fits_26 rfl ?_
  refine jr_iconst ((nI (3))) d_Mo_fits_28 (by decide) ?_
  refine jr_icmp_lt 39 d_Mo_fits_29 (by decide) (fun z => absurd z (by decide)) (fun _ => ?_)
  refine jr_iload d_Mo_fits_32 rfl ?_
  refine jr_bipush ((nI (6))) d_Mo_fits_34 (by decide) ?_
  refine jr_icmp_le 60 d_Mo_fits_36 (by decide) (fun z => absurd z (by decide)) (fun _ => ?_)
  refine jr_iload d_Mo_fits_39 rfl ?_
  refine jr_bipush ((nI (8))) d_Mo_fits_41 (by decide) ?_
  refine jr_icmp_eq 60 d_Mo_fits_43 (by decide) (fun z => absurd z (by decide)) (fun _ => ?_)
  refine jr_iload d_Mo_fits_46 rfl ?_
  refine jr_bipush ((nI (9))) d_Mo_fits_48 (by decide) ?_
  refine jr_icmp_eq 60 d_Mo_fits_50 (by decide) (fun z => absurd z (by decide)) (fun _ => ?_)
  refine jr_iload d_Mo_fits_53 rfl ?_
  refine jr_bipush ((nI (19))) d_Mo_fits_55 (by decide) ?_
  refine jr_icmp_ne 71 d_Mo_fits_57 (by decide) (fun _ => ?_) (fun z => absurd z (by decide))
  refine jr_iload d_Mo_fits_71 rfl ?_
  refine jr_bipush ((nI (12))) d_Mo_fits_73 (by decide) ?_
  refine jr_icmp_eq 85 d_Mo_fits_75 (by decide) (fun z => absurd z (by decide)) (fun _ => ?_)
  refine jr_iload d_Mo_fits_78 rfl ?_
  refine jr_bipush ((nI (13))) d_Mo_fits_80 (by decide) ?_
  refine jr_icmp_ne 127 d_Mo_fits_82 (by decide) (fun _ => ?_) (fun z => absurd z (by decide))
  refine jr_iload d_Mo_fits_127 rfl ?_
  refine jr_bipush ((nI (14))) d_Mo_fits_129 (by decide) ?_
  refine jr_icmp_ne 191 d_Mo_fits_131 (by decide) (fun z => absurd rfl z) (fun _ => ?_)
  refine jr_aload_n d_Mo_fits_134 rfl ?_
  refine jr_iload d_Mo_fits_135 rfl ?_
  refine jr_iconst ((nI (4))) d_Mo_fits_137 (by decide) ?_
  refine jr_idivN d_Mo_fits_138 (by omega) (by omega) (by omega) ?_
  refine jr_iload d_Mo_fits_139 rfl ?_
  refine jr_iconst ((nI (4))) d_Mo_fits_141 (by decide) ?_
  refine jr_iremN d_Mo_fits_142 (by omega) (by omega) (by omega) ?_
  refine jr_callV (As := [.int (nI ((n) / (4))), .int (nI ((n) % (4)))]) d_Mo_fits_143 k_Mo_fits_157 hO rfl rfl rfl (Nat.le_of_ble_eq_true rfl) (by decide) (by decide) (jl_meq (by rw [hmo]) (mo_methodOf (x := some (n / 4)) hl hO hw (by omega) hok.dsc (ob_s hk))) ?_
  show jl_W l G m_Mo_fits (0, 0) 146 [some (.ref 22), some (.int (nI m)), some (.int (nI pc)), some (.int (nI 0)), some (.int (en t)), some (.int (nI 14)), some (.int (nI n)), none] [.int (nI c)] (σ) (.inl (some (.int (bi (part pr t (some (10 + n / 4))))))) (σ)
  refine jr_istore d_Mo_fits_146 (by decide) ?_
  show jl_W l G m_Mo_fits (0, 0) 148 [some (.ref 22), some (.int (nI m)), some (.int (nI pc)), some (.int (nI 0)), some (.int (en t)), some (.int (nI 14)), some (.int (nI n)), some (.int (nI c))] [] (σ) (.inl (some (.int (bi (part pr t (some (10 + n / 4))))))) (σ)
  refine jr_aload_n d_Mo_fits_148 rfl ?_
  refine jr_iload d_Mo_fits_149 rfl ?_
  refine jr_iload_n d_Mo_fits_151 rfl ?_
  refine jr_if_ne 165 d_Mo_fits_152 (by decide) (fun z => absurd rfl z) (fun _ => ?_)
  refine jr_bipush ((nI (10))) d_Mo_fits_155 (by decide) ?_
  refine jr_iload d_Mo_fits_157 rfl ?_
  refine jr_iconst ((nI (4))) d_Mo_fits_159 (by decide) ?_
  refine jr_idivN d_Mo_fits_160 (by omega) (by omega) (by omega) ?_
  refine jr_iaddN d_Mo_fits_161 ?_
  refine jr_goto 187 d_Mo_fits_162 (by decide) ?_
  refine jr_callV (As := [.int (en t), .int (nI ((10) + ((n) / (4))))]) d_Mo_fits_187 k_Mo_fits_142 hO rfl rfl rfl (Nat.le_of_ble_eq_true rfl) (by decide) (by decide) (mo_part (x := t) (y := some ((10) + ((n) / (4)))) hl hO hw hok.dsc (by assumption) (ob_s (by omega))) ?_
  show jl_W l G m_Mo_fits (0, 0) 190 [some (.ref 22), some (.int (nI m)), some (.int (nI pc)), some (.int (nI 0)), some (.int (en t)), some (.int (nI 14)), some (.int (nI n)), some (.int (nI c))] [.int (bi (part pr t (some ((10) + ((n) / (4))))))] (σ) (.inl (some (.int (bi (part pr t (some (10 + n / 4))))))) (σ)
  exact jr_zretE d_Mo_fits_190 rfl (bi_01 _) (bov (by first | (simp [isO]; done) | (simp [isO]; omega))) (rfl) (by decide) (by decide)
theorem d_Mo_fits_165 : decode m_Mo_fits.2.1 165 = .ok (.iload_n 3, 1) := by decide +kernel
theorem d_Mo_fits_166 : decode m_Mo_fits.2.1 166 = .ok (.iconst 1, 1) := by decide +kernel
theorem d_Mo_fits_167 : decode m_Mo_fits.2.1 167 = .ok (.if_icmp .ne 13, 3) := by decide +kernel
theorem d_Mo_fits_170 : decode m_Mo_fits.2.1 170 = .ok (.aload_n 0, 1) := by decide +kernel
theorem f_Mo_fits_26 : jl_fd m_Mo_fits 26 7 6 = true := by decide +kernel
theorem d_Mo_fits_171 : decode m_Mo_fits.2.1 171 = .ok (.getfield 26, 3) := by decide +kernel
theorem d_Mo_fits_174 : decode m_Mo_fits.2.1 174 = .ok (.iload 7, 2) := by decide +kernel
theorem d_Mo_fits_176 : decode m_Mo_fits.2.1 176 = .ok (.iaload, 1) := by decide +kernel
theorem d_Mo_fits_177 : decode m_Mo_fits.2.1 177 = .ok (.goto 10, 3) := by decide +kernel
theorem mo_fit_14_1 (hl : l.stackTraces = false) {m pc : Nat} {n : Nat} {c : Nat} {p q : Option Nat} {t : Option Nat} (hO : MoO σ fa vf wh wy hg dp md ov oh dn an) (hw : MoW σ tb pr ow ft hs) (hu : MoM σ u1 u2 ur ul uo ua uc us ut uk) (hok : WoOk tb pr ow fi) (hK : MoK u1 u2 ur ul uo uc us ut uk) (hm : m < 24) (hpc : pc < 24) (ho : uo (24 * m + pc) = 14) (hx : ua (24 * m + pc) = nI n) (ht : ob 16 t) (hn : n < 2 ^ 31) (hk : n / 4 < 6) (hmo : mmo pr hs (n % 4) 6 (some (n / 4)) = some c) (hc : c < 24) (e1 : u1 c = p) (e2 : u2 c = q) (hp : ob 16 p) (hq : ob 16 q) : jl_m l G m_Mo_fits [.ref 22, .int (nI m), .int (nI pc), .int (nI 1), .int (en t)] σ (.inl (some (.int (bi (part pr t p))))) (σ) := by
  obtain ⟨h23, h24, h25, h26, h27⟩ := id hw
  obtain ⟨h28, h29, h30, h31, h32, h33, h34, h35, h36, h37⟩ := id hu
  obtain ⟨hk1, hk2, hk3, hk4, hk5, hk6⟩ := hK.1 m hm
  refine jl_of (as := [.ref 22, .int (nI m), .int (nI pc), .int (nI 1), .int (en t)]) rfl (by decide) hl (jl_cc rfl (jl_cc rfl (jl_cc rfl (jl_cc rfl (jl_cc rfl jl_ca))))) (Nat.le_of_ble_eq_true rfl) ?_
  show jl_W l G m_Mo_fits (0, 0) 0 [some (.ref 22), some (.int (nI m)), some (.int (nI pc)), some (.int (nI 1)), some (.int (en t)), none, none, none] [] (σ) (.inl (some (.int (bi (part pr t p))))) (σ)
  refine jr_aload_n d_Mo_fits_0 rfl ?_
  refine jr_getf d_Mo_fits_1 f_Mo_fits_38 hO rfl ?_
  refine jr_bipush ((nI (24))) d_Mo_fits_4 (by decide) ?_
  refine jr_iload_n d_Mo_fits_6 rfl ?_
  refine jr_imulN d_Mo_fits_7 ?_
  refine jr_iload_n d_Mo_fits_8 rfl ?_
  refine jr_iaddN d_Mo_fits_9 ?_
  refine jr_ialdQ (v := (nI (14))) d_Mo_fits_10 h32 (by omega) (by omega) (congrArg nI ho) ?_
  refine jr_istore d_Mo_fits_11 (by decide) ?_
  show jl_W l G m_Mo_fits (0, 0) 13 [some (.ref 22), some (.int (nI m)), some (.int (nI pc)), some (.int (nI 1)), some (.int (en t)), some (.int (nI 14)), none, none] [] (σ) (.inl (some (.int (bi (part pr t p))))) (σ)
  refine jr_aload_n d_Mo_fits_13 rfl ?_
  refine jr_getf d_Mo_fits_14 f_Mo_fits_41 hO rfl ?_
  refine jr_bipush ((nI (24))) d_Mo_fits_17 (by decide) ?_
  refine jr_iload_n d_Mo_fits_19 rfl ?_
  refine jr_imulN d_Mo_fits_20 ?_
  refine jr_iload_n d_Mo_fits_21 rfl ?_
  refine jr_iaddN d_Mo_fits_22 ?_
  refine jr_ialdQ (v := (nI (n))) d_Mo_fits_23 h33 (by omega) (by omega) (hx) ?_
  refine jr_istore d_Mo_fits_24 (by decide) ?_
  show jl_W l G m_Mo_fits (0, 0) 26 [some (.ref 22), some (.int (nI m)), some (.int (nI pc)), some (.int (nI 1)), some (.int (en t)), some (.int (nI 14)), some (.int (nI n)), none] [] (σ) (.inl (some (.int (bi (part pr t p))))) (σ)
  refine jr_iload d_Mo_fits_26 rfl ?_
  refine jr_iconst ((nI (3))) d_Mo_fits_28 (by decide) ?_
  refine jr_icmp_lt 39 d_Mo_fits_29 (by decide) (fun z => absurd z (by decide)) (fun _ => ?_)
  refine jr_iload d_Mo_fits_32 rfl ?_
  refine jr_bipush ((nI (6))) d_Mo_fits_34 (by decide) ?_
  refine jr_icmp_le 60 d_Mo_fits_36 (by decide) (fun z => absurd z (by decide)) (fun _ => ?_)
  refine jr_iload d_Mo_fits_39 rfl ?_
  refine jr_bipush ((nI (8))) d_Mo_fits_41 (by decide) ?_
  refine jr_icmp_eq 60 d_Mo_fits_43 (by decide) (fun z => absurd z (by decide)) (fun _ => ?_)
  refine jr_iload d_Mo_fits_46 rfl ?_
  refine jr_bipush ((nI (9))) d_Mo_fits_48 (by decide) ?_
  refine jr_icmp_eq 60 d_Mo_fits_50 (by decide) (fun z => absurd z (by decide)) (fun _ => ?_)
  refine jr_iload d_Mo_fits_53 rfl ?_
  refine jr_bipush ((nI (19))) d_Mo_fits_55 (by decide) ?_
  refine jr_icmp_ne 71 d_Mo_fits_57 (by decide) (fun _ => ?_) (fun z => absurd z (by decide))
  refine jr_iload d_Mo_fits_71 rfl ?_
  refine jr_bipush ((nI (12))) d_Mo_fits_73 (by decide) ?_
  refine jr_icmp_eq 85 d_Mo_fits_75 (by decide) (fun z => absurd z (by decide)) (fun _ => ?_)
  refine jr_iload d_Mo_fits_78 rfl ?_
  refine jr_bipush ((nI (13))) d_Mo_fits_80 (by decide) ?_
  refine jr_icmp_ne 127 d_Mo_fits_82 (by decide) (fun _ => ?_) (fun z => absurd z (by decide))
  refine jr_iload d_Mo_fits_127 rfl ?_
  refine jr_bipush ((nI (14))) d_Mo_fits_129 (by decide) ?_
  refine jr_icmp_ne 191 d_Mo_fits_131 (by decide) (fun z => absurd rfl z) (fun _ => ?_)
  refine jr_aload_n d_Mo_fits_134 rfl ?_
  refine jr_iload d_Mo_fits_135 rfl ?_
  refine jr_iconst ((nI (4))) d_Mo_fits_137 (by decide) ?_
  refine jr_idivN d_Mo_fits_138 (by omega) (by omega) (by omega) ?_
  refine jr_iload d_Mo_fits_139 rfl ?_
  refine jr_iconst ((nI (4))) d_Mo_fits_141 (by decide) ?_
  refine jr_iremN d_Mo_fits_142 (by omega) (by omega) (by omega) ?_
  refine jr_callV (As := [.int (nI ((n) / (4))), .int (nI ((n) % (4)))]) d_Mo_fits_143 k_Mo_fits_157 hO rfl rfl rfl (Nat.le_of_ble_eq_true rfl) (by decide) (by decide) (jl_meq (by rw [hmo]) (mo_methodOf (x := some (n / 4)) hl hO hw (by omega) hok.dsc (ob_s hk))) ?_
  show jl_W l G m_Mo_fits (0, 0) 146 [some (.ref 22), some (.int (nI m)), some (.int (nI pc)), some (.int (nI 1)), some (.int (en t)), some (.int (nI 14)), some (.int (nI n)), none] [.int (nI c)] (σ) (.inl (some (.int (bi (part pr t p))))) (σ)
  refine jr_istore d_Mo_fits_146 (by decide) ?_
  show jl_W l G m_Mo_fits (0, 0) 148 [some (.ref 22), some (.int (nI m)), some (.int (nI pc)), some (.int (nI 1)), some (.int (en t)), some (.int (nI 14)), some (.int (nI n)), some (.int (nI c))] [] (σ) (.inl (some (.int (bi (part pr t p))))) (σ)
  refine jr_aload_n d_Mo_fits_148 rfl ?_
  refine jr_iload d_Mo_fits_149 rfl ?_
  refine jr_iload_n d_Mo_fits_151 rfl ?_
  refine jr_if_ne 165 d_Mo_fits_152 (by decide) (fun _ => ?_) (fun z => absurd z (by decide))
  refine jr_iload_n d_Mo_fits_165 rfl ?_
  refine jr_iconst ((nI (1))) d_Mo_fits_166 (by decide) ?_
  refine jr_icmp_ne 180 d_Mo_fits_167 (by decide) (fun z => absurd rfl z) (fun _ => ?_)
  refine jr_aload_n d_Mo_fits_170 rfl ?_
  refine jr_getf d_Mo_fits_171 f_Mo_fits_26 hO rfl ?_
  refine jr_iload d_Mo_fits_174 rfl ?_
  refine jr_ialdQ (v := (en p)) d_Mo_fits_176 h28 (by omega) (by omega) (congrArg en e1) ?_
  refine jr_goto 187 d_Mo_fits_177 (by decide) ?_
  refine jr_callV (As := [.int (en t), .int (en p)]) d_Mo_fits_187 k_Mo_fits_142 hO rfl rfl rfl (Nat.le_of_ble_eq_true rfl) (by decide) (by decide) (mo_part (x := t) (y := p) hl hO hw hok.dsc (by assumption) (by assumption)) ?_
  show jl_W l G m_Mo_fits (0, 0) 190 [some (.ref 22), some (.int (nI m)), some (.int (nI pc)), some (.int (nI 1)), some (.int (en t)), some (.int (nI 14)), some (.int (nI n)), some (.int (nI c))] [.int (bi (part pr t p))] (σ) (.inl (some (.int (bi (part pr t p))))) (σ)
  exact jr_zretE d_Mo_fits_190 rfl (bi_01 _) (bov (by first | (simp [isO]; done) | (simp [isO]; omega))) (rfl) (by decide) (by decide)
theorem d_Mo_fits_180 : decode m_Mo_fits.2.1 180 = .ok (.aload_n 0, 1) := by decide +kernel
theorem f_Mo_fits_29 : jl_fd m_Mo_fits 29 7 7 = true := by decide +kernel
theorem d_Mo_fits_181 : decode m_Mo_fits.2.1 181 = .ok (.getfield 29, 3) := by decide +kernel
theorem d_Mo_fits_184 : decode m_Mo_fits.2.1 184 = .ok (.iload 7, 2) := by decide +kernel
theorem d_Mo_fits_186 : decode m_Mo_fits.2.1 186 = .ok (.iaload, 1) := by decide +kernel
theorem mo_fit_14_2 (hl : l.stackTraces = false) {m pc : Nat} {n : Nat} {c : Nat} {p q : Option Nat} {t : Option Nat} (hO : MoO σ fa vf wh wy hg dp md ov oh dn an) (hw : MoW σ tb pr ow ft hs) (hu : MoM σ u1 u2 ur ul uo ua uc us ut uk) (hok : WoOk tb pr ow fi) (hK : MoK u1 u2 ur ul uo uc us ut uk) (hm : m < 24) (hpc : pc < 24) (ho : uo (24 * m + pc) = 14) (hx : ua (24 * m + pc) = nI n) (ht : ob 16 t) (hn : n < 2 ^ 31) (hk : n / 4 < 6) (hmo : mmo pr hs (n % 4) 6 (some (n / 4)) = some c) (hc : c < 24) (e1 : u1 c = p) (e2 : u2 c = q) (hp : ob 16 p) (hq : ob 16 q) : jl_m l G m_Mo_fits [.ref 22, .int (nI m), .int (nI pc), .int (nI 2), .int (en t)] σ (.inl (some (.int (bi (part pr t q))))) (σ) := by
  obtain ⟨h23, h24, h25, h26, h27⟩ := id hw
  obtain ⟨h28, h29, h30, h31, h32, h33, h34, h35, h36, h37⟩ := id hu
  obtain ⟨hk1, hk2, hk3, hk4, hk5, hk6⟩ := hK.1 m hm
  refine jl_of (as := [.ref 22, .int (nI m), .int (nI pc), .int (nI 2), .int (en t)]) rfl (by decide) hl (jl_cc rfl (jl_cc rfl (jl_cc rfl (jl_cc rfl (jl_cc rfl jl_ca))))) (Nat.le_of_ble_eq_true rfl) ?_
  show jl_W l G m_Mo_fits (0, 0) 0 [some (.ref 22), some (.int (nI m)), some (.int (nI pc)), some (.int (nI 2)), some (.int (en t)), none, none, none] [] (σ) (.inl (some (.int (bi (part pr t q))))) (σ)
  refine jr_aload_n d_Mo_fits_0 rfl ?_
  refine jr_getf d_Mo_fits_1 f_Mo_fits_38 hO rfl ?_
  refine jr_bipush ((nI (24))) d_Mo_fits_4 (by decide) ?_
  refine jr_iload_n d_Mo_fits_6 rfl ?_
  refine jr_imulN d_Mo_fits_7 ?_
  refine jr_iload_n d_Mo_fits_8 rfl ?_
  refine jr_iaddN d_Mo_fits_9 ?_
  refine jr_ialdQ (v := (nI (14))) d_Mo_fits_10 h32 (by omega) (by omega) (congrArg nI ho) ?_
  refine jr_istore d_Mo_fits_11 (by decide) ?_
  show jl_W l G m_Mo_fits (0, 0) 13 [some (.ref 22), some (.int (nI m)), some (.int (nI pc)), some (.int (nI 2)), some (.int (en t)), some (.int (nI 14)), none, none] [] (σ) (.inl (some (.int (bi (part pr t q))))) (σ)
  refine jr_aload_n d_Mo_fits_13 rfl ?_
  refine jr_getf d_Mo_fits_14 f_Mo_fits_41 hO rfl ?_
  refine jr_bipush ((nI (24))) d_Mo_fits_17 (by decide) ?_
  refine jr_iload_n d_Mo_fits_19 rfl ?_
  refine jr_imulN d_Mo_fits_20 ?_
  refine jr_iload_n d_Mo_fits_21 rfl ?_
  refine jr_iaddN d_Mo_fits_22 ?_
  refine jr_ialdQ (v := (nI (n))) d_Mo_fits_23 h33 (by omega) (by omega) (hx) ?_
  refine jr_istore d_Mo_fits_24 (by decide) ?_
  show jl_W l G m_Mo_fits (0, 0) 26 [some (.ref 22), some (.int (nI m)), some (.int (nI pc)), some (.int (nI 2)), some (.int (en t)), some (.int (nI 14)), some (.int (nI n)), none] [] (σ) (.inl (some (.int (bi (part pr t q))))) (σ)
  refine jr_iload d_Mo_fits_26 rfl ?_
  refine jr_iconst ((nI (3))) d_Mo_fits_28 (by decide) ?_
  refine jr_icmp_lt 39 d_Mo_fits_29 (by decide) (fun z => absurd z (by decide)) (fun _ => ?_)
  refine jr_iload d_Mo_fits_32 rfl ?_
  refine jr_bipush ((nI (6))) d_Mo_fits_34 (by decide) ?_
  refine jr_icmp_le 60 d_Mo_fits_36 (by decide) (fun z => absurd z (by decide)) (fun _ => ?_)
  refine jr_iload d_Mo_fits_39 rfl ?_
  refine jr_bipush ((nI (8))) d_Mo_fits_41 (by decide) ?_
  refine jr_icmp_eq 60 d_Mo_fits_43 (by decide) (fun z => absurd z (by decide)) (fun _ => ?_)
  refine jr_iload d_Mo_fits_46 rfl ?_
  refine jr_bipush ((nI (9))) d_Mo_fits_48 (by decide) ?_
  refine jr_icmp_eq 60 d_Mo_fits_50 (by decide) (fun z => absurd z (by decide)) (fun _ => ?_)
  refine jr_iload d_Mo_fits_53 rfl ?_
  refine jr_bipush ((nI (19))) d_Mo_fits_55 (by decide) ?_
  refine jr_icmp_ne 71 d_Mo_fits_57 (by decide) (fun _ => ?_) (fun z => absurd z (by decide))
  refine jr_iload d_Mo_fits_71 rfl ?_
  refine jr_bipush ((nI (12))) d_Mo_fits_73 (by decide) ?_
  refine jr_icmp_eq 85 d_Mo_fits_75 (by decide) (fun z => absurd z (by decide)) (fun _ => ?_)
  refine jr_iload d_Mo_fits_78 rfl ?_
  refine jr_bipush ((nI (13))) d_Mo_fits_80 (by decide) ?_
  refine jr_icmp_ne 127 d_Mo_fits_82 (by decide) (fun _ => ?_) (fun z => absurd z (by decide))
  refine jr_iload d_Mo_fits_127 rfl ?_
  refine jr_bipush ((nI (14))) d_Mo_fits_129 (by decide) ?_
  refine jr_icmp_ne 191 d_Mo_fits_131 (by decide) (fun z => absurd rfl z) (fun _ => ?_)
  refine jr_aload_n d_Mo_fits_134 rfl ?_
  refine jr_iload d_Mo_fits_135 rfl ?_
  refine jr_iconst ((nI (4))) d_Mo_fits_137 (by decide) ?_
  refine jr_idivN d_Mo_fits_138 (by omega) (by omega) (by omega) ?_
  refine jr_iload d_Mo_fits_139 rfl ?_
  refine jr_iconst ((nI (4))) d_Mo_fits_141 (by decide) ?_
  refine jr_iremN d_Mo_fits_142 (by omega) (by omega) (by omega) ?_
  refine jr_callV (As := [.int (nI ((n) / (4))), .int (nI ((n) % (4)))]) d_Mo_fits_143 k_Mo_fits_157 hO rfl rfl rfl (Nat.le_of_ble_eq_true rfl) (by decide) (by decide) (jl_meq (by rw [hmo]) (mo_methodOf (x := some (n / 4)) hl hO hw (by omega) hok.dsc (ob_s hk))) ?_
  show jl_W l G m_Mo_fits (0, 0) 146 [some (.ref 22), some (.int (nI m)), some (.int (nI pc)), some (.int (nI 2)), some (.int (en t)), some (.int (nI 14)), some (.int (nI n)), none] [.int (nI c)] (σ) (.inl (some (.int (bi (part pr t q))))) (σ)
  refine jr_istore d_Mo_fits_146 (by decide) ?_
  show jl_W l G m_Mo_fits (0, 0) 148 [some (.ref 22), some (.int (nI m)), some (.int (nI pc)), some (.int (nI 2)), some (.int (en t)), some (.int (nI 14)), some (.int (nI n)), some (.int (nI c))] [] (σ) (.inl (some (.int (bi (part pr t q))))) (σ)
  refine jr_aload_n d_Mo_fits_148 rfl ?_
  refine jr_iload d_Mo_fits_149 rfl ?_
  refine jr_iload_n d_Mo_fits_151 rfl ?_
  refine jr_if_ne 165 d_Mo_fits_152 (by decide) (fun _ => ?_) (fun z => absurd z (by decide))
  refine jr_iload_n d_Mo_fits_165 rfl ?_
  refine jr_iconst ((nI (1))) d_Mo_fits_166 (by decide) ?_
  refine jr_icmp_ne 180 d_Mo_fits_167 (by decide) (fun _ => ?_) (fun z => absurd z (by decide))
  refine jr_aload_n d_Mo_fits_180 rfl ?_
  refine jr_getf d_Mo_fits_181 f_Mo_fits_29 hO rfl ?_
  refine jr_iload d_Mo_fits_184 rfl ?_
  refine jr_ialdQ (v := (en q)) d_Mo_fits_186 h29 (by omega) (by omega) (congrArg en e2) ?_
  refine jr_callV (As := [.int (en t), .int (en q)]) d_Mo_fits_187 k_Mo_fits_142 hO rfl rfl rfl (Nat.le_of_ble_eq_true rfl) (by decide) (by decide) (mo_part (x := t) (y := q) hl hO hw hok.dsc (by assumption) (by assumption)) ?_
  show jl_W l G m_Mo_fits (0, 0) 190 [some (.ref 22), some (.int (nI m)), some (.int (nI pc)), some (.int (nI 2)), some (.int (en t)), some (.int (nI 14)), some (.int (nI n)), some (.int (nI c))] [.int (bi (part pr t q))] (σ) (.inl (some (.int (bi (part pr t q))))) (σ)
  exact jr_zretE d_Mo_fits_190 rfl (bi_01 _) (bov (by first | (simp [isO]; done) | (simp [isO]; omega))) (rfl) (by decide) (by decide)
theorem d_Mo_fits_205 : decode m_Mo_fits.2.1 205 = .ok (.iload 4, 2) := by decide +kernel
theorem d_Mo_fits_207 : decode m_Mo_fits.2.1 207 = .ok (.iconst 2, 1) := by decide +kernel
theorem d_Mo_fits_208 : decode m_Mo_fits.2.1 208 = .ok (.if_icmp .eq 10, 3) := by decide +kernel
theorem d_Mo_fits_211 : decode m_Mo_fits.2.1 211 = .ok (.iload 4, 2) := by decide +kernel
theorem d_Mo_fits_213 : decode m_Mo_fits.2.1 213 = .ok (.bipush 10, 2) := by decide +kernel
theorem d_Mo_fits_215 : decode m_Mo_fits.2.1 215 = .ok (.if_icmp .lt 7, 3) := by decide +kernel
theorem d_Mo_fits_222 : decode m_Mo_fits.2.1 222 = .ok (.iconst 0, 1) := by decide +kernel
theorem d_Mo_fits_223 : decode m_Mo_fits.2.1 223 = .ok (.ireturn, 1) := by decide +kernel
theorem d_Mo_fits_218 : decode m_Mo_fits.2.1 218 = .ok (.iconst 1, 1) := by decide +kernel
theorem d_Mo_fits_219 : decode m_Mo_fits.2.1 219 = .ok (.goto 4, 3) := by decide +kernel
theorem mo_fit_15_0 (hl : l.stackTraces = false) {m pc : Nat} {x : Int32} {t : Option Nat} (hO : MoO σ fa vf wh wy hg dp md ov oh dn an) (hw : MoW σ tb pr ow ft hs) (hu : MoM σ u1 u2 ur ul uo ua uc us ut uk) (hok : WoOk tb pr ow fi) (hK : MoK u1 u2 ur ul uo uc us ut uk) (hm : m < 24) (hpc : pc < 24) (ho : uo (24 * m + pc) = 15) (hx : ua (24 * m + pc) = x) (ht : ob 16 t) : jl_m l G m_Mo_fits [.ref 22, .int (nI m), .int (nI pc), .int (nI 0), .int (en t)] σ (.inl (some (.int (bi (isO t))))) (σ) := by
  obtain ⟨h23, h24, h25, h26, h27⟩ := id hw
  obtain ⟨h28, h29, h30, h31, h32, h33, h34, h35, h36, h37⟩ := id hu
  obtain ⟨hk1, hk2, hk3, hk4, hk5, hk6⟩ := hK.1 m hm
  refine jl_of (as := [.ref 22, .int (nI m), .int (nI pc), .int (nI 0), .int (en t)]) rfl (by decide) hl (jl_cc rfl (jl_cc rfl (jl_cc rfl (jl_cc rfl (jl_cc rfl jl_ca))))) (Nat.le_of_ble_eq_true rfl) ?_
  show jl_W l G m_Mo_fits (0, 0) 0 [some (.ref 22), some (.int (nI m)), some (.int (nI pc)), some (.int (nI 0)), some (.int (en t)), none, none, none] [] (σ) (.inl (some (.int (bi (isO t))))) (σ)
  refine jr_aload_n d_Mo_fits_0 rfl ?_
  refine jr_getf d_Mo_fits_1 f_Mo_fits_38 hO rfl ?_
  refine jr_bipush ((nI (24))) d_Mo_fits_4 (by decide) ?_
  refine jr_iload_n d_Mo_fits_6 rfl ?_
  refine jr_imulN d_Mo_fits_7 ?_
  refine jr_iload_n d_Mo_fits_8 rfl ?_
  refine jr_iaddN d_Mo_fits_9 ?_
  refine jr_ialdQ (v := (nI (15))) d_Mo_fits_10 h32 (by omega) (by omega) (congrArg nI ho) ?_
  refine jr_istore d_Mo_fits_11 (by decide) ?_
  show jl_W l G m_Mo_fits (0, 0) 13 [some (.ref 22), some (.int (nI m)), some (.int (nI pc)), some (.int (nI 0)), some (.int (en t)), some (.int (nI 15)), none, none] [] (σ) (.inl (some (.int (bi (isO t))))) (σ)
  refine jr_aload_n d_Mo_fits_13 rfl ?_
  refine jr_getf d_Mo_fits_14 f_Mo_fits_41 hO rfl ?_
  refine jr_bipush ((nI (24))) d_Mo_fits_17 (by decide) ?_
  refine jr_iload_n d_Mo_fits_19 rfl ?_
  refine jr_imulN d_Mo_fits_20 ?_
  refine jr_iload_n d_Mo_fits_21 rfl ?_
  refine jr_iaddN d_Mo_fits_22 ?_
  refine jr_ialdQ (v := (x)) d_Mo_fits_23 h33 (by omega) (by omega) (hx) ?_
  refine jr_istore d_Mo_fits_24 (by decide) ?_
  show jl_W l G m_Mo_fits (0, 0) 26 [some (.ref 22), some (.int (nI m)), some (.int (nI pc)), some (.int (nI 0)), some (.int (en t)), some (.int (nI 15)), some (.int (x)), none] [] (σ) (.inl (some (.int (bi (isO t))))) (σ)
  refine jr_iload d_Mo_fits_26 rfl ?_
  refine jr_iconst ((nI (3))) d_Mo_fits_28 (by decide) ?_
  refine jr_icmp_lt 39 d_Mo_fits_29 (by decide) (fun z => absurd z (by decide)) (fun _ => ?_)
  refine jr_iload d_Mo_fits_32 rfl ?_
  refine jr_bipush ((nI (6))) d_Mo_fits_34 (by decide) ?_
  refine jr_icmp_le 60 d_Mo_fits_36 (by decide) (fun z => absurd z (by decide)) (fun _ => ?_)
  refine jr_iload d_Mo_fits_39 rfl ?_
  refine jr_bipush ((nI (8))) d_Mo_fits_41 (by decide) ?_
  refine jr_icmp_eq 60 d_Mo_fits_43 (by decide) (fun z => absurd z (by decide)) (fun _ => ?_)
  refine jr_iload d_Mo_fits_46 rfl ?_
  refine jr_bipush ((nI (9))) d_Mo_fits_48 (by decide) ?_
  refine jr_icmp_eq 60 d_Mo_fits_50 (by decide) (fun z => absurd z (by decide)) (fun _ => ?_)
  refine jr_iload d_Mo_fits_53 rfl ?_
  refine jr_bipush ((nI (19))) d_Mo_fits_55 (by decide) ?_
  refine jr_icmp_ne 71 d_Mo_fits_57 (by decide) (fun _ => ?_) (fun z => absurd z (by decide))
  refine jr_iload d_Mo_fits_71 rfl ?_
  refine jr_bipush ((nI (12))) d_Mo_fits_73 (by decide) ?_
  refine jr_icmp_eq 85 d_Mo_fits_75 (by decide) (fun z => absurd z (by decide)) (fun _ => ?_)
  refine jr_iload d_Mo_fits_78 rfl ?_
  refine jr_bipush ((nI (13))) d_Mo_fits_80 (by decide) ?_
  refine jr_icmp_ne 127 d_Mo_fits_82 (by decide) (fun _ => ?_) (fun z => absurd z (by decide))
  refine jr_iload d_Mo_fits_127 rfl ?_
  refine jr_bipush ((nI (14))) d_Mo_fits_129 (by decide) ?_
  refine jr_icmp_ne 191 d_Mo_fits_131 (by decide) (fun _ => ?_) (fun z => absurd z (by decide))
  refine jr_iload d_Mo_fits_191 rfl ?_
  refine jr_bipush ((nI (15))) d_Mo_fits_193 (by decide) ?_
  refine jr_icmp_eq 205 d_Mo_fits_195 (by decide) (fun _ => ?_) (fun z => absurd (by decide) z)
  cases t with
  | none =>
    show jl_W l G m_Mo_fits (0, 0) 205 [some (.ref 22), some (.int (nI m)), some (.int (nI pc)), some (.int (nI 0)), some (.int (-1)), some (.int (nI 15)), some (.int (x)), none] [] (σ) (.inl (some (.int (bi (isO none))))) (σ)
    refine jr_iload d_Mo_fits_205 rfl ?_
    refine jr_iconst ((nI (2))) d_Mo_fits_207 (by decide) ?_
    refine jr_icmp_eq 218 d_Mo_fits_208 (by decide) (fun z => absurd z (fun q => en_m1ne (by omega) q.symm)) (fun _ => ?_)
    refine jr_iload d_Mo_fits_211 rfl ?_
    refine jr_bipush ((nI (10))) d_Mo_fits_213 (by decide) ?_
    refine jr_icmp_lt 222 d_Mo_fits_215 (by decide) (fun _ => ?_) (fun z => absurd (en_m1lt (by omega)) z)
    refine jr_iconst ((nI (0))) d_Mo_fits_222 (by decide) ?_
    exact jr_zretE d_Mo_fits_223 rfl (by decide) (bo0 (by first | (simp [isO]; done) | (simp [isO]; omega))) (rfl) (by decide) (by decide)
  | some t =>
    have htt : t < 16 := ht t rfl
    show jl_W l G m_Mo_fits (0, 0) 205 [some (.ref 22), some (.int (nI m)), some (.int (nI pc)), some (.int (nI 0)), some (.int (nI t)), some (.int (nI 15)), some (.int (x)), none] [] (σ) (.inl (some (.int (bi (isO (some t)))))) (σ)
    refine jr_iload d_Mo_fits_205 rfl ?_
    refine jr_iconst ((nI (2))) d_Mo_fits_207 (by decide) ?_
    refine jr_icmp_eqN 218 d_Mo_fits_208 (by decide) (by omega) (by omega) (fun c1 => ?_) (fun c1 => ?_)
    · refine jr_iconst ((nI (1))) d_Mo_fits_218 (by decide) ?_
      refine jr_goto 223 d_Mo_fits_219 (by decide) ?_
      exact jr_zretE d_Mo_fits_223 rfl (by decide) (bo1 (by first | (simp [isO, c1]; done) | (simp [isO, c1]; omega))) (rfl) (by decide) (by decide)
    · refine jr_iload d_Mo_fits_211 rfl ?_
      refine jr_bipush ((nI (10))) d_Mo_fits_213 (by decide) ?_
      refine jr_icmp_ltN 222 d_Mo_fits_215 (by decide) (by omega) (by omega) (fun c2 => ?_) (fun c2 => ?_)
      · refine jr_iconst ((nI (0))) d_Mo_fits_222 (by decide) ?_
        exact jr_zretE d_Mo_fits_223 rfl (by decide) (bo0 (by first | (simp [isO, c1, c2, Nat.not_le.mpr c2]; done) | (simp [isO, c1, c2, Nat.not_le.mpr c2]; omega))) (rfl) (by decide) (by decide)
      · refine jr_iconst ((nI (1))) d_Mo_fits_218 (by decide) ?_
        refine jr_goto 223 d_Mo_fits_219 (by decide) ?_
        exact jr_zretE d_Mo_fits_223 rfl (by decide) (bo1 (by first | (simp [isO, c1, c2, Nat.not_lt.mpr c2]; done) | (simp [isO, c1, c2, Nat.not_lt.mpr c2]; omega))) (rfl) (by decide) (by decide)
theorem d_Mo_fits_238 : decode m_Mo_fits.2.1 238 = .ok (.aload_n 0, 1) := by decide +kernel
theorem d_Mo_fits_239 : decode m_Mo_fits.2.1 239 = .ok (.iload 4, 2) := by decide +kernel
theorem k_Mo_fits_167 : jl_cv m_Mo_fits m_Mo_isReference 167 1 = true := by decide +kernel
theorem d_Mo_fits_241 : decode m_Mo_fits.2.1 241 = .ok (.invokevirtual 167, 3) := by decide +kernel
theorem d_Mo_fits_244 : decode m_Mo_fits.2.1 244 = .ok (.ireturn, 1) := by decide +kernel
theorem mo_fit_16_0 (hl : l.stackTraces = false) {m pc : Nat} {x : Int32} {t : Nat} (hO : MoO σ fa vf wh wy hg dp md ov oh dn an) (hw : MoW σ tb pr ow ft hs) (hu : MoM σ u1 u2 ur ul uo ua uc us ut uk) (hok : WoOk tb pr ow fi) (hK : MoK u1 u2 ur ul uo uc us ut uk) (hm : m < 24) (hpc : pc < 24) (ho : uo (24 * m + pc) = 16) (hx : ua (24 * m + pc) = x) (ht : t < 16) (htv : t ≤ 2 ∨ 10 ≤ t) : jl_m l G m_Mo_fits [.ref 22, .int (nI m), .int (nI pc), .int (nI 0), .int (nI t)] σ (.inl (some (.int (bi (!isI (some t)))))) (σ) := by
  obtain ⟨h23, h24, h25, h26, h27⟩ := id hw
  obtain ⟨h28, h29, h30, h31, h32, h33, h34, h35, h36, h37⟩ := id hu
  obtain ⟨hk1, hk2, hk3, hk4, hk5, hk6⟩ := hK.1 m hm
  refine jl_of (as := [.ref 22, .int (nI m), .int (nI pc), .int (nI 0), .int (nI t)]) rfl (by decide) hl (jl_cc rfl (jl_cc rfl (jl_cc rfl (jl_cc rfl (jl_cc rfl jl_ca))))) (Nat.le_of_ble_eq_true rfl) ?_
  show jl_W l G m_Mo_fits (0, 0) 0 [some (.ref 22), some (.int (nI m)), some (.int (nI pc)), some (.int (nI 0)), some (.int (nI t)), none, none, none] [] (σ) (.inl (some (.int (bi (!isI (some t)))))) (σ)
  refine jr_aload_n d_Mo_fits_0 rfl ?_
  refine jr_getf d_Mo_fits_1 f_Mo_fits_38 hO rfl ?_
  refine jr_bipush ((nI (24))) d_Mo_fits_4 (by decide) ?_
  refine jr_iload_n d_Mo_fits_6 rfl ?_
  refine jr_imulN d_Mo_fits_7 ?_
  refine jr_iload_n d_Mo_fits_8 rfl ?_
  refine jr_iaddN d_Mo_fits_9 ?_
  refine jr_ialdQ (v := (nI (16))) d_Mo_fits_10 h32 (by omega) (by omega) (congrArg nI ho) ?_
  refine jr_istore d_Mo_fits_11 (by decide) ?_
  show jl_W l G m_Mo_fits (0, 0) 13 [some (.ref 22), some (.int (nI m)), some (.int (nI pc)), some (.int (nI 0)), some (.int (nI t)), some (.int (nI 16)), none, none] [] (σ) (.inl (some (.int (bi (!isI (some t)))))) (σ)
  refine jr_aload_n d_Mo_fits_13 rfl ?_
  refine jr_getf d_Mo_fits_14 f_Mo_fits_41 hO rfl ?_
  refine jr_bipush ((nI (24))) d_Mo_fits_17 (by decide) ?_
  refine jr_iload_n d_Mo_fits_19 rfl ?_
  refine jr_imulN d_Mo_fits_20 ?_
  refine jr_iload_n d_Mo_fits_21 rfl ?_
  refine jr_iaddN d_Mo_fits_22 ?_
  refine jr_ialdQ (v := (x)) d_Mo_fits_23 h33 (by omega) (by omega) (hx) ?_
  refine jr_istore d_Mo_fits_24 (by decide) ?_
  show jl_W l G m_Mo_fits (0, 0) 26 [some (.ref 22), some (.int (nI m)), some (.int (nI pc)), some (.int (nI 0)), some (.int (nI t)), some (.int (nI 16)), some (.int (x)), none] [] (σ) (.inl (some (.int (bi (!isI (some t)))))) (σ)
  refine jr_iload d_Mo_fits_26 rfl ?_
  refine jr_iconst ((nI (3))) d_Mo_fits_28 (by decide) ?_
  refine jr_icmp_lt 39 d_Mo_fits_29 (by decide) (fun z => absurd z (by decide)) (fun _ => ?_)
  refine jr_iload d_Mo_fits_32 rfl ?_
  refine jr_bipush ((nI (6))) d_Mo_fits_34 (by decide) ?_
  refine jr_icmp_le 60 d_Mo_fits_36 (by decide) (fun z => absurd z (by decide)) (fun _ => ?_)
  refine jr_iload d_Mo_fits_39 rfl ?_
  refine jr_bipush ((nI (8))) d_Mo_fits_41 (by decide) ?_
  refine jr_icmp_eq 60 d_Mo_fits_43 (by decide) (fun z => absurd z (by decide)) (fun _ => ?_)
  refine jr_iload d_Mo_fits_46 rfl ?_
  refine jr_bipush ((nI (9))) d_Mo_fits_48 (by decide) ?_
  refine jr_icmp_eq 60 d_Mo_fits_50 (by decide) (fun z => absurd z (by decide)) (fun _ => ?_)
  refine jr_iload d_Mo_fits_53 rfl ?_
  refine jr_bipush ((nI (19))) d_Mo_fits_55 (by decide) ?_
  refine jr_icmp_ne 71 d_Mo_fits_57 (by decide) (fun _ => ?_) (fun z => absurd z (by decide))
  refine jr_iload d_Mo_fits_71 rfl ?_
  refine jr_bipush ((nI (12))) d_Mo_fits_73 (by decide) ?_
  refine jr_icmp_eq 85 d_Mo_fits_75 (by decide) (fun z => absurd z (by decide)) (fun _ => ?_)
  refine jr_iload d_Mo_fits_78 rfl ?_
  refine jr_bipush ((nI (13))) d_Mo_fits_80 (by decide) ?_
  refine jr_icmp_ne 127 d_Mo_fits_82 (by decide) (fun _ => ?_) (fun z => absurd z (by decide))
  refine jr_iload d_Mo_fits_127 rfl ?_
  refine jr_bipush ((nI (14))) d_Mo_fits_129 (by decide) ?_
  refine jr_icmp_ne 191 d_Mo_fits_131 (by decide) (fun _ => ?_) (fun z => absurd z (by decide))
  refine jr_iload d_Mo_fits_191 rfl ?_
  refine jr_bipush ((nI (15))) d_Mo_fits_193 (by decide) ?_
  refine jr_icmp_eq 205 d_Mo_fits_195 (by decide) (fun z => absurd z (by decide)) (fun _ => ?_)
  refine jr_iload d_Mo_fits_198 rfl ?_
  refine jr_bipush ((nI (17))) d_Mo_fits_200 (by decide) ?_
  refine jr_icmp_ne 224 d_Mo_fits_202 (by decide) (fun _ => ?_) (fun z => absurd z (by decide))
  refine jr_iload d_Mo_fits_224 rfl ?_
  refine jr_bipush ((nI (16))) d_Mo_fits_226 (by decide) ?_
  refine jr_icmp_eq 238 d_Mo_fits_228 (by decide) (fun _ => ?_) (fun z => absurd (by decide) z)
  refine jr_aload_n d_Mo_fits_238 rfl ?_
  refine jr_iload d_Mo_fits_239 rfl ?_
  refine jr_callV (As := [.int (nI t)]) d_Mo_fits_241 k_Mo_fits_167 hO rfl rfl rfl (Nat.le_of_ble_eq_true rfl) (by decide) (by decide) (mo_isRef hl hO hw (by omega)) ?_
  show jl_W l G m_Mo_fits (0, 0) 244 [some (.ref 22), some (.int (nI m)), some (.int (nI pc)), some (.int (nI 0)), some (.int (nI t)), some (.int (nI 16)), some (.int (x)), none] [.int (bi (isR t))] (σ) (.inl (some (.int (bi (!isI (some t)))))) (σ)
  exact jr_zretE d_Mo_fits_244 rfl (bi_01 _) (bov (isR_v htv ht).symm) (rfl) (by decide) (by decide)
theorem mo_fit_17_0 (hl : l.stackTraces = false) {m pc : Nat} {x : Int32} {t : Option Nat} (hO : MoO σ fa vf wh wy hg dp md ov oh dn an) (hw : MoW σ tb pr ow ft hs) (hu : MoM σ u1 u2 ur ul uo ua uc us ut uk) (hok : WoOk tb pr ow fi) (hK : MoK u1 u2 ur ul uo uc us ut uk) (hm : m < 24) (hpc : pc < 24) (ho : uo (24 * m + pc) = 17) (hx : ua (24 * m + pc) = x) (ht : ob 16 t) : jl_m l G m_Mo_fits [.ref 22, .int (nI m), .int (nI pc), .int (nI 0), .int (en t)] σ (.inl (some (.int (bi (isO t))))) (σ) := by
  obtain ⟨h23, h24, h25, h26, h27⟩ := id hw
  obtain ⟨h28, h29, h30, h31, h32, h33, h34, h35, h36, h37⟩ := id hu
  obtain ⟨hk1, hk2, hk3, hk4, hk5, hk6⟩ := hK.1 m hm
  refine jl_of (as := [.ref 22, .int (nI m), .int (nI pc), .int (nI 0), .int (en t)]) rfl (by decide) hl (jl_cc rfl (jl_cc rfl (jl_cc rfl (jl_cc rfl (jl_cc rfl jl_ca))))) (Nat.le_of_ble_eq_true rfl) ?_
  show jl_W l G m_Mo_fits (0, 0) 0 [some (.ref 22), some (.int (nI m)), some (.int (nI pc)), some (.int (nI 0)), some (.int (en t)), none, none, none] [] (σ) (.inl (some (.int (bi (isO t))))) (σ)
  refine jr_aload_n d_Mo_fits_0 rfl ?_
  refine jr_getf d_Mo_fits_1 f_Mo_fits_38 hO rfl ?_
  refine jr_bipush ((nI (24))) d_Mo_fits_4 (by decide) ?_
  refine jr_iload_n d_Mo_fits_6 rfl ?_
  refine jr_imulN d_Mo_fits_7 ?_
  refine jr_iload_n d_Mo_fits_8 rfl ?_
  refine jr_iaddN d_Mo_fits_9 ?_
  refine jr_ialdQ (v := (nI (17))) d_Mo_fits_10 h32 (by omega) (by omega) (congrArg nI ho) ?_
  refine jr_istore d_Mo_fits_11 (by decide) ?_
  show jl_W l G m_Mo_fits (0, 0) 13 [some (.ref 22), some (.int (nI m)), some (.int (nI pc)), some (.int (nI 0)), some (.int (en t)), some (.int (nI 17)), none, none] [] (σ) (.inl (some (.int (bi (isO t))))) (σ)
  refine jr_aload_n d_Mo_fits_13 rfl ?_
  refine jr_getf d_Mo_fits_14 f_Mo_fits_41 hO rfl ?_
  refine jr_bipush ((nI (24))) d_Mo_fits_17 (by decide) ?_
  refine jr_iload_n d_Mo_fits_19 rfl ?_
  refine jr_imulN d_Mo_fits_20 ?_
  refine jr_iload_n d_Mo_fits_21 rfl ?_
  refine jr_iaddN d_Mo_fits_22 ?_
  refine jr_ialdQ (v := (x)) d_Mo_fits_23 h33 (by omega) (by omega) (hx) ?_
  refine jr_istore d_Mo_fits_24 (by decide) ?_
  show jl_W l G m_Mo_fits (0, 0) 26 [some (.ref 22), some (.int (nI m)), some (.int (nI pc)), some (.int (nI 0)), some (.int (en t)), some (.int (nI 17)), some (.int (x)), none] [] (σ) (.inl (some (.int (bi (isO t))))) (σ)
  refine jr_iload d_Mo_fits_26 rfl ?_
  refine jr_iconst ((nI (3))) d_Mo_fits_28 (by decide) ?_
  refine jr_icmp_lt 39 d_Mo_fits_29 (by decide) (fun z => absurd z (by decide)) (fun _ => ?_)
  refine jr_iload d_Mo_fits_32 rfl ?_
  refine jr_bipush ((nI (6))) d_Mo_fits_34 (by decide) ?_
  refine jr_icmp_le 60 d_Mo_fits_36 (by decide) (fun z => absurd z (by decide)) (fun _ => ?_)
  refine jr_iload d_Mo_fits_39 rfl ?_
  refine jr_bipush ((nI (8))) d_Mo_fits_41 (by decide) ?_
  refine jr_icmp_eq 60 d_Mo_fits_43 (by decide) (fun z => absurd z (by decide)) (fun _ => ?_)
  refine jr_iload d_Mo_fits_46 rfl ?_
  refine jr_bipush ((nI (9))) d_Mo_fits_48 (by decide) ?_
  refine jr_icmp_eq 60 d_Mo_fits_50 (by decide) (fun z => absurd z (by decide)) (fun _ => ?_)
  refine jr_iload d_Mo_fits_53 rfl ?_
  refine jr_bipush ((nI (19))) d_Mo_fits_55 (by decide) ?_
  refine jr_icmp_ne 71 d_Mo_fits_57 (by decide) (fun _ => ?_) (fun z => absurd z (by decide))
  refine jr_iload d_Mo_fits_71 rfl ?_
  refine jr_bipush ((nI (12))) d_Mo_fits_73 (by decide) ?_
  refine jr_icmp_eq 85 d_Mo_fits_75 (by decide) (fun z => absurd z (by decide)) (fun _ => ?_)
  refine jr_iload d_Mo_fits_78 rfl ?_
  refine jr_bipush ((nI (13))) d_Mo_fits_80 (by decide) ?_
  refine jr_icmp_ne 127 d_Mo_fits_82 (by decide) (fun _ => ?_) (fun z => absurd z (by decide))
  refine jr_iload d_Mo_fits_127 rfl ?_
  refine jr_bipush ((nI (14))) d_Mo_fits_129 (by decide) ?_
  refine jr_icmp_ne 191 d_Mo_fits_131 (by decide) (fun _ => ?_) (fun z => absurd z (by decide))
  refine jr_iload d_Mo_fits_191 rfl ?_
  refine jr_bipush ((nI (15))) d_Mo_fits_193 (by decide) ?_
  refine jr_icmp_eq 205 d_Mo_fits_195 (by decide) (fun z => absurd z (by decide)) (fun _ => ?_)
  refine jr_iload d_Mo_fits_198 rfl ?_
  refine jr_bipush ((nI (17))) d_Mo_fits_200 (by decide) ?_
  refine jr_icmp_ne 224 d_Mo_fits_202 (by decide) (fun z => absurd rfl z) (fun _ => ?_)
  cases t with
  | none =>
    show jl_W l G m_Mo_fits (0, 0) 205 [some (.ref 22), some (.int (nI m)), some (.int (nI pc)), some (.int (nI 0)), some (.int (-1)), some (.int (nI 17)), some (.int (x)), none] [] (σ) (.inl (some (.int (bi (isO none))))) (σ)
    refine jr_iload d_Mo_fits_205 rfl ?_
    refine jr_iconst ((nI (2))) d_Mo_fits_207 (by decide) ?_
    refine jr_icmp_eq 218 d_Mo_fits_208 (by decide) (fun z => absurd z (fun q => en_m1ne (by omega) q.symm)) (fun _ => ?_)
    refine jr_iload d_Mo_fits_211 rfl ?_
    refine jr_bipush ((nI (10))) d_Mo_fits_213 (by decide) ?_
    refine jr_icmp_lt 222 d_Mo_fits_215 (by decide) (fun _ => ?_) (fun z => absurd (en_m1lt (by omega)) z)
    refine jr_iconst ((nI (0))) d_Mo_fits_222 (by decide) ?_
    exact jr_zretE d_Mo_fits_223 rfl (by decide) (bo0 (by first | (simp [isO]; done) | (simp [isO]; omega))) (rfl) (by decide) (by decide)
  | some t =>
    have htt : t < 16 := ht t rfl
    show jl_W l G m_Mo_fits (0, 0) 205 [some (.ref 22), some (.int (nI m)), some (.int (nI pc)), some (.int (nI 0)), some (.int (nI t)), some (.int (nI 17)), some (.int (x)), none] [] (σ) (.inl (some (.int (bi (isO (some t)))))) (σ)
    refine jr_iload d_Mo_fits_205 rfl ?_
    refine jr_iconst ((nI (2))) d_Mo_fits_207 (by decide) ?_
    refine jr_icmp_eqN 218 d_Mo_fits_208 (by decide) (by omega) (by omega) (fun c1 => ?_) (fun c1 => ?_)
    · refine jr_iconst ((nI (1))) d_Mo_fits_218 (by decide) ?_
      refine jr_goto 223 d_Mo_fits_219 (by decide) ?_
      exact jr_zretE d_Mo_fits_223 rfl (by decide) (bo1 (by first | (simp [isO, c1]; done) | (simp [isO, c1]; omega))) (rfl) (by decide) (by decide)
    · refine jr_iload d_Mo_fits_211 rfl ?_
      refine jr_bipush ((nI (10))) d_Mo_fits_213 (by decide) ?_
      refine jr_icmp_ltN 222 d_Mo_fits_215 (by decide) (by omega) (by omega) (fun c2 => ?_) (fun c2 => ?_)
      · refine jr_iconst ((nI (0))) d_Mo_fits_222 (by decide) ?_
        exact jr_zretE d_Mo_fits_223 rfl (by decide) (bo0 (by first | (simp [isO, c1, c2, Nat.not_le.mpr c2]; done) | (simp [isO, c1, c2, Nat.not_le.mpr c2]; omega))) (rfl) (by decide) (by decide)
      · refine jr_iconst ((nI (1))) d_Mo_fits_218 (by decide) ?_
        refine jr_goto 223 d_Mo_fits_219 (by decide) ?_
        exact jr_zretE d_Mo_fits_223 rfl (by decide) (bo1 (by first | (simp [isO, c1, c2, Nat.not_lt.mpr c2]; done) | (simp [isO, c1, c2, Nat.not_lt.mpr c2]; omega))) (rfl) (by decide) (by decide)
theorem d_Mo_fits_252 : decode m_Mo_fits.2.1 252 = .ok (.aload_n 0, 1) := by decide +kernel
theorem d_Mo_fits_253 : decode m_Mo_fits.2.1 253 = .ok (.iload 4, 2) := by decide +kernel
theorem d_Mo_fits_255 : decode m_Mo_fits.2.1 255 = .ok (.aload_n 0, 1) := by decide +kernel
theorem f_Mo_fits_32 : jl_fd m_Mo_fits 32 7 8 = true := by decide +kernel
theorem d_Mo_fits_256 : decode m_Mo_fits.2.1 256 = .ok (.getfield 32, 3) := by decide +kernel
theorem d_Mo_fits_259 : decode m_Mo_fits.2.1 259 = .ok (.iload_n 1, 1) := by decide +kernel
theorem d_Mo_fits_260 : decode m_Mo_fits.2.1 260 = .ok (.iaload, 1) := by decide +kernel
theorem d_Mo_fits_261 : decode m_Mo_fits.2.1 261 = .ok (.invokevirtual 142, 3) := by decide +kernel
theorem d_Mo_fits_264 : decode m_Mo_fits.2.1 264 = .ok (.ireturn, 1) := by decide +kernel
theorem mo_fit_18_0 (hl : l.stackTraces = false) {m pc : Nat} {x : Int32} {t : Option Nat} (hO : MoO σ fa vf wh wy hg dp md ov oh dn an) (hw : MoW σ tb pr ow ft hs) (hu : MoM σ u1 u2 ur ul uo ua uc us ut uk) (hok : WoOk tb pr ow fi) (hK : MoK u1 u2 ur ul uo uc us ut uk) (hm : m < 24) (hpc : pc < 24) (ho : uo (24 * m + pc) = 18) (hx : ua (24 * m + pc) = x) (ht : ob 16 t) : jl_m l G m_Mo_fits [.ref 22, .int (nI m), .int (nI pc), .int (nI 0), .int (en t)] σ (.inl (some (.int (bi (part pr t (some (ur m))))))) (σ) := by
  obtain ⟨h23, h24, h25, h26, h27⟩ := id hw
  obtain ⟨h28, h29, h30, h31, h32, h33, h34, h35, h36, h37⟩ := id hu
  obtain ⟨hk1, hk2, hk3, hk4, hk5, hk6⟩ := hK.1 m hm
  refine jl_of (as := [.ref 22, .int (nI m), .int (nI pc), .int (nI 0), .int (en t)]) rfl (by decide) hl (jl_cc rfl (jl_cc rfl (jl_cc rfl (jl_cc rfl (jl_cc rfl jl_ca))))) (Nat.le_of_ble_eq_true rfl) ?_
  show jl_W l G m_Mo_fits (0, 0) 0 [some (.ref 22), some (.int (nI m)), some (.int (nI pc)), some (.int (nI 0)), some (.int (en t)), none, none, none] [] (σ) (.inl (some (.int (bi (part pr t (some (ur m))))))) (σ)
  refine jr_aload_n d_Mo_fits_0 rfl ?_
  refine jr_getf d_Mo_fits_1 f_Mo_fits_38 hO rfl ?_
  refine jr_bipush ((nI (24))) d_Mo_fits_4 (by decide) ?_
  refine jr_iload_n d_Mo_fits_6 rfl ?_
  refine jr_imulN d_Mo_fits_7 ?_
  refine jr_iload_n d_Mo_fits_8 rfl ?_
  refine jr_iaddN d_Mo_fits_9 ?_
  refine jr_ialdQ (v := (nI (18))) d_Mo_fits_10 h32 (by omega) (by omega) (congrArg nI ho) ?_
  refine jr_istore d_Mo_fits_11 (by decide) ?_
  show jl_W l G m_Mo_fits (0, 0) 13 [some (.ref 22), some (.int (nI m)), some (.int (nI pc)), some (.int (nI 0)), some (.int (en t)), some (.int (nI 18)), none, none] [] (σ) (.inl (some (.int (bi (part pr t (some (ur m))))))) (σ)
  refine jr_aload_n d_Mo_fits_13 rfl ?_
  refine jr_getf d_Mo_fits_14 f_Mo_fits_41 hO rfl ?_
  refine jr_bipush ((nI (24))) d_Mo_fits_17 (by decide) ?_
  refine jr_iload_n d_Mo_fits_19 rfl ?_
  refine jr_imulN d_Mo_fits_20 ?_
  refine jr_iload_n d_Mo_fits_21 rfl ?_
  refine jr_iaddN d_Mo_fits_22 ?_
  refine jr_ialdQ (v := (x)) d_Mo_fits_23 h33 (by omega) (by omega) (hx) ?_
  refine jr_istore d_Mo_fits_24 (by decide) ?_
  show jl_W l G m_Mo_fits (0, 0) 26 [some (.ref 22), some (.int (nI m)), some (.int (nI pc)), some (.int (nI 0)), some (.int (en t)), some (.int (nI 18)), some (.int (x)), none] [] (σ) (.inl (some (.int (bi (part pr t (some (ur m))))))) (σ)
  refine jr_iload d_Mo_fits_26 rfl ?_
  refine jr_iconst ((nI (3))) d_Mo_fits_28 (by decide) ?_
  refine jr_icmp_lt 39 d_Mo_fits_29 (by decide) (fun z => absurd z (by decide)) (fun _ => ?_)
  refine jr_iload d_Mo_fits_32 rfl ?_
  refine jr_bipush ((nI (6))) d_Mo_fits_34 (by decide) ?_
  refine jr_icmp_le 60 d_Mo_fits_36 (by decide) (fun z => absurd z (by decide)) (fun _ => ?_)
  refine jr_iload d_Mo_fits_39 rfl ?_
  refine jr_bipush ((nI (8))) d_Mo_fits_41 (by decide) ?_
  refine jr_icmp_eq 60 d_Mo_fits_43 (by decide) (fun z => absurd z (by decide)) (fun _ => ?_)
  refine jr_iload d_Mo_fits_46 rfl ?_
  refine jr_bipush ((nI (9))) d_Mo_fits_48 (by decide) ?_
  refine jr_icmp_eq 60 d_Mo_fits_50 (by decide) (fun z => absurd z (by decide)) (fun _ => ?_)
  refine jr_iload d_Mo_fits_53 rfl ?_
  refine jr_bipush ((nI (19))) d_Mo_fits_55 (by decide) ?_
  refine jr_icmp_ne 71 d_Mo_fits_57 (by decide) (fun _ => ?_) (fun z => absurd z (by decide))
  refine jr_iload d_Mo_fits_71 rfl ?_
  refine jr_bipush ((nI (12))) d_Mo_fits_73 (by decide) ?_
  refine jr_icmp_eq 85 d_Mo_fits_75 (by decide) (fun z => absurd z (by decide)) (fun _ => ?_)
  refine jr_iload d_Mo_fits_78 rfl ?_
  refine jr_bipush ((nI (13))) d_Mo_fits_80 (by decide) ?_
  refine jr_icmp_ne 127 d_Mo_fits_82 (by decide) (fun _ => ?_) (fun z => absurd z (by decide))
  refine jr_iload d_Mo_fits_127 rfl ?_
  refine jr_bipush ((nI (14))) d_Mo_fits_129 (by decide) ?_
  refine jr_icmp_ne 191 d_Mo_fits_131 (by decide) (fun _ => ?_) (fun z => absurd z (by decide))
  refine jr_iload d_Mo_fits_191 rfl ?_
  refine jr_bipush ((nI (15))) d_Mo_fits_193 (by decide) ?_
  refine jr_icmp_eq 205 d_Mo_fits_195 (by decide) (fun z => absurd z (by decide)) (fun _ => ?_)
  refine jr_iload d_Mo_fits_198 rfl ?_
  refine jr_bipush ((nI (17))) d_Mo_fits_200 (by decide) ?_
  refine jr_icmp_ne 224 d_Mo_fits_202 (by decide) (fun _ => ?_) (fun z => absurd z (by decide))
  refine jr_iload d_Mo_fits_224 rfl ?_
  refine jr_bipush ((nI (16))) d_Mo_fits_226 (by decide) ?_
  refine jr_icmp_eq 238 d_Mo_fits_228 (by decide) (fun z => absurd z (by decide)) (fun _ => ?_)
  refine jr_iload d_Mo_fits_231 rfl ?_
  refine jr_bipush ((nI (25))) d_Mo_fits_233 (by decide) ?_
  refine jr_icmp_ne 245 d_Mo_fits_235 (by decide) (fun _ => ?_) (fun z => absurd z (by decide))
  refine jr_iload d_Mo_fits_245 rfl ?_
  refine jr_bipush ((nI (18))) d_Mo_fits_247 (by decide) ?_
  refine jr_icmp_ne 265 d_Mo_fits_249 (by decide) (fun z => absurd rfl z) (fun _ => ?_)
  refine jr_aload_n d_Mo_fits_252 rfl ?_
  refine jr_iload d_Mo_fits_253 rfl ?_
  refine jr_aload_n d_Mo_fits_255 rfl ?_
  refine jr_getf d_Mo_fits_256 f_Mo_fits_32 hO rfl ?_
  refine jr_iload_n d_Mo_fits_259 rfl ?_
  refine jr_ialdN d_Mo_fits_260 h30 (by omega) (by omega) ?_
  refine jr_callV (As := [.int (en t), .int (nI (ur (m)))]) d_Mo_fits_261 k_Mo_fits_142 hO rfl rfl rfl (Nat.le_of_ble_eq_true rfl) (by decide) (by decide) (mo_part (x := t) (y := some (ur (m))) hl hO hw hok.dsc (by assumption) (ob_s (by omega))) ?_
  show jl_W l G m_Mo_fits (0, 0) 264 [some (.ref 22), some (.int (nI m)), some (.int (nI pc)), some (.int (nI 0)), some (.int (en t)), some (.int (nI 18)), some (.int (x)), none] [.int (bi (part pr t (some (ur (m)))))] (σ) (.inl (some (.int (bi (part pr t (some (ur m))))))) (σ)
  exact jr_zretE d_Mo_fits_264 rfl (bi_01 _) (bov (by first | (simp [isO]; done) | (simp [isO]; omega))) (rfl) (by decide) (by decide)
theorem mo_fit_19_0 (hl : l.stackTraces = false) {m pc : Nat} {x : Int32} {t : Option Nat} (hO : MoO σ fa vf wh wy hg dp md ov oh dn an) (hw : MoW σ tb pr ow ft hs) (hu : MoM σ u1 u2 ur ul uo ua uc us ut uk) (hok : WoOk tb pr ow fi) (hK : MoK u1 u2 ur ul uo uc us ut uk) (hm : m < 24) (hpc : pc < 24) (ho : uo (24 * m + pc) = 19) (hx : ua (24 * m + pc) = x) (ht : ob 16 t) : jl_m l G m_Mo_fits [.ref 22, .int (nI m), .int (nI pc), .int (nI 0), .int (en t)] σ (.inl (some (.int (bi (isI t))))) (σ) := by
  obtain ⟨h23, h24, h25, h26, h27⟩ := id hw
  obtain ⟨h28, h29, h30, h31, h32, h33, h34, h35, h36, h37⟩ := id hu
  obtain ⟨hk1, hk2, hk3, hk4, hk5, hk6⟩ := hK.1 m hm
  refine jl_of (as := [.ref 22, .int (nI m), .int (nI pc), .int (nI 0), .int (en t)]) rfl (by decide) hl (jl_cc rfl (jl_cc rfl (jl_cc rfl (jl_cc rfl (jl_cc rfl jl_ca))))) (Nat.le_of_ble_eq_true rfl) ?_
  show jl_W l G m_Mo_fits (0, 0) 0 [some (.ref 22), some (.int (nI m)), some (.int (nI pc)), some (.int (nI 0)), some (.int (en t)), none, none, none] [] (σ) (.inl (some (.int (bi (isI t))))) (σ)
  refine jr_aload_n d_Mo_fits_0 rfl ?_
  refine jr_getf d_Mo_fits_1 f_Mo_fits_38 hO rfl ?_
  refine jr_bipush ((nI (24))) d_Mo_fits_4 (by decide) ?_
  refine jr_iload_n d_Mo_fits_6 rfl ?_
  refine jr_imulN d_Mo_fits_7 ?_
  refine jr_iload_n d_Mo_fits_8 rfl ?_
  refine jr_iaddN d_Mo_fits_9 ?_
  refine jr_ialdQ (v := (nI (19))) d_Mo_fits_10 h32 (by omega) (by omega) (congrArg nI ho) ?_
  refine jr_istore d_Mo_fits_11 (by decide) ?_
  show jl_W l G m_Mo_fits (0, 0) 13 [some (.ref 22), some (.int (nI m)), some (.int (nI pc)), some (.int (nI 0)), some (.int (en t)), some (.int (nI 19)), none, none] [] (σ) (.inl (some (.int (bi (isI t))))) (σ)
  refine jr_aload_n d_Mo_fits_13 rfl ?_
  refine jr_getf d_Mo_fits_14 f_Mo_fits_41 hO rfl ?_
  refine jr_bipush ((nI (24))) d_Mo_fits_17 (by decide) ?_
  refine jr_iload_n d_Mo_fits_19 rfl ?_
  refine jr_imulN d_Mo_fits_20 ?_
  refine jr_iload_n d_Mo_fits_21 rfl ?_
  refine jr_iaddN d_Mo_fits_22 ?_
  refine jr_ialdQ (v := (x)) d_Mo_fits_23 h33 (by omega) (by omega) (hx) ?_
  refine jr_istore d_Mo_fits_24 (by decide) ?_
  show jl_W l G m_Mo_fits (0, 0) 26 [some (.ref 22), some (.int (nI m)), some (.int (nI pc)), some (.int (nI 0)), some (.int (en t)), some (.int (nI 19)), some (.int (x)), none] [] (σ) (.inl (some (.int (bi (isI t))))) (σ)
  refine jr_iload d_Mo_fits_26 rfl ?_
  refine jr_iconst ((nI (3))) d_Mo_fits_28 (by decide) ?_
  refine jr_icmp_lt 39 d_Mo_fits_29 (by decide) (fun z => absurd z (by decide)) (fun _ => ?_)
  refine jr_iload d_Mo_fits_32 rfl ?_
  refine jr_bipush ((nI (6))) d_Mo_fits_34 (by decide) ?_
  refine jr_icmp_le 60 d_Mo_fits_36 (by decide) (fun z => absurd z (by decide)) (fun _ => ?_)
  refine jr_iload d_Mo_fits_39 rfl ?_
  refine jr_bipush ((nI (8))) d_Mo_fits_41 (by decide) ?_
  refine jr_icmp_eq 60 d_Mo_fits_43 (by decide) (fun z => absurd z (by decide)) (fun _ => ?_)
  refine jr_iload d_Mo_fits_46 rfl ?_
  refine jr_bipush ((nI (9))) d_Mo_fits_48 (by decide) ?_
  refine jr_icmp_eq 60 d_Mo_fits_50 (by decide) (fun z => absurd z (by decide)) (fun _ => ?_)
  refine jr_iload d_Mo_fits_53 rfl ?_
  refine jr_bipush ((nI (19))) d_Mo_fits_55 (by decide) ?_
  refine jr_icmp_ne 71 d_Mo_fits_57 (by decide) (fun z => absurd rfl z) (fun _ => ?_)
  refine jr_iload d_Mo_fits_60 rfl ?_
  refine jr_if_ne 69 d_Mo_fits_62 (by decide) (fun c1 => ?_) (fun c1 => ?_)
  · refine jr_iconst ((nI (0))) d_Mo_fits_69 (by decide) ?_
    exact jr_zretE d_Mo_fits_70 rfl (by decide) (bo0 (by first | (simp [isO, isI_n (by assumption) c1]; done) | (simp [isO, isI_n (by assumption) c1]; omega))) (rfl) (by decide) (by decide)
  · refine jr_iconst ((nI (1))) d_Mo_fits_65 (by decide) ?_
    refine jr_goto 70 d_Mo_fits_66 (by decide) ?_
    exact jr_zretE d_Mo_fits_70 rfl (by decide) (bo1 (by first | (simp [isO, isI_y (by assumption) c1]; done) | (simp [isO, isI_y (by assumption) c1]; omega))) (rfl) (by decide) (by decide)
theorem d_Mo_fits_272 : decode m_Mo_fits.2.1 272 = .ok (.iload 5, 2) := by decide +kernel
theorem d_Mo_fits_274 : decode m_Mo_fits.2.1 274 = .ok (.bipush 22, 2) := by decide +kernel
theorem d_Mo_fits_276 : decode m_Mo_fits.2.1 276 = .ok (.if_icmp .gt 28, 3) := by decide +kernel
theorem d_Mo_fits_279 : decode m_Mo_fits.2.1 279 = .ok (.iload_n 3, 1) := by decide +kernel
theorem d_Mo_fits_280 : decode m_Mo_fits.2.1 280 = .ok (.ifCond .ne 13, 3) := by decide +kernel
theorem d_Mo_fits_283 : decode m_Mo_fits.2.1 283 = .ok (.aload_n 0, 1) := by decide +kernel
theorem d_Mo_fits_284 : decode m_Mo_fits.2.1 284 = .ok (.iload 4, 2) := by decide +kernel
theorem d_Mo_fits_286 : decode m_Mo_fits.2.1 286 = .ok (.iconst 1, 1) := by decide +kernel
theorem d_Mo_fits_287 : decode m_Mo_fits.2.1 287 = .ok (.invokevirtual 142, 3) := by decide +kernel
theorem d_Mo_fits_290 : decode m_Mo_fits.2.1 290 = .ok (.goto 13, 3) := by decide +kernel
theorem d_Mo_fits_303 : decode m_Mo_fits.2.1 303 = .ok (.ireturn, 1) := by decide +kernel
theorem mo_fit_20_0 (hl : l.stackTraces = false) {m pc : Nat} {x : Int32} {t : Option Nat} (hO : MoO σ fa vf wh wy hg dp md ov oh dn an) (hw : MoW σ tb pr ow ft hs) (hu : MoM σ u1 u2 ur ul uo ua uc us ut uk) (hok : WoOk tb pr ow fi) (hK : MoK u1 u2 ur ul uo uc us ut uk) (hm : m < 24) (hpc : pc < 24) (ho : uo (24 * m + pc) = 20) (hx : ua (24 * m + pc) = x) (ht : ob 16 t) : jl_m l G m_Mo_fits [.ref 22, .int (nI m), .int (nI pc), .int (nI 0), .int (en t)] σ (.inl (some (.int (bi (part pr t (some 1)))))) (σ) := by
  obtain ⟨h23, h24, h25, h26, h27⟩ := id hw
  obtain ⟨h28, h29, h30, h31, h32, h33, h34, h35, h36, h37⟩ := id hu
  obtain ⟨hk1, hk2, hk3, hk4, hk5, hk6⟩ := hK.1 m hm
  refine jl_of (as := [.ref 22, .int (nI m), .int (nI pc), .int (nI 0), .int (en t)]) rfl (by decide) hl (jl_cc rfl (jl_cc rfl (jl_cc rfl (jl_cc rfl (jl_cc rfl jl_ca))))) (Nat.le_of_ble_eq_true rfl) ?_
  show jl_W l G m_Mo_fits (0, 0) 0 [some (.ref 22), some (.int (nI m)), some (.int (nI pc)), some (.int (nI 0)), some (.int (en t)), none, none, none] [] (σ) (.inl (some (.int (bi (part pr t (some 1)))))) (σ)
  refine jr_aload_n d_Mo_fits_0 rfl ?_
  refine jr_getf d_Mo_fits_1 f_Mo_fits_38 hO rfl ?_
  refine jr_bipush ((nI (24))) d_Mo_fits_4 (by decide) ?_
  refine jr_iload_n d_Mo_fits_6 rfl ?_
  refine jr_imulN d_Mo_fits_7 ?_
  refine jr_iload_n d_Mo_fits_8 rfl ?_
  refine jr_iaddN d_Mo_fits_9 ?_
  refine jr_ialdQ (v := (nI (20))) d_Mo_fits_10 h32 (by omega) (by omega) (congrArg nI ho) ?_
  refine jr_istore d_Mo_fits_11 (by decide) ?_
  show jl_W l G m_Mo_fits (0, 0) 13 [some (.ref 22), some (.int (nI m)), some (.int (nI pc)), some (.int (nI 0)), some (.int (en t)), some (.int (nI 20)), none, none] [] (σ) (.inl (some (.int (bi (part pr t (some 1)))))) (σ)
  refine jr_aload_n d_Mo_fits_13 rfl ?_
  refine jr_getf d_Mo_fits_14 f_Mo_fits_41 hO rfl ?_
  refine jr_bipush ((nI (24))) d_Mo_fits_17 (by decide) ?_
  refine jr_iload_n d_Mo_fits_19 rfl ?_
  refine jr_imulN d_Mo_fits_20 ?_
  refine jr_iload_n d_Mo_fits_21 rfl ?_
  refine jr_iaddN d_Mo_fits_22 ?_
  refine jr_ialdQ (v := (x)) d_Mo_fits_23 h33 (by omega) (by omega) (hx) ?_
  refine jr_istore d_Mo_fits_24 (by decide) ?_
  show jl_W l G m_Mo_fits (0, 0) 26 [some (.ref 22), some (.int (nI m)), some (.int (nI pc)), some (.int (nI 0)), some (.int (en t)), some (.int (nI 20)), some (.int (x)), none] [] (σ) (.inl (some (.int (bi (part pr t (some 1)))))) (σ)
  refine jr_iload d_Mo_fits_26 rfl ?_
  refine jr_iconst ((nI (3))) d_Mo_fits_28 (by decide) ?_
  refine jr_icmp_lt 39 d_Mo_fits_29 (by decide) (fun z => absurd z (by decide)) (fun _ => ?_)
  refine jr_iload d_Mo_fits_32 rfl ?_
  refine jr_bipush ((nI (6))) d_Mo_fits_34 (by decide) ?_
  refine jr_icmp_le 60 d_Mo_fits_36 (by decide) (fun z => absurd z (by decide)) (fun _ => ?_)
  refine jr_iload d_Mo_fits_39 rfl ?_
  refine jr_bipush ((nI (8))) d_Mo_fits_41 (by decide) ?_
  refine jr_icmp_eq 60 d_Mo_fits_43 (by decide) (fun z => absurd z (by decide)) (fun _ => ?_)
  refine jr_iload d_Mo_fits_46 rfl ?_
  refine jr_bipush ((nI (9))) d_Mo_fits_48 (by decide) ?_
  refine jr_icmp_eq 60 d_Mo_fits_50 (by decide) (fun z => absurd z (by decide)) (fun _ => ?_)
  refine jr_iload d_Mo_fits_53 rfl ?_
  refine jr_bipush ((nI (19))) d_Mo_fits_55 (by decide) ?_
  refine jr_icmp_ne 71 d_Mo_fits_57 (by decide) (fun _ => ?_) (fun z => absurd z (by decide))
  refine jr_iload d_Mo_fits_71 rfl ?_
  refine jr_bipush ((nI (12))) d_Mo_fits_73 (by decide) ?_
  refine jr_icmp_eq 85 d_Mo_fits_75 (by decide) (fun z => absurd z (by decide)) (fun _ => ?_)
  refine jr_iload d_Mo_fits_78 rfl ?_
  refine jr_bipush ((nI (13))) d_Mo_fits_80 (by decide) ?_
  refine jr_icmp_ne 127 d_Mo_fits_82 (by decide) (fun _ => ?_) (fun z => absurd z (by decide))
  refine jr_iload d_Mo_fits_127 rfl ?_
  refine jr_bipush ((nI (14))) d_Mo_fits_129 (by decide) ?_
  refine jr_icmp_ne 191 d_Mo_fits_131 (by decide) (fun _ => ?_) (fun z => absurd z (by decide))
  refine jr_iload d_Mo_fits_191 rfl ?_
  refine jr_bipush ((nI (15))) d_Mo_fits_193 (by decide) ?_
  refine jr_icmp_eq 205 d_Mo_fits_195 (by decide) (fun z => absurd z (by decide)) (fun _ => ?_)
  refine jr_iload d_Mo_fits_198 rfl ?_
  refine jr_bipush ((nI (17))) d_Mo_fits_200 (by decide) ?_
  refine jr_icmp_ne 224 d_Mo_fits_202 (by decide) (fun _ => ?_) (fun z => absurd z (by decide))
  refine jr_iload d_Mo_fits_224 rfl ?_
  refine jr_bipush ((nI (16))) d_Mo_fits_226 (by decide) ?_
  refine jr_icmp_eq 238 d_Mo_fits_228 (by decide) (fun z => absurd z (by decide)) (fun _ => ?_)
  refine jr_iload d_Mo_fits_231 rfl ?_
  refine jr_bipush ((nI (25))) d_Mo_fits_233 (by decide) ?_
  refine jr_icmp_ne 245 d_Mo_fits_235 (by decide) (fun _ => ?_) (fun z => absurd z (by decide))
  refine jr_iload d_Mo_fits_245 rfl ?_
  refine jr_bipush ((nI (18))) d_Mo_fits_247 (by decide) ?_
  refine jr_icmp_ne 265 d_Mo_fits_249 (by decide) (fun _ => ?_) (fun z => absurd z (by decide))
  refine jr_iload d_Mo_fits_265 rfl ?_
  refine jr_bipush ((nI (20))) d_Mo_fits_267 (by decide) ?_
  refine jr_icmp_lt 304 d_Mo_fits_269 (by decide) (fun z => absurd z (by decide)) (fun _ => ?_)
  refine jr_iload d_Mo_fits_272 rfl ?_
  refine jr_bipush ((nI (22))) d_Mo_fits_274 (by decide) ?_
  refine jr_icmp_gt 304 d_Mo_fits_276 (by decide) (fun z => absurd z (by decide)) (fun _ => ?_)
  refine jr_iload_n d_Mo_fits_279 rfl ?_
  refine jr_if_ne 293 d_Mo_fits_280 (by decide) (fun z => absurd rfl z) (fun _ => ?_)
  refine jr_aload_n d_Mo_fits_283 rfl ?_
  refine jr_iload d_Mo_fits_284 rfl ?_
  refine jr_iconst ((nI (1))) d_Mo_fits_286 (by decide) ?_
  refine jr_callV (As := [.int (en t), .int (nI 1)]) d_Mo_fits_287 k_Mo_fits_142 hO rfl rfl rfl (Nat.le_of_ble_eq_true rfl) (by decide) (by decide) (mo_part (x := t) (y := some (1)) hl hO hw hok.dsc (by assumption) (ob_s (by omega))) ?_
  show jl_W l G m_Mo_fits (0, 0) 290 [some (.ref 22), some (.int (nI m)), some (.int (nI pc)), some (.int (nI 0)), some (.int (en t)), some (.int (nI 20)), some (.int (x)), none] [.int (bi (part pr t (some (1))))] (σ) (.inl (some (.int (bi (part pr t (some 1)))))) (σ)
  refine jr_goto 303 d_Mo_fits_290 (by decide) ?_
  exact jr_zretE d_Mo_fits_303 rfl (bi_01 _) (bov (by first | (simp [isO]; done) | (simp [isO]; omega))) (rfl) (by decide) (by decide)
theorem d_Mo_fits_293 : decode m_Mo_fits.2.1 293 = .ok (.iload 4, 2) := by decide +kernel
theorem d_Mo_fits_295 : decode m_Mo_fits.2.1 295 = .ok (.ifCond .ne 7, 3) := by decide +kernel
theorem d_Mo_fits_302 : decode m_Mo_fits.2.1 302 = .ok (.iconst 0, 1) := by decide +kernel
theorem d_Mo_fits_298 : decode m_Mo_fits.2.1 298 = .ok (.iconst 1, 1) := by decide +kernel
theorem d_Mo_fits_299 : decode m_Mo_fits.2.1 299 = .ok (.goto 4, 3) := by decide +kernel
theorem mo_fit_20_1 (hl : l.stackTraces = false) {m pc : Nat} {x : Int32} {t : Option Nat} (hO : MoO σ fa vf wh wy hg dp md ov oh dn an) (hw : MoW σ tb pr ow ft hs) (hu : MoM σ u1 u2 ur ul uo ua uc us ut uk) (hok : WoOk tb pr ow fi) (hK : MoK u1 u2 ur ul uo uc us ut uk) (hm : m < 24) (hpc : pc < 24) (ho : uo (24 * m + pc) = 20) (hx : ua (24 * m + pc) = x) (ht : ob 16 t) : jl_m l G m_Mo_fits [.ref 22, .int (nI m), .int (nI pc), .int (nI 1), .int (en t)] σ (.inl (some (.int (bi (isI t))))) (σ) := by
  obtain ⟨h23, h24, h25, h26, h27⟩ := id hw
  obtain ⟨h28, h29, h30, h31, h32, h33, h34, h35, h36, h37⟩ := id hu
  obtain ⟨hk1, hk2, hk3, hk4, hk5, hk6⟩ := hK.1 m hm
  refine jl_of (as := [.ref 22, .int (nI m), .int (nI pc), .int (nI 1), .int (en t)]) rfl (by decide) hl (jl_cc rfl (jl_cc rfl (jl_cc rfl (jl_cc rfl (jl_cc rfl jl_ca))))) (Nat.le_of_ble_eq_true rfl) ?_
  show jl_W l G m_Mo_fits (0, 0) 0 [some (.ref 22), some (.int (nI m)), some (.int (nI pc)), some (.int (nI 1)), some (.int (en t)), none, none, none] [] (σ) (.inl (some (.int (bi (isI t))))) (σ)
  refine jr_aload_n d_Mo_fits_0 rfl ?_
  refine jr_getf d_Mo_fits_1 f_Mo_fits_38 hO rfl ?_
  refine jr_bipush ((nI (24))) d_Mo_fits_4 (by decide) ?_
  refine jr_iload_n d_Mo_fits_6 rfl ?_
  refine jr_imulN d_Mo_fits_7 ?_
  refine jr_iload_n d_Mo_fits_8 rfl ?_
  refine jr_iaddN d_Mo_fits_9 ?_
  refine jr_ialdQ (v := (nI (20))) d_Mo_fits_10 h32 (by omega) (by omega) (congrArg nI ho) ?_
  refine jr_istore d_Mo_fits_11 (by decide) ?_
  show jl_W l G m_Mo_fits (0, 0) 13 [some (.ref 22), some (.int (nI m)), some (.int (nI pc)), some (.int (nI 1)), some (.int (en t)), some (.int (nI 20)), none, none] [] (σ) (.inl (some (.int (bi (isI t))))) (σ)
  refine jr_aload_n d_Mo_fits_13 rfl ?_
  refine jr_getf d_Mo_fits_14 f_Mo_fits_41 hO rfl ?_
  refine jr_bipush ((nI (24))) d_Mo_fits_17 (by decide) ?_
  refine jr_iload_n d_Mo_fits_19 rfl ?_
  refine jr_imulN d_Mo_fits_20 ?_
  refine jr_iload_n d_Mo_fits_21 rfl ?_
  refine jr_iaddN d_Mo_fits_22 ?_
  refine jr_ialdQ (v := (x)) d_Mo_fits_23 h33 (by omega) (by omega) (hx) ?_
  refine jr_istore d_Mo_fits_24 (by decide) ?_
  show jl_W l G m_Mo_fits (0, 0) 26 [some (.ref 22), some (.int (nI m)), some (.int (nI pc)), some (.int (nI 1)), some (.int (en t)), some (.int (nI 20)), some (.int (x)), none] [] (σ) (.inl (some (.int (bi (isI t))))) (σ)
  refine jr_iload d_Mo_fits_26 rfl ?_
  refine jr_iconst ((nI (3))) d_Mo_fits_28 (by decide) ?_
  refine jr_icmp_lt 39 d_Mo_fits_29 (by decide) (fun z => absurd z (by decide)) (fun _ => ?_)
  refine jr_iload d_Mo_fits_32 rfl ?_
  refine jr_bipush ((nI (6))) d_Mo_fits_34 (by decide) ?_
  refine jr_icmp_le 60 d_Mo_fits_36 (by decide) (fun z => absurd z (by decide)) (fun _ => ?_)
  refine jr_iload d_Mo_fits_39 rfl ?_
  refine jr_bipush ((nI (8))) d_Mo_fits_41 (by decide) ?_
  refine jr_icmp_eq 60 d_Mo_fits_43 (by decide) (fun z => absurd z (by decide)) (fun _ => ?_)
  refine jr_iload d_Mo_fits_46 rfl ?_
  refine jr_bipush ((nI (9))) d_Mo_fits_48 (by decide) ?_
  refine jr_icmp_eq 60 d_Mo_fits_50 (by decide) (fun z => absurd z (by decide)) (fun _ => ?_)
  refine jr_iload d_Mo_fits_53 rfl ?_
  refine jr_bipush ((nI (19))) d_Mo_fits_55 (by decide) ?_
  refine jr_icmp_ne 71 d_Mo_fits_57 (by decide) (fun _ => ?_) (fun z => absurd z (by decide))
  refine jr_iload d_Mo_fits_71 rfl ?_
  refine jr_bipush ((nI (12))) d_Mo_fits_73 (by decide) ?_
  refine jr_icmp_eq 85 d_Mo_fits_75 (by decide) (fun z => absurd z (by decide)) (fun _ => ?_)
  refine jr_iload d_Mo_fits_78 rfl ?_
  refine jr_bipush ((nI (13))) d_Mo_fits_80 (by decide) ?_
  refine jr_icmp_ne 127 d_Mo_fits_82 (by decide) (fun _ => ?_) (fun z => absurd z (by decide))
  refine jr_iload d_Mo_fits_127 rfl ?_
  refine jr_bipush ((nI (14))) d_Mo_fits_129 (by decide) ?_
  refine jr_icmp_ne 191 d_Mo_fits_131 (by decide) (fun _ => ?_) (fun z => absurd z (by decide))
  refine jr_iload d_Mo_fits_191 rfl ?_
  refine jr_bipush ((nI (15))) d_Mo_fits_193 (by decide) ?_
  refine jr_icmp_eq 205 d_Mo_fits_195 (by decide) (fun z => absurd z (by decide)) (fun _ => ?_)
  refine jr_iload d_Mo_fits_198 rfl ?_
  refine jr_bipush ((nI (17))) d_Mo_fits_200 (by decide) ?_
  refine jr_icmp_ne 224 d_Mo_fits_202 (by decide) (fun _ => ?_) (fun z => absurd z (by decide))
  refine jr_iload d_Mo_fits_224 rfl ?_
  refine jr_bipush ((nI (16))) d_Mo_fits_226 (by decide) ?_
  refine jr_icmp_eq 238 d_Mo_fits_228 (by decide) (fun z => absurd z (by decide)) (fun _ => ?_)
  refine jr_iload d_Mo_fits_231 rfl ?_
  refine jr_bipush ((nI (25))) d_Mo_fits_233 (by decide) ?_
  refine jr_icmp_ne 245 d_Mo_fits_235 (by decide) (fun _ => ?_) (fun z => absurd z (by decide))
  refine jr_iload d_Mo_fits_245 rfl ?_
  refine jr_bipush ((nI (18))) d_Mo_fits_247 (by decide) ?_
  refine jr_icmp_ne 265 d_Mo_fits_249 (by decide) (fun _ => ?_) (fun z => absurd z (by decide))
  refine jr_iload d_Mo_fits_265 rfl ?_
  refine jr_bipush ((nI (20))) d_Mo_fits_267 (by decide) ?_
  refine jr_icmp_lt 304 d_Mo_fits_269 (by decide) (fun z => absurd z (by decide)) (fun _ => ?_)
  refine jr_iload d_Mo_fits_272 rfl ?_
  refine jr_bipush ((nI (22))) d_Mo_fits_274 (by decide) ?_
  refine jr_icmp_gt 304 d_Mo_fits_276 (by decide) (fun z => absurd z (by decide)) (fun _ => ?_)
  refine jr_iload_n d_Mo_fits_279 rfl ?_
  refine jr_if_ne 293 d_Mo_fits_280 (by decide) (fun _ => ?_) (fun z => absurd z (by decide))
  refine jr_iload d_Mo_fits_293 rfl ?_
  refine jr_if_ne 302 d_Mo_fits_295 (by decide) (fun c1 => ?_) (fun c1 => ?_)
  · refine jr_iconst ((nI (0))) d_Mo_fits_302 (by decide) ?_
    exact jr_zretE d_Mo_fits_303 rfl (by decide) (bo0 (by first | (simp [isO, isI_n (by assumption) c1]; done) | (simp [isO, isI_n (by assumption) c1]; omega))) (rfl) (by decide) (by decide)
  · refine jr_iconst ((nI (1))) d_Mo_fits_298 (by decide) ?_
    refine jr_goto 303 d_Mo_fits_299 (by decide) ?_
    exact jr_zretE d_Mo_fits_303 rfl (by decide) (bo1 (by first | (simp [isO, isI_y (by assumption) c1]; done) | (simp [isO, isI_y (by assumption) c1]; omega))) (rfl) (by decide) (by decide)
theorem mo_fit_21_0 (hl : l.stackTraces = false) {m pc : Nat} {x : Int32} {t : Option Nat} (hO : MoO σ fa vf wh wy hg dp md ov oh dn an) (hw : MoW σ tb pr ow ft hs) (hu : MoM σ u1 u2 ur ul uo ua uc us ut uk) (hok : WoOk tb pr ow fi) (hK : MoK u1 u2 ur ul uo uc us ut uk) (hm : m < 24) (hpc : pc < 24) (ho : uo (24 * m + pc) = 21) (hx : ua (24 * m + pc) = x) (ht : ob 16 t) : jl_m l G m_Mo_fits [.ref 22, .int (nI m), .int (nI pc), .int (nI 0), .int (en t)] σ (.inl (some (.int (bi (part pr t (some 1)))))) (σ) := by
  obtain ⟨h23, h24, h25, h26, h27⟩ := id hw
  obtain ⟨h28, h29, h30, h31, h32, h33, h34, h35, h36, h37⟩ := id hu
  obtain ⟨hk1, hk2, hk3, hk4, hk5, hk6⟩ := hK.1 m hm
  refine jl_of (as := [.ref 22, .int (nI m), .int (nI pc), .int (nI 0), .int (en t)]) rfl (by decide) hl (jl_cc rfl (jl_cc rfl (jl_cc rfl (jl_cc rfl (jl_cc rfl jl_ca))))) (Nat.le_of_ble_eq_true rfl) ?_
  show jl_W l G m_Mo_fits (0, 0) 0 [some (.ref 22), some (.int (nI m)), some (.int (nI pc)), some (.int (nI 0)), some (.int (en t)), none, none, none] [] (σ) (.inl (some (.int (bi (part pr t (some 1)))))) (σ)
  refine jr_aload_n d_Mo_fits_0 rfl ?_
  refine jr_getf d_Mo_fits_1 f_Mo_fits_38 hO rfl ?_
  refine jr_bipush ((nI (24))) d_Mo_fits_4 (by decide) ?_
  refine jr_iload_n d_Mo_fits_6 rfl ?_
  refine jr_imulN d_Mo_fits_7 ?_
  refine jr_iload_n d_Mo_fits_8 rfl ?_
  refine jr_iaddN d_Mo_fits_9 ?_
  refine jr_ialdQ (v := (nI (21))) d_Mo_fits_10 h32 (by omega) (by omega) (congrArg nI ho) ?_
  refine jr_istore d_Mo_fits_11 (by decide) ?_
  show jl_W l G m_Mo_fits (0, 0) 13 [some (.ref 22), some (.int (nI m)), some (.int (nI pc)), some (.int (nI 0)), some (.int (en t)), some (.int (nI 21)), none, none] [] (σ) (.inl (some (.int (bi (part pr t (some 1)))))) (σ)
  refine jr_aload_n d_Mo_fits_13 rfl ?_
  refine jr_getf d_Mo_fits_14 f_Mo_fits_41 hO rfl ?_
  refine jr_bipush ((nI (24))) d_Mo_fits_17 (by decide) ?_
  refine jr_iload_n d_Mo_fits_19 rfl ?_
  refine jr_imulN d_Mo_fits_20 ?_
  refine jr_iload_n d_Mo_fits_21 rfl ?_
  refine jr_iaddN d_Mo_fits_22 ?_
  refine jr_ialdQ (v := (x)) d_Mo_fits_23 h33 (by omega) (by omega) (hx) ?_
  refine jr_istore d_Mo_fits_24 (by decide) ?_
  show jl_W l G m_Mo_fits (0, 0) 26 [some (.ref 22), some (.int (nI m)), some (.int (nI pc)), some (.int (nI 0)), some (.int (en t)), some (.int (nI 21)), some (.int (x)), none] [] (σ) (.inl (some (.int (bi (part pr t (some 1)))))) (σ)
  refine jr_iload d_Mo_fits_26 rfl ?_
  refine jr_iconst ((nI (3))) d_Mo_fits_28 (by decide) ?_
  refine jr_icmp_lt 39 d_Mo_fits_29 (by decide) (fun z => absurd z (by decide)) (fun _ => ?_)
  refine jr_iload d_Mo_fits_32 rfl ?_
  refine jr_bipush ((nI (6))) d_Mo_fits_34 (by decide) ?_
  refine jr_icmp_le 60 d_Mo_fits_36 (by decide) (fun z => absurd z (by decide)) (fun _ => ?_)
  refine jr_iload d_Mo_fits_39 rfl ?_
  refine jr_bipush ((nI (8))) d_Mo_fits_41 (by decide) ?_
  refine jr_icmp_eq 60 d_Mo_fits_43 (by decide) (fun z => absurd z (by decide)) (fun _ => ?_)
  refine jr_iload d_Mo_fits_46 rfl ?_
  refine jr_bipush ((nI (9))) d_Mo_fits_48 (by decide) ?_
  refine jr_icmp_eq 60 d_Mo_fits_50 (by decide) (fun z => absurd z (by decide)) (fun _ => ?_)
  refine jr_iload d_Mo_fits_53 rfl ?_
  refine jr_bipush ((nI (19))) d_Mo_fits_55 (by decide) ?_
  refine jr_icmp_ne 71 d_Mo_fits_57 (by decide) (fun _ => ?_) (fun z => absurd z (by decide))
  refine jr_iload d_Mo_fits_71 rfl ?_
  refine jr_bipush ((nI (12))) d_Mo_fits_73 (by decide) ?_
  refine jr_icmp_eq 85 d_Mo_fits_75 (by decide) (fun z => absurd z (by decide)) (fun _ => ?_)
  refine jr_iload d_Mo_fits_78 rfl ?_
  refine jr_bipush ((nI (13))) d_Mo_fits_80 (by decide) ?_
  refine jr_icmp_ne 127 d_Mo_fits_82 (by decide) (fun _ => ?_) (fun z => absurd z (by decide))
  refine jr_iload d_Mo_fits_127 rfl ?_
  refine jr_bipush ((nI (14))) d_Mo_fits_129 (by decide) ?_
  refine jr_icmp_ne 191 d_Mo_fits_131 (by decide) (fun _ => ?_) (fun z => absurd z (by decide))
  refine jr_iload d_Mo_fits_191 rfl ?_
  refine jr_bipush ((nI (15))) d_Mo_fits_193 (by decide) ?_
  refine jr_icmp_eq 205 d_Mo_fits_195 (by decide) (fun z => absurd z (by decide)) (fun _ => ?_)
  refine jr_iload d_Mo_fits_198 rfl ?_
  refine jr_bipush ((nI (17))) d_Mo_fits_200 (by decide) ?_
  refine jr_icmp_ne 224 d_Mo_fits_202 (by decide) (fun _ => ?_) (fun z => absurd z (by decide))
  refine jr_iload d_Mo_fits_224 rfl ?_
  refine jr_bipush ((nI (16))) d_Mo_fits_226 (by decide) ?_
  refine jr_icmp_eq 238 d_Mo_fits_228 (by decide) (fun z => absurd z (by decide)) (fun _ => ?_)
  refine jr_iload d_Mo_fits_231 rfl ?_
  refine jr_bipush ((nI (25))) d_Mo_fits_233 (by decide) ?_
  refine jr_icmp_ne 245 d_Mo_fits_235 (by decide) (fun _ => ?_) (fun z => absurd z (by decide))
  refine jr_iload d_Mo_fits_245 rfl ?_
  refine jr_bipush ((nI (18))) d_Mo_fits_247 (by decide) ?_
  refine jr_icmp_ne 265 d_Mo_fits_249 (by decide) (fun _ => ?_) (fun z => absurd z (by decide))
  refine jr_iload d_Mo_fits_265 rfl ?_
  refine jr_bipush ((nI (20))) d_Mo_fits_267 (by decide) ?_
  refine jr_icmp_lt 304 d_Mo_fits_269 (by decide) (fun z => absurd z (by decide)) (fun _ => ?_)
  refine jr_iload d_Mo_fits_272 rfl ?_
  refine jr_bipush ((nI (22))) d_Mo_fits_274 (by decide) ?_
  refine jr_icmp_gt 304 d_Mo_fits_276 (by decide) (fun z => absurd z (by decide)) (fun _ => ?_)
  refine jr_iload_n d_Mo_fits_279 rfl ?_
  refine jr_if_ne 293 d_Mo_fits_280 (by decide) (fun z => absurd rfl z) (fun _ => ?_)
  refine jr_aload_n d_Mo_fits_283 rfl ?_
  refine jr_iload d_Mo_fits_284 rfl ?_
  refine jr_iconst ((nI (1))) d_Mo_fits_286 (by decide) ?_
  refine jr_callV (As := [.int (en t), .int (nI 1)]) d_Mo_fits_287 k_Mo_fits_142 hO rfl rfl rfl (Nat.le_of_ble_eq_true rfl) (by decide) (by decide) (mo_part (x := t) (y := some (1)) hl hO hw hok.dsc (by assumption) (ob_s (by omega))) ?_
  show jl_W l G m_Mo_fits (0, 0) 290 [some (.ref 22), some (.int (nI m)), some (.int (nI pc)), some (.int (nI 0)), some (.int (en t)), some (.int (nI 21)), some (.int (x)), none] [.int (bi (part pr t (some (1))))] (σ) (.inl (some (.int (bi (part pr t (some 1)))))) (σ)
  refine jr_goto 303 d_Mo_fits_290 (by decide) ?_
  exact jr_zretE d_Mo_fits_303 rfl (bi_01 _) (bov (by first | (simp [isO]; done) | (simp [isO]; omega))) (rfl) (by decide) (by decide)
theorem mo_fit_21_1 (hl : l.stackTraces = false) {m pc : Nat} {x : Int32} {t : Option Nat} (hO : MoO σ fa vf wh wy hg dp md ov oh dn an) (hw : MoW σ tb pr ow ft hs) (hu : MoM σ u1 u2 ur ul uo ua uc us ut uk) (hok : WoOk tb pr ow fi) (hK : MoK u1 u2 ur ul uo uc us ut uk) (hm : m < 24) (hpc : pc < 24) (ho : uo (24 * m + pc) = 21) (hx : ua (24 * m + pc) = x) (ht : ob 16 t) : jl_m l G m_Mo_fits [.ref 22, .int (nI m), .int (nI pc), .int (nI 1), .int (en t)] σ (.inl (some (.int (bi (isI t))))) (σ) := by
  obtain ⟨h23, h24, h25, h26, h27⟩ := id hw
  obtain ⟨h28, h29, h30, h31, h32, h33, h34, h35, h36, h37⟩ := id hu
  obtain ⟨hk1, hk2, hk3, hk4, hk5, hk6⟩ := hK.1 m hm
  refine jl_of (as := [.ref 22, .int (nI m), .int (nI pc), .int (nI 1), .int (en t)]) rfl (by decide) hl (jl_cc rfl (jl_cc rfl (jl_cc rfl (jl_cc rfl (jl_cc rfl jl_ca))))) (Nat.le_of_ble_eq_true rfl) ?_
  show jl_W l G m_Mo_fits (0, 0) 0 [some (.ref 22), some (.int (nI m)), some (.int (nI pc)), some (.int (nI 1)), some (.int (en t)), none, none, none] [] (σ) (.inl (some (.int (bi (isI t))))) (σ)
  refine jr_aload_n d_Mo_fits_0 rfl ?_
  refine jr_getf d_Mo_fits_1 f_Mo_fits_38 hO rfl ?_
  refine jr_bipush ((nI (24))) d_Mo_fits_4 (by decide) ?_
  refine jr_iload_n d_Mo_fits_6 rfl ?_
  refine jr_imulN d_Mo_fits_7 ?_
  refine jr_iload_n d_Mo_fits_8 rfl ?_
  refine jr_iaddN d_Mo_fits_9 ?_
  refine jr_ialdQ (v := (nI (21))) d_Mo_fits_10 h32 (by omega) (by omega) (congrArg nI ho) ?_
  refine jr_istore d_Mo_fits_11 (by decide) ?_
  show jl_W l G m_Mo_fits (0, 0) 13 [some (.ref 22), some (.int (nI m)), some (.int (nI pc)), some (.int (nI 1)), some (.int (en t)), some (.int (nI 21)), none, none] [] (σ) (.inl (some (.int (bi (isI t))))) (σ)
  refine jr_aload_n d_Mo_fits_13 rfl ?_
  refine jr_getf d_Mo_fits_14 f_Mo_fits_41 hO rfl ?_
  refine jr_bipush ((nI (24))) d_Mo_fits_17 (by decide) ?_
  refine jr_iload_n d_Mo_fits_19 rfl ?_
  refine jr_imulN d_Mo_fits_20 ?_
  refine jr_iload_n d_Mo_fits_21 rfl ?_
  refine jr_iaddN d_Mo_fits_22 ?_
  refine jr_ialdQ (v := (x)) d_Mo_fits_23 h33 (by omega) (by omega) (hx) ?_
  refine jr_istore d_Mo_fits_24 (by decide) ?_
  show jl_W l G m_Mo_fits (0, 0) 26 [some (.ref 22), some (.int (nI m)), some (.int (nI pc)), some (.int (nI 1)), some (.int (en t)), some (.int (nI 21)), some (.int (x)), none] [] (σ) (.inl (some (.int (bi (isI t))))) (σ)
  refine jr_iload d_Mo_fits_26 rfl ?_
  refine jr_iconst ((nI (3))) d_Mo_fits_28 (by decide) ?_
  refine jr_icmp_lt 39 d_Mo_fits_29 (by decide) (fun z => absurd z (by decide)) (fun _ => ?_)
  refine jr_iload d_Mo_fits_32 rfl ?_
  refine jr_bipush ((nI (6))) d_Mo_fits_34 (by decide) ?_
  refine jr_icmp_le 60 d_Mo_fits_36 (by decide) (fun z => absurd z (by decide)) (fun _ => ?_)
  refine jr_iload d_Mo_fits_39 rfl ?_
  refine jr_bipush ((nI (8))) d_Mo_fits_41 (by decide) ?_
  refine jr_icmp_eq 60 d_Mo_fits_43 (by decide) (fun z => absurd z (by decide)) (fun _ => ?_)
  refine jr_iload d_Mo_fits_46 rfl ?_
  refine jr_bipush ((nI (9))) d_Mo_fits_48 (by decide) ?_
  refine jr_icmp_eq 60 d_Mo_fits_50 (by decide) (fun z => absurd z (by decide)) (fun _ => ?_)
  refine jr_iload d_Mo_fits_53 rfl ?_
  refine jr_bipush ((nI (19))) d_Mo_fits_55 (by decide) ?_
  refine jr_icmp_ne 71 d_Mo_fits_57 (by decide) (fun _ => ?_) (fun z => absurd z (by decide))
  refine jr_iload d_Mo_fits_71 rfl ?_
  refine jr_bipush ((nI (12))) d_Mo_fits_73 (by decide) ?_
  refine jr_icmp_eq 85 d_Mo_fits_75 (by decide) (fun z => absurd z (by decide)) (fun _ => ?_)
  refine jr_iload d_Mo_fits_78 rfl ?_
  refine jr_bipush ((nI (13))) d_Mo_fits_80 (by decide) ?_
  refine jr_icmp_ne 127 d_Mo_fits_82 (by decide) (fun _ => ?_) (fun z => absurd z (by decide))
  refine jr_iload d_Mo_fits_127 rfl ?_
  refine jr_bipush ((nI (14))) d_Mo_fits_129 (by decide) ?_
  refine jr_icmp_ne 191 d_Mo_fits_131 (by decide) (fun _ => ?_) (fun z => absurd z (by decide))
  refine jr_iload d_Mo_fits_191 rfl ?_
  refine jr_bipush ((nI (15))) d_Mo_fits_193 (by decide) ?_
  refine jr_icmp_eq 205 d_Mo_fits_195 (by decide) (fun z => absurd z (by decide)) (fun _ => ?_)
  refine jr_iload d_Mo_fits_198 rfl ?_
  refine jr_bipush ((nI (17))) d_Mo_fits_200 (by decide) ?_
  refine jr_icmp_ne 224 d_Mo_fits_202 (by decide) (fun _ => ?_) (fun z => absurd z (by decide))
  refine jr_iload d_Mo_fits_224 rfl ?_
  refine jr_bipush ((nI (16))) d_Mo_fits_226 (by decide) ?_
  refine jr_icmp_eq 238 d_Mo_fits_228 (by decide) (fun z => absurd z (by decide)) (fun _ => ?_)
  refine jr_iload d_Mo_fits_231 rfl ?_
  refine jr_bipush ((nI (25))) d_Mo_fits_233 (by decide) ?_
  refine jr_icmp_ne 245 d_Mo_fits_235 (by decide) (fun _ => ?_) (fun z => absurd z (by decide))
  refine jr_iload d_Mo_fits_245 rfl ?_
  refine jr_bipush ((nI (18))) d_Mo_fits_247 (by decide) ?_
  refine jr_icmp_ne 265 d_Mo_fits_249 (by decide) (fun _ => ?_) (fun z => absurd z (by decide))
  refine jr_iload d_Mo_fits_265 rfl ?_
  refine jr_bipush ((nI (20))) d_Mo_fits_267 (by decide) ?_
  refine jr_icmp_lt 304 d_Mo_fits_269 (by decide) (fun z => absurd z (by decide)) (fun _ => ?_)
  refine jr_iload d_Mo_fits_272 rfl ?_
  refine jr_bipush ((nI (22))) d_Mo_fits_274 (by decide) ?_
  refine jr_icmp_gt 304 d_Mo_fits_276 (by decide) (fun z => absurd z (by decide)) (fun _ => ?_)
  refine jr_iload_n d_Mo_fits_279 rfl ?_
  refine jr_if_ne 293 d_Mo_fits_280 (by decide) (fun _ => ?_) (fun z => absurd z (by decide))
  refine jr_iload d_Mo_fits_293 rfl ?_
  refine jr_if_ne 302 d_Mo_fits_295 (by decide) (fun c1 => ?_) (fun c1 => ?_)
  · refine jr_iconst ((nI (0))) d_Mo_fits_302 (by decide) ?_
    exact jr_zretE d_Mo_fits_303 rfl (by decide) (bo0 (by first | (simp [isO, isI_n (by assumption) c1]; done) | (simp [isO, isI_n (by assumption) c1]; omega))) (rfl) (by decide) (by decide)
  · refine jr_iconst ((nI (1))) d_Mo_fits_298 (by decide) ?_
    refine jr_goto 303 d_Mo_fits_299 (by decide) ?_
    exact jr_zretE d_Mo_fits_303 rfl (by decide) (bo1 (by first | (simp [isO, isI_y (by assumption) c1]; done) | (simp [isO, isI_y (by assumption) c1]; omega))) (rfl) (by decide) (by decide)
theorem mo_fit_21_2 (hl : l.stackTraces = false) {m pc : Nat} {x : Int32} {t : Option Nat} (hO : MoO σ fa vf wh wy hg dp md ov oh dn an) (hw : MoW σ tb pr ow ft hs) (hu : MoM σ u1 u2 ur ul uo ua uc us ut uk) (hok : WoOk tb pr ow fi) (hK : MoK u1 u2 ur ul uo uc us ut uk) (hm : m < 24) (hpc : pc < 24) (ho : uo (24 * m + pc) = 21) (hx : ua (24 * m + pc) = x) (ht : ob 16 t) : jl_m l G m_Mo_fits [.ref 22, .int (nI m), .int (nI pc), .int (nI 2), .int (en t)] σ (.inl (some (.int (bi (isI t))))) (σ) := by
  obtain ⟨h23, h24, h25, h26, h27⟩ := id hw
  obtain ⟨h28, h29, h30, h31, h32, h33, h34, h35, h36, h37⟩ := id hu
  obtain ⟨hk1, hk2, hk3, hk4, hk5, hk6⟩ := hK.1 m hm
  refine jl_of (as := [.ref 22, .int (nI m), .int (nI pc), .int (nI 2), .int (en t)]) rfl (by decide) hl (jl_cc rfl (jl_cc rfl (jl_cc rfl (jl_cc rfl (jl_cc rfl jl_ca))))) (Nat.le_of_ble_eq_true rfl) ?_
  show jl_W l G m_Mo_fits (0, 0) 0 [some (.ref 22), some (.int (nI m)), some (.int (nI pc)), some (.int (nI 2)), some (.int (en t)), none, none, none] [] (σ) (.inl (some (.int (bi (isI t))))) (σ)
  refine jr_aload_n d_Mo_fits_0 rfl ?_
  refine jr_getf d_Mo_fits_1 f_Mo_fits_38 hO rfl ?_
  refine jr_bipush ((nI (24))) d_Mo_fits_4 (by decide) ?_
  refine jr_iload_n d_Mo_fits_6 rfl ?_
  refine jr_imulN d_Mo_fits_7 ?_
  refine jr_iload_n d_Mo_fits_8 rfl ?_
  refine jr_iaddN d_Mo_fits_9 ?_
  refine jr_ialdQ (v := (nI (21))) d_Mo_fits_10 h32 (by omega) (by omega) (congrArg nI ho) ?_
  refine jr_istore d_Mo_fits_11 (by decide) ?_
  show jl_W l G m_Mo_fits (0, 0) 13 [some (.ref 22), some (.int (nI m)), some (.int (nI pc)), some (.int (nI 2)), some (.int (en t)), some (.int (nI 21)), none, none] [] (σ) (.inl (some (.int (bi (isI t))))) (σ)
  refine jr_aload_n d_Mo_fits_13 rfl ?_
  refine jr_getf d_Mo_fits_14 f_Mo_fits_41 hO rfl ?_
  refine jr_bipush ((nI (24))) d_Mo_fits_17 (by decide) ?_
  refine jr_iload_n d_Mo_fits_19 rfl ?_
  refine jr_imulN d_Mo_fits_20 ?_
  refine jr_iload_n d_Mo_fits_21 rfl ?_
  refine jr_iaddN d_Mo_fits_22 ?_
  refine jr_ialdQ (v := (x)) d_Mo_fits_23 h33 (by omega) (by omega) (hx) ?_
  refine jr_istore d_Mo_fits_24 (by decide) ?_
  show jl_W l G m_Mo_fits (0, 0) 26 [some (.ref 22), some (.int (nI m)), some (.int (nI pc)), some (.int (nI 2)), some (.int (en t)), some (.int (nI 21)), some (.int (x)), none] [] (σ) (.inl (some (.int (bi (isI t))))) (σ)
  refine jr_iload d_Mo_fits_26 rfl ?_
  refine jr_iconst ((nI (3))) d_Mo_fits_28 (by decide) ?_
  refine jr_icmp_lt 39 d_Mo_fits_29 (by decide) (fun z => absurd z (by decide)) (fun _ => ?_)
  refine jr_iload d_Mo_fits_32 rfl ?_
  refine jr_bipush ((nI (6))) d_Mo_fits_34 (by decide) ?_
  refine jr_icmp_le 60 d_Mo_fits_36 (by decide) (fun z => absurd z (by decide)) (fun _ => ?_)
  refine jr_iload d_Mo_fits_39 rfl ?_
  refine jr_bipush ((nI (8))) d_Mo_fits_41 (by decide) ?_
  refine jr_icmp_eq 60 d_Mo_fits_43 (by decide) (fun z => absurd z (by decide)) (fun _ => ?_)
  refine jr_iload d_Mo_fits_46 rfl ?_
  refine jr_bipush ((nI (9))) d_Mo_fits_48 (by decide) ?_
  refine jr_icmp_eq 60 d_Mo_fits_50 (by decide) (fun z => absurd z (by decide)) (fun _ => ?_)
  refine jr_iload d_Mo_fits_53 rfl ?_
  refine jr_bipush ((nI (19))) d_Mo_fits_55 (by decide) ?_
  refine jr_icmp_ne 71 d_Mo_fits_57 (by decide) (fun _ => ?_) (fun z => absurd z (by decide))
  refine jr_iload d_Mo_fits_71 rfl ?_
  refine jr_bipush ((nI (12))) d_Mo_fits_73 (by decide) ?_
  refine jr_icmp_eq 85 d_Mo_fits_75 (by decide) (fun z => absurd z (by decide)) (fun _ => ?_)
  refine jr_iload d_Mo_fits_78 rfl ?_
  refine jr_bipush ((nI (13))) d_Mo_fits_80 (by decide) ?_
  refine jr_icmp_ne 127 d_Mo_fits_82 (by decide) (fun _ => ?_) (fun z => absurd z (by decide))
  refine jr_iload d_Mo_fits_127 rfl ?_
  refine jr_bipush ((nI (14))) d_Mo_fits_129 (by decide) ?_
  refine jr_icmp_ne 191 d_Mo_fits_131 (by decide) (fun _ => ?_) (fun z => absurd z (by decide))
  refine jr_iload d_Mo_fits_191 rfl ?_
  refine jr_bipush ((nI (15))) d_Mo_fits_193 (by decide) ?_
  refine jr_icmp_eq 205 d_Mo_fits_195 (by decide) (fun z => absurd z (by decide)) (fun _ => ?_)
  refine jr_iload d_Mo_fits_198 rfl ?_
  refine jr_bipush ((nI (17))) d_Mo_fits_200 (by decide) ?_
  refine jr_icmp_ne 224 d_Mo_fits_202 (by decide) (fun _ => ?_) (fun z => absurd z (by decide))
  refine jr_iload d_Mo_fits_224 rfl ?_
  refine jr_bipush ((nI (16))) d_Mo_fits_226 (by decide) ?_
  refine jr_icmp_eq 238 d_Mo_fits_228 (by decide) (fun z => absurd z (by decide)) (fun _ => ?_)
  refine jr_iload d_Mo_fits_231 rfl ?_
  refine jr_bipush ((nI (25))) d_Mo_fits_233 (by decide) ?_
  refine jr_icmp_ne 245 d_Mo_fits_235 (by decide) (fun _ => ?_) (fun z => absurd z (by decide))
  refine jr_iload d_Mo_fits_245 rfl ?_
  refine jr_bipush ((nI (18))) d_Mo_fits_247 (by decide) ?_
  refine jr_icmp_ne 265 d_Mo_fits_249 (by decide) (fun _ => ?_) (fun z => absurd z (by decide))
  refine jr_iload d_Mo_fits_265 rfl ?_
  refine jr_bipush ((nI (20))) d_Mo_fits_267 (by decide) ?_
  refine jr_icmp_lt 304 d_Mo_fits_269 (by decide) (fun z => absurd z (by decide)) (fun _ => ?_)
  refine jr_iload d_Mo_fits_272 rfl ?_
  refine jr_bipush ((nI (22))) d_Mo_fits_274 (by decide) ?_
  refine jr_icmp_gt 304 d_Mo_fits_276 (by decide) (fun z => absurd z (by decide)) (fun _ => ?_)
  refine jr_iload_n d_Mo_fits_279 rfl ?_
  refine jr_if_ne 293 d_Mo_fits_280 (by decide) (fun _ => ?_) (fun z => absurd z (by decide))
  refine jr_iload d_Mo_fits_293 rfl ?_
  refine jr_if_ne 302 d_Mo_fits_295 (by decide) (fun c1 => ?_) (fun c1 => ?_)
  · refine jr_iconst ((nI (0))) d_Mo_fits_302 (by decide) ?_
    exact jr_zretE d_Mo_fits_303 rfl (by decide) (bo0 (by first | (simp [isO, isI_n (by assumption) c1]; done) | (simp [isO, isI_n (by assumption) c1]; omega))) (rfl) (by decide) (by decide)
  · refine jr_iconst ((nI (1))) d_Mo_fits_298 (by decide) ?_
    refine jr_goto 303 d_Mo_fits_299 (by decide) ?_
    exact jr_zretE d_Mo_fits_303 rfl (by decide) (bo1 (by first | (simp [isO, isI_y (by assumption) c1]; done) | (simp [isO, isI_y (by assumption) c1]; omega))) (rfl) (by decide) (by decide)
theorem mo_fit_22_0 (hl : l.stackTraces = false) {m pc : Nat} {x : Int32} {t : Option Nat} (hO : MoO σ fa vf wh wy hg dp md ov oh dn an) (hw : MoW σ tb pr ow ft hs) (hu : MoM σ u1 u2 ur ul uo ua uc us ut uk) (hok : WoOk tb pr ow fi) (hK : MoK u1 u2 ur ul uo uc us ut uk) (hm : m < 24) (hpc : pc < 24) (ho : uo (24 * m + pc) = 22) (hx : ua (24 * m + pc) = x) (ht : ob 16 t) : jl_m l G m_Mo_fits [.ref 22, .int (nI m), .int (nI pc), .int (nI 0), .int (en t)] σ (.inl (some (.int (bi (part pr t (some 1)))))) (σ) := by
  obtain ⟨h23, h24, h25, h26, h27⟩ := id hw
  obtain ⟨h28, h29, h30, h31, h32, h33, h34, h35, h36, h37⟩ := id hu
  obtain ⟨hk1, hk2, hk3, hk4, hk5, hk6⟩ := hK.1 m hm
  refine jl_of (as := [.ref 22, .int (nI m), .int (nI pc), .int (nI 0), .int (en t)]) rfl (by decide) hl (jl_cc rfl (jl_cc rfl (jl_cc rfl (jl_cc rfl (jl_cc rfl jl_ca))))) (Nat.le_of_ble_eq_true rfl) ?_
  show jl_W l G m_Mo_fits (0, 0) 0 [some (.ref 22), some (.int (nI m)), some (.int (nI pc)), some (.int (nI 0)), some (.int (en t)), none, none, none] [] (σ) (.inl (some (.int (bi (part pr t (some 1)))))) (σ)
  refine jr_aload_n d_Mo_fits_0 rfl ?_
  refine jr_getf d_Mo_fits_1 f_Mo_fits_38 hO rfl ?_
  refine jr_bipush ((nI (24))) d_Mo_fits_4 (by decide) ?_
  refine jr_iload_n d_Mo_fits_6 rfl ?_
  refine jr_imulN d_Mo_fits_7 ?_
  refine jr_iload_n d_Mo_fits_8 rfl ?_
  refine jr_iaddN d_Mo_fits_9 ?_
  refine jr_ialdQ (v := (nI (22))) d_Mo_fits_10 h32 (by omega) (by omega) (congrArg nI ho) ?_
  refine jr_istore d_Mo_fits_11 (by decide) ?_
  show jl_W l G m_Mo_fits (0, 0) 13 [some (.ref 22), some (.int (nI m)), some (.int (nI pc)), some (.int (nI 0)), some (.int (en t)), some (.int (nI 22)), none, none] [] (σ) (.inl (some (.int (bi (part pr t (some 1)))))) (σ)
  refine jr_aload_n d_Mo_fits_13 rfl ?_
  refine jr_getf d_Mo_fits_14 f_Mo_fits_41 hO rfl ?_
  refine jr_bipush ((nI (24))) d_Mo_fits_17 (by decide) ?_
  refine jr_iload_n d_Mo_fits_19 rfl ?_
  refine jr_imulN d_Mo_fits_20 ?_
  refine jr_iload_n d_Mo_fits_21 rfl ?_
  refine jr_iaddN d_Mo_fits_22 ?_
  refine jr_ialdQ (v := (x)) d_Mo_fits_23 h33 (by omega) (by omega) (hx) ?_
  refine jr_istore d_Mo_fits_24 (by decide) ?_
  show jl_W l G m_Mo_fits (0, 0) 26 [some (.ref 22), some (.int (nI m)), some (.int (nI pc)), some (.int (nI 0)), some (.int (en t)), some (.int (nI 22)), some (.int (x)), none] [] (σ) (.inl (some (.int (bi (part pr t (some 1)))))) (σ)
  refine jr_iload d_Mo_fits_26 rfl ?_
  refine jr_iconst ((nI (3))) d_Mo_fits_28 (by decide) ?_
  refine jr_icmp_lt 39 d_Mo_fits_29 (by decide) (fun z => absurd z (by decide)) (fun _ => ?_)
  refine jr_iload d_Mo_fits_32 rfl ?_
  refine jr_bipush ((nI (6))) d_Mo_fits_34 (by decide) ?_
  refine jr_icmp_le 60 d_Mo_fits_36 (by decide) (fun z => absurd z (by decide)) (fun _ => ?_)
  refine jr_iload d_Mo_fits_39 rfl ?_
  refine jr_bipush ((nI (8))) d_Mo_fits_41 (by decide) ?_
  refine jr_icmp_eq 60 d_Mo_fits_43 (by decide) (fun z => absurd z (by decide)) (fun _ => ?_)
  refine jr_iload d_Mo_fits_46 rfl ?_
  refine jr_bipush ((nI (9))) d_Mo_fits_48 (by decide) ?_
  refine jr_icmp_eq 60 d_Mo_fits_50 (by decide) (fun z => absurd z (by decide)) (fun _ => ?_)
  refine jr_iload d_Mo_fits_53 rfl ?_
  refine jr_bipush ((nI (19))) d_Mo_fits_55 (by decide) ?_
  refine jr_icmp_ne 71 d_Mo_fits_57 (by decide) (fun _ => ?_) (fun z => absurd z (by decide))
  refine jr_iload d_Mo_fits_71 rfl ?_
  refine jr_bipush ((nI (12))) d_Mo_fits_73 (by decide) ?_
  refine jr_icmp_eq 85 d_Mo_fits_75 (by decide) (fun z => absurd z (by decide)) (fun _ => ?_)
  refine jr_iload d_Mo_fits_78 rfl ?_
  refine jr_bipush ((nI (13))) d_Mo_fits_80 (by decide) ?_
  refine jr_icmp_ne 127 d_Mo_fits_82 (by decide) (fun _ => ?_) (fun z => absurd z (by decide))
  refine jr_iload d_Mo_fits_127 rfl ?_
  refine jr_bipush ((nI (14))) d_Mo_fits_129 (by decide) ?_
  refine jr_icmp_ne 191 d_Mo_fits_131 (by decide) (fun _ => ?_) (fun z => absurd z (by decide))
  refine jr_iload d_Mo_fits_191 rfl ?_
  refine jr_bipush ((nI (15))) d_Mo_fits_193 (by decide) ?_
  refine jr_icmp_eq 205 d_Mo_fits_195 (by decide) (fun z => absurd z (by decide)) (fun _ => ?_)
  refine jr_iload d_Mo_fits_198 rfl ?_
  refine jr_bipush ((nI (17))) d_Mo_fits_200 (by decide) ?_
  refine jr_icmp_ne 224 d_Mo_fits_202 (by decide) (fun _ => ?_) (fun z => absurd z (by decide))
  refine jr_iload d_Mo_fits_224 rfl ?_
  refine jr_bipush ((nI (16))) d_Mo_fits_226 (by decide) ?_
  refine jr_icmp_eq 238 d_Mo_fits_228 (by decide) (fun z => absurd z (by decide)) (fun _ => ?_)
  refine jr_iload d_Mo_fits_231 rfl ?_
  refine jr_bipush ((nI (25))) d_Mo_fits_233 (by decide) ?_
  refine jr_icmp_ne 245 d_Mo_fits_235 (by decide) (fun _ => ?_) (fun z => absurd z (by decide))
  refine jr_iload d_Mo_fits_245 rfl ?_
  refine jr_bipush ((nI (18))) d_Mo_fits_247 (by decide) ?_
  refine jr_icmp_ne 265 d_Mo_fits_249 (by decide) (fun _ => ?_) (fun z => absurd z (by decide))
  refine jr_iload d_Mo_fits_265 rfl ?_
  refine jr_bipush ((nI (20))) d_Mo_fits_267 (by decide) ?_
  refine jr_icmp_lt 304 d_Mo_fits_269 (by decide) (fun z => absurd z (by decide)) (fun _ => ?_)
  refine jr_iload d_Mo_fits_272 rfl ?_
  refine jr_bipush ((nI (22))) d_Mo_fits_274 (by decide) ?_
  refine jr_icmp_gt 304 d_Mo_fits_276 (by decide) (fun z => absurd z (by decide)) (fun _ => ?_)
  refine jr_iload_n d_Mo_fits_279 rfl ?_
  refine jr_if_ne 293 d_Mo_fits_280 (by decide) (fun z => absurd rfl z) (fun _ => ?_)
  refine jr_aload_n d_Mo_fits_283 rfl ?_
  refine jr_iload d_Mo_fits_284 rfl ?_
  refine jr_iconst ((nI (1))) d_Mo_fits_286 (by decide) ?_
  refine jr_callV (As := [.int (en t), .int (nI 1)]) d_Mo_fits_287 k_Mo_fits_142 hO rfl rfl rfl (Nat.le_of_ble_eq_true rfl) (by decide) (by decide) (mo_part (x := t) (y := some (1)) hl hO hw hok.dsc (by assumption) (ob_s (by omega))) ?_
  show jl_W l G m_Mo_fits (0, 0) 290 [some (.ref 22), some (.int (nI m)), some (.int (nI pc)), some (.int (nI 0)), some (.int (en t)), some (.int (nI 22)), some (.int (x)), none] [.int (bi (part pr t (some (1))))] (σ) (.inl (some (.int (bi (part pr t (some 1)))))) (σ)
  refine jr_goto 303 d_Mo_fits_290 (by decide) ?_
  exact jr_zretE d_Mo_fits_303 rfl (bi_01 _) (bov (by first | (simp [isO]; done) | (simp [isO]; omega))) (rfl) (by decide) (by decide)
theorem mo_fit_23_0 (hl : l.stackTraces = false) {m pc : Nat} {x : Int32} {t : Option Nat} (hO : MoO σ fa vf wh wy hg dp md ov oh dn an) (hw : MoW σ tb pr ow ft hs) (hu : MoM σ u1 u2 ur ul uo ua uc us ut uk) (hok : WoOk tb pr ow fi) (hK : MoK u1 u2 ur ul uo uc us ut uk) (hm : m < 24) (hpc : pc < 24) (ho : uo (24 * m + pc) = 23) (hx : ua (24 * m + pc) = x) (ht : ob 16 t) : jl_m l G m_Mo_fits [.ref 22, .int (nI m), .int (nI pc), .int (nI 0), .int (en t)] σ (.inl (some (.int (bi (true))))) (σ) := by
  obtain ⟨h23, h24, h25, h26, h27⟩ := id hw
  obtain ⟨h28, h29, h30, h31, h32, h33, h34, h35, h36, h37⟩ := id hu
  obtain ⟨hk1, hk2, hk3, hk4, hk5, hk6⟩ := hK.1 m hm
  refine jl_of (as := [.ref 22, .int (nI m), .int (nI pc), .int (nI 0), .int (en t)]) rfl (by decide) hl (jl_cc rfl (jl_cc rfl (jl_cc rfl (jl_cc rfl (jl_cc rfl jl_ca))))) (Nat.le_of_ble_eq_true rfl) ?_
  show jl_W l G m_Mo_fits (0, 0) 0 [some (.ref 22), some (.int (nI m)), some (.int (nI pc)), some (.int (nI 0)), some (.int (en t)), none, none, none] [] (σ) (.inl (some (.int (bi (true))))) (σ)
  refine jr_aload_n d_Mo_fits_0 rfl ?_
  refine jr_getf d_Mo_fits_1 f_Mo_fits_38 hO rfl ?_
  refine jr_bipush ((nI (24))) d_Mo_fits_4 (by decide) ?_
  refine jr_iload_n d_Mo_fits_6 rfl ?_
  refine jr_imulN d_Mo_fits_7 ?_
  refine jr_iload_n d_Mo_fits_8 rfl ?_
  refine jr_iaddN d_Mo_fits_9 ?_
  refine jr_ialdQ (v := (nI (23))) d_Mo_fits_10 h32 (by omega) (by omega) (congrArg nI ho) ?_
  refine jr_istore d_Mo_fits_11 (by decide) ?_
  show jl_W l G m_Mo_fits (0, 0) 13 [some (.ref 22), some (.int (nI m)), some (.int (nI pc)), some (.int (nI 0)), some (.int (en t)), some (.int (nI 23)), none, none] [] (σ) (.inl (some (.int (bi (true))))) (σ)
  refine jr_aload_n d_Mo_fits_13 rfl ?_
  refine jr_getf d_Mo_fits_14 f_Mo_fits_41 hO rfl ?_
  refine jr_bipush ((nI (24))) d_Mo_fits_17 (by decide) ?_
  refine jr_iload_n d_Mo_fits_19 rfl ?_
  refine jr_imulN d_Mo_fits_20 ?_
  refine jr_iload_n d_Mo_fits_21 rfl ?_
  refine jr_iaddN d_Mo_fits_22 ?_
  refine jr_ialdQ (v := (x)) d_Mo_fits_23 h33 (by omega) (by omega) (hx) ?_
  refine jr_istore d_Mo_fits_24 (by decide) ?_
  show jl_W l G m_Mo_fits (0, 0) 26 [some (.ref 22), some (.int (nI m)), some (.int (nI pc)), some (.int (nI 0)), some (.int (en t)), some (.int (nI 23)), some (.int (x)), none] [] (σ) (.inl (some (.int (bi (true))))) (σ)
  refine jr_iload d_Mo_fits_26 rfl ?_
  refine jr_iconst ((nI (3))) d_Mo_fits_28 (by decide) ?_
  refine jr_icmp_lt 39 d_Mo_fits_29 (by decide) (fun z => absurd z (by decide)) (fun _ => ?_)
  refine jr_iload d_Mo_fits_32 rfl ?_
  refine jr_bipush ((nI (6))) d_Mo_fits_34 (by decide) ?_
  refine jr_icmp_le 60 d_Mo_fits_36 (by decide) (fun z => absurd z (by decide)) (fun _ => ?_)
  refine jr_iload d_Mo_fits_39 rfl ?_
  refine jr_bipush ((nI (8))) d_Mo_fits_41 (by decide) ?_
  refine jr_icmp_eq 60 d_Mo_fits_43 (by decide) (fun z => absurd z (by decide)) (fun _ => ?_)
  refine jr_iload d_Mo_fits_46 rfl ?_
  refine jr_bipush ((nI (9))) d_Mo_fits_48 (by decide) ?_
  refine jr_icmp_eq 60 d_Mo_fits_50 (by decide) (fun z => absurd z (by decide)) (fun _ => ?_)
  refine jr_iload d_Mo_fits_53 rfl ?_
  refine jr_bipush ((nI (19))) d_Mo_fits_55 (by decide) ?_
  refine jr_icmp_ne 71 d_Mo_fits_57 (by decide) (fun _ => ?_) (fun z => absurd z (by decide))
  refine jr_iload d_Mo_fits_71 rfl ?_
  refine jr_bipush ((nI (12))) d_Mo_fits_73 (by decide) ?_
  refine jr_icmp_eq 85 d_Mo_fits_75 (by decide) (fun z => absurd z (by decide)) (fun _ => ?_)
  refine jr_iload d_Mo_fits_78 rfl ?_
  refine jr_bipush ((nI (13))) d_Mo_fits_80 (by decide) ?_
  refine jr_icmp_ne 127 d_Mo_fits_82 (by decide) (fun _ => ?_) (fun z => absurd z (by decide))
  refine jr_iload d_Mo_fits_127 rfl ?_
  refine jr_bipush ((nI (14))) d_Mo_fits_129 (by decide) ?_
  refine jr_icmp_ne 191 d_Mo_fits_131 (by decide) (fun _ => ?_) (fun z => absurd z (by decide))
  refine jr_iload d_Mo_fits_191 rfl ?_
  refine jr_bipush ((nI (15))) d_Mo_fits_193 (by decide) ?_
  refine jr_icmp_eq 205 d_Mo_fits_195 (by decide) (fun z => absurd z (by decide)) (fun _ => ?_)
  refine jr_iload d_Mo_fits_198 rfl ?_
  refine jr_bipush ((nI (17))) d_Mo_fits_200 (by decide) ?_
  refine jr_icmp_ne 224 d_Mo_fits_202 (by decide) (fun _ => ?_) (fun z => absurd z (by decide))
  refine jr_iload d_Mo_fits_224 rfl ?_
  refine jr_bipush ((nI (16))) d_Mo_fits_226 (by decide) ?_
  refine jr_icmp_eq 238 d_Mo_fits_228 (by decide) (fun z => absurd z (by decide)) (fun _ => ?_)
  refine jr_iload d_Mo_fits_231 rfl ?_
  refine jr_bipush ((nI (25))) d_Mo_fits_233 (by decide) ?_
  refine jr_icmp_ne 245 d_Mo_fits_235 (by decide) (fun _ => ?_) (fun z => absurd z (by decide))
  refine jr_iload d_Mo_fits_245 rfl ?_
  refine jr_bipush ((nI (18))) d_Mo_fits_247 (by decide) ?_
  refine jr_icmp_ne 265 d_Mo_fits_249 (by decide) (fun _ => ?_) (fun z => absurd z (by decide))
  refine jr_iload d_Mo_fits_265 rfl ?_
  refine jr_bipush ((nI (20))) d_Mo_fits_267 (by decide) ?_
  refine jr_icmp_lt 304 d_Mo_fits_269 (by decide) (fun z => absurd z (by decide)) (fun _ => ?_)
  refine jr_iload d_Mo_fits_272 rfl ?_
  refine jr_bipush ((nI (22))) d_Mo_fits_274 (by decide) ?_
  refine jr_icmp_gt 304 d_Mo_fits_276 (by decide) (fun _ => ?_) (fun z => absurd (by decide) z)
  refine jr_iconst ((nI (1))) d_Mo_fits_304 (by decide) ?_
  exact jr_zretE d_Mo_fits_305 rfl (by decide) (bo1 (by first | (simp [isO]; done) | (simp [isO]; omega))) (rfl) (by decide) (by decide)
theorem mo_fit_24_0 (hl : l.stackTraces = false) {m pc : Nat} {x : Int32} {t : Option Nat} (hO : MoO σ fa vf wh wy hg dp md ov oh dn an) (hw : MoW σ tb pr ow ft hs) (hu : MoM σ u1 u2 ur ul uo ua uc us ut uk) (hok : WoOk tb pr ow fi) (hK : MoK u1 u2 ur ul uo uc us ut uk) (hm : m < 24) (hpc : pc < 24) (ho : uo (24 * m + pc) = 24) (hx : ua (24 * m + pc) = x) (ht : ob 16 t) : jl_m l G m_Mo_fits [.ref 22, .int (nI m), .int (nI pc), .int (nI 0), .int (en t)] σ (.inl (some (.int (bi (true))))) (σ) := by
  obtain ⟨h23, h24, h25, h26, h27⟩ := id hw
  obtain ⟨h28, h29, h30, h31, h32, h33, h34, h35, h36, h37⟩ := id hu
  obtain ⟨hk1, hk2, hk3, hk4, hk5, hk6⟩ := hK.1 m hm
  refine jl_of (as := [.ref 22, .int (nI m), .int (nI pc), .int (nI 0), .int (en t)]) rfl (by decide) hl (jl_cc rfl (jl_cc rfl (jl_cc rfl (jl_cc rfl (jl_cc rfl jl_ca))))) (Nat.le_of_ble_eq_true rfl) ?_
  show jl_W l G m_Mo_fits (0, 0) 0 [some (.ref 22), some (.int (nI m)), some (.int (nI pc)), some (.int (nI 0)), some (.int (en t)), none, none, none] [] (σ) (.inl (some (.int (bi (true))))) (σ)
  refine jr_aload_n d_Mo_fits_0 rfl ?_
  refine jr_getf d_Mo_fits_1 f_Mo_fits_38 hO rfl ?_
  refine jr_bipush ((nI (24))) d_Mo_fits_4 (by decide) ?_
  refine jr_iload_n d_Mo_fits_6 rfl ?_
  refine jr_imulN d_Mo_fits_7 ?_
  refine jr_iload_n d_Mo_fits_8 rfl ?_
  refine jr_iaddN d_Mo_fits_9 ?_
  refine jr_ialdQ (v := (nI (24))) d_Mo_fits_10 h32 (by omega) (by omega) (congrArg nI ho) ?_
  refine jr_istore d_Mo_fits_11 (by decide) ?_
  show jl_W l G m_Mo_fits (0, 0) 13 [some (.ref 22), some (.int (nI m)), some (.int (nI pc)), some (.int (nI 0)), some (.int (en t)), some (.int (nI 24)), none, none] [] (σ) (.inl (some (.int (bi (true))))) (σ)
  refine jr_aload_n d_Mo_fits_13 rfl ?_
  refine jr_getf d_Mo_fits_14 f_Mo_fits_41 hO rfl ?_
  refine jr_bipush ((nI (24))) d_Mo_fits_17 (by decide) ?_
  refine jr_iload_n d_Mo_fits_19 rfl ?_
  refine jr_imulN d_Mo_fits_20 ?_
  refine jr_iload_n d_Mo_fits_21 rfl ?_
  refine jr_iaddN d_Mo_fits_22 ?_
  refine jr_ialdQ (v := (x)) d_Mo_fits_23 h33 (by omega) (by omega) (hx) ?_
  refine jr_istore d_Mo_fits_24 (by decide) ?_
  show jl_W l G m_Mo_fits (0, 0) 26 [some (.ref 22), some (.int (nI m)), some (.int (nI pc)), some (.int (nI 0)), some (.int (en t)), some (.int (nI 24)), some (.int (x)), none] [] (σ) (.inl (some (.int (bi (true))))) (σ)
  refine jr_iload d_Mo_fits_26 rfl ?_
  refine jr_iconst ((nI (3))) d_Mo_fits_28 (by decide) ?_
  refine jr_icmp_lt 39 d_Mo_fits_29 (by decide) (fun z => absurd z (by decide)) (fun _ => ?_)
  refine jr_iload d_Mo_fits_32 rfl ?_
  refine jr_bipush ((nI (6))) d_Mo_fits_34 (by decide) ?_
  refine jr_icmp_le 60 d_Mo_fits_36 (by decide) (fun z => absurd z (by decide)) (fun _ => ?_)
  refine jr_iload d_Mo_fits_39 rfl ?_
  refine jr_bipush ((nI (8))) d_Mo_fits_41 (by decide) ?_
  refine jr_icmp_eq 60 d_Mo_fits_43 (by decide) (fun z => absurd z (by decide)) (fun _ => ?_)
  refine jr_iload d_Mo_fits_46 rfl ?_
  refine jr_bipush ((nI (9))) d_Mo_fits_48 (by decide) ?_
  refine jr_icmp_eq 60 d_Mo_fits_50 (by decide) (fun z => absurd z (by decide)) (fun _ => ?_)
  refine jr_iload d_Mo_fits_53 rfl ?_
  refine jr_bipush ((nI (19))) d_Mo_fits_55 (by decide) ?_
  refine jr_icmp_ne 71 d_Mo_fits_57 (by decide) (fun _ => ?_) (fun z => absurd z (by decide))
  refine jr_iload d_Mo_fits_71 rfl ?_
  refine jr_bipush ((nI (12))) d_Mo_fits_73 (by decide) ?_
  refine jr_icmp_eq 85 d_Mo_fits_75 (by decide) (fun z => absurd z (by decide)) (fun _ => ?_)
  refine jr_iload d_Mo_fits_78 rfl ?_
  refine jr_bipush ((nI (13))) d_Mo_fits_80 (by decide) ?_
  refine jr_icmp_ne 127 d_Mo_fits_82 (by decide) (fun _ => ?_) (fun z => absurd z (by decide))
  refine jr_iload d_Mo_fits_127 rfl ?_
  refine jr_bipush ((nI (14))) d_Mo_fits_129 (by decide) ?_
  refine jr_icmp_ne 191 d_Mo_fits_131 (by decide) (fun _ => ?_) (fun z => absurd z (by decide))
  refine jr_iload d_Mo_fits_191 rfl ?_
  refine jr_bipush ((nI (15))) d_Mo_fits_193 (by decide) ?_
  refine jr_icmp_eq 205 d_Mo_fits_195 (by decide) (fun z => absurd z (by decide)) (fun _ => ?_)
  refine jr_iload d_Mo_fits_198 rfl ?_
  refine jr_bipush ((nI (17))) d_Mo_fits_200 (by decide) ?_
  refine jr_icmp_ne 224 d_Mo_fits_202 (by decide) (fun _ => ?_) (fun z => absurd z (by decide))
  refine jr_iload d_Mo_fits_224 rfl ?_
  refine jr_bipush ((nI (16))) d_Mo_fits_226 (by decide) ?_
  refine jr_icmp_eq 238 d_Mo_fits_228 (by decide) (fun z => absurd z (by decide)) (fun _ => ?_)
  refine jr_iload d_Mo_fits_231 rfl ?_
  refine jr_bipush ((nI (25))) d_Mo_fits_233 (by decide) ?_
  refine jr_icmp_ne 245 d_Mo_fits_235 (by decide) (fun _ => ?_) (fun z => absurd z (by decide))
  refine jr_iload d_Mo_fits_245 rfl ?_
  refine jr_bipush ((nI (18))) d_Mo_fits_247 (by decide) ?_
  refine jr_icmp_ne 265 d_Mo_fits_249 (by decide) (fun _ => ?_) (fun z => absurd z (by decide))
  refine jr_iload d_Mo_fits_265 rfl ?_
  refine jr_bipush ((nI (20))) d_Mo_fits_267 (by decide) ?_
  refine jr_icmp_lt 304 d_Mo_fits_269 (by decide) (fun z => absurd z (by decide)) (fun _ => ?_)
  refine jr_iload d_Mo_fits_272 rfl ?_
  refine jr_bipush ((nI (22))) d_Mo_fits_274 (by decide) ?_
  refine jr_icmp_gt 304 d_Mo_fits_276 (by decide) (fun _ => ?_) (fun z => absurd (by decide) z)
  refine jr_iconst ((nI (1))) d_Mo_fits_304 (by decide) ?_
  exact jr_zretE d_Mo_fits_305 rfl (by decide) (bo1 (by first | (simp [isO]; done) | (simp [isO]; omega))) (rfl) (by decide) (by decide)
theorem mo_fit_25_0 (hl : l.stackTraces = false) {m pc : Nat} {x : Int32} {t : Nat} (hO : MoO σ fa vf wh wy hg dp md ov oh dn an) (hw : MoW σ tb pr ow ft hs) (hu : MoM σ u1 u2 ur ul uo ua uc us ut uk) (hok : WoOk tb pr ow fi) (hK : MoK u1 u2 ur ul uo uc us ut uk) (hm : m < 24) (hpc : pc < 24) (ho : uo (24 * m + pc) = 25) (hx : ua (24 * m + pc) = x) (ht : t < 16) (htv : t ≤ 2 ∨ 10 ≤ t) : jl_m l G m_Mo_fits [.ref 22, .int (nI m), .int (nI pc), .int (nI 0), .int (nI t)] σ (.inl (some (.int (bi (!isI (some t)))))) (σ) := by
  obtain ⟨h23, h24, h25, h26, h27⟩ := id hw
  obtain ⟨h28, h29, h30, h31, h32, h33, h34, h35, h36, h37⟩ := id hu
  obtain ⟨hk1, hk2, hk3, hk4, hk5, hk6⟩ := hK.1 m hm
  refine jl_of (as := [.ref 22, .int (nI m), .int (nI pc), .int (nI 0), .int (nI t)]) rfl (by decide) hl (jl_cc rfl (jl_cc rfl (jl_cc rfl (jl_cc rfl (jl_cc rfl jl_ca))))) (Nat.le_of_ble_eq_true rfl) ?_
  show jl_W l G m_Mo_fits (0, 0) 0 [some (.ref 22), some (.int (nI m)), some (.int (nI pc)), some (.int (nI 0)), some (.int (nI t)), none, none, none] [] (σ) (.inl (some (.int (bi (!isI (some t)))))) (σ)
  refine jr_aload_n d_Mo_fits_0 rfl ?_
  refine jr_getf d_Mo_fits_1 f_Mo_fits_38 hO rfl ?_
  refine jr_bipush ((nI (24))) d_Mo_fits_4 (by decide) ?_
  refine jr_iload_n d_Mo_fits_6 rfl ?_
  refine jr_imulN d_Mo_fits_7 ?_
  refine jr_iload_n d_Mo_fits_8 rfl ?_
  refine jr_iaddN d_Mo_fits_9 ?_
  refine jr_ialdQ (v := (nI (25))) d_Mo_fits_10 h32 (by omega) (by omega) (congrArg nI ho) ?_
  refine jr_istore d_Mo_fits_11 (by decide) ?_
  show jl_W l G m_Mo_fits (0, 0) 13 [some (.ref 22), some (.int (nI m)), some (.int (nI pc)), some (.int (nI 0)), some (.int (nI t)), some (.int (nI 25)), none, none] [] (σ) (.inl (some (.int (bi (!isI (some t)))))) (σ)
  refine jr_aload_n d_Mo_fits_13 rfl ?_
  refine jr_getf d_Mo_fits_14 f_Mo_fits_41 hO rfl ?_
  refine jr_bipush ((nI (24))) d_Mo_fits_17 (by decide) ?_
  refine jr_iload_n d_Mo_fits_19 rfl ?_
  refine jr_imulN d_Mo_fits_20 ?_
  refine jr_iload_n d_Mo_fits_21 rfl ?_
  refine jr_iaddN d_Mo_fits_22 ?_
  refine jr_ialdQ (v := (x)) d_Mo_fits_23 h33 (by omega) (by omega) (hx) ?_
  refine jr_istore d_Mo_fits_24 (by decide) ?_
  show jl_W l G m_Mo_fits (0, 0) 26 [some (.ref 22), some (.int (nI m)), some (.int (nI pc)), some (.int (nI 0)), some (.int (nI t)), some (.int (nI 25)), some (.int (x)), none] [] (σ) (.inl (some (.int (bi (!isI (some t)))))) (σ)
  refine jr_iload d_Mo_fits_26 rfl ?_
  refine jr_iconst ((nI (3))) d_Mo_fits_28 (by decide) ?_
  refine jr_icmp_lt 39 d_Mo_fits_29 (by decide) (fun z => absurd z (by decide)) (fun _ => ?_)
  refine jr_iload d_Mo_fits_32 rfl ?_
  refine jr_bipush ((nI (6))) d_Mo_fits_34 (by decide) ?_
  refine jr_icmp_le 60 d_Mo_fits_36 (by decide) (fun z => absurd z (by decide)) (fun _ => ?_)
  refine jr_iload d_Mo_fits_39 rfl ?_
  refine jr_bipush ((nI (8))) d_Mo_fits_41 (by decide) ?_
  refine jr_icmp_eq 60 d_Mo_fits_43 (by decide) (fun z => absurd z (by decide)) (fun _ => ?_)
  refine jr_iload d_Mo_fits_46 rfl ?_
  refine jr_bipush ((nI (9))) d_Mo_fits_48 (by decide) ?_
  refine jr_icmp_eq 60 d_Mo_fits_50 (by decide) (fun z => absurd z (by decide)) (fun _ => ?_)
  refine jr_iload d_Mo_fits_53 rfl ?_
  refine jr_bipush ((nI (19))) d_Mo_fits_55 (by decide) ?_
  refine jr_icmp_ne 71 d_Mo_fits_57 (by decide) (fun _ => ?_) (fun z => absurd z (by decide))
  refine jr_iload d_Mo_fits_71 rfl ?_
  refine jr_bipush ((nI (12))) d_Mo_fits_73 (by decide) ?_
  refine jr_icmp_eq 85 d_Mo_fits_75 (by decide) (fun z => absurd z (by decide)) (fun _ => ?_)
  refine jr_iload d_Mo_fits_78 rfl ?_
  refine jr_bipush ((nI (13))) d_Mo_fits_80 (by decide) ?_
  refine jr_icmp_ne 127 d_Mo_fits_82 (by decide) (fun _ => ?_) (fun z => absurd z (by decide))
  refine jr_iload d_Mo_fits_127 rfl ?_
  refine jr_bipush ((nI (14))) d_Mo_fits_129 (by decide) ?_
  refine jr_icmp_ne 191 d_Mo_fits_131 (by decide) (fun _ => ?_) (fun z => absurd z (by decide))
  refine jr_iload d_Mo_fits_191 rfl ?_
  refine jr_bipush ((nI (15))) d_Mo_fits_193 (by decide) ?_
  refine jr_icmp_eq 205 d_Mo_fits_195 (by decide) (fun z => absurd z (by decide)) (fun _ => ?_)
  refine jr_iload d_Mo_fits_198 rfl ?_
  refine jr_bipush ((nI (17))) d_Mo_fits_200 (by decide) ?_
  refine jr_icmp_ne 224 d_Mo_fits_202 (by decide) (fun _ => ?_) (fun z => absurd z (by decide))
  refine jr_iload d_Mo_fits_224 rfl ?_
  refine jr_bipush ((nI (16))) d_Mo_fits_226 (by decide) ?_
  refine jr_icmp_eq 238 d_Mo_fits_228 (by decide) (fun z => absurd z (by decide)) (fun _ => ?_)
  refine jr_iload d_Mo_fits_231 rfl ?_
  refine jr_bipush ((nI (25))) d_Mo_fits_233 (by decide) ?_
  refine jr_icmp_ne 245 d_Mo_fits_235 (by decide) (fun z => absurd rfl z) (fun _ => ?_)
  refine jr_aload_n d_Mo_fits_238 rfl ?_
  refine jr_iload d_Mo_fits_239 rfl ?_
  refine jr_callV (As := [.int (nI t)]) d_Mo_fits_241 k_Mo_fits_167 hO rfl rfl rfl (Nat.le_of_ble_eq_true rfl) (by decide) (by decide) (mo_isRef hl hO hw (by omega)) ?_
  show jl_W l G m_Mo_fits (0, 0) 244 [some (.ref 22), some (.int (nI m)), some (.int (nI pc)), some (.int (nI 0)), some (.int (nI t)), some (.int (nI 25)), some (.int (x)), none] [.int (bi (isR t))] (σ) (.inl (some (.int (bi (!isI (some t)))))) (σ)
  exact jr_zretE d_Mo_fits_244 rfl (bi_01 _) (bov (isR_v htv ht).symm) (rfl) (by decide) (by decide)
theorem mo_fit_25_1 (hl : l.stackTraces = false) {m pc : Nat} {x : Int32} {t : Nat} (hO : MoO σ fa vf wh wy hg dp md ov oh dn an) (hw : MoW σ tb pr ow ft hs) (hu : MoM σ u1 u2 ur ul uo ua uc us ut uk) (hok : WoOk tb pr ow fi) (hK : MoK u1 u2 ur ul uo uc us ut uk) (hm : m < 24) (hpc : pc < 24) (ho : uo (24 * m + pc) = 25) (hx : ua (24 * m + pc) = x) (ht : t < 16) (htv : t ≤ 2 ∨ 10 ≤ t) : jl_m l G m_Mo_fits [.ref 22, .int (nI m), .int (nI pc), .int (nI 1), .int (nI t)] σ (.inl (some (.int (bi (!isI (some t)))))) (σ) := by
  obtain ⟨h23, h24, h25, h26, h27⟩ := id hw
  obtain ⟨h28, h29, h30, h31, h32, h33, h34, h35, h36, h37⟩ := id hu
  obtain ⟨hk1, hk2, hk3, hk4, hk5, hk6⟩ := hK.1 m hm
  refine jl_of (as := [.ref 22, .int (nI m), .int (nI pc), .int (nI 1), .int (nI t)]) rfl (by decide) hl (jl_cc rfl (jl_cc rfl (jl_cc rfl (jl_cc rfl (jl_cc rfl jl_ca))))) (Nat.le_of_ble_eq_true rfl) ?_
  show jl_W l G m_Mo_fits (0, 0) 0 [some (.ref 22), some (.int (nI m)), some (.int (nI pc)), some (.int (nI 1)), some (.int (nI t)), none, none, none] [] (σ) (.inl (some (.int (bi (!isI (some t)))))) (σ)
  refine jr_aload_n d_Mo_fits_0 rfl ?_
  refine jr_getf d_Mo_fits_1 f_Mo_fits_38 hO rfl ?_
  refine jr_bipush ((nI (24))) d_Mo_fits_4 (by decide) ?_
  refine jr_iload_n d_Mo_fits_6 rfl ?_
  refine jr_imulN d_Mo_fits_7 ?_
  refine jr_iload_n d_Mo_fits_8 rfl ?_
  refine jr_iaddN d_Mo_fits_9 ?_
  refine jr_ialdQ (v := (nI (25))) d_Mo_fits_10 h32 (by omega) (by omega) (congrArg nI ho) ?_
  refine jr_istore d_Mo_fits_11 (by decide) ?_
  show jl_W l G m_Mo_fits (0, 0) 13 [some (.ref 22), some (.int (nI m)), some (.int (nI pc)), some (.int (nI 1)), some (.int (nI t)), some (.int (nI 25)), none, none] [] (σ) (.inl (some (.int (bi (!isI (some t)))))) (σ)
  refine jr_aload_n d_Mo_fits_13 rfl ?_
  refine jr_getf d_Mo_fits_14 f_Mo_fits_41 hO rfl ?_
  refine jr_bipush ((nI (24))) d_Mo_fits_17 (by decide) ?_
  refine jr_iload_n d_Mo_fits_19 rfl ?_
  refine jr_imulN d_Mo_fits_20 ?_
  refine jr_iload_n d_Mo_fits_21 rfl ?_
  refine jr_iaddN d_Mo_fits_22 ?_
  refine jr_ialdQ (v := (x)) d_Mo_fits_23 h33 (by omega) (by omega) (hx) ?_
  refine jr_istore d_Mo_fits_24 (by decide) ?_
  show jl_W l G m_Mo_fits (0, 0) 26 [some (.ref 22), some (.int (nI m)), some (.int (nI pc)), some (.int (nI 1)), some (.int (nI t)), some (.int (nI 25)), some (.int (x)), none] [] (σ) (.inl (some (.int (bi (!isI (some t)))))) (σ)
  refine jr_iload d_Mo_fits_26 rfl ?_
  refine jr_iconst ((nI (3))) d_Mo_fits_28 (by decide) ?_
  refine jr_icmp_lt 39 d_Mo_fits_29 (by decide) (fun z => absurd z (by decide)) (fun _ => ?_)
  refine jr_iload d_Mo_fits_32 rfl ?_
  refine jr_bipush ((nI (6))) d_Mo_fits_34 (by decide) ?_
  refine jr_icmp_le 60 d_Mo_fits_36 (by decide) (fun z => absurd z (by decide)) (fun _ => ?_)
  refine jr_iload d_Mo_fits_39 rfl ?_
  refine jr_bipush ((nI (8))) d_Mo_fits_41 (by decide) ?_
  refine jr_icmp_eq 60 d_Mo_fits_43 (by decide) (fun z => absurd z (by decide)) (fun _ => ?_)
  refine jr_iload d_Mo_fits_46 rfl ?_
  refine jr_bipush ((nI (9))) d_Mo_fits_48 (by decide) ?_
  refine jr_icmp_eq 60 d_Mo_fits_50 (by decide) (fun z => absurd z (by decide)) (fun _ => ?_)
  refine jr_iload d_Mo_fits_53 rfl ?_
  refine jr_bipush ((nI (19))) d_Mo_fits_55 (by decide) ?_
  refine jr_icmp_ne 71 d_Mo_fits_57 (by decide) (fun _ => ?_) (fun z => absurd z (by decide))
  refine jr_iload d_Mo_fits_71 rfl ?_
  refine jr_bipush ((nI (12))) d_Mo_fits_73 (by decide) ?_
  refine jr_icmp_eq 85 d_Mo_fits_75 (by decide) (fun z => absurd z (by decide)) (fun _ => ?_)
  refine jr_iload d_Mo_fits_78 rfl ?_
  refine jr_bipush ((nI (13))) d_Mo_fits_80 (by decide) ?_
  refine jr_icmp_ne 127 d_Mo_fits_82 (by decide) (fun _ => ?_) (fun z => absurd z (by decide))
  refine jr_iload d_Mo_fits_127 rfl ?_
  refine jr_bipush ((nI (14))) d_Mo_fits_129 (by decide) ?_
  refine jr_icmp_ne 191 d_Mo_fits_131 (by decide) (fun _ => ?_) (fun z => absurd z (by decide))
  refine jr_iload d_Mo_fits_191 rfl ?_
  refine jr_bipush ((nI (15))) d_Mo_fits_193 (by decide) ?_
  refine jr_icmp_eq 205 d_Mo_fits_195 (by decide) (fun z => absurd z (by decide)) (fun _ => ?_)
  refine jr_iload d_Mo_fits_198 rfl ?_
  refine jr_bipush ((nI (17))) d_Mo_fits_200 (by decide) ?_
  refine jr_icmp_ne 224 d_Mo_fits_202 (by decide) (fun _ => ?_) (fun z => absurd z (by decide))
  refine jr_iload d_Mo_fits_224 rfl ?_
  refine jr_bipush ((nI (16))) d_Mo_fits_226 (by decide) ?_
  refine jr_icmp_eq 238 d_Mo_fits_228 (by decide) (fun z => absurd z (by decide)) (fun _ => ?_)
  refine jr_iload d_Mo_fits_231 rfl ?_
  refine jr_bipush ((nI (25))) d_Mo_fits_233 (by decide) ?_
  refine jr_icmp_ne 245 d_Mo_fits_235 (by decide) (fun z => absurd rfl z) (fun _ => ?_)
  refine jr_aload_n d_Mo_fits_238 rfl ?_
  refine jr_iload d_Mo_fits_239 rfl ?_
  refine jr_callV (As := [.int (nI t)]) d_Mo_fits_241 k_Mo_fits_167 hO rfl rfl rfl (Nat.le_of_ble_eq_true rfl) (by decide) (by decide) (mo_isRef hl hO hw (by omega)) ?_
  show jl_W l G m_Mo_fits (0, 0) 244 [some (.ref 22), some (.int (nI m)), some (.int (nI pc)), some (.int (nI 1)), some (.int (nI t)), some (.int (nI 25)), some (.int (x)), none] [.int (bi (isR t))] (σ) (.inl (some (.int (bi (!isI (some t)))))) (σ)
  exact jr_zretE d_Mo_fits_244 rfl (bi_01 _) (bov (isR_v htv ht).symm) (rfl) (by decide) (by decide)
end JMh
