/-! the model: pass (wip/gen/p81.py) -/
section JMx
variable {l : Launch} {G : jl_G} {σ : jl_S}
variable {tb : Nat → Bool} {pr : Nat → Option Nat} {ow fi ft : Nat → Nat} {hs : Nat → Bool} {fa vf wh wy hg dp md ov oh dn an : Int32}
variable {u1 u2 : Nat → Option Nat} {ur ul uo : Nat → Nat} {ua : Nat → Int32} {uc us ut uk : Nat → Nat}
variable {lo sk kp : Rw} {mm : Nat → Int32} {fm : Nat → Bool}
variable {sg : Int32 → Option Sg}
theorem d_Mo_pass_0 : decode m_Mo_pass.2.1 0 = .ok (.aload_n 0, 1) := by decide +kernel
theorem f_Mo_pass_38 : jl_fd m_Mo_pass 38 7 10 = true := by decide +kernel
theorem d_Mo_pass_1 : decode m_Mo_pass.2.1 1 = .ok (.getfield 38, 3) := by decide +kernel
theorem d_Mo_pass_4 : decode m_Mo_pass.2.1 4 = .ok (.bipush 24, 2) := by decide +kernel
theorem d_Mo_pass_6 : decode m_Mo_pass.2.1 6 = .ok (.iload_n 1, 1) := by decide +kernel
theorem d_Mo_pass_7 : decode m_Mo_pass.2.1 7 = .ok (.imul, 1) := by decide +kernel
theorem d_Mo_pass_8 : decode m_Mo_pass.2.1 8 = .ok (.iload_n 2, 1) := by decide +kernel
theorem d_Mo_pass_9 : decode m_Mo_pass.2.1 9 = .ok (.iadd, 1) := by decide +kernel
theorem d_Mo_pass_10 : decode m_Mo_pass.2.1 10 = .ok (.iaload, 1) := by decide +kernel
theorem d_Mo_pass_11 : decode m_Mo_pass.2.1 11 = .ok (.istore_n 3, 1) := by decide +kernel
theorem d_Mo_pass_12 : decode m_Mo_pass.2.1 12 = .ok (.aload_n 0, 1) := by decide +kernel
theorem f_Mo_pass_41 : jl_fd m_Mo_pass 41 7 11 = true := by decide +kernel
theorem d_Mo_pass_13 : decode m_Mo_pass.2.1 13 = .ok (.getfield 41, 3) := by decide +kernel
theorem d_Mo_pass_16 : decode m_Mo_pass.2.1 16 = .ok (.bipush 24, 2) := by decide +kernel
theorem d_Mo_pass_18 : decode m_Mo_pass.2.1 18 = .ok (.iload_n 1, 1) := by decide +kernel
theorem d_Mo_pass_19 : decode m_Mo_pass.2.1 19 = .ok (.imul, 1) := by decide +kernel
theorem d_Mo_pass_20 : decode m_Mo_pass.2.1 20 = .ok (.iload_n 2, 1) := by decide +kernel
theorem d_Mo_pass_21 : decode m_Mo_pass.2.1 21 = .ok (.iadd, 1) := by decide +kernel
theorem d_Mo_pass_22 : decode m_Mo_pass.2.1 22 = .ok (.iaload, 1) := by decide +kernel
theorem d_Mo_pass_23 : decode m_Mo_pass.2.1 23 = .ok (.istore 4, 2) := by decide +kernel
theorem d_Mo_pass_25 : decode m_Mo_pass.2.1 25 = .ok (.aload_n 0, 1) := by decide +kernel
theorem f_Mo_pass_179 : jl_fd m_Mo_pass 179 7 23 = true := by decide +kernel
theorem d_Mo_pass_26 : decode m_Mo_pass.2.1 26 = .ok (.getfield 179, 3) := by decide +kernel
theorem d_Mo_pass_29 : decode m_Mo_pass.2.1 29 = .ok (.ifCond .le 17, 3) := by decide +kernel
theorem d_Mo_pass_46 : decode m_Mo_pass.2.1 46 = .ok (.iconst (-1), 1) := by decide +kernel
theorem d_Mo_pass_47 : decode m_Mo_pass.2.1 47 = .ok (.istore 5, 2) := by decide +kernel
theorem d_Mo_pass_49 : decode m_Mo_pass.2.1 49 = .ok (.aload_n 0, 1) := by decide +kernel
theorem d_Mo_pass_50 : decode m_Mo_pass.2.1 50 = .ok (.dup, 1) := by decide +kernel
theorem d_Mo_pass_51 : decode m_Mo_pass.2.1 51 = .ok (.getfield 179, 3) := by decide +kernel
theorem d_Mo_pass_54 : decode m_Mo_pass.2.1 54 = .ok (.aload_n 0, 1) := by decide +kernel
theorem d_Mo_pass_55 : decode m_Mo_pass.2.1 55 = .ok (.iload_n 3, 1) := by decide +kernel
theorem d_Mo_pass_56 : decode m_Mo_pass.2.1 56 = .ok (.iload 4, 2) := by decide +kernel
theorem k_Mo_pass_176 : jl_cv m_Mo_pass m_Mo_takes 176 2 = true := by decide +kernel
theorem d_Mo_pass_58 : decode m_Mo_pass.2.1 58 = .ok (.invokevirtual 176, 3) := by decide +kernel
theorem d_Mo_pass_61 : decode m_Mo_pass.2.1 61 = .ok (.isub, 1) := by decide +kernel
theorem p_Mo_pass_179 : jl_fp m_Mo_pass 179 7 23 = true := by decide +kernel
theorem d_Mo_pass_62 : decode m_Mo_pass.2.1 62 = .ok (.putfield 179, 3) := by decide +kernel
theorem d_Mo_pass_65 : decode m_Mo_pass.2.1 65 = .ok (.iload_n 3, 1) := by decide +kernel
theorem d_Mo_pass_66 : decode m_Mo_pass.2.1 66 = .ok (.iconst 2, 1) := by decide +kernel
theorem d_Mo_pass_67 : decode m_Mo_pass.2.1 67 = .ok (.if_icmp .ne 12, 3) := by decide +kernel
theorem d_Mo_pass_79 : decode m_Mo_pass.2.1 79 = .ok (.iload_n 3, 1) := by decide +kernel
theorem d_Mo_pass_80 : decode m_Mo_pass.2.1 80 = .ok (.iconst 1, 1) := by decide +kernel
theorem d_Mo_pass_81 : decode m_Mo_pass.2.1 81 = .ok (.if_icmp .ne 17, 3) := by decide +kernel
theorem d_Mo_pass_98 : decode m_Mo_pass.2.1 98 = .ok (.iload_n 3, 1) := by decide +kernel
theorem d_Mo_pass_99 : decode m_Mo_pass.2.1 99 = .ok (.bipush 10, 2) := by decide +kernel
theorem d_Mo_pass_101 : decode m_Mo_pass.2.1 101 = .ok (.if_icmp .ne 11, 3) := by decide +kernel
theorem d_Mo_pass_112 : decode m_Mo_pass.2.1 112 = .ok (.iload_n 3, 1) := by decide +kernel
theorem d_Mo_pass_113 : decode m_Mo_pass.2.1 113 = .ok (.bipush 11, 2) := by decide +kernel
theorem d_Mo_pass_115 : decode m_Mo_pass.2.1 115 = .ok (.if_icmp .eq 9, 3) := by decide +kernel
theorem d_Mo_pass_118 : decode m_Mo_pass.2.1 118 = .ok (.iload_n 3, 1) := by decide +kernel
theorem d_Mo_pass_119 : decode m_Mo_pass.2.1 119 = .ok (.bipush 15, 2) := by decide +kernel
theorem d_Mo_pass_121 : decode m_Mo_pass.2.1 121 = .ok (.if_icmp .ne 15, 3) := by decide +kernel
theorem d_Mo_pass_136 : decode m_Mo_pass.2.1 136 = .ok (.iload_n 3, 1) := by decide +kernel
theorem d_Mo_pass_137 : decode m_Mo_pass.2.1 137 = .ok (.bipush 12, 2) := by decide +kernel
theorem d_Mo_pass_139 : decode m_Mo_pass.2.1 139 = .ok (.if_icmp .ne 24, 3) := by decide +kernel
theorem d_Mo_pass_163 : decode m_Mo_pass.2.1 163 = .ok (.iload_n 3, 1) := by decide +kernel
theorem d_Mo_pass_164 : decode m_Mo_pass.2.1 164 = .ok (.bipush 14, 2) := by decide +kernel
theorem d_Mo_pass_166 : decode m_Mo_pass.2.1 166 = .ok (.if_icmp .ne 27, 3) := by decide +kernel
theorem d_Mo_pass_193 : decode m_Mo_pass.2.1 193 = .ok (.iload_n 3, 1) := by decide +kernel
theorem d_Mo_pass_194 : decode m_Mo_pass.2.1 194 = .ok (.bipush 19, 2) := by decide +kernel
theorem d_Mo_pass_196 : decode m_Mo_pass.2.1 196 = .ok (.if_icmp .ne 11, 3) := by decide +kernel
theorem d_Mo_pass_207 : decode m_Mo_pass.2.1 207 = .ok (.iload_n 3, 1) := by decide +kernel
theorem d_Mo_pass_208 : decode m_Mo_pass.2.1 208 = .ok (.bipush 24, 2) := by decide +kernel
theorem d_Mo_pass_210 : decode m_Mo_pass.2.1 210 = .ok (.if_icmp .ne 18, 3) := by decide +kernel
theorem d_Mo_pass_228 : decode m_Mo_pass.2.1 228 = .ok (.aload_n 0, 1) := by decide +kernel
theorem d_Mo_pass_229 : decode m_Mo_pass.2.1 229 = .ok (.iload_n 3, 1) := by decide +kernel
theorem k_Mo_pass_182 : jl_cv m_Mo_pass m_Mo_puts 182 1 = true := by decide +kernel
theorem d_Mo_pass_230 : decode m_Mo_pass.2.1 230 = .ok (.invokevirtual 182, 3) := by decide +kernel
theorem d_Mo_pass_233 : decode m_Mo_pass.2.1 233 = .ok (.iconst 1, 1) := by decide +kernel
theorem d_Mo_pass_234 : decode m_Mo_pass.2.1 234 = .ok (.if_icmp .ne 8, 3) := by decide +kernel
theorem d_Mo_pass_237 : decode m_Mo_pass.2.1 237 = .ok (.aload_n 0, 1) := by decide +kernel
theorem d_Mo_pass_238 : decode m_Mo_pass.2.1 238 = .ok (.iconst 0, 1) := by decide +kernel
theorem k_Mo_pass_192 : jl_cv m_Mo_pass m_Mo_push 192 1 = true := by decide +kernel
theorem d_Mo_pass_239 : decode m_Mo_pass.2.1 239 = .ok (.invokevirtual 192, 3) := by decide +kernel
theorem d_Mo_pass_242 : decode m_Mo_pass.2.1 242 = .ok (.return_, 1) := by decide +kernel
theorem d_Mo_pass_32 : decode m_Mo_pass.2.1 32 = .ok (.aload_n 0, 1) := by decide +kernel
theorem f_Mo_pass_72 : jl_fd m_Mo_pass 72 7 22 = true := by decide +kernel
theorem d_Mo_pass_33 : decode m_Mo_pass.2.1 33 = .ok (.getfield 72, 3) := by decide +kernel
theorem d_Mo_pass_36 : decode m_Mo_pass.2.1 36 = .ok (.aload_n 0, 1) := by decide +kernel
theorem d_Mo_pass_37 : decode m_Mo_pass.2.1 37 = .ok (.getfield 179, 3) := by decide +kernel
theorem d_Mo_pass_40 : decode m_Mo_pass.2.1 40 = .ok (.iconst 1, 1) := by decide +kernel
theorem d_Mo_pass_41 : decode m_Mo_pass.2.1 41 = .ok (.isub, 1) := by decide +kernel
theorem d_Mo_pass_42 : decode m_Mo_pass.2.1 42 = .ok (.iaload, 1) := by decide +kernel
theorem d_Mo_pass_43 : decode m_Mo_pass.2.1 43 = .ok (.goto 4, 3) := by decide +kernel
theorem mo_pass_0 (hl : l.stackTraces = false) {P : jl_O → jl_S → Prop} {m pc h : Nat} {r : Rw} {x : Int32} (hmb : MB σ tb pr ow ft hs u1 u2 ur ul uo ua uc us ut uk fa vf wh wy (nI h) dp md ov oh dn an lo sk kp mm fm) (hok : WoOk tb pr ow fi) (hK : MoK u1 u2 ur ul uo uc us ut uk) (hm : m < 24) (hpc : pc < 24) (ho : uo (24 * m + pc) = 0) (hx : ua (24 * m + pc) = x) (hrl : RlM r lo sk h) (hrv : rv r h) (hlo : ∀ j, ob 16 (lo j)) (hsk : ∀ j, ob 16 (sk j)) (htk : 0 ≤ h) (hp5 : h - 0 + 1 ≤ 5) (hT : ∀ lo' sk' σ', RlM (psh (low r h 0) (h - 0) (some 0)) lo' sk' (h - 0 + 1) → (∀ j, ob 16 (lo' j)) → (∀ j, ob 16 (sk' j)) → MB σ' tb pr ow ft hs u1 u2 ur ul uo ua uc us ut uk fa vf wh wy (nI (h - 0 + 1)) dp md ov oh dn an lo' sk' kp mm fm → FrM σ σ' → P (.inl none) σ') : jl_mE l G m_Mo_pass [.ref 22, .int (nI m), .int (nI pc)] σ P := by
  obtain ⟨hO, hw, hu, hr, hkp, hmp, hfm⟩ := id hmb; obtain ⟨r1, r2⟩ := id hr
  obtain ⟨h23, h24, h25, h26, h27⟩ := id hw
  obtain ⟨h28, h29, h30, h31, h32, h33, h34, h35, h36, h37⟩ := id hu
  obtain ⟨hk1, hk2, hk3, hk4, hk5, hk6⟩ := hK.1 m hm
  have hh5 := hrv.2.1
  refine jl_ofE (as := [.ref 22, .int (nI m), .int (nI pc)]) rfl (by decide) hl (jl_cc rfl (jl_cc rfl (jl_cc rfl jl_ca))) (Nat.le_of_ble_eq_true rfl) ?_
  show jl_E l G m_Mo_pass (0, 0) 0 [some (.ref 22), some (.int (nI m)), some (.int (nI pc)), none, none, none] [] (σ) P
  refine er_aload_n d_Mo_pass_0 rfl ?_
  refine er_getf d_Mo_pass_1 f_Mo_pass_38 hO rfl ?_
  refine er_bipush ((nI (24))) d_Mo_pass_4 (by decide) ?_
  refine er_iload_n d_Mo_pass_6 rfl ?_
  refine er_imulN d_Mo_pass_7 ?_
  refine er_iload_n d_Mo_pass_8 rfl ?_
  refine er_iaddN d_Mo_pass_9 ?_
  refine er_ialdQ (v := (nI (0))) d_Mo_pass_10 h32 (by omega) (by omega) (congrArg nI ho) ?_
  refine er_istore_n d_Mo_pass_11 (by decide) ?_
  show jl_E l G m_Mo_pass (0, 0) 12 [some (.ref 22), some (.int (nI m)), some (.int (nI pc)), some (.int (nI 0)), none, none] [] (σ) P
  refine er_aload_n d_Mo_pass_12 rfl ?_
  refine er_getf d_Mo_pass_13 f_Mo_pass_41 hO rfl ?_
  refine er_bipush ((nI (24))) d_Mo_pass_16 (by decide) ?_
  refine er_iload_n d_Mo_pass_18 rfl ?_
  refine er_imulN d_Mo_pass_19 ?_
  refine er_iload_n d_Mo_pass_20 rfl ?_
  refine er_iaddN d_Mo_pass_21 ?_
  refine er_ialdQ (v := (x)) d_Mo_pass_22 h33 (by omega) (by omega) (hx) ?_
  refine er_istore d_Mo_pass_23 (by decide) ?_
  show jl_E l G m_Mo_pass (0, 0) 25 [some (.ref 22), some (.int (nI m)), some (.int (nI pc)), some (.int (nI 0)), some (.int (x)), none] [] (σ) P
  refine er_aload_n d_Mo_pass_25 rfl ?_
  refine er_getf d_Mo_pass_26 f_Mo_pass_179 hO rfl ?_
  refine er_if_leN 46 d_Mo_pass_29 (by decide) (by omega) (fun c1 => ?_) (fun c1 => ?_)
  · refine er_iconst ((-1)) d_Mo_pass_46 (by decide) ?_
    refine er_istore d_Mo_pass_47 (by decide) ?_
    show jl_E l G m_Mo_pass (0, 0) 49 [some (.ref 22), some (.int (nI m)), some (.int (nI pc)), some (.int (nI 0)), some (.int (x)), some (.int (-1))] [] (σ) P
    have htp : topO r h = none := by unfold topO; rw [if_pos (by omega)]
    rw [show (-1 : Int32) = en (topO r h) by rw [htp]; rfl]
    show jl_E l G m_Mo_pass (0, 0) 49 [some (.ref 22), some (.int (nI m)), some (.int (nI pc)), some (.int (nI 0)), some (.int (x)), some (.int (en (topO r h)))] [] (σ) P
    refine er_aload_n d_Mo_pass_49 rfl ?_
    refine er_dup d_Mo_pass_50 rfl ?_
    refine er_getf d_Mo_pass_51 f_Mo_pass_179 hO rfl ?_
    refine er_aload_n d_Mo_pass_54 rfl ?_
    refine er_iload_n d_Mo_pass_55 rfl ?_
    refine er_iload d_Mo_pass_56 rfl ?_
    refine er_callV (As := [.int (nI 0), .int (x)]) d_Mo_pass_58 k_Mo_pass_176 hO rfl rfl rfl (Nat.le_of_ble_eq_true rfl) (by decide) (by decide) (mo_tk_0 hl hO hw hu) ?_
    show jl_E l G m_Mo_pass (0, 0) 61 [some (.ref 22), some (.int (nI m)), some (.int (nI pc)), some (.int (nI 0)), some (.int (x)), some (.int (en (topO r h)))] [.int (nI 0), .int (nI h), .ref 22] (σ) P
    refine er_isubN d_Mo_pass_61 (by omega) ?_
    refine er_putf d_Mo_pass_62 p_Mo_pass_179 hO (Nat.le_of_ble_eq_true rfl) jl_fit_int ?_
    show jl_E l G m_Mo_pass (0, 0) 65 [some (.ref 22), some (.int (nI m)), some (.int (nI pc)), some (.int (nI 0)), some (.int (x)), some (.int (en (topO r h)))] [] (σ.set (22) (.inr (7, [.int (fa), .ref 23, .ref 24, .ref 25, .ref 26, .ref 27, .ref 28, .ref 29, .ref 30, .ref 31, .ref 32, .ref 33, .ref 34, .ref 35, .ref 36, .ref 37, .int (vf), .int (wh), .int (wy), .ref 38, .ref 39, .ref 40, .ref 41, .int (nI ((h) - (0))), .ref 42, .ref 43, .ref 44, .ref 45, .ref 46, .ref 47, .ref 48, .ref 49, .int (dp), .ref 50, .ref 51, .ref 52, .int (md), .int (ov), .int (oh), .int (dn), .int (an)]))) P
    refine er_iload_n d_Mo_pass_65 rfl ?_
    refine er_iconst ((nI (2))) d_Mo_pass_66 (by decide) ?_
    refine er_icmp_ne 79 d_Mo_pass_67 (by decide) (fun _ => ?_) (fun z => absurd z (by decide))
    refine er_iload_n d_Mo_pass_79 rfl ?_
    refine er_iconst ((nI (1))) d_Mo_pass_80 (by decide) ?_
    refine er_icmp_ne 98 d_Mo_pass_81 (by decide) (fun _ => ?_) (fun z => absurd z (by decide))
    refine er_iload_n d_Mo_pass_98 rfl ?_
    refine er_bipush ((nI (10))) d_Mo_pass_99 (by decide) ?_
    refine er_icmp_ne 112 d_Mo_pass_101 (by decide) (fun _ => ?_) (fun z => absurd z (by decide))
    refine er_iload_n d_Mo_pass_112 rfl ?_
    refine er_bipush ((nI (11))) d_Mo_pass_113 (by decide) ?_
    refine er_icmp_eq 124 d_Mo_pass_115 (by decide) (fun z => absurd z (by decide)) (fun _ => ?_)
    refine er_iload_n d_Mo_pass_118 rfl ?_
    refine er_bipush ((nI (15))) d_Mo_pass_119 (by decide) ?_
    refine er_icmp_ne 136 d_Mo_pass_121 (by decide) (fun _ => ?_) (fun z => absurd z (by decide))
    refine er_iload_n d_Mo_pass_136 rfl ?_
    refine er_bipush ((nI (12))) d_Mo_pass_137 (by decide) ?_
    refine er_icmp_ne 163 d_Mo_pass_139 (by decide) (fun _ => ?_) (fun z => absurd z (by decide))
    refine er_iload_n d_Mo_pass_163 rfl ?_
    refine er_bipush ((nI (14))) d_Mo_pass_164 (by decide) ?_
    refine er_icmp_ne 193 d_Mo_pass_166 (by decide) (fun _ => ?_) (fun z => absurd z (by decide))
    refine er_iload_n d_Mo_pass_193 rfl ?_
    refine er_bipush ((nI (19))) d_Mo_pass_194 (by decide) ?_
    refine er_icmp_ne 207 d_Mo_pass_196 (by decide) (fun _ => ?_) (fun z => absurd z (by decide))
    refine er_iload_n d_Mo_pass_207 rfl ?_
    refine er_bipush ((nI (24))) d_Mo_pass_208 (by decide) ?_
    refine er_icmp_ne 228 d_Mo_pass_210 (by decide) (fun _ => ?_) (fun z => absurd z (by decide))
    refine er_aload_n d_Mo_pass_228 rfl ?_
    refine er_iload_n d_Mo_pass_229 rfl ?_
    refine er_callV (As := [.int (nI 0)]) d_Mo_pass_230 k_Mo_pass_182 (jl_ss hO) rfl rfl rfl (Nat.le_of_ble_eq_true rfl) (by decide) (by decide) (mo_puts hl (hmb.s22).1 (hmb.s22).2.1 (by omega)) ?_
    show jl_E l G m_Mo_pass (0, 0) 233 [some (.ref 22), some (.int (nI m)), some (.int (nI pc)), some (.int (nI 0)), some (.int (x)), some (.int (en (topO r h)))] [.int (nI 1)] (σ.set (22) (.inr (7, [.int (fa), .ref 23, .ref 24, .ref 25, .ref 26, .ref 27, .ref 28, .ref 29, .ref 30, .ref 31, .ref 32, .ref 33, .ref 34, .ref 35, .ref 36, .ref 37, .int (vf), .int (wh), .int (wy), .ref 38, .ref 39, .ref 40, .ref 41, .int (nI ((h) - (0))), .ref 42, .ref 43, .ref 44, .ref 45, .ref 46, .ref 47, .ref 48, .ref 49, .int (dp), .ref 50, .ref 51, .ref 52, .int (md), .int (ov), .int (oh), .int (dn), .int (an)]))) P
    refine er_iconst ((nI (1))) d_Mo_pass_233 (by decide) ?_
    refine er_icmp_ne 242 d_Mo_pass_234 (by decide) (fun z => absurd rfl z) (fun _ => ?_)
    refine er_aload_n d_Mo_pass_237 rfl ?_
    refine er_iconst ((nI (0))) d_Mo_pass_238 (by decide) ?_
    refine er_callV (As := [.int (nI 0)]) d_Mo_pass_239 k_Mo_pass_192 (jl_ss hO) rfl rfl rfl (Nat.le_of_ble_eq_true rfl) (by decide) (by decide) (mo_push (h := (h) - (0)) (t := (some 0)) hl (hmb.s22).1 (hmb.s22).2.2.2.1.2 (by omega)) ?_
    show jl_E l G m_Mo_pass (0, 0) 242 [some (.ref 22), some (.int (nI m)), some (.int (nI pc)), some (.int (nI 0)), some (.int (x)), some (.int (en (topO r h)))] [] (((σ.set (22) (.inr (7, [.int (fa), .ref 23, .ref 24, .ref 25, .ref 26, .ref 27, .ref 28, .ref 29, .ref 30, .ref 31, .ref 32, .ref 33, .ref 34, .ref 35, .ref 36, .ref 37, .int (vf), .int (wh), .int (wy), .ref 38, .ref 39, .ref 40, .ref 41, .int (nI ((h) - (0))), .ref 42, .ref 43, .ref 44, .ref 45, .ref 46, .ref 47, .ref 48, .ref 49, .int (dp), .ref 50, .ref 51, .ref 52, .int (md), .int (ov), .int (oh), .int (dn), .int (an)]))).set (41) (.inl (0, 8, .inl (fun j => en ((va_up sk ((h) - (0)) (some 0)) j))))).set (22) (.inr (7, [.int (fa), .ref 23, .ref 24, .ref 25, .ref 26, .ref 27, .ref 28, .ref 29, .ref 30, .ref 31, .ref 32, .ref 33, .ref 34, .ref 35, .ref 36, .ref 37, .int (vf), .int (wh), .int (wy), .ref 38, .ref 39, .ref 40, .ref 41, .int (nI ((h) - (0) + 1)), .ref 42, .ref 43, .ref 44, .ref 45, .ref 46, .ref 47, .ref 48, .ref 49, .int (dp), .ref 50, .ref 51, .ref 52, .int (md), .int (ov), .int (oh), .int (dn), .int (an)]))) P
    exact er_vret d_Mo_pass_242 rfl (hT _ _ _ (hrl.low htk).psh hlo (ob_up hsk (ob_s (by omega))) (hmb.s22.s41.s22) (((FrM.refl.set (by omega)).set (by omega)).set (by omega))) (by decide) (by decide)
  · refine er_aload_n d_Mo_pass_32 rfl ?_
    refine er_getf d_Mo_pass_33 f_Mo_pass_72 hO rfl ?_
    refine er_aload_n d_Mo_pass_36 rfl ?_
    refine er_getf d_Mo_pass_37 f_Mo_pass_179 hO rfl ?_
    refine er_iconst ((nI (1))) d_Mo_pass_40 (by decide) ?_
    refine er_isubN d_Mo_pass_41 (by omega) ?_
    refine er_ialdQ (v := (en (topO r h))) d_Mo_pass_42 r2 (by omega) (by omega) (congrArg en (show sk (h - 1) = topO r h by unfold topO; rw [if_neg (by omega), hrl.2 (h - 1) (by omega)]; congr 1; omega)) ?_
    refine er_goto 47 d_Mo_pass_43 (by decide) ?_
    refine er_istore d_Mo_pass_47 (by decide) ?_
    show jl_E l G m_Mo_pass (0, 0) 49 [some (.ref 22), some (.int (nI m)), some (.int (nI pc)), some (.int (nI 0)), some (.int (x)), some (.int (en (topO r h)))] [] (σ) P
    refine er_aload_n d_Mo_pass_49 rfl ?_
    refine er_dup d_Mo_pass_50 rfl ?_
    refine er_getf d_Mo_pass_51 f_Mo_pass_179 hO rfl ?_
    refine er_aload_n d_Mo_pass_54 rfl ?_
    refine er_iload_n d_Mo_pass_55 rfl ?_
    refine er_iload d_Mo_pass_56 rfl ?_
    refine er_callV (As := [.int (nI 0), .int (x)]) d_Mo_pass_58 k_Mo_pass_176 hO rfl rfl rfl (Nat.le_of_ble_eq_true rfl) (by decide) (by decide) (mo_tk_0 hl hO hw hu) ?_
    show jl_E l G m_Mo_pass (0, 0) 61 [some (.ref 22), some (.int (nI m)), some (.int (nI pc)), some (.int (nI 0)), some (.int (x)), some (.int (en (topO r h)))] [.int (nI 0), .int (nI h), .ref 22] (σ) P
    refine er_isubN d_Mo_pass_61 (by omega) ?_
    refine er_putf d_Mo_pass_62 p_Mo_pass_179 hO (Nat.le_of_ble_eq_true rfl) jl_fit_int ?_
    show jl_E l G m_Mo_pass (0, 0) 65 [some (.ref 22), some (.int (nI m)), some (.int (nI pc)), some (.int (nI 0)), some (.int (x)), some (.int (en (topO r h)))] [] (σ.set (22) (.inr (7, [.int (fa), .ref 23, .ref 24, .ref 25, .ref 26, .ref 27, .ref 28, .ref 29, .ref 30, .ref 31, .ref 32, .ref 33, .ref 34, .ref 35, .ref 36, .ref 37, .int (vf), .int (wh), .int (wy), .ref 38, .ref 39, .ref 40, .ref 41, .int (nI ((h) - (0))), .ref 42, .ref 43, .ref 44, .ref 45, .ref 46, .ref 47, .ref 48, .ref 49, .int (dp), .ref 50, .ref 51, .ref 52, .int (md), .int (ov), .int (oh), .int (dn), .int (an)]))) P
    refine er_iload_n d_Mo_pass_65 rfl ?_
    refine er_iconst ((nI (2))) d_Mo_pass_66 (by decide) ?_
    refine er_icmp_ne 79 d_Mo_pass_67 (by decide) (fun _ => ?_) (fun z => absurd z (by decide))
    refine er_iload_n d_Mo_pass_79 rfl ?_
    refine er_iconst ((nI (1))) d_Mo_pass_80 (by decide) ?_
    refine er_icmp_ne 98 d_Mo_pass_81 (by decide) (fun _ => ?_) (fun z => absurd z (by decide))
    refine er_iload_n d_Mo_pass_98 rfl ?_
    refine er_bipush ((nI (10))) d_Mo_pass_99 (by decide) ?_
    refine er_icmp_ne 112 d_Mo_pass_101 (by decide) (fun _ => ?_) (fun z => absurd z (by decide))
    refine er_iload_n d_Mo_pass_112 rfl ?_
    refine er_bipush ((nI (11))) d_Mo_pass_113 (by decide) ?_
    refine er_icmp_eq 124 d_Mo_pass_115 (by decide) (fun z => absurd z (by decide)) (fun _ => ?_)
    refine er_iload_n d_Mo_pass_118 rfl ?_
    refine er_bipush ((nI (15))) d_Mo_pass_119 (by decide) ?_
    refine er_icmp_ne 136 d_Mo_pass_121 (by decide) (fun _ => ?_) (fun z => absurd z (by decide))
    refine er_iload_n d_Mo_pass_136 rfl ?_
    refine er_bipush ((nI (12))) d_Mo_pass_137 (by decide) ?_
    refine er_icmp_ne 163 d_Mo_pass_139 (by decide) (fun _ => ?_) (fun z => absurd z (by decide))
    refine er_iload_n d_Mo_pass_163 rfl ?_
    refine er_bipush ((nI (14))) d_Mo_pass_164 (by decide) ?_
    refine er_icmp_ne 193 d_Mo_pass_166 (by decide) (fun _ => ?_) (fun z => absurd z (by decide))
    refine er_iload_n d_Mo_pass_193 rfl ?_
    refine er_bipush ((nI (19))) d_Mo_pass_194 (by decide) ?_
    refine er_icmp_ne 207 d_Mo_pass_196 (by decide) (fun _ => ?_) (fun z => absurd z (by decide))
    refine er_iload_n d_Mo_pass_207 rfl ?_
    refine er_bipush ((nI (24))) d_Mo_pass_208 (by decide) ?_
    refine er_icmp_ne 228 d_Mo_pass_210 (by decide) (fun _ => ?_) (fun z => absurd z (by decide))
    refine er_aload_n d_Mo_pass_228 rfl ?_
    refine er_iload_n d_Mo_pass_229 rfl ?_
    refine er_callV (As := [.int (nI 0)]) d_Mo_pass_230 k_Mo_pass_182 (jl_ss hO) rfl rfl rfl (Nat.le_of_ble_eq_true rfl) (by decide) (by decide) (mo_puts hl (hmb.s22).1 (hmb.s22).2.1 (by omega)) ?_
    show jl_E l G m_Mo_pass (0, 0) 233 [some (.ref 22), some (.int (nI m)), some (.int (nI pc)), some (.int (nI 0)), some (.int (x)), some (.int (en (topO r h)))] [.int (nI 1)] (σ.set (22) (.inr (7, [.int (fa), .ref 23, .ref 24, .ref 25, .ref 26, .ref 27, .ref 28, .ref 29, .ref 30, .ref 31, .ref 32, .ref 33, .ref 34, .ref 35, .ref 36, .ref 37, .int (vf), .int (wh), .int (wy), .ref 38, .ref 39, .ref 40, .ref 41, .int (nI ((h) - (0))), .ref 42, .ref 43, .ref 44, .ref 45, .ref 46, .ref 47, .ref 48, .ref 49, .int (dp), .ref 50, .ref 51, .ref 52, .int (md), .int (ov), .int (oh), .int (dn), .int (an)]))) P
    refine er_iconst ((nI (1))) d_Mo_pass_233 (by decide) ?_
    refine er_icmp_ne 242 d_Mo_pass_234 (by decide) (fun z => absurd rfl z) (fun _ => ?_)
    refine er_aload_n d_Mo_pass_237 rfl ?_
    refine er_iconst ((nI (0))) d_Mo_pass_238 (by decide) ?_
    refine er_callV (As := [.int (nI 0)]) d_Mo_pass_239 k_Mo_pass_192 (jl_ss hO) rfl rfl rfl (Nat.le_of_ble_eq_true rfl) (by decide) (by decide) (mo_push (h := (h) - (0)) (t := (some 0)) hl (hmb.s22).1 (hmb.s22).2.2.2.1.2 (by omega)) ?_
    show jl_E l G m_Mo_pass (0, 0) 242 [some (.ref 22), some (.int (nI m)), some (.int (nI pc)), some (.int (nI 0)), some (.int (x)), some (.int (en (topO r h)))] [] (((σ.set (22) (.inr (7, [.int (fa), .ref 23, .ref 24, .ref 25, .ref 26, .ref 27, .ref 28, .ref 29, .ref 30, .ref 31, .ref 32, .ref 33, .ref 34, .ref 35, .ref 36, .ref 37, .int (vf), .int (wh), .int (wy), .ref 38, .ref 39, .ref 40, .ref 41, .int (nI ((h) - (0))), .ref 42, .ref 43, .ref 44, .ref 45, .ref 46, .ref 47, .ref 48, .ref 49, .int (dp), .ref 50, .ref 51, .ref 52, .int (md), .int (ov), .int (oh), .int (dn), .int (an)]))).set (41) (.inl (0, 8, .inl (fun j => en ((va_up sk ((h) - (0)) (some 0)) j))))).set (22) (.inr (7, [.int (fa), .ref 23, .ref 24, .ref 25, .ref 26, .ref 27, .ref 28, .ref 29, .ref 30, .ref 31, .ref 32, .ref 33, .ref 34, .ref 35, .ref 36, .ref 37, .int (vf), .int (wh), .int (wy), .ref 38, .ref 39, .ref 40, .ref 41, .int (nI ((h) - (0) + 1)), .ref 42, .ref 43, .ref 44, .ref 45, .ref 46, .ref 47, .ref 48, .ref 49, .int (dp), .ref 50, .ref 51, .ref 52, .int (md), .int (ov), .int (oh), .int (dn), .int (an)]))) P
    exact er_vret d_Mo_pass_242 rfl (hT _ _ _ (hrl.low htk).psh hlo (ob_up hsk (ob_s (by omega))) (hmb.s22.s41.s22) (((FrM.refl.set (by omega)).set (by omega)).set (by omega))) (by decide) (by decide)
theorem d_Mo_pass_84 : decode m_Mo_pass.2.1 84 = .ok (.aload_n 0, 1) := by decide +kernel
theorem d_Mo_pass_85 : decode m_Mo_pass.2.1 85 = .ok (.aload_n 0, 1) := by decide +kernel
theorem f_Mo_pass_69 : jl_fd m_Mo_pass 69 7 21 = true := by decide +kernel
theorem d_Mo_pass_86 : decode m_Mo_pass.2.1 86 = .ok (.getfield 69, 3) := by decide +kernel
theorem d_Mo_pass_89 : decode m_Mo_pass.2.1 89 = .ok (.iload 4, 2) := by decide +kernel
theorem d_Mo_pass_91 : decode m_Mo_pass.2.1 91 = .ok (.iaload, 1) := by decide +kernel
theorem d_Mo_pass_92 : decode m_Mo_pass.2.1 92 = .ok (.invokevirtual 192, 3) := by decide +kernel
theorem d_Mo_pass_95 : decode m_Mo_pass.2.1 95 = .ok (.goto 147, 3) := by decide +kernel
theorem mo_pass_1 (hl : l.stackTraces = false) {P : jl_O → jl_S → Prop} {m pc h : Nat} {r : Rw} {n : Nat} (hmb : MB σ tb pr ow ft hs u1 u2 ur ul uo ua uc us ut uk fa vf wh wy (nI h) dp md ov oh dn an lo sk kp mm fm) (hok : WoOk tb pr ow fi) (hK : MoK u1 u2 ur ul uo uc us ut uk) (hm : m < 24) (hpc : pc < 24) (ho : uo (24 * m + pc) = 1) (hx : ua (24 * m + pc) = nI n) (hrl : RlM r lo sk h) (hrv : rv r h) (hlo : ∀ j, ob 16 (lo j)) (hsk : ∀ j, ob 16 (sk j)) (htk : 0 ≤ h) (hp5 : h - 0 + 1 ≤ 5) (hn : n < 6) (hT : ∀ lo' sk' σ', RlM (psh (low r h 0) (h - 0) (r n)) lo' sk' (h - 0 + 1) → (∀ j, ob 16 (lo' j)) → (∀ j, ob 16 (sk' j)) → MB σ' tb pr ow ft hs u1 u2 ur ul uo ua uc us ut uk fa vf wh wy (nI (h - 0 + 1)) dp md ov oh dn an lo' sk' kp mm fm → FrM σ σ' → P (.inl none) σ') : jl_mE l G m_Mo_pass [.ref 22, .int (nI m), .int (nI pc)] σ P := by
  obtain ⟨hO, hw, hu, hr, hkp, hmp, hfm⟩ := id hmb; obtain ⟨r1, r2⟩ := id hr
  obtain ⟨h23, h24, h25, h26, h27⟩ := id hw
  obtain ⟨h28, h29, h30, h31, h32, h33, h34, h35, h36, h37⟩ := id hu
  obtain ⟨hk1, hk2, hk3, hk4, hk5, hk6⟩ := hK.1 m hm
  have hh5 := hrv.2.1
  refine jl_ofE (as := [.ref 22, .int (nI m), .int (nI pc)]) rfl (by decide) hl (jl_cc rfl (jl_cc rfl (jl_cc rfl jl_ca))) (Nat.le_of_ble_eq_true rfl) ?_
  show jl_E l G m_Mo_pass (0, 0) 0 [some (.ref 22), some (.int (nI m)), some (.int (nI pc)), none, none, none] [] (σ) P
  refine er_aload_n d_Mo_pass_0 rfl ?_
  refine er_getf d_Mo_pass_1 f_Mo_pass_38 hO rfl ?_
  refine er_bipush ((nI (24))) d_Mo_pass_4 (by decide) ?_
  refine er_iload_n d_Mo_pass_6 rfl ?_
  refine er_imulN d_Mo_pass_7 ?_
  refine er_iload_n d_Mo_pass_8 rfl ?_
  refine er_iaddN d_Mo_pass_9 ?_
  refine er_ialdQ (v := (nI (1))) d_Mo_pass_10 h32 (by omega) (by omega) (congrArg nI ho) ?_
  refine er_istore_n d_Mo_pass_11 (by decide) ?_
  show jl_E l G m_Mo_pass (0, 0) 12 [some (.ref 22), some (.int (nI m)), some (.int (nI pc)), some (.int (nI 1)), none, none] [] (σ) P
  refine er_aload_n d_Mo_pass_12 rfl ?_
  refine er_getf d_Mo_pass_13 f_Mo_pass_41 hO rfl ?_
  refine er_bipush ((nI (24))) d_Mo_pass_16 (by decide) ?_
  refine er_iload_n d_Mo_pass_18 rfl ?_
  refine er_imulN d_Mo_pass_19 ?_
  refine er_iload_n d_Mo_pass_20 rfl ?_
  refine er_iaddN d_Mo_pass_21 ?_
  refine er_ialdQ (v := (nI (n))) d_Mo_pass_22 h33 (by omega) (by omega) (hx) ?_
  refine er_istore d_Mo_pass_23 (by decide) ?_
  show jl_E l G m_Mo_pass (0, 0) 25 [some (.ref 22), some (.int (nI m)), some (.int (nI pc)), some (.int (nI 1)), some (.int (nI n)), none] [] (σ) P
  refine er_aload_n d_Mo_pass_25 rfl ?_
  refine er_getf d_Mo_pass_26 f_Mo_pass_179 hO rfl ?_
  refine er_if_leN 46 d_Mo_pass_29 (by decide) (by omega) (fun c1 => ?_) (fun c1 => ?_)
  · refine er_iconst ((-1)) d_Mo_pass_46 (by decide) ?_
    refine er_istore d_Mo_pass_47 (by decide) ?_
    show jl_E l G m_Mo_pass (0, 0) 49 [some (.ref 22), some (.int (nI m)), some (.int (nI pc)), some (.int (nI 1)), some (.int (nI n)), some (.int (-1))] [] (σ) P
    have htp : topO r h = none := by unfold topO; rw [if_pos (by omega)]
    rw [show (-1 : Int32) = en (topO r h) by rw [htp]; rfl]
    show jl_E l G m_Mo_pass (0, 0) 49 [some (.ref 22), some (.int (nI m)), some (.int (nI pc)), some (.int (nI 1)), some (.int (nI n)), some (.int (en (topO r h)))] [] (σ) P
    refine er_aload_n d_Mo_pass_49 rfl ?_
    refine er_dup d_Mo_pass_50 rfl ?_
    refine er_getf d_Mo_pass_51 f_Mo_pass_179 hO rfl ?_
    refine er_aload_n d_Mo_pass_54 rfl ?_
    refine er_iload_n d_Mo_pass_55 rfl ?_
    refine er_iload d_Mo_pass_56 rfl ?_
    refine er_callV (As := [.int (nI 1), .int (nI n)]) d_Mo_pass_58 k_Mo_pass_176 hO rfl rfl rfl (Nat.le_of_ble_eq_true rfl) (by decide) (by decide) (mo_tk_1 hl hO hw hu) ?_
    show jl_E l G m_Mo_pass (0, 0) 61 [some (.ref 22), some (.int (nI m)), some (.int (nI pc)), some (.int (nI 1)), some (.int (nI n)), some (.int (en (topO r h)))] [.int (nI 0), .int (nI h), .ref 22] (σ) P
    refine er_isubN d_Mo_pass_61 (by omega) ?_
    refine er_putf d_Mo_pass_62 p_Mo_pass_179 hO (Nat.le_of_ble_eq_true rfl) jl_fit_int ?_
    show jl_E l G m_Mo_pass (0, 0) 65 [some (.ref 22), some (.int (nI m)), some (.int (nI pc)), some (.int (nI 1)), some (.int (nI n)), some (.int (en (topO r h)))] [] (σ.set (22) (.inr (7, [.int (fa), .ref 23, .ref 24, .ref 25, .ref 26, .ref 27, .ref 28, .ref 29, .ref 30, .ref 31, .ref 32, .ref 33, .ref 34, .ref 35, .ref 36, .ref 37, .int (vf), .int (wh), .int (wy), .ref 38, .ref 39, .ref 40, .ref 41, .int (nI ((h) - (0))), .ref 42, .ref 43, .ref 44, .ref 45, .ref 46, .ref 47, .ref 48, .ref 49, .int (dp), .ref 50, .ref 51, .ref 52, .int (md), .int (ov), .int (oh), .int (dn), .int (an)]))) P
    refine er_iload_n d_Mo_pass_65 rfl ?_
    refine er_iconst ((nI (2))) d_Mo_pass_66 (by decide) ?_
    refine er_icmp_ne 79 d_Mo_pass_67 (by decide) (fun _ => ?_) (fun z => absurd z (by decide))
    refine er_iload_n d_Mo_pass_79 rfl ?_
    refine er_iconst ((nI (1))) d_Mo_pass_80 (by decide) ?_
    refine er_icmp_ne 98 d_Mo_pass_81 (by decide) (fun z => absurd rfl z) (fun _ => ?_)
    refine er_aload_n d_Mo_pass_84 rfl ?_
    refine er_aload_n d_Mo_pass_85 rfl ?_
    refine er_getf d_Mo_pass_86 f_Mo_pass_69 (jl_ss hO) rfl ?_
    refine er_iload d_Mo_pass_89 rfl ?_
    refine er_ialdQ (v := (en (r n))) d_Mo_pass_91 (jl_sn (by decide) r1) (by omega) (by omega) (congrArg en (hrl.1 n hn)) ?_
    refine er_callV (As := [.int (en (r n))]) d_Mo_pass_92 k_Mo_pass_192 (jl_ss hO) rfl rfl rfl (Nat.le_of_ble_eq_true rfl) (by decide) (by decide) (mo_push (h := (h) - (0)) (t := (r n)) hl (hmb.s22).1 (hmb.s22).2.2.2.1.2 (by omega)) ?_
    show jl_E l G m_Mo_pass (0, 0) 95 [some (.ref 22), some (.int (nI m)), some (.int (nI pc)), some (.int (nI 1)), some (.int (nI n)), some (.int (en (topO r h)))] [] (((σ.set (22) (.inr (7, [.int (fa), .ref 23, .ref 24, .ref 25, .ref 26, .ref 27, .ref 28, .ref 29, .ref 30, .ref 31, .ref 32, .ref 33, .ref 34, .ref 35, .ref 36, .ref 37, .int (vf), .int (wh), .int (wy), .ref 38, .ref 39, .ref 40, .ref 41, .int (nI ((h) - (0))), .ref 42, .ref 43, .ref 44, .ref 45, .ref 46, .ref 47, .ref 48, .ref 49, .int (dp), .ref 50, .ref 51, .ref 52, .int (md), .int (ov), .int (oh), .int (dn), .int (an)]))).set (41) (.inl (0, 8, .inl (fun j => en ((va_up sk ((h) - (0)) (r n)) j))))).set (22) (.inr (7, [.int (fa), .ref 23, .ref 24, .ref 25, .ref 26, .ref 27, .ref 28, .ref 29, .ref 30, .ref 31, .ref 32, .ref 33, .ref 34, .ref 35, .ref 36, .ref 37, .int (vf), .int (wh), .int (wy), .ref 38, .ref 39, .ref 40, .ref 41, .int (nI ((h) - (0) + 1)), .ref 42, .ref 43, .ref 44, .ref 45, .ref 46, .ref 47, .ref 48, .ref 49, .int (dp), .ref 50, .ref 51, .ref 52, .int (md), .int (ov), .int (oh), .int (dn), .int (an)]))) P
    refine er_goto 242 d_Mo_pass_95 (by decide) ?_
    exact er_vret d_Mo_pass_242 rfl (hT _ _ _ (hrl.low htk).psh hlo (ob_up hsk (hrv.ob n)) (hmb.s22.s41.s22) (((FrM.refl.set (by omega)).set (by omega)).set (by omega))) (by decide) (by decide)
  · refine er_aload_n d_Mo_pass_32 rfl ?_
    refine er_getf d_Mo_pass_33 f_Mo_pass_72 hO rfl ?_
    refine er_aload_n d_Mo_pass_36 rfl ?_
    refine er_getf d_Mo_pass_37 f_Mo_pass_179 hO rfl ?_
    refine er_iconst ((nI (1))) d_Mo_pass_40 (by decide) ?_
    refine er_isubN d_Mo_pass_41 (by omega) ?_
    refine er_ialdQ (v := (en (topO r h))) d_Mo_pass_42 r2 (by omega) (by omega) (congrArg en (show sk (h - 1) = topO r h by unfold topO; rw [if_neg (by omega), hrl.2 (h - 1) (by omega)]; congr 1; omega)) ?_
    refine er_goto 47 d_Mo_pass_43 (by decide) ?_
    refine er_istore d_Mo_pass_47 (by decide) ?_
    show jl_E l G m_Mo_pass (0, 0) 49 [some (.ref 22), some (.int (nI m)), some (.int (nI pc)), some (.int (nI 1)), some (.int (nI n)), some (.int (en (topO r h)))] [] (σ) P
    refine er_aload_n d_Mo_pass_49 rfl ?_
    refine er_dup d_Mo_pass_50 rfl ?_
    refine er_getf d_Mo_pass_51 f_Mo_pass_179 hO rfl ?_
    refine er_aload_n d_Mo_pass_54 rfl ?_
    refine er_iload_n d_Mo_pass_55 rfl ?_
    refine er_iload d_Mo_pass_56 rfl ?_
    refine er_callV (As := [.int (nI 1), .int (nI n)]) d_Mo_pass_58 k_Mo_pass_176 hO rfl rfl rfl (Nat.le_of_ble_eq_true rfl) (by decide) (by decide) (mo_tk_1 hl hO hw hu) ?_
    show jl_E l G m_Mo_pass (0, 0) 61 [some (.ref 22), some (.int (nI m)), some (.int (nI pc)), some (.int (nI 1)), some (.int (nI n)), some (.int (en (topO r h)))] [.int (nI 0), .int (nI h), .ref 22] (σ) P
    refine er_isubN d_Mo_pass_61 (by omega) ?_
    refine er_putf d_Mo_pass_62 p_Mo_pass_179 hO (Nat.le_of_ble_eq_true rfl) jl_fit_int ?_
    show jl_E l G m_Mo_pass (0, 0) 65 [some (.ref 22), some (.int (nI m)), some (.int (nI pc)), some (.int (nI 1)), some (.int (nI n)), some (.int (en (topO r h)))] [] (σ.set (22) (.inr (7, [.int (fa), .ref 23, .ref 24, .ref 25, .ref 26, .ref 27, .ref 28, .ref 29, .ref 30, .ref 31, .ref 32, .ref 33, .ref 34, .ref 35, .ref 36, .ref 37, .int (vf), .int (wh), .int (wy), .ref 38, .ref 39, .ref 40, .ref 41, .int (nI ((h) - (0))), .ref 42, .ref 43, .ref 44, .ref 45, .ref 46, .ref 47, .ref 48, .ref 49, .int (dp), .ref 50, .ref 51, .ref 52, .int (md), .int (ov), .int (oh), .int (dn), .int (an)]))) P
    refine er_iload_n d_Mo_pass_65 rfl ?_
    refine er_iconst ((nI (2))) d_Mo_pass_66 (by decide) ?_
    refine er_icmp_ne 79 d_Mo_pass_67 (by decide) (fun _ => ?_) (fun z => absurd z (by decide))
    refine er_iload_n d_Mo_pass_79 rfl ?_
    refine er_iconst ((nI (1))) d_Mo_pass_80 (by decide) ?_
    refine er_icmp_ne 98 d_Mo_pass_81 (by decide) (fun z => absurd rfl z) (fun _ => ?_)
    refine er_aload_n d_Mo_pass_84 rfl ?_
    refine er_aload_n d_Mo_pass_85 rfl ?_
    refine er_getf d_Mo_pass_86 f_Mo_pass_69 (jl_ss hO) rfl ?_
    refine er_iload d_Mo_pass_89 rfl ?_
    refine er_ialdQ (v := (en (r n))) d_Mo_pass_91 (jl_sn (by decide) r1) (by omega) (by omega) (congrArg en (hrl.1 n hn)) ?_
    refine er_callV (As := [.int (en (r n))]) d_Mo_pass_92 k_Mo_pass_192 (jl_ss hO) rfl rfl rfl (Nat.le_of_ble_eq_true rfl) (by decide) (by decide) (mo_push (h := (h) - (0)) (t := (r n)) hl (hmb.s22).1 (hmb.s22).2.2.2.1.2 (by omega)) ?_
    show jl_E l G m_Mo_pass (0, 0) 95 [some (.ref 22), some (.int (nI m)), some (.int (nI pc)), some (.int (nI 1)), some (.int (nI n)), some (.int (en (topO r h)))] [] (((σ.set (22) (.inr (7, [.int (fa), .ref 23, .ref 24, .ref 25, .ref 26, .ref 27, .ref 28, .ref 29, .ref 30, .ref 31, .ref 32, .ref 33, .ref 34, .ref 35, .ref 36, .ref 37, .int (vf), .int (wh), .int (wy), .ref 38, .ref 39, .ref 40, .ref 41, .int (nI ((h) - (0))), .ref 42, .ref 43, .ref 44, .ref 45, .ref 46, .ref 47, .ref 48, .ref 49, .int (dp), .ref 50, .ref 51, .ref 52, .int (md), .int (ov), .int (oh), .int (dn), .int (an)]))).set (41) (.inl (0, 8, .inl (fun j => en ((va_up sk ((h) - (0)) (r n)) j))))).set (22) (.inr (7, [.int (fa), .ref 23, .ref 24, .ref 25, .ref 26, .ref 27, .ref 28, .ref 29, .ref 30, .ref 31, .ref 32, .ref 33, .ref 34, .ref 35, .ref 36, .ref 37, .int (vf), .int (wh), .int (wy), .ref 38, .ref 39, .ref 40, .ref 41, .int (nI ((h) - (0) + 1)), .ref 42, .ref 43, .ref 44, .ref 45, .ref 46, .ref 47, .ref 48, .ref 49, .int (dp), .ref 50, .ref 51, .ref 52, .int (md), .int (ov), .int (oh), .int (dn), .int (an)]))) P
    refine er_goto 242 d_Mo_pass_95 (by decide) ?_
    exact er_vret d_Mo_pass_242 rfl (hT _ _ _ (hrl.low htk).psh hlo (ob_up hsk (hrv.ob n)) (hmb.s22.s41.s22) (((FrM.refl.set (by omega)).set (by omega)).set (by omega))) (by decide) (by decide)
theorem d_Mo_pass_70 : decode m_Mo_pass.2.1 70 = .ok (.aload_n 0, 1) := by decide +kernel
theorem d_Mo_pass_71 : decode m_Mo_pass.2.1 71 = .ok (.getfield 69, 3) := by decide +kernel
theorem d_Mo_pass_74 : decode m_Mo_pass.2.1 74 = .ok (.iload 4, 2) := by decide +kernel
theorem d_Mo_pass_76 : decode m_Mo_pass.2.1 76 = .ok (.iload 5, 2) := by decide +kernel
theorem d_Mo_pass_78 : decode m_Mo_pass.2.1 78 = .ok (.iastore, 1) := by decide +kernel
theorem mo_pass_2 (hl : l.stackTraces = false) {P : jl_O → jl_S → Prop} {m pc h : Nat} {r : Rw} {n : Nat} (hmb : MB σ tb pr ow ft hs u1 u2 ur ul uo ua uc us ut uk fa vf wh wy (nI h) dp md ov oh dn an lo sk kp mm fm) (hok : WoOk tb pr ow fi) (hK : MoK u1 u2 ur ul uo uc us ut uk) (hm : m < 24) (hpc : pc < 24) (ho : uo (24 * m + pc) = 2) (hx : ua (24 * m + pc) = nI n) (hrl : RlM r lo sk h) (hrv : rv r h) (hlo : ∀ j, ob 16 (lo j)) (hsk : ∀ j, ob 16 (sk j)) (htk : 1 ≤ h) (hp5 : h - 1 + 0 ≤ 5) (hn : n < 6) (hT : ∀ lo' sk' σ', RlM (va_up (low r h 1) n (topO r h)) lo' sk' (h - 1) → (∀ j, ob 16 (lo' j)) → (∀ j, ob 16 (sk' j)) → MB σ' tb pr ow ft hs u1 u2 ur ul uo ua uc us ut uk fa vf wh wy (nI (h - 1)) dp md ov oh dn an lo' sk' kp mm fm → FrM σ σ' → P (.inl none) σ') : jl_mE l G m_Mo_pass [.ref 22, .int (nI m), .int (nI pc)] σ P := by
  obtain ⟨hO, hw, hu, hr, hkp, hmp, hfm⟩ := id hmb; obtain ⟨r1, r2⟩ := id hr
  obtain ⟨h23, h24, h25, h26, h27⟩ := id hw
  obtain ⟨h28, h29, h30, h31, h32, h33, h34, h35, h36, h37⟩ := id hu
  obtain ⟨hk1, hk2, hk3, hk4, hk5, hk6⟩ := hK.1 m hm
  have hh5 := hrv.2.1
  refine jl_ofE (as := [.ref 22, .int (nI m), .int (nI pc)]) rfl (by decide) hl (jl_cc rfl (jl_cc rfl (jl_cc rfl jl_ca))) (Nat.le_of_ble_eq_true rfl) ?_
  show jl_E l G m_Mo_pass (0, 0) 0 [some (.ref 22), some (.int (nI m)), some (.int (nI pc)), none, none, none] [] (σ) P
  refine er_aload_n d_Mo_pass_0 rfl ?_
  refine er_getf d_Mo_pass_1 f_Mo_pass_38 hO rfl ?_
  refine er_bipush ((nI (24))) d_Mo_pass_4 (by decide) ?_
  refine er_iload_n d_Mo_pass_6 rfl ?_
  refine er_imulN d_Mo_pass_7 ?_
  refine er_iload_n d_Mo_pass_8 rfl ?_
  refine er_iaddN d_Mo_pass_9 ?_
  refine er_ialdQ (v := (nI (2))) d_Mo_pass_10 h32 (by omega) (by omega) (congrArg nI ho) ?_
  refine er_istore_n d_Mo_pass_11 (by decide) ?_
  show jl_E l G m_Mo_pass (0, 0) 12 [some (.ref 22), some (.int (nI m)), some (.int (nI pc)), some (.int (nI 2)), none, none] [] (σ) P
  refine er_aload_n d_Mo_pass_12 rfl ?_
  refine er_getf d_Mo_pass_13 f_Mo_pass_41 hO rfl ?_
  refine er_bipush ((nI (24))) d_Mo_pass_16 (by decide) ?_
  refine er_iload_n d_Mo_pass_18 rfl ?_
  refine er_imulN d_Mo_pass_19 ?_
  refine er_iload_n d_Mo_pass_20 rfl ?_
  refine er_iaddN d_Mo_pass_21 ?_
  refine er_ialdQ (v := (nI (n))) d_Mo_pass_22 h33 (by omega) (by omega) (hx) ?_
  refine er_istore d_Mo_pass_23 (by decide) ?_
  show jl_E l G m_Mo_pass (0, 0) 25 [some (.ref 22), some (.int (nI m)), some (.int (nI pc)), some (.int (nI 2)), some (.int (nI n)), none] [] (σ) P
  refine er_aload_n d_Mo_pass_25 rfl ?_
  refine er_getf d_Mo_pass_26 f_Mo_pass_179 hO rfl ?_
  refine er_if_leN 46 d_Mo_pass_29 (by decide) (by omega) (fun c1 => ?_) (fun c1 => ?_)
  · refine er_iconst ((-1)) d_Mo_pass_46 (by decide) ?_
    refine er_istore d_Mo_pass_47 (by decide) ?_
    show jl_E l G m_Mo_pass (0, 0) 49 [some (.ref 22), some (.int (nI m)), some (.int (nI pc)), some (.int (nI 2)), some (.int (nI n)), some (.int (-1))] [] (σ) P
    have htp : topO r h = none := by unfold topO; rw [if_pos (by omega)]
    rw [show (-1 : Int32) = en (topO r h) by rw [htp]; rfl]
    show jl_E l G m_Mo_pass (0, 0) 49 [some (.ref 22), some (.int (nI m)), some (.int (nI pc)), some (.int (nI 2)), some (.int (nI n)), some (.int (en (topO r h)))] [] (σ) P
    refine er_aload_n d_Mo_pass_49 rfl ?_
    refine er_dup d_Mo_pass_50 rfl ?_
    refine er_getf d_Mo_pass_51 f_Mo_pass_179 hO rfl ?_
    refine er_aload_n d_Mo_pass_54 rfl ?_
    refine er_iload_n d_Mo_pass_55 rfl ?_
    refine er_iload d_Mo_pass_56 rfl ?_
    refine er_callV (As := [.int (nI 2), .int (nI n)]) d_Mo_pass_58 k_Mo_pass_176 hO rfl rfl rfl (Nat.le_of_ble_eq_true rfl) (by decide) (by decide) (mo_tk_2 hl hO hw hu) ?_
    show jl_E l G m_Mo_pass (0, 0) 61 [some (.ref 22), some (.int (nI m)), some (.int (nI pc)), some (.int (nI 2)), some (.int (nI n)), some (.int (en (topO r h)))] [.int (nI 1), .int (nI h), .ref 22] (σ) P
    refine er_isubN d_Mo_pass_61 (by omega) ?_
    refine er_putf d_Mo_pass_62 p_Mo_pass_179 hO (Nat.le_of_ble_eq_true rfl) jl_fit_int ?_
    show jl_E l G m_Mo_pass (0, 0) 65 [some (.ref 22), some (.int (nI m)), some (.int (nI pc)), some (.int (nI 2)), some (.int (nI n)), some (.int (en (topO r h)))] [] (σ.set (22) (.inr (7, [.int (fa), .ref 23, .ref 24, .ref 25, .ref 26, .ref 27, .ref 28, .ref 29, .ref 30, .ref 31, .ref 32, .ref 33, .ref 34, .ref 35, .ref 36, .ref 37, .int (vf), .int (wh), .int (wy), .ref 38, .ref 39, .ref 40, .ref 41, .int (nI ((h) - (1))), .ref 42, .ref 43, .ref 44, .ref 45, .ref 46, .ref 47, .ref 48, .ref 49, .int (dp), .ref 50, .ref 51, .ref 52, .int (md), .int (ov), .int (oh), .int (dn), .int (an)]))) P
    refine er_iload_n d_Mo_pass_65 rfl ?_
    refine er_iconst ((nI (2))) d_Mo_pass_66 (by decide) ?_
    refine er_icmp_ne 79 d_Mo_pass_67 (by decide) (fun z => absurd rfl z) (fun _ => ?_)
    refine er_aload_n d_Mo_pass_70 rfl ?_
    refine er_getf d_Mo_pass_71 f_Mo_pass_69 (jl_ss hO) rfl ?_
    refine er_iload d_Mo_pass_74 rfl ?_
    refine er_iload d_Mo_pass_76 rfl ?_
    refine er_iastN d_Mo_pass_78 (jl_sn (by decide) r1) (by omega) (by omega) ?_
    rw [show upd (fun j => en (lo j)) (n) ((en (topO r h))) = (fun j => en ((va_up lo (n) ((topO r h))) j)) from en_up lo (n) ((topO r h))]
    show jl_E l G m_Mo_pass (0, 0) 79 [some (.ref 22), some (.int (nI m)), some (.int (nI pc)), some (.int (nI 2)), some (.int (nI n)), some (.int (en (topO r h)))] [] ((σ.set (22) (.inr (7, [.int (fa), .ref 23, .ref 24, .ref 25, .ref 26, .ref 27, .ref 28, .ref 29, .ref 30, .ref 31, .ref 32, .ref 33, .ref 34, .ref 35, .ref 36, .ref 37, .int (vf), .int (wh), .int (wy), .ref 38, .ref 39, .ref 40, .ref 41, .int (nI ((h) - (1))), .ref 42, .ref 43, .ref 44, .ref 45, .ref 46, .ref 47, .ref 48, .ref 49, .int (dp), .ref 50, .ref 51, .ref 52, .int (md), .int (ov), .int (oh), .int (dn), .int (an)]))).set (40) (.inl (0, 6, .inl (fun j => en ((va_up lo (n) ((topO r h))) j))))) P
    refine er_iload_n d_Mo_pass_79 rfl ?_
    refine er_iconst ((nI (1))) d_Mo_pass_80 (by decide) ?_
    refine er_icmp_ne 98 d_Mo_pass_81 (by decide) (fun _ => ?_) (fun z => absurd z (by decide))
    refine er_iload_n d_Mo_pass_98 rfl ?_
    refine er_bipush ((nI (10))) d_Mo_pass_99 (by decide) ?_
    refine er_icmp_ne 112 d_Mo_pass_101 (by decide) (fun _ => ?_) (fun z => absurd z (by decide))
    refine er_iload_n d_Mo_pass_112 rfl ?_
    refine er_bipush ((nI (11))) d_Mo_pass_113 (by decide) ?_
    refine er_icmp_eq 124 d_Mo_pass_115 (by decide) (fun z => absurd z (by decide)) (fun _ => ?_)
    refine er_iload_n d_Mo_pass_118 rfl ?_
    refine er_bipush ((nI (15))) d_Mo_pass_119 (by decide) ?_
    refine er_icmp_ne 136 d_Mo_pass_121 (by decide) (fun _ => ?_) (fun z => absurd z (by decide))
    refine er_iload_n d_Mo_pass_136 rfl ?_
    refine er_bipush ((nI (12))) d_Mo_pass_137 (by decide) ?_
    refine er_icmp_ne 163 d_Mo_pass_139 (by decide) (fun _ => ?_) (fun z => absurd z (by decide))
    refine er_iload_n d_Mo_pass_163 rfl ?_
    refine er_bipush ((nI (14))) d_Mo_pass_164 (by decide) ?_
    refine er_icmp_ne 193 d_Mo_pass_166 (by decide) (fun _ => ?_) (fun z => absurd z (by decide))
    refine er_iload_n d_Mo_pass_193 rfl ?_
    refine er_bipush ((nI (19))) d_Mo_pass_194 (by decide) ?_
    refine er_icmp_ne 207 d_Mo_pass_196 (by decide) (fun _ => ?_) (fun z => absurd z (by decide))
    refine er_iload_n d_Mo_pass_207 rfl ?_
    refine er_bipush ((nI (24))) d_Mo_pass_208 (by decide) ?_
    refine er_icmp_ne 228 d_Mo_pass_210 (by decide) (fun _ => ?_) (fun z => absurd z (by decide))
    refine er_aload_n d_Mo_pass_228 rfl ?_
    refine er_iload_n d_Mo_pass_229 rfl ?_
    refine er_callV (As := [.int (nI 2)]) d_Mo_pass_230 k_Mo_pass_182 (jl_sn (by decide) (jl_ss hO)) rfl rfl rfl (Nat.le_of_ble_eq_true rfl) (by decide) (by decide) (mo_puts hl (hmb.s22.s40).1 (hmb.s22.s40).2.1 (by omega)) ?_
    show jl_E l G m_Mo_pass (0, 0) 233 [some (.ref 22), some (.int (nI m)), some (.int (nI pc)), some (.int (nI 2)), some (.int (nI n)), some (.int (en (topO r h)))] [.int (nI 0)] ((σ.set (22) (.inr (7, [.int (fa), .ref 23, .ref 24, .ref 25, .ref 26, .ref 27, .ref 28, .ref 29, .ref 30, .ref 31, .ref 32, .ref 33, .ref 34, .ref 35, .ref 36, .ref 37, .int (vf), .int (wh), .int (wy), .ref 38, .ref 39, .ref 40, .ref 41, .int (nI ((h) - (1))), .ref 42, .ref 43, .ref 44, .ref 45, .ref 46, .ref 47, .ref 48, .ref 49, .int (dp), .ref 50, .ref 51, .ref 52, .int (md), .int (ov), .int (oh), .int (dn), .int (an)]))).set (40) (.inl (0, 6, .inl (fun j => en ((va_up lo (n) ((topO r h))) j))))) P
    refine er_iconst ((nI (1))) d_Mo_pass_233 (by decide) ?_
    refine er_icmp_ne 242 d_Mo_pass_234 (by decide) (fun _ => ?_) (fun z => absurd z (by decide))
    exact er_vret d_Mo_pass_242 rfl (hT _ _ _ ((hrl.low htk).up hn) (ob_up hlo (show ob 16 (topO r h) by unfold topO; split; (intro z hz; cases hz); exact hrv.ob _)) hsk (hmb.s22.s40) ((FrM.refl.set (by omega)).set (by omega))) (by decide) (by decide)
  · refine er_aload_n d_Mo_pass_32 rfl ?_
    refine er_getf d_Mo_pass_33 f_Mo_pass_72 hO rfl ?_
    refine er_aload_n d_Mo_pass_36 rfl ?_
    refine er_getf d_Mo_pass_37 f_Mo_pass_179 hO rfl ?_
    refine er_iconst ((nI (1))) d_Mo_pass_40 (by decide) ?_
    refine er_isubN d_Mo_pass_41 (by omega) ?_
    refine er_ialdQ (v := (en (topO r h))) d_Mo_pass_42 r2 (by omega) (by omega) (congrArg en (show sk (h - 1) = topO r h by unfold topO; rw [if_neg (by omega), hrl.2 (h - 1) (by omega)]; congr 1; omega)) ?_
    refine er_goto 47 d_Mo_pass_43 (by decide) ?_
    refine er_istore d_Mo_pass_47 (by decide) ?_
    show jl_E l G m_Mo_pass (0, 0) 49 [some (.ref 22), some (.int (nI m)), some (.int (nI pc)), some (.int (nI 2)), some (.int (nI n)), some (.int (en (topO r h)))] [] (σ) P
    refine er_aload_n d_Mo_pass_49 rfl ?_
    refine er_dup d_Mo_pass_50 rfl ?_
    refine er_getf d_Mo_pass_51 f_Mo_pass_179 hO rfl ?_
    refine er_aload_n d_Mo_pass_54 rfl ?_
    refine er_iload_n d_Mo_pass_55 rfl ?_
    refine er_iload d_Mo_pass_56 rfl ?_
    refine er_callV (As := [.int (nI 2), .int (nI n)]) d_Mo_pass_58 k_Mo_pass_176 hO rfl rfl rfl (Nat.le_of_ble_eq_true rfl) (by decide) (by decide) (mo_tk_2 hl hO hw hu) ?_
    show jl_E l G m_Mo_pass (0, 0) 61 [some (.ref 22), some (.int (nI m)), some (.int (nI pc)), some (.int (nI 2)), some (.int (nI n)), some (.int (en (topO r h)))] [.int (nI 1), .int (nI h), .ref 22] (σ) P
    refine er_isubN d_Mo_pass_61 (by omega) ?_
    refine er_putf d_Mo_pass_62 p_Mo_pass_179 hO (Nat.le_of_ble_eq_true rfl) jl_fit_int ?_
    show jl_E l G m_Mo_pass (0, 0) 65 [some (.ref 22), some (.int (nI m)), some (.int (nI pc)), some (.int (nI 2)), some (.int (nI n)), some (.int (en (topO r h)))] [] (σ.set (22) (.inr (7, [.int (fa), .ref 23, .ref 24, .ref 25, .ref 26, .ref 27, .ref 28, .ref 29, .ref 30, .ref 31, .ref 32, .ref 33, .ref 34, .ref 35, .ref 36, .ref 37, .int (vf), .int (wh), .int (wy), .ref 38, .ref 39, .ref 40, .ref 41, .int (nI ((h) - (1))), .ref 42, .ref 43, .ref 44, .ref 45, .ref 46, .ref 47, .ref 48, .ref 49, .int (dp), .ref 50, .ref 51, .ref 52, .int (md), .int (ov), .int (oh), .int (dn), .int (an)]))) P
    refine er_iload_n d_Mo_pass_65 rfl ?_
    refine er_iconst ((nI (2))) d_Mo_pass_66 (by decide) ?_
    refine er_icmp_ne 79 d_Mo_pass_67 (by decide) (fun z => absurd rfl z) (fun _ => ?_)
    refine er_aload_n d_Mo_pass_70 rfl ?_
    refine er_getf d_Mo_pass_71 f_Mo_pass_69 (jl_ss hO) rfl ?_
    refine er_iload d_Mo_pass_74 rfl ?_
    refine er_iload d_Mo_pass_76 rfl ?_
    refine er_iastN d_Mo_pass_78 (jl_sn (by decide) r1) (by omega) (by omega) ?_
    rw [show upd (fun j => en (lo j)) (n) ((en (topO r h))) = (fun j => en ((va_up lo (n) ((topO r h))) j)) from en_up lo (n) ((topO r h))]
    show jl_E l G m_Mo_pass (0, 0) 79 [some (.ref 22), some (.int (nI m)), some (.int (nI pc)), some (.int (nI 2)), some (.int (nI n)), some (.int (en (topO r h)))] [] ((σ.set (22) (.inr (7, [.int (fa), .ref 23, .ref 24, .ref 25, .ref 26, .ref 27, .ref 28, .ref 29, .ref 30, .ref 31, .ref 32, .ref 33, .ref 34, .ref 35, .ref 36, .ref 37, .int (vf), .int (wh), .int (wy), .ref 38, .ref 39, .ref 40, .ref 41, .int (nI ((h) - (1))), .ref 42, .ref 43, .ref 44, .ref 45, .ref 46, .ref 47, .ref 48, .ref 49, .int (dp), .ref 50, .ref 51, .ref 52, .int (md), .int (ov), .int (oh), .int (dn), .int (an)]))).set (40) (.inl (0, 6, .inl (fun j => en ((va_up lo (n) ((topO r h))) j))))) P
    refine er_iload_n d_Mo_pass_79 rfl ?_
    refine er_iconst ((nI (1))) d_Mo_pass_80 (by decide) ?_
    refine er_icmp_ne 98 d_Mo_pass_81 (by decide) (fun _ => ?_) (fun z => absurd z (by decide))
    refine er_iload_n d_Mo_pass_98 rfl ?_
    refine er_bipush ((nI (10))) d_Mo_pass_99 (by decide) ?_
    refine er_icmp_ne 112 d_Mo_pass_101 (by decide) (fun _ => ?_) (fun z => absurd z (by decide))
    refine er_iload_n d_Mo_pass_112 rfl ?_
    refine er_bipush ((nI (11))) d_Mo_pass_113 (by decide) ?_
    refine er_icmp_eq 124 d_Mo_pass_115 (by decide) (fun z => absurd z (by decide)) (fun _ => ?_)
    refine er_iload_n d_Mo_pass_118 rfl ?_
    refine er_bipush ((nI (15))) d_Mo_pass_119 (by decide) ?_
    refine er_icmp_ne 136 d_Mo_pass_121 (by decide) (fun _ => ?_) (fun z => absurd z (by decide))
    refine er_iload_n d_Mo_pass_136 rfl ?_
    refine er_bipush ((nI (12))) d_Mo_pass_137 (by decide) ?_
    refine er_icmp_ne 163 d_Mo_pass_139 (by decide) (fun _ => ?_) (fun z => absurd z (by decide))
    refine er_iload_n d_Mo_pass_163 rfl ?_
    refine er_bipush ((nI (14))) d_Mo_pass_164 (by decide) ?_
    refine er_icmp_ne 193 d_Mo_pass_166 (by decide) (fun _ => ?_) (fun z => absurd z (by decide))
    refine er_iload_n d_Mo_pass_193 rfl ?_
    refine er_bipush ((nI (19))) d_Mo_pass_194 (by decide) ?_
    refine er_icmp_ne 207 d_Mo_pass_196 (by decide) (fun _ => ?_) (fun z => absurd z (by decide))
    refine er_iload_n d_Mo_pass_207 rfl ?_
    refine er_bipush ((nI (24))) d_Mo_pass_208 (by decide) ?_
    refine er_icmp_ne 228 d_Mo_pass_210 (by decide) (fun _ => ?_) (fun z => absurd z (by decide))
    refine er_aload_n d_Mo_pass_228 rfl ?_
    refine er_iload_n d_Mo_pass_229 rfl ?_
    refine er_callV (As := [.int (nI 2)]) d_Mo_pass_230 k_Mo_pass_182 (jl_sn (by decide) (jl_ss hO)) rfl rfl rfl (Nat.le_of_ble_eq_true rfl) (by decide) (by decide) (mo_puts hl (hmb.s22.s40).1 (hmb.s22.s40).2.1 (by omega)) ?_
    show jl_E l G m_Mo_pass (0, 0) 233 [some (.ref 22), some (.int (nI m)), some (.int (nI pc)), some (.int (nI 2)), some (.int (nI n)), some (.int (en (topO r h)))] [.int (nI 0)] ((σ.set (22) (.inr (7, [.int (fa), .ref 23, .ref 24, .ref 25, .ref 26, .ref 27, .ref 28, .ref 29, .ref 30, .ref 31, .ref 32, .ref 33, .ref 34, .ref 35, .ref 36, .ref 37, .int (vf), .int (wh), .int (wy), .ref 38, .ref 39, .ref 40, .ref 41, .int (nI ((h) - (1))), .ref 42, .ref 43, .ref 44, .ref 45, .ref 46, .ref 47, .ref 48, .ref 49, .int (dp), .ref 50, .ref 51, .ref 52, .int (md), .int (ov), .int (oh), .int (dn), .int (an)]))).set (40) (.inl (0, 6, .inl (fun j => en ((va_up lo (n) ((topO r h))) j))))) P
    refine er_iconst ((nI (1))) d_Mo_pass_233 (by decide) ?_
    refine er_icmp_ne 242 d_Mo_pass_234 (by decide) (fun _ => ?_) (fun z => absurd z (by decide))
    exact er_vret d_Mo_pass_242 rfl (hT _ _ _ ((hrl.low htk).up hn) (ob_up hlo (show ob 16 (topO r h) by unfold topO; split; (intro z hz; cases hz); exact hrv.ob _)) hsk (hmb.s22.s40) ((FrM.refl.set (by omega)).set (by omega))) (by decide) (by decide)
theorem mo_pass_3 (hl : l.stackTraces = false) {P : jl_O → jl_S → Prop} {m pc h : Nat} {r : Rw} {x : Int32} (hmb : MB σ tb pr ow ft hs u1 u2 ur ul uo ua uc us ut uk fa vf wh wy (nI h) dp md ov oh dn an lo sk kp mm fm) (hok : WoOk tb pr ow fi) (hK : MoK u1 u2 ur ul uo uc us ut uk) (hm : m < 24) (hpc : pc < 24) (ho : uo (24 * m + pc) = 3) (hx : ua (24 * m + pc) = x) (hrl : RlM r lo sk h) (hrv : rv r h) (hlo : ∀ j, ob 16 (lo j)) (hsk : ∀ j, ob 16 (sk j)) (htk : 2 ≤ h) (hp5 : h - 2 + 1 ≤ 5) (hT : ∀ lo' sk' σ', RlM (psh (low r h 2) (h - 2) (some 0)) lo' sk' (h - 2 + 1) → (∀ j, ob 16 (lo' j)) → (∀ j, ob 16 (sk' j)) → MB σ' tb pr ow ft hs u1 u2 ur ul uo ua uc us ut uk fa vf wh wy (nI (h - 2 + 1)) dp md ov oh dn an lo' sk' kp mm fm → FrM σ σ' → P (.inl none) σ') : jl_mE l G m_Mo_pass [.ref 22, .int (nI m), .int (nI pc)] σ P := by
  obtain ⟨hO, hw, hu, hr, hkp, hmp, hfm⟩ := id hmb; obtain ⟨r1, r2⟩ := id hr
  obtain ⟨h23, h24, h25, h26, h27⟩ := id hw
  obtain ⟨h28, h29, h30, h31, h32, h33, h34, h35, h36, h37⟩ := id hu
  obtain ⟨hk1, hk2, hk3, hk4, hk5, hk6⟩ := hK.1 m hm
  have hh5 := hrv.2.1
  refine jl_ofE (as := [.ref 22, .int (nI m), .int (nI pc)]) rfl (by decide) hl (jl_cc rfl (jl_cc rfl (jl_cc rfl jl_ca))) (Nat.le_of_ble_eq_true rfl) ?_
  show jl_E l G m_Mo_pass (0, 0) 0 [some (.ref 22), some (.int (nI m)), some (.int (nI pc)), none, none, none] [] (σ) P
  refine er_aload_n d_Mo_pass_0 rfl ?_
  refine er_getf d_Mo_pass_1 f_Mo_pass_38 hO rfl ?_
  refine er_bipush ((nI (24))) d_Mo_pass_4 (by decide) ?_
  refine er_iload_n d_Mo_pass_6 rfl ?_
  refine er_imulN d_Mo_pass_7 ?_
  refine er_iload_n d_Mo_pass_8 rfl ?_
  refine er_iaddN d_Mo_pass_9 ?_
  refine er_ialdQ (v := (nI (3))) d_Mo_pass_10 h32 (by omega) (by omega) (congrArg nI ho) ?_
  refine er_istore_n d_Mo_pass_11 (by decide) ?_
  show jl_E l G m_Mo_pass (0, 0) 12 [some (.ref 22), some (.int (nI m)), some (.int (nI pc)), some (.int (nI 3)), none, none] [] (σ) P
  refine er_aload_n d_Mo_pass_12 rfl ?_
  refine er_getf d_Mo_pass_13 f_Mo_pass_41 hO rfl ?_
  refine er_bipush ((nI (24))) d_Mo_pass_16 (by decide) ?_
  refine er_iload_n d_Mo_pass_18 rfl ?_
  refine er_imulN d_Mo_pass_19 ?_
  refine er_iload_n d_Mo_pass_20 rfl ?_
  refine er_iaddN d_Mo_pass_21 ?_
  refine er_ialdQ (v := (x)) d_Mo_pass_22 h33 (by omega) (by omega) (hx) ?_
  refine er_istore d_Mo_pass_23 (by decide) ?_
  show jl_E l G m_Mo_pass (0, 0) 25 [some (.ref 22), some (.int (nI m)), some (.int (nI pc)), some (.int (nI 3)), some (.int (x)), none] [] (σ) P
  refine er_aload_n d_Mo_pass_25 rfl ?_
  refine er_getf d_Mo_pass_26 f_Mo_pass_179 hO rfl ?_
  refine er_if_leN 46 d_Mo_pass_29 (by decide) (by omega) (fun c1 => ?_) (fun c1 => ?_)
  · refine er_iconst ((-1)) d_Mo_pass_46 (by decide) ?_
    refine er_istore d_Mo_pass_47 (by decide) ?_
    show jl_E l G m_Mo_pass (0, 0) 49 [some (.ref 22), some (.int (nI m)), some (.int (nI pc)), some (.int (nI 3)), some (.int (x)), some (.int (-1))] [] (σ) P
    have htp : topO r h = none := by unfold topO; rw [if_pos (by omega)]
    rw [show (-1 : Int32) = en (topO r h) by rw [htp]; rfl]
    show jl_E l G m_Mo_pass (0, 0) 49 [some (.ref 22), some (.int (nI m)), some (.int (nI pc)), some (.int (nI 3)), some (.int (x)), some (.int (en (topO r h)))] [] (σ) P
    refine er_aload_n d_Mo_pass_49 rfl ?_
    refine er_dup d_Mo_pass_50 rfl ?_
    refine er_getf d_Mo_pass_51 f_Mo_pass_179 hO rfl ?_
    refine er_aload_n d_Mo_pass_54 rfl ?_
    refine er_iload_n d_Mo_pass_55 rfl ?_
    refine er_iload d_Mo_pass_56 rfl ?_
    refine er_callV (As := [.int (nI 3), .int (x)]) d_Mo_pass_58 k_Mo_pass_176 hO rfl rfl rfl (Nat.le_of_ble_eq_true rfl) (by decide) (by decide) (mo_tk_3 hl hO hw hu) ?_
    show jl_E l G m_Mo_pass (0, 0) 61 [some (.ref 22), some (.int (nI m)), some (.int (nI pc)), some (.int (nI 3)), some (.int (x)), some (.int (en (topO r h)))] [.int (nI 2), .int (nI h), .ref 22] (σ) P
    refine er_isubN d_Mo_pass_61 (by omega) ?_
    refine er_putf d_Mo_pass_62 p_Mo_pass_179 hO (Nat.le_of_ble_eq_true rfl) jl_fit_int ?_
    show jl_E l G m_Mo_pass (0, 0) 65 [some (.ref 22), some (.int (nI m)), some (.int (nI pc)), some (.int (nI 3)), some (.int (x)), some (.int (en (topO r h)))] [] (σ.set (22) (.inr (7, [.int (fa), .ref 23, .ref 24, .ref 25, .ref 26, .ref 27, .ref 28, .ref 29, .ref 30, .ref 31, .ref 32, .ref 33, .ref 34, .ref 35, .ref 36, .ref 37, .int (vf), .int (wh), .int (wy), .ref 38, .ref 39, .ref 40, .ref 41, .int (nI ((h) - (2))), .ref 42, .ref 43, .ref 44, .ref 45, .ref 46, .ref 47, .ref 48, .ref 49, .int (dp), .ref 50, .ref 51, .ref 52, .int (md), .int (ov), .int (oh), .int (dn), .int (an)]))) P
    refine er_iload_n d_Mo_pass_65 rfl ?_
    refine er_iconst ((nI (2))) d_Mo_pass_66 (by decide) ?_
    refine er_icmp_ne 79 d_Mo_pass_67 (by decide) (fun _ => ?_) (fun z => absurd z (by decide))
    refine er_iload_n d_Mo_pass_79 rfl ?_
    refine er_iconst ((nI (1))) d_Mo_pass_80 (by decide) ?_
    refine er_icmp_ne 98 d_Mo_pass_81 (by decide) (fun _ => ?_) (fun z => absurd z (by decide))
    refine er_iload_n d_Mo_pass_98 rfl ?_
    refine er_bipush ((nI (10))) d_Mo_pass_99 (by decide) ?_
    refine er_icmp_ne 112 d_Mo_pass_101 (by decide) (fun _ => ?_) (fun z => absurd z (by decide))
    refine er_iload_n d_Mo_pass_112 rfl ?_
    refine er_bipush ((nI (11))) d_Mo_pass_113 (by decide) ?_
    refine er_icmp_eq 124 d_Mo_pass_115 (by decide) (fun z => absurd z (by decide)) (fun _ => ?_)
    refine er_iload_n d_Mo_pass_118 rfl ?_
    refine er_bipush ((nI (15))) d_Mo_pass_119 (by decide) ?_
    refine er_icmp_ne 136 d_Mo_pass_121 (by decide) (fun _ => ?_) (fun z => absurd z (by decide))
    refine er_iload_n d_Mo_pass_136 rfl ?_
    refine er_bipush ((nI (12))) d_Mo_pass_137 (by decide) ?_
    refine er_icmp_ne 163 d_Mo_pass_139 (by decide) (fun _ => ?_) (fun z => absurd z (by decide))
    refine er_iload_n d_Mo_pass_163 rfl ?_
    refine er_bipush ((nI (14))) d_Mo_pass_164 (by decide) ?_
    refine er_icmp_ne 193 d_Mo_pass_166 (by decide) (fun _ => ?_) (fun z => absurd z (by decide))
    refine er_iload_n d_Mo_pass_193 rfl ?_
    refine er_bipush ((nI (19))) d_Mo_pass_194 (by decide) ?_
    refine er_icmp_ne 207 d_Mo_pass_196 (by decide) (fun _ => ?_) (fun z => absurd z (by decide))
    refine er_iload_n d_Mo_pass_207 rfl ?_
    refine er_bipush ((nI (24))) d_Mo_pass_208 (by decide) ?_
    refine er_icmp_ne 228 d_Mo_pass_210 (by decide) (fun _ => ?_) (fun z => absurd z (by decide))
    refine er_aload_n d_Mo_pass_228 rfl ?_
    refine er_iload_n d_Mo_pass_229 rfl ?_
    refine er_callV (As := [.int (nI 3)]) d_Mo_pass_230 k_Mo_pass_182 (jl_ss hO) rfl rfl rfl (Nat.le_of_ble_eq_true rfl) (by decide) (by decide) (mo_puts hl (hmb.s22).1 (hmb.s22).2.1 (by omega)) ?_
    show jl_E l G m_Mo_pass (0, 0) 233 [some (.ref 22), some (.int (nI m)), some (.int (nI pc)), some (.int (nI 3)), some (.int (x)), some (.int (en (topO r h)))] [.int (nI 1)] (σ.set (22) (.inr (7, [.int (fa), .ref 23, .ref 24, .ref 25, .ref 26, .ref 27, .ref 28, .ref 29, .ref 30, .ref 31, .ref 32, .ref 33, .ref 34, .ref 35, .ref 36, .ref 37, .int (vf), .int (wh), .int (wy), .ref 38, .ref 39, .ref 40, .ref 41, .int (nI ((h) - (2))), .ref 42, .ref 43, .ref 44, .ref 45, .ref 46, .ref 47, .ref 48, .ref 49, .int (dp), .ref 50, .ref 51, .ref 52, .int (md), .int (ov), .int (oh), .int (dn), .int (an)]))) P
    refine er_iconst ((nI (1))) d_Mo_pass_233 (by decide) ?_
    refine er_icmp_ne 242 d_Mo_pass_234 (by decide) (fun z => absurd rfl z) (fun _ => ?_)
    refine er_aload_n d_Mo_pass_237 rfl ?_
    refine er_iconst ((nI (0))) d_Mo_pass_238 (by decide) ?_
    refine er_callV (As := [.int (nI 0)]) d_Mo_pass_239 k_Mo_pass_192 (jl_ss hO) rfl rfl rfl (Nat.le_of_ble_eq_true rfl) (by decide) (by decide) (mo_push (h := (h) - (2)) (t := (some 0)) hl (hmb.s22).1 (hmb.s22).2.2.2.1.2 (by omega)) ?_
    show jl_E l G m_Mo_pass (0, 0) 242 [some (.ref 22), some (.int (nI m)), some (.int (nI pc)), some (.int (nI 3)), some (.int (x)), some (.int (en (topO r h)))] [] (((σ.set (22) (.inr (7, [.int (fa), .ref 23, .ref 24, .ref 25, .ref 26, .ref 27, .ref 28, .ref 29, .ref 30, .ref 31, .ref 32, .ref 33, .ref 34, .ref 35, .ref 36, .ref 37, .int (vf), .int (wh), .int (wy), .ref 38, .ref 39, .ref 40, .ref 41, .int (nI ((h) - (2))), .ref 42, .ref 43, .ref 44, .ref 45, .ref 46, .ref 47, .ref 48, .ref 49, .int (dp), .ref 50, .ref 51, .ref 52, .int (md), .int (ov), .int (oh), .int (dn), .int (an)]))).set (41) (.inl (0, 8, .inl (fun j => en ((va_up sk ((h) - (2)) (some 0)) j))))).set (22) (.inr (7, [.int (fa), .ref 23, .ref 24, .ref 25, .ref 26, .ref 27, .ref 28, .ref 29, .ref 30, .ref 31, .ref 32, .ref 33, .ref 34, .ref 35, .ref 36, .ref 37, .int (vf), .int (wh), .int (wy), .ref 38, .ref 39, .ref 40, .ref 41, .int (nI ((h) - (2) + 1)), .ref 42, .ref 43, .ref 44, .ref 45, .ref 46, .ref 47, .ref 48, .ref 49, .int (dp), .ref 50, .ref 51, .ref 52, .int (md), .int (ov), .int (oh), .int (dn), .int (an)]))) P
    exact er_vret d_Mo_pass_242 rfl (hT _ _ _ (hrl.low htk).psh hlo (ob_up hsk (ob_s (by omega))) (hmb.s22.s41.s22) (((FrM.refl.set (by omega)).set (by omega)).set (by omega))) (by decide) (by decide)
  · refine er_aload_n d_Mo_pass_32 rfl ?_
    refine er_getf d_Mo_pass_33 f_Mo_pass_72 hO rfl ?_
    refine er_aload_n d_Mo_pass_36 rfl ?_
    refine er_getf d_Mo_pass_37 f_Mo_pass_179 hO rfl ?_
    refine er_iconst ((nI (1))) d_Mo_pass_40 (by decide) ?_
    refine er_isubN d_Mo_pass_41 (by omega) ?_
    refine er_ialdQ (v := (en (topO r h))) d_Mo_pass_42 r2 (by omega) (by omega) (congrArg en (show sk (h - 1) = topO r h by unfold topO; rw [if_neg (by omega), hrl.2 (h - 1) (by omega)]; congr 1; omega)) ?_
    refine er_goto 47 d_Mo_pass_43 (by decide) ?_
    refine er_istore d_Mo_pass_47 (by decide) ?_
    show jl_E l G m_Mo_pass (0, 0) 49 [some (.ref 22), some (.int (nI m)), some (.int (nI pc)), some (.int (nI 3)), some (.int (x)), some (.int (en (topO r h)))] [] (σ) P
    refine er_aload_n d_Mo_pass_49 rfl ?_
    refine er_dup d_Mo_pass_50 rfl ?_
    refine er_getf d_Mo_pass_51 f_Mo_pass_179 hO rfl ?_
    refine er_aload_n d_Mo_pass_54 rfl ?_
    refine er_iload_n d_Mo_pass_55 rfl ?_
    refine er_iload d_Mo_pass_56 rfl ?_
    refine er_callV (As := [.int (nI 3), .int (x)]) d_Mo_pass_58 k_Mo_pass_176 hO rfl rfl rfl (Nat.le_of_ble_eq_true rfl) (by decide) (by decide) (mo_tk_3 hl hO hw hu) ?_
    show jl_E l G m_Mo_pass (0, 0) 61 [some (.ref 22), some (.int (nI m)), some (.int (nI pc)), some (.int (nI 3)), some (.int (x)), some (.int (en (topO r h)))] [.int (nI 2), .int (nI h), .ref 22] (σ) P
    refine er_isubN d_Mo_pass_61 (by omega) ?_
    refine er_putf d_Mo_pass_62 p_Mo_pass_179 hO (Nat.le_of_ble_eq_true rfl) jl_fit_int ?_
    show jl_E l G m_Mo_pass (0, 0) 65 [some (.ref 22), some (.int (nI m)), some (.int (nI pc)), some (.int (nI 3)), some (.int (x)), some (.int (en (topO r h)))] [] (σ.set (22) (.inr (7, [.int (fa), .ref 23, .ref 24, .ref 25, .ref 26, .ref 27, .ref 28, .ref 29, .ref 30, .ref 31, .ref 32, .ref 33, .ref 34, .ref 35, .ref 36, .ref 37, .int (vf), .int (wh), .int (wy), .ref 38, .ref 39, .ref 40, .ref 41, .int (nI ((h) - (2))), .ref 42, .ref 43, .ref 44, .ref 45, .ref 46, .ref 47, .ref 48, .ref 49, .int (dp), .ref 50, .ref 51, .ref 52, .int (md), .int (ov), .int (oh), .int (dn), .int (an)]))) P
    refine er_iload_n d_Mo_pass_65 rfl ?_
    refine er_iconst ((nI (2))) d_Mo_pass_66 (by decide) ?_
    refine er_icmp_ne 79 d_Mo_pass_67 (by decide) (fun _ => ?_) (fun z => absurd z (by decide))
    refine er_iload_n d_Mo_pass_79 rfl ?_
    refine er_iconst ((nI (1))) d_Mo_pass_80 (by decide) ?_
    refine er_icmp_ne 98 d_Mo_pass_81 (by decide) (fun _ => ?_) (fun z => absurd z (by decide))
    refine er_iload_n d_Mo_pass_98 rfl ?_
    refine er_bipush ((nI (10))) d_Mo_pass_99 (by decide) ?_
    refine er_icmp_ne 112 d_Mo_pass_101 (by decide) (fun _ => ?_) (fun z => absurd z (by decide))
    refine er_iload_n d_Mo_pass_112 rfl ?_
    refine er_bipush ((nI (11))) d_Mo_pass_113 (by decide) ?_
    refine er_icmp_eq 124 d_Mo_pass_115 (by decide) (fun z => absurd z (by decide)) (fun _ => ?_)
    refine er_iload_n d_Mo_pass_118 rfl ?_
    refine er_bipush ((nI (15))) d_Mo_pass_119 (by decide) ?_
    refine er_icmp_ne 136 d_Mo_pass_121 (by decide) (fun _ => ?_) (fun z => absurd z (by decide))
    refine er_iload_n d_Mo_pass_136 rfl ?_
    refine er_bipush ((nI (12))) d_Mo_pass_137 (by decide) ?_
    refine er_icmp_ne 163 d_Mo_pass_139 (by decide) (fun _ => ?_) (fun z => absurd z (by decide))
    refine er_iload_n d_Mo_pass_163 rfl ?_
    refine er_bipush ((nI (14))) d_Mo_pass_164 (by decide) ?_
    refine er_icmp_ne 193 d_Mo_pass_166 (by decide) (fun _ => ?_) (fun z => absurd z (by decide))
    refine er_iload_n d_Mo_pass_193 rfl ?_
    refine er_bipush ((nI (19))) d_Mo_pass_194 (by decide) ?_
    refine er_icmp_ne 207 d_Mo_pass_196 (by decide) (fun _ => ?_) (fun z => absurd z (by decide))
    refine er_iload_n d_Mo_pass_207 rfl ?_
    refine er_bipush ((nI (24))) d_Mo_pass_208 (by decide) ?_
    refine er_icmp_ne 228 d_Mo_pass_210 (by decide) (fun _ => ?_) (fun z => absurd z (by decide))
    refine er_aload_n d_Mo_pass_228 rfl ?_
    refine er_iload_n d_Mo_pass_229 rfl ?_
    refine er_callV (As := [.int (nI 3)]) d_Mo_pass_230 k_Mo_pass_182 (jl_ss hO) rfl rfl rfl (Nat.le_of_ble_eq_true rfl) (by decide) (by decide) (mo_puts hl (hmb.s22).1 (hmb.s22).2.1 (by omega)) ?_
    show jl_E l G m_Mo_pass (0, 0) 233 [some (.ref 22), some (.int (nI m)), some (.int (nI pc)), some (.int (nI 3)), some (.int (x)), some (.int (en (topO r h)))] [.int (nI 1)] (σ.set (22) (.inr (7, [.int (fa), .ref 23, .ref 24, .ref 25, .ref 26, .ref 27, .ref 28, .ref 29, .ref 30, .ref 31, .ref 32, .ref 33, .ref 34, .ref 35, .ref 36, .ref 37, .int (vf), .int (wh), .int (wy), .ref 38, .ref 39, .ref 40, .ref 41, .int (nI ((h) - (2))), .ref 42, .ref 43, .ref 44, .ref 45, .ref 46, .ref 47, .ref 48, .ref 49, .int (dp), .ref 50, .ref 51, .ref 52, .int (md), .int (ov), .int (oh), .int (dn), .int (an)]))) P
    refine er_iconst ((nI (1))) d_Mo_pass_233 (by decide) ?_
    refine er_icmp_ne 242 d_Mo_pass_234 (by decide) (fun z => absurd rfl z) (fun _ => ?_)
    refine er_aload_n d_Mo_pass_237 rfl ?_
    refine er_iconst ((nI (0))) d_Mo_pass_238 (by decide) ?_
    refine er_callV (As := [.int (nI 0)]) d_Mo_pass_239 k_Mo_pass_192 (jl_ss hO) rfl rfl rfl (Nat.le_of_ble_eq_true rfl) (by decide) (by decide) (mo_push (h := (h) - (2)) (t := (some 0)) hl (hmb.s22).1 (hmb.s22).2.2.2.1.2 (by omega)) ?_
    show jl_E l G m_Mo_pass (0, 0) 242 [some (.ref 22), some (.int (nI m)), some (.int (nI pc)), some (.int (nI 3)), some (.int (x)), some (.int (en (topO r h)))] [] (((σ.set (22) (.inr (7, [.int (fa), .ref 23, .ref 24, .ref 25, .ref 26, .ref 27, .ref 28, .ref 29, .ref 30, .ref 31, .ref 32, .ref 33, .ref 34, .ref 35, .ref 36, .ref 37, .int (vf), .int (wh), .int (wy), .ref 38, .ref 39, .ref 40, .ref 41, .int (nI ((h) - (2))), .ref 42, .ref 43, .ref 44, .ref 45, .ref 46, .ref 47, .ref 48, .ref 49, .int (dp), .ref 50, .ref 51, .ref 52, .int (md), .int (ov), .int (oh), .int (dn), .int (an)]))).set (41) (.inl (0, 8, .inl (fun j => en ((va_up sk ((h) - (2)) (some 0)) j))))).set (22) (.inr (7, [.int (fa), .ref 23, .ref 24, .ref 25, .ref 26, .ref 27, .ref 28, .ref 29, .ref 30, .ref 31, .ref 32, .ref 33, .ref 34, .ref 35, .ref 36, .ref 37, .int (vf), .int (wh), .int (wy), .ref 38, .ref 39, .ref 40, .ref 41, .int (nI ((h) - (2) + 1)), .ref 42, .ref 43, .ref 44, .ref 45, .ref 46, .ref 47, .ref 48, .ref 49, .int (dp), .ref 50, .ref 51, .ref 52, .int (md), .int (ov), .int (oh), .int (dn), .int (an)]))) P
    exact er_vret d_Mo_pass_242 rfl (hT _ _ _ (hrl.low htk).psh hlo (ob_up hsk (ob_s (by omega))) (hmb.s22.s41.s22) (((FrM.refl.set (by omega)).set (by omega)).set (by omega))) (by decide) (by decide)
theorem mo_pass_4 (hl : l.stackTraces = false) {P : jl_O → jl_S → Prop} {m pc h : Nat} {r : Rw} {x : Int32} (hmb : MB σ tb pr ow ft hs u1 u2 ur ul uo ua uc us ut uk fa vf wh wy (nI h) dp md ov oh dn an lo sk kp mm fm) (hok : WoOk tb pr ow fi) (hK : MoK u1 u2 ur ul uo uc us ut uk) (hm : m < 24) (hpc : pc < 24) (ho : uo (24 * m + pc) = 4) (hx : ua (24 * m + pc) = x) (hrl : RlM r lo sk h) (hrv : rv r h) (hlo : ∀ j, ob 16 (lo j)) (hsk : ∀ j, ob 16 (sk j)) (htk : 2 ≤ h) (hp5 : h - 2 + 1 ≤ 5) (hT : ∀ lo' sk' σ', RlM (psh (low r h 2) (h - 2) (some 0)) lo' sk' (h - 2 + 1) → (∀ j, ob 16 (lo' j)) → (∀ j, ob 16 (sk' j)) → MB σ' tb pr ow ft hs u1 u2 ur ul uo ua uc us ut uk fa vf wh wy (nI (h - 2 + 1)) dp md ov oh dn an lo' sk' kp mm fm → FrM σ σ' → P (.inl none) σ') : jl_mE l G m_Mo_pass [.ref 22, .int (nI m), .int (nI pc)] σ P := by
  obtain ⟨hO, hw, hu, hr, hkp, hmp, hfm⟩ := id hmb; obtain ⟨r1, r2⟩ := id hr
  obtain ⟨h23, h24, h25, h26, h27⟩ := id hw
  obtain ⟨h28, h29, h30, h31, h32, h33, h34, h35, h36, h37⟩ := id hu
  obtain ⟨hk1, hk2, hk3, hk4, hk5, hk6⟩ := hK.1 m hm
  have hh5 := hrv.2.1
  refine jl_ofE (as := [.ref 22, .int (nI m), .int (nI pc)]) rfl (by decide) hl (jl_cc rfl (jl_cc rfl (jl_cc rfl jl_ca))) (Nat.le_of_ble_eq_true rfl) ?_
  show jl_E l G m_Mo_pass (0, 0) 0 [some (.ref 22), some (.int (nI m)), some (.int (nI pc)), none, none, none] [] (σ) P
  refine er_aload_n d_Mo_pass_0 rfl ?_
  refine er_getf d_Mo_pass_1 f_Mo_pass_38 hO rfl ?_
  refine er_bipush ((nI (24))) d_Mo_pass_4 (by decide) ?_
  refine er_iload_n d_Mo_pass_6 rfl ?_
  refine er_imulN d_Mo_pass_7 ?_
  refine er_iload_n d_Mo_pass_8 rfl ?_
  refine er_iaddN d_Mo_pass_9 ?_
  refine er_ialdQ (v := (nI (4))) d_Mo_pass_10 h32 (by omega) (by omega) (congrArg nI ho) ?_
  refine er_istore_n d_Mo_pass_11 (by decide) ?_
  show jl_E l G m_Mo_pass (0, 0) 12 [some (.ref 22), some (.int (nI m)), some (.int (nI pc)), some (.int (nI 4)), none, none] [] (σ) P
  refine er_aload_n d_Mo_pass_12 rfl ?_
  refine er_getf d_Mo_pass_13 f_Mo_pass_41 hO rfl ?_
  refine er_bipush ((nI (24))) d_Mo_pass_16 (by decide) ?_
  refine er_iload_n d_Mo_pass_18 rfl ?_
  refine er_imulN d_Mo_pass_19 ?_
  refine er_iload_n d_Mo_pass_20 rfl ?_
  refine er_iaddN d_Mo_pass_21 ?_
  refine er_ialdQ (v := (x)) d_Mo_pass_22 h33 (by omega) (by omega) (hx) ?_
  refine er_istore d_Mo_pass_23 (by decide) ?_
  show jl_E l G m_Mo_pass (0, 0) 25 [some (.ref 22), some (.int (nI m)), some (.int (nI pc)), some (.int (nI 4)), some (.int (x)), none] [] (σ) P
  refine er_aload_n d_Mo_pass_25 rfl ?_
  refine er_getf d_Mo_pass_26 f_Mo_pass_179 hO rfl ?_
  refine er_if_leN 46 d_Mo_pass_29 (by decide) (by omega) (fun c1 => ?_) (fun c1 => ?_)
  · refine er_iconst ((-1)) d_Mo_pass_46 (by decide) ?_
    refine er_istore d_Mo_pass_47 (by decide) ?_
    show jl_E l G m_Mo_pass (0, 0) 49 [some (.ref 22), some (.int (nI m)), some (.int (nI pc)), some (.int (nI 4)), some (.int (x)), some (.int (-1))] [] (σ) P
    have htp : topO r h = none := by unfold topO; rw [if_pos (by omega)]
    rw [show (-1 : Int32) = en (topO r h) by rw [htp]; rfl]
    show jl_E l G m_Mo_pass (0, 0) 49 [some (.ref 22), some (.int (nI m)), some (.int (nI pc)), some (.int (nI 4)), some (.int (x)), some (.int (en (topO r h)))] [] (σ) P
    refine er_aload_n d_Mo_pass_49 rfl ?_
    refine er_dup d_Mo_pass_50 rfl ?_
    refine er_getf d_Mo_pass_51 f_Mo_pass_179 hO rfl ?_
    refine er_aload_n d_Mo_pass_54 rfl ?_
    refine er_iload_n d_Mo_pass_55 rfl ?_
    refine er_iload d_Mo_pass_56 rfl ?_
    refine er_callV (As := [.int (nI 4), .int (x)]) d_Mo_pass_58 k_Mo_pass_176 hO rfl rfl rfl (Nat.le_of_ble_eq_true rfl) (by decide) (by decide) (mo_tk_4 hl hO hw hu) ?_
    show jl_E l G m_Mo_pass (0, 0) 61 [some (.ref 22), some (.int (nI m)), some (.int (nI pc)), some (.int (nI 4)), some (.int (x)), some (.int (en (topO r h)))] [.int (nI 2), .int (nI h), .ref 22] (σ) P
    refine er_isubN d_Mo_pass_61 (by omega) ?_
    refine er_putf d_Mo_pass_62 p_Mo_pass_179 hO (Nat.le_of_ble_eq_true rfl) jl_fit_int ?_
    show jl_E l G m_Mo_pass (0, 0) 65 [some (.ref 22), some (.int (nI m)), some (.int (nI pc)), some (.int (nI 4)), some (.int (x)), some (.int (en (topO r h)))] [] (σ.set (22) (.inr (7, [.int (fa), .ref 23, .ref 24, .ref 25, .ref 26, .ref 27, .ref 28, .ref 29, .ref 30, .ref 31, .ref 32, .ref 33, .ref 34, .ref 35, .ref 36, .ref 37, .int (vf), .int (wh), .int (wy), .ref 38, .ref 39, .ref 40, .ref 41, .int (nI ((h) - (2))), .ref 42, .ref 43, .ref 44, .ref 45, .ref 46, .ref 47, .ref 48, .ref 49, .int (dp), .ref 50, .ref 51, .ref 52, .int (md), .int (ov), .int (oh), .int (dn), .int (an)]))) P
    refine er_iload_n d_Mo_pass_65 rfl ?_
    refine er_iconst ((nI (2))) d_Mo_pass_66 (by decide) ?_
    refine er_icmp_ne 79 d_Mo_pass_67 (by decide) (fun _ => ?_) (fun z => absurd z (by decide))
    refine er_iload_n d_Mo_pass_79 rfl ?_
    refine er_iconst ((nI (1))) d_Mo_pass_80 (by decide) ?_
    refine er_icmp_ne 98 d_Mo_pass_81 (by decide) (fun _ => ?_) (fun z => absurd z (by decide))
    refine er_iload_n d_Mo_pass_98 rfl ?_
    refine er_bipush ((nI (10))) d_Mo_pass_99 (by decide) ?_
    refine er_icmp_ne 112 d_Mo_pass_101 (by decide) (fun _ => ?_) (fun z => absurd z (by decide))
    refine er_iload_n d_Mo_pass_112 rfl ?_
    refine er_bipush ((nI (11))) d_Mo_pass_113 (by decide) ?_
    refine er_icmp_eq 124 d_Mo_pass_115 (by decide) (fun z => absurd z (by decide)) (fun _ => ?_)
    refine er_iload_n d_Mo_pass_118 rfl ?_
    refine er_bipush ((nI (15))) d_Mo_pass_119 (by decide) ?_
    refine er_icmp_ne 136 d_Mo_pass_121 (by decide) (fun _ => ?_) (fun z => absurd z (by decide))
    refine er_iload_n d_Mo_pass_136 rfl ?_
    refine er_bipush ((nI (12))) d_Mo_pass_137 (by decide) ?_
    refine er_icmp_ne 163 d_Mo_pass_139 (by decide) (fun _ => ?_) (fun z => absurd z (by decide))
    refine er_iload_n d_Mo_pass_163 rfl ?_
    refine er_bipush ((nI (14))) d_Mo_pass_164 (by decide) ?_
    refine er_icmp_ne 193 d_Mo_pass_166 (by decide) (fun _ => ?_) (fun z => absurd z (by decide))
    refine er_iload_n d_Mo_pass_193 rfl ?_
    refine er_bipush ((nI (19))) d_Mo_pass_194 (by decide) ?_
    refine er_icmp_ne 207 d_Mo_pass_196 (by decide) (fun _ => ?_) (fun z => absurd z (by decide))
    refine er_iload_n d_Mo_pass_207 rfl ?_
    refine er_bipush ((nI (24))) d_Mo_pass_208 (by decide) ?_
    refine er_icmp_ne 228 d_Mo_pass_210 (by decide) (fun _ => ?_) (fun z => absurd z (by decide))
    refine er_aload_n d_Mo_pass_228 rfl ?_
    refine er_iload_n d_Mo_pass_229 rfl ?_
    refine er_callV (As := [.int (nI 4)]) d_Mo_pass_230 k_Mo_pass_182 (jl_ss hO) rfl rfl rfl (Nat.le_of_ble_eq_true rfl) (by decide) (by decide) (mo_puts hl (hmb.s22).1 (hmb.s22).2.1 (by omega)) ?_
    show jl_E l G m_Mo_pass (0, 0) 233 [some (.ref 22), some (.int (nI m)), some (.int (nI pc)), some (.int (nI 4)), some (.int (x)), some (.int (en (topO r h)))] [.int (nI 1)] (σ.set (22) (.inr (7, [.int (fa), .ref 23, .ref 24, .ref 25, .ref 26, .ref 27, .ref 28, .ref 29, .ref 30, .ref 31, .ref 32, .ref 33, .ref 34, .ref 35, .ref 36, .ref 37, .int (vf), .int (wh), .int (wy), .ref 38, .ref 39, .ref 40, .ref 41, .int (nI ((h) - (2))), .ref 42, .ref 43, .ref 44, .ref 45, .ref 46, .ref 47, .ref 48, .ref 49, .int (dp), .ref 50, .ref 51, .ref 52, .int (md), .int (ov), .int (oh), .int (dn), .int (an)]))) P
    refine er_iconst ((nI (1))) d_Mo_pass_233 (by decide) ?_
    refine er_icmp_ne 242 d_Mo_pass_234 (by decide) (fun z => absurd rfl z) (fun _ => ?_)
    refine er_aload_n d_Mo_pass_237 rfl ?_
    refine er_iconst ((nI (0))) d_Mo_pass_238 (by decide) ?_
    refine er_callV (As := [.int (nI 0)]) d_Mo_pass_239 k_Mo_pass_192 (jl_ss hO) rfl rfl rfl (Nat.le_of_ble_eq_true rfl) (by decide) (by decide) (mo_push (h := (h) - (2)) (t := (some 0)) hl (hmb.s22).1 (hmb.s22).2.2.2.1.2 (by omega)) ?_
    show jl_E l G m_Mo_pass (0, 0) 242 [some (.ref 22), some (.int (nI m)), some (.int (nI pc)), some (.int (nI 4)), some (.int (x)), some (.int (en (topO r h)))] [] (((σ.set (22) (.inr (7, [.int (fa), .ref 23, .ref 24, .ref 25, .ref 26, .ref 27, .ref 28, .ref 29, .ref 30, .ref 31, .ref 32, .ref 33, .ref 34, .ref 35, .ref 36, .ref 37, .int (vf), .int (wh), .int (wy), .ref 38, .ref 39, .ref 40, .ref 41, .int (nI ((h) - (2))), .ref 42, .ref 43, .ref 44, .ref 45, .ref 46, .ref 47, .ref 48, .ref 49, .int (dp), .ref 50, .ref 51, .ref 52, .int (md), .int (ov), .int (oh), .int (dn), .int (an)]))).set (41) (.inl (0, 8, .inl (fun j => en ((va_up sk ((h) - (2)) (some 0)) j))))).set (22) (.inr (7, [.int (fa), .ref 23, .ref 24, .ref 25, .ref 26, .ref 27, .ref 28, .ref 29, .ref 30, .ref 31, .ref 32, .ref 33, .ref 34, .ref 35, .ref 36, .ref 37, .int (vf), .int (wh), .int (wy), .ref 38, .ref 39, .ref 40, .ref 41, .int (nI ((h) - (2) + 1)), .ref 42, .ref 43, .ref 44, .ref 45, .ref 46, .ref 47, .ref 48, .ref 49, .int (dp), .ref 50, .ref 51, .ref 52, .int (md), .int (ov), .int (oh), .int (dn), .int (an)]))) P
    exact er_vret d_Mo_pass_242 rfl (hT _ _ _ (hrl.low htk).psh hlo (ob_up hsk (ob_s (by omega))) (hmb.s22.s41.s22) (((FrM.refl.set (by omega)).set (by omega)).set (by omega))) (by decide) (by decide)
  · refine er_aload_n d_Mo_pass_32 rfl ?_
    refine er_getf d_Mo_pass_33 f_Mo_pass_72 hO rfl ?_
    refine er_aload_n d_Mo_pass_36 rfl ?_
    refine er_getf d_Mo_pass_37 f_Mo_pass_179 hO rfl ?_
    refine er_iconst ((nI (1))) d_Mo_pass_40 (by decide) ?_
    refine er_isubN d_Mo_pass_41 (by omega) ?_
    refine er_ialdQ (v := (en (topO r h))) d_Mo_pass_42 r2 (by omega) (by omega) (congrArg en (show sk (h - 1) = topO r h by unfold topO; rw [if_neg (by omega), hrl.2 (h - 1) (by omega)]; congr 1; omega)) ?_
    refine er_goto 47 d_Mo_pass_43 (by decide) ?_
    refine er_istore d_Mo_pass_47 (by decide) ?_
    show jl_E l G m_Mo_pass (0, 0) 49 [some (.ref 22), some (.int (nI m)), some (.int (nI pc)), some (.int (nI 4)), some (.int (x)), some (.int (en (topO r h)))] [] (σ) P
    refine er_aload_n d_Mo_pass_49 rfl ?_
    refine er_dup d_Mo_pass_50 rfl ?_
    refine er_getf d_Mo_pass_51 f_Mo_pass_179 hO rfl ?_
    refine er_aload_n d_Mo_pass_54 rfl ?_
    refine er_iload_n d_Mo_pass_55 rfl ?_
    refine er_iload d_Mo_pass_56 rfl ?_
    refine er_callV (As := [.int (nI 4), .int (x)]) d_Mo_pass_58 k_Mo_pass_176 hO rfl rfl rfl (Nat.le_of_ble_eq_true rfl) (by decide) (by decide) (mo_tk_4 hl hO hw hu) ?_
    show jl_E l G m_Mo_pass (0, 0) 61 [some (.ref 22), some (.int (nI m)), some (.int (nI pc)), some (.int (nI 4)), some (.int (x)), some (.int (en (topO r h)))] [.int (nI 2), .int (nI h), .ref 22] (σ) P
    refine er_isubN d_Mo_pass_61 (by omega) ?_
    refine er_putf d_Mo_pass_62 p_Mo_pass_179 hO (Nat.le_of_ble_eq_true rfl) jl_fit_int ?_
    show jl_E l G m_Mo_pass (0, 0) 65 [some (.ref 22), some (.int (nI m)), some (.int (nI pc)), some (.int (nI 4)), some (.int (x)), some (.int (en (topO r h)))] [] (σ.set (22) (.inr (7, [.int (fa), .ref 23, .ref 24, .ref 25, .ref 26, .ref 27, .ref 28, .ref 29, .ref 30, .ref 31, .ref 32, .ref 33, .ref 34, .ref 35, .ref 36, .ref 37, .int (vf), .int (wh), .int (wy), .ref 38, .ref 39, .ref 40, .ref 41, .int (nI ((h) - (2))), .ref 42, .ref 43, .ref 44, .ref 45, .ref 46, .ref 47, .ref 48, .ref 49, .int (dp), .ref 50, .ref 51, .ref 52, .int (md), .int (ov), .int (oh), .int (dn), .int (an)]))) P
    refine er_iload_n d_Mo_pass_65 rfl ?_
    refine er_iconst ((nI (2))) d_Mo_pass_66 (by decide) ?_
    refine er_icmp_ne 79 d_Mo_pass_67 (by decide) (fun _ => ?_) (fun z => absurd z (by decide))
    refine er_iload_n d_Mo_pass_79 rfl ?_
    refine er_iconst ((nI (1))) d_Mo_pass_80 (by decide) ?_
    refine er_icmp_ne 98 d_Mo_pass_81 (by decide) (fun _ => ?_) (fun z => absurd z (by decide))
    refine er_iload_n d_Mo_pass_98 rfl ?_
    refine er_bipush ((nI (10))) d_Mo_pass_99 (by decide) ?_
    refine er_icmp_ne 112 d_Mo_pass_101 (by decide) (fun _ => ?_) (fun z => absurd z (by decide))
    refine er_iload_n d_Mo_pass_112 rfl ?_
    refine er_bipush ((nI (11))) d_Mo_pass_113 (by decide) ?_
    refine er_icmp_eq 124 d_Mo_pass_115 (by decide) (fun z => absurd z (by decide)) (fun _ => ?_)
    refine er_iload_n d_Mo_pass_118 rfl ?_
    refine er_bipush ((nI (15))) d_Mo_pass_119 (by decide) ?_
    refine er_icmp_ne 136 d_Mo_pass_121 (by decide) (fun _ => ?_) (fun z => absurd z (by decide))
    refine er_iload_n d_Mo_pass_136 rfl ?_
    refine er_bipush ((nI (12))) d_Mo_pass_137 (by decide) ?_
    refine er_icmp_ne 163 d_Mo_pass_139 (by decide) (fun _ => ?_) (fun z => absurd z (by decide))
    refine er_iload_n d_Mo_pass_163 rfl ?_
    refine er_bipush ((nI (14))) d_Mo_pass_164 (by decide) ?_
    refine er_icmp_ne 193 d_Mo_pass_166 (by decide) (fun _ => ?_) (fun z => absurd z (by decide))
    refine er_iload_n d_Mo_pass_193 rfl ?_
    refine er_bipush ((nI (19))) d_Mo_pass_194 (by decide) ?_
    refine er_icmp_ne 207 d_Mo_pass_196 (by decide) (fun _ => ?_) (fun z => absurd z (by decide))
    refine er_iload_n d_Mo_pass_207 rfl ?_
    refine er_bipush ((nI (24))) d_Mo_pass_208 (by decide) ?_
    refine er_icmp_ne 228 d_Mo_pass_210 (by decide) (fun _ => ?_) (fun z => absurd z (by decide))
    refine er_aload_n d_Mo_pass_228 rfl ?_
    refine er_iload_n d_Mo_pass_229 rfl ?_
    refine er_callV (As := [.int (nI 4)]) d_Mo_pass_230 k_Mo_pass_182 (jl_ss hO) rfl rfl rfl (Nat.le_of_ble_eq_true rfl) (by decide) (by decide) (mo_puts hl (hmb.s22).1 (hmb.s22).2.1 (by omega)) ?_
    show jl_E l G m_Mo_pass (0, 0) 233 [some (.ref 22), some (.int (nI m)), some (.int (nI pc)), some (.int (nI 4)), some (.int (x)), some (.int (en (topO r h)))] [.int (nI 1)] (σ.set (22) (.inr (7, [.int (fa), .ref 23, .ref 24, .ref 25, .ref 26, .ref 27, .ref 28, .ref 29, .ref 30, .ref 31, .ref 32, .ref 33, .ref 34, .ref 35, .ref 36, .ref 37, .int (vf), .int (wh), .int (wy), .ref 38, .ref 39, .ref 40, .ref 41, .int (nI ((h) - (2))), .ref 42, .ref 43, .ref 44, .ref 45, .ref 46, .ref 47, .ref 48, .ref 49, .int (dp), .ref 50, .ref 51, .ref 52, .int (md), .int (ov), .int (oh), .int (dn), .int (an)]))) P
    refine er_iconst ((nI (1))) d_Mo_pass_233 (by decide) ?_
    refine er_icmp_ne 242 d_Mo_pass_234 (by decide) (fun z => absurd rfl z) (fun _ => ?_)
    refine er_aload_n d_Mo_pass_237 rfl ?_
    refine er_iconst ((nI (0))) d_Mo_pass_238 (by decide) ?_
    refine er_callV (As := [.int (nI 0)]) d_Mo_pass_239 k_Mo_pass_192 (jl_ss hO) rfl rfl rfl (Nat.le_of_ble_eq_true rfl) (by decide) (by decide) (mo_push (h := (h) - (2)) (t := (some 0)) hl (hmb.s22).1 (hmb.s22).2.2.2.1.2 (by omega)) ?_
    show jl_E l G m_Mo_pass (0, 0) 242 [some (.ref 22), some (.int (nI m)), some (.int (nI pc)), some (.int (nI 4)), some (.int (x)), some (.int (en (topO r h)))] [] (((σ.set (22) (.inr (7, [.int (fa), .ref 23, .ref 24, .ref 25, .ref 26, .ref 27, .ref 28, .ref 29, .ref 30, .ref 31, .ref 32, .ref 33, .ref 34, .ref 35, .ref 36, .ref 37, .int (vf), .int (wh), .int (wy), .ref 38, .ref 39, .ref 40, .ref 41, .int (nI ((h) - (2))), .ref 42, .ref 43, .ref 44, .ref 45, .ref 46, .ref 47, .ref 48, .ref 49, .int (dp), .ref 50, .ref 51, .ref 52, .int (md), .int (ov), .int (oh), .int (dn), .int (an)]))).set (41) (.inl (0, 8, .inl (fun j => en ((va_up sk ((h) - (2)) (some 0)) j))))).set (22) (.inr (7, [.int (fa), .ref 23, .ref 24, .ref 25, .ref 26, .ref 27, .ref 28, .ref 29, .ref 30, .ref 31, .ref 32, .ref 33, .ref 34, .ref 35, .ref 36, .ref 37, .int (vf), .int (wh), .int (wy), .ref 38, .ref 39, .ref 40, .ref 41, .int (nI ((h) - (2) + 1)), .ref 42, .ref 43, .ref 44, .ref 45, .ref 46, .ref 47, .ref 48, .ref 49, .int (dp), .ref 50, .ref 51, .ref 52, .int (md), .int (ov), .int (oh), .int (dn), .int (an)]))) P
    exact er_vret d_Mo_pass_242 rfl (hT _ _ _ (hrl.low htk).psh hlo (ob_up hsk (ob_s (by omega))) (hmb.s22.s41.s22) (((FrM.refl.set (by omega)).set (by omega)).set (by omega))) (by decide) (by decide)
theorem mo_pass_5 (hl : l.stackTraces = false) {P : jl_O → jl_S → Prop} {m pc h : Nat} {r : Rw} {x : Int32} (hmb : MB σ tb pr ow ft hs u1 u2 ur ul uo ua uc us ut uk fa vf wh wy (nI h) dp md ov oh dn an lo sk kp mm fm) (hok : WoOk tb pr ow fi) (hK : MoK u1 u2 ur ul uo uc us ut uk) (hm : m < 24) (hpc : pc < 24) (ho : uo (24 * m + pc) = 5) (hx : ua (24 * m + pc) = x) (hrl : RlM r lo sk h) (hrv : rv r h) (hlo : ∀ j, ob 16 (lo j)) (hsk : ∀ j, ob 16 (sk j)) (htk : 2 ≤ h) (hp5 : h - 2 + 1 ≤ 5) (hT : ∀ lo' sk' σ', RlM (psh (low r h 2) (h - 2) (some 0)) lo' sk' (h - 2 + 1) → (∀ j, ob 16 (lo' j)) → (∀ j, ob 16 (sk' j)) → MB σ' tb pr ow ft hs u1 u2 ur ul uo ua uc us ut uk fa vf wh wy (nI (h - 2 + 1)) dp md ov oh dn an lo' sk' kp mm fm → FrM σ σ' → P (.inl none) σ') : jl_mE l G m_Mo_pass [.ref 22, .int (nI m), .int (nI pc)] σ P := by
  obtain ⟨hO, hw, hu, hr, hkp, hmp, hfm⟩ := id hmb; obtain ⟨r1, r2⟩ := id hr
  obtain ⟨h23, h24, h25, h26, h27⟩ := id hw
  obtain ⟨h28, h29, h30, h31, h32, h33, h34, h35, h36, h37⟩ := id hu
  obtain ⟨hk1, hk2, hk3, hk4, hk5, hk6⟩ := hK.1 m hm
  have hh5 := hrv.2.1
  refine jl_ofE (as := [.ref 22, .int (nI m), .int (nI pc)]) rfl (by decide) hl (jl_cc rfl (jl_cc rfl (jl_cc rfl jl_ca))) (Nat.le_of_ble_eq_true rfl) ?_
  show jl_E l G m_Mo_pass (0, 0) 0 [some (.ref 22), some (.int (nI m)), some (.int (nI pc)), none, none, none] [] (σ) P
  refine er_aload_n d_Mo_pass_0 rfl ?_
  refine er_getf d_Mo_pass_1 f_Mo_pass_38 hO rfl ?_
  refine er_bipush ((nI (24))) d_Mo_pass_4 (by decide) ?_
  refine er_iload_n d_Mo_pass_6 rfl ?_
  refine er_imulN d_Mo_pass_7 ?_
  refine er_iload_n d_Mo_pass_8 rfl ?_
  refine er_iaddN d_Mo_pass_9 ?_
  refine er_ialdQ (v := (nI (5))) d_Mo_pass_10 h32 (by omega) (by omega) (congrArg nI ho) ?_
  refine er_istore_n d_Mo_pass_11 (by decide) ?_
  show jl_E l G m_Mo_pass (0, 0) 12 [some (.ref 22), some (.int (nI m)), some (.int (nI pc)), some (.int (nI 5)), none, none] [] (σ) P
  refine er_aload_n d_Mo_pass_12 rfl ?_
  refine er_getf d_Mo_pass_13 f_Mo_pass_41 hO rfl ?_
  refine er_bipush ((nI (24))) d_Mo_pass_16 (by decide) ?_
  refine er_iload_n d_Mo_pass_18 rfl ?_
  refine er_imulN d_Mo_pass_19 ?_
  refine er_iload_n d_Mo_pass_20 rfl ?_
  refine er_iaddN d_Mo_pass_21 ?_
  refine er_ialdQ (v := (x)) d_Mo_pass_22 h33 (by omega) (by omega) (hx) ?_
  refine er_istore d_Mo_pass_23 (by decide) ?_
  show jl_E l G m_Mo_pass (0, 0) 25 [some (.ref 22), some (.int (nI m)), some (.int (nI pc)), some (.int (nI 5)), some (.int (x)), none] [] (σ) P
  refine er_aload_n d_Mo_pass_25 rfl ?_
  refine er_getf d_Mo_pass_26 f_Mo_pass_179 hO rfl ?_
  refine er_if_leN 46 d_Mo_pass_29 (by decide) (by omega) (fun c1 => ?_) (fun c1 => ?_)
  · refine er_iconst ((-1)) d_Mo_pass_46 (by decide) ?_
    refine er_istore d_Mo_pass_47 (by decide) ?_
    show jl_E l G m_Mo_pass (0, 0) 49 [some (.ref 22), some (.int (nI m)), some (.int (nI pc)), some (.int (nI 5)), some (.int (x)), some (.int (-1))] [] (σ) P
    have htp : topO r h = none := by unfold topO; rw [if_pos (by omega)]
    rw [show (-1 : Int32) = en (topO r h) by rw [htp]; rfl]
    show jl_E l G m_Mo_pass (0, 0) 49 [some (.ref 22), some (.int (nI m)), some (.int (nI pc)), some (.int (nI 5)), some (.int (x)), some (.int (en (topO r h)))] [] (σ) P
    refine er_aload_n d_Mo_pass_49 rfl ?_
    refine er_dup d_Mo_pass_50 rfl ?_
    refine er_getf d_Mo_pass_51 f_Mo_pass_179 hO rfl ?_
    refine er_aload_n d_Mo_pass_54 rfl ?_
    refine er_iload_n d_Mo_pass_55 rfl ?_
    refine er_iload d_Mo_pass_56 rfl ?_
    refine er_callV (As := [.int (nI 5), .int (x)]) d_Mo_pass_58 k_Mo_pass_176 hO rfl rfl rfl (Nat.le_of_ble_eq_true rfl) (by decide) (by decide) (mo_tk_5 hl hO hw hu) ?_
    show jl_E l G m_Mo_pass (0, 0) 61 [some (.ref 22), some (.int (nI m)), some (.int (nI pc)), some (.int (nI 5)), some (.int (x)), some (.int (en (topO r h)))] [.int (nI 2), .int (nI h), .ref 22] (σ) P
    refine er_isubN d_Mo_pass_61 (by omega) ?_
    refine er_putf d_Mo_pass_62 p_Mo_pass_179 hO (Nat.le_of_ble_eq_true rfl) jl_fit_int ?_
    show jl_E l G m_Mo_pass (0, 0) 65 [some (.ref 22), some (.int (nI m)), some (.int (nI pc)), some (.int (nI 5)), some (.int (x)), some (.int (en (topO r h)))] [] (σ.set (22) (.inr (7, [.int (fa), .ref 23, .ref 24, .ref 25, .ref 26, .ref 27, .ref 28, .ref 29, .ref 30, .ref 31, .ref 32, .ref 33, .ref 34, .ref 35, .ref 36, .ref 37, .int (vf), .int (wh), .int (wy), .ref 38, .ref 39, .ref 40, .ref 41, .int (nI ((h) - (2))), .ref 42, .ref 43, .ref 44, .ref 45, .ref 46, .ref 47, .ref 48, .ref 49, .int (dp), .ref 50, .ref 51, .ref 52, .int (md), .int (ov), .int (oh), .int (dn), .int (an)]))) P
    refine er_iload_n d_Mo_pass_65 rfl ?_
    refine er_iconst ((nI (2))) d_Mo_pass_66 (by decide) ?_
    refine er_icmp_ne 79 d_Mo_pass_67 (by decide) (fun _ => ?_) (fun z => absurd z (by decide))
    refine er_iload_n d_Mo_pass_79 rfl ?_
    refine er_iconst ((nI (1))) d_Mo_pass_80 (by decide) ?_
    refine er_icmp_ne 98 d_Mo_pass_81 (by decide) (fun _ => ?_) (fun z => absurd z (by decide))
    refine er_iload_n d_Mo_pass_98 rfl ?_
    refine er_bipush ((nI (10))) d_Mo_pass_99 (by decide) ?_
    refine er_icmp_ne 112 d_Mo_pass_101 (by decide) (fun _ => ?_) (fun z => absurd z (by decide))
    refine er_iload_n d_Mo_pass_112 rfl ?_
    refine er_bipush ((nI (11))) d_Mo_pass_113 (by decide) ?_
    refine er_icmp_eq 124 d_Mo_pass_115 (by decide) (fun z => absurd z (by decide)) (fun _ => ?_)
    refine er_iload_n d_Mo_pass_118 rfl ?_
    refine er_bipush ((nI (15))) d_Mo_pass_119 (by decide) ?_
    refine er_icmp_ne 136 d_Mo_pass_121 (by decide) (fun _ => ?_) (fun z => absurd z (by decide))
    refine er_iload_n d_Mo_pass_136 rfl ?_
    refine er_bipush ((nI (12))) d_Mo_pass_137 (by decide) ?_
    refine er_icmp_ne 163 d_Mo_pass_139 (by decide) (fun _ => ?_) (fun z => absurd z (by decide))
    refine er_iload_n d_Mo_pass_163 rfl ?_
    refine er_bipush ((nI (14))) d_Mo_pass_164 (by decide) ?_
    refine er_icmp_ne 193 d_Mo_pass_166 (by decide) (fun _ => ?_) (fun z => absurd z (by decide))
    refine er_iload_n d_Mo_pass_193 rfl ?_
    refine er_bipush ((nI (19))) d_Mo_pass_194 (by decide) ?_
    refine er_icmp_ne 207 d_Mo_pass_196 (by decide) (fun _ => ?_) (fun z => absurd z (by decide))
    refine er_iload_n d_Mo_pass_207 rfl ?_
    refine er_bipush ((nI (24))) d_Mo_pass_208 (by decide) ?_
    refine er_icmp_ne 228 d_Mo_pass_210 (by decide) (fun _ => ?_) (fun z => absurd z (by decide))
    refine er_aload_n d_Mo_pass_228 rfl ?_
    refine er_iload_n d_Mo_pass_229 rfl ?_
    refine er_callV (As := [.int (nI 5)]) d_Mo_pass_230 k_Mo_pass_182 (jl_ss hO) rfl rfl rfl (Nat.le_of_ble_eq_true rfl) (by decide) (by decide) (mo_puts hl (hmb.s22).1 (hmb.s22).2.1 (by omega)) ?_
    show jl_E l G m_Mo_pass (0, 0) 233 [some (.ref 22), some (.int (nI m)), some (.int (nI pc)), some (.int (nI 5)), some (.int (x)), some (.int (en (topO r h)))] [.int (nI 1)] (σ.set (22) (.inr (7, [.int (fa), .ref 23, .ref 24, .ref 25, .ref 26, .ref 27, .ref 28, .ref 29, .ref 30, .ref 31, .ref 32, .ref 33, .ref 34, .ref 35, .ref 36, .ref 37, .int (vf), .int (wh), .int (wy), .ref 38, .ref 39, .ref 40, .ref 41, .int (nI ((h) - (2))), .ref 42, .ref 43, .ref 44, .ref 45, .ref 46, .ref 47, .ref 48, .ref 49, .int (dp), .ref 50, .ref 51, .ref 52, .int (md), .int (ov), .int (oh), .int (dn), .int (an)]))) P
    refine er_iconst ((nI (1))) d_Mo_pass_233 (by decide) ?_
    refine er_icmp_ne 242 d_Mo_pass_234 (by decide) (fun z => absurd rfl z) (fun _ => ?_)
    refine er_aload_n d_Mo_pass_237 rfl ?_
    refine er_iconst ((nI (0))) d_Mo_pass_238 (by decide) ?_
    refine er_callV (As := [.int (nI 0)]) d_Mo_pass_239 k_Mo_pass_192 (jl_ss hO) rfl rfl rfl (Nat.le_of_ble_eq_true rfl) (by decide) (by decide) (mo_push (h := (h) - (2)) (t := (some 0)) hl (hmb.s22).1 (hmb.s22).2.2.2.1.2 (by omega)) ?_
    show jl_E l G m_Mo_pass (0, 0) 242 [some (.ref 22), some (.int (nI m)), some (.int (nI pc)), some (.int (nI 5)), some (.int (x)), some (.int (en (topO r h)))] [] (((σ.set (22) (.inr (7, [.int (fa), .ref 23, .ref 24, .ref 25, .ref 26, .ref 27, .ref 28, .ref 29, .ref 30, .ref 31, .ref 32, .ref 33, .ref 34, .ref 35, .ref 36, .ref 37, .int (vf), .int (wh), .int (wy), .ref 38, .ref 39, .ref 40, .ref 41, .int (nI ((h) - (2))), .ref 42, .ref 43, .ref 44, .ref 45, .ref 46, .ref 47, .ref 48, .ref 49, .int (dp), .ref 50, .ref 51, .ref 52, .int (md), .int (ov), .int (oh), .int (dn), .int (an)]))).set (41) (.inl (0, 8, .inl (fun j => en ((va_up sk ((h) - (2)) (some 0)) j))))).set (22) (.inr (7, [.int (fa), .ref 23, .ref 24, .ref 25, .ref 26, .ref 27, .ref 28, .ref 29, .ref 30, .ref 31, .ref 32, .ref 33, .ref 34, .ref 35, .ref 36, .ref 37, .int (vf), .int (wh), .int (wy), .ref 38, .ref 39, .ref 40, .ref 41, .int (nI ((h) - (2) + 1)), .ref 42, .ref 43, .ref 44, .ref 45, .ref 46, .ref 47, .ref 48, .ref 49, .int (dp), .ref 50, .ref 51, .ref 52, .int (md), .int (ov), .int (oh), .int (dn), .int (an)]))) P
    exact er_vret d_Mo_pass_242 rfl (hT _ _ _ (hrl.low htk).psh hlo (ob_up hsk (ob_s (by omega))) (hmb.s22.s41.s22) (((FrM.refl.set (by omega)).set (by omega)).set (by omega))) (by decide) (by decide)
  · refine er_aload_n d_Mo_pass_32 rfl ?_
    refine er_getf d_Mo_pass_33 f_Mo_pass_72 hO rfl ?_
    refine er_aload_n d_Mo_pass_36 rfl ?_
    refine er_getf d_Mo_pass_37 f_Mo_pass_179 hO rfl ?_
    refine er_iconst ((nI (1))) d_Mo_pass_40 (by decide) ?_
    refine er_isubN d_Mo_pass_41 (by omega) ?_
    refine er_ialdQ (v := (en (topO r h))) d_Mo_pass_42 r2 (by omega) (by omega) (congrArg en (show sk (h - 1) = topO r h by unfold topO; rw [if_neg (by omega), hrl.2 (h - 1) (by omega)]; congr 1; omega)) ?_
    refine er_goto 47 d_Mo_pass_43 (by decide) ?_
    refine er_istore d_Mo_pass_47 (by decide) ?_
    show jl_E l G m_Mo_pass (0, 0) 49 [some (.ref 22), some (.int (nI m)), some (.int (nI pc)), some (.int (nI 5)), some (.int (x)), some (.int (en (topO r h)))] [] (σ) P
    refine er_aload_n d_Mo_pass_49 rfl ?_
    refine er_dup d_Mo_pass_50 rfl ?_
    refine er_getf d_Mo_pass_51 f_Mo_pass_179 hO rfl ?_
    refine er_aload_n d_Mo_pass_54 rfl ?_
    refine er_iload_n d_Mo_pass_55 rfl ?_
    refine er_iload d_Mo_pass_56 rfl ?_
    refine er_callV (As := [.int (nI 5), .int (x)]) d_Mo_pass_58 k_Mo_pass_176 hO rfl rfl rfl (Nat.le_of_ble_eq_true rfl) (by decide) (by decide) (mo_tk_5 hl hO hw hu) ?_
    show jl_E l G m_Mo_pass (0, 0) 61 [some (.ref 22), some (.int (nI m)), some (.int (nI pc)), some (.int (nI 5)), some (.int (x)), some (.int (en (topO r h)))] [.int (nI 2), .int (nI h), .ref 22] (σ) P
    refine er_isubN d_Mo_pass_61 (by omega) ?_
    refine er_putf d_Mo_pass_62 p_Mo_pass_179 hO (Nat.le_of_ble_eq_true rfl) jl_fit_int ?_
    show jl_E l G m_Mo_pass (0, 0) 65 [some (.ref 22), some (.int (nI m)), some (.int (nI pc)), some (.int (nI 5)), some (.int (x)), some (.int (en (topO r h)))] [] (σ.set (22) (.inr (7, [.int (fa), .ref 23, .ref 24, .ref 25, .ref 26, .ref 27, .ref 28, .ref 29, .ref 30, .ref 31, .ref 32, .ref 33, .ref 34, .ref 35, .ref 36, .ref 37, .int (vf), .int (wh), .int (wy), .ref 38, .ref 39, .ref 40, .ref 41, .int (nI ((h) - (2))), .ref 42, .ref 43, .ref 44, .ref 45, .ref 46, .ref 47, .ref 48, .ref 49, .int (dp), .ref 50, .ref 51, .ref 52, .int (md), .int (ov), .int (oh), .int (dn), .int (an)]))) P
    refine er_iload_n d_Mo_pass_65 rfl ?_
    refine er_iconst ((nI (2))) d_Mo_pass_66 (by decide) ?_
    refine er_icmp_ne 79 d_Mo_pass_67 (by decide) (fun _ => ?_) (fun z => absurd z (by decide))
    refine er_iload_n d_Mo_pass_79 rfl ?_
    refine er_iconst ((nI (1))) d_Mo_pass_80 (by decide) ?_
    refine er_icmp_ne 98 d_Mo_pass_81 (by decide) (fun _ => ?_) (fun z => absurd z (by decide))
    refine er_iload_n d_Mo_pass_98 rfl ?_
    refine er_bipush ((nI (10))) d_Mo_pass_99 (by decide) ?_
    refine er_icmp_ne 112 d_Mo_pass_101 (by decide) (fun _ => ?_) (fun z => absurd z (by decide))
    refine er_iload_n d_Mo_pass_112 rfl ?_
    refine er_bipush ((nI (11))) d_Mo_pass_113 (by decide) ?_
    refine er_icmp_eq 124 d_Mo_pass_115 (by decide) (fun z => absurd z (by decide)) (fun _ => ?_)
    refine er_iload_n d_Mo_pass_118 rfl ?_
    refine er_bipush ((nI (15))) d_Mo_pass_119 (by decide) ?_
    refine er_icmp_ne 136 d_Mo_pass_121 (by decide) (fun _ => ?_) (fun z => absurd z (by decide))
    refine er_iload_n d_Mo_pass_136 rfl ?_
    refine er_bipush ((nI (12))) d_Mo_pass_137 (by decide) ?_
    refine er_icmp_ne 163 d_Mo_pass_139 (by decide) (fun _ => ?_) (fun z => absurd z (by decide))
    refine er_iload_n d_Mo_pass_163 rfl ?_
    refine er_bipush ((nI (14))) d_Mo_pass_164 (by decide) ?_
    refine er_icmp_ne 193 d_Mo_pass_166 (by decide) (fun _ => ?_) (fun z => absurd z (by decide))
    refine er_iload_n d_Mo_pass_193 rfl ?_
    refine er_bipush ((nI (19))) d_Mo_pass_194 (by decide) ?_
    refine er_icmp_ne 207 d_Mo_pass_196 (by decide) (fun _ => ?_) (fun z => absurd z (by decide))
    refine er_iload_n d_Mo_pass_207 rfl ?_
    refine er_bipush ((nI (24))) d_Mo_pass_208 (by decide) ?_
    refine er_icmp_ne 228 d_Mo_pass_210 (by decide) (fun _ => ?_) (fun z => absurd z (by decide))
    refine er_aload_n d_Mo_pass_228 rfl ?_
    refine er_iload_n d_Mo_pass_229 rfl ?_
    refine er_callV (As := [.int (nI 5)]) d_Mo_pass_230 k_Mo_pass_182 (jl_ss hO) rfl rfl rfl (Nat.le_of_ble_eq_true rfl) (by decide) (by decide) (mo_puts hl (hmb.s22).1 (hmb.s22).2.1 (by omega)) ?_
    show jl_E l G m_Mo_pass (0, 0) 233 [some (.ref 22), some (.int (nI m)), some (.int (nI pc)), some (.int (nI 5)), some (.int (x)), some (.int (en (topO r h)))] [.int (nI 1)] (σ.set (22) (.inr (7, [.int (fa), .ref 23, .ref 24, .ref 25, .ref 26, .ref 27, .ref 28, .ref 29, .ref 30, .ref 31, .ref 32, .ref 33, .ref 34, .ref 35, .ref 36, .ref 37, .int (vf), .int (wh), .int (wy), .ref 38, .ref 39, .ref 40, .ref 41, .int (nI ((h) - (2))), .ref 42, .ref 43, .ref 44, .ref 45, .ref 46, .ref 47, .ref 48, .ref 49, .int (dp), .ref 50, .ref 51, .ref 52, .int (md), .int (ov), .int (oh), .int (dn), .int (an)]))) P
    refine er_iconst ((nI (1))) d_Mo_pass_233 (by decide) ?_
    refine er_icmp_ne 242 d_Mo_pass_234 (by decide) (fun z => absurd rfl z) (fun _ => ?_)
    refine er_aload_n d_Mo_pass_237 rfl ?_
    refine er_iconst ((nI (0))) d_Mo_pass_238 (by decide) ?_
    refine er_callV (As := [.int (nI 0)]) d_Mo_pass_239 k_Mo_pass_192 (jl_ss hO) rfl rfl rfl (Nat.le_of_ble_eq_true rfl) (by decide) (by decide) (mo_push (h := (h) - (2)) (t := (some 0)) hl (hmb.s22).1 (hmb.s22).2.2.2.1.2 (by omega)) ?_
    show jl_E l G m_Mo_pass (0, 0) 242 [some (.ref 22), some (.int (nI m)), some (.int (nI pc)), some (.int (nI 5)), some (.int (x)), some (.int (en (topO r h)))] [] (((σ.set (22) (.inr (7, [.int (fa), .ref 23, .ref 24, .ref 25, .ref 26, .ref 27, .ref 28, .ref 29, .ref 30, .ref 31, .ref 32, .ref 33, .ref 34, .ref 35, .ref 36, .ref 37, .int (vf), .int (wh), .int (wy), .ref 38, .ref 39, .ref 40, .ref 41, .int (nI ((h) - (2))), .ref 42, .ref 43, .ref 44, .ref 45, .ref 46, .ref 47, .ref 48, .ref 49, .int (dp), .ref 50, .ref 51, .ref 52, .int (md), .int (ov), .int (oh), .int (dn), .int (an)]))).set (41) (.inl (0, 8, .inl (fun j => en ((va_up sk ((h) - (2)) (some 0)) j))))).set (22) (.inr (7, [.int (fa), .ref 23, .ref 24, .ref 25, .ref 26, .ref 27, .ref 28, .ref 29, .ref 30, .ref 31, .ref 32, .ref 33, .ref 34, .ref 35, .ref 36, .ref 37, .int (vf), .int (wh), .int (wy), .ref 38, .ref 39, .ref 40, .ref 41, .int (nI ((h) - (2) + 1)), .ref 42, .ref 43, .ref 44, .ref 45, .ref 46, .ref 47, .ref 48, .ref 49, .int (dp), .ref 50, .ref 51, .ref 52, .int (md), .int (ov), .int (oh), .int (dn), .int (an)]))) P
    exact er_vret d_Mo_pass_242 rfl (hT _ _ _ (hrl.low htk).psh hlo (ob_up hsk (ob_s (by omega))) (hmb.s22.s41.s22) (((FrM.refl.set (by omega)).set (by omega)).set (by omega))) (by decide) (by decide)
theorem mo_pass_6 (hl : l.stackTraces = false) {P : jl_O → jl_S → Prop} {m pc h : Nat} {r : Rw} {x : Int32} (hmb : MB σ tb pr ow ft hs u1 u2 ur ul uo ua uc us ut uk fa vf wh wy (nI h) dp md ov oh dn an lo sk kp mm fm) (hok : WoOk tb pr ow fi) (hK : MoK u1 u2 ur ul uo uc us ut uk) (hm : m < 24) (hpc : pc < 24) (ho : uo (24 * m + pc) = 6) (hx : ua (24 * m + pc) = x) (hrl : RlM r lo sk h) (hrv : rv r h) (hlo : ∀ j, ob 16 (lo j)) (hsk : ∀ j, ob 16 (sk j)) (htk : 2 ≤ h) (hp5 : h - 2 + 1 ≤ 5) (hT : ∀ lo' sk' σ', RlM (psh (low r h 2) (h - 2) (some 0)) lo' sk' (h - 2 + 1) → (∀ j, ob 16 (lo' j)) → (∀ j, ob 16 (sk' j)) → MB σ' tb pr ow ft hs u1 u2 ur ul uo ua uc us ut uk fa vf wh wy (nI (h - 2 + 1)) dp md ov oh dn an lo' sk' kp mm fm → FrM σ σ' → P (.inl none) σ') : jl_mE l G m_Mo_pass [.ref 22, .int (nI m), .int (nI pc)] σ P := by
  obtain ⟨hO, hw, hu, hr, hkp, hmp, hfm⟩ := id hmb; obtain ⟨r1, r2⟩ := id hr
  obtain ⟨h23, h24, h25, h26, h27⟩ := id hw
  obtain ⟨h28, h29, h30, h31, h32, h33, h34, h35, h36, h37⟩ := id hu
  obtain ⟨hk1, hk2, hk3, hk4, hk5, hk6⟩ := hK.1 m hm
  have hh5 := hrv.2.1
  refine jl_ofE (as := [.ref 22, .int (nI m), .int (nI pc)]) rfl (by decide) hl (jl_cc rfl (jl_cc rfl (jl_cc rfl jl_ca))) (Nat.le_of_ble_eq_true rfl) ?_
  show jl_E l G m_Mo_pass (0, 0) 0 [some (.ref 22), some (.int (nI m)), some (.int (nI pc)), none, none, none] [] (σ) P
  refine er_aload_n d_Mo_pass_0 rfl ?_
  refine er_getf d_Mo_pass_1 f_Mo_pass_38 hO rfl ?_
  refine er_bipush ((nI (24))) d_Mo_pass_4 (by decide) ?_
  refine er_iload_n d_Mo_pass_6 rfl ?_
  refine er_imulN d_Mo_pass_7 ?_
  refine er_iload_n d_Mo_pass_8 rfl ?_
  refine er_iaddN d_Mo_pass_9 ?_
  refine er_ialdQ (v := (nI (6))) d_Mo_pass_10 h32 (by omega) (by omega) (congrArg nI ho) ?_
  refine er_istore_n d_Mo_pass_11 (by decide) ?_
  show jl_E l G m_Mo_pass (0, 0) 12 [some (.ref 22), some (.int (nI m)), some (.int (nI pc)), some (.int (nI 6)), none, none] [] (σ) P
  refine er_aload_n d_Mo_pass_12 rfl ?_
  refine er_getf d_Mo_pass_13 f_Mo_pass_41 hO rfl ?_
  refine er_bipush ((nI (24))) d_Mo_pass_16 (by decide) ?_
  refine er_iload_n d_Mo_pass_18 rfl ?_
  refine er_imulN d_Mo_pass_19 ?_
  refine er_iload_n d_Mo_pass_20 rfl ?_
  refine er_iaddN d_Mo_pass_21 ?_
  refine er_ialdQ (v := (x)) d_Mo_pass_22 h33 (by omega) (by omega) (hx) ?_
  refine er_istore d_Mo_pass_23 (by decide) ?_
  show jl_E l G m_Mo_pass (0, 0) 25 [some (.ref 22), some (.int (nI m)), some (.int (nI pc)), some (.int (nI 6)), some (.int (x)), none] [] (σ) P
  refine er_aload_n d_Mo_pass_25 rfl ?_
  refine er_getf d_Mo_pass_26 f_Mo_pass_179 hO rfl ?_
  refine er_if_leN 46 d_Mo_pass_29 (by decide) (by omega) (fun c1 => ?_) (fun c1 => ?_)
  · refine er_iconst ((-1)) d_Mo_pass_46 (by decide) ?_
    refine er_istore d_Mo_pass_47 (by decide) ?_
    show jl_E l G m_Mo_pass (0, 0) 49 [some (.ref 22), some (.int (nI m)), some (.int (nI pc)), some (.int (nI 6)), some (.int (x)), some (.int (-1))] [] (σ) P
    have htp : topO r h = none := by unfold topO; rw [if_pos (by omega)]
    rw [show (-1 : Int32) = en (topO r h) by rw [htp]; rfl]
    show jl_E l G m_Mo_pass (0, 0) 49 [some (.ref 22), some (.int (nI m)), some (.int (nI pc)), some (.int (nI 6)), some (.int (x)), some (.int (en (topO r h)))] [] (σ) P
    refine er_aload_n d_Mo_pass_49 rfl ?_
    refine er_dup d_Mo_pass_50 rfl ?_
    refine er_getf d_Mo_pass_51 f_Mo_pass_179 hO rfl ?_
    refine er_aload_n d_Mo_pass_54 rfl ?_
    refine er_iload_n d_Mo_pass_55 rfl ?_
    refine er_iload d_Mo_pass_56 rfl ?_
    refine er_callV (As := [.int (nI 6), .int (x)]) d_Mo_pass_58 k_Mo_pass_176 hO rfl rfl rfl (Nat.le_of_ble_eq_true rfl) (by decide) (by decide) (mo_tk_6 hl hO hw hu) ?_
    show jl_E l G m_Mo_pass (0, 0) 61 [some (.ref 22), some (.int (nI m)), some (.int (nI pc)), some (.int (nI 6)), some (.int (x)), some (.int (en (topO r h)))] [.int (nI 2), .int (nI h), .ref 22] (σ) P
    refine er_isubN d_Mo_pass_61 (by omega) ?_
    refine er_putf d_Mo_pass_62 p_Mo_pass_179 hO (Nat.le_of_ble_eq_true rfl) jl_fit_int ?_
    show jl_E l G m_Mo_pass (0, 0) 65 [some (.ref 22), some (.int (nI m)), some (.int (nI pc)), some (.int (nI 6)), some (.int (x)), some (.int (en (topO r h)))] [] (σ.set (22) (.inr (7, [.int (fa), .ref 23, .ref 24, .ref 25, .ref 26, .ref 27, .ref 28, .ref 29, .ref 30, .ref 31, .ref 32, .ref 33, .ref 34, .ref 35, .ref 36, .ref 37, .int (vf), .int (wh), .int (wy), .ref 38, .ref 39, .ref 40, .ref 41, .int (nI ((h) - (2))), .ref 42, .ref 43, .ref 44, .ref 45, .ref 46, .ref 47, .ref 48, .ref 49, .int (dp), .ref 50, .ref 51, .ref 52, .int (md), .int (ov), .int (oh), .int (dn), .int (an)]))) P
    refine er_iload_n d_Mo_pass_65 rfl ?_
    refine er_iconst ((nI (2))) d_Mo_pass_66 (by decide) ?_
    refine er_icmp_ne 79 d_Mo_pass_67 (by decide) (fun _ => ?_) (fun z => absurd z (by decide))
    refine er_iload_n d_Mo_pass_79 rfl ?_
    refine er_iconst ((nI (1))) d_Mo_pass_80 (by decide) ?_
    refine er_icmp_ne 98 d_Mo_pass_81 (by decide) (fun _ => ?_) (fun z => absurd z (by decide))
    refine er_iload_n d_Mo_pass_98 rfl ?_
    refine er_bipush ((nI (10))) d_Mo_pass_99 (by decide) ?_
    refine er_icmp_ne 112 d_Mo_pass_101 (by decide) (fun _ => ?_) (fun z => absurd z (by decide))
    refine er_iload_n d_Mo_pass_112 rfl ?_
    refine er_bipush ((nI (11))) d_Mo_pass_113 (by decide) ?_
    refine er_icmp_eq 124 d_Mo_pass_115 (by decide) (fun z => absurd z (by decide)) (fun _ => ?_)
    refine er_iload_n d_Mo_pass_118 rfl ?_
    refine er_bipush ((nI (15))) d_Mo_pass_119 (by decide) ?_
    refine er_icmp_ne 136 d_Mo_pass_121 (by decide) (fun _ => ?_) (fun z => absurd z (by decide))
    refine er_iload_n d_Mo_pass_136 rfl ?_
    refine er_bipush ((nI (12))) d_Mo_pass_137 (by decide) ?_
    refine er_icmp_ne 163 d_Mo_pass_139 (by decide) (fun _ => ?_) (fun z => absurd z (by decide))
    refine er_iload_n d_Mo_pass_163 rfl ?_
    refine er_bipush ((nI (14))) d_Mo_pass_164 (by decide) ?_
    refine er_icmp_ne 193 d_Mo_pass_166 (by decide) (fun _ => ?_) (fun z => absurd z (by decide))
    refine er_iload_n d_Mo_pass_193 rfl ?_
    refine er_bipush ((nI (19))) d_Mo_pass_194 (by decide) ?_
    refine er_icmp_ne 207 d_Mo_pass_196 (by decide) (fun _ => ?_) (fun z => absurd z (by decide))
    refine er_iload_n d_Mo_pass_207 rfl ?_
    refine er_bipush ((nI (24))) d_Mo_pass_208 (by decide) ?_
    refine er_icmp_ne 228 d_Mo_pass_210 (by decide) (fun _ => ?_) (fun z => absurd z (by decide))
    refine er_aload_n d_Mo_pass_228 rfl ?_
    refine er_iload_n d_Mo_pass_229 rfl ?_
    refine er_callV (As := [.int (nI 6)]) d_Mo_pass_230 k_Mo_pass_182 (jl_ss hO) rfl rfl rfl (Nat.le_of_ble_eq_true rfl) (by decide) (by decide) (mo_puts hl (hmb.s22).1 (hmb.s22).2.1 (by omega)) ?_
    show jl_E l G m_Mo_pass (0, 0) 233 [some (.ref 22), some (.int (nI m)), some (.int (nI pc)), some (.int (nI 6)), some (.int (x)), some (.int (en (topO r h)))] [.int (nI 1)] (σ.set (22) (.inr (7, [.int (fa), .ref 23, .ref 24, .ref 25, .ref 26, .ref 27, .ref 28, .ref 29, .ref 30, .ref 31, .ref 32, .ref 33, .ref 34, .ref 35, .ref 36, .ref 37, .int (vf), .int (wh), .int (wy), .ref 38, .ref 39, .ref 40, .ref 41, .int (nI ((h) - (2))), .ref 42, .ref 43, .ref 44, .ref 45, .ref 46, .ref 47, .ref 48, .ref 49, .int (dp), .ref 50, .ref 51, .ref 52, .int (md), .int (ov), .int (oh), .int (dn), .int (an)]))) P
    refine er_iconst ((nI (1))) d_Mo_pass_233 (by decide) ?_
    refine er_icmp_ne 242 d_Mo_pass_234 (by decide) (fun z => absurd rfl z) (fun _ => ?_)
    refine er_aload_n d_Mo_pass_237 rfl ?_
    refine er_iconst ((nI (0))) d_Mo_pass_238 (by decide) ?_
    refine er_callV (As := [.int (nI 0)]) d_Mo_pass_239 k_Mo_pass_192 (jl_ss hO) rfl rfl rfl (Nat.le_of_ble_eq_true rfl) (by decide) (by decide) (mo_push (h := (h) - (2)) (t := (some 0)) hl (hmb.s22).1 (hmb.s22).2.2.2.1.2 (by omega)) ?_
    show jl_E l G m_Mo_pass (0, 0) 242 [some (.ref 22), some (.int (nI m)), some (.int (nI pc)), some (.int (nI 6)), some (.int (x)), some (.int (en (topO r h)))] [] (((σ.set (22) (.inr (7, [.int (fa), .ref 23, .ref 24, .ref 25, .ref 26, .ref 27, .ref 28, .ref 29, .ref 30, .ref 31, .ref 32, .ref 33, .ref 34, .ref 35, .ref 36, .ref 37, .int (vf), .int (wh), .int (wy), .ref 38, .ref 39, .ref 40, .ref 41, .int (nI ((h) - (2))), .ref 42, .ref 43, .ref 44, .ref 45, .ref 46, .ref 47, .ref 48, .ref 49, .int (dp), .ref 50, .ref 51, .ref 52, .int (md), .int (ov), .int (oh), .int (dn), .int (an)]))).set (41) (.inl (0, 8, .inl (fun j => en ((va_up sk ((h) - (2)) (some 0)) j))))).set (22) (.inr (7, [.int (fa), .ref 23, .ref 24, .ref 25, .ref 26, .ref 27, .ref 28, .ref 29, .ref 30, .ref 31, .ref 32, .ref 33, .ref 34, .ref 35, .ref 36, .ref 37, .int (vf), .int (wh), .int (wy), .ref 38, .ref 39, .ref 40, .ref 41, .int (nI ((h) - (2) + 1)), .ref 42, .ref 43, .ref 44, .ref 45, .ref 46, .ref 47, .ref 48, .ref 49, .int (dp), .ref 50, .ref 51, .ref 52, .int (md), .int (ov), .int (oh), .int (dn), .int (an)]))) P
    exact er_vret d_Mo_pass_242 rfl (hT _ _ _ (hrl.low htk).psh hlo (ob_up hsk (ob_s (by omega))) (hmb.s22.s41.s22) (((FrM.refl.set (by omega)).set (by omega)).set (by omega))) (by decide) (by decide)
  · refine er_aload_n d_Mo_pass_32 rfl ?_
    refine er_getf d_Mo_pass_33 f_Mo_pass_72 hO rfl ?_
    refine er_aload_n d_Mo_pass_36 rfl ?_
    refine er_getf d_Mo_pass_37 f_Mo_pass_179 hO rfl ?_
    refine er_iconst ((nI (1))) d_Mo_pass_40 (by decide) ?_
    refine er_isubN d_Mo_pass_41 (by omega) ?_
    refine er_ialdQ (v := (en (topO r h))) d_Mo_pass_42 r2 (by omega) (by omega) (congrArg en (show sk (h - 1) = topO r h by unfold topO; rw [if_neg (by omega), hrl.2 (h - 1) (by omega)]; congr 1; omega)) ?_
    refine er_goto 47 d_Mo_pass_43 (by decide) ?_
    refine er_istore d_Mo_pass_47 (by decide) ?_
    show jl_E l G m_Mo_pass (0, 0) 49 [some (.ref 22), some (.int (nI m)), some (.int (nI pc)), some (.int (nI 6)), some (.int (x)), some (.int (en (topO r h)))] [] (σ) P
    refine er_aload_n d_Mo_pass_49 rfl ?_
    refine er_dup d_Mo_pass_50 rfl ?_
    refine er_getf d_Mo_pass_51 f_Mo_pass_179 hO rfl ?_
    refine er_aload_n d_Mo_pass_54 rfl ?_
    refine er_iload_n d_Mo_pass_55 rfl ?_
    refine er_iload d_Mo_pass_56 rfl ?_
    refine er_callV (As := [.int (nI 6), .int (x)]) d_Mo_pass_58 k_Mo_pass_176 hO rfl rfl rfl (Nat.le_of_ble_eq_true rfl) (by decide) (by decide) (mo_tk_6 hl hO hw hu) ?_
    show jl_E l G m_Mo_pass (0, 0) 61 [some (.ref 22), some (.int (nI m)), some (.int (nI pc)), some (.int (nI 6)), some (.int (x)), some (.int (en (topO r h)))] [.int (nI 2), .int (nI h), .ref 22] (σ) P
    refine er_isubN d_Mo_pass_61 (by omega) ?_
    refine er_putf d_Mo_pass_62 p_Mo_pass_179 hO (Nat.le_of_ble_eq_true rfl) jl_fit_int ?_
    show jl_E l G m_Mo_pass (0, 0) 65 [some (.ref 22), some (.int (nI m)), some (.int (nI pc)), some (.int (nI 6)), some (.int (x)), some (.int (en (topO r h)))] [] (σ.set (22) (.inr (7, [.int (fa), .ref 23, .ref 24, .ref 25, .ref 26, .ref 27, .ref 28, .ref 29, .ref 30, .ref 31, .ref 32, .ref 33, .ref 34, .ref 35, .ref 36, .ref 37, .int (vf), .int (wh), .int (wy), .ref 38, .ref 39, .ref 40, .ref 41, .int (nI ((h) - (2))), .ref 42, .ref 43, .ref 44, .ref 45, .ref 46, .ref 47, .ref 48, .ref 49, .int (dp), .ref 50, .ref 51, .ref 52, .int (md), .int (ov), .int (oh), .int (dn), .int (an)]))) P
    refine er_iload_n d_Mo_pass_65 rfl ?_
    refine er_iconst ((nI (2))) d_Mo_pass_66 (by decide) ?_
    refine er_icmp_ne 79 d_Mo_pass_67 (by decide) (fun _ => ?_) (fun z => absurd z (by decide))
    refine er_iload_n d_Mo_pass_79 rfl ?_
    refine er_iconst ((nI (1))) d_Mo_pass_80 (by decide) ?_
    refine er_icmp_ne 98 d_Mo_pass_81 (by decide) (fun _ => ?_) (fun z => absurd z (by decide))
    refine er_iload_n d_Mo_pass_98 rfl ?_
    refine er_bipush ((nI (10))) d_Mo_pass_99 (by decide) ?_
    refine er_icmp_ne 112 d_Mo_pass_101 (by decide) (fun _ => ?_) (fun z => absurd z (by decide))
    refine er_iload_n d_Mo_pass_112 rfl ?_
    refine er_bipush ((nI (11))) d_Mo_pass_113 (by decide) ?_
    refine er_icmp_eq 124 d_Mo_pass_115 (by decide) (fun z => absurd z (by decide)) (fun _ => ?_)
    refine er_iload_n d_Mo_pass_118 rfl ?_
    refine er_bipush ((nI (15))) d_Mo_pass_119 (by decide) ?_
    refine er_icmp_ne 136 d_Mo_pass_121 (by decide) (fun _ => ?_) (fun z => absurd z (by decide))
    refine er_iload_n d_Mo_pass_136 rfl ?_
    refine er_bipush ((nI (12))) d_Mo_pass_137 (by decide) ?_
    refine er_icmp_ne 163 d_Mo_pass_139 (by decide) (fun _ => ?_) (fun z => absurd z (by decide))
    refine er_iload_n d_Mo_pass_163 rfl ?_
    refine er_bipush ((nI (14))) d_Mo_pass_164 (by decide) ?_
    refine er_icmp_ne 193 d_Mo_pass_166 (by decide) (fun _ => ?_) (fun z => absurd z (by decide))
    refine er_iload_n d_Mo_pass_193 rfl ?_
    refine er_bipush ((nI (19))) d_Mo_pass_194 (by decide) ?_
    refine er_icmp_ne 207 d_Mo_pass_196 (by decide) (fun _ => ?_) (fun z => absurd z (by decide))
    refine er_iload_n d_Mo_pass_207 rfl ?_
    refine er_bipush ((nI (24))) d_Mo_pass_208 (by decide) ?_
    refine er_icmp_ne 228 d_Mo_pass_210 (by decide) (fun _ => ?_) (fun z => absurd z (by decide))
    refine er_aload_n d_Mo_pass_228 rfl ?_
    refine er_iload_n d_Mo_pass_229 rfl ?_
    refine er_callV (As := [.int (nI 6)]) d_Mo_pass_230 k_Mo_pass_182 (jl_ss hO) rfl rfl rfl (Nat.le_of_ble_eq_true rfl) (by decide) (by decide) (mo_puts hl (hmb.s22).1 (hmb.s22).2.1 (by omega)) ?_
    show jl_E l G m_Mo_pass (0, 0) 233 [some (.ref 22), some (.int (nI m)), some (.int (nI pc)), some (.int (nI 6)), some (.int (x)), some (.int (en (topO r h)))] [.int (nI 1)] (σ.set (22) (.inr (7, [.int (fa), .ref 23, .ref 24, .ref 25, .ref 26, .ref 27, .ref 28, .ref 29, .ref 30, .ref 31, .ref 32, .ref 33, .ref 34, .ref 35, .ref 36, .ref 37, .int (vf), .int (wh), .int (wy), .ref 38, .ref 39, .ref 40, .ref 41, .int (nI ((h) - (2))), .ref 42, .ref 43, .ref 44, .ref 45, .ref 46, .ref 47, .ref 48, .ref 49, .int (dp), .ref 50, .ref 51, .ref 52, .int (md), .int (ov), .int (oh), .int (dn), .int (an)]))) P
    refine er_iconst ((nI (1))) d_Mo_pass_233 (by decide) ?_
    refine er_icmp_ne 242 d_Mo_pass_234 (by decide) (fun z => absurd rfl z) (fun _ => ?_)
    refine er_aload_n d_Mo_pass_237 rfl ?_
    refine er_iconst ((nI (0))) d_Mo_pass_238 (by decide) ?_
    refine er_callV (As := [.int (nI 0)]) d_Mo_pass_239 k_Mo_pass_192 (jl_ss hO) rfl rfl rfl (Nat.le_of_ble_eq_true rfl) (by decide) (by decide) (mo_push (h := (h) - (2)) (t := (some 0)) hl (hmb.s22).1 (hmb.s22).2.2.2.1.2 (by omega)) ?_
    show jl_E l G m_Mo_pass (0, 0) 242 [some (.ref 22), some (.int (nI m)), some (.int (nI pc)), some (.int (nI 6)), some (.int (x)), some (.int (en (topO r h)))] [] (((σ.set (22) (.inr (7, [.int (fa), .ref 23, .ref 24, .ref 25, .ref 26, .ref 27, .ref 28, .ref 29, .ref 30, .ref 31, .ref 32, .ref 33, .ref 34, .ref 35, .ref 36, .ref 37, .int (vf), .int (wh), .int (wy), .ref 38, .ref 39, .ref 40, .ref 41, .int (nI ((h) - (2))), .ref 42, .ref 43, .ref 44, .ref 45, .ref 46, .ref 47, .ref 48, .ref 49, .int (dp), .ref 50, .ref 51, .ref 52, .int (md), .int (ov), .int (oh), .int (dn), .int (an)]))).set (41) (.inl (0, 8, .inl (fun j => en ((va_up sk ((h) - (2)) (some 0)) j))))).set (22) (.inr (7, [.int (fa), .ref 23, .ref 24, .ref 25, .ref 26, .ref 27, .ref 28, .ref 29, .ref 30, .ref 31, .ref 32, .ref 33, .ref 34, .ref 35, .ref 36, .ref 37, .int (vf), .int (wh), .int (wy), .ref 38, .ref 39, .ref 40, .ref 41, .int (nI ((h) - (2) + 1)), .ref 42, .ref 43, .ref 44, .ref 45, .ref 46, .ref 47, .ref 48, .ref 49, .int (dp), .ref 50, .ref 51, .ref 52, .int (md), .int (ov), .int (oh), .int (dn), .int (an)]))) P
    exact er_vret d_Mo_pass_242 rfl (hT _ _ _ (hrl.low htk).psh hlo (ob_up hsk (ob_s (by omega))) (hmb.s22.s41.s22) (((FrM.refl.set (by omega)).set (by omega)).set (by omega))) (by decide) (by decide)
theorem mo_pass_7 (hl : l.stackTraces = false) {P : jl_O → jl_S → Prop} {m pc h : Nat} {r : Rw} {x : Int32} (hmb : MB σ tb pr ow ft hs u1 u2 ur ul uo ua uc us ut uk fa vf wh wy (nI h) dp md ov oh dn an lo sk kp mm fm) (hok : WoOk tb pr ow fi) (hK : MoK u1 u2 ur ul uo uc us ut uk) (hm : m < 24) (hpc : pc < 24) (ho : uo (24 * m + pc) = 7) (hx : ua (24 * m + pc) = x) (hrl : RlM r lo sk h) (hrv : rv r h) (hlo : ∀ j, ob 16 (lo j)) (hsk : ∀ j, ob 16 (sk j)) (htk : 0 ≤ h) (hp5 : h - 0 + 0 ≤ 5) (hT : ∀ lo' sk' σ', RlM (low r h 0) lo' sk' (h - 0) → (∀ j, ob 16 (lo' j)) → (∀ j, ob 16 (sk' j)) → MB σ' tb pr ow ft hs u1 u2 ur ul uo ua uc us ut uk fa vf wh wy (nI (h - 0)) dp md ov oh dn an lo' sk' kp mm fm → FrM σ σ' → P (.inl none) σ') : jl_mE l G m_Mo_pass [.ref 22, .int (nI m), .int (nI pc)] σ P := by
  obtain ⟨hO, hw, hu, hr, hkp, hmp, hfm⟩ := id hmb; obtain ⟨r1, r2⟩ := id hr
  obtain ⟨h23, h24, h25, h26, h27⟩ := id hw
  obtain ⟨h28, h29, h30, h31, h32, h33, h34, h35, h36, h37⟩ := id hu
  obtain ⟨hk1, hk2, hk3, hk4, hk5, hk6⟩ := hK.1 m hm
  have hh5 := hrv.2.1
  refine jl_ofE (as := [.ref 22, .int (nI m), .int (nI pc)]) rfl (by decide) hl (jl_cc rfl (jl_cc rfl (jl_cc rfl jl_ca))) (Nat.le_of_ble_eq_true rfl) ?_
  show jl_E l G m_Mo_pass (0, 0) 0 [some (.ref 22), some (.int (nI m)), some (.int (nI pc)), none, none, none] [] (σ) P
  refine er_aload_n d_Mo_pass_0 rfl ?_
  refine er_getf d_Mo_pass_1 f_Mo_pass_38 hO rfl ?_
  refine er_bipush ((nI (24))) d_Mo_pass_4 (by decide) ?_
  refine er_iload_n d_Mo_pass_6 rfl ?_
  refine er_imulN d_Mo_pass_7 ?_
  refine er_iload_n d_Mo_pass_8 rfl ?_
  refine er_iaddN d_Mo_pass_9 ?_
  refine er_ialdQ (v := (nI (7))) d_Mo_pass_10 h32 (by omega) (by omega) (congrArg nI ho) ?_
  refine er_istore_n d_Mo_pass_11 (by decide) ?_
  show jl_E l G m_Mo_pass (0, 0) 12 [some (.ref 22), some (.int (nI m)), some (.int (nI pc)), some (.int (nI 7)), none, none] [] (σ) P
  refine er_aload_n d_Mo_pass_12 rfl ?_
  refine er_getf d_Mo_pass_13 f_Mo_pass_41 hO rfl ?_
  refine er_bipush ((nI (24))) d_Mo_pass_16 (by decide) ?_
  refine er_iload_n d_Mo_pass_18 rfl ?_
  refine er_imulN d_Mo_pass_19 ?_
  refine er_iload_n d_Mo_pass_20 rfl ?_
  refine er_iaddN d_Mo_pass_21 ?_
  refine er_ialdQ (v := (x)) d_Mo_pass_22 h33 (by omega) (by omega) (hx) ?_
  refine er_istore d_Mo_pass_23 (by decide) ?_
  show jl_E l G m_Mo_pass (0, 0) 25 [some (.ref 22), some (.int (nI m)), some (.int (nI pc)), some (.int (nI 7)), some (.int (x)), none] [] (σ) P
  refine er_aload_n d_Mo_pass_25 rfl ?_
  refine er_getf d_Mo_pass_26 f_Mo_pass_179 hO rfl ?_
  refine er_if_leN 46 d_Mo_pass_29 (by decide) (by omega) (fun c1 => ?_) (fun c1 => ?_)
  · refine er_iconst ((-1)) d_Mo_pass_46 (by decide) ?_
    refine er_istore d_Mo_pass_47 (by decide) ?_
    show jl_E l G m_Mo_pass (0, 0) 49 [some (.ref 22), some (.int (nI m)), some (.int (nI pc)), some (.int (nI 7)), some (.int (x)), some (.int (-1))] [] (σ) P
    have htp : topO r h = none := by unfold topO; rw [if_pos (by omega)]
    rw [show (-1 : Int32) = en (topO r h) by rw [htp]; rfl]
    show jl_E l G m_Mo_pass (0, 0) 49 [some (.ref 22), some (.int (nI m)), some (.int (nI pc)), some (.int (nI 7)), some (.int (x)), some (.int (en (topO r h)))] [] (σ) P
    refine er_aload_n d_Mo_pass_49 rfl ?_
    refine er_dup d_Mo_pass_50 rfl ?_
    refine er_getf d_Mo_pass_51 f_Mo_pass_179 hO rfl ?_
    refine er_aload_n d_Mo_pass_54 rfl ?_
    refine er_iload_n d_Mo_pass_55 rfl ?_
    refine er_iload d_Mo_pass_56 rfl ?_
    refine er_callV (As := [.int (nI 7), .int (x)]) d_Mo_pass_58 k_Mo_pass_176 hO rfl rfl rfl (Nat.le_of_ble_eq_true rfl) (by decide) (by decide) (mo_tk_7 hl hO hw hu) ?_
    show jl_E l G m_Mo_pass (0, 0) 61 [some (.ref 22), some (.int (nI m)), some (.int (nI pc)), some (.int (nI 7)), some (.int (x)), some (.int (en (topO r h)))] [.int (nI 0), .int (nI h), .ref 22] (σ) P
    refine er_isubN d_Mo_pass_61 (by omega) ?_
    refine er_putf d_Mo_pass_62 p_Mo_pass_179 hO (Nat.le_of_ble_eq_true rfl) jl_fit_int ?_
    show jl_E l G m_Mo_pass (0, 0) 65 [some (.ref 22), some (.int (nI m)), some (.int (nI pc)), some (.int (nI 7)), some (.int (x)), some (.int (en (topO r h)))] [] (σ.set (22) (.inr (7, [.int (fa), .ref 23, .ref 24, .ref 25, .ref 26, .ref 27, .ref 28, .ref 29, .ref 30, .ref 31, .ref 32, .ref 33, .ref 34, .ref 35, .ref 36, .ref 37, .int (vf), .int (wh), .int (wy), .ref 38, .ref 39, .ref 40, .ref 41, .int (nI ((h) - (0))), .ref 42, .ref 43, .ref 44, .ref 45, .ref 46, .ref 47, .ref 48, .ref 49, .int (dp), .ref 50, .ref 51, .ref 52, .int (md), .int (ov), .int (oh), .int (dn), .int (an)]))) P
    refine er_iload_n d_Mo_pass_65 rfl ?_
    refine er_iconst ((nI (2))) d_Mo_pass_66 (by decide) ?_
    refine er_icmp_ne 79 d_Mo_pass_67 (by decide) (fun _ => ?_) (fun z => absurd z (by decide))
    refine er_iload_n d_Mo_pass_79 rfl ?_
    refine er_iconst ((nI (1))) d_Mo_pass_80 (by decide) ?_
    refine er_icmp_ne 98 d_Mo_pass_81 (by decide) (fun _ => ?_) (fun z => absurd z (by decide))
    refine er_iload_n d_Mo_pass_98 rfl ?_
    refine er_bipush ((nI (10))) d_Mo_pass_99 (by decide) ?_
    refine er_icmp_ne 112 d_Mo_pass_101 (by decide) (fun _ => ?_) (fun z => absurd z (by decide))
    refine er_iload_n d_Mo_pass_112 rfl ?_
    refine er_bipush ((nI (11))) d_Mo_pass_113 (by decide) ?_
    refine er_icmp_eq 124 d_Mo_pass_115 (by decide) (fun z => absurd z (by decide)) (fun _ => ?_)
    refine er_iload_n d_Mo_pass_118 rfl ?_
    refine er_bipush ((nI (15))) d_Mo_pass_119 (by decide) ?_
    refine er_icmp_ne 136 d_Mo_pass_121 (by decide) (fun _ => ?_) (fun z => absurd z (by decide))
    refine er_iload_n d_Mo_pass_136 rfl ?_
    refine er_bipush ((nI (12))) d_Mo_pass_137 (by decide) ?_
    refine er_icmp_ne 163 d_Mo_pass_139 (by decide) (fun _ => ?_) (fun z => absurd z (by decide))
    refine er_iload_n d_Mo_pass_163 rfl ?_
    refine er_bipush ((nI (14))) d_Mo_pass_164 (by decide) ?_
    refine er_icmp_ne 193 d_Mo_pass_166 (by decide) (fun _ => ?_) (fun z => absurd z (by decide))
    refine er_iload_n d_Mo_pass_193 rfl ?_
    refine er_bipush ((nI (19))) d_Mo_pass_194 (by decide) ?_
    refine er_icmp_ne 207 d_Mo_pass_196 (by decide) (fun _ => ?_) (fun z => absurd z (by decide))
    refine er_iload_n d_Mo_pass_207 rfl ?_
    refine er_bipush ((nI (24))) d_Mo_pass_208 (by decide) ?_
    refine er_icmp_ne 228 d_Mo_pass_210 (by decide) (fun _ => ?_) (fun z => absurd z (by decide))
    refine er_aload_n d_Mo_pass_228 rfl ?_
    refine er_iload_n d_Mo_pass_229 rfl ?_
    refine er_callV (As := [.int (nI 7)]) d_Mo_pass_230 k_Mo_pass_182 (jl_ss hO) rfl rfl rfl (Nat.le_of_ble_eq_true rfl) (by decide) (by decide) (mo_puts hl (hmb.s22).1 (hmb.s22).2.1 (by omega)) ?_
    show jl_E l G m_Mo_pass (0, 0) 233 [some (.ref 22), some (.int (nI m)), some (.int (nI pc)), some (.int (nI 7)), some (.int (x)), some (.int (en (topO r h)))] [.int (nI 0)] (σ.set (22) (.inr (7, [.int (fa), .ref 23, .ref 24, .ref 25, .ref 26, .ref 27, .ref 28, .ref 29, .ref 30, .ref 31, .ref 32, .ref 33, .ref 34, .ref 35, .ref 36, .ref 37, .int (vf), .int (wh), .int (wy), .ref 38, .ref 39, .ref 40, .ref 41, .int (nI ((h) - (0))), .ref 42, .ref 43, .ref 44, .ref 45, .ref 46, .ref 47, .ref 48, .ref 49, .int (dp), .ref 50, .ref 51, .ref 52, .int (md), .int (ov), .int (oh), .int (dn), .int (an)]))) P
    refine er_iconst ((nI (1))) d_Mo_pass_233 (by decide) ?_
    refine er_icmp_ne 242 d_Mo_pass_234 (by decide) (fun _ => ?_) (fun z => absurd z (by decide))
    exact er_vret d_Mo_pass_242 rfl (hT _ _ _ (hrl.low htk) hlo hsk (hmb.s22) (FrM.refl.set (by omega))) (by decide) (by decide)
  · refine er_aload_n d_Mo_pass_32 rfl ?_
    refine er_getf d_Mo_pass_33 f_Mo_pass_72 hO rfl ?_
    refine er_aload_n d_Mo_pass_36 rfl ?_
    refine er_getf d_Mo_pass_37 f_Mo_pass_179 hO rfl ?_
    refine er_iconst ((nI (1))) d_Mo_pass_40 (by decide) ?_
    refine er_isubN d_Mo_pass_41 (by omega) ?_
    refine er_ialdQ (v := (en (topO r h))) d_Mo_pass_42 r2 (by omega) (by omega) (congrArg en (show sk (h - 1) = topO r h by unfold topO; rw [if_neg (by omega), hrl.2 (h - 1) (by omega)]; congr 1; omega)) ?_
    refine er_goto 47 d_Mo_pass_43 (by decide) ?_
    refine er_istore d_Mo_pass_47 (by decide) ?_
    show jl_E l G m_Mo_pass (0, 0) 49 [some (.ref 22), some (.int (nI m)), some (.int (nI pc)), some (.int (nI 7)), some (.int (x)), some (.int (en (topO r h)))] [] (σ) P
    refine er_aload_n d_Mo_pass_49 rfl ?_
    refine er_dup d_Mo_pass_50 rfl ?_
    refine er_getf d_Mo_pass_51 f_Mo_pass_179 hO rfl ?_
    refine er_aload_n d_Mo_pass_54 rfl ?_
    refine er_iload_n d_Mo_pass_55 rfl ?_
    refine er_iload d_Mo_pass_56 rfl ?_
    refine er_callV (As := [.int (nI 7), .int (x)]) d_Mo_pass_58 k_Mo_pass_176 hO rfl rfl rfl (Nat.le_of_ble_eq_true rfl) (by decide) (by decide) (mo_tk_7 hl hO hw hu) ?_
    show jl_E l G m_Mo_pass (0, 0) 61 [some (.ref 22), some (.int (nI m)), some (.int (nI pc)), some (.int (nI 7)), some (.int (x)), some (.int (en (topO r h)))] [.int (nI 0), .int (nI h), .ref 22] (σ) P
    refine er_isubN d_Mo_pass_61 (by omega) ?_
    refine er_putf d_Mo_pass_62 p_Mo_pass_179 hO (Nat.le_of_ble_eq_true rfl) jl_fit_int ?_
    show jl_E l G m_Mo_pass (0, 0) 65 [some (.ref 22), some (.int (nI m)), some (.int (nI pc)), some (.int (nI 7)), some (.int (x)), some (.int (en (topO r h)))] [] (σ.set (22) (.inr (7, [.int (fa), .ref 23, .ref 24, .ref 25, .ref 26, .ref 27, .ref 28, .ref 29, .ref 30, .ref 31, .ref 32, .ref 33, .ref 34, .ref 35, .ref 36, .ref 37, .int (vf), .int (wh), .int (wy), .ref 38, .ref 39, .ref 40, .ref 41, .int (nI ((h) - (0))), .ref 42, .ref 43, .ref 44, .ref 45, .ref 46, .ref 47, .ref 48, .ref 49, .int (dp), .ref 50, .ref 51, .ref 52, .int (md), .int (ov), .int (oh), .int (dn), .int (an)]))) P
    refine er_iload_n d_Mo_pass_65 rfl ?_
    refine er_iconst ((nI (2))) d_Mo_pass_66 (by decide) ?_
    refine er_icmp_ne 79 d_Mo_pass_67 (by decide) (fun _ => ?_) (fun z => absurd z (by decide))
    refine er_iload_n d_Mo_pass_79 rfl ?_
    refine er_iconst ((nI (1))) d_Mo_pass_80 (by decide) ?_
    refine er_icmp_ne 98 d_Mo_pass_81 (by decide) (fun _ => ?_) (fun z => absurd z (by decide))
    refine er_iload_n d_Mo_pass_98 rfl ?_
    refine er_bipush ((nI (10))) d_Mo_pass_99 (by decide) ?_
    refine er_icmp_ne 112 d_Mo_pass_101 (by decide) (fun _ => ?_) (fun z => absurd z (by decide))
    refine er_iload_n d_Mo_pass_112 rfl ?_
    refine er_bipush ((nI (11))) d_Mo_pass_113 (by decide) ?_
    refine er_icmp_eq 124 d_Mo_pass_115 (by decide) (fun z => absurd z (by decide)) (fun _ => ?_)
    refine er_iload_n d_Mo_pass_118 rfl ?_
    refine er_bipush ((nI (15))) d_Mo_pass_119 (by decide) ?_
    refine er_icmp_ne 136 d_Mo_pass_121 (by decide) (fun _ => ?_) (fun z => absurd z (by decide))
    refine er_iload_n d_Mo_pass_136 rfl ?_
    refine er_bipush ((nI (12))) d_Mo_pass_137 (by decide) ?_
    refine er_icmp_ne 163 d_Mo_pass_139 (by decide) (fun _ => ?_) (fun z => absurd z (by decide))
    refine er_iload_n d_Mo_pass_163 rfl ?_
    refine er_bipush ((nI (14))) d_Mo_pass_164 (by decide) ?_
    refine er_icmp_ne 193 d_Mo_pass_166 (by decide) (fun _ => ?_) (fun z => absurd z (by decide))
    refine er_iload_n d_Mo_pass_193 rfl ?_
    refine er_bipush ((nI (19))) d_Mo_pass_194 (by decide) ?_
    refine er_icmp_ne 207 d_Mo_pass_196 (by decide) (fun _ => ?_) (fun z => absurd z (by decide))
    refine er_iload_n d_Mo_pass_207 rfl ?_
    refine er_bipush ((nI (24))) d_Mo_pass_208 (by decide) ?_
    refine er_icmp_ne 228 d_Mo_pass_210 (by decide) (fun _ => ?_) (fun z => absurd z (by decide))
    refine er_aload_n d_Mo_pass_228 rfl ?_
    refine er_iload_n d_Mo_pass_229 rfl ?_
    refine er_callV (As := [.int (nI 7)]) d_Mo_pass_230 k_Mo_pass_182 (jl_ss hO) rfl rfl rfl (Nat.le_of_ble_eq_true rfl) (by decide) (by decide) (mo_puts hl (hmb.s22).1 (hmb.s22).2.1 (by omega)) ?_
    show jl_E l G m_Mo_pass (0, 0) 233 [some (.ref 22), some (.int (nI m)), some (.int (nI pc)), some (.int (nI 7)), some (.int (x)), some (.int (en (topO r h)))] [.int (nI 0)] (σ.set (22) (.inr (7, [.int (fa), .ref 23, .ref 24, .ref 25, .ref 26, .ref 27, .ref 28, .ref 29, .ref 30, .ref 31, .ref 32, .ref 33, .ref 34, .ref 35, .ref 36, .ref 37, .int (vf), .int (wh), .int (wy), .ref 38, .ref 39, .ref 40, .ref 41, .int (nI ((h) - (0))), .ref 42, .ref 43, .ref 44, .ref 45, .ref 46, .ref 47, .ref 48, .ref 49, .int (dp), .ref 50, .ref 51, .ref 52, .int (md), .int (ov), .int (oh), .int (dn), .int (an)]))) P
    refine er_iconst ((nI (1))) d_Mo_pass_233 (by decide) ?_
    refine er_icmp_ne 242 d_Mo_pass_234 (by decide) (fun _ => ?_) (fun z => absurd z (by decide))
    exact er_vret d_Mo_pass_242 rfl (hT _ _ _ (hrl.low htk) hlo hsk (hmb.s22) (FrM.refl.set (by omega))) (by decide) (by decide)
theorem mo_pass_8 (hl : l.stackTraces = false) {P : jl_O → jl_S → Prop} {m pc h : Nat} {r : Rw} {x : Int32} (hmb : MB σ tb pr ow ft hs u1 u2 ur ul uo ua uc us ut uk fa vf wh wy (nI h) dp md ov oh dn an lo sk kp mm fm) (hok : WoOk tb pr ow fi) (hK : MoK u1 u2 ur ul uo uc us ut uk) (hm : m < 24) (hpc : pc < 24) (ho : uo (24 * m + pc) = 8) (hx : ua (24 * m + pc) = x) (hrl : RlM r lo sk h) (hrv : rv r h) (hlo : ∀ j, ob 16 (lo j)) (hsk : ∀ j, ob 16 (sk j)) (htk : 1 ≤ h) (hp5 : h - 1 + 0 ≤ 5) (hT : ∀ lo' sk' σ', RlM (low r h 1) lo' sk' (h - 1) → (∀ j, ob 16 (lo' j)) → (∀ j, ob 16 (sk' j)) → MB σ' tb pr ow ft hs u1 u2 ur ul uo ua uc us ut uk fa vf wh wy (nI (h - 1)) dp md ov oh dn an lo' sk' kp mm fm → FrM σ σ' → P (.inl none) σ') : jl_mE l G m_Mo_pass [.ref 22, .int (nI m), .int (nI pc)] σ P := by
  obtain ⟨hO, hw, hu, hr, hkp, hmp, hfm⟩ := id hmb; obtain ⟨r1, r2⟩ := id hr
  obtain ⟨h23, h24, h25, h26, h27⟩ := id hw
  obtain ⟨h28, h29, h30, h31, h32, h33, h34, h35, h36, h37⟩ := id hu
  obtain ⟨hk1, hk2, hk3, hk4, hk5, hk6⟩ := hK.1 m hm
  have hh5 := hrv.2.1
  refine jl_ofE (as := [.ref 22, .int (nI m), .int (nI pc)]) rfl (by decide) hl (jl_cc rfl (jl_cc rfl (jl_cc rfl jl_ca))) (Nat.le_of_ble_eq_true rfl) ?_
  show jl_E l G m_Mo_pass (0, 0) 0 [some (.ref 22), some (.int (nI m)), some (.int (nI pc)), none, none, none] [] (σ) P
  refine er_aload_n d_Mo_pass_0 rfl ?_
  refine er_getf d_Mo_pass_1 f_Mo_pass_38 hO rfl ?_
  refine er_bipush ((nI (24))) d_Mo_pass_4 (by decide) ?_
  refine er_iload_n d_Mo_pass_6 rfl ?_
  refine er_imulN d_Mo_pass_7 ?_
  refine er_iload_n d_Mo_pass_8 rfl ?_
  refine er_iaddN d_Mo_pass_9 ?_
  refine er_ialdQ (v := (nI (8))) d_Mo_pass_10 h32 (by omega) (by omega) (congrArg nI ho) ?_
  refine er_istore_n d_Mo_pass_11 (by decide) ?_
  show jl_E l G m_Mo_pass (0, 0) 12 [some (.ref 22), some (.int (nI m)), some (.int (nI pc)), some (.int (nI 8)), none, none] [] (σ) P
  refine er_aload_n d_Mo_pass_12 rfl ?_
  refine er_getf d_Mo_pass_13 f_Mo_pass_41 hO rfl ?_
  refine er_bipush ((nI (24))) d_Mo_pass_16 (by decide) ?_
  refine er_iload_n d_Mo_pass_18 rfl ?_
  refine er_imulN d_Mo_pass_19 ?_
  refine er_iload_n d_Mo_pass_20 rfl ?_
  refine er_iaddN d_Mo_pass_21 ?_
  refine er_ialdQ (v := (x)) d_Mo_pass_22 h33 (by omega) (by omega) (hx) ?_
  refine er_istore d_Mo_pass_23 (by decide) ?_
  show jl_E l G m_Mo_pass (0, 0) 25 [some (.ref 22), some (.int (nI m)), some (.int (nI pc)), some (.int (nI 8)), some (.int (x)), none] [] (σ) P
  refine er_aload_n d_Mo_pass_25 rfl ?_
  refine er_getf d_Mo_pass_26 f_Mo_pass_179 hO rfl ?_
  refine er_if_leN 46 d_Mo_pass_29 (by decide) (by omega) (fun c1 => ?_) (fun c1 => ?_)
  · refine er_iconst ((-1)) d_Mo_pass_46 (by decide) ?_
    refine er_istore d_Mo_pass_47 (by decide) ?_
    show jl_E l G m_Mo_pass (0, 0) 49 [some (.ref 22), some (.int (nI m)), some (.int (nI pc)), some (.int (nI 8)), some (.int (x)), some (.int (-1))] [] (σ) P
    have htp : topO r h = none := by unfold topO; rw [if_pos (by omega)]
    rw [show (-1 : Int32) = en (topO r h) by rw [htp]; rfl]
    show jl_E l G m_Mo_pass (0, 0) 49 [some (.ref 22), some (.int (nI m)), some (.int (nI pc)), some (.int (nI 8)), some (.int (x)), some (.int (en (topO r h)))] [] (σ) P
    refine er_aload_n d_Mo_pass_49 rfl ?_
    refine er_dup d_Mo_pass_50 rfl ?_
    refine er_getf d_Mo_pass_51 f_Mo_pass_179 hO rfl ?_
    refine er_aload_n d_Mo_pass_54 rfl ?_
    refine er_iload_n d_Mo_pass_55 rfl ?_
    refine er_iload d_Mo_pass_56 rfl ?_
    refine er_callV (As := [.int (nI 8), .int (x)]) d_Mo_pass_58 k_Mo_pass_176 hO rfl rfl rfl (Nat.le_of_ble_eq_true rfl) (by decide) (by decide) (mo_tk_8 hl hO hw hu) ?_
    show jl_E l G m_Mo_pass (0, 0) 61 [some (.ref 22), some (.int (nI m)), some (.int (nI pc)), some (.int (nI 8)), some (.int (x)), some (.int (en (topO r h)))] [.int (nI 1), .int (nI h), .ref 22] (σ) P
    refine er_isubN d_Mo_pass_61 (by omega) ?_
    refine er_putf d_Mo_pass_62 p_Mo_pass_179 hO (Nat.le_of_ble_eq_true rfl) jl_fit_int ?_
    show jl_E l G m_Mo_pass (0, 0) 65 [some (.ref 22), some (.int (nI m)), some (.int (nI pc)), some (.int (nI 8)), some (.int (x)), some (.int (en (topO r h)))] [] (σ.set (22) (.inr (7, [.int (fa), .ref 23, .ref 24, .ref 25, .ref 26, .ref 27, .ref 28, .ref 29, .ref 30, .ref 31, .ref 32, .ref 33, .ref 34, .ref 35, .ref 36, .ref 37, .int (vf), .int (wh), .int (wy), .ref 38, .ref 39, .ref 40, .ref 41, .int (nI ((h) - (1))), .ref 42, .ref 43, .ref 44, .ref 45, .ref 46, .ref 47, .ref 48, .ref 49, .int (dp), .ref 50, .ref 51, .ref 52, .int (md), .int (ov), .int (oh), .int (dn), .int (an)]))) P
    refine er_iload_n d_Mo_pass_65 rfl ?_
    refine er_iconst ((nI (2))) d_Mo_pass_66 (by decide) ?_
    refine er_icmp_ne 79 d_Mo_pass_67 (by decide) (fun _ => ?_) (fun z => absurd z (by decide))
    refine er_iload_n d_Mo_pass_79 rfl ?_
    refine er_iconst ((nI (1))) d_Mo_pass_80 (by decide) ?_
    refine er_icmp_ne 98 d_Mo_pass_81 (by decide) (fun _ => ?_) (fun z => absurd z (by decide))
    refine er_iload_n d_Mo_pass_98 rfl ?_
    refine er_bipush ((nI (10))) d_Mo_pass_99 (by decide) ?_
    refine er_icmp_ne 112 d_Mo_pass_101 (by decide) (fun _ => ?_) (fun z => absurd z (by decide))
    refine er_iload_n d_Mo_pass_112 rfl ?_
    refine er_bipush ((nI (11))) d_Mo_pass_113 (by decide) ?_
    refine er_icmp_eq 124 d_Mo_pass_115 (by decide) (fun z => absurd z (by decide)) (fun _ => ?_)
    refine er_iload_n d_Mo_pass_118 rfl ?_
    refine er_bipush ((nI (15))) d_Mo_pass_119 (by decide) ?_
    refine er_icmp_ne 136 d_Mo_pass_121 (by decide) (fun _ => ?_) (fun z => absurd z (by decide))
    refine er_iload_n d_Mo_pass_136 rfl ?_
    refine er_bipush ((nI (12))) d_Mo_pass_137 (by decide) ?_
    refine er_icmp_ne 163 d_Mo_pass_139 (by decide) (fun _ => ?_) (fun z => absurd z (by decide))
    refine er_iload_n d_Mo_pass_163 rfl ?_
    refine er_bipush ((nI (14))) d_Mo_pass_164 (by decide) ?_
    refine er_icmp_ne 193 d_Mo_pass_166 (by decide) (fun _ => ?_) (fun z => absurd z (by decide))
    refine er_iload_n d_Mo_pass_193 rfl ?_
    refine er_bipush ((nI (19))) d_Mo_pass_194 (by decide) ?_
    refine er_icmp_ne 207 d_Mo_pass_196 (by decide) (fun _ => ?_) (fun z => absurd z (by decide))
    refine er_iload_n d_Mo_pass_207 rfl ?_
    refine er_bipush ((nI (24))) d_Mo_pass_208 (by decide) ?_
    refine er_icmp_ne 228 d_Mo_pass_210 (by decide) (fun _ => ?_) (fun z => absurd z (by decide))
    refine er_aload_n d_Mo_pass_228 rfl ?_
    refine er_iload_n d_Mo_pass_229 rfl ?_
    refine er_callV (As := [.int (nI 8)]) d_Mo_pass_230 k_Mo_pass_182 (jl_ss hO) rfl rfl rfl (Nat.le_of_ble_eq_true rfl) (by decide) (by decide) (mo_puts hl (hmb.s22).1 (hmb.s22).2.1 (by omega)) ?_
    show jl_E l G m_Mo_pass (0, 0) 233 [some (.ref 22), some (.int (nI m)), some (.int (nI pc)), some (.int (nI 8)), some (.int (x)), some (.int (en (topO r h)))] [.int (nI 0)] (σ.set (22) (.inr (7, [.int (fa), .ref 23, .ref 24, .ref 25, .ref 26, .ref 27, .ref 28, .ref 29, .ref 30, .ref 31, .ref 32, .ref 33, .ref 34, .ref 35, .ref 36, .ref 37, .int (vf), .int (wh), .int (wy), .ref 38, .ref 39, .ref 40, .ref 41, .int (nI ((h) - (1))), .ref 42, .ref 43, .ref 44, .ref 45, .ref 46, .ref 47, .ref 48, .ref 49, .int (dp), .ref 50, .ref 51, .ref 52, .int (md), .int (ov), .int (oh), .int (dn), .int (an)]))) P
    refine er_iconst ((nI (1))) d_Mo_pass_233 (by decide) ?_
    refine er_icmp_ne 242 d_Mo_pass_234 (by decide) (fun _ => ?_) (fun z => absurd z (by decide))
    exact er_vret d_Mo_pass_242 rfl (hT _ _ _ (hrl.low htk) hlo hsk (hmb.s22) (FrM.refl.set (by omega))) (by decide) (by decide)
  · refine er_aload_n d_Mo_pass_32 rfl ?_
    refine er_getf d_Mo_pass_33 f_Mo_pass_72 hO rfl ?_
    refine er_aload_n d_Mo_pass_36 rfl ?_
    refine er_getf d_Mo_pass_37 f_Mo_pass_179 hO rfl ?_
    refine er_iconst ((nI (1))) d_Mo_pass_40 (by decide) ?_
    refine er_isubN d_Mo_pass_41 (by omega) ?_
    refine er_ialdQ (v := (en (topO r h))) d_Mo_pass_42 r2 (by omega) (by omega) (congrArg en (show sk (h - 1) = topO r h by unfold topO; rw [if_neg (by omega), hrl.2 (h - 1) (by omega)]; congr 1; omega)) ?_
    refine er_goto 47 d_Mo_pass_43 (by decide) ?_
    refine er_istore d_Mo_pass_47 (by decide) ?_
    show jl_E l G m_Mo_pass (0, 0) 49 [some (.ref 22), some (.int (nI m)), some (.int (nI pc)), some (.int (nI 8)), some (.int (x)), some (.int (en (topO r h)))] [] (σ) P
    refine er_aload_n d_Mo_pass_49 rfl ?_
    refine er_dup d_Mo_pass_50 rfl ?_
    refine er_getf d_Mo_pass_51 f_Mo_pass_179 hO rfl ?_
    refine er_aload_n d_Mo_pass_54 rfl ?_
    refine er_iload_n d_Mo_pass_55 rfl ?_
    refine er_iload d_Mo_pass_56 rfl ?_
    refine er_callV (As := [.int (nI 8), .int (x)]) d_Mo_pass_58 k_Mo_pass_176 hO rfl rfl rfl (Nat.le_of_ble_eq_true rfl) (by decide) (by decide) (mo_tk_8 hl hO hw hu) ?_
    show jl_E l G m_Mo_pass (0, 0) 61 [some (.ref 22), some (.int (nI m)), some (.int (nI pc)), some (.int (nI 8)), some (.int (x)), some (.int (en (topO r h)))] [.int (nI 1), .int (nI h), .ref 22] (σ) P
    refine er_isubN d_Mo_pass_61 (by omega) ?_
    refine er_putf d_Mo_pass_62 p_Mo_pass_179 hO (Nat.le_of_ble_eq_true rfl) jl_fit_int ?_
    show jl_E l G m_Mo_pass (0, 0) 65 [some (.ref 22), some (.int (nI m)), some (.int (nI pc)), some (.int (nI 8)), some (.int (x)), some (.int (en (topO r h)))] [] (σ.set (22) (.inr (7, [.int (fa), .ref 23, .ref 24, .ref 25, .ref 26, .ref 27, .ref 28, .ref 29, .ref 30, .ref 31, .ref 32, .ref 33, .ref 34, .ref 35, .ref 36, .ref 37, .int (vf), .int (wh), .int (wy), .ref 38, .ref 39, .ref 40, .ref 41, .int (nI ((h) - (1))), .ref 42, .ref 43, .ref 44, .ref 45, .ref 46, .ref 47, .ref 48, .ref 49, .int (dp), .ref 50, .ref 51, .ref 52, .int (md), .int (ov), .int (oh), .int (dn), .int (an)]))) P
    refine er_iload_n d_Mo_pass_65 rfl ?_
    refine er_iconst ((nI (2))) d_Mo_pass_66 (by decide) ?_
    refine er_icmp_ne 79 d_Mo_pass_67 (by decide) (fun _ => ?_) (fun z => absurd z (by decide))
    refine er_iload_n d_Mo_pass_79 rfl ?_
    refine er_iconst ((nI (1))) d_Mo_pass_80 (by decide) ?_
    refine er_icmp_ne 98 d_Mo_pass_81 (by decide) (fun _ => ?_) (fun z => absurd z (by decide))
    refine er_iload_n d_Mo_pass_98 rfl ?_
    refine er_bipush ((nI (10))) d_Mo_pass_99 (by decide) ?_
    refine er_icmp_ne 112 d_Mo_pass_101 (by decide) (fun _ => ?_) (fun z => absurd z (by decide))
    refine er_iload_n d_Mo_pass_112 rfl ?_
    refine er_bipush ((nI (11))) d_Mo_pass_113 (by decide) ?_
    refine er_icmp_eq 124 d_Mo_pass_115 (by decide) (fun z => absurd z (by decide)) (fun _ => ?_)
    refine er_iload_n d_Mo_pass_118 rfl ?_
    refine er_bipush ((nI (15))) d_Mo_pass_119 (by decide) ?_
    refine er_icmp_ne 136 d_Mo_pass_121 (by decide) (fun _ => ?_) (fun z => absurd z (by decide))
    refine er_iload_n d_Mo_pass_136 rfl ?_
    refine er_bipush ((nI (12))) d_Mo_pass_137 (by decide) ?_
    refine er_icmp_ne 163 d_Mo_pass_139 (by decide) (fun _ => ?_) (fun z => absurd z (by decide))
    refine er_iload_n d_Mo_pass_163 rfl ?_
    refine er_bipush ((nI (14))) d_Mo_pass_164 (by decide) ?_
    refine er_icmp_ne 193 d_Mo_pass_166 (by decide) (fun _ => ?_) (fun z => absurd z (by decide))
    refine er_iload_n d_Mo_pass_193 rfl ?_
    refine er_bipush ((nI (19))) d_Mo_pass_194 (by decide) ?_
    refine er_icmp_ne 207 d_Mo_pass_196 (by decide) (fun _ => ?_) (fun z => absurd z (by decide))
    refine er_iload_n d_Mo_pass_207 rfl ?_
    refine er_bipush ((nI (24))) d_Mo_pass_208 (by decide) ?_
    refine er_icmp_ne 228 d_Mo_pass_210 (by decide) (fun _ => ?_) (fun z => absurd z (by decide))
    refine er_aload_n d_Mo_pass_228 rfl ?_
    refine er_iload_n d_Mo_pass_229 rfl ?_
    refine er_callV (As := [.int (nI 8)]) d_Mo_pass_230 k_Mo_pass_182 (jl_ss hO) rfl rfl rfl (Nat.le_of_ble_eq_true rfl) (by decide) (by decide) (mo_puts hl (hmb.s22).1 (hmb.s22).2.1 (by omega)) ?_
    show jl_E l G m_Mo_pass (0, 0) 233 [some (.ref 22), some (.int (nI m)), some (.int (nI pc)), some (.int (nI 8)), some (.int (x)), some (.int (en (topO r h)))] [.int (nI 0)] (σ.set (22) (.inr (7, [.int (fa), .ref 23, .ref 24, .ref 25, .ref 26, .ref 27, .ref 28, .ref 29, .ref 30, .ref 31, .ref 32, .ref 33, .ref 34, .ref 35, .ref 36, .ref 37, .int (vf), .int (wh), .int (wy), .ref 38, .ref 39, .ref 40, .ref 41, .int (nI ((h) - (1))), .ref 42, .ref 43, .ref 44, .ref 45, .ref 46, .ref 47, .ref 48, .ref 49, .int (dp), .ref 50, .ref 51, .ref 52, .int (md), .int (ov), .int (oh), .int (dn), .int (an)]))) P
    refine er_iconst ((nI (1))) d_Mo_pass_233 (by decide) ?_
    refine er_icmp_ne 242 d_Mo_pass_234 (by decide) (fun _ => ?_) (fun z => absurd z (by decide))
    exact er_vret d_Mo_pass_242 rfl (hT _ _ _ (hrl.low htk) hlo hsk (hmb.s22) (FrM.refl.set (by omega))) (by decide) (by decide)
theorem mo_pass_9 (hl : l.stackTraces = false) {P : jl_O → jl_S → Prop} {m pc h : Nat} {r : Rw} {x : Int32} (hmb : MB σ tb pr ow ft hs u1 u2 ur ul uo ua uc us ut uk fa vf wh wy (nI h) dp md ov oh dn an lo sk kp mm fm) (hok : WoOk tb pr ow fi) (hK : MoK u1 u2 ur ul uo uc us ut uk) (hm : m < 24) (hpc : pc < 24) (ho : uo (24 * m + pc) = 9) (hx : ua (24 * m + pc) = x) (hrl : RlM r lo sk h) (hrv : rv r h) (hlo : ∀ j, ob 16 (lo j)) (hsk : ∀ j, ob 16 (sk j)) (htk : 2 ≤ h) (hp5 : h - 2 + 0 ≤ 5) (hT : ∀ lo' sk' σ', RlM (low r h 2) lo' sk' (h - 2) → (∀ j, ob 16 (lo' j)) → (∀ j, ob 16 (sk' j)) → MB σ' tb pr ow ft hs u1 u2 ur ul uo ua uc us ut uk fa vf wh wy (nI (h - 2)) dp md ov oh dn an lo' sk' kp mm fm → FrM σ σ' → P (.inl none) σ') : jl_mE l G m_Mo_pass [.ref 22, .int (nI m), .int (nI pc)] σ P := by
  obtain ⟨hO, hw, hu, hr, hkp, hmp, hfm⟩ := id hmb; obtain ⟨r1, r2⟩ := id hr
  obtain ⟨h23, h24, h25, h26, h27⟩ := id hw
  obtain ⟨h28, h29, h30, h31, h32, h33, h34, h35, h36, h37⟩ := id hu
  obtain ⟨hk1, hk2, hk3, hk4, hk5, hk6⟩ := hK.1 m hm
  have hh5 := hrv.2.1
  refine jl_ofE (as := [.ref 22, .int (nI m), .int (nI pc)]) rfl (by decide) hl (jl_cc rfl (jl_cc rfl (jl_cc rfl jl_ca))) (Nat.le_of_ble_eq_true rfl) ?_
  show jl_E l G m_Mo_pass (0, 0) 0 [some (.ref 22), some (.int (nI m)), some (.int (nI pc)), none, none, none] [] (σ) P
  refine er_aload_n d_Mo_pass_0 rfl ?_
  refine er_getf d_Mo_pass_1 f_Mo_pass_38 hO rfl ?_
  refine er_bipush ((nI (24))) d_Mo_pass_4 (by decide) ?_
  refine er_iload_n d_Mo_pass_6 rfl ?_
  refine er_imulN d_Mo_pass_7 ?_
  refine er_iload_n d_Mo_pass_8 rfl ?_
  refine er_iaddN d_Mo_pass_9 ?_
  refine er_ialdQ (v := (nI (9))) d_Mo_pass_10 h32 (by omega) (by omega) (congrArg nI ho) ?_
  refine er_istore_n d_Mo_pass_11 (by decide) ?_
  show jl_E l G m_Mo_pass (0, 0) 12 [some (.ref 22), some (.int (nI m)), some (.int (nI pc)), some (.int (nI 9)), none, none] [] (σ) P
  refine er_aload_n d_Mo_pass_12 rfl ?_
  refine er_getf d_Mo_pass_13 f_Mo_pass_41 hO rfl ?_
  refine er_bipush ((nI (24))) d_Mo_pass_16 (by decide) ?_
  refine er_iload_n d_Mo_pass_18 rfl ?_
  refine er_imulN d_Mo_pass_19 ?_
  refine er_iload_n d_Mo_pass_20 rfl ?_
  refine er_iaddN d_Mo_pass_21 ?_
  refine er_ialdQ (v := (x)) d_Mo_pass_22 h33 (by omega) (by omega) (hx) ?_
  refine er_istore d_Mo_pass_23 (by decide) ?_
  show jl_E l G m_Mo_pass (0, 0) 25 [some (.ref 22), some (.int (nI m)), some (.int (nI pc)), some (.int (nI 9)), some (.int (x)), none] [] (σ) P
  refine er_aload_n d_Mo_pass_25 rfl ?_
  refine er_getf d_Mo_pass_26 f_Mo_pass_179 hO rfl ?_
  refine er_if_leN 46 d_Mo_pass_29 (by decide) (by omega) (fun c1 => ?_) (fun c1 => ?_)
  · refine er_iconst ((-1)) d_Mo_pass_46 (by decide) ?_
    refine er_istore d_Mo_pass_47 (by decide) ?_
    show jl_E l G m_Mo_pass (0, 0) 49 [some (.ref 22), some (.int (nI m)), some (.int (nI pc)), some (.int (nI 9)), some (.int (x)), some (.int (-1))] [] (σ) P
    have htp : topO r h = none := by unfold topO; rw [if_pos (by omega)]
    rw [show (-1 : Int32) = en (topO r h) by rw [htp]; rfl]
    show jl_E l G m_Mo_pass (0, 0) 49 [some (.ref 22), some (.int (nI m)), some (.int (nI pc)), some (.int (nI 9)), some (.int (x)), some (.int (en (topO r h)))] [] (σ) P
    refine er_aload_n d_Mo_pass_49 rfl ?_
    refine er_dup d_Mo_pass_50 rfl ?_
    refine er_getf d_Mo_pass_51 f_Mo_pass_179 hO rfl ?_
    refine er_aload_n d_Mo_pass_54 rfl ?_
    refine er_iload_n d_Mo_pass_55 rfl ?_
    refine er_iload d_Mo_pass_56 rfl ?_
    refine er_callV (As := [.int (nI 9), .int (x)]) d_Mo_pass_58 k_Mo_pass_176 hO rfl rfl rfl (Nat.le_of_ble_eq_true rfl) (by decide) (by decide) (mo_tk_9 hl hO hw hu) ?_
    show jl_E l G m_Mo_pass (0, 0) 61 [some (.ref 22), some (.int (nI m)), some (.int (nI pc)), some (.int (nI 9)), some (.int (x)), some (.int (en (topO r h)))] [.int (nI 2), .int (nI h), .ref 22] (σ) P
    refine er_isubN d_Mo_pass_61 (by omega) ?_
    refine er_putf d_Mo_pass_62 p_Mo_pass_179 hO (Nat.le_of_ble_eq_true rfl) jl_fit_int ?_
    show jl_E l G m_Mo_pass (0, 0) 65 [some (.ref 22), some (.int (nI m)), some (.int (nI pc)), some (.int (nI 9)), some (.int (x)), some (.int (en (topO r h)))] [] (σ.set (22) (.inr (7, [.int (fa), .ref 23, .ref 24, .ref 25, .ref 26, .ref 27, .ref 28, .ref 29, .ref 30, .ref 31, .ref 32, .ref 33, .ref 34, .ref 35, .ref 36, .ref 37, .int (vf), .int (wh), .int (wy), .ref 38, .ref 39, .ref 40, .ref 41, .int (nI ((h) - (2))), .ref 42, .ref 43, .ref 44, .ref 45, .ref 46, .ref 47, .ref 48, .ref 49, .int (dp), .ref 50, .ref 51, .ref 52, .int (md), .int (ov), .int (oh), .int (dn), .int (an)]))) P
    refine er_iload_n d_Mo_pass_65 rfl ?_
    refine er_iconst ((nI (2))) d_Mo_pass_66 (by decide) ?_
    refine er_icmp_ne 79 d_Mo_pass_67 (by decide) (fun _ => ?_) (fun z => absurd z (by decide))
    refine er_iload_n d_Mo_pass_79 rfl ?_
    refine er_iconst ((nI (1))) d_Mo_pass_80 (by decide) ?_
    refine er_icmp_ne 98 d_Mo_pass_81 (by decide) (fun _ => ?_) (fun z => absurd z (by decide))
    refine er_iload_n d_Mo_pass_98 rfl ?_
    refine er_bipush ((nI (10))) d_Mo_pass_99 (by decide) ?_
    refine er_icmp_ne 112 d_Mo_pass_101 (by decide) (fun _ => ?_) (fun z => absurd z (by decide))
    refine er_iload_n d_Mo_pass_112 rfl ?_
    refine er_bipush ((nI (11))) d_Mo_pass_113 (by decide) ?_
    refine er_icmp_eq 124 d_Mo_pass_115 (by decide) (fun z => absurd z (by decide)) (fun _ => ?_)
    refine er_iload_n d_Mo_pass_118 rfl ?_
    refine er_bipush ((nI (15))) d_Mo_pass_119 (by decide) ?_
    refine er_icmp_ne 136 d_Mo_pass_121 (by decide) (fun _ => ?_) (fun z => absurd z (by decide))
    refine er_iload_n d_Mo_pass_136 rfl ?_
    refine er_bipush ((nI (12))) d_Mo_pass_137 (by decide) ?_
    refine er_icmp_ne 163 d_Mo_pass_139 (by decide) (fun _ => ?_) (fun z => absurd z (by decide))
    refine er_iload_n d_Mo_pass_163 rfl ?_
    refine er_bipush ((nI (14))) d_Mo_pass_164 (by decide) ?_
    refine er_icmp_ne 193 d_Mo_pass_166 (by decide) (fun _ => ?_) (fun z => absurd z (by decide))
    refine er_iload_n d_Mo_pass_193 rfl ?_
    refine er_bipush ((nI (19))) d_Mo_pass_194 (by decide) ?_
    refine er_icmp_ne 207 d_Mo_pass_196 (by decide) (fun _ => ?_) (fun z => absurd z (by decide))
    refine er_iload_n d_Mo_pass_207 rfl ?_
    refine er_bipush ((nI (24))) d_Mo_pass_208 (by decide) ?_
    refine er_icmp_ne 228 d_Mo_pass_210 (by decide) (fun _ => ?_) (fun z => absurd z (by decide))
    refine er_aload_n d_Mo_pass_228 rfl ?_
    refine er_iload_n d_Mo_pass_229 rfl ?_
    refine er_callV (As := [.int (nI 9)]) d_Mo_pass_230 k_Mo_pass_182 (jl_ss hO) rfl rfl rfl (Nat.le_of_ble_eq_true rfl) (by decide) (by decide) (mo_puts hl (hmb.s22).1 (hmb.s22).2.1 (by omega)) ?_
    show jl_E l G m_Mo_pass (0, 0) 233 [some (.ref 22), some (.int (nI m)), some (.int (nI pc)), some (.int (nI 9)), some (.int (x)), some (.int (en (topO r h)))] [.int (nI 0)] (σ.set (22) (.inr (7, [.int (fa), .ref 23, .ref 24, .ref 25, .ref 26, .ref 27, .ref 28, .ref 29, .ref 30, .ref 31, .ref 32, .ref 33, .ref 34, .ref 35, .ref 36, .ref 37, .int (vf), .int (wh), .int (wy), .ref 38, .ref 39, .ref 40, .ref 41, .int (nI ((h) - (2))), .ref 42, .ref 43, .ref 44, .ref 45, .ref 46, .ref 47, .ref 48, .ref 49, .int (dp), .ref 50, .ref 51, .ref 52, .int (md), .int (ov), .int (oh), .int (dn), .int (an)]))) P
    refine er_iconst ((nI (1))) d_Mo_pass_233 (by decide) ?_
    refine er_icmp_ne 242 d_Mo_pass_234 (by decide) (fun _ => ?_) (fun z => absurd z (by decide))
    exact er_vret d_Mo_pass_242 rfl (hT _ _ _ (hrl.low htk) hlo hsk (hmb.s22) (FrM.refl.set (by omega))) (by decide) (by decide)
  · refine er_aload_n d_Mo_pass_32 rfl ?_
    refine er_getf d_Mo_pass_33 f_Mo_pass_72 hO rfl ?_
    refine er_aload_n d_Mo_pass_36 rfl ?_
    refine er_getf d_Mo_pass_37 f_Mo_pass_179 hO rfl ?_
    refine er_iconst ((nI (1))) d_Mo_pass_40 (by decide) ?_
    refine er_isubN d_Mo_pass_41 (by omega) ?_
    refine er_ialdQ (v := (en (topO r h))) d_Mo_pass_42 r2 (by omega) (by omega) (congrArg en (show sk (h - 1) = topO r h by unfold topO; rw [if_neg (by omega), hrl.2 (h - 1) (by omega)]; congr 1; omega)) ?_
    refine er_goto 47 d_Mo_pass_43 (by decide) ?_
    refine er_istore d_Mo_pass_47 (by decide) ?_
    show jl_E l G m_Mo_pass (0, 0) 49 [some (.ref 22), some (.int (nI m)), some (.int (nI pc)), some (.int (nI 9)), some (.int (x)), some (.int (en (topO r h)))] [] (σ) P
    refine er_aload_n d_Mo_pass_49 rfl ?_
    refine er_dup d_Mo_pass_50 rfl ?_
    refine er_getf d_Mo_pass_51 f_Mo_pass_179 hO rfl ?_
    refine er_aload_n d_Mo_pass_54 rfl ?_
    refine er_iload_n d_Mo_pass_55 rfl ?_
    refine er_iload d_Mo_pass_56 rfl ?_
    refine er_callV (As := [.int (nI 9), .int (x)]) d_Mo_pass_58 k_Mo_pass_176 hO rfl rfl rfl (Nat.le_of_ble_eq_true rfl) (by decide) (by decide) (mo_tk_9 hl hO hw hu) ?_
    show jl_E l G m_Mo_pass (0, 0) 61 [some (.ref 22), some (.int (nI m)), some (.int (nI pc)), some (.int (nI 9)), some (.int (x)), some (.int (en (topO r h)))] [.int (nI 2), .int (nI h), .ref 22] (σ) P
    refine er_isubN d_Mo_pass_61 (by omega) ?_
    refine er_putf d_Mo_pass_62 p_Mo_pass_179 hO (Nat.le_of_ble_eq_true rfl) jl_fit_int ?_
    show jl_E l G m_Mo_pass (0, 0) 65 [some (.ref 22), some (.int (nI m)), some (.int (nI pc)), some (.int (nI 9)), some (.int (x)), some (.int (en (topO r h)))] [] (σ.set (22) (.inr (7, [.int (fa), .ref 23, .ref 24, .ref 25, .ref 26, .ref 27, .ref 28, .ref 29, .ref 30, .ref 31, .ref 32, .ref 33, .ref 34, .ref 35, .ref 36, .ref 37, .int (vf), .int (wh), .int (wy), .ref 38, .ref 39, .ref 40, .ref 41, .int (nI ((h) - (2))), .ref 42, .ref 43, .ref 44, .ref 45, .ref 46, .ref 47, .ref 48, .ref 49, .int (dp), .ref 50, .ref 51, .ref 52, .int (md), .int (ov), .int (oh), .int (dn), .int (an)]))) P
    refine er_iload_n d_Mo_pass_65 rfl ?_
    refine er_iconst ((nI (2))) d_Mo_pass_66 (by decide) ?_
    refine er_icmp_ne 79 d_Mo_pass_67 (by decide) (fun _ => ?_) (fun z => absurd z (by decide))
    refine er_iload_n d_Mo_pass_79 rfl ?_
    refine er_iconst ((nI (1))) d_Mo_pass_80 (by decide) ?_
    refine er_icmp_ne 98 d_Mo_pass_81 (by decide) (fun _ => ?_) (fun z => absurd z (by decide))
    refine er_iload_n d_Mo_pass_98 rfl ?_
    refine er_bipush ((nI (10))) d_Mo_pass_99 (by decide) ?_
    refine er_icmp_ne 112 d_Mo_pass_101 (by decide) (fun _ => ?_) (fun z => absurd z (by decide))
    refine er_iload_n d_Mo_pass_112 rfl ?_
    refine er_bipush ((nI (11))) d_Mo_pass_113 (by decide) ?_
    refine er_icmp_eq 124 d_Mo_pass_115 (by decide) (fun z => absurd z (by decide)) (fun _ => ?_)
    refine er_iload_n d_Mo_pass_118 rfl ?_
    refine er_bipush ((nI (15))) d_Mo_pass_119 (by decide) ?_
    refine er_icmp_ne 136 d_Mo_pass_121 (by decide) (fun _ => ?_) (fun z => absurd z (by decide))
    refine er_iload_n d_Mo_pass_136 rfl ?_
    refine er_bipush ((nI (12))) d_Mo_pass_137 (by decide) ?_
    refine er_icmp_ne 163 d_Mo_pass_139 (by decide) (fun _ => ?_) (fun z => absurd z (by decide))
    refine er_iload_n d_Mo_pass_163 rfl ?_
    refine er_bipush ((nI (14))) d_Mo_pass_164 (by decide) ?_
    refine er_icmp_ne 193 d_Mo_pass_166 (by decide) (fun _ => ?_) (fun z => absurd z (by decide))
    refine er_iload_n d_Mo_pass_193 rfl ?_
    refine er_bipush ((nI (19))) d_Mo_pass_194 (by decide) ?_
    refine er_icmp_ne 207 d_Mo_pass_196 (by decide) (fun _ => ?_) (fun z => absurd z (by decide))
    refine er_iload_n d_Mo_pass_207 rfl ?_
    refine er_bipush ((nI (24))) d_Mo_pass_208 (by decide) ?_
    refine er_icmp_ne 228 d_Mo_pass_210 (by decide) (fun _ => ?_) (fun z => absurd z (by decide))
    refine er_aload_n d_Mo_pass_228 rfl ?_
    refine er_iload_n d_Mo_pass_229 rfl ?_
    refine er_callV (As := [.int (nI 9)]) d_Mo_pass_230 k_Mo_pass_182 (jl_ss hO) rfl rfl rfl (Nat.le_of_ble_eq_true rfl) (by decide) (by decide) (mo_puts hl (hmb.s22).1 (hmb.s22).2.1 (by omega)) ?_
    show jl_E l G m_Mo_pass (0, 0) 233 [some (.ref 22), some (.int (nI m)), some (.int (nI pc)), some (.int (nI 9)), some (.int (x)), some (.int (en (topO r h)))] [.int (nI 0)] (σ.set (22) (.inr (7, [.int (fa), .ref 23, .ref 24, .ref 25, .ref 26, .ref 27, .ref 28, .ref 29, .ref 30, .ref 31, .ref 32, .ref 33, .ref 34, .ref 35, .ref 36, .ref 37, .int (vf), .int (wh), .int (wy), .ref 38, .ref 39, .ref 40, .ref 41, .int (nI ((h) - (2))), .ref 42, .ref 43, .ref 44, .ref 45, .ref 46, .ref 47, .ref 48, .ref 49, .int (dp), .ref 50, .ref 51, .ref 52, .int (md), .int (ov), .int (oh), .int (dn), .int (an)]))) P
    refine er_iconst ((nI (1))) d_Mo_pass_233 (by decide) ?_
    refine er_icmp_ne 242 d_Mo_pass_234 (by decide) (fun _ => ?_) (fun z => absurd z (by decide))
    exact er_vret d_Mo_pass_242 rfl (hT _ _ _ (hrl.low htk) hlo hsk (hmb.s22) (FrM.refl.set (by omega))) (by decide) (by decide)
theorem d_Mo_pass_104 : decode m_Mo_pass.2.1 104 = .ok (.aload_n 0, 1) := by decide +kernel
theorem d_Mo_pass_105 : decode m_Mo_pass.2.1 105 = .ok (.iconst 2, 1) := by decide +kernel
theorem d_Mo_pass_106 : decode m_Mo_pass.2.1 106 = .ok (.invokevirtual 192, 3) := by decide +kernel
theorem d_Mo_pass_109 : decode m_Mo_pass.2.1 109 = .ok (.goto 133, 3) := by decide +kernel
theorem mo_pass_10 (hl : l.stackTraces = false) {P : jl_O → jl_S → Prop} {m pc h : Nat} {r : Rw} {x : Int32} (hmb : MB σ tb pr ow ft hs u1 u2 ur ul uo ua uc us ut uk fa vf wh wy (nI h) dp md ov oh dn an lo sk kp mm fm) (hok : WoOk tb pr ow fi) (hK : MoK u1 u2 ur ul uo uc us ut uk) (hm : m < 24) (hpc : pc < 24) (ho : uo (24 * m + pc) = 10) (hx : ua (24 * m + pc) = x) (hrl : RlM r lo sk h) (hrv : rv r h) (hlo : ∀ j, ob 16 (lo j)) (hsk : ∀ j, ob 16 (sk j)) (htk : 0 ≤ h) (hp5 : h - 0 + 1 ≤ 5) (hT : ∀ lo' sk' σ', RlM (psh (low r h 0) (h - 0) (some 2)) lo' sk' (h - 0 + 1) → (∀ j, ob 16 (lo' j)) → (∀ j, ob 16 (sk' j)) → MB σ' tb pr ow ft hs u1 u2 ur ul uo ua uc us ut uk fa vf wh wy (nI (h - 0 + 1)) dp md ov oh dn an lo' sk' kp mm fm → FrM σ σ' → P (.inl none) σ') : jl_mE l G m_Mo_pass [.ref 22, .int (nI m), .int (nI pc)] σ P := by
  obtain ⟨hO, hw, hu, hr, hkp, hmp, hfm⟩ := id hmb; obtain ⟨r1, r2⟩ := id hr
  obtain ⟨h23, h24, h25, h26, h27⟩ := id hw
  obtain ⟨h28, h29, h30, h31, h32, h33, h34, h35, h36, h37⟩ := id hu
  obtain ⟨hk1, hk2, hk3, hk4, hk5, hk6⟩ := hK.1 m hm
  have hh5 := hrv.2.1
  refine jl_ofE (as := [.ref 22, .int (nI m), .int (nI pc)]) rfl (by decide) hl (jl_cc rfl (jl_cc rfl (jl_cc rfl jl_ca))) (Nat.le_of_ble_eq_true rfl) ?_
  show jl_E l G m_Mo_pass (0, 0) 0 [some (.ref 22), some (.int (nI m)), some (.int (nI pc)), none, none, none] [] (σ) P
  refine er_aload_n d_Mo_pass_0 rfl ?_
  refine er_getf d_Mo_pass_1 f_Mo_pass_38 hO rfl ?_
  refine er_bipush ((nI (24))) d_Mo_pass_4 (by decide) ?_
  refine er_iload_n d_Mo_pass_6 rfl ?_
  refine er_imulN d_Mo_pass_7 ?_
  refine er_iload_n d_Mo_pass_8 rfl ?_
  refine er_iaddN d_Mo_pass_9 ?_
  refine er_ialdQ (v := (nI (10))) d_Mo_pass_10 h32 (by omega) (by omega) (congrArg nI ho) ?_
  refine er_istore_n d_Mo_pass_11 (by decide) ?_
  show jl_E l G m_Mo_pass (0, 0) 12 [some (.ref 22), some (.int (nI m)), some (.int (nI pc)), some (.int (nI 10)), none, none] [] (σ) P
  refine er_aload_n d_Mo_pass_12 rfl ?_
  refine er_getf d_Mo_pass_13 f_Mo_pass_41 hO rfl ?_
  refine er_bipush ((nI (24))) d_Mo_pass_16 (by decide) ?_
  refine er_iload_n d_Mo_pass_18 rfl ?_
  refine er_imulN d_Mo_pass_19 ?_
  refine er_iload_n d_Mo_pass_20 rfl ?_
  refine er_iaddN d_Mo_pass_21 ?_
  refine er_ialdQ (v := (x)) d_Mo_pass_22 h33 (by omega) (by omega) (hx) ?_
  refine er_istore d_Mo_pass_23 (by decide) ?_
  show jl_E l G m_Mo_pass (0, 0) 25 [some (.ref 22), some (.int (nI m)), some (.int (nI pc)), some (.int (nI 10)), some (.int (x)), none] [] (σ) P
  refine er_aload_n d_Mo_pass_25 rfl ?_
  refine er_getf d_Mo_pass_26 f_Mo_pass_179 hO rfl ?_
  refine er_if_leN 46 d_Mo_pass_29 (by decide) (by omega) (fun c1 => ?_) (fun c1 => ?_)
  · refine er_iconst ((-1)) d_Mo_pass_46 (by decide) ?_
    refine er_istore d_Mo_pass_47 (by decide) ?_
    show jl_E l G m_Mo_pass (0, 0) 49 [some (.ref 22), some (.int (nI m)), some (.int (nI pc)), some (.int (nI 10)), some (.int (x)), some (.int (-1))] [] (σ) P
    have htp : topO r h = none := by unfold topO; rw [if_pos (by omega)]
    rw [show (-1 : Int32) = en (topO r h) by rw [htp]; rfl]
    show jl_E l G m_Mo_pass (0, 0) 49 [some (.ref 22), some (.int (nI m)), some (.int (nI pc)), some (.int (nI 10)), some (.int (x)), some (.int (en (topO r h)))] [] (σ) P
    refine er_aload_n d_Mo_pass_49 rfl ?_
    refine er_dup d_Mo_pass_50 rfl ?_
    refine er_getf d_Mo_pass_51 f_Mo_pass_179 hO rfl ?_
    refine er_aload_n d_Mo_pass_54 rfl ?_
    refine er_iload_n d_Mo_pass_55 rfl ?_
    refine er_iload d_Mo_pass_56 rfl ?_
    refine er_callV (As := [.int (nI 10), .int (x)]) d_Mo_pass_58 k_Mo_pass_176 hO rfl rfl rfl (Nat.le_of_ble_eq_true rfl) (by decide) (by decide) (mo_tk_10 hl hO hw hu) ?_
    show jl_E l G m_Mo_pass (0, 0) 61 [some (.ref 22), some (.int (nI m)), some (.int (nI pc)), some (.int (nI 10)), some (.int (x)), some (.int (en (topO r h)))] [.int (nI 0), .int (nI h), .ref 22] (σ) P
    refine er_isubN d_Mo_pass_61 (by omega) ?_
    refine er_putf d_Mo_pass_62 p_Mo_pass_179 hO (Nat.le_of_ble_eq_true rfl) jl_fit_int ?_
    show jl_E l G m_Mo_pass (0, 0) 65 [some (.ref 22), some (.int (nI m)), some (.int (nI pc)), some (.int (nI 10)), some (.int (x)), some (.int (en (topO r h)))] [] (σ.set (22) (.inr (7, [.int (fa), .ref 23, .ref 24, .ref 25, .ref 26, .ref 27, .ref 28, .ref 29, .ref 30, .ref 31, .ref 32, .ref 33, .ref 34, .ref 35, .ref 36, .ref 37, .int (vf), .int (wh), .int (wy), .ref 38, .ref 39, .ref 40, .ref 41, .int (nI ((h) - (0))), .ref 42, .ref 43, .ref 44, .ref 45, .ref 46, .ref 47, .ref 48, .ref 49, .int (dp), .ref 50, .ref 51, .ref 52, .int (md), .int (ov), .int (oh), .int (dn), .int (an)]))) P
    refine er_iload_n d_Mo_pass_65 rfl ?_
    refine er_iconst ((nI (2))) d_Mo_pass_66 (by decide) ?_
    refine er_icmp_ne 79 d_Mo_pass_67 (by decide) (fun _ => ?_) (fun z => absurd z (by decide))
    refine er_iload_n d_Mo_pass_79 rfl ?_
    refine er_iconst ((nI (1))) d_Mo_pass_80 (by decide) ?_
    refine er_icmp_ne 98 d_Mo_pass_81 (by decide) (fun _ => ?_) (fun z => absurd z (by decide))
    refine er_iload_n d_Mo_pass_98 rfl ?_
    refine er_bipush ((nI (10))) d_Mo_pass_99 (by decide) ?_
    refine er_icmp_ne 112 d_Mo_pass_101 (by decide) (fun z => absurd rfl z) (fun _ => ?_)
    refine er_aload_n d_Mo_pass_104 rfl ?_
    refine er_iconst ((nI (2))) d_Mo_pass_105 (by decide) ?_
    refine er_callV (As := [.int (nI 2)]) d_Mo_pass_106 k_Mo_pass_192 (jl_ss hO) rfl rfl rfl (Nat.le_of_ble_eq_true rfl) (by decide) (by decide) (mo_push (h := (h) - (0)) (t := (some 2)) hl (hmb.s22).1 (hmb.s22).2.2.2.1.2 (by omega)) ?_
    show jl_E l G m_Mo_pass (0, 0) 109 [some (.ref 22), some (.int (nI m)), some (.int (nI pc)), some (.int (nI 10)), some (.int (x)), some (.int (en (topO r h)))] [] (((σ.set (22) (.inr (7, [.int (fa), .ref 23, .ref 24, .ref 25, .ref 26, .ref 27, .ref 28, .ref 29, .ref 30, .ref 31, .ref 32, .ref 33, .ref 34, .ref 35, .ref 36, .ref 37, .int (vf), .int (wh), .int (wy), .ref 38, .ref 39, .ref 40, .ref 41, .int (nI ((h) - (0))), .ref 42, .ref 43, .ref 44, .ref 45, .ref 46, .ref 47, .ref 48, .ref 49, .int (dp), .ref 50, .ref 51, .ref 52, .int (md), .int (ov), .int (oh), .int (dn), .int (an)]))).set (41) (.inl (0, 8, .inl (fun j => en ((va_up sk ((h) - (0)) (some 2)) j))))).set (22) (.inr (7, [.int (fa), .ref 23, .ref 24, .ref 25, .ref 26, .ref 27, .ref 28, .ref 29, .ref 30, .ref 31, .ref 32, .ref 33, .ref 34, .ref 35, .ref 36, .ref 37, .int (vf), .int (wh), .int (wy), .ref 38, .ref 39, .ref 40, .ref 41, .int (nI ((h) - (0) + 1)), .ref 42, .ref 43, .ref 44, .ref 45, .ref 46, .ref 47, .ref 48, .ref 49, .int (dp), .ref 50, .ref 51, .ref 52, .int (md), .int (ov), .int (oh), .int (dn), .int (an)]))) P
    refine er_goto 242 d_Mo_pass_109 (by decide) ?_
    exact er_vret d_Mo_pass_242 rfl (hT _ _ _ (hrl.low htk).psh hlo (ob_up hsk (ob_s (by omega))) (hmb.s22.s41.s22) (((FrM.refl.set (by omega)).set (by omega)).set (by omega))) (by decide) (by decide)
  · refine er_aload_n d_Mo_pass_32 rfl ?_
    refine er_getf d_Mo_pass_33 f_Mo_pass_72 hO rfl ?_
    refine er_aload_n d_Mo_pass_36 rfl ?_
    refine er_getf d_Mo_pass_37 f_Mo_pass_179 hO rfl ?_
    refine er_iconst ((nI (1))) d_Mo_pass_40 (by decide) ?_
    refine er_isubN d_Mo_pass_41 (by omega) ?_
    refine er_ialdQ (v := (en (topO r h))) d_Mo_pass_42 r2 (by omega) (by omega) (congrArg en (show sk (h - 1) = topO r h by unfold topO; rw [if_neg (by omega), hrl.2 (h - 1) (by omega)]; congr 1; omega)) ?_
    refine er_goto 47 d_Mo_pass_43 (by decide) ?_
    refine er_istore d_Mo_pass_47 (by decide) ?_
    show jl_E l G m_Mo_pass (0, 0) 49 [some (.ref 22), some (.int (nI m)), some (.int (nI pc)), some (.int (nI 10)), some (.int (x)), some (.int (en (topO r h)))] [] (σ) P
    refine er_aload_n d_Mo_pass_49 rfl ?_
    refine er_dup d_Mo_pass_50 rfl ?_
    refine er_getf d_Mo_pass_51 f_Mo_pass_179 hO rfl ?_
    refine er_aload_n d_Mo_pass_54 rfl ?_
    refine er_iload_n d_Mo_pass_55 rfl ?_
    refine er_iload d_Mo_pass_56 rfl ?_
    refine er_callV (As := [.int (nI 10), .int (x)]) d_Mo_pass_58 k_Mo_pass_176 hO rfl rfl rfl (Nat.le_of_ble_eq_true rfl) (by decide) (by decide) (mo_tk_10 hl hO hw hu) ?_
    show jl_E l G m_Mo_pass (0, 0) 61 [some (.ref 22), some (.int (nI m)), some (.int (nI pc)), some (.int (nI 10)), some (.int (x)), some (.int (en (topO r h)))] [.int (nI 0), .int (nI h), .ref 22] (σ) P
    refine er_isubN d_Mo_pass_61 (by omega) ?_
    refine er_putf d_Mo_pass_62 p_Mo_pass_179 hO (Nat.le_of_ble_eq_true rfl) jl_fit_int ?_
    show jl_E l G m_Mo_pass (0, 0) 65 [some (.ref 22), some (.int (nI m)), some (.int (nI pc)), some (.int (nI 10)), some (.int (x)), some (.int (en (topO r h)))] [] (σ.set (22) (.inr (7, [.int (fa), .ref 23, .ref 24, .ref 25, .ref 26, .ref 27, .ref 28, .ref 29, .ref 30, .ref 31, .ref 32, .ref 33, .ref 34, .ref 35, .ref 36, .ref 37, .int (vf), .int (wh), .int (wy), .ref 38, .ref 39, .ref 40, .ref 41, .int (nI ((h) - (0))), .ref 42, .ref 43, .ref 44, .ref 45, .ref 46, .ref 47, .ref 48, .ref 49, .int (dp), .ref 50, .ref 51, .ref 52, .int (md), .int (ov), .int (oh), .int (dn), .int (an)]))) P
    refine er_iload_n d_Mo_pass_65 rfl ?_
    refine er_iconst ((nI (2))) d_Mo_pass_66 (by decide) ?_
    refine er_icmp_ne 79 d_Mo_pass_67 (by decide) (fun _ => ?_) (fun z => absurd z (by decide))
    refine er_iload_n d_Mo_pass_79 rfl ?_
    refine er_iconst ((nI (1))) d_Mo_pass_80 (by decide) ?_
    refine er_icmp_ne 98 d_Mo_pass_81 (by decide) (fun _ => ?_) (fun z => absurd z (by decide))
    refine er_iload_n d_Mo_pass_98 rfl ?_
    refine er_bipush ((nI (10))) d_Mo_pass_99 (by decide) ?_
    refine er_icmp_ne 112 d_Mo_pass_101 (by decide) (fun z => absurd rfl z) (fun _ => ?_)
    refine er_aload_n d_Mo_pass_104 rfl ?_
    refine er_iconst ((nI (2))) d_Mo_pass_105 (by decide) ?_
    refine er_callV (As := [.int (nI 2)]) d_Mo_pass_106 k_Mo_pass_192 (jl_ss hO) rfl rfl rfl (Nat.le_of_ble_eq_true rfl) (by decide) (by decide) (mo_push (h := (h) - (0)) (t := (some 2)) hl (hmb.s22).1 (hmb.s22).2.2.2.1.2 (by omega)) ?_
    show jl_E l G m_Mo_pass (0, 0) 109 [some (.ref 22), some (.int (nI m)), some (.int (nI pc)), some (.int (nI 10)), some (.int (x)), some (.int (en (topO r h)))] [] (((σ.set (22) (.inr (7, [.int (fa), .ref 23, .ref 24, .ref 25, .ref 26, .ref 27, .ref 28, .ref 29, .ref 30, .ref 31, .ref 32, .ref 33, .ref 34, .ref 35, .ref 36, .ref 37, .int (vf), .int (wh), .int (wy), .ref 38, .ref 39, .ref 40, .ref 41, .int (nI ((h) - (0))), .ref 42, .ref 43, .ref 44, .ref 45, .ref 46, .ref 47, .ref 48, .ref 49, .int (dp), .ref 50, .ref 51, .ref 52, .int (md), .int (ov), .int (oh), .int (dn), .int (an)]))).set (41) (.inl (0, 8, .inl (fun j => en ((va_up sk ((h) - (0)) (some 2)) j))))).set (22) (.inr (7, [.int (fa), .ref 23, .ref 24, .ref 25, .ref 26, .ref 27, .ref 28, .ref 29, .ref 30, .ref 31, .ref 32, .ref 33, .ref 34, .ref 35, .ref 36, .ref 37, .int (vf), .int (wh), .int (wy), .ref 38, .ref 39, .ref 40, .ref 41, .int (nI ((h) - (0) + 1)), .ref 42, .ref 43, .ref 44, .ref 45, .ref 46, .ref 47, .ref 48, .ref 49, .int (dp), .ref 50, .ref 51, .ref 52, .int (md), .int (ov), .int (oh), .int (dn), .int (an)]))) P
    refine er_goto 242 d_Mo_pass_109 (by decide) ?_
    exact er_vret d_Mo_pass_242 rfl (hT _ _ _ (hrl.low htk).psh hlo (ob_up hsk (ob_s (by omega))) (hmb.s22.s41.s22) (((FrM.refl.set (by omega)).set (by omega)).set (by omega))) (by decide) (by decide)
theorem d_Mo_pass_124 : decode m_Mo_pass.2.1 124 = .ok (.aload_n 0, 1) := by decide +kernel
theorem d_Mo_pass_125 : decode m_Mo_pass.2.1 125 = .ok (.bipush 10, 2) := by decide +kernel
theorem d_Mo_pass_127 : decode m_Mo_pass.2.1 127 = .ok (.iload 4, 2) := by decide +kernel
theorem d_Mo_pass_129 : decode m_Mo_pass.2.1 129 = .ok (.iadd, 1) := by decide +kernel
theorem d_Mo_pass_130 : decode m_Mo_pass.2.1 130 = .ok (.invokevirtual 192, 3) := by decide +kernel
theorem d_Mo_pass_133 : decode m_Mo_pass.2.1 133 = .ok (.goto 109, 3) := by decide +kernel
theorem mo_pass_11 (hl : l.stackTraces = false) {P : jl_O → jl_S → Prop} {m pc h : Nat} {r : Rw} {n : Nat} (hmb : MB σ tb pr ow ft hs u1 u2 ur ul uo ua uc us ut uk fa vf wh wy (nI h) dp md ov oh dn an lo sk kp mm fm) (hok : WoOk tb pr ow fi) (hK : MoK u1 u2 ur ul uo uc us ut uk) (hm : m < 24) (hpc : pc < 24) (ho : uo (24 * m + pc) = 11) (hx : ua (24 * m + pc) = nI n) (hrl : RlM r lo sk h) (hrv : rv r h) (hlo : ∀ j, ob 16 (lo j)) (hsk : ∀ j, ob 16 (sk j)) (htk : 0 ≤ h) (hp5 : h - 0 + 1 ≤ 5) (hn : n < 6) (hT : ∀ lo' sk' σ', RlM (psh (low r h 0) (h - 0) (some (10 + n))) lo' sk' (h - 0 + 1) → (∀ j, ob 16 (lo' j)) → (∀ j, ob 16 (sk' j)) → MB σ' tb pr ow ft hs u1 u2 ur ul uo ua uc us ut uk fa vf wh wy (nI (h - 0 + 1)) dp md ov oh dn an lo' sk' kp mm fm → FrM σ σ' → P (.inl none) σ') : jl_mE l G m_Mo_pass [.ref 22, .int (nI m), .int (nI pc)] σ P := by
  obtain ⟨hO, hw, hu, hr, hkp, hmp, hfm⟩ := id hmb; obtain ⟨r1, r2⟩ := id hr
  obtain ⟨h23, h24, h25, h26, h27⟩ := id hw
  obtain ⟨h28, h29, h30, h31, h32, h33, h34, h35, h36, h37⟩ := id hu
  obtain ⟨hk1, hk2, hk3, hk4, hk5, hk6⟩ := hK.1 m hm
  have hh5 := hrv.2.1
  refine jl_ofE (as := [.ref 22, .int (nI m), .int (nI pc)]) rfl (by decide) hl (jl_cc rfl (jl_cc rfl (jl_cc rfl jl_ca))) (Nat.le_of_ble_eq_true rfl) ?_
  show jl_E l G m_Mo_pass (0, 0) 0 [some (.ref 22), some (.int (nI m)), some (.int (nI pc)), none, none, none] [] (σ) P
  refine er_aload_n d_Mo_pass_0 rfl ?_
  refine er_getf d_Mo_pass_1 f_Mo_pass_38 hO rfl ?_
  refine er_bipush ((nI (24))) d_Mo_pass_4 (by decide) ?_
  refine er_iload_n d_Mo_pass_6 rfl ?_
  refine er_imulN d_Mo_pass_7 ?_
  refine er_iload_n d_Mo_pass_8 rfl ?_
  refine er_iaddN d_Mo_pass_9 ?_
  refine er_ialdQ (v := (nI (11))) d_Mo_pass_10 h32 (by omega) (by omega) (congrArg nI ho) ?_
  refine er_istore_n d_Mo_pass_11 (by decide) ?_
  show jl_E l G m_Mo_pass (0, 0) 12 [some (.ref 22), some (.int (nI m)), some (.int (nI pc)), some (.int (nI 11)), none, none] [] (σ) P
  refine er_aload_n d_Mo_pass_12 rfl ?_
  refine er_getf d_Mo_pass_13 f_Mo_pass_41 hO rfl ?_
  refine er_bipush ((nI (24))) d_Mo_pass_16 (by decide) ?_
  refine er_iload_n d_Mo_pass_18 rfl ?_
  refine er_imulN d_Mo_pass_19 ?_
  refine er_iload_n d_Mo_pass_20 rfl ?_
  refine er_iaddN d_Mo_pass_21 ?_
  refine er_ialdQ (v := (nI (n))) d_Mo_pass_22 h33 (by omega) (by omega) (hx) ?_
  refine er_istore d_Mo_pass_23 (by decide) ?_
  show jl_E l G m_Mo_pass (0, 0) 25 [some (.ref 22), some (.int (nI m)), some (.int (nI pc)), some (.int (nI 11)), some (.int (nI n)), none] [] (σ) P
  refine er_aload_n d_Mo_pass_25 rfl ?_
  refine er_getf d_Mo_pass_26 f_Mo_pass_179 hO rfl ?_
  refine er_if_leN 46 d_Mo_pass_29 (by decide) (by omega) (fun c1 => ?_) (fun c1 => ?_)
  · refine er_iconst ((-1)) d_Mo_pass_46 (by decide) ?_
    refine er_istore d_Mo_pass_47 (by decide) ?_
    show jl_E l G m_Mo_pass (0, 0) 49 [some (.ref 22), some (.int (nI m)), some (.int (nI pc)), some (.int (nI 11)), some (.int (nI n)), some (.int (-1))] [] (σ) P
    have htp : topO r h = none := by unfold topO; rw [if_pos (by omega)]
    rw [show (-1 : Int32) = en (topO r h) by rw [htp]; rfl]
    show jl_E l G m_Mo_pass (0, 0) 49 [some (.ref 22), some (.int (nI m)), some (.int (nI pc)), some (.int (nI 11)), some (.int (nI n)), some (.int (en (topO r h)))] [] (σ) P
    refine er_aload_n d_Mo_pass_49 rfl ?_
    refine er_dup d_Mo_pass_50 rfl ?_
    refine er_getf d_Mo_pass_51 f_Mo_pass_179 hO rfl ?_
    refine er_aload_n d_Mo_pass_54 rfl ?_
    refine er_iload_n d_Mo_pass_55 rfl ?_
    refine er_iload d_Mo_pass_56 rfl ?_
    refine er_callV (As := [.int (nI 11), .int (nI n)]) d_Mo_pass_58 k_Mo_pass_176 hO rfl rfl rfl (Nat.le_of_ble_eq_true rfl) (by decide) (by decide) (mo_tk_11 hl hO hw hu) ?_
    show jl_E l G m_Mo_pass (0, 0) 61 [some (.ref 22), some (.int (nI m)), some (.int (nI pc)), some (.int (nI 11)), some (.int (nI n)), some (.int (en (topO r h)))] [.int (nI 0), .int (nI h), .ref 22] (σ) P
    refine er_isubN d_Mo_pass_61 (by omega) ?_
    refine er_putf d_Mo_pass_62 p_Mo_pass_179 hO (Nat.le_of_ble_eq_true rfl) jl_fit_int ?_
    show jl_E l G m_Mo_pass (0, 0) 65 [some (.ref 22), some (.int (nI m)), some (.int (nI pc)), some (.int (nI 11)), some (.int (nI n)), some (.int (en (topO r h)))] [] (σ.set (22) (.inr (7, [.int (fa), .ref 23, .ref 24, .ref 25, .ref 26, .ref 27, .ref 28, .ref 29, .ref 30, .ref 31, .ref 32, .ref 33, .ref 34, .ref 35, .ref 36, .ref 37, .int (vf), .int (wh), .int (wy), .ref 38, .ref 39, .ref 40, .ref 41, .int (nI ((h) - (0))), .ref 42, .ref 43, .ref 44, .ref 45, .ref 46, .ref 47, .ref 48, .ref 49, .int (dp), .ref 50, .ref 51, .ref 52, .int (md), .int (ov), .int (oh), .int (dn), .int (an)]))) P
    refine er_iload_n d_Mo_pass_65 rfl ?_
    refine er_iconst ((nI (2))) d_Mo_pass_66 (by decide) ?_
    refine er_icmp_ne 79 d_Mo_pass_67 (by decide) (fun _ => ?_) (fun z => absurd z (by decide))
    refine er_iload_n d_Mo_pass_79 rfl ?_
    refine er_iconst ((nI (1))) d_Mo_pass_80 (by decide) ?_
    refine er_icmp_ne 98 d_Mo_pass_81 (by decide) (fun _ => ?_) (fun z => absurd z (by decide))
    refine er_iload_n d_Mo_pass_98 rfl ?_
    refine er_bipush ((nI (10))) d_Mo_pass_99 (by decide) ?_
    refine er_icmp_ne 112 d_Mo_pass_101 (by decide) (fun _ => ?_) (fun z => absurd z (by decide))
    refine er_iload_n d_Mo_pass_112 rfl ?_
    refine er_bipush ((nI (11))) d_Mo_pass_113 (by decide) ?_
    refine er_icmp_eq 124 d_Mo_pass_115 (by decide) (fun _ => ?_) (fun z => absurd (by decide) z)
    refine er_aload_n d_Mo_pass_124 rfl ?_
    refine er_bipush ((nI (10))) d_Mo_pass_125 (by decide) ?_
    refine er_iload d_Mo_pass_127 rfl ?_
    refine er_iaddN d_Mo_pass_129 ?_
    refine er_callV (As := [.int (nI ((10) + (n)))]) d_Mo_pass_130 k_Mo_pass_192 (jl_ss hO) rfl rfl rfl (Nat.le_of_ble_eq_true rfl) (by decide) (by decide) (mo_push (h := (h) - (0)) (t := (some (10 + n))) hl (hmb.s22).1 (hmb.s22).2.2.2.1.2 (by omega)) ?_
    show jl_E l G m_Mo_pass (0, 0) 133 [some (.ref 22), some (.int (nI m)), some (.int (nI pc)), some (.int (nI 11)), some (.int (nI n)), some (.int (en (topO r h)))] [] (((σ.set (22) (.inr (7, [.int (fa), .ref 23, .ref 24, .ref 25, .ref 26, .ref 27, .ref 28, .ref 29, .ref 30, .ref 31, .ref 32, .ref 33, .ref 34, .ref 35, .ref 36, .ref 37, .int (vf), .int (wh), .int (wy), .ref 38, .ref 39, .ref 40, .ref 41, .int (nI ((h) - (0))), .ref 42, .ref 43, .ref 44, .ref 45, .ref 46, .ref 47, .ref 48, .ref 49, .int (dp), .ref 50, .ref 51, .ref 52, .int (md), .int (ov), .int (oh), .int (dn), .int (an)]))).set (41) (.inl (0, 8, .inl (fun j => en ((va_up sk ((h) - (0)) (some (10 + n))) j))))).set (22) (.inr (7, [.int (fa), .ref 23, .ref 24, .ref 25, .ref 26, .ref 27, .ref 28, .ref 29, .ref 30, .ref 31, .ref 32, .ref 33, .ref 34, .ref 35, .ref 36, .ref 37, .int (vf), .int (wh), .int (wy), .ref 38, .ref 39, .ref 40, .ref 41, .int (nI ((h) - (0) + 1)), .ref 42, .ref 43, .ref 44, .ref 45, .ref 46, .ref 47, .ref 48, .ref 49, .int (dp), .ref 50, .ref 51, .ref 52, .int (md), .int (ov), .int (oh), .int (dn), .int (an)]))) P
    refine er_goto 242 d_Mo_pass_133 (by decide) ?_
    exact er_vret d_Mo_pass_242 rfl (hT _ _ _ (hrl.low htk).psh hlo (ob_up hsk (ob_s (by omega))) (hmb.s22.s41.s22) (((FrM.refl.set (by omega)).set (by omega)).set (by omega))) (by decide) (by decide)
  · refine er_aload_n d_Mo_pass_32 rfl ?_
    refine er_getf d_Mo_pass_33 f_Mo_pass_72 hO rfl ?_
    refine er_aload_n d_Mo_pass_36 rfl ?_
    refine er_getf d_Mo_pass_37 f_Mo_pass_179 hO rfl ?_
    refine er_iconst ((nI (1))) d_Mo_pass_40 (by decide) ?_
    refine er_isubN d_Mo_pass_41 (by omega) ?_
    refine er_ialdQ (v := (en (topO r h))) d_Mo_pass_42 r2 (by omega) (by omega) (congrArg en (show sk (h - 1) = topO r h by unfold topO; rw [if_neg (by omega), hrl.2 (h - 1) (by omega)]; congr 1; omega)) ?_
    refine er_goto 47 d_Mo_pass_43 (by decide) ?_
    refine er_istore d_Mo_pass_47 (by decide) ?_
    show jl_E l G m_Mo_pass (0, 0) 49 [some (.ref 22), some (.int (nI m)), some (.int (nI pc)), some (.int (nI 11)), some (.int (nI n)), some (.int (en (topO r h)))] [] (σ) P
    refine er_aload_n d_Mo_pass_49 rfl ?_
    refine er_dup d_Mo_pass_50 rfl ?_
    refine er_getf d_Mo_pass_51 f_Mo_pass_179 hO rfl ?_
    refine er_aload_n d_Mo_pass_54 rfl ?_
    refine er_iload_n d_Mo_pass_55 rfl ?_
    refine er_iload d_Mo_pass_56 rfl ?_
    refine er_callV (As := [.int (nI 11), .int (nI n)]) d_Mo_pass_58 k_Mo_pass_176 hO rfl rfl rfl (Nat.le_of_ble_eq_true rfl) (by decide) (by decide) (mo_tk_11 hl hO hw hu) ?_
    show jl_E l G m_Mo_pass (0, 0) 61 [some (.ref 22), some (.int (nI m)), some (.int (nI pc)), some (.int (nI 11)), some (.int (nI n)), some (.int (en (topO r h)))] [.int (nI 0), .int (nI h), .ref 22] (σ) P
    refine er_isubN d_Mo_pass_61 (by omega) ?_
    refine er_putf d_Mo_pass_62 p_Mo_pass_179 hO (Nat.le_of_ble_eq_true rfl) jl_fit_int ?_
    show jl_E l G m_Mo_pass (0, 0) 65 [some (.ref 22), some (.int (nI m)), some (.int (nI pc)), some (.int (nI 11)), some (.int (nI n)), some (.int (en (topO r h)))] [] (σ.set (22) (.inr (7, [.int (fa), .ref 23, .ref 24, .ref 25, .ref 26, .ref 27, .ref 28, .ref 29, .ref 30, .ref 31, .ref 32, .ref 33, .ref 34, .ref 35, .ref 36, .ref 37, .int (vf), .int (wh), .int (wy), .ref 38, .ref 39, .ref 40, .ref 41, .int (nI ((h) - (0))), .ref 42, .ref 43, .ref 44, .ref 45, .ref 46, .ref 47, .ref 48, .ref 49, .int (dp), .ref 50, .ref 51, .ref 52, .int (md), .int (ov), .int (oh), .int (dn), .int (an)]))) P
    refine er_iload_n d_Mo_pass_65 rfl ?_
    refine er_iconst ((nI (2))) d_Mo_pass_66 (by decide) ?_
    refine er_icmp_ne 79 d_Mo_pass_67 (by decide) (fun _ => ?_) (fun z => absurd z (by decide))
    refine er_iload_n d_Mo_pass_79 rfl ?_
    refine er_iconst ((nI (1))) d_Mo_pass_80 (by decide) ?_
    refine er_icmp_ne 98 d_Mo_pass_81 (by decide) (fun _ => ?_) (fun z => absurd z (by decide))
    refine er_iload_n d_Mo_pass_98 rfl ?_
    refine er_bipush ((nI (10))) d_Mo_pass_99 (by decide) ?_
    refine er_icmp_ne 112 d_Mo_pass_101 (by decide) (fun _ => ?_) (fun z => absurd z (by decide))
    refine er_iload_n d_Mo_pass_112 rfl ?_
    refine er_bipush ((nI (11))) d_Mo_pass_113 (by decide) ?_
    refine er_icmp_eq 124 d_Mo_pass_115 (by decide) (fun _ => ?_) (fun z => absurd (by decide) z)
    refine er_aload_n d_Mo_pass_124 rfl ?_
    refine er_bipush ((nI (10))) d_Mo_pass_125 (by decide) ?_
    refine er_iload d_Mo_pass_127 rfl ?_
    refine er_iaddN d_Mo_pass_129 ?_
    refine er_callV (As := [.int (nI ((10) + (n)))]) d_Mo_pass_130 k_Mo_pass_192 (jl_ss hO) rfl rfl rfl (Nat.le_of_ble_eq_true rfl) (by decide) (by decide) (mo_push (h := (h) - (0)) (t := (some (10 + n))) hl (hmb.s22).1 (hmb.s22).2.2.2.1.2 (by omega)) ?_
    show jl_E l G m_Mo_pass (0, 0) 133 [some (.ref 22), some (.int (nI m)), some (.int (nI pc)), some (.int (nI 11)), some (.int (nI n)), some (.int (en (topO r h)))] [] (((σ.set (22) (.inr (7, [.int (fa), .ref 23, .ref 24, .ref 25, .ref 26, .ref 27, .ref 28, .ref 29, .ref 30, .ref 31, .ref 32, .ref 33, .ref 34, .ref 35, .ref 36, .ref 37, .int (vf), .int (wh), .int (wy), .ref 38, .ref 39, .ref 40, .ref 41, .int (nI ((h) - (0))), .ref 42, .ref 43, .ref 44, .ref 45, .ref 46, .ref 47, .ref 48, .ref 49, .int (dp), .ref 50, .ref 51, .ref 52, .int (md), .int (ov), .int (oh), .int (dn), .int (an)]))).set (41) (.inl (0, 8, .inl (fun j => en ((va_up sk ((h) - (0)) (some (10 + n))) j))))).set (22) (.inr (7, [.int (fa), .ref 23, .ref 24, .ref 25, .ref 26, .ref 27, .ref 28, .ref 29, .ref 30, .ref 31, .ref 32, .ref 33, .ref 34, .ref 35, .ref 36, .ref 37, .int (vf), .int (wh), .int (wy), .ref 38, .ref 39, .ref 40, .ref 41, .int (nI ((h) - (0) + 1)), .ref 42, .ref 43, .ref 44, .ref 45, .ref 46, .ref 47, .ref 48, .ref 49, .int (dp), .ref 50, .ref 51, .ref 52, .int (md), .int (ov), .int (oh), .int (dn), .int (an)]))) P
    refine er_goto 242 d_Mo_pass_133 (by decide) ?_
    exact er_vret d_Mo_pass_242 rfl (hT _ _ _ (hrl.low htk).psh hlo (ob_up hsk (ob_s (by omega))) (hmb.s22.s41.s22) (((FrM.refl.set (by omega)).set (by omega)).set (by omega))) (by decide) (by decide)
theorem d_Mo_pass_142 : decode m_Mo_pass.2.1 142 = .ok (.aload_n 0, 1) := by decide +kernel
theorem d_Mo_pass_143 : decode m_Mo_pass.2.1 143 = .ok (.aload_n 0, 1) := by decide +kernel
theorem d_Mo_pass_144 : decode m_Mo_pass.2.1 144 = .ok (.iload 4, 2) := by decide +kernel
theorem d_Mo_pass_146 : decode m_Mo_pass.2.1 146 = .ok (.bipush 32, 2) := by decide +kernel
theorem d_Mo_pass_148 : decode m_Mo_pass.2.1 148 = .ok (.idiv, 1) := by decide +kernel
theorem d_Mo_pass_149 : decode m_Mo_pass.2.1 149 = .ok (.iload 4, 2) := by decide +kernel
theorem d_Mo_pass_151 : decode m_Mo_pass.2.1 151 = .ok (.bipush 32, 2) := by decide +kernel
theorem d_Mo_pass_153 : decode m_Mo_pass.2.1 153 = .ok (.irem, 1) := by decide +kernel
theorem k_Mo_pass_164 : jl_cv m_Mo_pass m_Mo_typeOfField 164 2 = true := by decide +kernel
theorem d_Mo_pass_154 : decode m_Mo_pass.2.1 154 = .ok (.invokevirtual 164, 3) := by decide +kernel
theorem d_Mo_pass_157 : decode m_Mo_pass.2.1 157 = .ok (.invokevirtual 192, 3) := by decide +kernel
theorem d_Mo_pass_160 : decode m_Mo_pass.2.1 160 = .ok (.goto 82, 3) := by decide +kernel
theorem mo_pass_12 (hl : l.stackTraces = false) {P : jl_O → jl_S → Prop} {m pc h : Nat} {r : Rw} {n : Nat} (hmb : MB σ tb pr ow ft hs u1 u2 ur ul uo ua uc us ut uk fa vf wh wy (nI h) dp md ov oh dn an lo sk kp mm fm) (hok : WoOk tb pr ow fi) (hK : MoK u1 u2 ur ul uo uc us ut uk) (hm : m < 24) (hpc : pc < 24) (ho : uo (24 * m + pc) = 12) (hx : ua (24 * m + pc) = nI n) (hrl : RlM r lo sk h) (hrv : rv r h) (hlo : ∀ j, ob 16 (lo j)) (hsk : ∀ j, ob 16 (sk j)) (htk : 1 ≤ h) (hp5 : h - 1 + 1 ≤ 5) (hn : n < 2 ^ 31) (hk : n / 32 < 6) (hf : n % 32 < fi (n / 32) + ow (n / 32)) (hft : fty pr fi ft (n / 32) (n % 32) < 16) (hT : ∀ lo' sk' σ', RlM (psh (low r h 1) (h - 1) (some (fty pr fi ft (n / 32) (n % 32)))) lo' sk' (h - 1 + 1) → (∀ j, ob 16 (lo' j)) → (∀ j, ob 16 (sk' j)) → MB σ' tb pr ow ft hs u1 u2 ur ul uo ua uc us ut uk fa vf wh wy (nI (h - 1 + 1)) dp md ov oh dn an lo' sk' kp mm fm → FrM σ σ' → P (.inl none) σ') : jl_mE l G m_Mo_pass [.ref 22, .int (nI m), .int (nI pc)] σ P := by
  obtain ⟨hO, hw, hu, hr, hkp, hmp, hfm⟩ := id hmb; obtain ⟨r1, r2⟩ := id hr
  obtain ⟨h23, h24, h25, h26, h27⟩ := id hw
  obtain ⟨h28, h29, h30, h31, h32, h33, h34, h35, h36, h37⟩ := id hu
  obtain ⟨hk1, hk2, hk3, hk4, hk5, hk6⟩ := hK.1 m hm
  have hh5 := hrv.2.1
  refine jl_ofE (as := [.ref 22, .int (nI m), .int (nI pc)]) rfl (by decide) hl (jl_cc rfl (jl_cc rfl (jl_cc rfl jl_ca))) (Nat.le_of_ble_eq_true rfl) ?_
  show jl_E l G m_Mo_pass (0, 0) 0 [some (.ref 22), some (.int (nI m)), some (.int (nI pc)), none, none, none] [] (σ) P
  refine er_aload_n d_Mo_pass_0 rfl ?_
  refine er_getf d_Mo_pass_1 f_Mo_pass_38 hO rfl ?_
  refine er_bipush ((nI (24))) d_Mo_pass_4 (by decide) ?_
  refine er_iload_n d_Mo_pass_6 rfl ?_
  refine er_imulN d_Mo_pass_7 ?_
  refine er_iload_n d_Mo_pass_8 rfl ?_
  refine er_iaddN d_Mo_pass_9 ?_
  refine er_ialdQ (v := (nI (12))) d_Mo_pass_10 h32 (by omega) (by omega) (congrArg nI ho) ?_
  refine er_istore_n d_Mo_pass_11 (by decide) ?_
  show jl_E l G m_Mo_pass (0, 0) 12 [some (.ref 22), some (.int (nI m)), some (.int (nI pc)), some (.int (nI 12)), none, none] [] (σ) P
  refine er_aload_n d_Mo_pass_12 rfl ?_
  refine er_getf d_Mo_pass_13 f_Mo_pass_41 hO rfl ?_
  refine er_bipush ((nI (24))) d_Mo_pass_16 (by decide) ?_
  refine er_iload_n d_Mo_pass_18 rfl ?_
  refine er_imulN d_Mo_pass_19 ?_
  refine er_iload_n d_Mo_pass_20 rfl ?_
  refine er_iaddN d_Mo_pass_21 ?_
  refine er_ialdQ (v := (nI (n))) d_Mo_pass_22 h33 (by omega) (by omega) (hx) ?_
  refine er_istore d_Mo_pass_23 (by decide) ?_
  show jl_E l G m_Mo_pass (0, 0) 25 [some (.ref 22), some (.int (nI m)), some (.int (nI pc)), some (.int (nI 12)), some (.int (nI n)), none] [] (σ) P
  refine er_aload_n d_Mo_pass_25 rfl ?_
  refine er_getf d_Mo_pass_26 f_Mo_pass_179 hO rfl ?_
  refine er_if_leN 46 d_Mo_pass_29 (by decide) (by omega) (fun c1 => ?_) (fun c1 => ?_)
  · refine er_iconst ((-1)) d_Mo_pass_46 (by decide) ?_
    refine er_istore d_Mo_pass_47 (by decide) ?_
    show jl_E l G m_Mo_pass (0, 0) 49 [some (.ref 22), some (.int (nI m)), some (.int (nI pc)), some (.int (nI 12)), some (.int (nI n)), some (.int (-1))] [] (σ) P
    have htp : topO r h = none := by unfold topO; rw [if_pos (by omega)]
    rw [show (-1 : Int32) = en (topO r h) by rw [htp]; rfl]
    show jl_E l G m_Mo_pass (0, 0) 49 [some (.ref 22), some (.int (nI m)), some (.int (nI pc)), some (.int (nI 12)), some (.int (nI n)), some (.int (en (topO r h)))] [] (σ) P
    refine er_aload_n d_Mo_pass_49 rfl ?_
    refine er_dup d_Mo_pass_50 rfl ?_
    refine er_getf d_Mo_pass_51 f_Mo_pass_179 hO rfl ?_
    refine er_aload_n d_Mo_pass_54 rfl ?_
    refine er_iload_n d_Mo_pass_55 rfl ?_
    refine er_iload d_Mo_pass_56 rfl ?_
    refine er_callV (As := [.int (nI 12), .int (nI n)]) d_Mo_pass_58 k_Mo_pass_176 hO rfl rfl rfl (Nat.le_of_ble_eq_true rfl) (by decide) (by decide) (mo_tk_12 hl hO hw hu) ?_
    show jl_E l G m_Mo_pass (0, 0) 61 [some (.ref 22), some (.int (nI m)), some (.int (nI pc)), some (.int (nI 12)), some (.int (nI n)), some (.int (en (topO r h)))] [.int (nI 1), .int (nI h), .ref 22] (σ) P
    refine er_isubN d_Mo_pass_61 (by omega) ?_
    refine er_putf d_Mo_pass_62 p_Mo_pass_179 hO (Nat.le_of_ble_eq_true rfl) jl_fit_int ?_
    show jl_E l G m_Mo_pass (0, 0) 65 [some (.ref 22), some (.int (nI m)), some (.int (nI pc)), some (.int (nI 12)), some (.int (nI n)), some (.int (en (topO r h)))] [] (σ.set (22) (.inr (7, [.int (fa), .ref 23, .ref 24, .ref 25, .ref 26, .ref 27, .ref 28, .ref 29, .ref 30, .ref 31, .ref 32, .ref 33, .ref 34, .ref 35, .ref 36, .ref 37, .int (vf), .int (wh), .int (wy), .ref 38, .ref 39, .ref 40, .ref 41, .int (nI ((h) - (1))), .ref 42, .ref 43, .ref 44, .ref 45, .ref 46, .ref 47, .ref 48, .ref 49, .int (dp), .ref 50, .ref 51, .ref 52, .int (md), .int (ov), .int (oh), .int (dn), .int (an)]))) P
    refine er_iload_n d_Mo_pass_65 rfl ?_
    refine er_iconst ((nI (2))) d_Mo_pass_66 (by decide) ?_
    refine er_icmp_ne 79 d_Mo_pass_67 (by decide) (fun _ => ?_) (fun z => absurd z (by decide))
    refine er_iload_n d_Mo_pass_79 rfl ?_
    refine er_iconst ((nI (1))) d_Mo_pass_80 (by decide) ?_
    refine er_icmp_ne 98 d_Mo_pass_81 (by decide) (fun _ => ?_) (fun z => absurd z (by decide))
    refine er_iload_n d_Mo_pass_98 rfl ?_
    refine er_bipush ((nI (10))) d_Mo_pass_99 (by decide) ?_
    refine er_icmp_ne 112 d_Mo_pass_101 (by decide) (fun _ => ?_) (fun z => absurd z (by decide))
    refine er_iload_n d_Mo_pass_112 rfl ?_
    refine er_bipush ((nI (11))) d_Mo_pass_113 (by decide) ?_
    refine er_icmp_eq 124 d_Mo_pass_115 (by decide) (fun z => absurd z (by decide)) (fun _ => ?_)
    refine er_iload_n d_Mo_pass_118 rfl ?_
    refine er_bipush ((nI (15))) d_Mo_pass_119 (by decide) ?_
    refine er_icmp_ne 136 d_Mo_pass_121 (by decide) (fun _ => ?_) (fun z => absurd z (by decide))
    refine er_iload_n d_Mo_pass_136 rfl ?_
    refine er_bipush ((nI (12))) d_Mo_pass_137 (by decide) ?_
    refine er_icmp_ne 163 d_Mo_pass_139 (by decide) (fun z => absurd rfl z) (fun _ => ?_)
    refine er_aload_n d_Mo_pass_142 rfl ?_
    refine er_aload_n d_Mo_pass_143 rfl ?_
    refine er_iload d_Mo_pass_144 rfl ?_
    refine er_bipush ((nI (32))) d_Mo_pass_146 (by decide) ?_
    refine er_idivN d_Mo_pass_148 (by omega) (by omega) (by omega) ?_
    refine er_iload d_Mo_pass_149 rfl ?_
    refine er_bipush ((nI (32))) d_Mo_pass_151 (by decide) ?_
    refine er_iremN d_Mo_pass_153 (by omega) (by omega) (by omega) ?_
    refine er_callV (As := [.int (nI ((n) / (32))), .int (nI ((n) % (32)))]) d_Mo_pass_154 k_Mo_pass_164 (jl_ss hO) rfl rfl rfl (Nat.le_of_ble_eq_true rfl) (by decide) (by decide) (mo_tf hl (hmb.s22).1 (hmb.s22).2.1 hok hk hf) ?_
    show jl_E l G m_Mo_pass (0, 0) 157 [some (.ref 22), some (.int (nI m)), some (.int (nI pc)), some (.int (nI 12)), some (.int (nI n)), some (.int (en (topO r h)))] [.int (nI (fty pr fi ft (n / 32) (n % 32))), .ref 22] (σ.set (22) (.inr (7, [.int (fa), .ref 23, .ref 24, .ref 25, .ref 26, .ref 27, .ref 28, .ref 29, .ref 30, .ref 31, .ref 32, .ref 33, .ref 34, .ref 35, .ref 36, .ref 37, .int (vf), .int (wh), .int (wy), .ref 38, .ref 39, .ref 40, .ref 41, .int (nI ((h) - (1))), .ref 42, .ref 43, .ref 44, .ref 45, .ref 46, .ref 47, .ref 48, .ref 49, .int (dp), .ref 50, .ref 51, .ref 52, .int (md), .int (ov), .int (oh), .int (dn), .int (an)]))) P
    refine er_callV (As := [.int (nI (fty pr fi ft (n / 32) (n % 32)))]) d_Mo_pass_157 k_Mo_pass_192 (jl_ss hO) rfl rfl rfl (Nat.le_of_ble_eq_true rfl) (by decide) (by decide) (mo_push (h := (h) - (1)) (t := (some (fty pr fi ft (n / 32) (n % 32)))) hl (hmb.s22).1 (hmb.s22).2.2.2.1.2 (by omega)) ?_
    show jl_E l G m_Mo_pass (0, 0) 160 [some (.ref 22), some (.int (nI m)), some (.int (nI pc)), some (.int (nI 12)), some (.int (nI n)), some (.int (en (topO r h)))] [] (((σ.set (22) (.inr (7, [.int (fa), .ref 23, .ref 24, .ref 25, .ref 26, .ref 27, .ref 28, .ref 29, .ref 30, .ref 31, .ref 32, .ref 33, .ref 34, .ref 35, .ref 36, .ref 37, .int (vf), .int (wh), .int (wy), .ref 38, .ref 39, .ref 40, .ref 41, .int (nI ((h) - (1))), .ref 42, .ref 43, .ref 44, .ref 45, .ref 46, .ref 47, .ref 48, .ref 49, .int (dp), .ref 50, .ref 51, .ref 52, .int (md), .int (ov), .int (oh), .int (dn), .int (an)]))).set (41) (.inl (0, 8, .inl (fun j => en ((va_up sk ((h) - (1)) (some (fty pr fi ft (n / 32) (n % 32)))) j))))).set (22) (.inr (7, [.int (fa), .ref 23, .ref 24, .ref 25, .ref 26, .ref 27, .ref 28, .ref 29, .ref 30, .ref 31, .ref 32, .ref 33, .ref 34, .ref 35, .ref 36, .ref 37, .int (vf), .int (wh), .int (wy), .ref 38, .ref 39, .ref 40, .ref 41, .int (nI ((h) - (1) + 1)), .ref 42, .ref 43, .ref 44, .ref 45, .ref 46, .ref 47, .ref 48, .ref 49, .int (dp), .ref 50, .ref 51, .ref 52, .int (md), .int (ov), .int (oh), .int (dn), .int (an)]))) P
    refine er_goto 242 d_Mo_pass_160 (by decide) ?_
    exact er_vret d_Mo_pass_242 rfl (hT _ _ _ (hrl.low htk).psh hlo (ob_up hsk (ob_s hft)) (hmb.s22.s41.s22) (((FrM.refl.set (by omega)).set (by omega)).set (by omega))) (by decide) (by decide)
  · refine er_aload_n d_Mo_pass_32 rfl ?_
    refine er_getf d_Mo_pass_33 f_Mo_pass_72 hO rfl ?_
    refine er_aload_n d_Mo_pass_36 rfl ?_
    refine er_getf d_Mo_pass_37 f_Mo_pass_179 hO rfl ?_
    refine er_iconst ((nI (1))) d_Mo_pass_40 (by decide) ?_
    refine er_isubN d_Mo_pass_41 (by omega) ?_
    refine er_ialdQ (v := (en (topO r h))) d_Mo_pass_42 r2 (by omega) (by omega) (congrArg en (show sk (h - 1) = topO r h by unfold topO; rw [if_neg (by omega), hrl.2 (h - 1) (by omega)]; congr 1; omega)) ?_
    refine er_goto 47 d_Mo_pass_43 (by decide) ?_
    refine er_istore d_Mo_pass_47 (by decide) ?_
    show jl_E l G m_Mo_pass (0, 0) 49 [some (.ref 22), some (.int (nI m)), some (.int (nI pc)), some (.int (nI 12)), some (.int (nI n)), some (.int (en (topO r h)))] [] (σ) P
    refine er_aload_n d_Mo_pass_49 rfl ?_
    refine er_dup d_Mo_pass_50 rfl ?_
    refine er_getf d_Mo_pass_51 f_Mo_pass_179 hO rfl ?_
    refine er_aload_n d_Mo_pass_54 rfl ?_
    refine er_iload_n d_Mo_pass_55 rfl ?_
    refine er_iload d_Mo_pass_56 rfl ?_
    refine er_callV (As := [.int (nI 12), .int (nI n)]) d_Mo_pass_58 k_Mo_pass_176 hO rfl rfl rfl (Nat.le_of_ble_eq_true rfl) (by decide) (by decide) (mo_tk_12 hl hO hw hu) ?_
    show jl_E l G m_Mo_pass (0, 0) 61 [some (.ref 22), some (.int (nI m)), some (.int (nI pc)), some (.int (nI 12)), some (.int (nI n)), some (.int (en (topO r h)))] [.int (nI 1), .int (nI h), .ref 22] (σ) P
    refine er_isubN d_Mo_pass_61 (by omega) ?_
    refine er_putf d_Mo_pass_62 p_Mo_pass_179 hO (Nat.le_of_ble_eq_true rfl) jl_fit_int ?_
    show jl_E l G m_Mo_pass (0, 0) 65 [some (.ref 22), some (.int (nI m)), some (.int (nI pc)), some (.int (nI 12)), some (.int (nI n)), some (.int (en (topO r h)))] [] (σ.set (22) (.inr (7, [.int (fa), .ref 23, .ref 24, .ref 25, .ref 26, .ref 27, .ref 28, .ref 29, .ref 30, .ref 31, .ref 32, .ref 33, .ref 34, .ref 35, .ref 36, .ref 37, .int (vf), .int (wh), .int (wy), .ref 38, .ref 39, .ref 40, .ref 41, .int (nI ((h) - (1))), .ref 42, .ref 43, .ref 44, .ref 45, .ref 46, .ref 47, .ref 48, .ref 49, .int (dp), .ref 50, .ref 51, .ref 52, .int (md), .int (ov), .int (oh), .int (dn), .int (an)]))) P
    refine er_iload_n d_Mo_pass_65 rfl ?_
    refine er_iconst ((nI (2))) d_Mo_pass_66 (by decide) ?_
    refine er_icmp_ne 79 d_Mo_pass_67 (by decide) (fun _ => ?_) (fun z => absurd z (by decide))
    refine er_iload_n d_Mo_pass_79 rfl ?_
    refine er_iconst ((nI (1))) d_Mo_pass_80 (by decide) ?_
    refine er_icmp_ne 98 d_Mo_pass_81 (by decide) (fun _ => ?_) (fun z => absurd z (by decide))
    refine er_iload_n d_Mo_pass_98 rfl ?_
    refine er_bipush ((nI (10))) d_Mo_pass_99 (by decide) ?_
    refine er_icmp_ne 112 d_Mo_pass_101 (by decide) (fun _ => ?_) (fun z => absurd z (by decide))
    refine er_iload_n d_Mo_pass_112 rfl ?_
    refine er_bipush ((nI (11))) d_Mo_pass_113 (by decide) ?_
    refine er_icmp_eq 124 d_Mo_pass_115 (by decide) (fun z => absurd z (by decide)) (fun _ => ?_)
    refine er_iload_n d_Mo_pass_118 rfl ?_
    refine er_bipush ((nI (15))) d_Mo_pass_119 (by decide) ?_
    refine er_icmp_ne 136 d_Mo_pass_121 (by decide) (fun _ => ?_) (fun z => absurd z (by decide))
    refine er_iload_n d_Mo_pass_136 rfl ?_
    refine er_bipush ((nI (12))) d_Mo_pass_137 (by decide) ?_
    refine er_icmp_ne 163 d_Mo_pass_139 (by decide) (fun z => absurd rfl z) (fun _ => ?_)
    refine er_aload_n d_Mo_pass_142 rfl ?_
    refine er_aload_n d_Mo_pass_143 rfl ?_
    refine er_iload d_Mo_pass_144 rfl ?_
    refine er_bipush ((nI (32))) d_Mo_pass_146 (by decide) ?_
    refine er_idivN d_Mo_pass_148 (by omega) (by omega) (by omega) ?_
    refine er_iload d_Mo_pass_149 rfl ?_
    refine er_bipush ((nI (32))) d_Mo_pass_151 (by decide) ?_
    refine er_iremN d_Mo_pass_153 (by omega) (by omega) (by omega) ?_
    refine er_callV (As := [.int (nI ((n) / (32))), .int (nI ((n) % (32)))]) d_Mo_pass_154 k_Mo_pass_164 (jl_ss hO) rfl rfl rfl (Nat.le_of_ble_eq_true rfl) (by decide) (by decide) (mo_tf hl (hmb.s22).1 (hmb.s22).2.1 hok hk hf) ?_
    show jl_E l G m_Mo_pass (0, 0) 157 [some (.ref 22), some (.int (nI m)), some (.int (nI pc)), some (.int (nI 12)), some (.int (nI n)), some (.int (en (topO r h)))] [.int (nI (fty pr fi ft (n / 32) (n % 32))), .ref 22] (σ.set (22) (.inr (7, [.int (fa), .ref 23, .ref 24, .ref 25, .ref 26, .ref 27, .ref 28, .ref 29, .ref 30, .ref 31, .ref 32, .ref 33, .ref 34, .ref 35, .ref 36, .ref 37, .int (vf), .int (wh), .int (wy), .ref 38, .ref 39, .ref 40, .ref 41, .int (nI ((h) - (1))), .ref 42, .ref 43, .ref 44, .ref 45, .ref 46, .ref 47, .ref 48, .ref 49, .int (dp), .ref 50, .ref 51, .ref 52, .int (md), .int (ov), .int (oh), .int (dn), .int (an)]))) P
    refine er_callV (As := [.int (nI (fty pr fi ft (n / 32) (n % 32)))]) d_Mo_pass_157 k_Mo_pass_192 (jl_ss hO) rfl rfl rfl (Nat.le_of_ble_eq_true rfl) (by decide) (by decide) (mo_push (h := (h) - (1)) (t := (some (fty pr fi ft (n / 32) (n % 32)))) hl (hmb.s22).1 (hmb.s22).2.2.2.1.2 (by omega)) ?_
    show jl_E l G m_Mo_pass (0, 0) 160 [some (.ref 22), some (.int (nI m)), some (.int (nI pc)), some (.int (nI 12)), some (.int (nI n)), some (.int (en (topO r h)))] [] (((σ.set (22) (.inr (7, [.int (fa), .ref 23, .ref 24, .ref 25, .ref 26, .ref 27, .ref 28, .ref 29, .ref 30, .ref 31, .ref 32, .ref 33, .ref 34, .ref 35, .ref 36, .ref 37, .int (vf), .int (wh), .int (wy), .ref 38, .ref 39, .ref 40, .ref 41, .int (nI ((h) - (1))), .ref 42, .ref 43, .ref 44, .ref 45, .ref 46, .ref 47, .ref 48, .ref 49, .int (dp), .ref 50, .ref 51, .ref 52, .int (md), .int (ov), .int (oh), .int (dn), .int (an)]))).set (41) (.inl (0, 8, .inl (fun j => en ((va_up sk ((h) - (1)) (some (fty pr fi ft (n / 32) (n % 32)))) j))))).set (22) (.inr (7, [.int (fa), .ref 23, .ref 24, .ref 25, .ref 26, .ref 27, .ref 28, .ref 29, .ref 30, .ref 31, .ref 32, .ref 33, .ref 34, .ref 35, .ref 36, .ref 37, .int (vf), .int (wh), .int (wy), .ref 38, .ref 39, .ref 40, .ref 41, .int (nI ((h) - (1) + 1)), .ref 42, .ref 43, .ref 44, .ref 45, .ref 46, .ref 47, .ref 48, .ref 49, .int (dp), .ref 50, .ref 51, .ref 52, .int (md), .int (ov), .int (oh), .int (dn), .int (an)]))) P
    refine er_goto 242 d_Mo_pass_160 (by decide) ?_
    exact er_vret d_Mo_pass_242 rfl (hT _ _ _ (hrl.low htk).psh hlo (ob_up hsk (ob_s hft)) (hmb.s22.s41.s22) (((FrM.refl.set (by omega)).set (by omega)).set (by omega))) (by decide) (by decide)
theorem mo_pass_13 (hl : l.stackTraces = false) {P : jl_O → jl_S → Prop} {m pc h : Nat} {r : Rw} {x : Int32} (hmb : MB σ tb pr ow ft hs u1 u2 ur ul uo ua uc us ut uk fa vf wh wy (nI h) dp md ov oh dn an lo sk kp mm fm) (hok : WoOk tb pr ow fi) (hK : MoK u1 u2 ur ul uo uc us ut uk) (hm : m < 24) (hpc : pc < 24) (ho : uo (24 * m + pc) = 13) (hx : ua (24 * m + pc) = x) (hrl : RlM r lo sk h) (hrv : rv r h) (hlo : ∀ j, ob 16 (lo j)) (hsk : ∀ j, ob 16 (sk j)) (htk : 2 ≤ h) (hp5 : h - 2 + 0 ≤ 5) (hT : ∀ lo' sk' σ', RlM (low r h 2) lo' sk' (h - 2) → (∀ j, ob 16 (lo' j)) → (∀ j, ob 16 (sk' j)) → MB σ' tb pr ow ft hs u1 u2 ur ul uo ua uc us ut uk fa vf wh wy (nI (h - 2)) dp md ov oh dn an lo' sk' kp mm fm → FrM σ σ' → P (.inl none) σ') : jl_mE l G m_Mo_pass [.ref 22, .int (nI m), .int (nI pc)] σ P := by
  obtain ⟨hO, hw, hu, hr, hkp, hmp, hfm⟩ := id hmb; obtain ⟨r1, r2⟩ := id hr
  obtain ⟨h23, h24, h25, h26, h27⟩ := id hw
  obtain ⟨h28, h29, h30, h31, h32, h33, h34, h35, h36, h37⟩ := id hu
  obtain ⟨hk1, hk2, hk3, hk4, hk5, hk6⟩ := hK.1 m hm
  have hh5 := hrv.2.1
  refine jl_ofE (as := [.ref 22, .int (nI m), .int (nI pc)]) rfl (by decide) hl (jl_cc rfl (jl_cc rfl (jl_cc rfl jl_ca))) (Nat.le_of_ble_eq_true rfl) ?_
  show jl_E l G m_Mo_pass (0, 0) 0 [some (.ref 22), some (.int (nI m)), some (.int (nI pc)), none, none, none] [] (σ) P
  refine er_aload_n d_Mo_pass_0 rfl ?_
  refine er_getf d_Mo_pass_1 f_Mo_pass_38 hO rfl ?_
  refine er_bipush ((nI (24))) d_Mo_pass_4 (by decide) ?_
  refine er_iload_n d_Mo_pass_6 rfl ?_
  refine er_imulN d_Mo_pass_7 ?_
  refine er_iload_n d_Mo_pass_8 rfl ?_
  refine er_iaddN d_Mo_pass_9 ?_
  refine er_ialdQ (v := (nI (13))) d_Mo_pass_10 h32 (by omega) (by omega) (congrArg nI ho) ?_
  refine er_istore_n d_Mo_pass_11 (by decide) ?_
  show jl_E l G m_Mo_pass (0, 0) 12 [some (.ref 22), some (.int (nI m)), some (.int (nI pc)), some (.int (nI 13)), none, none] [] (σ) P
  refine er_aload_n d_Mo_pass_12 rfl ?_
  refine er_getf d_Mo_pass_13 f_Mo_pass_41 hO rfl ?_
  refine er_bipush ((nI (24))) d_Mo_pass_16 (by decide) ?_
  refine er_iload_n d_Mo_pass_18 rfl ?_
  refine er_imulN d_Mo_pass_19 ?_
  refine er_iload_n d_Mo_pass_20 rfl ?_
  refine er_iaddN d_Mo_pass_21 ?_
  refine er_ialdQ (v := (x)) d_Mo_pass_22 h33 (by omega) (by omega) (hx) ?_
  refine er_istore d_Mo_pass_23 (by decide) ?_
  show jl_E l G m_Mo_pass (0, 0) 25 [some (.ref 22), some (.int (nI m)), some (.int (nI pc)), some (.int (nI 13)), some (.int (x)), none] [] (σ) P
  refine er_aload_n d_Mo_pass_25 rfl ?_
  refine er_getf d_Mo_pass_26 f_Mo_pass_179 hO rfl ?_
  refine er_if_leN 46 d_Mo_pass_29 (by decide) (by omega) (fun c1 => ?_) (fun c1 => ?_)
  · refine er_iconst ((-1)) d_Mo_pass_46 (by decide) ?_
    refine er_istore d_Mo_pass_47 (by decide) ?_
    show jl_E l G m_Mo_pass (0, 0) 49 [some (.ref 22), some (.int (nI m)), some (.int (nI pc)), some (.int (nI 13)), some (.int (x)), some (.int (-1))] [] (σ) P
    have htp : topO r h = none := by unfold topO; rw [if_pos (by omega)]
    rw [show (-1 : Int32) = en (topO r h) by rw [htp]; rfl]
    show jl_E l G m_Mo_pass (0, 0) 49 [some (.ref 22), some (.int (nI m)), some (.int (nI pc)), some (.int (nI 13)), some (.int (x)), some (.int (en (topO r h)))] [] (σ) P
    refine er_aload_n d_Mo_pass_49 rfl ?_
    refine er_dup d_Mo_pass_50 rfl ?_
    refine er_getf d_Mo_pass_51 f_Mo_pass_179 hO rfl ?_
    refine er_aload_n d_Mo_pass_54 rfl ?_
    refine er_iload_n d_Mo_pass_55 rfl ?_
    refine er_iload d_Mo_pass_56 rfl ?_
    refine er_callV (As := [.int (nI 13), .int (x)]) d_Mo_pass_58 k_Mo_pass_176 hO rfl rfl rfl (Nat.le_of_ble_eq_true rfl) (by decide) (by decide) (mo_tk_13 hl hO hw hu) ?_
    show jl_E l G m_Mo_pass (0, 0) 61 [some (.ref 22), some (.int (nI m)), some (.int (nI pc)), some (.int (nI 13)), some (.int (x)), some (.int (en (topO r h)))] [.int (nI 2), .int (nI h), .ref 22] (σ) P
    refine er_isubN d_Mo_pass_61 (by omega) ?_
    refine er_putf d_Mo_pass_62 p_Mo_pass_179 hO (Nat.le_of_ble_eq_true rfl) jl_fit_int ?_
    show jl_E l G m_Mo_pass (0, 0) 65 [some (.ref 22), some (.int (nI m)), some (.int (nI pc)), some (.int (nI 13)), some (.int (x)), some (.int (en (topO r h)))] [] (σ.set (22) (.inr (7, [.int (fa), .ref 23, .ref 24, .ref 25, .ref 26, .ref 27, .ref 28, .ref 29, .ref 30, .ref 31, .ref 32, .ref 33, .ref 34, .ref 35, .ref 36, .ref 37, .int (vf), .int (wh), .int (wy), .ref 38, .ref 39, .ref 40, .ref 41, .int (nI ((h) - (2))), .ref 42, .ref 43, .ref 44, .ref 45, .ref 46, .ref 47, .ref 48, .ref 49, .int (dp), .ref 50, .ref 51, .ref 52, .int (md), .int (ov), .int (oh), .int (dn), .int (an)]))) P
    refine er_iload_n d_Mo_pass_65 rfl ?_
    refine er_iconst ((nI (2))) d_Mo_pass_66 (by decide) ?_
    refine er_icmp_ne 79 d_Mo_pass_67 (by decide) (fun _ => ?_) (fun z => absurd z (by decide))
    refine er_iload_n d_Mo_pass_79 rfl ?_
    refine er_iconst ((nI (1))) d_Mo_pass_80 (by decide) ?_
    refine er_icmp_ne 98 d_Mo_pass_81 (by decide) (fun _ => ?_) (fun z => absurd z (by decide))
    refine er_iload_n d_Mo_pass_98 rfl ?_
    refine er_bipush ((nI (10))) d_Mo_pass_99 (by decide) ?_
    refine er_icmp_ne 112 d_Mo_pass_101 (by decide) (fun _ => ?_) (fun z => absurd z (by decide))
    refine er_iload_n d_Mo_pass_112 rfl ?_
    refine er_bipush ((nI (11))) d_Mo_pass_113 (by decide) ?_
    refine er_icmp_eq 124 d_Mo_pass_115 (by decide) (fun z => absurd z (by decide)) (fun _ => ?_)
    refine er_iload_n d_Mo_pass_118 rfl ?_
    refine er_bipush ((nI (15))) d_Mo_pass_119 (by decide) ?_
    refine er_icmp_ne 136 d_Mo_pass_121 (by decide) (fun _ => ?_) (fun z => absurd z (by decide))
    refine er_iload_n d_Mo_pass_136 rfl ?_
    refine er_bipush ((nI (12))) d_Mo_pass_137 (by decide) ?_
    refine er_icmp_ne 163 d_Mo_pass_139 (by decide) (fun _ => ?_) (fun z => absurd z (by decide))
    refine er_iload_n d_Mo_pass_163 rfl ?_
    refine er_bipush ((nI (14))) d_Mo_pass_164 (by decide) ?_
    refine er_icmp_ne 193 d_Mo_pass_166 (by decide) (fun _ => ?_) (fun z => absurd z (by decide))
    refine er_iload_n d_Mo_pass_193 rfl ?_
    refine er_bipush ((nI (19))) d_Mo_pass_194 (by decide) ?_
    refine er_icmp_ne 207 d_Mo_pass_196 (by decide) (fun _ => ?_) (fun z => absurd z (by decide))
    refine er_iload_n d_Mo_pass_207 rfl ?_
    refine er_bipush ((nI (24))) d_Mo_pass_208 (by decide) ?_
    refine er_icmp_ne 228 d_Mo_pass_210 (by decide) (fun _ => ?_) (fun z => absurd z (by decide))
    refine er_aload_n d_Mo_pass_228 rfl ?_
    refine er_iload_n d_Mo_pass_229 rfl ?_
    refine er_callV (As := [.int (nI 13)]) d_Mo_pass_230 k_Mo_pass_182 (jl_ss hO) rfl rfl rfl (Nat.le_of_ble_eq_true rfl) (by decide) (by decide) (mo_puts hl (hmb.s22).1 (hmb.s22).2.1 (by omega)) ?_
    show jl_E l G m_Mo_pass (0, 0) 233 [some (.ref 22), some (.int (nI m)), some (.int (nI pc)), some (.int (nI 13)), some (.int (x)), some (.int (en (topO r h)))] [.int (nI 0)] (σ.set (22) (.inr (7, [.int (fa), .ref 23, .ref 24, .ref 25, .ref 26, .ref 27, .ref 28, .ref 29, .ref 30, .ref 31, .ref 32, .ref 33, .ref 34, .ref 35, .ref 36, .ref 37, .int (vf), .int (wh), .int (wy), .ref 38, .ref 39, .ref 40, .ref 41, .int (nI ((h) - (2))), .ref 42, .ref 43, .ref 44, .ref 45, .ref 46, .ref 47, .ref 48, .ref 49, .int (dp), .ref 50, .ref 51, .ref 52, .int (md), .int (ov), .int (oh), .int (dn), .int (an)]))) P
    refine er_iconst ((nI (1))) d_Mo_pass_233 (by decide) ?_
    refine er_icmp_ne 242 d_Mo_pass_234 (by decide) (fun _ => ?_) (fun z => absurd z (by decide))
    exact er_vret d_Mo_pass_242 rfl (hT _ _ _ (hrl.low htk) hlo hsk (hmb.s22) (FrM.refl.set (by omega))) (by decide) (by decide)
  · refine er_aload_n d_Mo_pass_32 rfl ?_
    refine er_getf d_Mo_pass_33 f_Mo_pass_72 hO rfl ?_
    refine er_aload_n d_Mo_pass_36 rfl ?_
    refine er_getf d_Mo_pass_37 f_Mo_pass_179 hO rfl ?_
    refine er_iconst ((nI (1))) d_Mo_pass_40 (by decide) ?_
    refine er_isubN d_Mo_pass_41 (by omega) ?_
    refine er_ialdQ (v := (en (topO r h))) d_Mo_pass_42 r2 (by omega) (by omega) (congrArg en (show sk (h - 1) = topO r h by unfold topO; rw [if_neg (by omega), hrl.2 (h - 1) (by omega)]; congr 1; omega)) ?_
    refine er_goto 47 d_Mo_pass_43 (by decide) ?_
    refine er_istore d_Mo_pass_47 (by decide) ?_
    show jl_E l G m_Mo_pass (0, 0) 49 [some (.ref 22), some (.int (nI m)), some (.int (nI pc)), some (.int (nI 13)), some (.int (x)), some (.int (en (topO r h)))] [] (σ) P
    refine er_aload_n d_Mo_pass_49 rfl ?_
    refine er_dup d_Mo_pass_50 rfl ?_
    refine er_getf d_Mo_pass_51 f_Mo_pass_179 hO rfl ?_
    refine er_aload_n d_Mo_pass_54 rfl ?_
    refine er_iload_n d_Mo_pass_55 rfl ?_
    refine er_iload d_Mo_pass_56 rfl ?_
    refine er_callV (As := [.int (nI 13), .int (x)]) d_Mo_pass_58 k_Mo_pass_176 hO rfl rfl rfl (Nat.le_of_ble_eq_true rfl) (by decide) (by decide) (mo_tk_13 hl hO hw hu) ?_
    show jl_E l G m_Mo_pass (0, 0) 61 [some (.ref 22), some (.int (nI m)), some (.int (nI pc)), some (.int (nI 13)), some (.int (x)), some (.int (en (topO r h)))] [.int (nI 2), .int (nI h), .ref 22] (σ) P
    refine er_isubN d_Mo_pass_61 (by omega) ?_
    refine er_putf d_Mo_pass_62 p_Mo_pass_179 hO (Nat.le_of_ble_eq_true rfl) jl_fit_int ?_
    show jl_E l G m_Mo_pass (0, 0) 65 [some (.ref 22), some (.int (nI m)), some (.int (nI pc)), some (.int (nI 13)), some (.int (x)), some (.int (en (topO r h)))] [] (σ.set (22) (.inr (7, [.int (fa), .ref 23, .ref 24, .ref 25, .ref 26, .ref 27, .ref 28, .ref 29, .ref 30, .ref 31, .ref 32, .ref 33, .ref 34, .ref 35, .ref 36, .ref 37, .int (vf), .int (wh), .int (wy), .ref 38, .ref 39, .ref 40, .ref 41, .int (nI ((h) - (2))), .ref 42, .ref 43, .ref 44, .ref 45, .ref 46, .ref 47, .ref 48, .ref 49, .int (dp), .ref 50, .ref 51, .ref 52, .int (md), .int (ov), .int (oh), .int (dn), .int (an)]))) P
    refine er_iload_n d_Mo_pass_65 rfl ?_
    refine er_iconst ((nI (2))) d_Mo_pass_66 (by decide) ?_
    refine er_icmp_ne 79 d_Mo_pass_67 (by decide) (fun _ => ?_) (fun z => absurd z (by decide))
    refine er_iload_n d_Mo_pass_79 rfl ?_
    refine er_iconst ((nI (1))) d_Mo_pass_80 (by decide) ?_
    refine er_icmp_ne 98 d_Mo_pass_81 (by decide) (fun _ => ?_) (fun z => absurd z (by decide))
    refine er_iload_n d_Mo_pass_98 rfl ?_
    refine er_bipush ((nI (10))) d_Mo_pass_99 (by decide) ?_
    refine er_icmp_ne 112 d_Mo_pass_101 (by decide) (fun _ => ?_) (fun z => absurd z (by decide))
    refine er_iload_n d_Mo_pass_112 rfl ?_
    refine er_bipush ((nI (11))) d_Mo_pass_113 (by decide) ?_
    refine er_icmp_eq 124 d_Mo_pass_115 (by decide) (fun z => absurd z (by decide)) (fun _ => ?_)
    refine er_iload_n d_Mo_pass_118 rfl ?_
    refine er_bipush ((nI (15))) d_Mo_pass_119 (by decide) ?_
    refine er_icmp_ne 136 d_Mo_pass_121 (by decide) (fun _ => ?_) (fun z => absurd z (by decide))
    refine er_iload_n d_Mo_pass_136 rfl ?_
    refine er_bipush ((nI (12))) d_Mo_pass_137 (by decide) ?_
    refine er_icmp_ne 163 d_Mo_pass_139 (by decide) (fun _ => ?_) (fun z => absurd z (by decide))
    refine er_iload_n d_Mo_pass_163 rfl ?_
    refine er_bipush ((nI (14))) d_Mo_pass_164 (by decide) ?_
    refine er_icmp_ne 193 d_Mo_pass_166 (by decide) (fun _ => ?_) (fun z => absurd z (by decide))
    refine er_iload_n d_Mo_pass_193 rfl ?_
    refine er_bipush ((nI (19))) d_Mo_pass_194 (by decide) ?_
    refine er_icmp_ne 207 d_Mo_pass_196 (by decide) (fun _ => ?_) (fun z => absurd z (by decide))
    refine er_iload_n d_Mo_pass_207 rfl ?_
    refine er_bipush ((nI (24))) d_Mo_pass_208 (by decide) ?_
    refine er_icmp_ne 228 d_Mo_pass_210 (by decide) (fun _ => ?_) (fun z => absurd z (by decide))
    refine er_aload_n d_Mo_pass_228 rfl ?_
    refine er_iload_n d_Mo_pass_229 rfl ?_
    refine er_callV (As := [.int (nI 13)]) d_Mo_pass_230 k_Mo_pass_182 (jl_ss hO) rfl rfl rfl (Nat.le_of_ble_eq_true rfl) (by decide) (by decide) (mo_puts hl (hmb.s22).1 (hmb.s22).2.1 (by omega)) ?_
    show jl_E l G m_Mo_pass (0, 0) 233 [some (.ref 22), some (.int (nI m)), some (.int (nI pc)), some (.int (nI 13)), some (.int (x)), some (.int (en (topO r h)))] [.int (nI 0)] (σ.set (22) (.inr (7, [.int (fa), .ref 23, .ref 24, .ref 25, .ref 26, .ref 27, .ref 28, .ref 29, .ref 30, .ref 31, .ref 32, .ref 33, .ref 34, .ref 35, .ref 36, .ref 37, .int (vf), .int (wh), .int (wy), .ref 38, .ref 39, .ref 40, .ref 41, .int (nI ((h) - (2))), .ref 42, .ref 43, .ref 44, .ref 45, .ref 46, .ref 47, .ref 48, .ref 49, .int (dp), .ref 50, .ref 51, .ref 52, .int (md), .int (ov), .int (oh), .int (dn), .int (an)]))) P
    refine er_iconst ((nI (1))) d_Mo_pass_233 (by decide) ?_
    refine er_icmp_ne 242 d_Mo_pass_234 (by decide) (fun _ => ?_) (fun z => absurd z (by decide))
    exact er_vret d_Mo_pass_242 rfl (hT _ _ _ (hrl.low htk) hlo hsk (hmb.s22) (FrM.refl.set (by omega))) (by decide) (by decide)
theorem d_Mo_pass_169 : decode m_Mo_pass.2.1 169 = .ok (.aload_n 0, 1) := by decide +kernel
theorem d_Mo_pass_170 : decode m_Mo_pass.2.1 170 = .ok (.aload_n 0, 1) := by decide +kernel
theorem f_Mo_pass_32 : jl_fd m_Mo_pass 32 7 8 = true := by decide +kernel
theorem d_Mo_pass_171 : decode m_Mo_pass.2.1 171 = .ok (.getfield 32, 3) := by decide +kernel
theorem d_Mo_pass_174 : decode m_Mo_pass.2.1 174 = .ok (.aload_n 0, 1) := by decide +kernel
theorem d_Mo_pass_175 : decode m_Mo_pass.2.1 175 = .ok (.iload 4, 2) := by decide +kernel
theorem d_Mo_pass_177 : decode m_Mo_pass.2.1 177 = .ok (.iconst 4, 1) := by decide +kernel
theorem d_Mo_pass_178 : decode m_Mo_pass.2.1 178 = .ok (.idiv, 1) := by decide +kernel
theorem d_Mo_pass_179 : decode m_Mo_pass.2.1 179 = .ok (.iload 4, 2) := by decide +kernel
theorem d_Mo_pass_181 : decode m_Mo_pass.2.1 181 = .ok (.iconst 4, 1) := by decide +kernel
theorem d_Mo_pass_182 : decode m_Mo_pass.2.1 182 = .ok (.irem, 1) := by decide +kernel
theorem k_Mo_pass_157 : jl_cv m_Mo_pass m_Mo_methodOf 157 2 = true := by decide +kernel
theorem d_Mo_pass_183 : decode m_Mo_pass.2.1 183 = .ok (.invokevirtual 157, 3) := by decide +kernel
theorem d_Mo_pass_186 : decode m_Mo_pass.2.1 186 = .ok (.iaload, 1) := by decide +kernel
theorem d_Mo_pass_187 : decode m_Mo_pass.2.1 187 = .ok (.invokevirtual 192, 3) := by decide +kernel
theorem d_Mo_pass_190 : decode m_Mo_pass.2.1 190 = .ok (.goto 52, 3) := by decide +kernel
theorem mo_pass_14 (hl : l.stackTraces = false) {P : jl_O → jl_S → Prop} {m pc h : Nat} {r : Rw} {n : Nat} {c : Nat} {p q : Option Nat} (hmb : MB σ tb pr ow ft hs u1 u2 ur ul uo ua uc us ut uk fa vf wh wy (nI h) dp md ov oh dn an lo sk kp mm fm) (hok : WoOk tb pr ow fi) (hK : MoK u1 u2 ur ul uo uc us ut uk) (hm : m < 24) (hpc : pc < 24) (ho : uo (24 * m + pc) = 14) (hx : ua (24 * m + pc) = nI n) (hrl : RlM r lo sk h) (hrv : rv r h) (hlo : ∀ j, ob 16 (lo j)) (hsk : ∀ j, ob 16 (sk j)) (htk : (1 + prm p q) ≤ h) (hp5 : h - (1 + prm p q) + 1 ≤ 5) (hn : n < 2 ^ 31) (hk : n / 4 < 6) (hmo : mmo pr hs (n % 4) 6 (some (n / 4)) = some c) (hc : c < 24) (e1 : u1 c = p) (e2 : u2 c = q) (hp : ob 16 p) (hq : ob 16 q) (hrc : ur c < 16) (hT : ∀ lo' sk' σ', RlM (psh (low r h (1 + prm p q)) (h - (1 + prm p q)) (some (ur c))) lo' sk' (h - (1 + prm p q) + 1) → (∀ j, ob 16 (lo' j)) → (∀ j, ob 16 (sk' j)) → MB σ' tb pr ow ft hs u1 u2 ur ul uo ua uc us ut uk fa vf wh wy (nI (h - (1 + prm p q) + 1)) dp md ov oh dn an lo' sk' kp mm fm → FrM σ σ' → P (.inl none) σ') : jl_mE l G m_Mo_pass [.ref 22, .int (nI m), .int (nI pc)] σ P := by
  obtain ⟨hO, hw, hu, hr, hkp, hmp, hfm⟩ := id hmb; obtain ⟨r1, r2⟩ := id hr
  obtain ⟨h23, h24, h25, h26, h27⟩ := id hw
  obtain ⟨h28, h29, h30, h31, h32, h33, h34, h35, h36, h37⟩ := id hu
  obtain ⟨hk1, hk2, hk3, hk4, hk5, hk6⟩ := hK.1 m hm
  have hh5 := hrv.2.1
  refine jl_ofE (as := [.ref 22, .int (nI m), .int (nI pc)]) rfl (by decide) hl (jl_cc rfl (jl_cc rfl (jl_cc rfl jl_ca))) (Nat.le_of_ble_eq_true rfl) ?_
  show jl_E l G m_Mo_pass (0, 0) 0 [some (.ref 22), some (.int (nI m)), some (.int (nI pc)), none, none, none] [] (σ) P
  refine er_aload_n d_Mo_pass_0 rfl ?_
  refine er_getf d_Mo_pass_1 f_Mo_pass_38 hO rfl ?_
  refine er_bipush ((nI (24))) d_Mo_pass_4 (by decide) ?_
  refine er_iload_n d_Mo_pass_6 rfl ?_
  refine er_imulN d_Mo_pass_7 ?_
  refine er_iload_n d_Mo_pass_8 rfl ?_
  refine er_iaddN d_Mo_pass_9 ?_
  refine er_ialdQ (v := (nI (14))) d_Mo_pass_10 h32 (by omega) (by omega) (congrArg nI ho) ?_
  refine er_istore_n d_Mo_pass_11 (by decide) ?_
  show jl_E l G m_Mo_pass (0, 0) 12 [some (.ref 22), some (.int (nI m)), some (.int (nI pc)), some (.int (nI 14)), none, none] [] (σ) P
  refine er_aload_n d_Mo_pass_12 rfl ?_
  refine er_getf d_Mo_pass_13 f_Mo_pass_41 hO rfl ?_
  refine er_bipush ((nI (24))) d_Mo_pass_16 (by decide) ?_
  refine er_iload_n d_Mo_pass_18 rfl ?_
  refine er_imulN d_Mo_pass_19 ?_
  refine er_iload_n d_Mo_pass_20 rfl ?_
  refine er_iaddN d_Mo_pass_21 ?_
  refine er_ialdQ (v := (nI (n))) d_Mo_pass_22 h33 (by omega) (by omega) (hx) ?_
  refine er_istore d_Mo_pass_23 (by decide) ?_
  show jl_E l G m_Mo_pass (0, 0) 25 [some (.ref 22), some (.int (nI m)), some (.int (nI pc)), some (.int (nI 14)), some (.int (nI n)), none] [] (σ) P
  refine er_aload_n d_Mo_pass_25 rfl ?_
  refine er_getf d_Mo_pass_26 f_Mo_pass_179 hO rfl ?_
  refine er_if_leN 46 d_Mo_pass_29 (by decide) (by omega) (fun c1 => ?_) (fun c1 => ?_)
  · refine er_iconst ((-1)) d_Mo_pass_46 (by decide) ?_
    refine er_istore d_Mo_pass_47 (by decide) ?_
    show jl_E l G m_Mo_pass (0, 0) 49 [some (.ref 22), some (.int (nI m)), some (.int (nI pc)), some (.int (nI 14)), some (.int (nI n)), some (.int (-1))] [] (σ) P
    have htp : topO r h = none := by unfold topO; rw [if_pos (by omega)]
    rw [show (-1 : Int32) = en (topO r h) by rw [htp]; rfl]
    show jl_E l G m_Mo_pass (0, 0) 49 [some (.ref 22), some (.int (nI m)), some (.int (nI pc)), some (.int (nI 14)), some (.int (nI n)), some (.int (en (topO r h)))] [] (σ) P
    refine er_aload_n d_Mo_pass_49 rfl ?_
    refine er_dup d_Mo_pass_50 rfl ?_
    refine er_getf d_Mo_pass_51 f_Mo_pass_179 hO rfl ?_
    refine er_aload_n d_Mo_pass_54 rfl ?_
    refine er_iload_n d_Mo_pass_55 rfl ?_
    refine er_iload d_Mo_pass_56 rfl ?_
    refine er_callV (As := [.int (nI 14), .int (nI n)]) d_Mo_pass_58 k_Mo_pass_176 hO rfl rfl rfl (Nat.le_of_ble_eq_true rfl) (by decide) (by decide) (mo_tk_14 hl hO hw hu hok hn hk hmo hc e1 e2 hp hq) ?_
    show jl_E l G m_Mo_pass (0, 0) 61 [some (.ref 22), some (.int (nI m)), some (.int (nI pc)), some (.int (nI 14)), some (.int (nI n)), some (.int (en (topO r h)))] [.int (nI ((1 + prm p q))), .int (nI h), .ref 22] (σ) P
    refine er_isubN d_Mo_pass_61 (by omega) ?_
    refine er_putf d_Mo_pass_62 p_Mo_pass_179 hO (Nat.le_of_ble_eq_true rfl) jl_fit_int ?_
    show jl_E l G m_Mo_pass (0, 0) 65 [some (.ref 22), some (.int (nI m)), some (.int (nI pc)), some (.int (nI 14)), some (.int (nI n)), some (.int (en (topO r h)))] [] (σ.set (22) (.inr (7, [.int (fa), .ref 23, .ref 24, .ref 25, .ref 26, .ref 27, .ref 28, .ref 29, .ref 30, .ref 31, .ref 32, .ref 33, .ref 34, .ref 35, .ref 36, .ref 37, .int (vf), .int (wh), .int (wy), .ref 38, .ref 39, .ref 40, .ref 41, .int (nI ((h) - ((1 + prm p q)))), .ref 42, .ref 43, .ref 44, .ref 45, .ref 46, .ref 47, .ref 48, .ref 49, .int (dp), .ref 50, .ref 51, .ref 52, .int (md), .int (ov), .int (oh), .int (dn), .int (an)]))) P
    refine er_iload_n d_Mo_pass_65 rfl ?_
    refine er_iconst ((nI (2))) d_Mo_pass_66 (by decide) ?_
    refine er_icmp_ne 79 d_Mo_pass_67 (by decide) (fun _ => ?_) (fun z => absurd z (by decide))
    refine er_iload_n d_Mo_pass_79 rfl ?_
    refine er_iconst ((nI (1))) d_Mo_pass_80 (by decide) ?_
    refine er_icmp_ne 98 d_Mo_pass_81 (by decide) (fun _ => ?_) (fun z => absurd z (by decide))
    refine er_iload_n d_Mo_pass_98 rfl ?_
    refine er_bipush ((nI (10))) d_Mo_pass_99 (by decide) ?_
    refine er_icmp_ne 112 d_Mo_pass_101 (by decide) (fun _ => ?_) (fun z => absurd z (by decide))
    refine er_iload_n d_Mo_pass_112 rfl ?_
    refine er_bipush ((nI (11))) d_Mo_pass_113 (by decide) ?_
    refine er_icmp_eq 124 d_Mo_pass_115 (by decide) (fun z => absurd z (by decide)) (fun _ => ?_)
    refine er_iload_n d_Mo_pass_118 rfl ?_
    refine er_bipush ((nI (15))) d_Mo_pass_119 (by decide) ?_
    refine er_icmp_ne 136 d_Mo_pass_121 (by decide) (fun _ => ?_) (fun z => absurd z (by decide))
    refine er_iload_n d_Mo_pass_136 rfl ?_
    refine er_bipush ((nI (12))) d_Mo_pass_137 (by decide) ?_
    refine er_icmp_ne 163 d_Mo_pass_139 (by decide) (fun _ => ?_) (fun z => absurd z (by decide))
    refine er_iload_n d_Mo_pass_163 rfl ?_
    refine er_bipush ((nI (14))) d_Mo_pass_164 (by decide) ?_
    refine er_icmp_ne 193 d_Mo_pass_166 (by decide) (fun z => absurd rfl z) (fun _ => ?_)
    refine er_aload_n d_Mo_pass_169 rfl ?_
    refine er_aload_n d_Mo_pass_170 rfl ?_
    refine er_getf d_Mo_pass_171 f_Mo_pass_32 (jl_ss hO) rfl ?_
    refine er_aload_n d_Mo_pass_174 rfl ?_
    refine er_iload d_Mo_pass_175 rfl ?_
    refine er_iconst ((nI (4))) d_Mo_pass_177 (by decide) ?_
    refine er_idivN d_Mo_pass_178 (by omega) (by omega) (by omega) ?_
    refine er_iload d_Mo_pass_179 rfl ?_
    refine er_iconst ((nI (4))) d_Mo_pass_181 (by decide) ?_
    refine er_iremN d_Mo_pass_182 (by omega) (by omega) (by omega) ?_
    refine er_callV (As := [.int (nI ((n) / (4))), .int (nI ((n) % (4)))]) d_Mo_pass_183 k_Mo_pass_157 (jl_ss hO) rfl rfl rfl (Nat.le_of_ble_eq_true rfl) (by decide) (by decide) (jl_meq (o' := .inl (some (.int (nI c)))) (by rw [hmo]; rfl) (mo_methodOf (x := some (n / 4)) hl (hmb.s22).1 (hmb.s22).2.1 (by omega) hok.dsc (ob_s hk))) ?_
    show jl_E l G m_Mo_pass (0, 0) 186 [some (.ref 22), some (.int (nI m)), some (.int (nI pc)), some (.int (nI 14)), some (.int (nI n)), some (.int (en (topO r h)))] [.int (nI c), .ref 30, .ref 22] (σ.set (22) (.inr (7, [.int (fa), .ref 23, .ref 24, .ref 25, .ref 26, .ref 27, .ref 28, .ref 29, .ref 30, .ref 31, .ref 32, .ref 33, .ref 34, .ref 35, .ref 36, .ref 37, .int (vf), .int (wh), .int (wy), .ref 38, .ref 39, .ref 40, .ref 41, .int (nI ((h) - ((1 + prm p q)))), .ref 42, .ref 43, .ref 44, .ref 45, .ref 46, .ref 47, .ref 48, .ref 49, .int (dp), .ref 50, .ref 51, .ref 52, .int (md), .int (ov), .int (oh), .int (dn), .int (an)]))) P
    refine er_ialdN d_Mo_pass_186 (jl_sn (by decide) h30) (by omega) (by omega) ?_
    refine er_callV (As := [.int (nI (ur (c)))]) d_Mo_pass_187 k_Mo_pass_192 (jl_ss hO) rfl rfl rfl (Nat.le_of_ble_eq_true rfl) (by decide) (by decide) (mo_push (h := (h) - ((1 + prm p q))) (t := (some (ur c))) hl (hmb.s22).1 (hmb.s22).2.2.2.1.2 (by omega)) ?_
    show jl_E l G m_Mo_pass (0, 0) 190 [some (.ref 22), some (.int (nI m)), some (.int (nI pc)), some (.int (nI 14)), some (.int (nI n)), some (.int (en (topO r h)))] [] (((σ.set (22) (.inr (7, [.int (fa), .ref 23, .ref 24, .ref 25, .ref 26, .ref 27, .ref 28, .ref 29, .ref 30, .ref 31, .ref 32, .ref 33, .ref 34, .ref 35, .ref 36, .ref 37, .int (vf), .int (wh), .int (wy), .ref 38, .ref 39, .ref 40, .ref 41, .int (nI ((h) - ((1 + prm p q)))), .ref 42, .ref 43, .ref 44, .ref 45, .ref 46, .ref 47, .ref 48, .ref 49, .int (dp), .ref 50, .ref 51, .ref 52, .int (md), .int (ov), .int (oh), .int (dn), .int (an)]))).set (41) (.inl (0, 8, .inl (fun j => en ((va_up sk ((h) - ((1 + prm p q))) (some (ur c))) j))))).set (22) (.inr (7, [.int (fa), .ref 23, .ref 24, .ref 25, .ref 26, .ref 27, .ref 28, .ref 29, .ref 30, .ref 31, .ref 32, .ref 33, .ref 34, .ref 35, .ref 36, .ref 37, .int (vf), .int (wh), .int (wy), .ref 38, .ref 39, .ref 40, .ref 41, .int (nI ((h) - ((1 + prm p q)) + 1)), .ref 42, .ref 43, .ref 44, .ref 45, .ref 46, .ref 47, .ref 48, .ref 49, .int (dp), .ref 50, .ref 51, .ref 52, .int (md), .int (ov), .int (oh), .int (dn), .int (an)]))) P
    refine er_goto 242 d_Mo_pass_190 (by decide) ?_
    exact er_vret d_Mo_pass_242 rfl (hT _ _ _ (hrl.low htk).psh hlo (ob_up hsk (ob_s hrc)) (hmb.s22.s41.s22) (((FrM.refl.set (by omega)).set (by omega)).set (by omega))) (by decide) (by decide)
  · refine er_aload_n d_Mo_pass_32 rfl ?_
    refine er_getf d_Mo_pass_33 f_Mo_pass_72 hO rfl ?_
    refine er_aload_n d_Mo_pass_36 rfl ?_
    refine er_getf d_Mo_pass_37 f_Mo_pass_179 hO rfl ?_
    refine er_iconst ((nI (1))) d_Mo_pass_40 (by decide) ?_
    refine er_isubN d_Mo_pass_41 (by omega) ?_
    refine er_ialdQ (v := (en (topO r h))) d_Mo_pass_42 r2 (by omega) (by omega) (congrArg en (show sk (h - 1) = topO r h by unfold topO; rw [if_neg (by omega), hrl.2 (h - 1) (by omega)]; congr 1; omega)) ?_
    refine er_goto 47 d_Mo_pass_43 (by decide) ?_
    refine er_istore d_Mo_pass_47 (by decide) ?_
    show jl_E l G m_Mo_pass (0, 0) 49 [some (.ref 22), some (.int (nI m)), some (.int (nI pc)), some (.int (nI 14)), some (.int (nI n)), some (.int (en (topO r h)))] [] (σ) P
    refine er_aload_n d_Mo_pass_49 rfl ?_
    refine er_dup d_Mo_pass_50 rfl ?_
    refine er_getf d_Mo_pass_51 f_Mo_pass_179 hO rfl ?_
    refine er_aload_n d_Mo_pass_54 rfl ?_
    refine er_iload_n d_Mo_pass_55 rfl ?_
    refine er_iload d_Mo_pass_56 rfl ?_
    refine er_callV (As := [.int (nI 14), .int (nI n)]) d_Mo_pass_58 k_Mo_pass_176 hO rfl rfl rfl (Nat.le_of_ble_eq_true rfl) (by decide) (by decide) (mo_tk_14 hl hO hw hu hok hn hk hmo hc e1 e2 hp hq) ?_
    show jl_E l G m_Mo_pass (0, 0) 61 [some (.ref 22), some (.int (nI m)), some (.int (nI pc)), some (.int (nI 14)), some (.int (nI n)), some (.int (en (topO r h)))] [.int (nI ((1 + prm p q))), .int (nI h), .ref 22] (σ) P
    refine er_isubN d_Mo_pass_61 (by omega) ?_
    refine er_putf d_Mo_pass_62 p_Mo_pass_179 hO (Nat.le_of_ble_eq_true rfl) jl_fit_int ?_
    show jl_E l G m_Mo_pass (0, 0) 65 [some (.ref 22), some (.int (nI m)), some (.int (nI pc)), some (.int (nI 14)), some (.int (nI n)), some (.int (en (topO r h)))] [] (σ.set (22) (.inr (7, [.int (fa), .ref 23, .ref 24, .ref 25, .ref 26, .ref 27, .ref 28, .ref 29, .ref 30, .ref 31, .ref 32, .ref 33, .ref 34, .ref 35, .ref 36, .ref 37, .int (vf), .int (wh), .int (wy), .ref 38, .ref 39, .ref 40, .ref 41, .int (nI ((h) - ((1 + prm p q)))), .ref 42, .ref 43, .ref 44, .ref 45, .ref 46, .ref 47, .ref 48, .ref 49, .int (dp), .ref 50, .ref 51, .ref 52, .int (md), .int (ov), .int (oh), .int (dn), .int (an)]))) P
    refine er_iload_n d_Mo_pass_65 rfl ?_
    refine er_iconst ((nI (2))) d_Mo_pass_66 (by decide) ?_
    refine er_icmp_ne 79 d_Mo_pass_67 (by decide) (fun _ => ?_) (fun z => absurd z (by decide))
    refine er_iload_n d_Mo_pass_79 rfl ?_
    refine er_iconst ((nI (1))) d_Mo_pass_80 (by decide) ?_
    refine er_icmp_ne 98 d_Mo_pass_81 (by decide) (fun _ => ?_) (fun z => absurd z (by decide))
    refine er_iload_n d_Mo_pass_98 rfl ?_
    refine er_bipush ((nI (10))) d_Mo_pass_99 (by decide) ?_
    refine er_icmp_ne 112 d_Mo_pass_101 (by decide) (fun _ => ?_) (fun z => absurd z (by decide))
    refine er_iload_n d_Mo_pass_112 rfl ?_
    refine er_bipush ((nI (11))) d_Mo_pass_113 (by decide) ?_
    refine er_icmp_eq 124 d_Mo_pass_115 (by decide) (fun z => absurd z (by decide)) (fun _ => ?_)
    refine er_iload_n d_Mo_pass_118 rfl ?_
    refine er_bipush ((nI (15))) d_Mo_pass_119 (by decide) ?_
    refine er_icmp_ne 136 d_Mo_pass_121 (by decide) (fun _ => ?_) (fun z => absurd z (by decide))
    refine er_iload_n d_Mo_pass_136 rfl ?_
    refine er_bipush ((nI (12))) d_Mo_pass_137 (by decide) ?_
    refine er_icmp_ne 163 d_Mo_pass_139 (by decide) (fun _ => ?_) (fun z => absurd z (by decide))
    refine er_iload_n d_Mo_pass_163 rfl ?_
    refine er_bipush ((nI (14))) d_Mo_pass_164 (by decide) ?_
    refine er_icmp_ne 193 d_Mo_pass_166 (by decide) (fun z => absurd rfl z) (fun _ => ?_)
    refine er_aload_n d_Mo_pass_169 rfl ?_
    refine er_aload_n d_Mo_pass_170 rfl ?_
    refine er_getf d_Mo_pass_171 f_Mo_pass_32 (jl_ss hO) rfl ?_
    refine er_aload_n d_Mo_pass_174 rfl ?_
    refine er_iload d_Mo_pass_175 rfl ?_
    refine er_iconst ((nI (4))) d_Mo_pass_177 (by decide) ?_
    refine er_idivN d_Mo_pass_178 (by omega) (by omega) (by omega) ?_
    refine er_iload d_Mo_pass_179 rfl ?_
    refine er_iconst ((nI (4))) d_Mo_pass_181 (by decide) ?_
    refine er_iremN d_Mo_pass_182 (by omega) (by omega) (by omega) ?_
    refine er_callV (As := [.int (nI ((n) / (4))), .int (nI ((n) % (4)))]) d_Mo_pass_183 k_Mo_pass_157 (jl_ss hO) rfl rfl rfl (Nat.le_of_ble_eq_true rfl) (by decide) (by decide) (jl_meq (o' := .inl (some (.int (nI c)))) (by rw [hmo]; rfl) (mo_methodOf (x := some (n / 4)) hl (hmb.s22).1 (hmb.s22).2.1 (by omega) hok.dsc (ob_s hk))) ?_
    show jl_E l G m_Mo_pass (0, 0) 186 [some (.ref 22), some (.int (nI m)), some (.int (nI pc)), some (.int (nI 14)), some (.int (nI n)), some (.int (en (topO r h)))] [.int (nI c), .ref 30, .ref 22] (σ.set (22) (.inr (7, [.int (fa), .ref 23, .ref 24, .ref 25, .ref 26, .ref 27, .ref 28, .ref 29, .ref 30, .ref 31, .ref 32, .ref 33, .ref 34, .ref 35, .ref 36, .ref 37, .int (vf), .int (wh), .int (wy), .ref 38, .ref 39, .ref 40, .ref 41, .int (nI ((h) - ((1 + prm p q)))), .ref 42, .ref 43, .ref 44, .ref 45, .ref 46, .ref 47, .ref 48, .ref 49, .int (dp), .ref 50, .ref 51, .ref 52, .int (md), .int (ov), .int (oh), .int (dn), .int (an)]))) P
    refine er_ialdN d_Mo_pass_186 (jl_sn (by decide) h30) (by omega) (by omega) ?_
    refine er_callV (As := [.int (nI (ur (c)))]) d_Mo_pass_187 k_Mo_pass_192 (jl_ss hO) rfl rfl rfl (Nat.le_of_ble_eq_true rfl) (by decide) (by decide) (mo_push (h := (h) - ((1 + prm p q))) (t := (some (ur c))) hl (hmb.s22).1 (hmb.s22).2.2.2.1.2 (by omega)) ?_
    show jl_E l G m_Mo_pass (0, 0) 190 [some (.ref 22), some (.int (nI m)), some (.int (nI pc)), some (.int (nI 14)), some (.int (nI n)), some (.int (en (topO r h)))] [] (((σ.set (22) (.inr (7, [.int (fa), .ref 23, .ref 24, .ref 25, .ref 26, .ref 27, .ref 28, .ref 29, .ref 30, .ref 31, .ref 32, .ref 33, .ref 34, .ref 35, .ref 36, .ref 37, .int (vf), .int (wh), .int (wy), .ref 38, .ref 39, .ref 40, .ref 41, .int (nI ((h) - ((1 + prm p q)))), .ref 42, .ref 43, .ref 44, .ref 45, .ref 46, .ref 47, .ref 48, .ref 49, .int (dp), .ref 50, .ref 51, .ref 52, .int (md), .int (ov), .int (oh), .int (dn), .int (an)]))).set (41) (.inl (0, 8, .inl (fun j => en ((va_up sk ((h) - ((1 + prm p q))) (some (ur c))) j))))).set (22) (.inr (7, [.int (fa), .ref 23, .ref 24, .ref 25, .ref 26, .ref 27, .ref 28, .ref 29, .ref 30, .ref 31, .ref 32, .ref 33, .ref 34, .ref 35, .ref 36, .ref 37, .int (vf), .int (wh), .int (wy), .ref 38, .ref 39, .ref 40, .ref 41, .int (nI ((h) - ((1 + prm p q)) + 1)), .ref 42, .ref 43, .ref 44, .ref 45, .ref 46, .ref 47, .ref 48, .ref 49, .int (dp), .ref 50, .ref 51, .ref 52, .int (md), .int (ov), .int (oh), .int (dn), .int (an)]))) P
    refine er_goto 242 d_Mo_pass_190 (by decide) ?_
    exact er_vret d_Mo_pass_242 rfl (hT _ _ _ (hrl.low htk).psh hlo (ob_up hsk (ob_s hrc)) (hmb.s22.s41.s22) (((FrM.refl.set (by omega)).set (by omega)).set (by omega))) (by decide) (by decide)
theorem mo_pass_15 (hl : l.stackTraces = false) {P : jl_O → jl_S → Prop} {m pc h : Nat} {r : Rw} {n : Nat} (hmb : MB σ tb pr ow ft hs u1 u2 ur ul uo ua uc us ut uk fa vf wh wy (nI h) dp md ov oh dn an lo sk kp mm fm) (hok : WoOk tb pr ow fi) (hK : MoK u1 u2 ur ul uo uc us ut uk) (hm : m < 24) (hpc : pc < 24) (ho : uo (24 * m + pc) = 15) (hx : ua (24 * m + pc) = nI n) (hrl : RlM r lo sk h) (hrv : rv r h) (hlo : ∀ j, ob 16 (lo j)) (hsk : ∀ j, ob 16 (sk j)) (htk : 1 ≤ h) (hp5 : h - 1 + 1 ≤ 5) (hn : n < 6) (hT : ∀ lo' sk' σ', RlM (psh (low r h 1) (h - 1) (some (10 + n))) lo' sk' (h - 1 + 1) → (∀ j, ob 16 (lo' j)) → (∀ j, ob 16 (sk' j)) → MB σ' tb pr ow ft hs u1 u2 ur ul uo ua uc us ut uk fa vf wh wy (nI (h - 1 + 1)) dp md ov oh dn an lo' sk' kp mm fm → FrM σ σ' → P (.inl none) σ') : jl_mE l G m_Mo_pass [.ref 22, .int (nI m), .int (nI pc)] σ P := by
  obtain ⟨hO, hw, hu, hr, hkp, hmp, hfm⟩ := id hmb; obtain ⟨r1, r2⟩ := id hr
  obtain ⟨h23, h24, h25, h26, h27⟩ := id hw
  obtain ⟨h28, h29, h30, h31, h32, h33, h34, h35, h36, h37⟩ := id hu
  obtain ⟨hk1, hk2, hk3, hk4, hk5, hk6⟩ := hK.1 m hm
  have hh5 := hrv.2.1
  refine jl_ofE (as := [.ref 22, .int (nI m), .int (nI pc)]) rfl (by decide) hl (jl_cc rfl (jl_cc rfl (jl_cc rfl jl_ca))) (Nat.le_of_ble_eq_true rfl) ?_
  show jl_E l G m_Mo_pass (0, 0) 0 [some (.ref 22), some (.int (nI m)), some (.int (nI pc)), none, none, none] [] (σ) P
  refine er_aload_n d_Mo_pass_0 rfl ?_
  refine er_getf d_Mo_pass_1 f_Mo_pass_38 hO rfl ?_
  refine er_bipush ((nI (24))) d_Mo_pass_4 (by decide) ?_
  refine er_iload_n d_Mo_pass_6 rfl ?_
  refine er_imulN d_Mo_pass_7 ?_
  refine er_iload_n d_Mo_pass_8 rfl ?_
  refine er_iaddN d_Mo_pass_9 ?_
  refine er_ialdQ (v := (nI (15))) d_Mo_pass_10 h32 (by omega) (by omega) (congrArg nI ho) ?_
  refine er_istore_n d_Mo_pass_11 (by decide) ?_
  show jl_E l G m_Mo_pass (0, 0) 12 [some (.ref 22), some (.int (nI m)), some (.int (nI pc)), some (.int (nI 15)), none, none] [] (σ) P
  refine er_aload_n d_Mo_pass_12 rfl ?_
  refine er_getf d_Mo_pass_13 f_Mo_pass_41 hO rfl ?_
  refine er_bipush ((nI (24))) d_Mo_pass_16 (by decide) ?_
  refine er_iload_n d_Mo_pass_18 rfl ?_
  refine er_imulN d_Mo_pass_19 ?_
  refine er_iload_n d_Mo_pass_20 rfl ?_
  refine er_iaddN d_Mo_pass_21 ?_
  refine er_ialdQ (v := (nI (n))) d_Mo_pass_22 h33 (by omega) (by omega) (hx) ?_
  refine er_istore d_Mo_pass_23 (by decide) ?_
  show jl_E l G m_Mo_pass (0, 0) 25 [some (.ref 22), some (.int (nI m)), some (.int (nI pc)), some (.int (nI 15)), some (.int (nI n)), none] [] (σ) P
  refine er_aload_n d_Mo_pass_25 rfl ?_
  refine er_getf d_Mo_pass_26 f_Mo_pass_179 hO rfl ?_
  refine er_if_leN 46 d_Mo_pass_29 (by decide) (by omega) (fun c1 => ?_) (fun c1 => ?_)
  · refine er_iconst ((-1)) d_Mo_pass_46 (by decide) ?_
    refine er_istore d_Mo_pass_47 (by decide) ?_
    show jl_E l G m_Mo_pass (0, 0) 49 [some (.ref 22), some (.int (nI m)), some (.int (nI pc)), some (.int (nI 15)), some (.int (nI n)), some (.int (-1))] [] (σ) P
    have htp : topO r h = none := by unfold topO; rw [if_pos (by omega)]
    rw [show (-1 : Int32) = en (topO r h) by rw [htp]; rfl]
    show jl_E l G m_Mo_pass (0, 0) 49 [some (.ref 22), some (.int (nI m)), some (.int (nI pc)), some (.int (nI 15)), some (.int (nI n)), some (.int (en (topO r h)))] [] (σ) P
    refine er_aload_n d_Mo_pass_49 rfl ?_
    refine er_dup d_Mo_pass_50 rfl ?_
    refine er_getf d_Mo_pass_51 f_Mo_pass_179 hO rfl ?_
    refine er_aload_n d_Mo_pass_54 rfl ?_
    refine er_iload_n d_Mo_pass_55 rfl ?_
    refine er_iload d_Mo_pass_56 rfl ?_
    refine er_callV (As := [.int (nI 15), .int (nI n)]) d_Mo_pass_58 k_Mo_pass_176 hO rfl rfl rfl (Nat.le_of_ble_eq_true rfl) (by decide) (by decide) (mo_tk_15 hl hO hw hu) ?_
    show jl_E l G m_Mo_pass (0, 0) 61 [some (.ref 22), some (.int (nI m)), some (.int (nI pc)), some (.int (nI 15)), some (.int (nI n)), some (.int (en (topO r h)))] [.int (nI 1), .int (nI h), .ref 22] (σ) P
    refine er_isubN d_Mo_pass_61 (by omega) ?_
    refine er_putf d_Mo_pass_62 p_Mo_pass_179 hO (Nat.le_of_ble_eq_true rfl) jl_fit_int ?_
    show jl_E l G m_Mo_pass (0, 0) 65 [some (.ref 22), some (.int (nI m)), some (.int (nI pc)), some (.int (nI 15)), some (.int (nI n)), some (.int (en (topO r h)))] [] (σ.set (22) (.inr (7, [.int (fa), .ref 23, .ref 24, .ref 25, .ref 26, .ref 27, .ref 28, .ref 29, .ref 30, .ref 31, .ref 32, .ref 33, .ref 34, .ref 35, .ref 36, .ref 37, .int (vf), .int (wh), .int (wy), .ref 38, .ref 39, .ref 40, .ref 41, .int (nI ((h) - (1))), .ref 42, .ref 43, .ref 44, .ref 45, .ref 46, .ref 47, .ref 48, .ref 49, .int (dp), .ref 50, .ref 51, .ref 52, .int (md), .int (ov), .int (oh), .int (dn), .int (an)]))) P
    refine er_iload_n d_Mo_pass_65 rfl ?_
    refine er_iconst ((nI (2))) d_Mo_pass_66 (by decide) ?_
    refine er_icmp_ne 79 d_Mo_pass_67 (by decide) (fun _ => ?_) (fun z => absurd z (by decide))
    refine er_iload_n d_Mo_pass_79 rfl ?_
    refine er_iconst ((nI (1))) d_Mo_pass_80 (by decide) ?_
    refine er_icmp_ne 98 d_Mo_pass_81 (by decide) (fun _ => ?_) (fun z => absurd z (by decide))
    refine er_iload_n d_Mo_pass_98 rfl ?_
    refine er_bipush ((nI (10))) d_Mo_pass_99 (by decide) ?_
    refine er_icmp_ne 112 d_Mo_pass_101 (by decide) (fun _ => ?_) (fun z => absurd z (by decide))
    refine er_iload_n d_Mo_pass_112 rfl ?_
    refine er_bipush ((nI (11))) d_Mo_pass_113 (by decide) ?_
    refine er_icmp_eq 124 d_Mo_pass_115 (by decide) (fun z => absurd z (by decide)) (fun _ => ?_)
    refine er_iload_n d_Mo_pass_118 rfl ?_
    refine er_bipush ((nI (15))) d_Mo_pass_119 (by decide) ?_
    refine er_icmp_ne 136 d_Mo_pass_121 (by decide) (fun z => absurd rfl z) (fun _ => ?_)
    refine er_aload_n d_Mo_pass_124 rfl ?_
    refine er_bipush ((nI (10))) d_Mo_pass_125 (by decide) ?_
    refine er_iload d_Mo_pass_127 rfl ?_
    refine er_iaddN d_Mo_pass_129 ?_
    refine er_callV (As := [.int (nI ((10) + (n)))]) d_Mo_pass_130 k_Mo_pass_192 (jl_ss hO) rfl rfl rfl (Nat.le_of_ble_eq_true rfl) (by decide) (by decide) (mo_push (h := (h) - (1)) (t := (some (10 + n))) hl (hmb.s22).1 (hmb.s22).2.2.2.1.2 (by omega)) ?_
    show jl_E l G m_Mo_pass (0, 0) 133 [some (.ref 22), some (.int (nI m)), some (.int (nI pc)), some (.int (nI 15)), some (.int (nI n)), some (.int (en (topO r h)))] [] (((σ.set (22) (.inr (7, [.int (fa), .ref 23, .ref 24, .ref 25, .ref 26, .ref 27, .ref 28, .ref 29, .ref 30, .ref 31, .ref 32, .ref 33, .ref 34, .ref 35, .ref 36, .ref 37, .int (vf), .int (wh), .int (wy), .ref 38, .ref 39, .ref 40, .ref 41, .int (nI ((h) - (1))), .ref 42, .ref 43, .ref 44, .ref 45, .ref 46, .ref 47, .ref 48, .ref 49, .int (dp), .ref 50, .ref 51, .ref 52, .int (md), .int (ov), .int (oh), .int (dn), .int (an)]))).set (41) (.inl (0, 8, .inl (fun j => en ((va_up sk ((h) - (1)) (some (10 + n))) j))))).set (22) (.inr (7, [.int (fa), .ref 23, .ref 24, .ref 25, .ref 26, .ref 27, .ref 28, .ref 29, .ref 30, .ref 31, .ref 32, .ref 33, .ref 34, .ref 35, .ref 36, .ref 37, .int (vf), .int (wh), .int (wy), .ref 38, .ref 39, .ref 40, .ref 41, .int (nI ((h) - (1) + 1)), .ref 42, .ref 43, .ref 44, .ref 45, .ref 46, .ref 47, .ref 48, .ref 49, .int (dp), .ref 50, .ref 51, .ref 52, .int (md), .int (ov), .int (oh), .int (dn), .int (an)]))) P
    refine er_goto 242 d_Mo_pass_133 (by decide) ?_
    exact er_vret d_Mo_pass_242 rfl (hT _ _ _ (hrl.low htk).psh hlo (ob_up hsk (ob_s (by omega))) (hmb.s22.s41.s22) (((FrM.refl.set (by omega)).set (by omega)).set (by omega))) (by decide) (by decide)
  · refine er_aload_n d_Mo_pass_32 rfl ?_
    refine er_getf d_Mo_pass_33 f_Mo_pass_72 hO rfl ?_
    refine er_aload_n d_Mo_pass_36 rfl ?_
    refine er_getf d_Mo_pass_37 f_Mo_pass_179 hO rfl ?_
    refine er_iconst ((nI (1))) d_Mo_pass_40 (by decide) ?_
    refine er_isubN d_Mo_pass_41 (by omega) ?_
    refine er_ialdQ (v := (en (topO r h))) d_Mo_pass_42 r2 (by omega) (by omega) (congrArg en (show sk (h - 1) = topO r h by unfold topO; rw [if_neg (by omega), hrl.2 (h - 1) (by omega)]; congr 1; omega)) ?_
    refine er_goto 47 d_Mo_pass_43 (by decide) ?_
    refine er_istore d_Mo_pass_47 (by decide) ?_
    show jl_E l G m_Mo_pass (0, 0) 49 [some (.ref 22), some (.int (nI m)), some (.int (nI pc)), some (.int (nI 15)), some (.int (nI n)), some (.int (en (topO r h)))] [] (σ) P
    refine er_aload_n d_Mo_pass_49 rfl ?_
    refine er_dup d_Mo_pass_50 rfl ?_
    refine er_getf d_Mo_pass_51 f_Mo_pass_179 hO rfl ?_
    refine er_aload_n d_Mo_pass_54 rfl ?_
    refine er_iload_n d_Mo_pass_55 rfl ?_
    refine er_iload d_Mo_pass_56 rfl ?_
    refine er_callV (As := [.int (nI 15), .int (nI n)]) d_Mo_pass_58 k_Mo_pass_176 hO rfl rfl rfl (Nat.le_of_ble_eq_true rfl) (by decide) (by decide) (mo_tk_15 hl hO hw hu) ?_
    show jl_E l G m_Mo_pass (0, 0) 61 [some (.ref 22), some (.int (nI m)), some (.int (nI pc)), some (.int (nI 15)), some (.int (nI n)), some (.int (en (topO r h)))] [.int (nI 1), .int (nI h), .ref 22] (σ) P
    refine er_isubN d_Mo_pass_61 (by omega) ?_
    refine er_putf d_Mo_pass_62 p_Mo_pass_179 hO (Nat.le_of_ble_eq_true rfl) jl_fit_int ?_
    show jl_E l G m_Mo_pass (0, 0) 65 [some (.ref 22), some (.int (nI m)), some (.int (nI pc)), some (.int (nI 15)), some (.int (nI n)), some (.int (en (topO r h)))] [] (σ.set (22) (.inr (7, [.int (fa), .ref 23, .ref 24, .ref 25, .ref 26, .ref 27, .ref 28, .ref 29, .ref 30, .ref 31, .ref 32, .ref 33, .ref 34, .ref 35, .ref 36, .ref 37, .int (vf), .int (wh), .int (wy), .ref 38, .ref 39, .ref 40, .ref 41, .int (nI ((h) - (1))), .ref 42, .ref 43, .ref 44, .ref 45, .ref 46, .ref 47, .ref 48, .ref 49, .int (dp), .ref 50, .ref 51, .ref 52, .int (md), .int (ov), .int (oh), .int (dn), .int (an)]))) P
    refine er_iload_n d_Mo_pass_65 rfl ?_
    refine er_iconst ((nI (2))) d_Mo_pass_66 (by decide) ?_
    refine er_icmp_ne 79 d_Mo_pass_67 (by decide) (fun _ => ?_) (fun z => absurd z (by decide))
    refine er_iload_n d_Mo_pass_79 rfl ?_
    refine er_iconst ((nI (1))) d_Mo_pass_80 (by decide) ?_
    refine er_icmp_ne 98 d_Mo_pass_81 (by decide) (fun _ => ?_) (fun z => absurd z (by decide))
    refine er_iload_n d_Mo_pass_98 rfl ?_
    refine er_bipush ((nI (10))) d_Mo_pass_99 (by decide) ?_
    refine er_icmp_ne 112 d_Mo_pass_101 (by decide) (fun _ => ?_) (fun z => absurd z (by decide))
    refine er_iload_n d_Mo_pass_112 rfl ?_
    refine er_bipush ((nI (11))) d_Mo_pass_113 (by decide) ?_
    refine er_icmp_eq 124 d_Mo_pass_115 (by decide) (fun z => absurd z (by decide)) (fun _ => ?_)
    refine er_iload_n d_Mo_pass_118 rfl ?_
    refine er_bipush ((nI (15))) d_Mo_pass_119 (by decide) ?_
    refine er_icmp_ne 136 d_Mo_pass_121 (by decide) (fun z => absurd rfl z) (fun _ => ?_)
    refine er_aload_n d_Mo_pass_124 rfl ?_
    refine er_bipush ((nI (10))) d_Mo_pass_125 (by decide) ?_
    refine er_iload d_Mo_pass_127 rfl ?_
    refine er_iaddN d_Mo_pass_129 ?_
    refine er_callV (As := [.int (nI ((10) + (n)))]) d_Mo_pass_130 k_Mo_pass_192 (jl_ss hO) rfl rfl rfl (Nat.le_of_ble_eq_true rfl) (by decide) (by decide) (mo_push (h := (h) - (1)) (t := (some (10 + n))) hl (hmb.s22).1 (hmb.s22).2.2.2.1.2 (by omega)) ?_
    show jl_E l G m_Mo_pass (0, 0) 133 [some (.ref 22), some (.int (nI m)), some (.int (nI pc)), some (.int (nI 15)), some (.int (nI n)), some (.int (en (topO r h)))] [] (((σ.set (22) (.inr (7, [.int (fa), .ref 23, .ref 24, .ref 25, .ref 26, .ref 27, .ref 28, .ref 29, .ref 30, .ref 31, .ref 32, .ref 33, .ref 34, .ref 35, .ref 36, .ref 37, .int (vf), .int (wh), .int (wy), .ref 38, .ref 39, .ref 40, .ref 41, .int (nI ((h) - (1))), .ref 42, .ref 43, .ref 44, .ref 45, .ref 46, .ref 47, .ref 48, .ref 49, .int (dp), .ref 50, .ref 51, .ref 52, .int (md), .int (ov), .int (oh), .int (dn), .int (an)]))).set (41) (.inl (0, 8, .inl (fun j => en ((va_up sk ((h) - (1)) (some (10 + n))) j))))).set (22) (.inr (7, [.int (fa), .ref 23, .ref 24, .ref 25, .ref 26, .ref 27, .ref 28, .ref 29, .ref 30, .ref 31, .ref 32, .ref 33, .ref 34, .ref 35, .ref 36, .ref 37, .int (vf), .int (wh), .int (wy), .ref 38, .ref 39, .ref 40, .ref 41, .int (nI ((h) - (1) + 1)), .ref 42, .ref 43, .ref 44, .ref 45, .ref 46, .ref 47, .ref 48, .ref 49, .int (dp), .ref 50, .ref 51, .ref 52, .int (md), .int (ov), .int (oh), .int (dn), .int (an)]))) P
    refine er_goto 242 d_Mo_pass_133 (by decide) ?_
    exact er_vret d_Mo_pass_242 rfl (hT _ _ _ (hrl.low htk).psh hlo (ob_up hsk (ob_s (by omega))) (hmb.s22.s41.s22) (((FrM.refl.set (by omega)).set (by omega)).set (by omega))) (by decide) (by decide)
theorem mo_pass_16 (hl : l.stackTraces = false) {P : jl_O → jl_S → Prop} {m pc h : Nat} {r : Rw} {x : Int32} (hmb : MB σ tb pr ow ft hs u1 u2 ur ul uo ua uc us ut uk fa vf wh wy (nI h) dp md ov oh dn an lo sk kp mm fm) (hok : WoOk tb pr ow fi) (hK : MoK u1 u2 ur ul uo uc us ut uk) (hm : m < 24) (hpc : pc < 24) (ho : uo (24 * m + pc) = 16) (hx : ua (24 * m + pc) = x) (hrl : RlM r lo sk h) (hrv : rv r h) (hlo : ∀ j, ob 16 (lo j)) (hsk : ∀ j, ob 16 (sk j)) (htk : 1 ≤ h) (hp5 : h - 1 + 0 ≤ 5) (hT : ∀ lo' sk' σ', RlM (low r h 1) lo' sk' (h - 1) → (∀ j, ob 16 (lo' j)) → (∀ j, ob 16 (sk' j)) → MB σ' tb pr ow ft hs u1 u2 ur ul uo ua uc us ut uk fa vf wh wy (nI (h - 1)) dp md ov oh dn an lo' sk' kp mm fm → FrM σ σ' → P (.inl none) σ') : jl_mE l G m_Mo_pass [.ref 22, .int (nI m), .int (nI pc)] σ P := by
  obtain ⟨hO, hw, hu, hr, hkp, hmp, hfm⟩ := id hmb; obtain ⟨r1, r2⟩ := id hr
  obtain ⟨h23, h24, h25, h26, h27⟩ := id hw
  obtain ⟨h28, h29, h30, h31, h32, h33, h34, h35, h36, h37⟩ := id hu
  obtain ⟨hk1, hk2, hk3, hk4, hk5, hk6⟩ := hK.1 m hm
  have hh5 := hrv.2.1
  refine jl_ofE (as := [.ref 22, .int (nI m), .int (nI pc)]) rfl (by decide) hl (jl_cc rfl (jl_cc rfl (jl_cc rfl jl_ca))) (Nat.le_of_ble_eq_true rfl) ?_
  show jl_E l G m_Mo_pass (0, 0) 0 [some (.ref 22), some (.int (nI m)), some (.int (nI pc)), none, none, none] [] (σ) P
  refine er_aload_n d_Mo_pass_0 rfl ?_
  refine er_getf d_Mo_pass_1 f_Mo_pass_38 hO rfl ?_
  refine er_bipush ((nI (24))) d_Mo_pass_4 (by decide) ?_
  refine er_iload_n d_Mo_pass_6 rfl ?_
  refine er_imulN d_Mo_pass_7 ?_
  refine er_iload_n d_Mo_pass_8 rfl ?_
  refine er_iaddN d_Mo_pass_9 ?_
  refine er_ialdQ (v := (nI (16))) d_Mo_pass_10 h32 (by omega) (by omega) (congrArg nI ho) ?_
  refine er_istore_n d_Mo_pass_11 (by decide) ?_
  show jl_E l G m_Mo_pass (0, 0) 12 [some (.ref 22), some (.int (nI m)), some (.int (nI pc)), some (.int (nI 16)), none, none] [] (σ) P
  refine er_aload_n d_Mo_pass_12 rfl ?_
  refine er_getf d_Mo_pass_13 f_Mo_pass_41 hO rfl ?_
  refine er_bipush ((nI (24))) d_Mo_pass_16 (by decide) ?_
  refine er_iload_n d_Mo_pass_18 rfl ?_
  refine er_imulN d_Mo_pass_19 ?_
  refine er_iload_n d_Mo_pass_20 rfl ?_
  refine er_iaddN d_Mo_pass_21 ?_
  refine er_ialdQ (v := (x)) d_Mo_pass_22 h33 (by omega) (by omega) (hx) ?_
  refine er_istore d_Mo_pass_23 (by decide) ?_
  show jl_E l G m_Mo_pass (0, 0) 25 [some (.ref 22), some (.int (nI m)), some (.int (nI pc)), some (.int (nI 16)), some (.int (x)), none] [] (σ) P
  refine er_aload_n d_Mo_pass_25 rfl ?_
  refine er_getf d_Mo_pass_26 f_Mo_pass_179 hO rfl ?_
  refine er_if_leN 46 d_Mo_pass_29 (by decide) (by omega) (fun c1 => ?_) (fun c1 => ?_)
  · refine er_iconst ((-1)) d_Mo_pass_46 (by decide) ?_
    refine er_istore d_Mo_pass_47 (by decide) ?_
    show jl_E l G m_Mo_pass (0, 0) 49 [some (.ref 22), some (.int (nI m)), some (.int (nI pc)), some (.int (nI 16)), some (.int (x)), some (.int (-1))] [] (σ) P
    have htp : topO r h = none := by unfold topO; rw [if_pos (by omega)]
    rw [show (-1 : Int32) = en (topO r h) by rw [htp]; rfl]
    show jl_E l G m_Mo_pass (0, 0) 49 [some (.ref 22), some (.int (nI m)), some (.int (nI pc)), some (.int (nI 16)), some (.int (x)), some (.int (en (topO r h)))] [] (σ) P
    refine er_aload_n d_Mo_pass_49 rfl ?_
    refine er_dup d_Mo_pass_50 rfl ?_
    refine er_getf d_Mo_pass_51 f_Mo_pass_179 hO rfl ?_
    refine er_aload_n d_Mo_pass_54 rfl ?_
    refine er_iload_n d_Mo_pass_55 rfl ?_
    refine er_iload d_Mo_pass_56 rfl ?_
    refine er_callV (As := [.int (nI 16), .int (x)]) d_Mo_pass_58 k_Mo_pass_176 hO rfl rfl rfl (Nat.le_of_ble_eq_true rfl) (by decide) (by decide) (mo_tk_16 hl hO hw hu) ?_
    show jl_E l G m_Mo_pass (0, 0) 61 [some (.ref 22), some (.int (nI m)), some (.int (nI pc)), some (.int (nI 16)), some (.int (x)), some (.int (en (topO r h)))] [.int (nI 1), .int (nI h), .ref 22] (σ) P
    refine er_isubN d_Mo_pass_61 (by omega) ?_
    refine er_putf d_Mo_pass_62 p_Mo_pass_179 hO (Nat.le_of_ble_eq_true rfl) jl_fit_int ?_
    show jl_E l G m_Mo_pass (0, 0) 65 [some (.ref 22), some (.int (nI m)), some (.int (nI pc)), some (.int (nI 16)), some (.int (x)), some (.int (en (topO r h)))] [] (σ.set (22) (.inr (7, [.int (fa), .ref 23, .ref 24, .ref 25, .ref 26, .ref 27, .ref 28, .ref 29, .ref 30, .ref 31, .ref 32, .ref 33, .ref 34, .ref 35, .ref 36, .ref 37, .int (vf), .int (wh), .int (wy), .ref 38, .ref 39, .ref 40, .ref 41, .int (nI ((h) - (1))), .ref 42, .ref 43, .ref 44, .ref 45, .ref 46, .ref 47, .ref 48, .ref 49, .int (dp), .ref 50, .ref 51, .ref 52, .int (md), .int (ov), .int (oh), .int (dn), .int (an)]))) P
    refine er_iload_n d_Mo_pass_65 rfl ?_
    refine er_iconst ((nI (2))) d_Mo_pass_66 (by decide) ?_
    refine er_icmp_ne 79 d_Mo_pass_67 (by decide) (fun _ => ?_) (fun z => absurd z (by decide))
    refine er_iload_n d_Mo_pass_79 rfl ?_
    refine er_iconst ((nI (1))) d_Mo_pass_80 (by decide) ?_
    refine er_icmp_ne 98 d_Mo_pass_81 (by decide) (fun _ => ?_) (fun z => absurd z (by decide))
    refine er_iload_n d_Mo_pass_98 rfl ?_
    refine er_bipush ((nI (10))) d_Mo_pass_99 (by decide) ?_
    refine er_icmp_ne 112 d_Mo_pass_101 (by decide) (fun _ => ?_) (fun z => absurd z (by decide))
    refine er_iload_n d_Mo_pass_112 rfl ?_
    refine er_bipush ((nI (11))) d_Mo_pass_113 (by decide) ?_
    refine er_icmp_eq 124 d_Mo_pass_115 (by decide) (fun z => absurd z (by decide)) (fun _ => ?_)
    refine er_iload_n d_Mo_pass_118 rfl ?_
    refine er_bipush ((nI (15))) d_Mo_pass_119 (by decide) ?_
    refine er_icmp_ne 136 d_Mo_pass_121 (by decide) (fun _ => ?_) (fun z => absurd z (by decide))
    refine er_iload_n d_Mo_pass_136 rfl ?_
    refine er_bipush ((nI (12))) d_Mo_pass_137 (by decide) ?_
    refine er_icmp_ne 163 d_Mo_pass_139 (by decide) (fun _ => ?_) (fun z => absurd z (by decide))
    refine er_iload_n d_Mo_pass_163 rfl ?_
    refine er_bipush ((nI (14))) d_Mo_pass_164 (by decide) ?_
    refine er_icmp_ne 193 d_Mo_pass_166 (by decide) (fun _ => ?_) (fun z => absurd z (by decide))
    refine er_iload_n d_Mo_pass_193 rfl ?_
    refine er_bipush ((nI (19))) d_Mo_pass_194 (by decide) ?_
    refine er_icmp_ne 207 d_Mo_pass_196 (by decide) (fun _ => ?_) (fun z => absurd z (by decide))
    refine er_iload_n d_Mo_pass_207 rfl ?_
    refine er_bipush ((nI (24))) d_Mo_pass_208 (by decide) ?_
    refine er_icmp_ne 228 d_Mo_pass_210 (by decide) (fun _ => ?_) (fun z => absurd z (by decide))
    refine er_aload_n d_Mo_pass_228 rfl ?_
    refine er_iload_n d_Mo_pass_229 rfl ?_
    refine er_callV (As := [.int (nI 16)]) d_Mo_pass_230 k_Mo_pass_182 (jl_ss hO) rfl rfl rfl (Nat.le_of_ble_eq_true rfl) (by decide) (by decide) (mo_puts hl (hmb.s22).1 (hmb.s22).2.1 (by omega)) ?_
    show jl_E l G m_Mo_pass (0, 0) 233 [some (.ref 22), some (.int (nI m)), some (.int (nI pc)), some (.int (nI 16)), some (.int (x)), some (.int (en (topO r h)))] [.int (nI 0)] (σ.set (22) (.inr (7, [.int (fa), .ref 23, .ref 24, .ref 25, .ref 26, .ref 27, .ref 28, .ref 29, .ref 30, .ref 31, .ref 32, .ref 33, .ref 34, .ref 35, .ref 36, .ref 37, .int (vf), .int (wh), .int (wy), .ref 38, .ref 39, .ref 40, .ref 41, .int (nI ((h) - (1))), .ref 42, .ref 43, .ref 44, .ref 45, .ref 46, .ref 47, .ref 48, .ref 49, .int (dp), .ref 50, .ref 51, .ref 52, .int (md), .int (ov), .int (oh), .int (dn), .int (an)]))) P
    refine er_iconst ((nI (1))) d_Mo_pass_233 (by decide) ?_
    refine er_icmp_ne 242 d_Mo_pass_234 (by decide) (fun _ => ?_) (fun z => absurd z (by decide))
    exact er_vret d_Mo_pass_242 rfl (hT _ _ _ (hrl.low htk) hlo hsk (hmb.s22) (FrM.refl.set (by omega))) (by decide) (by decide)
  · refine er_aload_n d_Mo_pass_32 rfl ?_
    refine er_getf d_Mo_pass_33 f_Mo_pass_72 hO rfl ?_
    refine er_aload_n d_Mo_pass_36 rfl ?_
    refine er_getf d_Mo_pass_37 f_Mo_pass_179 hO rfl ?_
    refine er_iconst ((nI (1))) d_Mo_pass_40 (by decide) ?_
    refine er_isubN d_Mo_pass_41 (by omega) ?_
    refine er_ialdQ (v := (en (topO r h))) d_Mo_pass_42 r2 (by omega) (by omega) (congrArg en (show sk (h - 1) = topO r h by unfold topO; rw [if_neg (by omega), hrl.2 (h - 1) (by omega)]; congr 1; omega)) ?_
    refine er_goto 47 d_Mo_pass_43 (by decide) ?_
    refine er_istore d_Mo_pass_47 (by decide) ?_
    show jl_E l G m_Mo_pass (0, 0) 49 [some (.ref 22), some (.int (nI m)), some (.int (nI pc)), some (.int (nI 16)), some (.int (x)), some (.int (en (topO r h)))] [] (σ) P
    refine er_aload_n d_Mo_pass_49 rfl ?_
    refine er_dup d_Mo_pass_50 rfl ?_
    refine er_getf d_Mo_pass_51 f_Mo_pass_179 hO rfl ?_
    refine er_aload_n d_Mo_pass_54 rfl ?_
    refine er_iload_n d_Mo_pass_55 rfl ?_
    refine er_iload d_Mo_pass_56 rfl ?_
    refine er_callV (As := [.int (nI 16), .int (x)]) d_Mo_pass_58 k_Mo_pass_176 hO rfl rfl rfl (Nat.le_of_ble_eq_true rfl) (by decide) (by decide) (mo_tk_16 hl hO hw hu) ?_
    show jl_E l G m_Mo_pass (0, 0) 61 [some (.ref 22), some (.int (nI m)), some (.int (nI pc)), some (.int (nI 16)), some (.int (x)), some (.int (en (topO r h)))] [.int (nI 1), .int (nI h), .ref 22] (σ) P
    refine er_isubN d_Mo_pass_61 (by omega) ?_
    refine er_putf d_Mo_pass_62 p_Mo_pass_179 hO (Nat.le_of_ble_eq_true rfl) jl_fit_int ?_
    show jl_E l G m_Mo_pass (0, 0) 65 [some (.ref 22), some (.int (nI m)), some (.int (nI pc)), some (.int (nI 16)), some (.int (x)), some (.int (en (topO r h)))] [] (σ.set (22) (.inr (7, [.int (fa), .ref 23, .ref 24, .ref 25, .ref 26, .ref 27, .ref 28, .ref 29, .ref 30, .ref 31, .ref 32, .ref 33, .ref 34, .ref 35, .ref 36, .ref 37, .int (vf), .int (wh), .int (wy), .ref 38, .ref 39, .ref 40, .ref 41, .int (nI ((h) - (1))), .ref 42, .ref 43, .ref 44, .ref 45, .ref 46, .ref 47, .ref 48, .ref 49, .int (dp), .ref 50, .ref 51, .ref 52, .int (md), .int (ov), .int (oh), .int (dn), .int (an)]))) P
    refine er_iload_n d_Mo_pass_65 rfl ?_
    refine er_iconst ((nI (2))) d_Mo_pass_66 (by decide) ?_
    refine er_icmp_ne 79 d_Mo_pass_67 (by decide) (fun _ => ?_) (fun z => absurd z (by decide))
    refine er_iload_n d_Mo_pass_79 rfl ?_
    refine er_iconst ((nI (1))) d_Mo_pass_80 (by decide) ?_
    refine er_icmp_ne 98 d_Mo_pass_81 (by decide) (fun _ => ?_) (fun z => absurd z (by decide))
    refine er_iload_n d_Mo_pass_98 rfl ?_
    refine er_bipush ((nI (10))) d_Mo_pass_99 (by decide) ?_
    refine er_icmp_ne 112 d_Mo_pass_101 (by decide) (fun _ => ?_) (fun z => absurd z (by decide))
    refine er_iload_n d_Mo_pass_112 rfl ?_
    refine er_bipush ((nI (11))) d_Mo_pass_113 (by decide) ?_
    refine er_icmp_eq 124 d_Mo_pass_115 (by decide) (fun z => absurd z (by decide)) (fun _ => ?_)
    refine er_iload_n d_Mo_pass_118 rfl ?_
    refine er_bipush ((nI (15))) d_Mo_pass_119 (by decide) ?_
    refine er_icmp_ne 136 d_Mo_pass_121 (by decide) (fun _ => ?_) (fun z => absurd z (by decide))
    refine er_iload_n d_Mo_pass_136 rfl ?_
    refine er_bipush ((nI (12))) d_Mo_pass_137 (by decide) ?_
    refine er_icmp_ne 163 d_Mo_pass_139 (by decide) (fun _ => ?_) (fun z => absurd z (by decide))
    refine er_iload_n d_Mo_pass_163 rfl ?_
    refine er_bipush ((nI (14))) d_Mo_pass_164 (by decide) ?_
    refine er_icmp_ne 193 d_Mo_pass_166 (by decide) (fun _ => ?_) (fun z => absurd z (by decide))
    refine er_iload_n d_Mo_pass_193 rfl ?_
    refine er_bipush ((nI (19))) d_Mo_pass_194 (by decide) ?_
    refine er_icmp_ne 207 d_Mo_pass_196 (by decide) (fun _ => ?_) (fun z => absurd z (by decide))
    refine er_iload_n d_Mo_pass_207 rfl ?_
    refine er_bipush ((nI (24))) d_Mo_pass_208 (by decide) ?_
    refine er_icmp_ne 228 d_Mo_pass_210 (by decide) (fun _ => ?_) (fun z => absurd z (by decide))
    refine er_aload_n d_Mo_pass_228 rfl ?_
    refine er_iload_n d_Mo_pass_229 rfl ?_
    refine er_callV (As := [.int (nI 16)]) d_Mo_pass_230 k_Mo_pass_182 (jl_ss hO) rfl rfl rfl (Nat.le_of_ble_eq_true rfl) (by decide) (by decide) (mo_puts hl (hmb.s22).1 (hmb.s22).2.1 (by omega)) ?_
    show jl_E l G m_Mo_pass (0, 0) 233 [some (.ref 22), some (.int (nI m)), some (.int (nI pc)), some (.int (nI 16)), some (.int (x)), some (.int (en (topO r h)))] [.int (nI 0)] (σ.set (22) (.inr (7, [.int (fa), .ref 23, .ref 24, .ref 25, .ref 26, .ref 27, .ref 28, .ref 29, .ref 30, .ref 31, .ref 32, .ref 33, .ref 34, .ref 35, .ref 36, .ref 37, .int (vf), .int (wh), .int (wy), .ref 38, .ref 39, .ref 40, .ref 41, .int (nI ((h) - (1))), .ref 42, .ref 43, .ref 44, .ref 45, .ref 46, .ref 47, .ref 48, .ref 49, .int (dp), .ref 50, .ref 51, .ref 52, .int (md), .int (ov), .int (oh), .int (dn), .int (an)]))) P
    refine er_iconst ((nI (1))) d_Mo_pass_233 (by decide) ?_
    refine er_icmp_ne 242 d_Mo_pass_234 (by decide) (fun _ => ?_) (fun z => absurd z (by decide))
    exact er_vret d_Mo_pass_242 rfl (hT _ _ _ (hrl.low htk) hlo hsk (hmb.s22) (FrM.refl.set (by omega))) (by decide) (by decide)
theorem mo_pass_17 (hl : l.stackTraces = false) {P : jl_O → jl_S → Prop} {m pc h : Nat} {r : Rw} {x : Int32} (hmb : MB σ tb pr ow ft hs u1 u2 ur ul uo ua uc us ut uk fa vf wh wy (nI h) dp md ov oh dn an lo sk kp mm fm) (hok : WoOk tb pr ow fi) (hK : MoK u1 u2 ur ul uo uc us ut uk) (hm : m < 24) (hpc : pc < 24) (ho : uo (24 * m + pc) = 17) (hx : ua (24 * m + pc) = x) (hrl : RlM r lo sk h) (hrv : rv r h) (hlo : ∀ j, ob 16 (lo j)) (hsk : ∀ j, ob 16 (sk j)) (htk : 1 ≤ h) (hp5 : h - 1 + 0 ≤ 5) (hT : ∀ lo' sk' σ', RlM (low r h 1) lo' sk' (h - 1) → (∀ j, ob 16 (lo' j)) → (∀ j, ob 16 (sk' j)) → MB σ' tb pr ow ft hs u1 u2 ur ul uo ua uc us ut uk fa vf wh wy (nI (h - 1)) dp md ov oh dn an lo' sk' kp mm fm → FrM σ σ' → P (.inl none) σ') : jl_mE l G m_Mo_pass [.ref 22, .int (nI m), .int (nI pc)] σ P := by
  obtain ⟨hO, hw, hu, hr, hkp, hmp, hfm⟩ := id hmb; obtain ⟨r1, r2⟩ := id hr
  obtain ⟨h23, h24, h25, h26, h27⟩ := id hw
  obtain ⟨h28, h29, h30, h31, h32, h33, h34, h35, h36, h37⟩ := id hu
  obtain ⟨hk1, hk2, hk3, hk4, hk5, hk6⟩ := hK.1 m hm
  have hh5 := hrv.2.1
  refine jl_ofE (as := [.ref 22, .int (nI m), .int (nI pc)]) rfl (by decide) hl (jl_cc rfl (jl_cc rfl (jl_cc rfl jl_ca))) (Nat.le_of_ble_eq_true rfl) ?_
  show jl_E l G m_Mo_pass (0, 0) 0 [some (.ref 22), some (.int (nI m)), some (.int (nI pc)), none, none, none] [] (σ) P
  refine er_aload_n d_Mo_pass_0 rfl ?_
  refine er_getf d_Mo_pass_1 f_Mo_pass_38 hO rfl ?_
  refine er_bipush ((nI (24))) d_Mo_pass_4 (by decide) ?_
  refine er_iload_n d_Mo_pass_6 rfl ?_
  refine er_imulN d_Mo_pass_7 ?_
  refine er_iload_n d_Mo_pass_8 rfl ?_
  refine er_iaddN d_Mo_pass_9 ?_
  refine er_ialdQ (v := (nI (17))) d_Mo_pass_10 h32 (by omega) (by omega) (congrArg nI ho) ?_
  refine er_istore_n d_Mo_pass_11 (by decide) ?_
  show jl_E l G m_Mo_pass (0, 0) 12 [some (.ref 22), some (.int (nI m)), some (.int (nI pc)), some (.int (nI 17)), none, none] [] (σ) P
  refine er_aload_n d_Mo_pass_12 rfl ?_
  refine er_getf d_Mo_pass_13 f_Mo_pass_41 hO rfl ?_
  refine er_bipush ((nI (24))) d_Mo_pass_16 (by decide) ?_
  refine er_iload_n d_Mo_pass_18 rfl ?_
  refine er_imulN d_Mo_pass_19 ?_
  refine er_iload_n d_Mo_pass_20 rfl ?_
  refine er_iaddN d_Mo_pass_21 ?_
  refine er_ialdQ (v := (x)) d_Mo_pass_22 h33 (by omega) (by omega) (hx) ?_
  refine er_istore d_Mo_pass_23 (by decide) ?_
  show jl_E l G m_Mo_pass (0, 0) 25 [some (.ref 22), some (.int (nI m)), some (.int (nI pc)), some (.int (nI 17)), some (.int (x)), none] [] (σ) P
  refine er_aload_n d_Mo_pass_25 rfl ?_
  refine er_getf d_Mo_pass_26 f_Mo_pass_179 hO rfl ?_
  refine er_if_leN 46 d_Mo_pass_29 (by decide) (by omega) (fun c1 => ?_) (fun c1 => ?_)
  · refine er_iconst ((-1)) d_Mo_pass_46 (by decide) ?_
    refine er_istore d_Mo_pass_47 (by decide) ?_
    show jl_E l G m_Mo_pass (0, 0) 49 [some (.ref 22), some (.int (nI m)), some (.int (nI pc)), some (.int (nI 17)), some (.int (x)), some (.int (-1))] [] (σ) P
    have htp : topO r h = none := by unfold topO; rw [if_pos (by omega)]
    rw [show (-1 : Int32) = en (topO r h) by rw [htp]; rfl]
    show jl_E l G m_Mo_pass (0, 0) 49 [some (.ref 22), some (.int (nI m)), some (.int (nI pc)), some (.int (nI 17)), some (.int (x)), some (.int (en (topO r h)))] [] (σ) P
    refine er_aload_n d_Mo_pass_49 rfl ?_
    refine er_dup d_Mo_pass_50 rfl ?_
    refine er_getf d_Mo_pass_51 f_Mo_pass_179 hO rfl ?_
    refine er_aload_n d_Mo_pass_54 rfl ?_
    refine er_iload_n d_Mo_pass_55 rfl ?_
    refine er_iload d_Mo_pass_56 rfl ?_
    refine er_callV (As := [.int (nI 17), .int (x)]) d_Mo_pass_58 k_Mo_pass_176 hO rfl rfl rfl (Nat.le_of_ble_eq_true rfl) (by decide) (by decide) (mo_tk_17 hl hO hw hu) ?_
    show jl_E l G m_Mo_pass (0, 0) 61 [some (.ref 22), some (.int (nI m)), some (.int (nI pc)), some (.int (nI 17)), some (.int (x)), some (.int (en (topO r h)))] [.int (nI 1), .int (nI h), .ref 22] (σ) P
    refine er_isubN d_Mo_pass_61 (by omega) ?_
    refine er_putf d_Mo_pass_62 p_Mo_pass_179 hO (Nat.le_of_ble_eq_true rfl) jl_fit_int ?_
    show jl_E l G m_Mo_pass (0, 0) 65 [some (.ref 22), some (.int (nI m)), some (.int (nI pc)), some (.int (nI 17)), some (.int (x)), some (.int (en (topO r h)))] [] (σ.set (22) (.inr (7, [.int (fa), .ref 23, .ref 24, .ref 25, .ref 26, .ref 27, .ref 28, .ref 29, .ref 30, .ref 31, .ref 32, .ref 33, .ref 34, .ref 35, .ref 36, .ref 37, .int (vf), .int (wh), .int (wy), .ref 38, .ref 39, .ref 40, .ref 41, .int (nI ((h) - (1))), .ref 42, .ref 43, .ref 44, .ref 45, .ref 46, .ref 47, .ref 48, .ref 49, .int (dp), .ref 50, .ref 51, .ref 52, .int (md), .int (ov), .int (oh), .int (dn), .int (an)]))) P
    refine er_iload_n d_Mo_pass_65 rfl ?_
    refine er_iconst ((nI (2))) d_Mo_pass_66 (by decide) ?_
    refine er_icmp_ne 79 d_Mo_pass_67 (by decide) (fun _ => ?_) (fun z => absurd z (by decide))
    refine er_iload_n d_Mo_pass_79 rfl ?_
    refine er_iconst ((nI (1))) d_Mo_pass_80 (by decide) ?_
    refine er_icmp_ne 98 d_Mo_pass_81 (by decide) (fun _ => ?_) (fun z => absurd z (by decide))
    refine er_iload_n d_Mo_pass_98 rfl ?_
    refine er_bipush ((nI (10))) d_Mo_pass_99 (by decide) ?_
    refine er_icmp_ne 112 d_Mo_pass_101 (by decide) (fun _ => ?_) (fun z => absurd z (by decide))
    refine er_iload_n d_Mo_pass_112 rfl ?_
    refine er_bipush ((nI (11))) d_Mo_pass_113 (by decide) ?_
    refine er_icmp_eq 124 d_Mo_pass_115 (by decide) (fun z => absurd z (by decide)) (fun _ => ?_)
    refine er_iload_n d_Mo_pass_118 rfl ?_
    refine er_bipush ((nI (15))) d_Mo_pass_119 (by decide) ?_
    refine er_icmp_ne 136 d_Mo_pass_121 (by decide) (fun _ => ?_) (fun z => absurd z (by decide))
    refine er_iload_n d_Mo_pass_136 rfl ?_
    refine er_bipush ((nI (12))) d_Mo_pass_137 (by decide) ?_
    refine er_icmp_ne 163 d_Mo_pass_139 (by decide) (fun _ => ?_) (fun z => absurd z (by decide))
    refine er_iload_n d_Mo_pass_163 rfl ?_
    refine er_bipush ((nI (14))) d_Mo_pass_164 (by decide) ?_
    refine er_icmp_ne 193 d_Mo_pass_166 (by decide) (fun _ => ?_) (fun z => absurd z (by decide))
    refine er_iload_n d_Mo_pass_193 rfl ?_
    refine er_bipush ((nI (19))) d_Mo_pass_194 (by decide) ?_
    refine er_icmp_ne 207 d_Mo_pass_196 (by decide) (fun _ => ?_) (fun z => absurd z (by decide))
    refine er_iload_n d_Mo_pass_207 rfl ?_
    refine er_bipush ((nI (24))) d_Mo_pass_208 (by decide) ?_
    refine er_icmp_ne 228 d_Mo_pass_210 (by decide) (fun _ => ?_) (fun z => absurd z (by decide))
    refine er_aload_n d_Mo_pass_228 rfl ?_
    refine er_iload_n d_Mo_pass_229 rfl ?_
    refine er_callV (As := [.int (nI 17)]) d_Mo_pass_230 k_Mo_pass_182 (jl_ss hO) rfl rfl rfl (Nat.le_of_ble_eq_true rfl) (by decide) (by decide) (mo_puts hl (hmb.s22).1 (hmb.s22).2.1 (by omega)) ?_
    show jl_E l G m_Mo_pass (0, 0) 233 [some (.ref 22), some (.int (nI m)), some (.int (nI pc)), some (.int (nI 17)), some (.int (x)), some (.int (en (topO r h)))] [.int (nI 0)] (σ.set (22) (.inr (7, [.int (fa), .ref 23, .ref 24, .ref 25, .ref 26, .ref 27, .ref 28, .ref 29, .ref 30, .ref 31, .ref 32, .ref 33, .ref 34, .ref 35, .ref 36, .ref 37, .int (vf), .int (wh), .int (wy), .ref 38, .ref 39, .ref 40, .ref 41, .int (nI ((h) - (1))), .ref 42, .ref 43, .ref 44, .ref 45, .ref 46, .ref 47, .ref 48, .ref 49, .int (dp), .ref 50, .ref 51, .ref 52, .int (md), .int (ov), .int (oh), .int (dn), .int (an)]))) P
    refine er_iconst ((nI (1))) d_Mo_pass_233 (by decide) ?_
    refine er_icmp_ne 242 d_Mo_pass_234 (by decide) (fun _ => ?_) (fun z => absurd z (by decide))
    exact er_vret d_Mo_pass_242 rfl (hT _ _ _ (hrl.low htk) hlo hsk (hmb.s22) (FrM.refl.set (by omega))) (by decide) (by decide)
  · refine er_aload_n d_Mo_pass_32 rfl ?_
    refine er_getf d_Mo_pass_33 f_Mo_pass_72 hO rfl ?_
    refine er_aload_n d_Mo_pass_36 rfl ?_
    refine er_getf d_Mo_pass_37 f_Mo_pass_179 hO rfl ?_
    refine er_iconst ((nI (1))) d_Mo_pass_40 (by decide) ?_
    refine er_isubN d_Mo_pass_41 (by omega) ?_
    refine er_ialdQ (v := (en (topO r h))) d_Mo_pass_42 r2 (by omega) (by omega) (congrArg en (show sk (h - 1) = topO r h by unfold topO; rw [if_neg (by omega), hrl.2 (h - 1) (by omega)]; congr 1; omega)) ?_
    refine er_goto 47 d_Mo_pass_43 (by decide) ?_
    refine er_istore d_Mo_pass_47 (by decide) ?_
    show jl_E l G m_Mo_pass (0, 0) 49 [some (.ref 22), some (.int (nI m)), some (.int (nI pc)), some (.int (nI 17)), some (.int (x)), some (.int (en (topO r h)))] [] (σ) P
    refine er_aload_n d_Mo_pass_49 rfl ?_
    refine er_dup d_Mo_pass_50 rfl ?_
    refine er_getf d_Mo_pass_51 f_Mo_pass_179 hO rfl ?_
    refine er_aload_n d_Mo_pass_54 rfl ?_
    refine er_iload_n d_Mo_pass_55 rfl ?_
    refine er_iload d_Mo_pass_56 rfl ?_
    refine er_callV (As := [.int (nI 17), .int (x)]) d_Mo_pass_58 k_Mo_pass_176 hO rfl rfl rfl (Nat.le_of_ble_eq_true rfl) (by decide) (by decide) (mo_tk_17 hl hO hw hu) ?_
    show jl_E l G m_Mo_pass (0, 0) 61 [some (.ref 22), some (.int (nI m)), some (.int (nI pc)), some (.int (nI 17)), some (.int (x)), some (.int (en (topO r h)))] [.int (nI 1), .int (nI h), .ref 22] (σ) P
    refine er_isubN d_Mo_pass_61 (by omega) ?_
    refine er_putf d_Mo_pass_62 p_Mo_pass_179 hO (Nat.le_of_ble_eq_true rfl) jl_fit_int ?_
    show jl_E l G m_Mo_pass (0, 0) 65 [some (.ref 22), some (.int (nI m)), some (.int (nI pc)), some (.int (nI 17)), some (.int (x)), some (.int (en (topO r h)))] [] (σ.set (22) (.inr (7, [.int (fa), .ref 23, .ref 24, .ref 25, .ref 26, .ref 27, .ref 28, .ref 29, .ref 30, .ref 31, .ref 32, .ref 33, .ref 34, .ref 35, .ref 36, .ref 37, .int (vf), .int (wh), .int (wy), .ref 38, .ref 39, .ref 40, .ref 41, .int (nI ((h) - (1))), .ref 42, .ref 43, .ref 44, .ref 45, .ref 46, .ref 47, .ref 48, .ref 49, .int (dp), .ref 50, .ref 51, .ref 52, .int (md), .int (ov), .int (oh), .int (dn), .int (an)]))) P
    refine er_iload_n d_Mo_pass_65 rfl ?_
    refine er_iconst ((nI (2))) d_Mo_pass_66 (by decide) ?_
    refine er_icmp_ne 79 d_Mo_pass_67 (by decide) (fun _ => ?_) (fun z => absurd z (by decide))
    refine er_iload_n d_Mo_pass_79 rfl ?_
    refine er_iconst ((nI (1))) d_Mo_pass_80 (by decide) ?_
    refine er_icmp_ne 98 d_Mo_pass_81 (by decide) (fun _ => ?_) (fun z => absurd z (by decide))
    refine er_iload_n d_Mo_pass_98 rfl ?_
    refine er_bipush ((nI (10))) d_Mo_pass_99 (by decide) ?_
    refine er_icmp_ne 112 d_Mo_pass_101 (by decide) (fun _ => ?_) (fun z => absurd z (by decide))
    refine er_iload_n d_Mo_pass_112 rfl ?_
    refine er_bipush ((nI (11))) d_Mo_pass_113 (by decide) ?_
    refine er_icmp_eq 124 d_Mo_pass_115 (by decide) (fun z => absurd z (by decide)) (fun _ => ?_)
    refine er_iload_n d_Mo_pass_118 rfl ?_
    refine er_bipush ((nI (15))) d_Mo_pass_119 (by decide) ?_
    refine er_icmp_ne 136 d_Mo_pass_121 (by decide) (fun _ => ?_) (fun z => absurd z (by decide))
    refine er_iload_n d_Mo_pass_136 rfl ?_
    refine er_bipush ((nI (12))) d_Mo_pass_137 (by decide) ?_
    refine er_icmp_ne 163 d_Mo_pass_139 (by decide) (fun _ => ?_) (fun z => absurd z (by decide))
    refine er_iload_n d_Mo_pass_163 rfl ?_
    refine er_bipush ((nI (14))) d_Mo_pass_164 (by decide) ?_
    refine er_icmp_ne 193 d_Mo_pass_166 (by decide) (fun _ => ?_) (fun z => absurd z (by decide))
    refine er_iload_n d_Mo_pass_193 rfl ?_
    refine er_bipush ((nI (19))) d_Mo_pass_194 (by decide) ?_
    refine er_icmp_ne 207 d_Mo_pass_196 (by decide) (fun _ => ?_) (fun z => absurd z (by decide))
    refine er_iload_n d_Mo_pass_207 rfl ?_
    refine er_bipush ((nI (24))) d_Mo_pass_208 (by decide) ?_
    refine er_icmp_ne 228 d_Mo_pass_210 (by decide) (fun _ => ?_) (fun z => absurd z (by decide))
    refine er_aload_n d_Mo_pass_228 rfl ?_
    refine er_iload_n d_Mo_pass_229 rfl ?_
    refine er_callV (As := [.int (nI 17)]) d_Mo_pass_230 k_Mo_pass_182 (jl_ss hO) rfl rfl rfl (Nat.le_of_ble_eq_true rfl) (by decide) (by decide) (mo_puts hl (hmb.s22).1 (hmb.s22).2.1 (by omega)) ?_
    show jl_E l G m_Mo_pass (0, 0) 233 [some (.ref 22), some (.int (nI m)), some (.int (nI pc)), some (.int (nI 17)), some (.int (x)), some (.int (en (topO r h)))] [.int (nI 0)] (σ.set (22) (.inr (7, [.int (fa), .ref 23, .ref 24, .ref 25, .ref 26, .ref 27, .ref 28, .ref 29, .ref 30, .ref 31, .ref 32, .ref 33, .ref 34, .ref 35, .ref 36, .ref 37, .int (vf), .int (wh), .int (wy), .ref 38, .ref 39, .ref 40, .ref 41, .int (nI ((h) - (1))), .ref 42, .ref 43, .ref 44, .ref 45, .ref 46, .ref 47, .ref 48, .ref 49, .int (dp), .ref 50, .ref 51, .ref 52, .int (md), .int (ov), .int (oh), .int (dn), .int (an)]))) P
    refine er_iconst ((nI (1))) d_Mo_pass_233 (by decide) ?_
    refine er_icmp_ne 242 d_Mo_pass_234 (by decide) (fun _ => ?_) (fun z => absurd z (by decide))
    exact er_vret d_Mo_pass_242 rfl (hT _ _ _ (hrl.low htk) hlo hsk (hmb.s22) (FrM.refl.set (by omega))) (by decide) (by decide)
theorem mo_pass_18 (hl : l.stackTraces = false) {P : jl_O → jl_S → Prop} {m pc h : Nat} {r : Rw} {x : Int32} (hmb : MB σ tb pr ow ft hs u1 u2 ur ul uo ua uc us ut uk fa vf wh wy (nI h) dp md ov oh dn an lo sk kp mm fm) (hok : WoOk tb pr ow fi) (hK : MoK u1 u2 ur ul uo uc us ut uk) (hm : m < 24) (hpc : pc < 24) (ho : uo (24 * m + pc) = 18) (hx : ua (24 * m + pc) = x) (hrl : RlM r lo sk h) (hrv : rv r h) (hlo : ∀ j, ob 16 (lo j)) (hsk : ∀ j, ob 16 (sk j)) (htk : 1 ≤ h) (hp5 : h - 1 + 0 ≤ 5) (hT : ∀ lo' sk' σ', RlM (low r h 1) lo' sk' (h - 1) → (∀ j, ob 16 (lo' j)) → (∀ j, ob 16 (sk' j)) → MB σ' tb pr ow ft hs u1 u2 ur ul uo ua uc us ut uk fa vf wh wy (nI (h - 1)) dp md ov oh dn an lo' sk' kp mm fm → FrM σ σ' → P (.inl none) σ') : jl_mE l G m_Mo_pass [.ref 22, .int (nI m), .int (nI pc)] σ P := by
  obtain ⟨hO, hw, hu, hr, hkp, hmp, hfm⟩ := id hmb; obtain ⟨r1, r2⟩ := id hr
  obtain ⟨h23, h24, h25, h26, h27⟩ := id hw
  obtain ⟨h28, h29, h30, h31, h32, h33, h34, h35, h36, h37⟩ := id hu
  obtain ⟨hk1, hk2, hk3, hk4, hk5, hk6⟩ := hK.1 m hm
  have hh5 := hrv.2.1
  refine jl_ofE (as := [.ref 22, .int (nI m), .int (nI pc)]) rfl (by decide) hl (jl_cc rfl (jl_cc rfl (jl_cc rfl jl_ca))) (Nat.le_of_ble_eq_true rfl) ?_
  show jl_E l G m_Mo_pass (0, 0) 0 [some (.ref 22), some (.int (nI m)), some (.int (nI pc)), none, none, none] [] (σ) P
  refine er_aload_n d_Mo_pass_0 rfl ?_
  refine er_getf d_Mo_pass_1 f_Mo_pass_38 hO rfl ?_
  refine er_bipush ((nI (24))) d_Mo_pass_4 (by decide) ?_
  refine er_iload_n d_Mo_pass_6 rfl ?_
  refine er_imulN d_Mo_pass_7 ?_
  refine er_iload_n d_Mo_pass_8 rfl ?_
  refine er_iaddN d_Mo_pass_9 ?_
  refine er_ialdQ (v := (nI (18))) d_Mo_pass_10 h32 (by omega) (by omega) (congrArg nI ho) ?_
  refine er_istore_n d_Mo_pass_11 (by decide) ?_
  show jl_E l G m_Mo_pass (0, 0) 12 [some (.ref 22), some (.int (nI m)), some (.int (nI pc)), some (.int (nI 18)), none, none] [] (σ) P
  refine er_aload_n d_Mo_pass_12 rfl ?_
  refine er_getf d_Mo_pass_13 f_Mo_pass_41 hO rfl ?_
  refine er_bipush ((nI (24))) d_Mo_pass_16 (by decide) ?_
  refine er_iload_n d_Mo_pass_18 rfl ?_
  refine er_imulN d_Mo_pass_19 ?_
  refine er_iload_n d_Mo_pass_20 rfl ?_
  refine er_iaddN d_Mo_pass_21 ?_
  refine er_ialdQ (v := (x)) d_Mo_pass_22 h33 (by omega) (by omega) (hx) ?_
  refine er_istore d_Mo_pass_23 (by decide) ?_
  show jl_E l G m_Mo_pass (0, 0) 25 [some (.ref 22), some (.int (nI m)), some (.int (nI pc)), some (.int (nI 18)), some (.int (x)), none] [] (σ) P
  refine er_aload_n d_Mo_pass_25 rfl ?_
  refine er_getf d_Mo_pass_26 f_Mo_pass_179 hO rfl ?_
  refine er_if_leN 46 d_Mo_pass_29 (by decide) (by omega) (fun c1 => ?_) (fun c1 => ?_)
  · refine er_iconst ((-1)) d_Mo_pass_46 (by decide) ?_
    refine er_istore d_Mo_pass_47 (by decide) ?_
    show jl_E l G m_Mo_pass (0, 0) 49 [some (.ref 22), some (.int (nI m)), some (.int (nI pc)), some (.int (nI 18)), some (.int (x)), some (.int (-1))] [] (σ) P
    have htp : topO r h = none := by unfold topO; rw [if_pos (by omega)]
    rw [show (-1 : Int32) = en (topO r h) by rw [htp]; rfl]
    show jl_E l G m_Mo_pass (0, 0) 49 [some (.ref 22), some (.int (nI m)), some (.int (nI pc)), some (.int (nI 18)), some (.int (x)), some (.int (en (topO r h)))] [] (σ) P
    refine er_aload_n d_Mo_pass_49 rfl ?_
    refine er_dup d_Mo_pass_50 rfl ?_
    refine er_getf d_Mo_pass_51 f_Mo_pass_179 hO rfl ?_
    refine er_aload_n d_Mo_pass_54 rfl ?_
    refine er_iload_n d_Mo_pass_55 rfl ?_
    refine er_iload d_Mo_pass_56 rfl ?_
    refine er_callV (As := [.int (nI 18), .int (x)]) d_Mo_pass_58 k_Mo_pass_176 hO rfl rfl rfl (Nat.le_of_ble_eq_true rfl) (by decide) (by decide) (mo_tk_18 hl hO hw hu) ?_
    show jl_E l G m_Mo_pass (0, 0) 61 [some (.ref 22), some (.int (nI m)), some (.int (nI pc)), some (.int (nI 18)), some (.int (x)), some (.int (en (topO r h)))] [.int (nI 1), .int (nI h), .ref 22] (σ) P
    refine er_isubN d_Mo_pass_61 (by omega) ?_
    refine er_putf d_Mo_pass_62 p_Mo_pass_179 hO (Nat.le_of_ble_eq_true rfl) jl_fit_int ?_
    show jl_E l G m_Mo_pass (0, 0) 65 [some (.ref 22), some (.int (nI m)), some (.int (nI pc)), some (.int (nI 18)), some (.int (x)), some (.int (en (topO r h)))] [] (σ.set (22) (.inr (7, [.int (fa), .ref 23, .ref 24, .ref 25, .ref 26, .ref 27, .ref 28, .ref 29, .ref 30, .ref 31, .ref 32, .ref 33, .ref 34, .ref 35, .ref 36, .ref 37, .int (vf), .int (wh), .int (wy), .ref 38, .ref 39, .ref 40, .ref 41, .int (nI ((h) - (1))), .ref 42, .ref 43, .ref 44, .ref 45, .ref 46, .ref 47, .ref 48, .ref 49, .int (dp), .ref 50, .ref 51, .ref 52, .int (md), .int (ov), .int (oh), .int (dn), .int (an)]))) P
    refine er_iload_n d_Mo_pass_65 rfl ?_
    refine er_iconst ((nI (2))) d_Mo_pass_66 (by decide) ?_
    refine er_icmp_ne 79 d_Mo_pass_67 (by decide) (fun _ => ?_) (fun z => absurd z (by decide))
    refine er_iload_n d_Mo_pass_79 rfl ?_
    refine er_iconst ((nI (1))) d_Mo_pass_80 (by decide) ?_
    refine er_icmp_ne 98 d_Mo_pass_81 (by decide) (fun _ => ?_) (fun z => absurd z (by decide))
    refine er_iload_n d_Mo_pass_98 rfl ?_
    refine er_bipush ((nI (10))) d_Mo_pass_99 (by decide) ?_
    refine er_icmp_ne 112 d_Mo_pass_101 (by decide) (fun _ => ?_) (fun z => absurd z (by decide))
    refine er_iload_n d_Mo_pass_112 rfl ?_
    refine er_bipush ((nI (11))) d_Mo_pass_113 (by decide) ?_
    refine er_icmp_eq 124 d_Mo_pass_115 (by decide) (fun z => absurd z (by decide)) (fun _ => ?_)
    refine er_iload_n d_Mo_pass_118 rfl ?_
    refine er_bipush ((nI (15))) d_Mo_pass_119 (by decide) ?_
    refine er_icmp_ne 136 d_Mo_pass_121 (by decide) (fun _ => ?_) (fun z => absurd z (by decide))
    refine er_iload_n d_Mo_pass_136 rfl ?_
    refine er_bipush ((nI (12))) d_Mo_pass_137 (by decide) ?_
    refine er_icmp_ne 163 d_Mo_pass_139 (by decide) (fun _ => ?_) (fun z => absurd z (by decide))
    refine er_iload_n d_Mo_pass_163 rfl ?_
    refine er_bipush ((nI (14))) d_Mo_pass_164 (by decide) ?_
    refine er_icmp_ne 193 d_Mo_pass_166 (by decide) (fun _ => ?_) (fun z => absurd z (by decide))
    refine er_iload_n d_Mo_pass_193 rfl ?_
    refine er_bipush ((nI (19))) d_Mo_pass_194 (by decide) ?_
    refine er_icmp_ne 207 d_Mo_pass_196 (by decide) (fun _ => ?_) (fun z => absurd z (by decide))
    refine er_iload_n d_Mo_pass_207 rfl ?_
    refine er_bipush ((nI (24))) d_Mo_pass_208 (by decide) ?_
    refine er_icmp_ne 228 d_Mo_pass_210 (by decide) (fun _ => ?_) (fun z => absurd z (by decide))
    refine er_aload_n d_Mo_pass_228 rfl ?_
    refine er_iload_n d_Mo_pass_229 rfl ?_
    refine er_callV (As := [.int (nI 18)]) d_Mo_pass_230 k_Mo_pass_182 (jl_ss hO) rfl rfl rfl (Nat.le_of_ble_eq_true rfl) (by decide) (by decide) (mo_puts hl (hmb.s22).1 (hmb.s22).2.1 (by omega)) ?_
    show jl_E l G m_Mo_pass (0, 0) 233 [some (.ref 22), some (.int (nI m)), some (.int (nI pc)), some (.int (nI 18)), some (.int (x)), some (.int (en (topO r h)))] [.int (nI 0)] (σ.set (22) (.inr (7, [.int (fa), .ref 23, .ref 24, .ref 25, .ref 26, .ref 27, .ref 28, .ref 29, .ref 30, .ref 31, .ref 32, .ref 33, .ref 34, .ref 35, .ref 36, .ref 37, .int (vf), .int (wh), .int (wy), .ref 38, .ref 39, .ref 40, .ref 41, .int (nI ((h) - (1))), .ref 42, .ref 43, .ref 44, .ref 45, .ref 46, .ref 47, .ref 48, .ref 49, .int (dp), .ref 50, .ref 51, .ref 52, .int (md), .int (ov), .int (oh), .int (dn), .int (an)]))) P
    refine er_iconst ((nI (1))) d_Mo_pass_233 (by decide) ?_
    refine er_icmp_ne 242 d_Mo_pass_234 (by decide) (fun _ => ?_) (fun z => absurd z (by decide))
    exact er_vret d_Mo_pass_242 rfl (hT _ _ _ (hrl.low htk) hlo hsk (hmb.s22) (FrM.refl.set (by omega))) (by decide) (by decide)
  · refine er_aload_n d_Mo_pass_32 rfl ?_
    refine er_getf d_Mo_pass_33 f_Mo_pass_72 hO rfl ?_
    refine er_aload_n d_Mo_pass_36 rfl ?_
    refine er_getf d_Mo_pass_37 f_Mo_pass_179 hO rfl ?_
    refine er_iconst ((nI (1))) d_Mo_pass_40 (by decide) ?_
    refine er_isubN d_Mo_pass_41 (by omega) ?_
    refine er_ialdQ (v := (en (topO r h))) d_Mo_pass_42 r2 (by omega) (by omega) (congrArg en (show sk (h - 1) = topO r h by unfold topO; rw [if_neg (by omega), hrl.2 (h - 1) (by omega)]; congr 1; omega)) ?_
    refine er_goto 47 d_Mo_pass_43 (by decide) ?_
    refine er_istore d_Mo_pass_47 (by decide) ?_
    show jl_E l G m_Mo_pass (0, 0) 49 [some (.ref 22), some (.int (nI m)), some (.int (nI pc)), some (.int (nI 18)), some (.int (x)), some (.int (en (topO r h)))] [] (σ) P
    refine er_aload_n d_Mo_pass_49 rfl ?_
    refine er_dup d_Mo_pass_50 rfl ?_
    refine er_getf d_Mo_pass_51 f_Mo_pass_179 hO rfl ?_
    refine er_aload_n d_Mo_pass_54 rfl ?_
    refine er_iload_n d_Mo_pass_55 rfl ?_
    refine er_iload d_Mo_pass_56 rfl ?_
    refine er_callV (As := [.int (nI 18), .int (x)]) d_Mo_pass_58 k_Mo_pass_176 hO rfl rfl rfl (Nat.le_of_ble_eq_true rfl) (by decide) (by decide) (mo_tk_18 hl hO hw hu) ?_
    show jl_E l G m_Mo_pass (0, 0) 61 [some (.ref 22), some (.int (nI m)), some (.int (nI pc)), some (.int (nI 18)), some (.int (x)), some (.int (en (topO r h)))] [.int (nI 1), .int (nI h), .ref 22] (σ) P
    refine er_isubN d_Mo_pass_61 (by omega) ?_
    refine er_putf d_Mo_pass_62 p_Mo_pass_179 hO (Nat.le_of_ble_eq_true rfl) jl_fit_int ?_
    show jl_E l G m_Mo_pass (0, 0) 65 [some (.ref 22), some (.int (nI m)), some (.int (nI pc)), some (.int (nI 18)), some (.int (x)), some (.int (en (topO r h)))] [] (σ.set (22) (.inr (7, [.int (fa), .ref 23, .ref 24, .ref 25, .ref 26, .ref 27, .ref 28, .ref 29, .ref 30, .ref 31, .ref 32, .ref 33, .ref 34, .ref 35, .ref 36, .ref 37, .int (vf), .int (wh), .int (wy), .ref 38, .ref 39, .ref 40, .ref 41, .int (nI ((h) - (1))), .ref 42, .ref 43, .ref 44, .ref 45, .ref 46, .ref 47, .ref 48, .ref 49, .int (dp), .ref 50, .ref 51, .ref 52, .int (md), .int (ov), .int (oh), .int (dn), .int (an)]))) P
    refine er_iload_n d_Mo_pass_65 rfl ?_
    refine er_iconst ((nI (2))) d_Mo_pass_66 (by decide) ?_
    refine er_icmp_ne 79 d_Mo_pass_67 (by decide) (fun _ => ?_) (fun z => absurd z (by decide))
    refine er_iload_n d_Mo_pass_79 rfl ?_
    refine er_iconst ((nI (1))) d_Mo_pass_80 (by decide) ?_
    refine er_icmp_ne 98 d_Mo_pass_81 (by decide) (fun _ => ?_) (fun z => absurd z (by decide))
    refine er_iload_n d_Mo_pass_98 rfl ?_
    refine er_bipush ((nI (10))) d_Mo_pass_99 (by decide) ?_
    refine er_icmp_ne 112 d_Mo_pass_101 (by decide) (fun _ => ?_) (fun z => absurd z (by decide))
    refine er_iload_n d_Mo_pass_112 rfl ?_
    refine er_bipush ((nI (11))) d_Mo_pass_113 (by decide) ?_
    refine er_icmp_eq 124 d_Mo_pass_115 (by decide) (fun z => absurd z (by decide)) (fun _ => ?_)
    refine er_iload_n d_Mo_pass_118 rfl ?_
    refine er_bipush ((nI (15))) d_Mo_pass_119 (by decide) ?_
    refine er_icmp_ne 136 d_Mo_pass_121 (by decide) (fun _ => ?_) (fun z => absurd z (by decide))
    refine er_iload_n d_Mo_pass_136 rfl ?_
    refine er_bipush ((nI (12))) d_Mo_pass_137 (by decide) ?_
    refine er_icmp_ne 163 d_Mo_pass_139 (by decide) (fun _ => ?_) (fun z => absurd z (by decide))
    refine er_iload_n d_Mo_pass_163 rfl ?_
    refine er_bipush ((nI (14))) d_Mo_pass_164 (by decide) ?_
    refine er_icmp_ne 193 d_Mo_pass_166 (by decide) (fun _ => ?_) (fun z => absurd z (by decide))
    refine er_iload_n d_Mo_pass_193 rfl ?_
    refine er_bipush ((nI (19))) d_Mo_pass_194 (by decide) ?_
    refine er_icmp_ne 207 d_Mo_pass_196 (by decide) (fun _ => ?_) (fun z => absurd z (by decide))
    refine er_iload_n d_Mo_pass_207 rfl ?_
    refine er_bipush ((nI (24))) d_Mo_pass_208 (by decide) ?_
    refine er_icmp_ne 228 d_Mo_pass_210 (by decide) (fun _ => ?_) (fun z => absurd z (by decide))
    refine er_aload_n d_Mo_pass_228 rfl ?_
    refine er_iload_n d_Mo_pass_229 rfl ?_
    refine er_callV (As := [.int (nI 18)]) d_Mo_pass_230 k_Mo_pass_182 (jl_ss hO) rfl rfl rfl (Nat.le_of_ble_eq_true rfl) (by decide) (by decide) (mo_puts hl (hmb.s22).1 (hmb.s22).2.1 (by omega)) ?_
    show jl_E l G m_Mo_pass (0, 0) 233 [some (.ref 22), some (.int (nI m)), some (.int (nI pc)), some (.int (nI 18)), some (.int (x)), some (.int (en (topO r h)))] [.int (nI 0)] (σ.set (22) (.inr (7, [.int (fa), .ref 23, .ref 24, .ref 25, .ref 26, .ref 27, .ref 28, .ref 29, .ref 30, .ref 31, .ref 32, .ref 33, .ref 34, .ref 35, .ref 36, .ref 37, .int (vf), .int (wh), .int (wy), .ref 38, .ref 39, .ref 40, .ref 41, .int (nI ((h) - (1))), .ref 42, .ref 43, .ref 44, .ref 45, .ref 46, .ref 47, .ref 48, .ref 49, .int (dp), .ref 50, .ref 51, .ref 52, .int (md), .int (ov), .int (oh), .int (dn), .int (an)]))) P
    refine er_iconst ((nI (1))) d_Mo_pass_233 (by decide) ?_
    refine er_icmp_ne 242 d_Mo_pass_234 (by decide) (fun _ => ?_) (fun z => absurd z (by decide))
    exact er_vret d_Mo_pass_242 rfl (hT _ _ _ (hrl.low htk) hlo hsk (hmb.s22) (FrM.refl.set (by omega))) (by decide) (by decide)
theorem d_Mo_pass_199 : decode m_Mo_pass.2.1 199 = .ok (.aload_n 0, 1) := by decide +kernel
theorem d_Mo_pass_200 : decode m_Mo_pass.2.1 200 = .ok (.iconst 1, 1) := by decide +kernel
theorem d_Mo_pass_201 : decode m_Mo_pass.2.1 201 = .ok (.invokevirtual 192, 3) := by decide +kernel
theorem d_Mo_pass_204 : decode m_Mo_pass.2.1 204 = .ok (.goto 38, 3) := by decide +kernel
theorem mo_pass_19 (hl : l.stackTraces = false) {P : jl_O → jl_S → Prop} {m pc h : Nat} {r : Rw} {x : Int32} (hmb : MB σ tb pr ow ft hs u1 u2 ur ul uo ua uc us ut uk fa vf wh wy (nI h) dp md ov oh dn an lo sk kp mm fm) (hok : WoOk tb pr ow fi) (hK : MoK u1 u2 ur ul uo uc us ut uk) (hm : m < 24) (hpc : pc < 24) (ho : uo (24 * m + pc) = 19) (hx : ua (24 * m + pc) = x) (hrl : RlM r lo sk h) (hrv : rv r h) (hlo : ∀ j, ob 16 (lo j)) (hsk : ∀ j, ob 16 (sk j)) (htk : 1 ≤ h) (hp5 : h - 1 + 1 ≤ 5) (hT : ∀ lo' sk' σ', RlM (psh (low r h 1) (h - 1) (some 1)) lo' sk' (h - 1 + 1) → (∀ j, ob 16 (lo' j)) → (∀ j, ob 16 (sk' j)) → MB σ' tb pr ow ft hs u1 u2 ur ul uo ua uc us ut uk fa vf wh wy (nI (h - 1 + 1)) dp md ov oh dn an lo' sk' kp mm fm → FrM σ σ' → P (.inl none) σ') : jl_mE l G m_Mo_pass [.ref 22, .int (nI m), .int (nI pc)] σ P := by
  obtain ⟨hO, hw, hu, hr, hkp, hmp, hfm⟩ := id hmb; obtain ⟨r1, r2⟩ := id hr
  obtain ⟨h23, h24, h25, h26, h27⟩ := id hw
  obtain ⟨h28, h29, h30, h31, h32, h33, h34, h35, h36, h37⟩ := id hu
  obtain ⟨hk1, hk2, hk3, hk4, hk5, hk6⟩ := hK.1 m hm
  have hh5 := hrv.2.1
  refine jl_ofE (as := [.ref 22, .int (nI m), .int (nI pc)]) rfl (by decide) hl (jl_cc rfl (jl_cc rfl (jl_cc rfl jl_ca))) (Nat.le_of_ble_eq_true rfl) ?_
  show jl_E l G m_Mo_pass (0, 0) 0 [some (.ref 22), some (.int (nI m)), some (.int (nI pc)), none, none, none] [] (σ) P
  refine er_aload_n d_Mo_pass_0 rfl ?_
  refine er_getf d_Mo_pass_1 f_Mo_pass_38 hO rfl ?_
  refine er_bipush ((nI (24))) d_Mo_pass_4 (by decide) ?_
  refine er_iload_n d_Mo_pass_6 rfl ?_
  refine er_imulN d_Mo_pass_7 ?_
  refine er_iload_n d_Mo_pass_8 rfl ?_
  refine er_iaddN d_Mo_pass_9 ?_
  refine er_ialdQ (v := (nI (19))) d_Mo_pass_10 h32 (by omega) (by omega) (congrArg nI ho) ?_
  refine er_istore_n d_Mo_pass_11 (by decide) ?_
  show jl_E l G m_Mo_pass (0, 0) 12 [some (.ref 22), some (.int (nI m)), some (.int (nI pc)), some (.int (nI 19)), none, none] [] (σ) P
  refine er_aload_n d_Mo_pass_12 rfl ?_
  refine er_getf d_Mo_pass_13 f_Mo_pass_41 hO rfl ?_
  refine er_bipush ((nI (24))) d_Mo_pass_16 (by decide) ?_
  refine er_iload_n d_Mo_pass_18 rfl ?_
  refine er_imulN d_Mo_pass_19 ?_
  refine er_iload_n d_Mo_pass_20 rfl ?_
  refine er_iaddN d_Mo_pass_21 ?_
  refine er_ialdQ (v := (x)) d_Mo_pass_22 h33 (by omega) (by omega) (hx) ?_
  refine er_istore d_Mo_pass_23 (by decide) ?_
  show jl_E l G m_Mo_pass (0, 0) 25 [some (.ref 22), some (.int (nI m)), some (.int (nI pc)), some (.int (nI 19)), some (.int (x)), none] [] (σ) P
  refine er_aload_n d_Mo_pass_25 rfl ?_
  refine er_getf d_Mo_pass_26 f_Mo_pass_179 hO rfl ?_
  refine er_if_leN 46 d_Mo_pass_29 (by decide) (by omega) (fun c1 => ?_) (fun c1 => ?_)
  · refine er_iconst ((-1)) d_Mo_pass_46 (by decide) ?_
    refine er_istore d_Mo_pass_47 (by decide) ?_
    show jl_E l G m_Mo_pass (0, 0) 49 [some (.ref 22), some (.int (nI m)), some (.int (nI pc)), some (.int (nI 19)), some (.int (x)), some (.int (-1))] [] (σ) P
    have htp : topO r h = none := by unfold topO; rw [if_pos (by omega)]
    rw [show (-1 : Int32) = en (topO r h) by rw [htp]; rfl]
    show jl_E l G m_Mo_pass (0, 0) 49 [some (.ref 22), some (.int (nI m)), some (.int (nI pc)), some (.int (nI 19)), some (.int (x)), some (.int (en (topO r h)))] [] (σ) P
    refine er_aload_n d_Mo_pass_49 rfl ?_
    refine er_dup d_Mo_pass_50 rfl ?_
    refine er_getf d_Mo_pass_51 f_Mo_pass_179 hO rfl ?_
    refine er_aload_n d_Mo_pass_54 rfl ?_
    refine er_iload_n d_Mo_pass_55 rfl ?_
    refine er_iload d_Mo_pass_56 rfl ?_
    refine er_callV (As := [.int (nI 19), .int (x)]) d_Mo_pass_58 k_Mo_pass_176 hO rfl rfl rfl (Nat.le_of_ble_eq_true rfl) (by decide) (by decide) (mo_tk_19 hl hO hw hu) ?_
    show jl_E l G m_Mo_pass (0, 0) 61 [some (.ref 22), some (.int (nI m)), some (.int (nI pc)), some (.int (nI 19)), some (.int (x)), some (.int (en (topO r h)))] [.int (nI 1), .int (nI h), .ref 22] (σ) P
    refine er_isubN d_Mo_pass_61 (by omega) ?_
    refine er_putf d_Mo_pass_62 p_Mo_pass_179 hO (Nat.le_of_ble_eq_true rfl) jl_fit_int ?_
    show jl_E l G m_Mo_pass (0, 0) 65 [some (.ref 22), some (.int (nI m)), some (.int (nI pc)), some (.int (nI 19)), some (.int (x)), some (.int (en (topO r h)))] [] (σ.set (22) (.inr (7, [.int (fa), .ref 23, .ref 24, .ref 25, .ref 26, .ref 27, .ref 28, .ref 29, .ref 30, .ref 31, .ref 32, .ref 33, .ref 34, .ref 35, .ref 36, .ref 37, .int (vf), .int (wh), .int (wy), .ref 38, .ref 39, .ref 40, .ref 41, .int (nI ((h) - (1))), .ref 42, .ref 43, .ref 44, .ref 45, .ref 46, .ref 47, .ref 48, .ref 49, .int (dp), .ref 50, .ref 51, .ref 52, .int (md), .int (ov), .int (oh), .int (dn), .int (an)]))) P
    refine er_iload_n d_Mo_pass_65 rfl ?_
    refine er_iconst ((nI (2))) d_Mo_pass_66 (by decide) ?_
    refine er_icmp_ne 79 d_Mo_pass_67 (by decide) (fun _ => ?_) (fun z => absurd z (by decide))
    refine er_iload_n d_Mo_pass_79 rfl ?_
    refine er_iconst ((nI (1))) d_Mo_pass_80 (by decide) ?_
    refine er_icmp_ne 98 d_Mo_pass_81 (by decide) (fun _ => ?_) (fun z => absurd z (by decide))
    refine er_iload_n d_Mo_pass_98 rfl ?_
    refine er_bipush ((nI (10))) d_Mo_pass_99 (by decide) ?_
    refine er_icmp_ne 112 d_Mo_pass_101 (by decide) (fun _ => ?_) (fun z => absurd z (by decide))
    refine er_iload_n d_Mo_pass_112 rfl ?_
    refine er_bipush ((nI (11))) d_Mo_pass_113 (by decide) ?_
    refine er_icmp_eq 124 d_Mo_pass_115 (by decide) (fun z => absurd z (by decide)) (fun _ => ?_)
    refine er_iload_n d_Mo_pass_118 rfl ?_
    refine er_bipush ((nI (15))) d_Mo_pass_119 (by decide) ?_
    refine er_icmp_ne 136 d_Mo_pass_121 (by decide) (fun _ => ?_) (fun z => absurd z (by decide))
    refine er_iload_n d_Mo_pass_136 rfl ?_
    refine er_bipush ((nI (12))) d_Mo_pass_137 (by decide) ?_
    refine er_icmp_ne 163 d_Mo_pass_139 (by decide) (fun _ => ?_) (fun z => absurd z (by decide))
    refine er_iload_n d_Mo_pass_163 rfl ?_
    refine er_bipush ((nI (14))) d_Mo_pass_164 (by decide) ?_
    refine er_icmp_ne 193 d_Mo_pass_166 (by decide) (fun _ => ?_) (fun z => absurd z (by decide))
    refine er_iload_n d_Mo_pass_193 rfl ?_
    refine er_bipush ((nI (19))) d_Mo_pass_194 (by decide) ?_
    refine er_icmp_ne 207 d_Mo_pass_196 (by decide) (fun z => absurd rfl z) (fun _ => ?_)
    refine er_aload_n d_Mo_pass_199 rfl ?_
    refine er_iconst ((nI (1))) d_Mo_pass_200 (by decide) ?_
    refine er_callV (As := [.int (nI 1)]) d_Mo_pass_201 k_Mo_pass_192 (jl_ss hO) rfl rfl rfl (Nat.le_of_ble_eq_true rfl) (by decide) (by decide) (mo_push (h := (h) - (1)) (t := (some 1)) hl (hmb.s22).1 (hmb.s22).2.2.2.1.2 (by omega)) ?_
    show jl_E l G m_Mo_pass (0, 0) 204 [some (.ref 22), some (.int (nI m)), some (.int (nI pc)), some (.int (nI 19)), some (.int (x)), some (.int (en (topO r h)))] [] (((σ.set (22) (.inr (7, [.int (fa), .ref 23, .ref 24, .ref 25, .ref 26, .ref 27, .ref 28, .ref 29, .ref 30, .ref 31, .ref 32, .ref 33, .ref 34, .ref 35, .ref 36, .ref 37, .int (vf), .int (wh), .int (wy), .ref 38, .ref 39, .ref 40, .ref 41, .int (nI ((h) - (1))), .ref 42, .ref 43, .ref 44, .ref 45, .ref 46, .ref 47, .ref 48, .ref 49, .int (dp), .ref 50, .ref 51, .ref 52, .int (md), .int (ov), .int (oh), .int (dn), .int (an)]))).set (41) (.inl (0, 8, .inl (fun j => en ((va_up sk ((h) - (1)) (some 1)) j))))).set (22) (.inr (7, [.int (fa), .ref 23, .ref 24, .ref 25, .ref 26, .ref 27, .ref 28, .ref 29, .ref 30, .ref 31, .ref 32, .ref 33, .ref 34, .ref 35, .ref 36, .ref 37, .int (vf), .int (wh), .int (wy), .ref 38, .ref 39, .ref 40, .ref 41, .int (nI ((h) - (1) + 1)), .ref 42, .ref 43, .ref 44, .ref 45, .ref 46, .ref 47, .ref 48, .ref 49, .int (dp), .ref 50, .ref 51, .ref 52, .int (md), .int (ov), .int (oh), .int (dn), .int (an)]))) P
    refine er_goto 242 d_Mo_pass_204 (by decide) ?_
    exact er_vret d_Mo_pass_242 rfl (hT _ _ _ (hrl.low htk).psh hlo (ob_up hsk (ob_s (by omega))) (hmb.s22.s41.s22) (((FrM.refl.set (by omega)).set (by omega)).set (by omega))) (by decide) (by decide)
  · refine er_aload_n d_Mo_pass_32 rfl ?_
    refine er_getf d_Mo_pass_33 f_Mo_pass_72 hO rfl ?_
    refine er_aload_n d_Mo_pass_36 rfl ?_
    refine er_getf d_Mo_pass_37 f_Mo_pass_179 hO rfl ?_
    refine er_iconst ((nI (1))) d_Mo_pass_40 (by decide) ?_
    refine er_isubN d_Mo_pass_41 (by omega) ?_
    refine er_ialdQ (v := (en (topO r h))) d_Mo_pass_42 r2 (by omega) (by omega) (congrArg en (show sk (h - 1) = topO r h by unfold topO; rw [if_neg (by omega), hrl.2 (h - 1) (by omega)]; congr 1; omega)) ?_
    refine er_goto 47 d_Mo_pass_43 (by decide) ?_
    refine er_istore d_Mo_pass_47 (by decide) ?_
    show jl_E l G m_Mo_pass (0, 0) 49 [some (.ref 22), some (.int (nI m)), some (.int (nI pc)), some (.int (nI 19)), some (.int (x)), some (.int (en (topO r h)))] [] (σ) P
    refine er_aload_n d_Mo_pass_49 rfl ?_
    refine er_dup d_Mo_pass_50 rfl ?_
    refine er_getf d_Mo_pass_51 f_Mo_pass_179 hO rfl ?_
    refine er_aload_n d_Mo_pass_54 rfl ?_
    refine er_iload_n d_Mo_pass_55 rfl ?_
    refine er_iload d_Mo_pass_56 rfl ?_
    refine er_callV (As := [.int (nI 19), .int (x)]) d_Mo_pass_58 k_Mo_pass_176 hO rfl rfl rfl (Nat.le_of_ble_eq_true rfl) (by decide) (by decide) (mo_tk_19 hl hO hw hu) ?_
    show jl_E l G m_Mo_pass (0, 0) 61 [some (.ref 22), some (.int (nI m)), some (.int (nI pc)), some (.int (nI 19)), some (.int (x)), some (.int (en (topO r h)))] [.int (nI 1), .int (nI h), .ref 22] (σ) P
    refine er_isubN d_Mo_pass_61 (by omega) ?_
    refine er_putf d_Mo_pass_62 p_Mo_pass_179 hO (Nat.le_of_ble_eq_true rfl) jl_fit_int ?_
    show jl_E l G m_Mo_pass (0, 0) 65 [some (.ref 22), some (.int (nI m)), some (.int (nI pc)), some (.int (nI 19)), some (.int (x)), some (.int (en (topO r h)))] [] (σ.set (22) (.inr (7, [.int (fa), .ref 23, .ref 24, .ref 25, .ref 26, .ref 27, .ref 28, .ref 29, .ref 30, .ref 31, .ref 32, .ref 33, .ref 34, .ref 35, .ref 36, .ref 37, .int (vf), .int (wh), .int (wy), .ref 38, .ref 39, .ref 40, .ref 41, .int (nI ((h) - (1))), .ref 42, .ref 43, .ref 44, .ref 45, .ref 46, .ref 47, .ref 48, .ref 49, .int (dp), .ref 50, .ref 51, .ref 52, .int (md), .int (ov), .int (oh), .int (dn), .int (an)]))) P
    refine er_iload_n d_Mo_pass_65 rfl ?_
    refine er_iconst ((nI (2))) d_Mo_pass_66 (by decide) ?_
    refine er_icmp_ne 79 d_Mo_pass_67 (by decide) (fun _ => ?_) (fun z => absurd z (by decide))
    refine er_iload_n d_Mo_pass_79 rfl ?_
    refine er_iconst ((nI (1))) d_Mo_pass_80 (by decide) ?_
    refine er_icmp_ne 98 d_Mo_pass_81 (by decide) (fun _ => ?_) (fun z => absurd z (by decide))
    refine er_iload_n d_Mo_pass_98 rfl ?_
    refine er_bipush ((nI (10))) d_Mo_pass_99 (by decide) ?_
    refine er_icmp_ne 112 d_Mo_pass_101 (by decide) (fun _ => ?_) (fun z => absurd z (by decide))
    refine er_iload_n d_Mo_pass_112 rfl ?_
    refine er_bipush ((nI (11))) d_Mo_pass_113 (by decide) ?_
    refine er_icmp_eq 124 d_Mo_pass_115 (by decide) (fun z => absurd z (by decide)) (fun _ => ?_)
    refine er_iload_n d_Mo_pass_118 rfl ?_
    refine er_bipush ((nI (15))) d_Mo_pass_119 (by decide) ?_
    refine er_icmp_ne 136 d_Mo_pass_121 (by decide) (fun _ => ?_) (fun z => absurd z (by decide))
    refine er_iload_n d_Mo_pass_136 rfl ?_
    refine er_bipush ((nI (12))) d_Mo_pass_137 (by decide) ?_
    refine er_icmp_ne 163 d_Mo_pass_139 (by decide) (fun _ => ?_) (fun z => absurd z (by decide))
    refine er_iload_n d_Mo_pass_163 rfl ?_
    refine er_bipush ((nI (14))) d_Mo_pass_164 (by decide) ?_
    refine er_icmp_ne 193 d_Mo_pass_166 (by decide) (fun _ => ?_) (fun z => absurd z (by decide))
    refine er_iload_n d_Mo_pass_193 rfl ?_
    refine er_bipush ((nI (19))) d_Mo_pass_194 (by decide) ?_
    refine er_icmp_ne 207 d_Mo_pass_196 (by decide) (fun z => absurd rfl z) (fun _ => ?_)
    refine er_aload_n d_Mo_pass_199 rfl ?_
    refine er_iconst ((nI (1))) d_Mo_pass_200 (by decide) ?_
    refine er_callV (As := [.int (nI 1)]) d_Mo_pass_201 k_Mo_pass_192 (jl_ss hO) rfl rfl rfl (Nat.le_of_ble_eq_true rfl) (by decide) (by decide) (mo_push (h := (h) - (1)) (t := (some 1)) hl (hmb.s22).1 (hmb.s22).2.2.2.1.2 (by omega)) ?_
    show jl_E l G m_Mo_pass (0, 0) 204 [some (.ref 22), some (.int (nI m)), some (.int (nI pc)), some (.int (nI 19)), some (.int (x)), some (.int (en (topO r h)))] [] (((σ.set (22) (.inr (7, [.int (fa), .ref 23, .ref 24, .ref 25, .ref 26, .ref 27, .ref 28, .ref 29, .ref 30, .ref 31, .ref 32, .ref 33, .ref 34, .ref 35, .ref 36, .ref 37, .int (vf), .int (wh), .int (wy), .ref 38, .ref 39, .ref 40, .ref 41, .int (nI ((h) - (1))), .ref 42, .ref 43, .ref 44, .ref 45, .ref 46, .ref 47, .ref 48, .ref 49, .int (dp), .ref 50, .ref 51, .ref 52, .int (md), .int (ov), .int (oh), .int (dn), .int (an)]))).set (41) (.inl (0, 8, .inl (fun j => en ((va_up sk ((h) - (1)) (some 1)) j))))).set (22) (.inr (7, [.int (fa), .ref 23, .ref 24, .ref 25, .ref 26, .ref 27, .ref 28, .ref 29, .ref 30, .ref 31, .ref 32, .ref 33, .ref 34, .ref 35, .ref 36, .ref 37, .int (vf), .int (wh), .int (wy), .ref 38, .ref 39, .ref 40, .ref 41, .int (nI ((h) - (1) + 1)), .ref 42, .ref 43, .ref 44, .ref 45, .ref 46, .ref 47, .ref 48, .ref 49, .int (dp), .ref 50, .ref 51, .ref 52, .int (md), .int (ov), .int (oh), .int (dn), .int (an)]))) P
    refine er_goto 242 d_Mo_pass_204 (by decide) ?_
    exact er_vret d_Mo_pass_242 rfl (hT _ _ _ (hrl.low htk).psh hlo (ob_up hsk (ob_s (by omega))) (hmb.s22.s41.s22) (((FrM.refl.set (by omega)).set (by omega)).set (by omega))) (by decide) (by decide)
theorem mo_pass_20 (hl : l.stackTraces = false) {P : jl_O → jl_S → Prop} {m pc h : Nat} {r : Rw} {x : Int32} (hmb : MB σ tb pr ow ft hs u1 u2 ur ul uo ua uc us ut uk fa vf wh wy (nI h) dp md ov oh dn an lo sk kp mm fm) (hok : WoOk tb pr ow fi) (hK : MoK u1 u2 ur ul uo uc us ut uk) (hm : m < 24) (hpc : pc < 24) (ho : uo (24 * m + pc) = 20) (hx : ua (24 * m + pc) = x) (hrl : RlM r lo sk h) (hrv : rv r h) (hlo : ∀ j, ob 16 (lo j)) (hsk : ∀ j, ob 16 (sk j)) (htk : 2 ≤ h) (hp5 : h - 2 + 1 ≤ 5) (hT : ∀ lo' sk' σ', RlM (psh (low r h 2) (h - 2) (some 0)) lo' sk' (h - 2 + 1) → (∀ j, ob 16 (lo' j)) → (∀ j, ob 16 (sk' j)) → MB σ' tb pr ow ft hs u1 u2 ur ul uo ua uc us ut uk fa vf wh wy (nI (h - 2 + 1)) dp md ov oh dn an lo' sk' kp mm fm → FrM σ σ' → P (.inl none) σ') : jl_mE l G m_Mo_pass [.ref 22, .int (nI m), .int (nI pc)] σ P := by
  obtain ⟨hO, hw, hu, hr, hkp, hmp, hfm⟩ := id hmb; obtain ⟨r1, r2⟩ := id hr
  obtain ⟨h23, h24, h25, h26, h27⟩ := id hw
  obtain ⟨h28, h29, h30, h31, h32, h33, h34, h35, h36, h37⟩ := id hu
  obtain ⟨hk1, hk2, hk3, hk4, hk5, hk6⟩ := hK.1 m hm
  have hh5 := hrv.2.1
  refine jl_ofE (as := [.ref 22, .int (nI m), .int (nI pc)]) rfl (by decide) hl (jl_cc rfl (jl_cc rfl (jl_cc rfl jl_ca))) (Nat.le_of_ble_eq_true rfl) ?_
  show jl_E l G m_Mo_pass (0, 0) 0 [some (.ref 22), some (.int (nI m)), some (.int (nI pc)), none, none, none] [] (σ) P
  refine er_aload_n d_Mo_pass_0 rfl ?_
  refine er_getf d_Mo_pass_1 f_Mo_pass_38 hO rfl ?_
  refine er_bipush ((nI (24))) d_Mo_pass_4 (by decide) ?_
  refine er_iload_n d_Mo_pass_6 rfl ?_
  refine er_imulN d_Mo_pass_7 ?_
  refine er_iload_n d_Mo_pass_8 rfl ?_
  refine er_iaddN d_Mo_pass_9 ?_
  refine er_ialdQ (v := (nI (20))) d_Mo_pass_10 h32 (by omega) (by omega) (congrArg nI ho) ?_
  refine er_istore_n d_Mo_pass_11 (by decide) ?_
  show jl_E l G m_Mo_pass (0, 0) 12 [some (.ref 22), some (.int (nI m)), some (.int (nI pc)), some (.int (nI 20)), none, none] [] (σ) P
  refine er_aload_n d_Mo_pass_12 rfl ?_
  refine er_getf d_Mo_pass_13 f_Mo_pass_41 hO rfl ?_
  refine er_bipush ((nI (24))) d_Mo_pass_16 (by decide) ?_
  refine er_iload_n d_Mo_pass_18 rfl ?_
  refine er_imulN d_Mo_pass_19 ?_
  refine er_iload_n d_Mo_pass_20 rfl ?_
  refine er_iaddN d_Mo_pass_21 ?_
  refine er_ialdQ (v := (x)) d_Mo_pass_22 h33 (by omega) (by omega) (hx) ?_
  refine er_istore d_Mo_pass_23 (by decide) ?_
  show jl_E l G m_Mo_pass (0, 0) 25 [some (.ref 22), some (.int (nI m)), some (.int (nI pc)), some (.int (nI 20)), some (.int (x)), none] [] (σ) P
  refine er_aload_n d_Mo_pass_25 rfl ?_
  refine er_getf d_Mo_pass_26 f_Mo_pass_179 hO rfl ?_
  refine er_if_leN 46 d_Mo_pass_29 (by decide) (by omega) (fun c1 => ?_) (fun c1 => ?_)
  · refine er_iconst ((-1)) d_Mo_pass_46 (by decide) ?_
    refine er_istore d_Mo_pass_47 (by decide) ?_
    show jl_E l G m_Mo_pass (0, 0) 49 [some (.ref 22), some (.int (nI m)), some (.int (nI pc)), some (.int (nI 20)), some (.int (x)), some (.int (-1))] [] (σ) P
    have htp : topO r h = none := by unfold topO; rw [if_pos (by omega)]
    rw [show (-1 : Int32) = en (topO r h) by rw [htp]; rfl]
    show jl_E l G m_Mo_pass (0, 0) 49 [some (.ref 22), some (.int (nI m)), some (.int (nI pc)), some (.int (nI 20)), some (.int (x)), some (.int (en (topO r h)))] [] (σ) P
    refine er_aload_n d_Mo_pass_49 rfl ?_
    refine er_dup d_Mo_pass_50 rfl ?_
    refine er_getf d_Mo_pass_51 f_Mo_pass_179 hO rfl ?_
    refine er_aload_n d_Mo_pass_54 rfl ?_
    refine er_iload_n d_Mo_pass_55 rfl ?_
    refine er_iload d_Mo_pass_56 rfl ?_
    refine er_callV (As := [.int (nI 20), .int (x)]) d_Mo_pass_58 k_Mo_pass_176 hO rfl rfl rfl (Nat.le_of_ble_eq_true rfl) (by decide) (by decide) (mo_tk_20 hl hO hw hu) ?_
    show jl_E l G m_Mo_pass (0, 0) 61 [some (.ref 22), some (.int (nI m)), some (.int (nI pc)), some (.int (nI 20)), some (.int (x)), some (.int (en (topO r h)))] [.int (nI 2), .int (nI h), .ref 22] (σ) P
    refine er_isubN d_Mo_pass_61 (by omega) ?_
    refine er_putf d_Mo_pass_62 p_Mo_pass_179 hO (Nat.le_of_ble_eq_true rfl) jl_fit_int ?_
    show jl_E l G m_Mo_pass (0, 0) 65 [some (.ref 22), some (.int (nI m)), some (.int (nI pc)), some (.int (nI 20)), some (.int (x)), some (.int (en (topO r h)))] [] (σ.set (22) (.inr (7, [.int (fa), .ref 23, .ref 24, .ref 25, .ref 26, .ref 27, .ref 28, .ref 29, .ref 30, .ref 31, .ref 32, .ref 33, .ref 34, .ref 35, .ref 36, .ref 37, .int (vf), .int (wh), .int (wy), .ref 38, .ref 39, .ref 40, .ref 41, .int (nI ((h) - (2))), .ref 42, .ref 43, .ref 44, .ref 45, .ref 46, .ref 47, .ref 48, .ref 49, .int (dp), .ref 50, .ref 51, .ref 52, .int (md), .int (ov), .int (oh), .int (dn), .int (an)]))) P
    refine er_iload_n d_Mo_pass_65 rfl ?_
    refine er_iconst ((nI (2))) d_Mo_pass_66 (by decide) ?_
    refine er_icmp_ne 79 d_Mo_pass_67 (by decide) (fun _ => ?_) (fun z => absurd z (by decide))
    refine er_iload_n d_Mo_pass_79 rfl ?_
    refine er_iconst ((nI (1))) d_Mo_pass_80 (by decide) ?_
    refine er_icmp_ne 98 d_Mo_pass_81 (by decide) (fun _ => ?_) (fun z => absurd z (by decide))
    refine er_iload_n d_Mo_pass_98 rfl ?_
    refine er_bipush ((nI (10))) d_Mo_pass_99 (by decide) ?_
    refine er_icmp_ne 112 d_Mo_pass_101 (by decide) (fun _ => ?_) (fun z => absurd z (by decide))
    refine er_iload_n d_Mo_pass_112 rfl ?_
    refine er_bipush ((nI (11))) d_Mo_pass_113 (by decide) ?_
    refine er_icmp_eq 124 d_Mo_pass_115 (by decide) (fun z => absurd z (by decide)) (fun _ => ?_)
    refine er_iload_n d_Mo_pass_118 rfl ?_
    refine er_bipush ((nI (15))) d_Mo_pass_119 (by decide) ?_
    refine er_icmp_ne 136 d_Mo_pass_121 (by decide) (fun _ => ?_) (fun z => absurd z (by decide))
    refine er_iload_n d_Mo_pass_136 rfl ?_
    refine er_bipush ((nI (12))) d_Mo_pass_137 (by decide) ?_
    refine er_icmp_ne 163 d_Mo_pass_139 (by decide) (fun _ => ?_) (fun z => absurd z (by decide))
    refine er_iload_n d_Mo_pass_163 rfl ?_
    refine er_bipush ((nI (14))) d_Mo_pass_164 (by decide) ?_
    refine er_icmp_ne 193 d_Mo_pass_166 (by decide) (fun _ => ?_) (fun z => absurd z (by decide))
    refine er_iload_n d_Mo_pass_193 rfl ?_
    refine er_bipush ((nI (19))) d_Mo_pass_194 (by decide) ?_
    refine er_icmp_ne 207 d_Mo_pass_196 (by decide) (fun _ => ?_) (fun z => absurd z (by decide))
    refine er_iload_n d_Mo_pass_207 rfl ?_
    refine er_bipush ((nI (24))) d_Mo_pass_208 (by decide) ?_
    refine er_icmp_ne 228 d_Mo_pass_210 (by decide) (fun _ => ?_) (fun z => absurd z (by decide))
    refine er_aload_n d_Mo_pass_228 rfl ?_
    refine er_iload_n d_Mo_pass_229 rfl ?_
    refine er_callV (As := [.int (nI 20)]) d_Mo_pass_230 k_Mo_pass_182 (jl_ss hO) rfl rfl rfl (Nat.le_of_ble_eq_true rfl) (by decide) (by decide) (mo_puts hl (hmb.s22).1 (hmb.s22).2.1 (by omega)) ?_
    show jl_E l G m_Mo_pass (0, 0) 233 [some (.ref 22), some (.int (nI m)), some (.int (nI pc)), some (.int (nI 20)), some (.int (x)), some (.int (en (topO r h)))] [.int (nI 1)] (σ.set (22) (.inr (7, [.int (fa), .ref 23, .ref 24, .ref 25, .ref 26, .ref 27, .ref 28, .ref 29, .ref 30, .ref 31, .ref 32, .ref 33, .ref 34, .ref 35, .ref 36, .ref 37, .int (vf), .int (wh), .int (wy), .ref 38, .ref 39, .ref 40, .ref 41, .int (nI ((h) - (2))), .ref 42, .ref 43, .ref 44, .ref 45, .ref 46, .ref 47, .ref 48, .ref 49, .int (dp), .ref 50, .ref 51, .ref 52, .int (md), .int (ov), .int (oh), .int (dn), .int (an)]))) P
    refine er_iconst ((nI (1))) d_Mo_pass_233 (by decide) ?_
    refine er_icmp_ne 242 d_Mo_pass_234 (by decide) (fun z => absurd rfl z) (fun _ => ?_)
    refine er_aload_n d_Mo_pass_237 rfl ?_
    refine er_iconst ((nI (0))) d_Mo_pass_238 (by decide) ?_
    refine er_callV (As := [.int (nI 0)]) d_Mo_pass_239 k_Mo_pass_192 (jl_ss hO) rfl rfl rfl (Nat.le_of_ble_eq_true rfl) (by decide) (by decide) (mo_push (h := (h) - (2)) (t := (some 0)) hl (hmb.s22).1 (hmb.s22).2.2.2.1.2 (by omega)) ?_
    show jl_E l G m_Mo_pass (0, 0) 242 [some (.ref 22), some (.int (nI m)), some (.int (nI pc)), some (.int (nI 20)), some (.int (x)), some (.int (en (topO r h)))] [] (((σ.set (22) (.inr (7, [.int (fa), .ref 23, .ref 24, .ref 25, .ref 26, .ref 27, .ref 28, .ref 29, .ref 30, .ref 31, .ref 32, .ref 33, .ref 34, .ref 35, .ref 36, .ref 37, .int (vf), .int (wh), .int (wy), .ref 38, .ref 39, .ref 40, .ref 41, .int (nI ((h) - (2))), .ref 42, .ref 43, .ref 44, .ref 45, .ref 46, .ref 47, .ref 48, .ref 49, .int (dp), .ref 50, .ref 51, .ref 52, .int (md), .int (ov), .int (oh), .int (dn), .int (an)]))).set (41) (.inl (0, 8, .inl (fun j => en ((va_up sk ((h) - (2)) (some 0)) j))))).set (22) (.inr (7, [.int (fa), .ref 23, .ref 24, .ref 25, .ref 26, .ref 27, .ref 28, .ref 29, .ref 30, .ref 31, .ref 32, .ref 33, .ref 34, .ref 35, .ref 36, .ref 37, .int (vf), .int (wh), .int (wy), .ref 38, .ref 39, .ref 40, .ref 41, .int (nI ((h) - (2) + 1)), .ref 42, .ref 43, .ref 44, .ref 45, .ref 46, .ref 47, .ref 48, .ref 49, .int (dp), .ref 50, .ref 51, .ref 52, .int (md), .int (ov), .int (oh), .int (dn), .int (an)]))) P
    exact er_vret d_Mo_pass_242 rfl (hT _ _ _ (hrl.low htk).psh hlo (ob_up hsk (ob_s (by omega))) (hmb.s22.s41.s22) (((FrM.refl.set (by omega)).set (by omega)).set (by omega))) (by decide) (by decide)
  · refine er_aload_n d_Mo_pass_32 rfl ?_
    refine er_getf d_Mo_pass_33 f_Mo_pass_72 hO rfl ?_
    refine er_aload_n d_Mo_pass_36 rfl ?_
    refine er_getf d_Mo_pass_37 f_Mo_pass_179 hO rfl ?_
    refine er_iconst ((nI (1))) d_Mo_pass_40 (by decide) ?_
    refine er_isubN d_Mo_pass_41 (by omega) ?_
    refine er_ialdQ (v := (en (topO r h))) d_Mo_pass_42 r2 (by omega) (by omega) (congrArg en (show sk (h - 1) = topO r h by unfold topO; rw [if_neg (by omega), hrl.2 (h - 1) (by omega)]; congr 1; omega)) ?_
    refine er_goto 47 d_Mo_pass_43 (by decide) ?_
    refine er_istore d_Mo_pass_47 (by decide) ?_
    show jl_E l G m_Mo_pass (0, 0) 49 [some (.ref 22), some (.int (nI m)), some (.int (nI pc)), some (.int (nI 20)), some (.int (x)), some (.int (en (topO r h)))] [] (σ) P
    refine er_aload_n d_Mo_pass_49 rfl ?_
    refine er_dup d_Mo_pass_50 rfl ?_
    refine er_getf d_Mo_pass_51 f_Mo_pass_179 hO rfl ?_
    refine er_aload_n d_Mo_pass_54 rfl ?_
    refine er_iload_n d_Mo_pass_55 rfl ?_
    refine er_iload d_Mo_pass_56 rfl ?_
    refine er_callV (As := [.int (nI 20), .int (x)]) d_Mo_pass_58 k_Mo_pass_176 hO rfl rfl rfl (Nat.le_of_ble_eq_true rfl) (by decide) (by decide) (mo_tk_20 hl hO hw hu) ?_
    show jl_E l G m_Mo_pass (0, 0) 61 [some (.ref 22), some (.int (nI m)), some (.int (nI pc)), some (.int (nI 20)), some (.int (x)), some (.int (en (topO r h)))] [.int (nI 2), .int (nI h), .ref 22] (σ) P
    refine er_isubN d_Mo_pass_61 (by omega) ?_
    refine er_putf d_Mo_pass_62 p_Mo_pass_179 hO (Nat.le_of_ble_eq_true rfl) jl_fit_int ?_
    show jl_E l G m_Mo_pass (0, 0) 65 [some (.ref 22), some (.int (nI m)), some (.int (nI pc)), some (.int (nI 20)), some (.int (x)), some (.int (en (topO r h)))] [] (σ.set (22) (.inr (7, [.int (fa), .ref 23, .ref 24, .ref 25, .ref 26, .ref 27, .ref 28, .ref 29, .ref 30, .ref 31, .ref 32, .ref 33, .ref 34, .ref 35, .ref 36, .ref 37, .int (vf), .int (wh), .int (wy), .ref 38, .ref 39, .ref 40, .ref 41, .int (nI ((h) - (2))), .ref 42, .ref 43, .ref 44, .ref 45, .ref 46, .ref 47, .ref 48, .ref 49, .int (dp), .ref 50, .ref 51, .ref 52, .int (md), .int (ov), .int (oh), .int (dn), .int (an)]))) P
    refine er_iload_n d_Mo_pass_65 rfl ?_
    refine er_iconst ((nI (2))) d_Mo_pass_66 (by decide) ?_
    refine er_icmp_ne 79 d_Mo_pass_67 (by decide) (fun _ => ?_) (fun z => absurd z (by decide))
    refine er_iload_n d_Mo_pass_79 rfl ?_
    refine er_iconst ((nI (1))) d_Mo_pass_80 (by decide) ?_
    refine er_icmp_ne 98 d_Mo_pass_81 (by decide) (fun _ => ?_) (fun z => absurd z (by decide))
    refine er_iload_n d_Mo_pass_98 rfl ?_
    refine er_bipush ((nI (10))) d_Mo_pass_99 (by decide) ?_
    refine er_icmp_ne 112 d_Mo_pass_101 (by decide) (fun _ => ?_) (fun z => absurd z (by decide))
    refine er_iload_n d_Mo_pass_112 rfl ?_
    refine er_bipush ((nI (11))) d_Mo_pass_113 (by decide) ?_
    refine er_icmp_eq 124 d_Mo_pass_115 (by decide) (fun z => absurd z (by decide)) (fun _ => ?_)
    refine er_iload_n d_Mo_pass_118 rfl ?_
    refine er_bipush ((nI (15))) d_Mo_pass_119 (by decide) ?_
    refine er_icmp_ne 136 d_Mo_pass_121 (by decide) (fun _ => ?_) (fun z => absurd z (by decide))
    refine er_iload_n d_Mo_pass_136 rfl ?_
    refine er_bipush ((nI (12))) d_Mo_pass_137 (by decide) ?_
    refine er_icmp_ne 163 d_Mo_pass_139 (by decide) (fun _ => ?_) (fun z => absurd z (by decide))
    refine er_iload_n d_Mo_pass_163 rfl ?_
    refine er_bipush ((nI (14))) d_Mo_pass_164 (by decide) ?_
    refine er_icmp_ne 193 d_Mo_pass_166 (by decide) (fun _ => ?_) (fun z => absurd z (by decide))
    refine er_iload_n d_Mo_pass_193 rfl ?_
    refine er_bipush ((nI (19))) d_Mo_pass_194 (by decide) ?_
    refine er_icmp_ne 207 d_Mo_pass_196 (by decide) (fun _ => ?_) (fun z => absurd z (by decide))
    refine er_iload_n d_Mo_pass_207 rfl ?_
    refine er_bipush ((nI (24))) d_Mo_pass_208 (by decide) ?_
    refine er_icmp_ne 228 d_Mo_pass_210 (by decide) (fun _ => ?_) (fun z => absurd z (by decide))
    refine er_aload_n d_Mo_pass_228 rfl ?_
    refine er_iload_n d_Mo_pass_229 rfl ?_
    refine er_callV (As := [.int (nI 20)]) d_Mo_pass_230 k_Mo_pass_182 (jl_ss hO) rfl rfl rfl (Nat.le_of_ble_eq_true rfl) (by decide) (by decide) (mo_puts hl (hmb.s22).1 (hmb.s22).2.1 (by omega)) ?_
    show jl_E l G m_Mo_pass (0, 0) 233 [some (.ref 22), some (.int (nI m)), some (.int (nI pc)), some (.int (nI 20)), some (.int (x)), some (.int (en (topO r h)))] [.int (nI 1)] (σ.set (22) (.inr (7, [.int (fa), .ref 23, .ref 24, .ref 25, .ref 26, .ref 27, .ref 28, .ref 29, .ref 30, .ref 31, .ref 32, .ref 33, .ref 34, .ref 35, .ref 36, .ref 37, .int (vf), .int (wh), .int (wy), .ref 38, .ref 39, .ref 40, .ref 41, .int (nI ((h) - (2))), .ref 42, .ref 43, .ref 44, .ref 45, .ref 46, .ref 47, .ref 48, .ref 49, .int (dp), .ref 50, .ref 51, .ref 52, .int (md), .int (ov), .int (oh), .int (dn), .int (an)]))) P
    refine er_iconst ((nI (1))) d_Mo_pass_233 (by decide) ?_
    refine er_icmp_ne 242 d_Mo_pass_234 (by decide) (fun z => absurd rfl z) (fun _ => ?_)
    refine er_aload_n d_Mo_pass_237 rfl ?_
    refine er_iconst ((nI (0))) d_Mo_pass_238 (by decide) ?_
    refine er_callV (As := [.int (nI 0)]) d_Mo_pass_239 k_Mo_pass_192 (jl_ss hO) rfl rfl rfl (Nat.le_of_ble_eq_true rfl) (by decide) (by decide) (mo_push (h := (h) - (2)) (t := (some 0)) hl (hmb.s22).1 (hmb.s22).2.2.2.1.2 (by omega)) ?_
    show jl_E l G m_Mo_pass (0, 0) 242 [some (.ref 22), some (.int (nI m)), some (.int (nI pc)), some (.int (nI 20)), some (.int (x)), some (.int (en (topO r h)))] [] (((σ.set (22) (.inr (7, [.int (fa), .ref 23, .ref 24, .ref 25, .ref 26, .ref 27, .ref 28, .ref 29, .ref 30, .ref 31, .ref 32, .ref 33, .ref 34, .ref 35, .ref 36, .ref 37, .int (vf), .int (wh), .int (wy), .ref 38, .ref 39, .ref 40, .ref 41, .int (nI ((h) - (2))), .ref 42, .ref 43, .ref 44, .ref 45, .ref 46, .ref 47, .ref 48, .ref 49, .int (dp), .ref 50, .ref 51, .ref 52, .int (md), .int (ov), .int (oh), .int (dn), .int (an)]))).set (41) (.inl (0, 8, .inl (fun j => en ((va_up sk ((h) - (2)) (some 0)) j))))).set (22) (.inr (7, [.int (fa), .ref 23, .ref 24, .ref 25, .ref 26, .ref 27, .ref 28, .ref 29, .ref 30, .ref 31, .ref 32, .ref 33, .ref 34, .ref 35, .ref 36, .ref 37, .int (vf), .int (wh), .int (wy), .ref 38, .ref 39, .ref 40, .ref 41, .int (nI ((h) - (2) + 1)), .ref 42, .ref 43, .ref 44, .ref 45, .ref 46, .ref 47, .ref 48, .ref 49, .int (dp), .ref 50, .ref 51, .ref 52, .int (md), .int (ov), .int (oh), .int (dn), .int (an)]))) P
    exact er_vret d_Mo_pass_242 rfl (hT _ _ _ (hrl.low htk).psh hlo (ob_up hsk (ob_s (by omega))) (hmb.s22.s41.s22) (((FrM.refl.set (by omega)).set (by omega)).set (by omega))) (by decide) (by decide)
theorem mo_pass_21 (hl : l.stackTraces = false) {P : jl_O → jl_S → Prop} {m pc h : Nat} {r : Rw} {x : Int32} (hmb : MB σ tb pr ow ft hs u1 u2 ur ul uo ua uc us ut uk fa vf wh wy (nI h) dp md ov oh dn an lo sk kp mm fm) (hok : WoOk tb pr ow fi) (hK : MoK u1 u2 ur ul uo uc us ut uk) (hm : m < 24) (hpc : pc < 24) (ho : uo (24 * m + pc) = 21) (hx : ua (24 * m + pc) = x) (hrl : RlM r lo sk h) (hrv : rv r h) (hlo : ∀ j, ob 16 (lo j)) (hsk : ∀ j, ob 16 (sk j)) (htk : 3 ≤ h) (hp5 : h - 3 + 0 ≤ 5) (hT : ∀ lo' sk' σ', RlM (low r h 3) lo' sk' (h - 3) → (∀ j, ob 16 (lo' j)) → (∀ j, ob 16 (sk' j)) → MB σ' tb pr ow ft hs u1 u2 ur ul uo ua uc us ut uk fa vf wh wy (nI (h - 3)) dp md ov oh dn an lo' sk' kp mm fm → FrM σ σ' → P (.inl none) σ') : jl_mE l G m_Mo_pass [.ref 22, .int (nI m), .int (nI pc)] σ P := by
  obtain ⟨hO, hw, hu, hr, hkp, hmp, hfm⟩ := id hmb; obtain ⟨r1, r2⟩ := id hr
  obtain ⟨h23, h24, h25, h26, h27⟩ := id hw
  obtain ⟨h28, h29, h30, h31, h32, h33, h34, h35, h36, h37⟩ := id hu
  obtain ⟨hk1, hk2, hk3, hk4, hk5, hk6⟩ := hK.1 m hm
  have hh5 := hrv.2.1
  refine jl_ofE (as := [.ref 22, .int (nI m), .int (nI pc)]) rfl (by decide) hl (jl_cc rfl (jl_cc rfl (jl_cc rfl jl_ca))) (Nat.le_of_ble_eq_true rfl) ?_
  show jl_E l G m_Mo_pass (0, 0) 0 [some (.ref 22), some (.int (nI m)), some (.int (nI pc)), none, none, none] [] (σ) P
  refine er_aload_n d_Mo_pass_0 rfl ?_
  refine er_getf d_Mo_pass_1 f_Mo_pass_38 hO rfl ?_
  refine er_bipush ((nI (24))) d_Mo_pass_4 (by decide) ?_
  refine er_iload_n d_Mo_pass_6 rfl ?_
  refine er_imulN d_Mo_pass_7 ?_
  refine er_iload_n d_Mo_pass_8 rfl ?_
  refine er_iaddN d_Mo_pass_9 ?_
  refine er_ialdQ (v := (nI (21))) d_Mo_pass_10 h32 (by omega) (by omega) (congrArg nI ho) ?_
  refine er_istore_n d_Mo_pass_11 (by decide) ?_
  show jl_E l G m_Mo_pass (0, 0) 12 [some (.ref 22), some (.int (nI m)), some (.int (nI pc)), some (.int (nI 21)), none, none] [] (σ) P
  refine er_aload_n d_Mo_pass_12 rfl ?_
  refine er_getf d_Mo_pass_13 f_Mo_pass_41 hO rfl ?_
  refine er_bipush ((nI (24))) d_Mo_pass_16 (by decide) ?_
  refine er_iload_n d_Mo_pass_18 rfl ?_
  refine er_imulN d_Mo_pass_19 ?_
  refine er_iload_n d_Mo_pass_20 rfl ?_
  refine er_iaddN d_Mo_pass_21 ?_
  refine er_ialdQ (v := (x)) d_Mo_pass_22 h33 (by omega) (by omega) (hx) ?_
  refine er_istore d_Mo_pass_23 (by decide) ?_
  show jl_E l G m_Mo_pass (0, 0) 25 [some (.ref 22), some (.int (nI m)), some (.int (nI pc)), some (.int (nI 21)), some (.int (x)), none] [] (σ) P
  refine er_aload_n d_Mo_pass_25 rfl ?_
  refine er_getf d_Mo_pass_26 f_Mo_pass_179 hO rfl ?_
  refine er_if_leN 46 d_Mo_pass_29 (by decide) (by omega) (fun c1 => ?_) (fun c1 => ?_)
  · refine er_iconst ((-1)) d_Mo_pass_46 (by decide) ?_
    refine er_istore d_Mo_pass_47 (by decide) ?_
    show jl_E l G m_Mo_pass (0, 0) 49 [some (.ref 22), some (.int (nI m)), some (.int (nI pc)), some (.int (nI 21)), some (.int (x)), some (.int (-1))] [] (σ) P
    have htp : topO r h = none := by unfold topO; rw [if_pos (by omega)]
    rw [show (-1 : Int32) = en (topO r h) by rw [htp]; rfl]
    show jl_E l G m_Mo_pass (0, 0) 49 [some (.ref 22), some (.int (nI m)), some (.int (nI pc)), some (.int (nI 21)), some (.int (x)), some (.int (en (topO r h)))] [] (σ) P
    refine er_aload_n d_Mo_pass_49 rfl ?_
    refine er_dup d_Mo_pass_50 rfl ?_
    refine er_getf d_Mo_pass_51 f_Mo_pass_179 hO rfl ?_
    refine er_aload_n d_Mo_pass_54 rfl ?_
    refine er_iload_n d_Mo_pass_55 rfl ?_
    refine er_iload d_Mo_pass_56 rfl ?_
    refine er_callV (As := [.int (nI 21), .int (x)]) d_Mo_pass_58 k_Mo_pass_176 hO rfl rfl rfl (Nat.le_of_ble_eq_true rfl) (by decide) (by decide) (mo_tk_21 hl hO hw hu) ?_
    show jl_E l G m_Mo_pass (0, 0) 61 [some (.ref 22), some (.int (nI m)), some (.int (nI pc)), some (.int (nI 21)), some (.int (x)), some (.int (en (topO r h)))] [.int (nI 3), .int (nI h), .ref 22] (σ) P
    refine er_isubN d_Mo_pass_61 (by omega) ?_
    refine er_putf d_Mo_pass_62 p_Mo_pass_179 hO (Nat.le_of_ble_eq_true rfl) jl_fit_int ?_
    show jl_E l G m_Mo_pass (0, 0) 65 [some (.ref 22), some (.int (nI m)), some (.int (nI pc)), some (.int (nI 21)), some (.int (x)), some (.int (en (topO r h)))] [] (σ.set (22) (.inr (7, [.int (fa), .ref 23, .ref 24, .ref 25, .ref 26, .ref 27, .ref 28, .ref 29, .ref 30, .ref 31, .ref 32, .ref 33, .ref 34, .ref 35, .ref 36, .ref 37, .int (vf), .int (wh), .int (wy), .ref 38, .ref 39, .ref 40, .ref 41, .int (nI ((h) - (3))), .ref 42, .ref 43, .ref 44, .ref 45, .ref 46, .ref 47, .ref 48, .ref 49, .int (dp), .ref 50, .ref 51, .ref 52, .int (md), .int (ov), .int (oh), .int (dn), .int (an)]))) P
    refine er_iload_n d_Mo_pass_65 rfl ?_
    refine er_iconst ((nI (2))) d_Mo_pass_66 (by decide) ?_
    refine er_icmp_ne 79 d_Mo_pass_67 (by decide) (fun _ => ?_) (fun z => absurd z (by decide))
    refine er_iload_n d_Mo_pass_79 rfl ?_
    refine er_iconst ((nI (1))) d_Mo_pass_80 (by decide) ?_
    refine er_icmp_ne 98 d_Mo_pass_81 (by decide) (fun _ => ?_) (fun z => absurd z (by decide))
    refine er_iload_n d_Mo_pass_98 rfl ?_
    refine er_bipush ((nI (10))) d_Mo_pass_99 (by decide) ?_
    refine er_icmp_ne 112 d_Mo_pass_101 (by decide) (fun _ => ?_) (fun z => absurd z (by decide))
    refine er_iload_n d_Mo_pass_112 rfl ?_
    refine er_bipush ((nI (11))) d_Mo_pass_113 (by decide) ?_
    refine er_icmp_eq 124 d_Mo_pass_115 (by decide) (fun z => absurd z (by decide)) (fun _ => ?_)
    refine er_iload_n d_Mo_pass_118 rfl ?_
    refine er_bipush ((nI (15))) d_Mo_pass_119 (by decide) ?_
    refine er_icmp_ne 136 d_Mo_pass_121 (by decide) (fun _ => ?_) (fun z => absurd z (by decide))
    refine er_iload_n d_Mo_pass_136 rfl ?_
    refine er_bipush ((nI (12))) d_Mo_pass_137 (by decide) ?_
    refine er_icmp_ne 163 d_Mo_pass_139 (by decide) (fun _ => ?_) (fun z => absurd z (by decide))
    refine er_iload_n d_Mo_pass_163 rfl ?_
    refine er_bipush ((nI (14))) d_Mo_pass_164 (by decide) ?_
    refine er_icmp_ne 193 d_Mo_pass_166 (by decide) (fun _ => ?_) (fun z => absurd z (by decide))
    refine er_iload_n d_Mo_pass_193 rfl ?_
    refine er_bipush ((nI (19))) d_Mo_pass_194 (by decide) ?_
    refine er_icmp_ne 207 d_Mo_pass_196 (by decide) (fun _ => ?_) (fun z => absurd z (by decide))
    refine er_iload_n d_Mo_pass_207 rfl ?_
    refine er_bipush ((nI (24))) d_Mo_pass_208 (by decide) ?_
    refine er_icmp_ne 228 d_Mo_pass_210 (by decide) (fun _ => ?_) (fun z => absurd z (by decide))
    refine er_aload_n d_Mo_pass_228 rfl ?_
    refine er_iload_n d_Mo_pass_229 rfl ?_
    refine er_callV (As := [.int (nI 21)]) d_Mo_pass_230 k_Mo_pass_182 (jl_ss hO) rfl rfl rfl (Nat.le_of_ble_eq_true rfl) (by decide) (by decide) (mo_puts hl (hmb.s22).1 (hmb.s22).2.1 (by omega)) ?_
    show jl_E l G m_Mo_pass (0, 0) 233 [some (.ref 22), some (.int (nI m)), some (.int (nI pc)), some (.int (nI 21)), some (.int (x)), some (.int (en (topO r h)))] [.int (nI 0)] (σ.set (22) (.inr (7, [.int (fa), .ref 23, .ref 24, .ref 25, .ref 26, .ref 27, .ref 28, .ref 29, .ref 30, .ref 31, .ref 32, .ref 33, .ref 34, .ref 35, .ref 36, .ref 37, .int (vf), .int (wh), .int (wy), .ref 38, .ref 39, .ref 40, .ref 41, .int (nI ((h) - (3))), .ref 42, .ref 43, .ref 44, .ref 45, .ref 46, .ref 47, .ref 48, .ref 49, .int (dp), .ref 50, .ref 51, .ref 52, .int (md), .int (ov), .int (oh), .int (dn), .int (an)]))) P
    refine er_iconst ((nI (1))) d_Mo_pass_233 (by decide) ?_
    refine er_icmp_ne 242 d_Mo_pass_234 (by decide) (fun _ => ?_) (fun z => absurd z (by decide))
    exact er_vret d_Mo_pass_242 rfl (hT _ _ _ (hrl.low htk) hlo hsk (hmb.s22) (FrM.refl.set (by omega))) (by decide) (by decide)
  · refine er_aload_n d_Mo_pass_32 rfl ?_
    refine er_getf d_Mo_pass_33 f_Mo_pass_72 hO rfl ?_
    refine er_aload_n d_Mo_pass_36 rfl ?_
    refine er_getf d_Mo_pass_37 f_Mo_pass_179 hO rfl ?_
    refine er_iconst ((nI (1))) d_Mo_pass_40 (by decide) ?_
    refine er_isubN d_Mo_pass_41 (by omega) ?_
    refine er_ialdQ (v := (en (topO r h))) d_Mo_pass_42 r2 (by omega) (by omega) (congrArg en (show sk (h - 1) = topO r h by unfold topO; rw [if_neg (by omega), hrl.2 (h - 1) (by omega)]; congr 1; omega)) ?_
    refine er_goto 47 d_Mo_pass_43 (by decide) ?_
    refine er_istore d_Mo_pass_47 (by decide) ?_
    show jl_E l G m_Mo_pass (0, 0) 49 [some (.ref 22), some (.int (nI m)), some (.int (nI pc)), some (.int (nI 21)), some (.int (x)), some (.int (en (topO r h)))] [] (σ) P
    refine er_aload_n d_Mo_pass_49 rfl ?_
    refine er_dup d_Mo_pass_50 rfl ?_
    refine er_getf d_Mo_pass_51 f_Mo_pass_179 hO rfl ?_
    refine er_aload_n d_Mo_pass_54 rfl ?_
    refine er_iload_n d_Mo_pass_55 rfl ?_
    refine er_iload d_Mo_pass_56 rfl ?_
    refine er_callV (As := [.int (nI 21), .int (x)]) d_Mo_pass_58 k_Mo_pass_176 hO rfl rfl rfl (Nat.le_of_ble_eq_true rfl) (by decide) (by decide) (mo_tk_21 hl hO hw hu) ?_
    show jl_E l G m_Mo_pass (0, 0) 61 [some (.ref 22), some (.int (nI m)), some (.int (nI pc)), some (.int (nI 21)), some (.int (x)), some (.int (en (topO r h)))] [.int (nI 3), .int (nI h), .ref 22] (σ) P
    refine er_isubN d_Mo_pass_61 (by omega) ?_
    refine er_putf d_Mo_pass_62 p_Mo_pass_179 hO (Nat.le_of_ble_eq_true rfl) jl_fit_int ?_
    show jl_E l G m_Mo_pass (0, 0) 65 [some (.ref 22), some (.int (nI m)), some (.int (nI pc)), some (.int (nI 21)), some (.int (x)), some (.int (en (topO r h)))] [] (σ.set (22) (.inr (7, [.int (fa), .ref 23, .ref 24, .ref 25, .ref 26, .ref 27, .ref 28, .ref 29, .ref 30, .ref 31, .ref 32, .ref 33, .ref 34, .ref 35, .ref 36, .ref 37, .int (vf), .int (wh), .int (wy), .ref 38, .ref 39, .ref 40, .ref 41, .int (nI ((h) - (3))), .ref 42, .ref 43, .ref 44, .ref 45, .ref 46, .ref 47, .ref 48, .ref 49, .int (dp), .ref 50, .ref 51, .ref 52, .int (md), .int (ov), .int (oh), .int (dn), .int (an)]))) P
    refine er_iload_n d_Mo_pass_65 rfl ?_
    refine er_iconst ((nI (2))) d_Mo_pass_66 (by decide) ?_
    refine er_icmp_ne 79 d_Mo_pass_67 (by decide) (fun _ => ?_) (fun z => absurd z (by decide))
    refine er_iload_n d_Mo_pass_79 rfl ?_
    refine er_iconst ((nI (1))) d_Mo_pass_80 (by decide) ?_
    refine er_icmp_ne 98 d_Mo_pass_81 (by decide) (fun _ => ?_) (fun z => absurd z (by decide))
    refine er_iload_n d_Mo_pass_98 rfl ?_
    refine er_bipush ((nI (10))) d_Mo_pass_99 (by decide) ?_
    refine er_icmp_ne 112 d_Mo_pass_101 (by decide) (fun _ => ?_) (fun z => absurd z (by decide))
    refine er_iload_n d_Mo_pass_112 rfl ?_
    refine er_bipush ((nI (11))) d_Mo_pass_113 (by decide) ?_
    refine er_icmp_eq 124 d_Mo_pass_115 (by decide) (fun z => absurd z (by decide)) (fun _ => ?_)
    refine er_iload_n d_Mo_pass_118 rfl ?_
    refine er_bipush ((nI (15))) d_Mo_pass_119 (by decide) ?_
    refine er_icmp_ne 136 d_Mo_pass_121 (by decide) (fun _ => ?_) (fun z => absurd z (by decide))
    refine er_iload_n d_Mo_pass_136 rfl ?_
    refine er_bipush ((nI (12))) d_Mo_pass_137 (by decide) ?_
    refine er_icmp_ne 163 d_Mo_pass_139 (by decide) (fun _ => ?_) (fun z => absurd z (by decide))
    refine er_iload_n d_Mo_pass_163 rfl ?_
    refine er_bipush ((nI (14))) d_Mo_pass_164 (by decide) ?_
    refine er_icmp_ne 193 d_Mo_pass_166 (by decide) (fun _ => ?_) (fun z => absurd z (by decide))
    refine er_iload_n d_Mo_pass_193 rfl ?_
    refine er_bipush ((nI (19))) d_Mo_pass_194 (by decide) ?_
    refine er_icmp_ne 207 d_Mo_pass_196 (by decide) (fun _ => ?_) (fun z => absurd z (by decide))
    refine er_iload_n d_Mo_pass_207 rfl ?_
    refine er_bipush ((nI (24))) d_Mo_pass_208 (by decide) ?_
    refine er_icmp_ne 228 d_Mo_pass_210 (by decide) (fun _ => ?_) (fun z => absurd z (by decide))
    refine er_aload_n d_Mo_pass_228 rfl ?_
    refine er_iload_n d_Mo_pass_229 rfl ?_
    refine er_callV (As := [.int (nI 21)]) d_Mo_pass_230 k_Mo_pass_182 (jl_ss hO) rfl rfl rfl (Nat.le_of_ble_eq_true rfl) (by decide) (by decide) (mo_puts hl (hmb.s22).1 (hmb.s22).2.1 (by omega)) ?_
    show jl_E l G m_Mo_pass (0, 0) 233 [some (.ref 22), some (.int (nI m)), some (.int (nI pc)), some (.int (nI 21)), some (.int (x)), some (.int (en (topO r h)))] [.int (nI 0)] (σ.set (22) (.inr (7, [.int (fa), .ref 23, .ref 24, .ref 25, .ref 26, .ref 27, .ref 28, .ref 29, .ref 30, .ref 31, .ref 32, .ref 33, .ref 34, .ref 35, .ref 36, .ref 37, .int (vf), .int (wh), .int (wy), .ref 38, .ref 39, .ref 40, .ref 41, .int (nI ((h) - (3))), .ref 42, .ref 43, .ref 44, .ref 45, .ref 46, .ref 47, .ref 48, .ref 49, .int (dp), .ref 50, .ref 51, .ref 52, .int (md), .int (ov), .int (oh), .int (dn), .int (an)]))) P
    refine er_iconst ((nI (1))) d_Mo_pass_233 (by decide) ?_
    refine er_icmp_ne 242 d_Mo_pass_234 (by decide) (fun _ => ?_) (fun z => absurd z (by decide))
    exact er_vret d_Mo_pass_242 rfl (hT _ _ _ (hrl.low htk) hlo hsk (hmb.s22) (FrM.refl.set (by omega))) (by decide) (by decide)
theorem mo_pass_22 (hl : l.stackTraces = false) {P : jl_O → jl_S → Prop} {m pc h : Nat} {r : Rw} {x : Int32} (hmb : MB σ tb pr ow ft hs u1 u2 ur ul uo ua uc us ut uk fa vf wh wy (nI h) dp md ov oh dn an lo sk kp mm fm) (hok : WoOk tb pr ow fi) (hK : MoK u1 u2 ur ul uo uc us ut uk) (hm : m < 24) (hpc : pc < 24) (ho : uo (24 * m + pc) = 22) (hx : ua (24 * m + pc) = x) (hrl : RlM r lo sk h) (hrv : rv r h) (hlo : ∀ j, ob 16 (lo j)) (hsk : ∀ j, ob 16 (sk j)) (htk : 1 ≤ h) (hp5 : h - 1 + 1 ≤ 5) (hT : ∀ lo' sk' σ', RlM (psh (low r h 1) (h - 1) (some 0)) lo' sk' (h - 1 + 1) → (∀ j, ob 16 (lo' j)) → (∀ j, ob 16 (sk' j)) → MB σ' tb pr ow ft hs u1 u2 ur ul uo ua uc us ut uk fa vf wh wy (nI (h - 1 + 1)) dp md ov oh dn an lo' sk' kp mm fm → FrM σ σ' → P (.inl none) σ') : jl_mE l G m_Mo_pass [.ref 22, .int (nI m), .int (nI pc)] σ P := by
  obtain ⟨hO, hw, hu, hr, hkp, hmp, hfm⟩ := id hmb; obtain ⟨r1, r2⟩ := id hr
  obtain ⟨h23, h24, h25, h26, h27⟩ := id hw
  obtain ⟨h28, h29, h30, h31, h32, h33, h34, h35, h36, h37⟩ := id hu
  obtain ⟨hk1, hk2, hk3, hk4, hk5, hk6⟩ := hK.1 m hm
  have hh5 := hrv.2.1
  refine jl_ofE (as := [.ref 22, .int (nI m), .int (nI pc)]) rfl (by decide) hl (jl_cc rfl (jl_cc rfl (jl_cc rfl jl_ca))) (Nat.le_of_ble_eq_true rfl) ?_
  show jl_E l G m_Mo_pass (0, 0) 0 [some (.ref 22), some (.int (nI m)), some (.int (nI pc)), none, none, none] [] (σ) P
  refine er_aload_n d_Mo_pass_0 rfl ?_
  refine er_getf d_Mo_pass_1 f_Mo_pass_38 hO rfl ?_
  refine er_bipush ((nI (24))) d_Mo_pass_4 (by decide) ?_
  refine er_iload_n d_Mo_pass_6 rfl ?_
  refine er_imulN d_Mo_pass_7 ?_
  refine er_iload_n d_Mo_pass_8 rfl ?_
  refine er_iaddN d_Mo_pass_9 ?_
  refine er_ialdQ (v := (nI (22))) d_Mo_pass_10 h32 (by omega) (by omega) (congrArg nI ho) ?_
  refine er_istore_n d_Mo_pass_11 (by decide) ?_
  show jl_E l G m_Mo_pass (0, 0) 12 [some (.ref 22), some (.int (nI m)), some (.int (nI pc)), some (.int (nI 22)), none, none] [] (σ) P
  refine er_aload_n d_Mo_pass_12 rfl ?_
  refine er_getf d_Mo_pass_13 f_Mo_pass_41 hO rfl ?_
  refine er_bipush ((nI (24))) d_Mo_pass_16 (by decide) ?_
  refine er_iload_n d_Mo_pass_18 rfl ?_
  refine er_imulN d_Mo_pass_19 ?_
  refine er_iload_n d_Mo_pass_20 rfl ?_
  refine er_iaddN d_Mo_pass_21 ?_
  refine er_ialdQ (v := (x)) d_Mo_pass_22 h33 (by omega) (by omega) (hx) ?_
  refine er_istore d_Mo_pass_23 (by decide) ?_
  show jl_E l G m_Mo_pass (0, 0) 25 [some (.ref 22), some (.int (nI m)), some (.int (nI pc)), some (.int (nI 22)), some (.int (x)), none] [] (σ) P
  refine er_aload_n d_Mo_pass_25 rfl ?_
  refine er_getf d_Mo_pass_26 f_Mo_pass_179 hO rfl ?_
  refine er_if_leN 46 d_Mo_pass_29 (by decide) (by omega) (fun c1 => ?_) (fun c1 => ?_)
  · refine er_iconst ((-1)) d_Mo_pass_46 (by decide) ?_
    refine er_istore d_Mo_pass_47 (by decide) ?_
    show jl_E l G m_Mo_pass (0, 0) 49 [some (.ref 22), some (.int (nI m)), some (.int (nI pc)), some (.int (nI 22)), some (.int (x)), some (.int (-1))] [] (σ) P
    have htp : topO r h = none := by unfold topO; rw [if_pos (by omega)]
    rw [show (-1 : Int32) = en (topO r h) by rw [htp]; rfl]
    show jl_E l G m_Mo_pass (0, 0) 49 [some (.ref 22), some (.int (nI m)), some (.int (nI pc)), some (.int (nI 22)), some (.int (x)), some (.int (en (topO r h)))] [] (σ) P
    refine er_aload_n d_Mo_pass_49 rfl ?_
    refine er_dup d_Mo_pass_50 rfl ?_
    refine er_getf d_Mo_pass_51 f_Mo_pass_179 hO rfl ?_
    refine er_aload_n d_Mo_pass_54 rfl ?_
    refine er_iload_n d_Mo_pass_55 rfl ?_
    refine er_iload d_Mo_pass_56 rfl ?_
    refine er_callV (As := [.int (nI 22), .int (x)]) d_Mo_pass_58 k_Mo_pass_176 hO rfl rfl rfl (Nat.le_of_ble_eq_true rfl) (by decide) (by decide) (mo_tk_22 hl hO hw hu) ?_
    show jl_E l G m_Mo_pass (0, 0) 61 [some (.ref 22), some (.int (nI m)), some (.int (nI pc)), some (.int (nI 22)), some (.int (x)), some (.int (en (topO r h)))] [.int (nI 1), .int (nI h), .ref 22] (σ) P
    refine er_isubN d_Mo_pass_61 (by omega) ?_
    refine er_putf d_Mo_pass_62 p_Mo_pass_179 hO (Nat.le_of_ble_eq_true rfl) jl_fit_int ?_
    show jl_E l G m_Mo_pass (0, 0) 65 [some (.ref 22), some (.int (nI m)), some (.int (nI pc)), some (.int (nI 22)), some (.int (x)), some (.int (en (topO r h)))] [] (σ.set (22) (.inr (7, [.int (fa), .ref 23, .ref 24, .ref 25, .ref 26, .ref 27, .ref 28, .ref 29, .ref 30, .ref 31, .ref 32, .ref 33, .ref 34, .ref 35, .ref 36, .ref 37, .int (vf), .int (wh), .int (wy), .ref 38, .ref 39, .ref 40, .ref 41, .int (nI ((h) - (1))), .ref 42, .ref 43, .ref 44, .ref 45, .ref 46, .ref 47, .ref 48, .ref 49, .int (dp), .ref 50, .ref 51, .ref 52, .int (md), .int (ov), .int (oh), .int (dn), .int (an)]))) P
    refine er_iload_n d_Mo_pass_65 rfl ?_
    refine er_iconst ((nI (2))) d_Mo_pass_66 (by decide) ?_
    refine er_icmp_ne 79 d_Mo_pass_67 (by decide) (fun _ => ?_) (fun z => absurd z (by decide))
    refine er_iload_n d_Mo_pass_79 rfl ?_
    refine er_iconst ((nI (1))) d_Mo_pass_80 (by decide) ?_
    refine er_icmp_ne 98 d_Mo_pass_81 (by decide) (fun _ => ?_) (fun z => absurd z (by decide))
    refine er_iload_n d_Mo_pass_98 rfl ?_
    refine er_bipush ((nI (10))) d_Mo_pass_99 (by decide) ?_
    refine er_icmp_ne 112 d_Mo_pass_101 (by decide) (fun _ => ?_) (fun z => absurd z (by decide))
    refine er_iload_n d_Mo_pass_112 rfl ?_
    refine er_bipush ((nI (11))) d_Mo_pass_113 (by decide) ?_
    refine er_icmp_eq 124 d_Mo_pass_115 (by decide) (fun z => absurd z (by decide)) (fun _ => ?_)
    refine er_iload_n d_Mo_pass_118 rfl ?_
    refine er_bipush ((nI (15))) d_Mo_pass_119 (by decide) ?_
    refine er_icmp_ne 136 d_Mo_pass_121 (by decide) (fun _ => ?_) (fun z => absurd z (by decide))
    refine er_iload_n d_Mo_pass_136 rfl ?_
    refine er_bipush ((nI (12))) d_Mo_pass_137 (by decide) ?_
    refine er_icmp_ne 163 d_Mo_pass_139 (by decide) (fun _ => ?_) (fun z => absurd z (by decide))
    refine er_iload_n d_Mo_pass_163 rfl ?_
    refine er_bipush ((nI (14))) d_Mo_pass_164 (by decide) ?_
    refine er_icmp_ne 193 d_Mo_pass_166 (by decide) (fun _ => ?_) (fun z => absurd z (by decide))
    refine er_iload_n d_Mo_pass_193 rfl ?_
    refine er_bipush ((nI (19))) d_Mo_pass_194 (by decide) ?_
    refine er_icmp_ne 207 d_Mo_pass_196 (by decide) (fun _ => ?_) (fun z => absurd z (by decide))
    refine er_iload_n d_Mo_pass_207 rfl ?_
    refine er_bipush ((nI (24))) d_Mo_pass_208 (by decide) ?_
    refine er_icmp_ne 228 d_Mo_pass_210 (by decide) (fun _ => ?_) (fun z => absurd z (by decide))
    refine er_aload_n d_Mo_pass_228 rfl ?_
    refine er_iload_n d_Mo_pass_229 rfl ?_
    refine er_callV (As := [.int (nI 22)]) d_Mo_pass_230 k_Mo_pass_182 (jl_ss hO) rfl rfl rfl (Nat.le_of_ble_eq_true rfl) (by decide) (by decide) (mo_puts hl (hmb.s22).1 (hmb.s22).2.1 (by omega)) ?_
    show jl_E l G m_Mo_pass (0, 0) 233 [some (.ref 22), some (.int (nI m)), some (.int (nI pc)), some (.int (nI 22)), some (.int (x)), some (.int (en (topO r h)))] [.int (nI 1)] (σ.set (22) (.inr (7, [.int (fa), .ref 23, .ref 24, .ref 25, .ref 26, .ref 27, .ref 28, .ref 29, .ref 30, .ref 31, .ref 32, .ref 33, .ref 34, .ref 35, .ref 36, .ref 37, .int (vf), .int (wh), .int (wy), .ref 38, .ref 39, .ref 40, .ref 41, .int (nI ((h) - (1))), .ref 42, .ref 43, .ref 44, .ref 45, .ref 46, .ref 47, .ref 48, .ref 49, .int (dp), .ref 50, .ref 51, .ref 52, .int (md), .int (ov), .int (oh), .int (dn), .int (an)]))) P
    refine er_iconst ((nI (1))) d_Mo_pass_233 (by decide) ?_
    refine er_icmp_ne 242 d_Mo_pass_234 (by decide) (fun z => absurd rfl z) (fun _ => ?_)
    refine er_aload_n d_Mo_pass_237 rfl ?_
    refine er_iconst ((nI (0))) d_Mo_pass_238 (by decide) ?_
    refine er_callV (As := [.int (nI 0)]) d_Mo_pass_239 k_Mo_pass_192 (jl_ss hO) rfl rfl rfl (Nat.le_of_ble_eq_true rfl) (by decide) (by decide) (mo_push (h := (h) - (1)) (t := (some 0)) hl (hmb.s22).1 (hmb.s22).2.2.2.1.2 (by omega)) ?_
    show jl_E l G m_Mo_pass (0, 0) 242 [some (.ref 22), some (.int (nI m)), some (.int (nI pc)), some (.int (nI 22)), some (.int (x)), some (.int (en (topO r h)))] [] (((σ.set (22) (.inr (7, [.int (fa), .ref 23, .ref 24, .ref 25, .ref 26, .ref 27, .ref 28, .ref 29, .ref 30, .ref 31, .ref 32, .ref 33, .ref 34, .ref 35, .ref 36, .ref 37, .int (vf), .int (wh), .int (wy), .ref 38, .ref 39, .ref 40, .ref 41, .int (nI ((h) - (1))), .ref 42, .ref 43, .ref 44, .ref 45, .ref 46, .ref 47, .ref 48, .ref 49, .int (dp), .ref 50, .ref 51, .ref 52, .int (md), .int (ov), .int (oh), .int (dn), .int (an)]))).set (41) (.inl (0, 8, .inl (fun j => en ((va_up sk ((h) - (1)) (some 0)) j))))).set (22) (.inr (7, [.int (fa), .ref 23, .ref 24, .ref 25, .ref 26, .ref 27, .ref 28, .ref 29, .ref 30, .ref 31, .ref 32, .ref 33, .ref 34, .ref 35, .ref 36, .ref 37, .int (vf), .int (wh), .int (wy), .ref 38, .ref 39, .ref 40, .ref 41, .int (nI ((h) - (1) + 1)), .ref 42, .ref 43, .ref 44, .ref 45, .ref 46, .ref 47, .ref 48, .ref 49, .int (dp), .ref 50, .ref 51, .ref 52, .int (md), .int (ov), .int (oh), .int (dn), .int (an)]))) P
    exact er_vret d_Mo_pass_242 rfl (hT _ _ _ (hrl.low htk).psh hlo (ob_up hsk (ob_s (by omega))) (hmb.s22.s41.s22) (((FrM.refl.set (by omega)).set (by omega)).set (by omega))) (by decide) (by decide)
  · refine er_aload_n d_Mo_pass_32 rfl ?_
    refine er_getf d_Mo_pass_33 f_Mo_pass_72 hO rfl ?_
    refine er_aload_n d_Mo_pass_36 rfl ?_
    refine er_getf d_Mo_pass_37 f_Mo_pass_179 hO rfl ?_
    refine er_iconst ((nI (1))) d_Mo_pass_40 (by decide) ?_
    refine er_isubN d_Mo_pass_41 (by omega) ?_
    refine er_ialdQ (v := (en (topO r h))) d_Mo_pass_42 r2 (by omega) (by omega) (congrArg en (show sk (h - 1) = topO r h by unfold topO; rw [if_neg (by omega), hrl.2 (h - 1) (by omega)]; congr 1; omega)) ?_
    refine er_goto 47 d_Mo_pass_43 (by decide) ?_
    refine er_istore d_Mo_pass_47 (by decide) ?_
    show jl_E l G m_Mo_pass (0, 0) 49 [some (.ref 22), some (.int (nI m)), some (.int (nI pc)), some (.int (nI 22)), some (.int (x)), some (.int (en (topO r h)))] [] (σ) P
    refine er_aload_n d_Mo_pass_49 rfl ?_
    refine er_dup d_Mo_pass_50 rfl ?_
    refine er_getf d_Mo_pass_51 f_Mo_pass_179 hO rfl ?_
    refine er_aload_n d_Mo_pass_54 rfl ?_
    refine er_iload_n d_Mo_pass_55 rfl ?_
    refine er_iload d_Mo_pass_56 rfl ?_
    refine er_callV (As := [.int (nI 22), .int (x)]) d_Mo_pass_58 k_Mo_pass_176 hO rfl rfl rfl (Nat.le_of_ble_eq_true rfl) (by decide) (by decide) (mo_tk_22 hl hO hw hu) ?_
    show jl_E l G m_Mo_pass (0, 0) 61 [some (.ref 22), some (.int (nI m)), some (.int (nI pc)), some (.int (nI 22)), some (.int (x)), some (.int (en (topO r h)))] [.int (nI 1), .int (nI h), .ref 22] (σ) P
    refine er_isubN d_Mo_pass_61 (by omega) ?_
    refine er_putf d_Mo_pass_62 p_Mo_pass_179 hO (Nat.le_of_ble_eq_true rfl) jl_fit_int ?_
    show jl_E l G m_Mo_pass (0, 0) 65 [some (.ref 22), some (.int (nI m)), some (.int (nI pc)), some (.int (nI 22)), some (.int (x)), some (.int (en (topO r h)))] [] (σ.set (22) (.inr (7, [.int (fa), .ref 23, .ref 24, .ref 25, .ref 26, .ref 27, .ref 28, .ref 29, .ref 30, .ref 31, .ref 32, .ref 33, .ref 34, .ref 35, .ref 36, .ref 37, .int (vf), .int (wh), .int (wy), .ref 38, .ref 39, .ref 40, .ref 41, .int (nI ((h) - (1))), .ref 42, .ref 43, .ref 44, .ref 45, .ref 46, .ref 47, .ref 48, .ref 49, .int (dp), .ref 50, .ref 51, .ref 52, .int (md), .int (ov), .int (oh), .int (dn), .int (an)]))) P
    refine er_iload_n d_Mo_pass_65 rfl ?_
    refine er_iconst ((nI (2))) d_Mo_pass_66 (by decide) ?_
    refine er_icmp_ne 79 d_Mo_pass_67 (by decide) (fun _ => ?_) (fun z => absurd z (by decide))
    refine er_iload_n d_Mo_pass_79 rfl ?_
    refine er_iconst ((nI (1))) d_Mo_pass_80 (by decide) ?_
    refine er_icmp_ne 98 d_Mo_pass_81 (by decide) (fun _ => ?_) (fun z => absurd z (by decide))
    refine er_iload_n d_Mo_pass_98 rfl ?_
    refine er_bipush ((nI (10))) d_Mo_pass_99 (by decide) ?_
    refine er_icmp_ne 112 d_Mo_pass_101 (by decide) (fun _ => ?_) (fun z => absurd z (by decide))
    refine er_iload_n d_Mo_pass_112 rfl ?_
    refine er_bipush ((nI (11))) d_Mo_pass_113 (by decide) ?_
    refine er_icmp_eq 124 d_Mo_pass_115 (by decide) (fun z => absurd z (by decide)) (fun _ => ?_)
    refine er_iload_n d_Mo_pass_118 rfl ?_
    refine er_bipush ((nI (15))) d_Mo_pass_119 (by decide) ?_
    refine er_icmp_ne 136 d_Mo_pass_121 (by decide) (fun _ => ?_) (fun z => absurd z (by decide))
    refine er_iload_n d_Mo_pass_136 rfl ?_
    refine er_bipush ((nI (12))) d_Mo_pass_137 (by decide) ?_
    refine er_icmp_ne 163 d_Mo_pass_139 (by decide) (fun _ => ?_) (fun z => absurd z (by decide))
    refine er_iload_n d_Mo_pass_163 rfl ?_
    refine er_bipush ((nI (14))) d_Mo_pass_164 (by decide) ?_
    refine er_icmp_ne 193 d_Mo_pass_166 (by decide) (fun _ => ?_) (fun z => absurd z (by decide))
    refine er_iload_n d_Mo_pass_193 rfl ?_
    refine er_bipush ((nI (19))) d_Mo_pass_194 (by decide) ?_
    refine er_icmp_ne 207 d_Mo_pass_196 (by decide) (fun _ => ?_) (fun z => absurd z (by decide))
    refine er_iload_n d_Mo_pass_207 rfl ?_
    refine er_bipush ((nI (24))) d_Mo_pass_208 (by decide) ?_
    refine er_icmp_ne 228 d_Mo_pass_210 (by decide) (fun _ => ?_) (fun z => absurd z (by decide))
    refine er_aload_n d_Mo_pass_228 rfl ?_
    refine er_iload_n d_Mo_pass_229 rfl ?_
    refine er_callV (As := [.int (nI 22)]) d_Mo_pass_230 k_Mo_pass_182 (jl_ss hO) rfl rfl rfl (Nat.le_of_ble_eq_true rfl) (by decide) (by decide) (mo_puts hl (hmb.s22).1 (hmb.s22).2.1 (by omega)) ?_
    show jl_E l G m_Mo_pass (0, 0) 233 [some (.ref 22), some (.int (nI m)), some (.int (nI pc)), some (.int (nI 22)), some (.int (x)), some (.int (en (topO r h)))] [.int (nI 1)] (σ.set (22) (.inr (7, [.int (fa), .ref 23, .ref 24, .ref 25, .ref 26, .ref 27, .ref 28, .ref 29, .ref 30, .ref 31, .ref 32, .ref 33, .ref 34, .ref 35, .ref 36, .ref 37, .int (vf), .int (wh), .int (wy), .ref 38, .ref 39, .ref 40, .ref 41, .int (nI ((h) - (1))), .ref 42, .ref 43, .ref 44, .ref 45, .ref 46, .ref 47, .ref 48, .ref 49, .int (dp), .ref 50, .ref 51, .ref 52, .int (md), .int (ov), .int (oh), .int (dn), .int (an)]))) P
    refine er_iconst ((nI (1))) d_Mo_pass_233 (by decide) ?_
    refine er_icmp_ne 242 d_Mo_pass_234 (by decide) (fun z => absurd rfl z) (fun _ => ?_)
    refine er_aload_n d_Mo_pass_237 rfl ?_
    refine er_iconst ((nI (0))) d_Mo_pass_238 (by decide) ?_
    refine er_callV (As := [.int (nI 0)]) d_Mo_pass_239 k_Mo_pass_192 (jl_ss hO) rfl rfl rfl (Nat.le_of_ble_eq_true rfl) (by decide) (by decide) (mo_push (h := (h) - (1)) (t := (some 0)) hl (hmb.s22).1 (hmb.s22).2.2.2.1.2 (by omega)) ?_
    show jl_E l G m_Mo_pass (0, 0) 242 [some (.ref 22), some (.int (nI m)), some (.int (nI pc)), some (.int (nI 22)), some (.int (x)), some (.int (en (topO r h)))] [] (((σ.set (22) (.inr (7, [.int (fa), .ref 23, .ref 24, .ref 25, .ref 26, .ref 27, .ref 28, .ref 29, .ref 30, .ref 31, .ref 32, .ref 33, .ref 34, .ref 35, .ref 36, .ref 37, .int (vf), .int (wh), .int (wy), .ref 38, .ref 39, .ref 40, .ref 41, .int (nI ((h) - (1))), .ref 42, .ref 43, .ref 44, .ref 45, .ref 46, .ref 47, .ref 48, .ref 49, .int (dp), .ref 50, .ref 51, .ref 52, .int (md), .int (ov), .int (oh), .int (dn), .int (an)]))).set (41) (.inl (0, 8, .inl (fun j => en ((va_up sk ((h) - (1)) (some 0)) j))))).set (22) (.inr (7, [.int (fa), .ref 23, .ref 24, .ref 25, .ref 26, .ref 27, .ref 28, .ref 29, .ref 30, .ref 31, .ref 32, .ref 33, .ref 34, .ref 35, .ref 36, .ref 37, .int (vf), .int (wh), .int (wy), .ref 38, .ref 39, .ref 40, .ref 41, .int (nI ((h) - (1) + 1)), .ref 42, .ref 43, .ref 44, .ref 45, .ref 46, .ref 47, .ref 48, .ref 49, .int (dp), .ref 50, .ref 51, .ref 52, .int (md), .int (ov), .int (oh), .int (dn), .int (an)]))) P
    exact er_vret d_Mo_pass_242 rfl (hT _ _ _ (hrl.low htk).psh hlo (ob_up hsk (ob_s (by omega))) (hmb.s22.s41.s22) (((FrM.refl.set (by omega)).set (by omega)).set (by omega))) (by decide) (by decide)
theorem mo_pass_23 (hl : l.stackTraces = false) {P : jl_O → jl_S → Prop} {m pc h : Nat} {r : Rw} {x : Int32} (hmb : MB σ tb pr ow ft hs u1 u2 ur ul uo ua uc us ut uk fa vf wh wy (nI h) dp md ov oh dn an lo sk kp mm fm) (hok : WoOk tb pr ow fi) (hK : MoK u1 u2 ur ul uo uc us ut uk) (hm : m < 24) (hpc : pc < 24) (ho : uo (24 * m + pc) = 23) (hx : ua (24 * m + pc) = x) (hrl : RlM r lo sk h) (hrv : rv r h) (hlo : ∀ j, ob 16 (lo j)) (hsk : ∀ j, ob 16 (sk j)) (htk : 1 ≤ h) (hp5 : h - 1 + 0 ≤ 5) (hT : ∀ lo' sk' σ', RlM (low r h 1) lo' sk' (h - 1) → (∀ j, ob 16 (lo' j)) → (∀ j, ob 16 (sk' j)) → MB σ' tb pr ow ft hs u1 u2 ur ul uo ua uc us ut uk fa vf wh wy (nI (h - 1)) dp md ov oh dn an lo' sk' kp mm fm → FrM σ σ' → P (.inl none) σ') : jl_mE l G m_Mo_pass [.ref 22, .int (nI m), .int (nI pc)] σ P := by
  obtain ⟨hO, hw, hu, hr, hkp, hmp, hfm⟩ := id hmb; obtain ⟨r1, r2⟩ := id hr
  obtain ⟨h23, h24, h25, h26, h27⟩ := id hw
  obtain ⟨h28, h29, h30, h31, h32, h33, h34, h35, h36, h37⟩ := id hu
  obtain ⟨hk1, hk2, hk3, hk4, hk5, hk6⟩ := hK.1 m hm
  have hh5 := hrv.2.1
  refine jl_ofE (as := [.ref 22, .int (nI m), .int (nI pc)]) rfl (by decide) hl (jl_cc rfl (jl_cc rfl (jl_cc rfl jl_ca))) (Nat.le_of_ble_eq_true rfl) ?_
  show jl_E l G m_Mo_pass (0, 0) 0 [some (.ref 22), some (.int (nI m)), some (.int (nI pc)), none, none, none] [] (σ) P
  refine er_aload_n d_Mo_pass_0 rfl ?_
  refine er_getf d_Mo_pass_1 f_Mo_pass_38 hO rfl ?_
  refine er_bipush ((nI (24))) d_Mo_pass_4 (by decide) ?_
  refine er_iload_n d_Mo_pass_6 rfl ?_
  refine er_imulN d_Mo_pass_7 ?_
  refine er_iload_n d_Mo_pass_8 rfl ?_
  refine er_iaddN d_Mo_pass_9 ?_
  refine er_ialdQ (v := (nI (23))) d_Mo_pass_10 h32 (by omega) (by omega) (congrArg nI ho) ?_
  refine er_istore_n d_Mo_pass_11 (by decide) ?_
  show jl_E l G m_Mo_pass (0, 0) 12 [some (.ref 22), some (.int (nI m)), some (.int (nI pc)), some (.int (nI 23)), none, none] [] (σ) P
  refine er_aload_n d_Mo_pass_12 rfl ?_
  refine er_getf d_Mo_pass_13 f_Mo_pass_41 hO rfl ?_
  refine er_bipush ((nI (24))) d_Mo_pass_16 (by decide) ?_
  refine er_iload_n d_Mo_pass_18 rfl ?_
  refine er_imulN d_Mo_pass_19 ?_
  refine er_iload_n d_Mo_pass_20 rfl ?_
  refine er_iaddN d_Mo_pass_21 ?_
  refine er_ialdQ (v := (x)) d_Mo_pass_22 h33 (by omega) (by omega) (hx) ?_
  refine er_istore d_Mo_pass_23 (by decide) ?_
  show jl_E l G m_Mo_pass (0, 0) 25 [some (.ref 22), some (.int (nI m)), some (.int (nI pc)), some (.int (nI 23)), some (.int (x)), none] [] (σ) P
  refine er_aload_n d_Mo_pass_25 rfl ?_
  refine er_getf d_Mo_pass_26 f_Mo_pass_179 hO rfl ?_
  refine er_if_leN 46 d_Mo_pass_29 (by decide) (by omega) (fun c1 => ?_) (fun c1 => ?_)
  · refine er_iconst ((-1)) d_Mo_pass_46 (by decide) ?_
    refine er_istore d_Mo_pass_47 (by decide) ?_
    show jl_E l G m_Mo_pass (0, 0) 49 [some (.ref 22), some (.int (nI m)), some (.int (nI pc)), some (.int (nI 23)), some (.int (x)), some (.int (-1))] [] (σ) P
    have htp : topO r h = none := by unfold topO; rw [if_pos (by omega)]
    rw [show (-1 : Int32) = en (topO r h) by rw [htp]; rfl]
    show jl_E l G m_Mo_pass (0, 0) 49 [some (.ref 22), some (.int (nI m)), some (.int (nI pc)), some (.int (nI 23)), some (.int (x)), some (.int (en (topO r h)))] [] (σ) P
    refine er_aload_n d_Mo_pass_49 rfl ?_
    refine er_dup d_Mo_pass_50 rfl ?_
    refine er_getf d_Mo_pass_51 f_Mo_pass_179 hO rfl ?_
    refine er_aload_n d_Mo_pass_54 rfl ?_
    refine er_iload_n d_Mo_pass_55 rfl ?_
    refine er_iload d_Mo_pass_56 rfl ?_
    refine er_callV (As := [.int (nI 23), .int (x)]) d_Mo_pass_58 k_Mo_pass_176 hO rfl rfl rfl (Nat.le_of_ble_eq_true rfl) (by decide) (by decide) (mo_tk_23 hl hO hw hu) ?_
    show jl_E l G m_Mo_pass (0, 0) 61 [some (.ref 22), some (.int (nI m)), some (.int (nI pc)), some (.int (nI 23)), some (.int (x)), some (.int (en (topO r h)))] [.int (nI 1), .int (nI h), .ref 22] (σ) P
    refine er_isubN d_Mo_pass_61 (by omega) ?_
    refine er_putf d_Mo_pass_62 p_Mo_pass_179 hO (Nat.le_of_ble_eq_true rfl) jl_fit_int ?_
    show jl_E l G m_Mo_pass (0, 0) 65 [some (.ref 22), some (.int (nI m)), some (.int (nI pc)), some (.int (nI 23)), some (.int (x)), some (.int (en (topO r h)))] [] (σ.set (22) (.inr (7, [.int (fa), .ref 23, .ref 24, .ref 25, .ref 26, .ref 27, .ref 28, .ref 29, .ref 30, .ref 31, .ref 32, .ref 33, .ref 34, .ref 35, .ref 36, .ref 37, .int (vf), .int (wh), .int (wy), .ref 38, .ref 39, .ref 40, .ref 41, .int (nI ((h) - (1))), .ref 42, .ref 43, .ref 44, .ref 45, .ref 46, .ref 47, .ref 48, .ref 49, .int (dp), .ref 50, .ref 51, .ref 52, .int (md), .int (ov), .int (oh), .int (dn), .int (an)]))) P
    refine er_iload_n d_Mo_pass_65 rfl ?_
    refine er_iconst ((nI (2))) d_Mo_pass_66 (by decide) ?_
    refine er_icmp_ne 79 d_Mo_pass_67 (by decide) (fun _ => ?_) (fun z => absurd z (by decide))
    refine er_iload_n d_Mo_pass_79 rfl ?_
    refine er_iconst ((nI (1))) d_Mo_pass_80 (by decide) ?_
    refine er_icmp_ne 98 d_Mo_pass_81 (by decide) (fun _ => ?_) (fun z => absurd z (by decide))
    refine er_iload_n d_Mo_pass_98 rfl ?_
    refine er_bipush ((nI (10))) d_Mo_pass_99 (by decide) ?_
    refine er_icmp_ne 112 d_Mo_pass_101 (by decide) (fun _ => ?_) (fun z => absurd z (by decide))
    refine er_iload_n d_Mo_pass_112 rfl ?_
    refine er_bipush ((nI (11))) d_Mo_pass_113 (by decide) ?_
    refine er_icmp_eq 124 d_Mo_pass_115 (by decide) (fun z => absurd z (by decide)) (fun _ => ?_)
    refine er_iload_n d_Mo_pass_118 rfl ?_
    refine er_bipush ((nI (15))) d_Mo_pass_119 (by decide) ?_
    refine er_icmp_ne 136 d_Mo_pass_121 (by decide) (fun _ => ?_) (fun z => absurd z (by decide))
    refine er_iload_n d_Mo_pass_136 rfl ?_
    refine er_bipush ((nI (12))) d_Mo_pass_137 (by decide) ?_
    refine er_icmp_ne 163 d_Mo_pass_139 (by decide) (fun _ => ?_) (fun z => absurd z (by decide))
    refine er_iload_n d_Mo_pass_163 rfl ?_
    refine er_bipush ((nI (14))) d_Mo_pass_164 (by decide) ?_
    refine er_icmp_ne 193 d_Mo_pass_166 (by decide) (fun _ => ?_) (fun z => absurd z (by decide))
    refine er_iload_n d_Mo_pass_193 rfl ?_
    refine er_bipush ((nI (19))) d_Mo_pass_194 (by decide) ?_
    refine er_icmp_ne 207 d_Mo_pass_196 (by decide) (fun _ => ?_) (fun z => absurd z (by decide))
    refine er_iload_n d_Mo_pass_207 rfl ?_
    refine er_bipush ((nI (24))) d_Mo_pass_208 (by decide) ?_
    refine er_icmp_ne 228 d_Mo_pass_210 (by decide) (fun _ => ?_) (fun z => absurd z (by decide))
    refine er_aload_n d_Mo_pass_228 rfl ?_
    refine er_iload_n d_Mo_pass_229 rfl ?_
    refine er_callV (As := [.int (nI 23)]) d_Mo_pass_230 k_Mo_pass_182 (jl_ss hO) rfl rfl rfl (Nat.le_of_ble_eq_true rfl) (by decide) (by decide) (mo_puts hl (hmb.s22).1 (hmb.s22).2.1 (by omega)) ?_
    show jl_E l G m_Mo_pass (0, 0) 233 [some (.ref 22), some (.int (nI m)), some (.int (nI pc)), some (.int (nI 23)), some (.int (x)), some (.int (en (topO r h)))] [.int (nI 0)] (σ.set (22) (.inr (7, [.int (fa), .ref 23, .ref 24, .ref 25, .ref 26, .ref 27, .ref 28, .ref 29, .ref 30, .ref 31, .ref 32, .ref 33, .ref 34, .ref 35, .ref 36, .ref 37, .int (vf), .int (wh), .int (wy), .ref 38, .ref 39, .ref 40, .ref 41, .int (nI ((h) - (1))), .ref 42, .ref 43, .ref 44, .ref 45, .ref 46, .ref 47, .ref 48, .ref 49, .int (dp), .ref 50, .ref 51, .ref 52, .int (md), .int (ov), .int (oh), .int (dn), .int (an)]))) P
    refine er_iconst ((nI (1))) d_Mo_pass_233 (by decide) ?_
    refine er_icmp_ne 242 d_Mo_pass_234 (by decide) (fun _ => ?_) (fun z => absurd z (by decide))
    exact er_vret d_Mo_pass_242 rfl (hT _ _ _ (hrl.low htk) hlo hsk (hmb.s22) (FrM.refl.set (by omega))) (by decide) (by decide)
  · refine er_aload_n d_Mo_pass_32 rfl ?_
    refine er_getf d_Mo_pass_33 f_Mo_pass_72 hO rfl ?_
    refine er_aload_n d_Mo_pass_36 rfl ?_
    refine er_getf d_Mo_pass_37 f_Mo_pass_179 hO rfl ?_
    refine er_iconst ((nI (1))) d_Mo_pass_40 (by decide) ?_
    refine er_isubN d_Mo_pass_41 (by omega) ?_
    refine er_ialdQ (v := (en (topO r h))) d_Mo_pass_42 r2 (by omega) (by omega) (congrArg en (show sk (h - 1) = topO r h by unfold topO; rw [if_neg (by omega), hrl.2 (h - 1) (by omega)]; congr 1; omega)) ?_
    refine er_goto 47 d_Mo_pass_43 (by decide) ?_
    refine er_istore d_Mo_pass_47 (by decide) ?_
    show jl_E l G m_Mo_pass (0, 0) 49 [some (.ref 22), some (.int (nI m)), some (.int (nI pc)), some (.int (nI 23)), some (.int (x)), some (.int (en (topO r h)))] [] (σ) P
    refine er_aload_n d_Mo_pass_49 rfl ?_
    refine er_dup d_Mo_pass_50 rfl ?_
    refine er_getf d_Mo_pass_51 f_Mo_pass_179 hO rfl ?_
    refine er_aload_n d_Mo_pass_54 rfl ?_
    refine er_iload_n d_Mo_pass_55 rfl ?_
    refine er_iload d_Mo_pass_56 rfl ?_
    refine er_callV (As := [.int (nI 23), .int (x)]) d_Mo_pass_58 k_Mo_pass_176 hO rfl rfl rfl (Nat.le_of_ble_eq_true rfl) (by decide) (by decide) (mo_tk_23 hl hO hw hu) ?_
    show jl_E l G m_Mo_pass (0, 0) 61 [some (.ref 22), some (.int (nI m)), some (.int (nI pc)), some (.int (nI 23)), some (.int (x)), some (.int (en (topO r h)))] [.int (nI 1), .int (nI h), .ref 22] (σ) P
    refine er_isubN d_Mo_pass_61 (by omega) ?_
    refine er_putf d_Mo_pass_62 p_Mo_pass_179 hO (Nat.le_of_ble_eq_true rfl) jl_fit_int ?_
    show jl_E l G m_Mo_pass (0, 0) 65 [some (.ref 22), some (.int (nI m)), some (.int (nI pc)), some (.int (nI 23)), some (.int (x)), some (.int (en (topO r h)))] [] (σ.set (22) (.inr (7, [.int (fa), .ref 23, .ref 24, .ref 25, .ref 26, .ref 27, .ref 28, .ref 29, .ref 30, .ref 31, .ref 32, .ref 33, .ref 34, .ref 35, .ref 36, .ref 37, .int (vf), .int (wh), .int (wy), .ref 38, .ref 39, .ref 40, .ref 41, .int (nI ((h) - (1))), .ref 42, .ref 43, .ref 44, .ref 45, .ref 46, .ref 47, .ref 48, .ref 49, .int (dp), .ref 50, .ref 51, .ref 52, .int (md), .int (ov), .int (oh), .int (dn), .int (an)]))) P
    refine er_iload_n d_Mo_pass_65 rfl ?_
    refine er_iconst ((nI (2))) d_Mo_pass_66 (by decide) ?_
    refine er_icmp_ne 79 d_Mo_pass_67 (by decide) (fun _ => ?_) (fun z => absurd z (by decide))
    refine er_iload_n d_Mo_pass_79 rfl ?_
    refine er_iconst ((nI (1))) d_Mo_pass_80 (by decide) ?_
    refine er_icmp_ne 98 d_Mo_pass_81 (by decide) (fun _ => ?_) (fun z => absurd z (by decide))
    refine er_iload_n d_Mo_pass_98 rfl ?_
    refine er_bipush ((nI (10))) d_Mo_pass_99 (by decide) ?_
    refine er_icmp_ne 112 d_Mo_pass_101 (by decide) (fun _ => ?_) (fun z => absurd z (by decide))
    refine er_iload_n d_Mo_pass_112 rfl ?_
    refine er_bipush ((nI (11))) d_Mo_pass_113 (by decide) ?_
    refine er_icmp_eq 124 d_Mo_pass_115 (by decide) (fun z => absurd z (by decide)) (fun _ => ?_)
    refine er_iload_n d_Mo_pass_118 rfl ?_
    refine er_bipush ((nI (15))) d_Mo_pass_119 (by decide) ?_
    refine er_icmp_ne 136 d_Mo_pass_121 (by decide) (fun _ => ?_) (fun z => absurd z (by decide))
    refine er_iload_n d_Mo_pass_136 rfl ?_
    refine er_bipush ((nI (12))) d_Mo_pass_137 (by decide) ?_
    refine er_icmp_ne 163 d_Mo_pass_139 (by decide) (fun _ => ?_) (fun z => absurd z (by decide))
    refine er_iload_n d_Mo_pass_163 rfl ?_
    refine er_bipush ((nI (14))) d_Mo_pass_164 (by decide) ?_
    refine er_icmp_ne 193 d_Mo_pass_166 (by decide) (fun _ => ?_) (fun z => absurd z (by decide))
    refine er_iload_n d_Mo_pass_193 rfl ?_
    refine er_bipush ((nI (19))) d_Mo_pass_194 (by decide) ?_
    refine er_icmp_ne 207 d_Mo_pass_196 (by decide) (fun _ => ?_) (fun z => absurd z (by decide))
    refine er_iload_n d_Mo_pass_207 rfl ?_
    refine er_bipush ((nI (24))) d_Mo_pass_208 (by decide) ?_
    refine er_icmp_ne 228 d_Mo_pass_210 (by decide) (fun _ => ?_) (fun z => absurd z (by decide))
    refine er_aload_n d_Mo_pass_228 rfl ?_
    refine er_iload_n d_Mo_pass_229 rfl ?_
    refine er_callV (As := [.int (nI 23)]) d_Mo_pass_230 k_Mo_pass_182 (jl_ss hO) rfl rfl rfl (Nat.le_of_ble_eq_true rfl) (by decide) (by decide) (mo_puts hl (hmb.s22).1 (hmb.s22).2.1 (by omega)) ?_
    show jl_E l G m_Mo_pass (0, 0) 233 [some (.ref 22), some (.int (nI m)), some (.int (nI pc)), some (.int (nI 23)), some (.int (x)), some (.int (en (topO r h)))] [.int (nI 0)] (σ.set (22) (.inr (7, [.int (fa), .ref 23, .ref 24, .ref 25, .ref 26, .ref 27, .ref 28, .ref 29, .ref 30, .ref 31, .ref 32, .ref 33, .ref 34, .ref 35, .ref 36, .ref 37, .int (vf), .int (wh), .int (wy), .ref 38, .ref 39, .ref 40, .ref 41, .int (nI ((h) - (1))), .ref 42, .ref 43, .ref 44, .ref 45, .ref 46, .ref 47, .ref 48, .ref 49, .int (dp), .ref 50, .ref 51, .ref 52, .int (md), .int (ov), .int (oh), .int (dn), .int (an)]))) P
    refine er_iconst ((nI (1))) d_Mo_pass_233 (by decide) ?_
    refine er_icmp_ne 242 d_Mo_pass_234 (by decide) (fun _ => ?_) (fun z => absurd z (by decide))
    exact er_vret d_Mo_pass_242 rfl (hT _ _ _ (hrl.low htk) hlo hsk (hmb.s22) (FrM.refl.set (by omega))) (by decide) (by decide)
theorem d_Mo_pass_213 : decode m_Mo_pass.2.1 213 = .ok (.aload_n 0, 1) := by decide +kernel
theorem d_Mo_pass_214 : decode m_Mo_pass.2.1 214 = .ok (.iload 5, 2) := by decide +kernel
theorem d_Mo_pass_216 : decode m_Mo_pass.2.1 216 = .ok (.invokevirtual 192, 3) := by decide +kernel
theorem d_Mo_pass_219 : decode m_Mo_pass.2.1 219 = .ok (.aload_n 0, 1) := by decide +kernel
theorem d_Mo_pass_220 : decode m_Mo_pass.2.1 220 = .ok (.iload 5, 2) := by decide +kernel
theorem d_Mo_pass_222 : decode m_Mo_pass.2.1 222 = .ok (.invokevirtual 192, 3) := by decide +kernel
theorem d_Mo_pass_225 : decode m_Mo_pass.2.1 225 = .ok (.goto 17, 3) := by decide +kernel
theorem mo_pass_24 (hl : l.stackTraces = false) {P : jl_O → jl_S → Prop} {m pc h : Nat} {r : Rw} {x : Int32} (hmb : MB σ tb pr ow ft hs u1 u2 ur ul uo ua uc us ut uk fa vf wh wy (nI h) dp md ov oh dn an lo sk kp mm fm) (hok : WoOk tb pr ow fi) (hK : MoK u1 u2 ur ul uo uc us ut uk) (hm : m < 24) (hpc : pc < 24) (ho : uo (24 * m + pc) = 24) (hx : ua (24 * m + pc) = x) (hrl : RlM r lo sk h) (hrv : rv r h) (hlo : ∀ j, ob 16 (lo j)) (hsk : ∀ j, ob 16 (sk j)) (htk : 1 ≤ h) (hp5 : h - 1 + 2 ≤ 5) (hT : ∀ lo' sk' σ', RlM (psh (psh (low r h 1) (h - 1) (topO r h)) (h - 1 + 1) (topO r h)) lo' sk' (h - 1 + 2) → (∀ j, ob 16 (lo' j)) → (∀ j, ob 16 (sk' j)) → MB σ' tb pr ow ft hs u1 u2 ur ul uo ua uc us ut uk fa vf wh wy (nI (h - 1 + 2)) dp md ov oh dn an lo' sk' kp mm fm → FrM σ σ' → P (.inl none) σ') : jl_mE l G m_Mo_pass [.ref 22, .int (nI m), .int (nI pc)] σ P := by
  obtain ⟨hO, hw, hu, hr, hkp, hmp, hfm⟩ := id hmb; obtain ⟨r1, r2⟩ := id hr
  obtain ⟨h23, h24, h25, h26, h27⟩ := id hw
  obtain ⟨h28, h29, h30, h31, h32, h33, h34, h35, h36, h37⟩ := id hu
  obtain ⟨hk1, hk2, hk3, hk4, hk5, hk6⟩ := hK.1 m hm
  have hh5 := hrv.2.1
  refine jl_ofE (as := [.ref 22, .int (nI m), .int (nI pc)]) rfl (by decide) hl (jl_cc rfl (jl_cc rfl (jl_cc rfl jl_ca))) (Nat.le_of_ble_eq_true rfl) ?_
  show jl_E l G m_Mo_pass (0, 0) 0 [some (.ref 22), some (.int (nI m)), some (.int (nI pc)), none, none, none] [] (σ) P
  refine er_aload_n d_Mo_pass_0 rfl ?_
  refine er_getf d_Mo_pass_1 f_Mo_pass_38 hO rfl ?_
  refine er_bipush ((nI (24))) d_Mo_pass_4 (by decide) ?_
  refine er_iload_n d_Mo_pass_6 rfl ?_
  refine er_imulN d_Mo_pass_7 ?_
  refine er_iload_n d_Mo_pass_8 rfl ?_
  refine er_iaddN d_Mo_pass_9 ?_
  refine er_ialdQ (v := (nI (24))) d_Mo_pass_10 h32 (by omega) (by omega) (congrArg nI ho) ?_
  refine er_istore_n d_Mo_pass_11 (by decide) ?_
  show jl_E l G m_Mo_pass (0, 0) 12 [some (.ref 22), some (.int (nI m)), some (.int (nI pc)), some (.int (nI 24)), none, none] [] (σ) P
  refine er_aload_n d_Mo_pass_12 rfl ?_
  refine er_getf d_Mo_pass_13 f_Mo_pass_41 hO rfl ?_
  refine er_bipush ((nI (24))) d_Mo_pass_16 (by decide) ?_
  refine er_iload_n d_Mo_pass_18 rfl ?_
  refine er_imulN d_Mo_pass_19 ?_
  refine er_iload_n d_Mo_pass_20 rfl ?_
  refine er_iaddN d_Mo_pass_21 ?_
  refine er_ialdQ (v := (x)) d_Mo_pass_22 h33 (by omega) (by omega) (hx) ?_
  refine er_istore d_Mo_pass_23 (by decide) ?_
  show jl_E l G m_Mo_pass (0, 0) 25 [some (.ref 22), some (.int (nI m)), some (.int (nI pc)), some (.int (nI 24)), some (.int (x)), none] [] (σ) P
  refine er_aload_n d_Mo_pass_25 rfl ?_
  refine er_getf d_Mo_pass_26 f_Mo_pass_179 hO rfl ?_
  refine er_if_leN 46 d_Mo_pass_29 (by decide) (by omega) (fun c1 => ?_) (fun c1 => ?_)
  · refine er_iconst ((-1)) d_Mo_pass_46 (by decide) ?_
    refine er_istore d_Mo_pass_47 (by decide) ?_
    show jl_E l G m_Mo_pass (0, 0) 49 [some (.ref 22), some (.int (nI m)), some (.int (nI pc)), some (.int (nI 24)), some (.int (x)), some (.int (-1))] [] (σ) P
    have htp : topO r h = none := by unfold topO; rw [if_pos (by omega)]
    rw [show (-1 : Int32) = en (topO r h) by rw [htp]; rfl]
    show jl_E l G m_Mo_pass (0, 0) 49 [some (.ref 22), some (.int (nI m)), some (.int (nI pc)), some (.int (nI 24)), some (.int (x)), some (.int (en (topO r h)))] [] (σ) P
    refine er_aload_n d_Mo_pass_49 rfl ?_
    refine er_dup d_Mo_pass_50 rfl ?_
    refine er_getf d_Mo_pass_51 f_Mo_pass_179 hO rfl ?_
    refine er_aload_n d_Mo_pass_54 rfl ?_
    refine er_iload_n d_Mo_pass_55 rfl ?_
    refine er_iload d_Mo_pass_56 rfl ?_
    refine er_callV (As := [.int (nI 24), .int (x)]) d_Mo_pass_58 k_Mo_pass_176 hO rfl rfl rfl (Nat.le_of_ble_eq_true rfl) (by decide) (by decide) (mo_tk_24 hl hO hw hu) ?_
    show jl_E l G m_Mo_pass (0, 0) 61 [some (.ref 22), some (.int (nI m)), some (.int (nI pc)), some (.int (nI 24)), some (.int (x)), some (.int (en (topO r h)))] [.int (nI 1), .int (nI h), .ref 22] (σ) P
    refine er_isubN d_Mo_pass_61 (by omega) ?_
    refine er_putf d_Mo_pass_62 p_Mo_pass_179 hO (Nat.le_of_ble_eq_true rfl) jl_fit_int ?_
    show jl_E l G m_Mo_pass (0, 0) 65 [some (.ref 22), some (.int (nI m)), some (.int (nI pc)), some (.int (nI 24)), some (.int (x)), some (.int (en (topO r h)))] [] (σ.set (22) (.inr (7, [.int (fa), .ref 23, .ref 24, .ref 25, .ref 26, .ref 27, .ref 28, .ref 29, .ref 30, .ref 31, .ref 32, .ref 33, .ref 34, .ref 35, .ref 36, .ref 37, .int (vf), .int (wh), .int (wy), .ref 38, .ref 39, .ref 40, .ref 41, .int (nI ((h) - (1))), .ref 42, .ref 43, .ref 44, .ref 45, .ref 46, .ref 47, .ref 48, .ref 49, .int (dp), .ref 50, .ref 51, .ref 52, .int (md), .int (ov), .int (oh), .int (dn), .int (an)]))) P
    refine er_iload_n d_Mo_pass_65 rfl ?_
    refine er_iconst ((nI (2))) d_Mo_pass_66 (by decide) ?_
    refine er_icmp_ne 79 d_Mo_pass_67 (by decide) (fun _ => ?_) (fun z => absurd z (by decide))
    refine er_iload_n d_Mo_pass_79 rfl ?_
    refine er_iconst ((nI (1))) d_Mo_pass_80 (by decide) ?_
    refine er_icmp_ne 98 d_Mo_pass_81 (by decide) (fun _ => ?_) (fun z => absurd z (by decide))
    refine er_iload_n d_Mo_pass_98 rfl ?_
    refine er_bipush ((nI (10))) d_Mo_pass_99 (by decide) ?_
    refine er_icmp_ne 112 d_Mo_pass_101 (by decide) (fun _ => ?_) (fun z => absurd z (by decide))
    refine er_iload_n d_Mo_pass_112 rfl ?_
    refine er_bipush ((nI (11))) d_Mo_pass_113 (by decide) ?_
    refine er_icmp_eq 124 d_Mo_pass_115 (by decide) (fun z => absurd z (by decide)) (fun _ => ?_)
    refine er_iload_n d_Mo_pass_118 rfl ?_
    refine er_bipush ((nI (15))) d_Mo_pass_119 (by decide) ?_
    refine er_icmp_ne 136 d_Mo_pass_121 (by decide) (fun _ => ?_) (fun z => absurd z (by decide))
    refine er_iload_n d_Mo_pass_136 rfl ?_
    refine er_bipush ((nI (12))) d_Mo_pass_137 (by decide) ?_
    refine er_icmp_ne 163 d_Mo_pass_139 (by decide) (fun _ => ?_) (fun z => absurd z (by decide))
    refine er_iload_n d_Mo_pass_163 rfl ?_
    refine er_bipush ((nI (14))) d_Mo_pass_164 (by decide) ?_
    refine er_icmp_ne 193 d_Mo_pass_166 (by decide) (fun _ => ?_) (fun z => absurd z (by decide))
    refine er_iload_n d_Mo_pass_193 rfl ?_
    refine er_bipush ((nI (19))) d_Mo_pass_194 (by decide) ?_
    refine er_icmp_ne 207 d_Mo_pass_196 (by decide) (fun _ => ?_) (fun z => absurd z (by decide))
    refine er_iload_n d_Mo_pass_207 rfl ?_
    refine er_bipush ((nI (24))) d_Mo_pass_208 (by decide) ?_
    refine er_icmp_ne 228 d_Mo_pass_210 (by decide) (fun z => absurd rfl z) (fun _ => ?_)
    refine er_aload_n d_Mo_pass_213 rfl ?_
    refine er_iload d_Mo_pass_214 rfl ?_
    refine er_callV (As := [.int (en (topO r h))]) d_Mo_pass_216 k_Mo_pass_192 (jl_ss hO) rfl rfl rfl (Nat.le_of_ble_eq_true rfl) (by decide) (by decide) (mo_push (h := (h) - (1)) (t := (topO r h)) hl (hmb.s22).1 (hmb.s22).2.2.2.1.2 (by omega)) ?_
    show jl_E l G m_Mo_pass (0, 0) 219 [some (.ref 22), some (.int (nI m)), some (.int (nI pc)), some (.int (nI 24)), some (.int (x)), some (.int (en (topO r h)))] [] (((σ.set (22) (.inr (7, [.int (fa), .ref 23, .ref 24, .ref 25, .ref 26, .ref 27, .ref 28, .ref 29, .ref 30, .ref 31, .ref 32, .ref 33, .ref 34, .ref 35, .ref 36, .ref 37, .int (vf), .int (wh), .int (wy), .ref 38, .ref 39, .ref 40, .ref 41, .int (nI ((h) - (1))), .ref 42, .ref 43, .ref 44, .ref 45, .ref 46, .ref 47, .ref 48, .ref 49, .int (dp), .ref 50, .ref 51, .ref 52, .int (md), .int (ov), .int (oh), .int (dn), .int (an)]))).set (41) (.inl (0, 8, .inl (fun j => en ((va_up sk ((h) - (1)) (topO r h)) j))))).set (22) (.inr (7, [.int (fa), .ref 23, .ref 24, .ref 25, .ref 26, .ref 27, .ref 28, .ref 29, .ref 30, .ref 31, .ref 32, .ref 33, .ref 34, .ref 35, .ref 36, .ref 37, .int (vf), .int (wh), .int (wy), .ref 38, .ref 39, .ref 40, .ref 41, .int (nI ((h) - (1) + 1)), .ref 42, .ref 43, .ref 44, .ref 45, .ref 46, .ref 47, .ref 48, .ref 49, .int (dp), .ref 50, .ref 51, .ref 52, .int (md), .int (ov), .int (oh), .int (dn), .int (an)]))) P
    refine er_aload_n d_Mo_pass_219 rfl ?_
    refine er_iload d_Mo_pass_220 rfl ?_
    refine er_callV (As := [.int (en (topO r h))]) d_Mo_pass_222 k_Mo_pass_192 (jl_ss (jl_sn (by decide) (jl_ss hO))) rfl rfl rfl (Nat.le_of_ble_eq_true rfl) (by decide) (by decide) (mo_push (h := (h) - (1) + 1) (t := (topO r h)) hl (hmb.s22.s41.s22).1 (hmb.s22.s41.s22).2.2.2.1.2 (by omega)) ?_
    show jl_E l G m_Mo_pass (0, 0) 225 [some (.ref 22), some (.int (nI m)), some (.int (nI pc)), some (.int (nI 24)), some (.int (x)), some (.int (en (topO r h)))] [] (((((σ.set (22) (.inr (7, [.int (fa), .ref 23, .ref 24, .ref 25, .ref 26, .ref 27, .ref 28, .ref 29, .ref 30, .ref 31, .ref 32, .ref 33, .ref 34, .ref 35, .ref 36, .ref 37, .int (vf), .int (wh), .int (wy), .ref 38, .ref 39, .ref 40, .ref 41, .int (nI ((h) - (1))), .ref 42, .ref 43, .ref 44, .ref 45, .ref 46, .ref 47, .ref 48, .ref 49, .int (dp), .ref 50, .ref 51, .ref 52, .int (md), .int (ov), .int (oh), .int (dn), .int (an)]))).set (41) (.inl (0, 8, .inl (fun j => en ((va_up sk ((h) - (1)) (topO r h)) j))))).set (22) (.inr (7, [.int (fa), .ref 23, .ref 24, .ref 25, .ref 26, .ref 27, .ref 28, .ref 29, .ref 30, .ref 31, .ref 32, .ref 33, .ref 34, .ref 35, .ref 36, .ref 37, .int (vf), .int (wh), .int (wy), .ref 38, .ref 39, .ref 40, .ref 41, .int (nI ((h) - (1) + 1)), .ref 42, .ref 43, .ref 44, .ref 45, .ref 46, .ref 47, .ref 48, .ref 49, .int (dp), .ref 50, .ref 51, .ref 52, .int (md), .int (ov), .int (oh), .int (dn), .int (an)]))).set (41) (.inl (0, 8, .inl (fun j => en ((va_up (va_up sk ((h) - (1)) (topO r h)) ((h) - (1) + 1) (topO r h)) j))))).set (22) (.inr (7, [.int (fa), .ref 23, .ref 24, .ref 25, .ref 26, .ref 27, .ref 28, .ref 29, .ref 30, .ref 31, .ref 32, .ref 33, .ref 34, .ref 35, .ref 36, .ref 37, .int (vf), .int (wh), .int (wy), .ref 38, .ref 39, .ref 40, .ref 41, .int (nI ((h) - (1) + 1 + 1)), .ref 42, .ref 43, .ref 44, .ref 45, .ref 46, .ref 47, .ref 48, .ref 49, .int (dp), .ref 50, .ref 51, .ref 52, .int (md), .int (ov), .int (oh), .int (dn), .int (an)]))) P
    refine er_goto 242 d_Mo_pass_225 (by decide) ?_
    exact er_vret d_Mo_pass_242 rfl (hT _ _ _ (hrl.low htk).psh.psh hlo (ob_up (ob_up hsk ((show ob 16 (topO r h) by unfold topO; split; (intro z hz; cases hz); exact hrv.ob _))) ((show ob 16 (topO r h) by unfold topO; split; (intro z hz; cases hz); exact hrv.ob _))) (hmb.s22.s41.s22.s41.s22) (((((FrM.refl.set (by omega)).set (by omega)).set (by omega)).set (by omega)).set (by omega))) (by decide) (by decide)
  · refine er_aload_n d_Mo_pass_32 rfl ?_
    refine er_getf d_Mo_pass_33 f_Mo_pass_72 hO rfl ?_
    refine er_aload_n d_Mo_pass_36 rfl ?_
    refine er_getf d_Mo_pass_37 f_Mo_pass_179 hO rfl ?_
    refine er_iconst ((nI (1))) d_Mo_pass_40 (by decide) ?_
    refine er_isubN d_Mo_pass_41 (by omega) ?_
    refine er_ialdQ (v := (en (topO r h))) d_Mo_pass_42 r2 (by omega) (by omega) (congrArg en (show sk (h - 1) = topO r h by unfold topO; rw [if_neg (by omega), hrl.2 (h - 1) (by omega)]; congr 1; omega)) ?_
    refine er_goto 47 d_Mo_pass_43 (by decide) ?_
    refine er_istore d_Mo_pass_47 (by decide) ?_
    show jl_E l G m_Mo_pass (0, 0) 49 [some (.ref 22), some (.int (nI m)), some (.int (nI pc)), some (.int (nI 24)), some (.int (x)), some (.int (en (topO r h)))] [] (σ) P
    refine er_aload_n d_Mo_pass_49 rfl ?_
    refine er_dup d_Mo_pass_50 rfl ?_
    refine er_getf d_Mo_pass_51 f_Mo_pass_179 hO rfl ?_
    refine er_aload_n d_Mo_pass_54 rfl ?_
    refine er_iload_n d_Mo_pass_55 rfl ?_
    refine er_iload d_Mo_pass_56 rfl ?_
    refine er_callV (As := [.int (nI 24), .int (x)]) d_Mo_pass_58 k_Mo_pass_176 hO rfl rfl rfl (Nat.le_of_ble_eq_true rfl) (by decide) (by decide) (mo_tk_24 hl hO hw hu) ?_
    show jl_E l G m_Mo_pass (0, 0) 61 [some (.ref 22), some (.int (nI m)), some (.int (nI pc)), some (.int (nI 24)), some (.int (x)), some (.int (en (topO r h)))] [.int (nI 1), .int (nI h), .ref 22] (σ) P
    refine er_isubN d_Mo_pass_61 (by omega) ?_
    refine er_putf d_Mo_pass_62 p_Mo_pass_179 hO (Nat.le_of_ble_eq_true rfl) jl_fit_int ?_
    show jl_E l G m_Mo_pass (0, 0) 65 [some (.ref 22), some (.int (nI m)), some (.int (nI pc)), some (.int (nI 24)), some (.int (x)), some (.int (en (topO r h)))] [] (σ.set (22) (.inr (7, [.int (fa), .ref 23, .ref 24, .ref 25, .ref 26, .ref 27, .ref 28, .ref 29, .ref 30, .ref 31, .ref 32, .ref 33, .ref 34, .ref 35, .ref 36, .ref 37, .int (vf), .int (wh), .int (wy), .ref 38, .ref 39, .ref 40, .ref 41, .int (nI ((h) - (1))), .ref 42, .ref 43, .ref 44, .ref 45, .ref 46, .ref 47, .ref 48, .ref 49, .int (dp), .ref 50, .ref 51, .ref 52, .int (md), .int (ov), .int (oh), .int (dn), .int (an)]))) P
    refine er_iload_n d_Mo_pass_65 rfl ?_
    refine er_iconst ((nI (2))) d_Mo_pass_66 (by decide) ?_
    refine er_icmp_ne 79 d_Mo_pass_67 (by decide) (fun _ => ?_) (fun z => absurd z (by decide))
    refine er_iload_n d_Mo_pass_79 rfl ?_
    refine er_iconst ((nI (1))) d_Mo_pass_80 (by decide) ?_
    refine er_icmp_ne 98 d_Mo_pass_81 (by decide) (fun _ => ?_) (fun z => absurd z (by decide))
    refine er_iload_n d_Mo_pass_98 rfl ?_
    refine er_bipush ((nI (10))) d_Mo_pass_99 (by decide) ?_
    refine er_icmp_ne 112 d_Mo_pass_101 (by decide) (fun _ => ?_) (fun z => absurd z (by decide))
    refine er_iload_n d_Mo_pass_112 rfl ?_
    refine er_bipush ((nI (11))) d_Mo_pass_113 (by decide) ?_
    refine er_icmp_eq 124 d_Mo_pass_115 (by decide) (fun z => absurd z (by decide)) (fun _ => ?_)
    refine er_iload_n d_Mo_pass_118 rfl ?_
    refine er_bipush ((nI (15))) d_Mo_pass_119 (by decide) ?_
    refine er_icmp_ne 136 d_Mo_pass_121 (by decide) (fun _ => ?_) (fun z => absurd z (by decide))
    refine er_iload_n d_Mo_pass_136 rfl ?_
    refine er_bipush ((nI (12))) d_Mo_pass_137 (by decide) ?_
    refine er_icmp_ne 163 d_Mo_pass_139 (by decide) (fun _ => ?_) (fun z => absurd z (by decide))
    refine er_iload_n d_Mo_pass_163 rfl ?_
    refine er_bipush ((nI (14))) d_Mo_pass_164 (by decide) ?_
    refine er_icmp_ne 193 d_Mo_pass_166 (by decide) (fun _ => ?_) (fun z => absurd z (by decide))
    refine er_iload_n d_Mo_pass_193 rfl ?_
    refine er_bipush ((nI (19))) d_Mo_pass_194 (by decide) ?_
    refine er_icmp_ne 207 d_Mo_pass_196 (by decide) (fun _ => ?_) (fun z => absurd z (by decide))
    refine er_iload_n d_Mo_pass_207 rfl ?_
    refine er_bipush ((nI (24))) d_Mo_pass_208 (by decide) ?_
    refine er_icmp_ne 228 d_Mo_pass_210 (by decide) (fun z => absurd rfl z) (fun _ => ?_)
    refine er_aload_n d_Mo_pass_213 rfl ?_
    refine er_iload d_Mo_pass_214 rfl ?_
    refine er_callV (As := [.int (en (topO r h))]) d_Mo_pass_216 k_Mo_pass_192 (jl_ss hO) rfl rfl rfl (Nat.le_of_ble_eq_true rfl) (by decide) (by decide) (mo_push (h := (h) - (1)) (t := (topO r h)) hl (hmb.s22).1 (hmb.s22).2.2.2.1.2 (by omega)) ?_
    show jl_E l G m_Mo_pass (0, 0) 219 [some (.ref 22), some (.int (nI m)), some (.int (nI pc)), some (.int (nI 24)), some (.int (x)), some (.int (en (topO r h)))] [] (((σ.set (22) (.inr (7, [.int (fa), .ref 23, .ref 24, .ref 25, .ref 26, .ref 27, .ref 28, .ref 29, .ref 30, .ref 31, .ref 32, .ref 33, .ref 34, .ref 35, .ref 36, .ref 37, .int (vf), .int (wh), .int (wy), .ref 38, .ref 39, .ref 40, .ref 41, .int (nI ((h) - (1))), .ref 42, .ref 43, .ref 44, .ref 45, .ref 46, .ref 47, .ref 48, .ref 49, .int (dp), .ref 50, .ref 51, .ref 52, .int (md), .int (ov), .int (oh), .int (dn), .int (an)]))).set (41) (.inl (0, 8, .inl (fun j => en ((va_up sk ((h) - (1)) (topO r h)) j))))).set (22) (.inr (7, [.int (fa), .ref 23, .ref 24, .ref 25, .ref 26, .ref 27, .ref 28, .ref 29, .ref 30, .ref 31, .ref 32, .ref 33, .ref 34, .ref 35, .ref 36, .ref 37, .int (vf), .int (wh), .int (wy), .ref 38, .ref 39, .ref 40, .ref 41, .int (nI ((h) - (1) + 1)), .ref 42, .ref 43, .ref 44, .ref 45, .ref 46, .ref 47, .ref 48, .ref 49, .int (dp), .ref 50, .ref 51, .ref 52, .int (md), .int (ov), .int (oh), .int (dn), .int (an)]))) P
    refine er_aload_n d_Mo_pass_219 rfl ?_
    refine er_iload d_Mo_pass_220 rfl ?_
    refine er_callV (As := [.int (en (topO r h))]) d_Mo_pass_222 k_Mo_pass_192 (jl_ss (jl_sn (by decide) (jl_ss hO))) rfl rfl rfl (Nat.le_of_ble_eq_true rfl) (by decide) (by decide) (mo_push (h := (h) - (1) + 1) (t := (topO r h)) hl (hmb.s22.s41.s22).1 (hmb.s22.s41.s22).2.2.2.1.2 (by omega)) ?_
    show jl_E l G m_Mo_pass (0, 0) 225 [some (.ref 22), some (.int (nI m)), some (.int (nI pc)), some (.int (nI 24)), some (.int (x)), some (.int (en (topO r h)))] [] (((((σ.set (22) (.inr (7, [.int (fa), .ref 23, .ref 24, .ref 25, .ref 26, .ref 27, .ref 28, .ref 29, .ref 30, .ref 31, .ref 32, .ref 33, .ref 34, .ref 35, .ref 36, .ref 37, .int (vf), .int (wh), .int (wy), .ref 38, .ref 39, .ref 40, .ref 41, .int (nI ((h) - (1))), .ref 42, .ref 43, .ref 44, .ref 45, .ref 46, .ref 47, .ref 48, .ref 49, .int (dp), .ref 50, .ref 51, .ref 52, .int (md), .int (ov), .int (oh), .int (dn), .int (an)]))).set (41) (.inl (0, 8, .inl (fun j => en ((va_up sk ((h) - (1)) (topO r h)) j))))).set (22) (.inr (7, [.int (fa), .ref 23, .ref 24, .ref 25, .ref 26, .ref 27, .ref 28, .ref 29, .ref 30, .ref 31, .ref 32, .ref 33, .ref 34, .ref 35, .ref 36, .ref 37, .int (vf), .int (wh), .int (wy), .ref 38, .ref 39, .ref 40, .ref 41, .int (nI ((h) - (1) + 1)), .ref 42, .ref 43, .ref 44, .ref 45, .ref 46, .ref 47, .ref 48, .ref 49, .int (dp), .ref 50, .ref 51, .ref 52, .int (md), .int (ov), .int (oh), .int (dn), .int (an)]))).set (41) (.inl (0, 8, .inl (fun j => en ((va_up (va_up sk ((h) - (1)) (topO r h)) ((h) - (1) + 1) (topO r h)) j))))).set (22) (.inr (7, [.int (fa), .ref 23, .ref 24, .ref 25, .ref 26, .ref 27, .ref 28, .ref 29, .ref 30, .ref 31, .ref 32, .ref 33, .ref 34, .ref 35, .ref 36, .ref 37, .int (vf), .int (wh), .int (wy), .ref 38, .ref 39, .ref 40, .ref 41, .int (nI ((h) - (1) + 1 + 1)), .ref 42, .ref 43, .ref 44, .ref 45, .ref 46, .ref 47, .ref 48, .ref 49, .int (dp), .ref 50, .ref 51, .ref 52, .int (md), .int (ov), .int (oh), .int (dn), .int (an)]))) P
    refine er_goto 242 d_Mo_pass_225 (by decide) ?_
    exact er_vret d_Mo_pass_242 rfl (hT _ _ _ (hrl.low htk).psh.psh hlo (ob_up (ob_up hsk ((show ob 16 (topO r h) by unfold topO; split; (intro z hz; cases hz); exact hrv.ob _))) ((show ob 16 (topO r h) by unfold topO; split; (intro z hz; cases hz); exact hrv.ob _))) (hmb.s22.s41.s22.s41.s22) (((((FrM.refl.set (by omega)).set (by omega)).set (by omega)).set (by omega)).set (by omega))) (by decide) (by decide)
theorem mo_pass_25 (hl : l.stackTraces = false) {P : jl_O → jl_S → Prop} {m pc h : Nat} {r : Rw} {x : Int32} (hmb : MB σ tb pr ow ft hs u1 u2 ur ul uo ua uc us ut uk fa vf wh wy (nI h) dp md ov oh dn an lo sk kp mm fm) (hok : WoOk tb pr ow fi) (hK : MoK u1 u2 ur ul uo uc us ut uk) (hm : m < 24) (hpc : pc < 24) (ho : uo (24 * m + pc) = 25) (hx : ua (24 * m + pc) = x) (hrl : RlM r lo sk h) (hrv : rv r h) (hlo : ∀ j, ob 16 (lo j)) (hsk : ∀ j, ob 16 (sk j)) (htk : 2 ≤ h) (hp5 : h - 2 + 1 ≤ 5) (hT : ∀ lo' sk' σ', RlM (psh (low r h 2) (h - 2) (some 0)) lo' sk' (h - 2 + 1) → (∀ j, ob 16 (lo' j)) → (∀ j, ob 16 (sk' j)) → MB σ' tb pr ow ft hs u1 u2 ur ul uo ua uc us ut uk fa vf wh wy (nI (h - 2 + 1)) dp md ov oh dn an lo' sk' kp mm fm → FrM σ σ' → P (.inl none) σ') : jl_mE l G m_Mo_pass [.ref 22, .int (nI m), .int (nI pc)] σ P := by
  obtain ⟨hO, hw, hu, hr, hkp, hmp, hfm⟩ := id hmb; obtain ⟨r1, r2⟩ := id hr
  obtain ⟨h23, h24, h25, h26, h27⟩ := id hw
  obtain ⟨h28, h29, h30, h31, h32, h33, h34, h35, h36, h37⟩ := id hu
  obtain ⟨hk1, hk2, hk3, hk4, hk5, hk6⟩ := hK.1 m hm
  have hh5 := hrv.2.1
  refine jl_ofE (as := [.ref 22, .int (nI m), .int (nI pc)]) rfl (by decide) hl (jl_cc rfl (jl_cc rfl (jl_cc rfl jl_ca))) (Nat.le_of_ble_eq_true rfl) ?_
  show jl_E l G m_Mo_pass (0, 0) 0 [some (.ref 22), some (.int (nI m)), some (.int (nI pc)), none, none, none] [] (σ) P
  refine er_aload_n d_Mo_pass_0 rfl ?_
  refine er_getf d_Mo_pass_1 f_Mo_pass_38 hO rfl ?_
  refine er_bipush ((nI (24))) d_Mo_pass_4 (by decide) ?_
  refine er_iload_n d_Mo_pass_6 rfl ?_
  refine er_imulN d_Mo_pass_7 ?_
  refine er_iload_n d_Mo_pass_8 rfl ?_
  refine er_iaddN d_Mo_pass_9 ?_
  refine er_ialdQ (v := (nI (25))) d_Mo_pass_10 h32 (by omega) (by omega) (congrArg nI ho) ?_
  refine er_istore_n d_Mo_pass_11 (by decide) ?_
  show jl_E l G m_Mo_pass (0, 0) 12 [some (.ref 22), some (.int (nI m)), some (.int (nI pc)), some (.int (nI 25)), none, none] [] (σ) P
  refine er_aload_n d_Mo_pass_12 rfl ?_
  refine er_getf d_Mo_pass_13 f_Mo_pass_41 hO rfl ?_
  refine er_bipush ((nI (24))) d_Mo_pass_16 (by decide) ?_
  refine er_iload_n d_Mo_pass_18 rfl ?_
  refine er_imulN d_Mo_pass_19 ?_
  refine er_iload_n d_Mo_pass_20 rfl ?_
  refine er_iaddN d_Mo_pass_21 ?_
  refine er_ialdQ (v := (x)) d_Mo_pass_22 h33 (by omega) (by omega) (hx) ?_
  refine er_istore d_Mo_pass_23 (by decide) ?_
  show jl_E l G m_Mo_pass (0, 0) 25 [some (.ref 22), some (.int (nI m)), some (.int (nI pc)), some (.int (nI 25)), some (.int (x)), none] [] (σ) P
  refine er_aload_n d_Mo_pass_25 rfl ?_
  refine er_getf d_Mo_pass_26 f_Mo_pass_179 hO rfl ?_
  refine er_if_leN 46 d_Mo_pass_29 (by decide) (by omega) (fun c1 => ?_) (fun c1 => ?_)
  · refine er_iconst ((-1)) d_Mo_pass_46 (by decide) ?_
    refine er_istore d_Mo_pass_47 (by decide) ?_
    show jl_E l G m_Mo_pass (0, 0) 49 [some (.ref 22), some (.int (nI m)), some (.int (nI pc)), some (.int (nI 25)), some (.int (x)), some (.int (-1))] [] (σ) P
    have htp : topO r h = none := by unfold topO; rw [if_pos (by omega)]
    rw [show (-1 : Int32) = en (topO r h) by rw [htp]; rfl]
    show jl_E l G m_Mo_pass (0, 0) 49 [some (.ref 22), some (.int (nI m)), some (.int (nI pc)), some (.int (nI 25)), some (.int (x)), some (.int (en (topO r h)))] [] (σ) P
    refine er_aload_n d_Mo_pass_49 rfl ?_
    refine er_dup d_Mo_pass_50 rfl ?_
    refine er_getf d_Mo_pass_51 f_Mo_pass_179 hO rfl ?_
    refine er_aload_n d_Mo_pass_54 rfl ?_
    refine er_iload_n d_Mo_pass_55 rfl ?_
    refine er_iload d_Mo_pass_56 rfl ?_
    refine er_callV (As := [.int (nI 25), .int (x)]) d_Mo_pass_58 k_Mo_pass_176 hO rfl rfl rfl (Nat.le_of_ble_eq_true rfl) (by decide) (by decide) (mo_tk_25 hl hO hw hu) ?_
    show jl_E l G m_Mo_pass (0, 0) 61 [some (.ref 22), some (.int (nI m)), some (.int (nI pc)), some (.int (nI 25)), some (.int (x)), some (.int (en (topO r h)))] [.int (nI 2), .int (nI h), .ref 22] (σ) P
    refine er_isubN d_Mo_pass_61 (by omega) ?_
    refine er_putf d_Mo_pass_62 p_Mo_pass_179 hO (Nat.le_of_ble_eq_true rfl) jl_fit_int ?_
    show jl_E l G m_Mo_pass (0, 0) 65 [some (.ref 22), some (.int (nI m)), some (.int (nI pc)), some (.int (nI 25)), some (.int (x)), some (.int (en (topO r h)))] [] (σ.set (22) (.inr (7, [.int (fa), .ref 23, .ref 24, .ref 25, .ref 26, .ref 27, .ref 28, .ref 29, .ref 30, .ref 31, .ref 32, .ref 33, .ref 34, .ref 35, .ref 36, .ref 37, .int (vf), .int (wh), .int (wy), .ref 38, .ref 39, .ref 40, .ref 41, .int (nI ((h) - (2))), .ref 42, .ref 43, .ref 44, .ref 45, .ref 46, .ref 47, .ref 48, .ref 49, .int (dp), .ref 50, .ref 51, .ref 52, .int (md), .int (ov), .int (oh), .int (dn), .int (an)]))) P
    refine er_iload_n d_Mo_pass_65 rfl ?_
    refine er_iconst ((nI (2))) d_Mo_pass_66 (by decide) ?_
    refine er_icmp_ne 79 d_Mo_pass_67 (by decide) (fun _ => ?_) (fun z => absurd z (by decide))
    refine er_iload_n d_Mo_pass_79 rfl ?_
    refine er_iconst ((nI (1))) d_Mo_pass_80 (by decide) ?_
    refine er_icmp_ne 98 d_Mo_pass_81 (by decide) (fun _ => ?_) (fun z => absurd z (by decide))
    refine er_iload_n d_Mo_pass_98 rfl ?_
    refine er_bipush ((nI (10))) d_Mo_pass_99 (by decide) ?_
    refine er_icmp_ne 112 d_Mo_pass_101 (by decide) (fun _ => ?_) (fun z => absurd z (by decide))
    refine er_iload_n d_Mo_pass_112 rfl ?_
    refine er_bipush ((nI (11))) d_Mo_pass_113 (by decide) ?_
    refine er_icmp_eq 124 d_Mo_pass_115 (by decide) (fun z => absurd z (by decide)) (fun _ => ?_)
    refine er_iload_n d_Mo_pass_118 rfl ?_
    refine er_bipush ((nI (15))) d_Mo_pass_119 (by decide) ?_
    refine er_icmp_ne 136 d_Mo_pass_121 (by decide) (fun _ => ?_) (fun z => absurd z (by decide))
    refine er_iload_n d_Mo_pass_136 rfl ?_
    refine er_bipush ((nI (12))) d_Mo_pass_137 (by decide) ?_
    refine er_icmp_ne 163 d_Mo_pass_139 (by decide) (fun _ => ?_) (fun z => absurd z (by decide))
    refine er_iload_n d_Mo_pass_163 rfl ?_
    refine er_bipush ((nI (14))) d_Mo_pass_164 (by decide) ?_
    refine er_icmp_ne 193 d_Mo_pass_166 (by decide) (fun _ => ?_) (fun z => absurd z (by decide))
    refine er_iload_n d_Mo_pass_193 rfl ?_
    refine er_bipush ((nI (19))) d_Mo_pass_194 (by decide) ?_
    refine er_icmp_ne 207 d_Mo_pass_196 (by decide) (fun _ => ?_) (fun z => absurd z (by decide))
    refine er_iload_n d_Mo_pass_207 rfl ?_
    refine er_bipush ((nI (24))) d_Mo_pass_208 (by decide) ?_
    refine er_icmp_ne 228 d_Mo_pass_210 (by decide) (fun _ => ?_) (fun z => absurd z (by decide))
    refine er_aload_n d_Mo_pass_228 rfl ?_
    refine er_iload_n d_Mo_pass_229 rfl ?_
    refine er_callV (As := [.int (nI 25)]) d_Mo_pass_230 k_Mo_pass_182 (jl_ss hO) rfl rfl rfl (Nat.le_of_ble_eq_true rfl) (by decide) (by decide) (mo_puts hl (hmb.s22).1 (hmb.s22).2.1 (by omega)) ?_
    show jl_E l G m_Mo_pass (0, 0) 233 [some (.ref 22), some (.int (nI m)), some (.int (nI pc)), some (.int (nI 25)), some (.int (x)), some (.int (en (topO r h)))] [.int (nI 1)] (σ.set (22) (.inr (7, [.int (fa), .ref 23, .ref 24, .ref 25, .ref 26, .ref 27, .ref 28, .ref 29, .ref 30, .ref 31, .ref 32, .ref 33, .ref 34, .ref 35, .ref 36, .ref 37, .int (vf), .int (wh), .int (wy), .ref 38, .ref 39, .ref 40, .ref 41, .int (nI ((h) - (2))), .ref 42, .ref 43, .ref 44, .ref 45, .ref 46, .ref 47, .ref 48, .ref 49, .int (dp), .ref 50, .ref 51, .ref 52, .int (md), .int (ov), .int (oh), .int (dn), .int (an)]))) P
    refine er_iconst ((nI (1))) d_Mo_pass_233 (by decide) ?_
    refine er_icmp_ne 242 d_Mo_pass_234 (by decide) (fun z => absurd rfl z) (fun _ => ?_)
    refine er_aload_n d_Mo_pass_237 rfl ?_
    refine er_iconst ((nI (0))) d_Mo_pass_238 (by decide) ?_
    refine er_callV (As := [.int (nI 0)]) d_Mo_pass_239 k_Mo_pass_192 (jl_ss hO) rfl rfl rfl (Nat.le_of_ble_eq_true rfl) (by decide) (by decide) (mo_push (h := (h) - (2)) (t := (some 0)) hl (hmb.s22).1 (hmb.s22).2.2.2.1.2 (by omega)) ?_
    show jl_E l G m_Mo_pass (0, 0) 242 [some (.ref 22), some (.int (nI m)), some (.int (nI pc)), some (.int (nI 25)), some (.int (x)), some (.int (en (topO r h)))] [] (((σ.set (22) (.inr (7, [.int (fa), .ref 23, .ref 24, .ref 25, .ref 26, .ref 27, .ref 28, .ref 29, .ref 30, .ref 31, .ref 32, .ref 33, .ref 34, .ref 35, .ref 36, .ref 37, .int (vf), .int (wh), .int (wy), .ref 38, .ref 39, .ref 40, .ref 41, .int (nI ((h) - (2))), .ref 42, .ref 43, .ref 44, .ref 45, .ref 46, .ref 47, .ref 48, .ref 49, .int (dp), .ref 50, .ref 51, .ref 52, .int (md), .int (ov), .int (oh), .int (dn), .int (an)]))).set (41) (.inl (0, 8, .inl (fun j => en ((va_up sk ((h) - (2)) (some 0)) j))))).set (22) (.inr (7, [.int (fa), .ref 23, .ref 24, .ref 25, .ref 26, .ref 27, .ref 28, .ref 29, .ref 30, .ref 31, .ref 32, .ref 33, .ref 34, .ref 35, .ref 36, .ref 37, .int (vf), .int (wh), .int (wy), .ref 38, .ref 39, .ref 40, .ref 41, .int (nI ((h) - (2) + 1)), .ref 42, .ref 43, .ref 44, .ref 45, .ref 46, .ref 47, .ref 48, .ref 49, .int (dp), .ref 50, .ref 51, .ref 52, .int (md), .int (ov), .int (oh), .int (dn), .int (an)]))) P
    exact er_vret d_Mo_pass_242 rfl (hT _ _ _ (hrl.low htk).psh hlo (ob_up hsk (ob_s (by omega))) (hmb.s22.s41.s22) (((FrM.refl.set (by omega)).set (by omega)).set (by omega))) (by decide) (by decide)
  · refine er_aload_n d_Mo_pass_32 rfl ?_
    refine er_getf d_Mo_pass_33 f_Mo_pass_72 hO rfl ?_
    refine er_aload_n d_Mo_pass_36 rfl ?_
    refine er_getf d_Mo_pass_37 f_Mo_pass_179 hO rfl ?_
    refine er_iconst ((nI (1))) d_Mo_pass_40 (by decide) ?_
    refine er_isubN d_Mo_pass_41 (by omega) ?_
    refine er_ialdQ (v := (en (topO r h))) d_Mo_pass_42 r2 (by omega) (by omega) (congrArg en (show sk (h - 1) = topO r h by unfold topO; rw [if_neg (by omega), hrl.2 (h - 1) (by omega)]; congr 1; omega)) ?_
    refine er_goto 47 d_Mo_pass_43 (by decide) ?_
    refine er_istore d_Mo_pass_47 (by decide) ?_
    show jl_E l G m_Mo_pass (0, 0) 49 [some (.ref 22), some (.int (nI m)), some (.int (nI pc)), some (.int (nI 25)), some (.int (x)), some (.int (en (topO r h)))] [] (σ) P
    refine er_aload_n d_Mo_pass_49 rfl ?_
    refine er_dup d_Mo_pass_50 rfl ?_
    refine er_getf d_Mo_pass_51 f_Mo_pass_179 hO rfl ?_
    refine er_aload_n d_Mo_pass_54 rfl ?_
    refine er_iload_n d_Mo_pass_55 rfl ?_
    refine er_iload d_Mo_pass_56 rfl ?_
    refine er_callV (As := [.int (nI 25), .int (x)]) d_Mo_pass_58 k_Mo_pass_176 hO rfl rfl rfl (Nat.le_of_ble_eq_true rfl) (by decide) (by decide) (mo_tk_25 hl hO hw hu) ?_
    show jl_E l G m_Mo_pass (0, 0) 61 [some (.ref 22), some (.int (nI m)), some (.int (nI pc)), some (.int (nI 25)), some (.int (x)), some (.int (en (topO r h)))] [.int (nI 2), .int (nI h), .ref 22] (σ) P
    refine er_isubN d_Mo_pass_61 (by omega) ?_
    refine er_putf d_Mo_pass_62 p_Mo_pass_179 hO (Nat.le_of_ble_eq_true rfl) jl_fit_int ?_
    show jl_E l G m_Mo_pass (0, 0) 65 [some (.ref 22), some (.int (nI m)), some (.int (nI pc)), some (.int (nI 25)), some (.int (x)), some (.int (en (topO r h)))] [] (σ.set (22) (.inr (7, [.int (fa), .ref 23, .ref 24, .ref 25, .ref 26, .ref 27, .ref 28, .ref 29, .ref 30, .ref 31, .ref 32, .ref 33, .ref 34, .ref 35, .ref 36, .ref 37, .int (vf), .int (wh), .int (wy), .ref 38, .ref 39, .ref 40, .ref 41, .int (nI ((h) - (2))), .ref 42, .ref 43, .ref 44, .ref 45, .ref 46, .ref 47, .ref 48, .ref 49, .int (dp), .ref 50, .ref 51, .ref 52, .int (md), .int (ov), .int (oh), .int (dn), .int (an)]))) P
    refine er_iload_n d_Mo_pass_65 rfl ?_
    refine er_iconst ((nI (2))) d_Mo_pass_66 (by decide) ?_
    refine er_icmp_ne 79 d_Mo_pass_67 (by decide) (fun _ => ?_) (fun z => absurd z (by decide))
    refine er_iload_n d_Mo_pass_79 rfl ?_
    refine er_iconst ((nI (1))) d_Mo_pass_80 (by decide) ?_
    refine er_icmp_ne 98 d_Mo_pass_81 (by decide) (fun _ => ?_) (fun z => absurd z (by decide))
    refine er_iload_n d_Mo_pass_98 rfl ?_
    refine er_bipush ((nI (10))) d_Mo_pass_99 (by decide) ?_
    refine er_icmp_ne 112 d_Mo_pass_101 (by decide) (fun _ => ?_) (fun z => absurd z (by decide))
    refine er_iload_n d_Mo_pass_112 rfl ?_
    refine er_bipush ((nI (11))) d_Mo_pass_113 (by decide) ?_
    refine er_icmp_eq 124 d_Mo_pass_115 (by decide) (fun z => absurd z (by decide)) (fun _ => ?_)
    refine er_iload_n d_Mo_pass_118 rfl ?_
    refine er_bipush ((nI (15))) d_Mo_pass_119 (by decide) ?_
    refine er_icmp_ne 136 d_Mo_pass_121 (by decide) (fun _ => ?_) (fun z => absurd z (by decide))
    refine er_iload_n d_Mo_pass_136 rfl ?_
    refine er_bipush ((nI (12))) d_Mo_pass_137 (by decide) ?_
    refine er_icmp_ne 163 d_Mo_pass_139 (by decide) (fun _ => ?_) (fun z => absurd z (by decide))
    refine er_iload_n d_Mo_pass_163 rfl ?_
    refine er_bipush ((nI (14))) d_Mo_pass_164 (by decide) ?_
    refine er_icmp_ne 193 d_Mo_pass_166 (by decide) (fun _ => ?_) (fun z => absurd z (by decide))
    refine er_iload_n d_Mo_pass_193 rfl ?_
    refine er_bipush ((nI (19))) d_Mo_pass_194 (by decide) ?_
    refine er_icmp_ne 207 d_Mo_pass_196 (by decide) (fun _ => ?_) (fun z => absurd z (by decide))
    refine er_iload_n d_Mo_pass_207 rfl ?_
    refine er_bipush ((nI (24))) d_Mo_pass_208 (by decide) ?_
    refine er_icmp_ne 228 d_Mo_pass_210 (by decide) (fun _ => ?_) (fun z => absurd z (by decide))
    refine er_aload_n d_Mo_pass_228 rfl ?_
    refine er_iload_n d_Mo_pass_229 rfl ?_
    refine er_callV (As := [.int (nI 25)]) d_Mo_pass_230 k_Mo_pass_182 (jl_ss hO) rfl rfl rfl (Nat.le_of_ble_eq_true rfl) (by decide) (by decide) (mo_puts hl (hmb.s22).1 (hmb.s22).2.1 (by omega)) ?_
    show jl_E l G m_Mo_pass (0, 0) 233 [some (.ref 22), some (.int (nI m)), some (.int (nI pc)), some (.int (nI 25)), some (.int (x)), some (.int (en (topO r h)))] [.int (nI 1)] (σ.set (22) (.inr (7, [.int (fa), .ref 23, .ref 24, .ref 25, .ref 26, .ref 27, .ref 28, .ref 29, .ref 30, .ref 31, .ref 32, .ref 33, .ref 34, .ref 35, .ref 36, .ref 37, .int (vf), .int (wh), .int (wy), .ref 38, .ref 39, .ref 40, .ref 41, .int (nI ((h) - (2))), .ref 42, .ref 43, .ref 44, .ref 45, .ref 46, .ref 47, .ref 48, .ref 49, .int (dp), .ref 50, .ref 51, .ref 52, .int (md), .int (ov), .int (oh), .int (dn), .int (an)]))) P
    refine er_iconst ((nI (1))) d_Mo_pass_233 (by decide) ?_
    refine er_icmp_ne 242 d_Mo_pass_234 (by decide) (fun z => absurd rfl z) (fun _ => ?_)
    refine er_aload_n d_Mo_pass_237 rfl ?_
    refine er_iconst ((nI (0))) d_Mo_pass_238 (by decide) ?_
    refine er_callV (As := [.int (nI 0)]) d_Mo_pass_239 k_Mo_pass_192 (jl_ss hO) rfl rfl rfl (Nat.le_of_ble_eq_true rfl) (by decide) (by decide) (mo_push (h := (h) - (2)) (t := (some 0)) hl (hmb.s22).1 (hmb.s22).2.2.2.1.2 (by omega)) ?_
    show jl_E l G m_Mo_pass (0, 0) 242 [some (.ref 22), some (.int (nI m)), some (.int (nI pc)), some (.int (nI 25)), some (.int (x)), some (.int (en (topO r h)))] [] (((σ.set (22) (.inr (7, [.int (fa), .ref 23, .ref 24, .ref 25, .ref 26, .ref 27, .ref 28, .ref 29, .ref 30, .ref 31, .ref 32, .ref 33, .ref 34, .ref 35, .ref 36, .ref 37, .int (vf), .int (wh), .int (wy), .ref 38, .ref 39, .ref 40, .ref 41, .int (nI ((h) - (2))), .ref 42, .ref 43, .ref 44, .ref 45, .ref 46, .ref 47, .ref 48, .ref 49, .int (dp), .ref 50, .ref 51, .ref 52, .int (md), .int (ov), .int (oh), .int (dn), .int (an)]))).set (41) (.inl (0, 8, .inl (fun j => en ((va_up sk ((h) - (2)) (some 0)) j))))).set (22) (.inr (7, [.int (fa), .ref 23, .ref 24, .ref 25, .ref 26, .ref 27, .ref 28, .ref 29, .ref 30, .ref 31, .ref 32, .ref 33, .ref 34, .ref 35, .ref 36, .ref 37, .int (vf), .int (wh), .int (wy), .ref 38, .ref 39, .ref 40, .ref 41, .int (nI ((h) - (2) + 1)), .ref 42, .ref 43, .ref 44, .ref 45, .ref 46, .ref 47, .ref 48, .ref 49, .int (dp), .ref 50, .ref 51, .ref 52, .int (md), .int (ov), .int (oh), .int (dn), .int (an)]))) P
    exact er_vret d_Mo_pass_242 rfl (hT _ _ _ (hrl.low htk).psh hlo (ob_up hsk (ob_s (by omega))) (hmb.s22.s41.s22) (((FrM.refl.set (by omega)).set (by omega)).set (by omega))) (by decide) (by decide)
end JMx
