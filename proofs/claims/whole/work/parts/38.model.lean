/-! the model: code, catcher, about (wip/gen/p38.py) -/
section JMt
variable {l : Launch} {G : jl_G} {σ : jl_S} {tb : Nat → Bool} {pr : Nat → Option Nat} {ow fi ft : Nat → Nat} {hs : Nat → Bool} {fa vf wh wy hg dp md ov oh dn an : Int32} {u1 u2 : Nat → Option Nat} {ur ul uo : Nat → Nat} {ua : Nat → Int32} {uc us ut uk : Nat → Nat}
theorem d_Mo_noMethod_0 : decode m_Mo_noMethod.2.1 0 = .ok (.aload_n 0, 1) := by decide +kernel
theorem f_Mo_noMethod_7 : jl_fd m_Mo_noMethod 7 7 1 = true := by decide +kernel
theorem d_Mo_noMethod_1 : decode m_Mo_noMethod.2.1 1 = .ok (.getfield 7, 3) := by decide +kernel
theorem d_Mo_noMethod_4 : decode m_Mo_noMethod.2.1 4 = .ok (.iload_n 1, 1) := by decide +kernel
theorem d_Mo_noMethod_5 : decode m_Mo_noMethod.2.1 5 = .ok (.baload, 1) := by decide +kernel
theorem d_Mo_noMethod_6 : decode m_Mo_noMethod.2.1 6 = .ok (.ifCond .eq 16, 3) := by decide +kernel
theorem d_Mo_noMethod_22 : decode m_Mo_noMethod.2.1 22 = .ok (.iconst 1, 1) := by decide +kernel
theorem d_Mo_noMethod_23 : decode m_Mo_noMethod.2.1 23 = .ok (.goto 4, 3) := by decide +kernel
theorem d_Mo_noMethod_27 : decode m_Mo_noMethod.2.1 27 = .ok (.ireturn, 1) := by decide +kernel
theorem d_Mo_noMethod_9 : decode m_Mo_noMethod.2.1 9 = .ok (.aload_n 0, 1) := by decide +kernel
theorem f_Mo_noMethod_23 : jl_fd m_Mo_noMethod 23 7 5 = true := by decide +kernel
theorem d_Mo_noMethod_10 : decode m_Mo_noMethod.2.1 10 = .ok (.getfield 23, 3) := by decide +kernel
theorem d_Mo_noMethod_13 : decode m_Mo_noMethod.2.1 13 = .ok (.iconst 4, 1) := by decide +kernel
theorem d_Mo_noMethod_14 : decode m_Mo_noMethod.2.1 14 = .ok (.iload_n 1, 1) := by decide +kernel
theorem d_Mo_noMethod_15 : decode m_Mo_noMethod.2.1 15 = .ok (.imul, 1) := by decide +kernel
theorem d_Mo_noMethod_16 : decode m_Mo_noMethod.2.1 16 = .ok (.iload_n 2, 1) := by decide +kernel
theorem d_Mo_noMethod_17 : decode m_Mo_noMethod.2.1 17 = .ok (.iadd, 1) := by decide +kernel
theorem d_Mo_noMethod_18 : decode m_Mo_noMethod.2.1 18 = .ok (.baload, 1) := by decide +kernel
theorem d_Mo_noMethod_19 : decode m_Mo_noMethod.2.1 19 = .ok (.ifCond .ne 7, 3) := by decide +kernel
theorem d_Mo_noMethod_26 : decode m_Mo_noMethod.2.1 26 = .ok (.iconst 0, 1) := by decide +kernel
theorem mo_noMethod (hl : l.stackTraces = false) {k sl : Nat} (hO : MoO σ fa vf wh wy hg dp md ov oh dn an) (hw : MoW σ tb pr ow ft hs) (hk : k < 6) (hsl : sl < 4) : jl_m l G m_Mo_noMethod [.ref 22, .int (nI k), .int (nI sl)] σ (.inl (some (.int (bi (noM tb hs k sl))))) (σ) := by
  obtain ⟨h23, h24, h25, h26, h27⟩ := id hw
  refine jl_of (as := [.ref 22, .int (nI k), .int (nI sl)]) rfl (by decide) hl (jl_cc rfl (jl_cc rfl (jl_cc rfl jl_ca))) (Nat.le_of_ble_eq_true rfl) ?_
  show jl_W l G m_Mo_noMethod (0, 0) 0 [some (.ref 22), some (.int (nI k)), some (.int (nI sl))] [] (σ) (.inl (some (.int (bi (noM tb hs k sl))))) (σ)
  refine jr_aload_n d_Mo_noMethod_0 rfl ?_
  refine jr_getf d_Mo_noMethod_1 f_Mo_noMethod_7 hO rfl ?_
  refine jr_iload_n d_Mo_noMethod_4 rfl ?_
  refine jr_baldN d_Mo_noMethod_5 h23 (by omega) (by omega) ?_
  refine jr_if_eq 22 d_Mo_noMethod_6 (by decide) (fun c1 => ?_) (fun c1 => ?_)
  · refine jr_iconst ((nI (1))) d_Mo_noMethod_22 (by decide) ?_
    refine jr_goto 27 d_Mo_noMethod_23 (by decide) ?_
    exact jr_zretE d_Mo_noMethod_27 rfl (by decide) (by unfold noM; rw [bi_0.mp c1]; rfl) (rfl) (by decide) (by decide)
  · refine jr_aload_n d_Mo_noMethod_9 rfl ?_
    refine jr_getf d_Mo_noMethod_10 f_Mo_noMethod_23 hO rfl ?_
    refine jr_iconst ((nI (4))) d_Mo_noMethod_13 (by decide) ?_
    refine jr_iload_n d_Mo_noMethod_14 rfl ?_
    refine jr_imulN d_Mo_noMethod_15 ?_
    refine jr_iload_n d_Mo_noMethod_16 rfl ?_
    refine jr_iaddN d_Mo_noMethod_17 ?_
    refine jr_baldN d_Mo_noMethod_18 h27 (by omega) (by omega) ?_
    refine jr_if_ne 26 d_Mo_noMethod_19 (by decide) (fun c2 => ?_) (fun c2 => ?_)
    · refine jr_iconst ((nI (0))) d_Mo_noMethod_26 (by decide) ?_
      exact jr_zretE d_Mo_noMethod_27 rfl (by decide) (by unfold noM; rw [bi_nf c1, bi_nf c2]; rfl) (rfl) (by decide) (by decide)
    · refine jr_iconst ((nI (1))) d_Mo_noMethod_22 (by decide) ?_
      refine jr_goto 27 d_Mo_noMethod_23 (by decide) ?_
      exact jr_zretE d_Mo_noMethod_27 rfl (by decide) (by unfold noM; rw [bi_nf c1, bi_0.mp c2]; rfl) (rfl) (by decide) (by decide)
theorem mo_noMF (hl : l.stackTraces = false) {k sl : Nat} (hO : MoO σ fa vf wh wy hg dp md ov oh dn an) (hw : MoW σ tb pr ow ft hs) (hk : k < 6) (hsl : sl < 4) {b : Bool} (h : noM tb hs k sl = b) : jl_m l G m_Mo_noMethod [.ref 22, .int (nI k), .int (nI sl)] σ (.inl (some (.int (bi b)))) σ := by
  have q := mo_noMethod (G := G) hl hO hw hk hsl
  rw [h] at q
  exact q
theorem d_Mo_code_0 : decode m_Mo_code.2.1 0 = .ok (.aload_n 0, 1) := by decide +kernel
theorem d_Mo_code_1 : decode m_Mo_code.2.1 1 = .ok (.iconst 0, 1) := by decide +kernel
theorem p_Mo_code_111 : jl_fp m_Mo_code 111 7 0 = true := by decide +kernel
theorem d_Mo_code_2 : decode m_Mo_code.2.1 2 = .ok (.putfield 111, 3) := by decide +kernel
theorem d_Mo_code_5 : decode m_Mo_code.2.1 5 = .ok (.aload_n 0, 1) := by decide +kernel
theorem d_Mo_code_6 : decode m_Mo_code.2.1 6 = .ok (.iload_n 1, 1) := by decide +kernel
theorem d_Mo_code_7 : decode m_Mo_code.2.1 7 = .ok (.bipush 6, 2) := by decide +kernel
theorem k_Mo_code_114 : jl_cv m_Mo_code m_Mo_out 114 2 = true := by decide +kernel
theorem d_Mo_code_9 : decode m_Mo_code.2.1 9 = .ok (.invokevirtual 114, 3) := by decide +kernel
theorem d_Mo_code_12 : decode m_Mo_code.2.1 12 = .ok (.ifCond .ne 22, 3) := by decide +kernel
theorem d_Mo_code_34 : decode m_Mo_code.2.1 34 = .ok (.aload_n 0, 1) := by decide +kernel
theorem d_Mo_code_35 : decode m_Mo_code.2.1 35 = .ok (.iconst 1, 1) := by decide +kernel
theorem k_Mo_code_118 : jl_cv m_Mo_code m_Mo_fail 118 1 = true := by decide +kernel
theorem d_Mo_code_36 : decode m_Mo_code.2.1 36 = .ok (.invokevirtual 118, 3) := by decide +kernel
theorem d_Mo_code_39 : decode m_Mo_code.2.1 39 = .ok (.ireturn, 1) := by decide +kernel
theorem d_Mo_code_15 : decode m_Mo_code.2.1 15 = .ok (.aload_n 0, 1) := by decide +kernel
theorem d_Mo_code_16 : decode m_Mo_code.2.1 16 = .ok (.iload_n 2, 1) := by decide +kernel
theorem d_Mo_code_17 : decode m_Mo_code.2.1 17 = .ok (.iconst 4, 1) := by decide +kernel
theorem d_Mo_code_18 : decode m_Mo_code.2.1 18 = .ok (.invokevirtual 114, 3) := by decide +kernel
theorem d_Mo_code_21 : decode m_Mo_code.2.1 21 = .ok (.ifCond .ne 13, 3) := by decide +kernel
theorem d_Mo_code_24 : decode m_Mo_code.2.1 24 = .ok (.aload_n 0, 1) := by decide +kernel
theorem d_Mo_code_25 : decode m_Mo_code.2.1 25 = .ok (.iload_n 3, 1) := by decide +kernel
theorem d_Mo_code_26 : decode m_Mo_code.2.1 26 = .ok (.bipush 26, 2) := by decide +kernel
theorem d_Mo_code_28 : decode m_Mo_code.2.1 28 = .ok (.invokevirtual 114, 3) := by decide +kernel
theorem d_Mo_code_31 : decode m_Mo_code.2.1 31 = .ok (.ifCond .eq 9, 3) := by decide +kernel
theorem mo_code_A (hl : l.stackTraces = false) {k sl o x : Int32} (hO : MoO σ fa vf wh wy hg dp md ov oh dn an) (hw : MoW σ tb pr ow ft hs) (h : outB k (nI 6) = true ∨ outB sl (nI 4) = true ∨ outB o (nI 26) = true) : jl_m l G m_Mo_code [.ref 22, .int (k), .int (sl), .int (o), .int (x)] σ (.inl (some (.int (nI 0)))) (σ.set 22 (.inr (7, MoF (nI 1) vf wh wy hg dp md ov oh dn an))) := by
  obtain ⟨h23, h24, h25, h26, h27⟩ := id hw
  refine jl_of (as := [.ref 22, .int (k), .int (sl), .int (o), .int (x)]) rfl (by decide) hl (jl_cc rfl (jl_cc rfl (jl_cc rfl (jl_cc rfl (jl_cc rfl jl_ca))))) (Nat.le_of_ble_eq_true rfl) ?_
  show jl_W l G m_Mo_code (0, 0) 0 [some (.ref 22), some (.int (k)), some (.int (sl)), some (.int (o)), some (.int (x)), none] [] (σ) (.inl (some (.int (nI 0)))) (σ.set 22 (.inr (7, MoF (nI 1) vf wh wy hg dp md ov oh dn an)))
  refine jr_aload_n d_Mo_code_0 rfl ?_
  refine jr_iconst ((nI (0))) d_Mo_code_1 (by decide) ?_
  refine jr_putf d_Mo_code_2 p_Mo_code_111 hO (Nat.le_of_ble_eq_true rfl) jl_fit_int ?_
  show jl_W l G m_Mo_code (0, 0) 5 [some (.ref 22), some (.int (k)), some (.int (sl)), some (.int (o)), some (.int (x)), none] [] (σ.set (22) (.inr (7, [.int (nI 0), .ref 23, .ref 24, .ref 25, .ref 26, .ref 27, .ref 28, .ref 29, .ref 30, .ref 31, .ref 32, .ref 33, .ref 34, .ref 35, .ref 36, .ref 37, .int (vf), .int (wh), .int (wy), .ref 38, .ref 39, .ref 40, .ref 41, .int (hg), .ref 42, .ref 43, .ref 44, .ref 45, .ref 46, .ref 47, .ref 48, .ref 49, .int (dp), .ref 50, .ref 51, .ref 52, .int (md), .int (ov), .int (oh), .int (dn), .int (an)]))) (.inl (some (.int (nI 0)))) (σ.set 22 (.inr (7, MoF (nI 1) vf wh wy hg dp md ov oh dn an)))
  refine jr_aload_n d_Mo_code_5 rfl ?_
  refine jr_iload_n d_Mo_code_6 rfl ?_
  refine jr_bipush ((nI (6))) d_Mo_code_7 (by decide) ?_
  refine jr_callV (As := [.int (k), .int (nI 6)]) d_Mo_code_9 k_Mo_code_114 (jl_ss hO) rfl rfl rfl (Nat.le_of_ble_eq_true rfl) (by decide) (by decide) (mo_out hl (jl_ss hO) (MoW.sx hw (Or.inl (by decide)))) ?_
  show jl_W l G m_Mo_code (0, 0) 12 [some (.ref 22), some (.int (k)), some (.int (sl)), some (.int (o)), some (.int (x)), none] [.int (bi (outB (k) (nI 6)))] (σ.set (22) (.inr (7, [.int (nI 0), .ref 23, .ref 24, .ref 25, .ref 26, .ref 27, .ref 28, .ref 29, .ref 30, .ref 31, .ref 32, .ref 33, .ref 34, .ref 35, .ref 36, .ref 37, .int (vf), .int (wh), .int (wy), .ref 38, .ref 39, .ref 40, .ref 41, .int (hg), .ref 42, .ref 43, .ref 44, .ref 45, .ref 46, .ref 47, .ref 48, .ref 49, .int (dp), .ref 50, .ref 51, .ref 52, .int (md), .int (ov), .int (oh), .int (dn), .int (an)]))) (.inl (some (.int (nI 0)))) (σ.set 22 (.inr (7, MoF (nI 1) vf wh wy hg dp md ov oh dn an)))
  refine jr_if_ne 34 d_Mo_code_12 (by decide) (fun c1 => ?_) (fun c1 => ?_)
  · refine jr_aload_n d_Mo_code_34 rfl ?_
    refine jr_iconst ((nI (1))) d_Mo_code_35 (by decide) ?_
    refine jr_callV (As := [.int (nI 1)]) d_Mo_code_36 k_Mo_code_118 (jl_ss hO) rfl rfl rfl (Nat.le_of_ble_eq_true rfl) (by decide) (by decide) (mo_fail hl (jl_ss hO) (MoW.sx hw (Or.inl (by decide)))) ?_
    show jl_W l G m_Mo_code (0, 0) 39 [some (.ref 22), some (.int (k)), some (.int (sl)), some (.int (o)), some (.int (x)), none] [.int (nI 0)] ((σ.set (22) (.inr (7, [.int (nI 0), .ref 23, .ref 24, .ref 25, .ref 26, .ref 27, .ref 28, .ref 29, .ref 30, .ref 31, .ref 32, .ref 33, .ref 34, .ref 35, .ref 36, .ref 37, .int (vf), .int (wh), .int (wy), .ref 38, .ref 39, .ref 40, .ref 41, .int (hg), .ref 42, .ref 43, .ref 44, .ref 45, .ref 46, .ref 47, .ref 48, .ref 49, .int (dp), .ref 50, .ref 51, .ref 52, .int (md), .int (ov), .int (oh), .int (dn), .int (an)]))).set (22) (.inr (7, [.int (nI 1), .ref 23, .ref 24, .ref 25, .ref 26, .ref 27, .ref 28, .ref 29, .ref 30, .ref 31, .ref 32, .ref 33, .ref 34, .ref 35, .ref 36, .ref 37, .int (vf), .int (wh), .int (wy), .ref 38, .ref 39, .ref 40, .ref 41, .int (hg), .ref 42, .ref 43, .ref 44, .ref 45, .ref 46, .ref 47, .ref 48, .ref 49, .int (dp), .ref 50, .ref 51, .ref 52, .int (md), .int (ov), .int (oh), .int (dn), .int (an)]))) (.inl (some (.int (nI 0)))) (σ.set 22 (.inr (7, MoF (nI 1) vf wh wy hg dp md ov oh dn an)))
    exact jr_iretE d_Mo_code_39 rfl (rfl) ((List.set_set ..).symm) (by decide) (by decide)
  · refine jr_aload_n d_Mo_code_15 rfl ?_
    refine jr_iload_n d_Mo_code_16 rfl ?_
    refine jr_iconst ((nI (4))) d_Mo_code_17 (by decide) ?_
    refine jr_callV (As := [.int (sl), .int (nI 4)]) d_Mo_code_18 k_Mo_code_114 (jl_ss hO) rfl rfl rfl (Nat.le_of_ble_eq_true rfl) (by decide) (by decide) (mo_out hl (jl_ss hO) (MoW.sx hw (Or.inl (by decide)))) ?_
    show jl_W l G m_Mo_code (0, 0) 21 [some (.ref 22), some (.int (k)), some (.int (sl)), some (.int (o)), some (.int (x)), none] [.int (bi (outB (sl) (nI 4)))] (σ.set (22) (.inr (7, [.int (nI 0), .ref 23, .ref 24, .ref 25, .ref 26, .ref 27, .ref 28, .ref 29, .ref 30, .ref 31, .ref 32, .ref 33, .ref 34, .ref 35, .ref 36, .ref 37, .int (vf), .int (wh), .int (wy), .ref 38, .ref 39, .ref 40, .ref 41, .int (hg), .ref 42, .ref 43, .ref 44, .ref 45, .ref 46, .ref 47, .ref 48, .ref 49, .int (dp), .ref 50, .ref 51, .ref 52, .int (md), .int (ov), .int (oh), .int (dn), .int (an)]))) (.inl (some (.int (nI 0)))) (σ.set 22 (.inr (7, MoF (nI 1) vf wh wy hg dp md ov oh dn an)))
    refine jr_if_ne 34 d_Mo_code_21 (by decide) (fun c2 => ?_) (fun c2 => ?_)
    · refine jr_aload_n d_Mo_code_34 rfl ?_
      refine jr_iconst ((nI (1))) d_Mo_code_35 (by decide) ?_
      refine jr_callV (As := [.int (nI 1)]) d_Mo_code_36 k_Mo_code_118 (jl_ss hO) rfl rfl rfl (Nat.le_of_ble_eq_true rfl) (by decide) (by decide) (mo_fail hl (jl_ss hO) (MoW.sx hw (Or.inl (by decide)))) ?_
      show jl_W l G m_Mo_code (0, 0) 39 [some (.ref 22), some (.int (k)), some (.int (sl)), some (.int (o)), some (.int (x)), none] [.int (nI 0)] ((σ.set (22) (.inr (7, [.int (nI 0), .ref 23, .ref 24, .ref 25, .ref 26, .ref 27, .ref 28, .ref 29, .ref 30, .ref 31, .ref 32, .ref 33, .ref 34, .ref 35, .ref 36, .ref 37, .int (vf), .int (wh), .int (wy), .ref 38, .ref 39, .ref 40, .ref 41, .int (hg), .ref 42, .ref 43, .ref 44, .ref 45, .ref 46, .ref 47, .ref 48, .ref 49, .int (dp), .ref 50, .ref 51, .ref 52, .int (md), .int (ov), .int (oh), .int (dn), .int (an)]))).set (22) (.inr (7, [.int (nI 1), .ref 23, .ref 24, .ref 25, .ref 26, .ref 27, .ref 28, .ref 29, .ref 30, .ref 31, .ref 32, .ref 33, .ref 34, .ref 35, .ref 36, .ref 37, .int (vf), .int (wh), .int (wy), .ref 38, .ref 39, .ref 40, .ref 41, .int (hg), .ref 42, .ref 43, .ref 44, .ref 45, .ref 46, .ref 47, .ref 48, .ref 49, .int (dp), .ref 50, .ref 51, .ref 52, .int (md), .int (ov), .int (oh), .int (dn), .int (an)]))) (.inl (some (.int (nI 0)))) (σ.set 22 (.inr (7, MoF (nI 1) vf wh wy hg dp md ov oh dn an)))
      exact jr_iretE d_Mo_code_39 rfl (rfl) ((List.set_set ..).symm) (by decide) (by decide)
    · refine jr_aload_n d_Mo_code_24 rfl ?_
      refine jr_iload_n d_Mo_code_25 rfl ?_
      refine jr_bipush ((nI (26))) d_Mo_code_26 (by decide) ?_
      refine jr_callV (As := [.int (o), .int (nI 26)]) d_Mo_code_28 k_Mo_code_114 (jl_ss hO) rfl rfl rfl (Nat.le_of_ble_eq_true rfl) (by decide) (by decide) (mo_out hl (jl_ss hO) (MoW.sx hw (Or.inl (by decide)))) ?_
      show jl_W l G m_Mo_code (0, 0) 31 [some (.ref 22), some (.int (k)), some (.int (sl)), some (.int (o)), some (.int (x)), none] [.int (bi (outB (o) (nI 26)))] (σ.set (22) (.inr (7, [.int (nI 0), .ref 23, .ref 24, .ref 25, .ref 26, .ref 27, .ref 28, .ref 29, .ref 30, .ref 31, .ref 32, .ref 33, .ref 34, .ref 35, .ref 36, .ref 37, .int (vf), .int (wh), .int (wy), .ref 38, .ref 39, .ref 40, .ref 41, .int (hg), .ref 42, .ref 43, .ref 44, .ref 45, .ref 46, .ref 47, .ref 48, .ref 49, .int (dp), .ref 50, .ref 51, .ref 52, .int (md), .int (ov), .int (oh), .int (dn), .int (an)]))) (.inl (some (.int (nI 0)))) (σ.set 22 (.inr (7, MoF (nI 1) vf wh wy hg dp md ov oh dn an)))
      refine jr_if_eq 40 d_Mo_code_31 (by decide) (fun c3 => ?_) (fun c3 => ?_)
      · exact False.elim ((fun q => q.elim (fun q => by rw [bi_0.mp c1] at q; cases q) (fun q => q.elim (fun q => by rw [bi_0.mp c2] at q; cases q) (fun q => by rw [bi_0.mp c3] at q; cases q))) h)
      · refine jr_aload_n d_Mo_code_34 rfl ?_
        refine jr_iconst ((nI (1))) d_Mo_code_35 (by decide) ?_
        refine jr_callV (As := [.int (nI 1)]) d_Mo_code_36 k_Mo_code_118 (jl_ss hO) rfl rfl rfl (Nat.le_of_ble_eq_true rfl) (by decide) (by decide) (mo_fail hl (jl_ss hO) (MoW.sx hw (Or.inl (by decide)))) ?_
        show jl_W l G m_Mo_code (0, 0) 39 [some (.ref 22), some (.int (k)), some (.int (sl)), some (.int (o)), some (.int (x)), none] [.int (nI 0)] ((σ.set (22) (.inr (7, [.int (nI 0), .ref 23, .ref 24, .ref 25, .ref 26, .ref 27, .ref 28, .ref 29, .ref 30, .ref 31, .ref 32, .ref 33, .ref 34, .ref 35, .ref 36, .ref 37, .int (vf), .int (wh), .int (wy), .ref 38, .ref 39, .ref 40, .ref 41, .int (hg), .ref 42, .ref 43, .ref 44, .ref 45, .ref 46, .ref 47, .ref 48, .ref 49, .int (dp), .ref 50, .ref 51, .ref 52, .int (md), .int (ov), .int (oh), .int (dn), .int (an)]))).set (22) (.inr (7, [.int (nI 1), .ref 23, .ref 24, .ref 25, .ref 26, .ref 27, .ref 28, .ref 29, .ref 30, .ref 31, .ref 32, .ref 33, .ref 34, .ref 35, .ref 36, .ref 37, .int (vf), .int (wh), .int (wy), .ref 38, .ref 39, .ref 40, .ref 41, .int (hg), .ref 42, .ref 43, .ref 44, .ref 45, .ref 46, .ref 47, .ref 48, .ref 49, .int (dp), .ref 50, .ref 51, .ref 52, .int (md), .int (ov), .int (oh), .int (dn), .int (an)]))) (.inl (some (.int (nI 0)))) (σ.set 22 (.inr (7, MoF (nI 1) vf wh wy hg dp md ov oh dn an)))
        exact jr_iretE d_Mo_code_39 rfl (rfl) ((List.set_set ..).symm) (by decide) (by decide)
theorem d_Mo_code_40 : decode m_Mo_code.2.1 40 = .ok (.aload_n 0, 1) := by decide +kernel
theorem d_Mo_code_41 : decode m_Mo_code.2.1 41 = .ok (.iload_n 1, 1) := by decide +kernel
theorem d_Mo_code_42 : decode m_Mo_code.2.1 42 = .ok (.iload_n 2, 1) := by decide +kernel
theorem k_Mo_code_139 : jl_cv m_Mo_code m_Mo_noMethod 139 2 = true := by decide +kernel
theorem d_Mo_code_43 : decode m_Mo_code.2.1 43 = .ok (.invokevirtual 139, 3) := by decide +kernel
theorem d_Mo_code_46 : decode m_Mo_code.2.1 46 = .ok (.ifCond .eq 9, 3) := by decide +kernel
theorem d_Mo_code_49 : decode m_Mo_code.2.1 49 = .ok (.aload_n 0, 1) := by decide +kernel
theorem d_Mo_code_50 : decode m_Mo_code.2.1 50 = .ok (.iconst 2, 1) := by decide +kernel
theorem d_Mo_code_51 : decode m_Mo_code.2.1 51 = .ok (.invokevirtual 118, 3) := by decide +kernel
theorem d_Mo_code_54 : decode m_Mo_code.2.1 54 = .ok (.ireturn, 1) := by decide +kernel
theorem mo_code_N (hl : l.stackTraces = false) {k sl o : Nat} {x : Int32} (hO : MoO σ fa vf wh wy hg dp md ov oh dn an) (hw : MoW σ tb pr ow ft hs) (hk : k < 6) (hs4 : sl < 4) (ho : o < 26) (hnm : noM tb hs k sl = true) : jl_m l G m_Mo_code [.ref 22, .int (nI k), .int (nI sl), .int (nI o), .int (x)] σ (.inl (some (.int (nI 0)))) (σ.set 22 (.inr (7, MoF (nI 2) vf wh wy hg dp md ov oh dn an))) := by
  obtain ⟨h23, h24, h25, h26, h27⟩ := id hw
  refine jl_of (as := [.ref 22, .int (nI k), .int (nI sl), .int (nI o), .int (x)]) rfl (by decide) hl (jl_cc rfl (jl_cc rfl (jl_cc rfl (jl_cc rfl (jl_cc rfl jl_ca))))) (Nat.le_of_ble_eq_true rfl) ?_
  show jl_W l G m_Mo_code (0, 0) 0 [some (.ref 22), some (.int (nI k)), some (.int (nI sl)), some (.int (nI o)), some (.int (x)), none] [] (σ) (.inl (some (.int (nI 0)))) (σ.set 22 (.inr (7, MoF (nI 2) vf wh wy hg dp md ov oh dn an)))
  refine jr_aload_n d_Mo_code_0 rfl ?_
  refine jr_iconst ((nI (0))) d_Mo_code_1 (by decide) ?_
  refine jr_putf d_Mo_code_2 p_Mo_code_111 hO (Nat.le_of_ble_eq_true rfl) jl_fit_int ?_
  show jl_W l G m_Mo_code (0, 0) 5 [some (.ref 22), some (.int (nI k)), some (.int (nI sl)), some (.int (nI o)), some (.int (x)), none] [] (σ.set (22) (.inr (7, [.int (nI 0), .ref 23, .ref 24, .ref 25, .ref 26, .ref 27, .ref 28, .ref 29, .ref 30, .ref 31, .ref 32, .ref 33, .ref 34, .ref 35, .ref 36, .ref 37, .int (vf), .int (wh), .int (wy), .ref 38, .ref 39, .ref 40, .ref 41, .int (hg), .ref 42, .ref 43, .ref 44, .ref 45, .ref 46, .ref 47, .ref 48, .ref 49, .int (dp), .ref 50, .ref 51, .ref 52, .int (md), .int (ov), .int (oh), .int (dn), .int (an)]))) (.inl (some (.int (nI 0)))) (σ.set 22 (.inr (7, MoF (nI 2) vf wh wy hg dp md ov oh dn an)))
  refine jr_aload_n d_Mo_code_5 rfl ?_
  refine jr_iload_n d_Mo_code_6 rfl ?_
  refine jr_bipush ((nI (6))) d_Mo_code_7 (by decide) ?_
  refine jr_callV (As := [.int (nI k), .int (nI 6)]) d_Mo_code_9 k_Mo_code_114 (jl_ss hO) rfl rfl rfl (Nat.le_of_ble_eq_true rfl) (by decide) (by decide) (mo_outN hl (jl_ss hO) (MoW.sx hw (Or.inl (by decide))) (by decide) (by omega)) ?_
  show jl_W l G m_Mo_code (0, 0) 12 [some (.ref 22), some (.int (nI k)), some (.int (nI sl)), some (.int (nI o)), some (.int (x)), none] [.int (nI 0)] (σ.set (22) (.inr (7, [.int (nI 0), .ref 23, .ref 24, .ref 25, .ref 26, .ref 27, .ref 28, .ref 29, .ref 30, .ref 31, .ref 32, .ref 33, .ref 34, .ref 35, .ref 36, .ref 37, .int (vf), .int (wh), .int (wy), .ref 38, .ref 39, .ref 40, .ref 41, .int (hg), .ref 42, .ref 43, .ref 44, .ref 45, .ref 46, .ref 47, .ref 48, .ref 49, .int (dp), .ref 50, .ref 51, .ref 52, .int (md), .int (ov), .int (oh), .int (dn), .int (an)]))) (.inl (some (.int (nI 0)))) (σ.set 22 (.inr (7, MoF (nI 2) vf wh wy hg dp md ov oh dn an)))
  refine jr_if_ne 34 d_Mo_code_12 (by decide) (fun z => absurd rfl z) (fun _ => ?_)
  refine jr_aload_n d_Mo_code_15 rfl ?_
  refine jr_iload_n d_Mo_code_16 rfl ?_
  refine jr_iconst ((nI (4))) d_Mo_code_17 (by decide) ?_
  refine jr_callV (As := [.int (nI sl), .int (nI 4)]) d_Mo_code_18 k_Mo_code_114 (jl_ss hO) rfl rfl rfl (Nat.le_of_ble_eq_true rfl) (by decide) (by decide) (mo_outN hl (jl_ss hO) (MoW.sx hw (Or.inl (by decide))) (by decide) (by omega)) ?_
  show jl_W l G m_Mo_code (0, 0) 21 [some (.ref 22), some (.int (nI k)), some (.int (nI sl)), some (.int (nI o)), some (.int (x)), none] [.int (nI 0)] (σ.set (22) (.inr (7, [.int (nI 0), .ref 23, .ref 24, .ref 25, .ref 26, .ref 27, .ref 28, .ref 29, .ref 30, .ref 31, .ref 32, .ref 33, .ref 34, .ref 35, .ref 36, .ref 37, .int (vf), .int (wh), .int (wy), .ref 38, .ref 39, .ref 40, .ref 41, .int (hg), .ref 42, .ref 43, .ref 44, .ref 45, .ref 46, .ref 47, .ref 48, .ref 49, .int (dp), .ref 50, .ref 51, .ref 52, .int (md), .int (ov), .int (oh), .int (dn), .int (an)]))) (.inl (some (.int (nI 0)))) (σ.set 22 (.inr (7, MoF (nI 2) vf wh wy hg dp md ov oh dn an)))
  refine jr_if_ne 34 d_Mo_code_21 (by decide) (fun z => absurd rfl z) (fun _ => ?_)
  refine jr_aload_n d_Mo_code_24 rfl ?_
  refine jr_iload_n d_Mo_code_25 rfl ?_
  refine jr_bipush ((nI (26))) d_Mo_code_26 (by decide) ?_
  refine jr_callV (As := [.int (nI o), .int (nI 26)]) d_Mo_code_28 k_Mo_code_114 (jl_ss hO) rfl rfl rfl (Nat.le_of_ble_eq_true rfl) (by decide) (by decide) (mo_outN hl (jl_ss hO) (MoW.sx hw (Or.inl (by decide))) (by decide) (by omega)) ?_
  show jl_W l G m_Mo_code (0, 0) 31 [some (.ref 22), some (.int (nI k)), some (.int (nI sl)), some (.int (nI o)), some (.int (x)), none] [.int (nI 0)] (σ.set (22) (.inr (7, [.int (nI 0), .ref 23, .ref 24, .ref 25, .ref 26, .ref 27, .ref 28, .ref 29, .ref 30, .ref 31, .ref 32, .ref 33, .ref 34, .ref 35, .ref 36, .ref 37, .int (vf), .int (wh), .int (wy), .ref 38, .ref 39, .ref 40, .ref 41, .int (hg), .ref 42, .ref 43, .ref 44, .ref 45, .ref 46, .ref 47, .ref 48, .ref 49, .int (dp), .ref 50, .ref 51, .ref 52, .int (md), .int (ov), .int (oh), .int (dn), .int (an)]))) (.inl (some (.int (nI 0)))) (σ.set 22 (.inr (7, MoF (nI 2) vf wh wy hg dp md ov oh dn an)))
  refine jr_if_eq 40 d_Mo_code_31 (by decide) (fun _ => ?_) (fun z => absurd (by decide) z)
  refine jr_aload_n d_Mo_code_40 rfl ?_
  refine jr_iload_n d_Mo_code_41 rfl ?_
  refine jr_iload_n d_Mo_code_42 rfl ?_
  refine jr_callV (As := [.int (nI k), .int (nI sl)]) d_Mo_code_43 k_Mo_code_139 (jl_ss hO) rfl rfl rfl (Nat.le_of_ble_eq_true rfl) (by decide) (by decide) (mo_noMF hl (jl_ss hO) (MoW.sx hw (Or.inl (by decide))) hk hs4 hnm) ?_
  show jl_W l G m_Mo_code (0, 0) 46 [some (.ref 22), some (.int (nI k)), some (.int (nI sl)), some (.int (nI o)), some (.int (x)), none] [.int (nI 1)] (σ.set (22) (.inr (7, [.int (nI 0), .ref 23, .ref 24, .ref 25, .ref 26, .ref 27, .ref 28, .ref 29, .ref 30, .ref 31, .ref 32, .ref 33, .ref 34, .ref 35, .ref 36, .ref 37, .int (vf), .int (wh), .int (wy), .ref 38, .ref 39, .ref 40, .ref 41, .int (hg), .ref 42, .ref 43, .ref 44, .ref 45, .ref 46, .ref 47, .ref 48, .ref 49, .int (dp), .ref 50, .ref 51, .ref 52, .int (md), .int (ov), .int (oh), .int (dn), .int (an)]))) (.inl (some (.int (nI 0)))) (σ.set 22 (.inr (7, MoF (nI 2) vf wh wy hg dp md ov oh dn an)))
  refine jr_if_eq 55 d_Mo_code_46 (by decide) (fun z => absurd z (by decide)) (fun _ => ?_)
  refine jr_aload_n d_Mo_code_49 rfl ?_
  refine jr_iconst ((nI (2))) d_Mo_code_50 (by decide) ?_
  refine jr_callV (As := [.int (nI 2)]) d_Mo_code_51 k_Mo_code_118 (jl_ss hO) rfl rfl rfl (Nat.le_of_ble_eq_true rfl) (by decide) (by decide) (mo_fail hl (jl_ss hO) (MoW.sx hw (Or.inl (by decide)))) ?_
  show jl_W l G m_Mo_code (0, 0) 54 [some (.ref 22), some (.int (nI k)), some (.int (nI sl)), some (.int (nI o)), some (.int (x)), none] [.int (nI 0)] ((σ.set (22) (.inr (7, [.int (nI 0), .ref 23, .ref 24, .ref 25, .ref 26, .ref 27, .ref 28, .ref 29, .ref 30, .ref 31, .ref 32, .ref 33, .ref 34, .ref 35, .ref 36, .ref 37, .int (vf), .int (wh), .int (wy), .ref 38, .ref 39, .ref 40, .ref 41, .int (hg), .ref 42, .ref 43, .ref 44, .ref 45, .ref 46, .ref 47, .ref 48, .ref 49, .int (dp), .ref 50, .ref 51, .ref 52, .int (md), .int (ov), .int (oh), .int (dn), .int (an)]))).set (22) (.inr (7, [.int (nI 2), .ref 23, .ref 24, .ref 25, .ref 26, .ref 27, .ref 28, .ref 29, .ref 30, .ref 31, .ref 32, .ref 33, .ref 34, .ref 35, .ref 36, .ref 37, .int (vf), .int (wh), .int (wy), .ref 38, .ref 39, .ref 40, .ref 41, .int (hg), .ref 42, .ref 43, .ref 44, .ref 45, .ref 46, .ref 47, .ref 48, .ref 49, .int (dp), .ref 50, .ref 51, .ref 52, .int (md), .int (ov), .int (oh), .int (dn), .int (an)]))) (.inl (some (.int (nI 0)))) (σ.set 22 (.inr (7, MoF (nI 2) vf wh wy hg dp md ov oh dn an)))
  exact jr_iretE d_Mo_code_54 rfl (rfl) ((List.set_set ..).symm) (by decide) (by decide)
theorem d_Mo_code_55 : decode m_Mo_code.2.1 55 = .ok (.iconst 4, 1) := by decide +kernel
theorem d_Mo_code_56 : decode m_Mo_code.2.1 56 = .ok (.iload_n 1, 1) := by decide +kernel
theorem d_Mo_code_57 : decode m_Mo_code.2.1 57 = .ok (.imul, 1) := by decide +kernel
theorem d_Mo_code_58 : decode m_Mo_code.2.1 58 = .ok (.iload_n 2, 1) := by decide +kernel
theorem d_Mo_code_59 : decode m_Mo_code.2.1 59 = .ok (.iadd, 1) := by decide +kernel
theorem d_Mo_code_60 : decode m_Mo_code.2.1 60 = .ok (.istore 5, 2) := by decide +kernel
theorem d_Mo_code_62 : decode m_Mo_code.2.1 62 = .ok (.aload_n 0, 1) := by decide +kernel
theorem f_Mo_code_35 : jl_fd m_Mo_code 35 7 9 = true := by decide +kernel
theorem d_Mo_code_63 : decode m_Mo_code.2.1 63 = .ok (.getfield 35, 3) := by decide +kernel
theorem d_Mo_code_66 : decode m_Mo_code.2.1 66 = .ok (.iload 5, 2) := by decide +kernel
theorem d_Mo_code_68 : decode m_Mo_code.2.1 68 = .ok (.iaload, 1) := by decide +kernel
theorem d_Mo_code_69 : decode m_Mo_code.2.1 69 = .ok (.bipush 24, 2) := by decide +kernel
theorem d_Mo_code_71 : decode m_Mo_code.2.1 71 = .ok (.if_icmp .ne 9, 3) := by decide +kernel
theorem d_Mo_code_80 : decode m_Mo_code.2.1 80 = .ok (.aload_n 0, 1) := by decide +kernel
theorem f_Mo_code_38 : jl_fd m_Mo_code 38 7 10 = true := by decide +kernel
theorem d_Mo_code_81 : decode m_Mo_code.2.1 81 = .ok (.getfield 38, 3) := by decide +kernel
theorem d_Mo_code_84 : decode m_Mo_code.2.1 84 = .ok (.bipush 24, 2) := by decide +kernel
theorem d_Mo_code_86 : decode m_Mo_code.2.1 86 = .ok (.iload 5, 2) := by decide +kernel
theorem d_Mo_code_88 : decode m_Mo_code.2.1 88 = .ok (.imul, 1) := by decide +kernel
theorem d_Mo_code_89 : decode m_Mo_code.2.1 89 = .ok (.aload_n 0, 1) := by decide +kernel
theorem d_Mo_code_90 : decode m_Mo_code.2.1 90 = .ok (.getfield 35, 3) := by decide +kernel
theorem d_Mo_code_93 : decode m_Mo_code.2.1 93 = .ok (.iload 5, 2) := by decide +kernel
theorem d_Mo_code_95 : decode m_Mo_code.2.1 95 = .ok (.iaload, 1) := by decide +kernel
theorem d_Mo_code_96 : decode m_Mo_code.2.1 96 = .ok (.iadd, 1) := by decide +kernel
theorem d_Mo_code_97 : decode m_Mo_code.2.1 97 = .ok (.iload_n 3, 1) := by decide +kernel
theorem d_Mo_code_98 : decode m_Mo_code.2.1 98 = .ok (.iastore, 1) := by decide +kernel
theorem d_Mo_code_99 : decode m_Mo_code.2.1 99 = .ok (.aload_n 0, 1) := by decide +kernel
theorem f_Mo_code_41 : jl_fd m_Mo_code 41 7 11 = true := by decide +kernel
theorem d_Mo_code_100 : decode m_Mo_code.2.1 100 = .ok (.getfield 41, 3) := by decide +kernel
theorem d_Mo_code_103 : decode m_Mo_code.2.1 103 = .ok (.bipush 24, 2) := by decide +kernel
theorem d_Mo_code_105 : decode m_Mo_code.2.1 105 = .ok (.iload 5, 2) := by decide +kernel
theorem d_Mo_code_107 : decode m_Mo_code.2.1 107 = .ok (.imul, 1) := by decide +kernel
theorem d_Mo_code_108 : decode m_Mo_code.2.1 108 = .ok (.aload_n 0, 1) := by decide +kernel
theorem d_Mo_code_109 : decode m_Mo_code.2.1 109 = .ok (.getfield 35, 3) := by decide +kernel
theorem d_Mo_code_112 : decode m_Mo_code.2.1 112 = .ok (.iload 5, 2) := by decide +kernel
theorem d_Mo_code_114 : decode m_Mo_code.2.1 114 = .ok (.iaload, 1) := by decide +kernel
theorem d_Mo_code_115 : decode m_Mo_code.2.1 115 = .ok (.iadd, 1) := by decide +kernel
theorem d_Mo_code_116 : decode m_Mo_code.2.1 116 = .ok (.iload 4, 2) := by decide +kernel
theorem d_Mo_code_118 : decode m_Mo_code.2.1 118 = .ok (.iastore, 1) := by decide +kernel
theorem d_Mo_code_119 : decode m_Mo_code.2.1 119 = .ok (.aload_n 0, 1) := by decide +kernel
theorem d_Mo_code_120 : decode m_Mo_code.2.1 120 = .ok (.getfield 35, 3) := by decide +kernel
theorem d_Mo_code_123 : decode m_Mo_code.2.1 123 = .ok (.iload 5, 2) := by decide +kernel
theorem d_Mo_code_125 : decode m_Mo_code.2.1 125 = .ok (.dup2, 1) := by decide +kernel
theorem d_Mo_code_126 : decode m_Mo_code.2.1 126 = .ok (.iaload, 1) := by decide +kernel
theorem d_Mo_code_127 : decode m_Mo_code.2.1 127 = .ok (.iconst 1, 1) := by decide +kernel
theorem d_Mo_code_128 : decode m_Mo_code.2.1 128 = .ok (.iadd, 1) := by decide +kernel
theorem d_Mo_code_129 : decode m_Mo_code.2.1 129 = .ok (.iastore, 1) := by decide +kernel
theorem d_Mo_code_130 : decode m_Mo_code.2.1 130 = .ok (.aload_n 0, 1) := by decide +kernel
theorem d_Mo_code_131 : decode m_Mo_code.2.1 131 = .ok (.iconst 0, 1) := by decide +kernel
theorem p_Mo_code_122 : jl_fp m_Mo_code 122 7 16 = true := by decide +kernel
theorem d_Mo_code_132 : decode m_Mo_code.2.1 132 = .ok (.putfield 122, 3) := by decide +kernel
theorem d_Mo_code_135 : decode m_Mo_code.2.1 135 = .ok (.aload_n 0, 1) := by decide +kernel
theorem d_Mo_code_136 : decode m_Mo_code.2.1 136 = .ok (.getfield 35, 3) := by decide +kernel
theorem d_Mo_code_139 : decode m_Mo_code.2.1 139 = .ok (.iload 5, 2) := by decide +kernel
theorem d_Mo_code_141 : decode m_Mo_code.2.1 141 = .ok (.iaload, 1) := by decide +kernel
theorem d_Mo_code_142 : decode m_Mo_code.2.1 142 = .ok (.iconst 1, 1) := by decide +kernel
theorem d_Mo_code_143 : decode m_Mo_code.2.1 143 = .ok (.isub, 1) := by decide +kernel
theorem d_Mo_code_144 : decode m_Mo_code.2.1 144 = .ok (.ireturn, 1) := by decide +kernel
theorem d_Mo_code_74 : decode m_Mo_code.2.1 74 = .ok (.aload_n 0, 1) := by decide +kernel
theorem d_Mo_code_75 : decode m_Mo_code.2.1 75 = .ok (.iconst 3, 1) := by decide +kernel
theorem d_Mo_code_76 : decode m_Mo_code.2.1 76 = .ok (.invokevirtual 118, 3) := by decide +kernel
theorem d_Mo_code_79 : decode m_Mo_code.2.1 79 = .ok (.ireturn, 1) := by decide +kernel
theorem mo_code (hl : l.stackTraces = false) {k sl o : Nat} {x : Int32} (hO : MoO σ fa vf wh wy hg dp md ov oh dn an) (hw : MoW σ tb pr ow ft hs) (hu : MoM σ u1 u2 ur ul uo ua uc us ut uk) (hk : k < 6) (hs4 : sl < 4) (ho : o < 26) (hnm : noM tb hs k sl = false) (hul : ul (4 * k + sl) ≤ 24) : jl_m l G m_Mo_code [.ref 22, .int (nI k), .int (nI sl), .int (nI o), .int (x)] σ (if ul (4 * k + sl) < 24 then .inl (some (.int (nI (ul (4 * k + sl))))) else .inl (some (.int (nI 0)))) (if ul (4 * k + sl) < 24 then ((((σ.set 22 (.inr (7, MoF (nI 0) vf wh wy hg dp md ov oh dn an))).set 32 (.inl (0, 576, .inl fun j => nI (va_up uo (24 * (4 * k + sl) + ul (4 * k + sl)) o j)))).set 33 (.inl (0, 576, .inl (upd ua (24 * (4 * k + sl) + ul (4 * k + sl)) x)))).set 31 (.inl (0, 24, .inl fun j => nI (va_up ul (4 * k + sl) (ul (4 * k + sl) + 1) j)))).set 22 (.inr (7, MoF (nI 0) (nI 0) wh wy hg dp md ov oh dn an)) else σ.set 22 (.inr (7, MoF (nI 3) vf wh wy hg dp md ov oh dn an))) := by
  obtain ⟨h23, h24, h25, h26, h27⟩ := id hw; obtain ⟨h28, h29, h30, h31, h32, h33, h34, h35, h36, h37⟩ := id hu
  have hvu : va_up ul (4 * k + sl) (ul (4 * k + sl) + 1) (4 * k + sl) = ul (4 * k + sl) + 1 := by simp [va_up]
  refine jl_of (as := [.ref 22, .int (nI k), .int (nI sl), .int (nI o), .int (x)]) rfl (by decide) hl (jl_cc rfl (jl_cc rfl (jl_cc rfl (jl_cc rfl (jl_cc rfl jl_ca))))) (Nat.le_of_ble_eq_true rfl) ?_
  show jl_W l G m_Mo_code (0, 0) 0 [some (.ref 22), some (.int (nI k)), some (.int (nI sl)), some (.int (nI o)), some (.int (x)), none] [] (σ) (if ul (4 * k + sl) < 24 then .inl (some (.int (nI (ul (4 * k + sl))))) else .inl (some (.int (nI 0)))) (if ul (4 * k + sl) < 24 then ((((σ.set 22 (.inr (7, MoF (nI 0) vf wh wy hg dp md ov oh dn an))).set 32 (.inl (0, 576, .inl fun j => nI (va_up uo (24 * (4 * k + sl) + ul (4 * k + sl)) o j)))).set 33 (.inl (0, 576, .inl (upd ua (24 * (4 * k + sl) + ul (4 * k + sl)) x)))).set 31 (.inl (0, 24, .inl fun j => nI (va_up ul (4 * k + sl) (ul (4 * k + sl) + 1) j)))).set 22 (.inr (7, MoF (nI 0) (nI 0) wh wy hg dp md ov oh dn an)) else σ.set 22 (.inr (7, MoF (nI 3) vf wh wy hg dp md ov oh dn an)))
  refine jr_aload_n d_Mo_code_0 rfl ?_
  refine jr_iconst ((nI (0))) d_Mo_code_1 (by decide) ?_
  refine jr_putf d_Mo_code_2 p_Mo_code_111 hO (Nat.le_of_ble_eq_true rfl) jl_fit_int ?_
  show jl_W l G m_Mo_code (0, 0) 5 [some (.ref 22), some (.int (nI k)), some (.int (nI sl)), some (.int (nI o)), some (.int (x)), none] [] (σ.set (22) (.inr (7, [.int (nI 0), .ref 23, .ref 24, .ref 25, .ref 26, .ref 27, .ref 28, .ref 29, .ref 30, .ref 31, .ref 32, .ref 33, .ref 34, .ref 35, .ref 36, .ref 37, .int (vf), .int (wh), .int (wy), .ref 38, .ref 39, .ref 40, .ref 41, .int (hg), .ref 42, .ref 43, .ref 44, .ref 45, .ref 46, .ref 47, .ref 48, .ref 49, .int (dp), .ref 50, .ref 51, .ref 52, .int (md), .int (ov), .int (oh), .int (dn), .int (an)]))) (if ul (4 * k + sl) < 24 then .inl (some (.int (nI (ul (4 * k + sl))))) else .inl (some (.int (nI 0)))) (if ul (4 * k + sl) < 24 then ((((σ.set 22 (.inr (7, MoF (nI 0) vf wh wy hg dp md ov oh dn an))).set 32 (.inl (0, 576, .inl fun j => nI (va_up uo (24 * (4 * k + sl) + ul (4 * k + sl)) o j)))).set 33 (.inl (0, 576, .inl (upd ua (24 * (4 * k + sl) + ul (4 * k + sl)) x)))).set 31 (.inl (0, 24, .inl fun j => nI (va_up ul (4 * k + sl) (ul (4 * k + sl) + 1) j)))).set 22 (.inr (7, MoF (nI 0) (nI 0) wh wy hg dp md ov oh dn an)) else σ.set 22 (.inr (7, MoF (nI 3) vf wh wy hg dp md ov oh dn an)))
  refine jr_aload_n d_Mo_code_5 rfl ?_
  refine jr_iload_n d_Mo_code_6 rfl ?_
  refine jr_bipush ((nI (6))) d_Mo_code_7 (by decide) ?_
  refine jr_callV (As := [.int (nI k), .int (nI 6)]) d_Mo_code_9 k_Mo_code_114 (jl_ss hO) rfl rfl rfl (Nat.le_of_ble_eq_true rfl) (by decide) (by decide) (mo_outN hl (jl_ss hO) (MoW.sx hw (Or.inl (by decide))) (by decide) (by omega)) ?_
  show jl_W l G m_Mo_code (0, 0) 12 [some (.ref 22), some (.int (nI k)), some (.int (nI sl)), some (.int (nI o)), some (.int (x)), none] [.int (nI 0)] (σ.set (22) (.inr (7, [.int (nI 0), .ref 23, .ref 24, .ref 25, .ref 26, .ref 27, .ref 28, .ref 29, .ref 30, .ref 31, .ref 32, .ref 33, .ref 34, .ref 35, .ref 36, .ref 37, .int (vf), .int (wh), .int (wy), .ref 38, .ref 39, .ref 40, .ref 41, .int (hg), .ref 42, .ref 43, .ref 44, .ref 45, .ref 46, .ref 47, .ref 48, .ref 49, .int (dp), .ref 50, .ref 51, .ref 52, .int (md), .int (ov), .int (oh), .int (dn), .int (an)]))) (if ul (4 * k + sl) < 24 then .inl (some (.int (nI (ul (4 * k + sl))))) else .inl (some (.int (nI 0)))) (if ul (4 * k + sl) < 24 then ((((σ.set 22 (.inr (7, MoF (nI 0) vf wh wy hg dp md ov oh dn an))).set 32 (.inl (0, 576, .inl fun j => nI (va_up uo (24 * (4 * k + sl) + ul (4 * k + sl)) o j)))).set 33 (.inl (0, 576, .inl (upd ua (24 * (4 * k + sl) + ul (4 * k + sl)) x)))).set 31 (.inl (0, 24, .inl fun j => nI (va_up ul (4 * k + sl) (ul (4 * k + sl) + 1) j)))).set 22 (.inr (7, MoF (nI 0) (nI 0) wh wy hg dp md ov oh dn an)) else σ.set 22 (.inr (7, MoF (nI 3) vf wh wy hg dp md ov oh dn an)))
  refine jr_if_ne 34 d_Mo_code_12 (by decide) (fun z => absurd rfl z) (fun _ => ?_)
  refine jr_aload_n d_Mo_code_15 rfl ?_
  refine jr_iload_n d_Mo_code_16 rfl ?_
  refine jr_iconst ((nI (4))) d_Mo_code_17 (by decide) ?_
  refine jr_callV (As := [.int (nI sl), .int (nI 4)]) d_Mo_code_18 k_Mo_code_114 (jl_ss hO) rfl rfl rfl (Nat.le_of_ble_eq_true rfl) (by decide) (by decide) (mo_outN hl (jl_ss hO) (MoW.sx hw (Or.inl (by decide))) (by decide) (by omega)) ?_
  show jl_W l G m_Mo_code (0, 0) 21 [some (.ref 22), some (.int (nI k)), some (.int (nI sl)), some (.int (nI o)), some (.int (x)), none] [.int (nI 0)] (σ.set (22) (.inr (7, [.int (nI 0), .ref 23, .ref 24, .ref 25, .ref 26, .ref 27, .ref 28, .ref 29, .ref 30, .ref 31, .ref 32, .ref 33, .ref 34, .ref 35, .ref 36, .ref 37, .int (vf), .int (wh), .int (wy), .ref 38, .ref 39, .ref 40, .ref 41, .int (hg), .ref 42, .ref 43, .ref 44, .ref 45, .ref 46, .ref 47, .ref 48, .ref 49, .int (dp), .ref 50, .ref 51, .ref 52, .int (md), .int (ov), .int (oh), .int (dn), .int (an)]))) (if ul (4 * k + sl) < 24 then .inl (some (.int (nI (ul (4 * k + sl))))) else .inl (some (.int (nI 0)))) (if ul (4 * k + sl) < 24 then ((((σ.set 22 (.inr (7, MoF (nI 0) vf wh wy hg dp md ov oh dn an))).set 32 (.inl (0, 576, .inl fun j => nI (va_up uo (24 * (4 * k + sl) + ul (4 * k + sl)) o j)))).set 33 (.inl (0, 576, .inl (upd ua (24 * (4 * k + sl) + ul (4 * k + sl)) x)))).set 31 (.inl (0, 24, .inl fun j => nI (va_up ul (4 * k + sl) (ul (4 * k + sl) + 1) j)))).set 22 (.inr (7, MoF (nI 0) (nI 0) wh wy hg dp md ov oh dn an)) else σ.set 22 (.inr (7, MoF (nI 3) vf wh wy hg dp md ov oh dn an)))
  refine jr_if_ne 34 d_Mo_code_21 (by decide) (fun z => absurd rfl z) (fun _ => ?_)
  refine jr_aload_n d_Mo_code_24 rfl ?_
  refine jr_iload_n d_Mo_code_25 rfl ?_
  refine jr_bipush ((nI (26))) d_Mo_code_26 (by decide) ?_
  refine jr_callV (As := [.int (nI o), .int (nI 26)]) d_Mo_code_28 k_Mo_code_114 (jl_ss hO) rfl rfl rfl (Nat.le_of_ble_eq_true rfl) (by decide) (by decide) (mo_outN hl (jl_ss hO) (MoW.sx hw (Or.inl (by decide))) (by decide) (by omega)) ?_
  show jl_W l G m_Mo_code (0, 0) 31 [some (.ref 22), some (.int (nI k)), some (.int (nI sl)), some (.int (nI o)), some (.int (x)), none] [.int (nI 0)] (σ.set (22) (.inr (7, [.int (nI 0), .ref 23, .ref 24, .ref 25, .ref 26, .ref 27, .ref 28, .ref 29, .ref 30, .ref 31, .ref 32, .ref 33, .ref 34, .ref 35, .ref 36, .ref 37, .int (vf), .int (wh), .int (wy), .ref 38, .ref 39, .ref 40, .ref 41, .int (hg), .ref 42, .ref 43, .ref 44, .ref 45, .ref 46, .ref 47, .ref 48, .ref 49, .int (dp), .ref 50, .ref 51, .ref 52, .int (md), .int (ov), .int (oh), .int (dn), .int (an)]))) (if ul (4 * k + sl) < 24 then .inl (some (.int (nI (ul (4 * k + sl))))) else .inl (some (.int (nI 0)))) (if ul (4 * k + sl) < 24 then ((((σ.set 22 (.inr (7, MoF (nI 0) vf wh wy hg dp md ov oh dn an))).set 32 (.inl (0, 576, .inl fun j => nI (va_up uo (24 * (4 * k + sl) + ul (4 * k + sl)) o j)))).set 33 (.inl (0, 576, .inl (upd ua (24 * (4 * k + sl) + ul (4 * k + sl)) x)))).set 31 (.inl (0, 24, .inl fun j => nI (va_up ul (4 * k + sl) (ul (4 * k + sl) + 1) j)))).set 22 (.inr (7, MoF (nI 0) (nI 0) wh wy hg dp md ov oh dn an)) else σ.set 22 (.inr (7, MoF (nI 3) vf wh wy hg dp md ov oh dn an)))
  refine jr_if_eq 40 d_Mo_code_31 (by decide) (fun _ => ?_) (fun z => absurd (by decide) z)
  refine jr_aload_n d_Mo_code_40 rfl ?_
  refine jr_iload_n d_Mo_code_41 rfl ?_
  refine jr_iload_n d_Mo_code_42 rfl ?_
  refine jr_callV (As := [.int (nI k), .int (nI sl)]) d_Mo_code_43 k_Mo_code_139 (jl_ss hO) rfl rfl rfl (Nat.le_of_ble_eq_true rfl) (by decide) (by decide) (mo_noMF hl (jl_ss hO) (MoW.sx hw (Or.inl (by decide))) hk hs4 hnm) ?_
  show jl_W l G m_Mo_code (0, 0) 46 [some (.ref 22), some (.int (nI k)), some (.int (nI sl)), some (.int (nI o)), some (.int (x)), none] [.int (nI 0)] (σ.set (22) (.inr (7, [.int (nI 0), .ref 23, .ref 24, .ref 25, .ref 26, .ref 27, .ref 28, .ref 29, .ref 30, .ref 31, .ref 32, .ref 33, .ref 34, .ref 35, .ref 36, .ref 37, .int (vf), .int (wh), .int (wy), .ref 38, .ref 39, .ref 40, .ref 41, .int (hg), .ref 42, .ref 43, .ref 44, .ref 45, .ref 46, .ref 47, .ref 48, .ref 49, .int (dp), .ref 50, .ref 51, .ref 52, .int (md), .int (ov), .int (oh), .int (dn), .int (an)]))) (if ul (4 * k + sl) < 24 then .inl (some (.int (nI (ul (4 * k + sl))))) else .inl (some (.int (nI 0)))) (if ul (4 * k + sl) < 24 then ((((σ.set 22 (.inr (7, MoF (nI 0) vf wh wy hg dp md ov oh dn an))).set 32 (.inl (0, 576, .inl fun j => nI (va_up uo (24 * (4 * k + sl) + ul (4 * k + sl)) o j)))).set 33 (.inl (0, 576, .inl (upd ua (24 * (4 * k + sl) + ul (4 * k + sl)) x)))).set 31 (.inl (0, 24, .inl fun j => nI (va_up ul (4 * k + sl) (ul (4 * k + sl) + 1) j)))).set 22 (.inr (7, MoF (nI 0) (nI 0) wh wy hg dp md ov oh dn an)) else σ.set 22 (.inr (7, MoF (nI 3) vf wh wy hg dp md ov oh dn an)))
  refine jr_if_eq 55 d_Mo_code_46 (by decide) (fun _ => ?_) (fun z => absurd (by decide) z)
  refine jr_iconst ((nI (4))) d_Mo_code_55 (by decide) ?_
  refine jr_iload_n d_Mo_code_56 rfl ?_
  refine jr_imulN d_Mo_code_57 ?_
  refine jr_iload_n d_Mo_code_58 rfl ?_
  refine jr_iaddN d_Mo_code_59 ?_
  refine jr_istore d_Mo_code_60 (by decide) ?_
  show jl_W l G m_Mo_code (0, 0) 62 [some (.ref 22), some (.int (nI k)), some (.int (nI sl)), some (.int (nI o)), some (.int (x)), some (.int (nI (((4) * (k)) + (sl))))] [] (σ.set (22) (.inr (7, [.int (nI 0), .ref 23, .ref 24, .ref 25, .ref 26, .ref 27, .ref 28, .ref 29, .ref 30, .ref 31, .ref 32, .ref 33, .ref 34, .ref 35, .ref 36, .ref 37, .int (vf), .int (wh), .int (wy), .ref 38, .ref 39, .ref 40, .ref 41, .int (hg), .ref 42, .ref 43, .ref 44, .ref 45, .ref 46, .ref 47, .ref 48, .ref 49, .int (dp), .ref 50, .ref 51, .ref 52, .int (md), .int (ov), .int (oh), .int (dn), .int (an)]))) (if ul (4 * k + sl) < 24 then .inl (some (.int (nI (ul (4 * k + sl))))) else .inl (some (.int (nI 0)))) (if ul (4 * k + sl) < 24 then ((((σ.set 22 (.inr (7, MoF (nI 0) vf wh wy hg dp md ov oh dn an))).set 32 (.inl (0, 576, .inl fun j => nI (va_up uo (24 * (4 * k + sl) + ul (4 * k + sl)) o j)))).set 33 (.inl (0, 576, .inl (upd ua (24 * (4 * k + sl) + ul (4 * k + sl)) x)))).set 31 (.inl (0, 24, .inl fun j => nI (va_up ul (4 * k + sl) (ul (4 * k + sl) + 1) j)))).set 22 (.inr (7, MoF (nI 0) (nI 0) wh wy hg dp md ov oh dn an)) else σ.set 22 (.inr (7, MoF (nI 3) vf wh wy hg dp md ov oh dn an)))
  refine jr_aload_n d_Mo_code_62 rfl ?_
  refine jr_getf d_Mo_code_63 f_Mo_code_35 (jl_ss hO) rfl ?_
  refine jr_iload d_Mo_code_66 rfl ?_
  refine jr_ialdN d_Mo_code_68 (jl_sn (by decide) h31) (by omega) (by omega) ?_
  refine jr_bipush ((nI (24))) d_Mo_code_69 (by decide) ?_
  refine jr_icmp_neN 80 d_Mo_code_71 (by decide) (by omega) (by omega) (fun c1 => ?_) (fun c1 => ?_)
  · refine jr_aload_n d_Mo_code_80 rfl ?_
    refine jr_getf d_Mo_code_81 f_Mo_code_38 (jl_ss hO) rfl ?_
    refine jr_bipush ((nI (24))) d_Mo_code_84 (by decide) ?_
    refine jr_iload d_Mo_code_86 rfl ?_
    refine jr_imulN d_Mo_code_88 ?_
    refine jr_aload_n d_Mo_code_89 rfl ?_
    refine jr_getf d_Mo_code_90 f_Mo_code_35 (jl_ss hO) rfl ?_
    refine jr_iload d_Mo_code_93 rfl ?_
    refine jr_ialdN d_Mo_code_95 (jl_sn (by decide) h31) (by omega) (by omega) ?_
    refine jr_iaddN d_Mo_code_96 ?_
    refine jr_iload_n d_Mo_code_97 rfl ?_
    refine jr_iastN d_Mo_code_98 (jl_sn (by decide) h32) (by omega) (by omega) ?_
    rw [show upd (fun j => nI (uo j)) (((24) * (((4) * (k)) + (sl))) + (ul (((4) * (k)) + (sl)))) ((nI (o))) = (fun j => nI ((va_up uo (((24) * (((4) * (k)) + (sl))) + (ul (((4) * (k)) + (sl)))) (o)) j)) from nI_up uo (((24) * (((4) * (k)) + (sl))) + (ul (((4) * (k)) + (sl)))) (o)]
    show jl_W l G m_Mo_code (0, 0) 99 [some (.ref 22), some (.int (nI k)), some (.int (nI sl)), some (.int (nI o)), some (.int (x)), some (.int (nI (((4) * (k)) + (sl))))] [] ((σ.set (22) (.inr (7, [.int (nI 0), .ref 23, .ref 24, .ref 25, .ref 26, .ref 27, .ref 28, .ref 29, .ref 30, .ref 31, .ref 32, .ref 33, .ref 34, .ref 35, .ref 36, .ref 37, .int (vf), .int (wh), .int (wy), .ref 38, .ref 39, .ref 40, .ref 41, .int (hg), .ref 42, .ref 43, .ref 44, .ref 45, .ref 46, .ref 47, .ref 48, .ref 49, .int (dp), .ref 50, .ref 51, .ref 52, .int (md), .int (ov), .int (oh), .int (dn), .int (an)]))).set (32) (.inl (0, 576, .inl (fun j => nI ((va_up uo (((24) * (((4) * (k)) + (sl))) + (ul (((4) * (k)) + (sl)))) (o)) j))))) (if ul (4 * k + sl) < 24 then .inl (some (.int (nI (ul (4 * k + sl))))) else .inl (some (.int (nI 0)))) (if ul (4 * k + sl) < 24 then ((((σ.set 22 (.inr (7, MoF (nI 0) vf wh wy hg dp md ov oh dn an))).set 32 (.inl (0, 576, .inl fun j => nI (va_up uo (24 * (4 * k + sl) + ul (4 * k + sl)) o j)))).set 33 (.inl (0, 576, .inl (upd ua (24 * (4 * k + sl) + ul (4 * k + sl)) x)))).set 31 (.inl (0, 24, .inl fun j => nI (va_up ul (4 * k + sl) (ul (4 * k + sl) + 1) j)))).set 22 (.inr (7, MoF (nI 0) (nI 0) wh wy hg dp md ov oh dn an)) else σ.set 22 (.inr (7, MoF (nI 3) vf wh wy hg dp md ov oh dn an)))
    refine jr_aload_n d_Mo_code_99 rfl ?_
    refine jr_getf d_Mo_code_100 f_Mo_code_41 (jl_sn (by decide) (jl_ss hO)) rfl ?_
    refine jr_bipush ((nI (24))) d_Mo_code_103 (by decide) ?_
    refine jr_iload d_Mo_code_105 rfl ?_
    refine jr_imulN d_Mo_code_107 ?_
    refine jr_aload_n d_Mo_code_108 rfl ?_
    refine jr_getf d_Mo_code_109 f_Mo_code_35 (jl_sn (by decide) (jl_ss hO)) rfl ?_
    refine jr_iload d_Mo_code_112 rfl ?_
    refine jr_ialdN d_Mo_code_114 (jl_sn (by decide) (jl_sn (by decide) h31)) (by omega) (by omega) ?_
    refine jr_iaddN d_Mo_code_115 ?_
    refine jr_iload d_Mo_code_116 rfl ?_
    refine jr_iastN d_Mo_code_118 (jl_sn (by decide) (jl_sn (by decide) h33)) (by omega) (by omega) ?_
    show jl_W l G m_Mo_code (0, 0) 119 [some (.ref 22), some (.int (nI k)), some (.int (nI sl)), some (.int (nI o)), some (.int (x)), some (.int (nI (((4) * (k)) + (sl))))] [] (((σ.set (22) (.inr (7, [.int (nI 0), .ref 23, .ref 24, .ref 25, .ref 26, .ref 27, .ref 28, .ref 29, .ref 30, .ref 31, .ref 32, .ref 33, .ref 34, .ref 35, .ref 36, .ref 37, .int (vf), .int (wh), .int (wy), .ref 38, .ref 39, .ref 40, .ref 41, .int (hg), .ref 42, .ref 43, .ref 44, .ref 45, .ref 46, .ref 47, .ref 48, .ref 49, .int (dp), .ref 50, .ref 51, .ref 52, .int (md), .int (ov), .int (oh), .int (dn), .int (an)]))).set (32) (.inl (0, 576, .inl (fun j => nI ((va_up uo (((24) * (((4) * (k)) + (sl))) + (ul (((4) * (k)) + (sl)))) (o)) j))))).set (33) (.inl (0, 576, .inl (upd (ua) (((24) * (((4) * (k)) + (sl))) + (ul (((4) * (k)) + (sl)))) ((x)))))) (if ul (4 * k + sl) < 24 then .inl (some (.int (nI (ul (4 * k + sl))))) else .inl (some (.int (nI 0)))) (if ul (4 * k + sl) < 24 then ((((σ.set 22 (.inr (7, MoF (nI 0) vf wh wy hg dp md ov oh dn an))).set 32 (.inl (0, 576, .inl fun j => nI (va_up uo (24 * (4 * k + sl) + ul (4 * k + sl)) o j)))).set 33 (.inl (0, 576, .inl (upd ua (24 * (4 * k + sl) + ul (4 * k + sl)) x)))).set 31 (.inl (0, 24, .inl fun j => nI (va_up ul (4 * k + sl) (ul (4 * k + sl) + 1) j)))).set 22 (.inr (7, MoF (nI 0) (nI 0) wh wy hg dp md ov oh dn an)) else σ.set 22 (.inr (7, MoF (nI 3) vf wh wy hg dp md ov oh dn an)))
    refine jr_aload_n d_Mo_code_119 rfl ?_
    refine jr_getf d_Mo_code_120 f_Mo_code_35 (jl_sn (by decide) (jl_sn (by decide) (jl_ss hO))) rfl ?_
    refine jr_iload d_Mo_code_123 rfl ?_
    refine jr_dup2 d_Mo_code_125 rfl rfl ?_
    refine jr_ialdN d_Mo_code_126 (jl_sn (by decide) (jl_sn (by decide) (jl_sn (by decide) h31))) (by omega) (by omega) ?_
    refine jr_iconst ((nI (1))) d_Mo_code_127 (by decide) ?_
    refine jr_iaddN d_Mo_code_128 ?_
    refine jr_iastN d_Mo_code_129 (jl_sn (by decide) (jl_sn (by decide) (jl_sn (by decide) h31))) (by omega) (by omega) ?_
    rw [show upd (fun j => nI (ul j)) (((4) * (k)) + (sl)) ((nI ((ul (((4) * (k)) + (sl))) + (1)))) = (fun j => nI ((va_up ul (((4) * (k)) + (sl)) ((ul (((4) * (k)) + (sl))) + (1))) j)) from nI_up ul (((4) * (k)) + (sl)) ((ul (((4) * (k)) + (sl))) + (1))]
    show jl_W l G m_Mo_code (0, 0) 130 [some (.ref 22), some (.int (nI k)), some (.int (nI sl)), some (.int (nI o)), some (.int (x)), some (.int (nI (((4) * (k)) + (sl))))] [] ((((σ.set (22) (.inr (7, [.int (nI 0), .ref 23, .ref 24, .ref 25, .ref 26, .ref 27, .ref 28, .ref 29, .ref 30, .ref 31, .ref 32, .ref 33, .ref 34, .ref 35, .ref 36, .ref 37, .int (vf), .int (wh), .int (wy), .ref 38, .ref 39, .ref 40, .ref 41, .int (hg), .ref 42, .ref 43, .ref 44, .ref 45, .ref 46, .ref 47, .ref 48, .ref 49, .int (dp), .ref 50, .ref 51, .ref 52, .int (md), .int (ov), .int (oh), .int (dn), .int (an)]))).set (32) (.inl (0, 576, .inl (fun j => nI ((va_up uo (((24) * (((4) * (k)) + (sl))) + (ul (((4) * (k)) + (sl)))) (o)) j))))).set (33) (.inl (0, 576, .inl (upd (ua) (((24) * (((4) * (k)) + (sl))) + (ul (((4) * (k)) + (sl)))) ((x)))))).set (31) (.inl (0, 24, .inl (fun j => nI ((va_up ul (((4) * (k)) + (sl)) ((ul (((4) * (k)) + (sl))) + (1))) j))))) (if ul (4 * k + sl) < 24 then .inl (some (.int (nI (ul (4 * k + sl))))) else .inl (some (.int (nI 0)))) (if ul (4 * k + sl) < 24 then ((((σ.set 22 (.inr (7, MoF (nI 0) vf wh wy hg dp md ov oh dn an))).set 32 (.inl (0, 576, .inl fun j => nI (va_up uo (24 * (4 * k + sl) + ul (4 * k + sl)) o j)))).set 33 (.inl (0, 576, .inl (upd ua (24 * (4 * k + sl) + ul (4 * k + sl)) x)))).set 31 (.inl (0, 24, .inl fun j => nI (va_up ul (4 * k + sl) (ul (4 * k + sl) + 1) j)))).set 22 (.inr (7, MoF (nI 0) (nI 0) wh wy hg dp md ov oh dn an)) else σ.set 22 (.inr (7, MoF (nI 3) vf wh wy hg dp md ov oh dn an)))
    refine jr_aload_n d_Mo_code_130 rfl ?_
    refine jr_iconst ((nI (0))) d_Mo_code_131 (by decide) ?_
    refine jr_putf d_Mo_code_132 p_Mo_code_122 (jl_sn (by decide) (jl_sn (by decide) (jl_sn (by decide) (jl_ss hO)))) (Nat.le_of_ble_eq_true rfl) jl_fit_b0 ?_
    show jl_W l G m_Mo_code (0, 0) 135 [some (.ref 22), some (.int (nI k)), some (.int (nI sl)), some (.int (nI o)), some (.int (x)), some (.int (nI (((4) * (k)) + (sl))))] [] (((((σ.set (22) (.inr (7, [.int (nI 0), .ref 23, .ref 24, .ref 25, .ref 26, .ref 27, .ref 28, .ref 29, .ref 30, .ref 31, .ref 32, .ref 33, .ref 34, .ref 35, .ref 36, .ref 37, .int (vf), .int (wh), .int (wy), .ref 38, .ref 39, .ref 40, .ref 41, .int (hg), .ref 42, .ref 43, .ref 44, .ref 45, .ref 46, .ref 47, .ref 48, .ref 49, .int (dp), .ref 50, .ref 51, .ref 52, .int (md), .int (ov), .int (oh), .int (dn), .int (an)]))).set (32) (.inl (0, 576, .inl (fun j => nI ((va_up uo (((24) * (((4) * (k)) + (sl))) + (ul (((4) * (k)) + (sl)))) (o)) j))))).set (33) (.inl (0, 576, .inl (upd (ua) (((24) * (((4) * (k)) + (sl))) + (ul (((4) * (k)) + (sl)))) ((x)))))).set (31) (.inl (0, 24, .inl (fun j => nI ((va_up ul (((4) * (k)) + (sl)) ((ul (((4) * (k)) + (sl))) + (1))) j))))).set (22) (.inr (7, [.int (nI 0), .ref 23, .ref 24, .ref 25, .ref 26, .ref 27, .ref 28, .ref 29, .ref 30, .ref 31, .ref 32, .ref 33, .ref 34, .ref 35, .ref 36, .ref 37, .int (nI 0), .int (wh), .int (wy), .ref 38, .ref 39, .ref 40, .ref 41, .int (hg), .ref 42, .ref 43, .ref 44, .ref 45, .ref 46, .ref 47, .ref 48, .ref 49, .int (dp), .ref 50, .ref 51, .ref 52, .int (md), .int (ov), .int (oh), .int (dn), .int (an)]))) (if ul (4 * k + sl) < 24 then .inl (some (.int (nI (ul (4 * k + sl))))) else .inl (some (.int (nI 0)))) (if ul (4 * k + sl) < 24 then ((((σ.set 22 (.inr (7, MoF (nI 0) vf wh wy hg dp md ov oh dn an))).set 32 (.inl (0, 576, .inl fun j => nI (va_up uo (24 * (4 * k + sl) + ul (4 * k + sl)) o j)))).set 33 (.inl (0, 576, .inl (upd ua (24 * (4 * k + sl) + ul (4 * k + sl)) x)))).set 31 (.inl (0, 24, .inl fun j => nI (va_up ul (4 * k + sl) (ul (4 * k + sl) + 1) j)))).set 22 (.inr (7, MoF (nI 0) (nI 0) wh wy hg dp md ov oh dn an)) else σ.set 22 (.inr (7, MoF (nI 3) vf wh wy hg dp md ov oh dn an)))
    refine jr_aload_n d_Mo_code_135 rfl ?_
    refine jr_getf d_Mo_code_136 f_Mo_code_35 (jl_ss (jl_sn (by decide) (jl_sn (by decide) (jl_sn (by decide) (jl_ss hO))))) rfl ?_
    refine jr_iload d_Mo_code_139 rfl ?_
    refine jr_ialdN d_Mo_code_141 (jl_sn (by decide) (jl_ss (jl_sn (by decide) (jl_sn (by decide) (jl_sn (by decide) h31))))) (by omega) (by omega) ?_
    refine jr_iconst ((nI (1))) d_Mo_code_142 (by decide) ?_
    refine jr_isubN d_Mo_code_143 (by omega) ?_
    exact jr_iretE d_Mo_code_144 rfl (by rw [if_pos (show ul (4 * k + sl) < 24 by omega), hvu]; rfl) (by rw [if_pos (show ul (4 * k + sl) < 24 by omega)]) (by decide) (by decide)
  · refine jr_aload_n d_Mo_code_74 rfl ?_
    refine jr_iconst ((nI (3))) d_Mo_code_75 (by decide) ?_
    refine jr_callV (As := [.int (nI 3)]) d_Mo_code_76 k_Mo_code_118 (jl_ss hO) rfl rfl rfl (Nat.le_of_ble_eq_true rfl) (by decide) (by decide) (mo_fail hl (jl_ss hO) (MoW.sx hw (Or.inl (by decide)))) ?_
    show jl_W l G m_Mo_code (0, 0) 79 [some (.ref 22), some (.int (nI k)), some (.int (nI sl)), some (.int (nI o)), some (.int (x)), some (.int (nI (((4) * (k)) + (sl))))] [.int (nI 0)] ((σ.set (22) (.inr (7, [.int (nI 0), .ref 23, .ref 24, .ref 25, .ref 26, .ref 27, .ref 28, .ref 29, .ref 30, .ref 31, .ref 32, .ref 33, .ref 34, .ref 35, .ref 36, .ref 37, .int (vf), .int (wh), .int (wy), .ref 38, .ref 39, .ref 40, .ref 41, .int (hg), .ref 42, .ref 43, .ref 44, .ref 45, .ref 46, .ref 47, .ref 48, .ref 49, .int (dp), .ref 50, .ref 51, .ref 52, .int (md), .int (ov), .int (oh), .int (dn), .int (an)]))).set (22) (.inr (7, [.int (nI 3), .ref 23, .ref 24, .ref 25, .ref 26, .ref 27, .ref 28, .ref 29, .ref 30, .ref 31, .ref 32, .ref 33, .ref 34, .ref 35, .ref 36, .ref 37, .int (vf), .int (wh), .int (wy), .ref 38, .ref 39, .ref 40, .ref 41, .int (hg), .ref 42, .ref 43, .ref 44, .ref 45, .ref 46, .ref 47, .ref 48, .ref 49, .int (dp), .ref 50, .ref 51, .ref 52, .int (md), .int (ov), .int (oh), .int (dn), .int (an)]))) (if ul (4 * k + sl) < 24 then .inl (some (.int (nI (ul (4 * k + sl))))) else .inl (some (.int (nI 0)))) (if ul (4 * k + sl) < 24 then ((((σ.set 22 (.inr (7, MoF (nI 0) vf wh wy hg dp md ov oh dn an))).set 32 (.inl (0, 576, .inl fun j => nI (va_up uo (24 * (4 * k + sl) + ul (4 * k + sl)) o j)))).set 33 (.inl (0, 576, .inl (upd ua (24 * (4 * k + sl) + ul (4 * k + sl)) x)))).set 31 (.inl (0, 24, .inl fun j => nI (va_up ul (4 * k + sl) (ul (4 * k + sl) + 1) j)))).set 22 (.inr (7, MoF (nI 0) (nI 0) wh wy hg dp md ov oh dn an)) else σ.set 22 (.inr (7, MoF (nI 3) vf wh wy hg dp md ov oh dn an)))
    exact jr_iretE d_Mo_code_79 rfl (by rw [if_neg (show ¬ ul (4 * k + sl) < 24 by omega)]) (by rw [if_neg (show ¬ ul (4 * k + sl) < 24 by omega)]; exact (List.set_set ..).symm) (by decide) (by decide)
theorem d_Mo_catcher_0 : decode m_Mo_catcher.2.1 0 = .ok (.aload_n 0, 1) := by decide +kernel
theorem d_Mo_catcher_1 : decode m_Mo_catcher.2.1 1 = .ok (.iconst 0, 1) := by decide +kernel
theorem p_Mo_catcher_111 : jl_fp m_Mo_catcher 111 7 0 = true := by decide +kernel
theorem d_Mo_catcher_2 : decode m_Mo_catcher.2.1 2 = .ok (.putfield 111, 3) := by decide +kernel
theorem d_Mo_catcher_5 : decode m_Mo_catcher.2.1 5 = .ok (.aload_n 0, 1) := by decide +kernel
theorem d_Mo_catcher_6 : decode m_Mo_catcher.2.1 6 = .ok (.iload_n 1, 1) := by decide +kernel
theorem d_Mo_catcher_7 : decode m_Mo_catcher.2.1 7 = .ok (.bipush 6, 2) := by decide +kernel
theorem k_Mo_catcher_114 : jl_cv m_Mo_catcher m_Mo_out 114 2 = true := by decide +kernel
theorem d_Mo_catcher_9 : decode m_Mo_catcher.2.1 9 = .ok (.invokevirtual 114, 3) := by decide +kernel
theorem d_Mo_catcher_12 : decode m_Mo_catcher.2.1 12 = .ok (.ifCond .ne 45, 3) := by decide +kernel
theorem d_Mo_catcher_57 : decode m_Mo_catcher.2.1 57 = .ok (.aload_n 0, 1) := by decide +kernel
theorem d_Mo_catcher_58 : decode m_Mo_catcher.2.1 58 = .ok (.iconst 1, 1) := by decide +kernel
theorem k_Mo_catcher_118 : jl_cv m_Mo_catcher m_Mo_fail 118 1 = true := by decide +kernel
theorem d_Mo_catcher_59 : decode m_Mo_catcher.2.1 59 = .ok (.invokevirtual 118, 3) := by decide +kernel
theorem d_Mo_catcher_62 : decode m_Mo_catcher.2.1 62 = .ok (.ireturn, 1) := by decide +kernel
theorem d_Mo_catcher_15 : decode m_Mo_catcher.2.1 15 = .ok (.aload_n 0, 1) := by decide +kernel
theorem d_Mo_catcher_16 : decode m_Mo_catcher.2.1 16 = .ok (.iload_n 2, 1) := by decide +kernel
theorem d_Mo_catcher_17 : decode m_Mo_catcher.2.1 17 = .ok (.iconst 4, 1) := by decide +kernel
theorem d_Mo_catcher_18 : decode m_Mo_catcher.2.1 18 = .ok (.invokevirtual 114, 3) := by decide +kernel
theorem d_Mo_catcher_21 : decode m_Mo_catcher.2.1 21 = .ok (.ifCond .ne 36, 3) := by decide +kernel
theorem d_Mo_catcher_24 : decode m_Mo_catcher.2.1 24 = .ok (.aload_n 0, 1) := by decide +kernel
theorem d_Mo_catcher_25 : decode m_Mo_catcher.2.1 25 = .ok (.iload_n 3, 1) := by decide +kernel
theorem d_Mo_catcher_26 : decode m_Mo_catcher.2.1 26 = .ok (.sipush 1024, 3) := by decide +kernel
theorem d_Mo_catcher_29 : decode m_Mo_catcher.2.1 29 = .ok (.invokevirtual 114, 3) := by decide +kernel
theorem d_Mo_catcher_32 : decode m_Mo_catcher.2.1 32 = .ok (.ifCond .ne 25, 3) := by decide +kernel
theorem d_Mo_catcher_35 : decode m_Mo_catcher.2.1 35 = .ok (.aload_n 0, 1) := by decide +kernel
theorem d_Mo_catcher_36 : decode m_Mo_catcher.2.1 36 = .ok (.iload 4, 2) := by decide +kernel
theorem d_Mo_catcher_38 : decode m_Mo_catcher.2.1 38 = .ok (.bipush 24, 2) := by decide +kernel
theorem d_Mo_catcher_40 : decode m_Mo_catcher.2.1 40 = .ok (.invokevirtual 114, 3) := by decide +kernel
theorem d_Mo_catcher_43 : decode m_Mo_catcher.2.1 43 = .ok (.ifCond .ne 14, 3) := by decide +kernel
theorem d_Mo_catcher_46 : decode m_Mo_catcher.2.1 46 = .ok (.aload_n 0, 1) := by decide +kernel
theorem d_Mo_catcher_47 : decode m_Mo_catcher.2.1 47 = .ok (.iload 5, 2) := by decide +kernel
theorem d_Mo_catcher_49 : decode m_Mo_catcher.2.1 49 = .ok (.bipush 7, 2) := by decide +kernel
theorem d_Mo_catcher_51 : decode m_Mo_catcher.2.1 51 = .ok (.invokevirtual 114, 3) := by decide +kernel
theorem d_Mo_catcher_54 : decode m_Mo_catcher.2.1 54 = .ok (.ifCond .eq 9, 3) := by decide +kernel
theorem mo_cat_A (hl : l.stackTraces = false) {k sl sp tr ki : Int32} (hO : MoO σ fa vf wh wy hg dp md ov oh dn an) (hw : MoW σ tb pr ow ft hs) (h : outB k (nI 6) = true ∨ outB sl (nI 4) = true ∨ outB sp (nI 1024) = true ∨ outB tr (nI 24) = true ∨ outB ki (nI 7) = true) : jl_m l G m_Mo_catcher [.ref 22, .int (k), .int (sl), .int (sp), .int (tr), .int (ki)] σ (.inl (some (.int (nI 0)))) (σ.set 22 (.inr (7, MoF (nI 1) vf wh wy hg dp md ov oh dn an))) := by
  obtain ⟨h23, h24, h25, h26, h27⟩ := id hw
  refine jl_of (as := [.ref 22, .int (k), .int (sl), .int (sp), .int (tr), .int (ki)]) rfl (by decide) hl (jl_cc rfl (jl_cc rfl (jl_cc rfl (jl_cc rfl (jl_cc rfl (jl_cc rfl jl_ca)))))) (Nat.le_of_ble_eq_true rfl) ?_
  show jl_W l G m_Mo_catcher (0, 0) 0 [some (.ref 22), some (.int (k)), some (.int (sl)), some (.int (sp)), some (.int (tr)), some (.int (ki)), none, none] [] (σ) (.inl (some (.int (nI 0)))) (σ.set 22 (.inr (7, MoF (nI 1) vf wh wy hg dp md ov oh dn an)))
  refine jr_aload_n d_Mo_catcher_0 rfl ?_
  refine jr_iconst ((nI (0))) d_Mo_catcher_1 (by decide) ?_
  refine jr_putf d_Mo_catcher_2 p_Mo_catcher_111 hO (Nat.le_of_ble_eq_true rfl) jl_fit_int ?_
  show jl_W l G m_Mo_catcher (0, 0) 5 [some (.ref 22), some (.int (k)), some (.int (sl)), some (.int (sp)), some (.int (tr)), some (.int (ki)), none, none] [] (σ.set (22) (.inr (7, [.int (nI 0), .ref 23, .ref 24, .ref 25, .ref 26, .ref 27, .ref 28, .ref 29, .ref 30, .ref 31, .ref 32, .ref 33, .ref 34, .ref 35, .ref 36, .ref 37, .int (vf), .int (wh), .int (wy), .ref 38, .ref 39, .ref 40, .ref 41, .int (hg), .ref 42, .ref 43, .ref 44, .ref 45, .ref 46, .ref 47, .ref 48, .ref 49, .int (dp), .ref 50, .ref 51, .ref 52, .int (md), .int (ov), .int (oh), .int (dn), .int (an)]))) (.inl (some (.int (nI 0)))) (σ.set 22 (.inr (7, MoF (nI 1) vf wh wy hg dp md ov oh dn an)))
  refine jr_aload_n d_Mo_catcher_5 rfl ?_
  refine jr_iload_n d_Mo_catcher_6 rfl ?_
  refine jr_bipush ((nI (6))) d_Mo_catcher_7 (by decide) ?_
  refine jr_callV (As := [.int (k), .int (nI 6)]) d_Mo_catcher_9 k_Mo_catcher_114 (jl_ss hO) rfl rfl rfl (Nat.le_of_ble_eq_true rfl) (by decide) (by decide) (mo_out hl (jl_ss hO) (MoW.sx hw (Or.inl (by decide)))) ?_
  show jl_W l G m_Mo_catcher (0, 0) 12 [some (.ref 22), some (.int (k)), some (.int (sl)), some (.int (sp)), some (.int (tr)), some (.int (ki)), none, none] [.int (bi (outB (k) (nI 6)))] (σ.set (22) (.inr (7, [.int (nI 0), .ref 23, .ref 24, .ref 25, .ref 26, .ref 27, .ref 28, .ref 29, .ref 30, .ref 31, .ref 32, .ref 33, .ref 34, .ref 35, .ref 36, .ref 37, .int (vf), .int (wh), .int (wy), .ref 38, .ref 39, .ref 40, .ref 41, .int (hg), .ref 42, .ref 43, .ref 44, .ref 45, .ref 46, .ref 47, .ref 48, .ref 49, .int (dp), .ref 50, .ref 51, .ref 52, .int (md), .int (ov), .int (oh), .int (dn), .int (an)]))) (.inl (some (.int (nI 0)))) (σ.set 22 (.inr (7, MoF (nI 1) vf wh wy hg dp md ov oh dn an)))
  refine jr_if_ne 57 d_Mo_catcher_12 (by decide) (fun c1 => ?_) (fun c1 => ?_)
  · refine jr_aload_n d_Mo_catcher_57 rfl ?_
    refine jr_iconst ((nI (1))) d_Mo_catcher_58 (by decide) ?_
    refine jr_callV (As := [.int (nI 1)]) d_Mo_catcher_59 k_Mo_catcher_118 (jl_ss hO) rfl rfl rfl (Nat.le_of_ble_eq_true rfl) (by decide) (by decide) (mo_fail hl (jl_ss hO) (MoW.sx hw (Or.inl (by decide)))) ?_
    show jl_W l G m_Mo_catcher (0, 0) 62 [some (.ref 22), some (.int (k)), some (.int (sl)), some (.int (sp)), some (.int (tr)), some (.int (ki)), none, none] [.int (nI 0)] ((σ.set (22) (.inr (7, [.int (nI 0), .ref 23, .ref 24, .ref 25, .ref 26, .ref 27, .ref 28, .ref 29, .ref 30, .ref 31, .ref 32, .ref 33, .ref 34, .ref 35, .ref 36, .ref 37, .int (vf), .int (wh), .int (wy), .ref 38, .ref 39, .ref 40, .ref 41, .int (hg), .ref 42, .ref 43, .ref 44, .ref 45, .ref 46, .ref 47, .ref 48, .ref 49, .int (dp), .ref 50, .ref 51, .ref 52, .int (md), .int (ov), .int (oh), .int (dn), .int (an)]))).set (22) (.inr (7, [.int (nI 1), .ref 23, .ref 24, .ref 25, .ref 26, .ref 27, .ref 28, .ref 29, .ref 30, .ref 31, .ref 32, .ref 33, .ref 34, .ref 35, .ref 36, .ref 37, .int (vf), .int (wh), .int (wy), .ref 38, .ref 39, .ref 40, .ref 41, .int (hg), .ref 42, .ref 43, .ref 44, .ref 45, .ref 46, .ref 47, .ref 48, .ref 49, .int (dp), .ref 50, .ref 51, .ref 52, .int (md), .int (ov), .int (oh), .int (dn), .int (an)]))) (.inl (some (.int (nI 0)))) (σ.set 22 (.inr (7, MoF (nI 1) vf wh wy hg dp md ov oh dn an)))
    exact jr_iretE d_Mo_catcher_62 rfl (rfl) ((List.set_set ..).symm) (by decide) (by decide)
  · refine jr_aload_n d_Mo_catcher_15 rfl ?_
    refine jr_iload_n d_Mo_catcher_16 rfl ?_
    refine jr_iconst ((nI (4))) d_Mo_catcher_17 (by decide) ?_
    refine jr_callV (As := [.int (sl), .int (nI 4)]) d_Mo_catcher_18 k_Mo_catcher_114 (jl_ss hO) rfl rfl rfl (Nat.le_of_ble_eq_true rfl) (by decide) (by decide) (mo_out hl (jl_ss hO) (MoW.sx hw (Or.inl (by decide)))) ?_
    show jl_W l G m_Mo_catcher (0, 0) 21 [some (.ref 22), some (.int (k)), some (.int (sl)), some (.int (sp)), some (.int (tr)), some (.int (ki)), none, none] [.int (bi (outB (sl) (nI 4)))] (σ.set (22) (.inr (7, [.int (nI 0), .ref 23, .ref 24, .ref 25, .ref 26, .ref 27, .ref 28, .ref 29, .ref 30, .ref 31, .ref 32, .ref 33, .ref 34, .ref 35, .ref 36, .ref 37, .int (vf), .int (wh), .int (wy), .ref 38, .ref 39, .ref 40, .ref 41, .int (hg), .ref 42, .ref 43, .ref 44, .ref 45, .ref 46, .ref 47, .ref 48, .ref 49, .int (dp), .ref 50, .ref 51, .ref 52, .int (md), .int (ov), .int (oh), .int (dn), .int (an)]))) (.inl (some (.int (nI 0)))) (σ.set 22 (.inr (7, MoF (nI 1) vf wh wy hg dp md ov oh dn an)))
    refine jr_if_ne 57 d_Mo_catcher_21 (by decide) (fun c2 => ?_) (fun c2 => ?_)
    · refine jr_aload_n d_Mo_catcher_57 rfl ?_
      refine jr_iconst ((nI (1))) d_Mo_catcher_58 (by decide) ?_
      refine jr_callV (As := [.int (nI 1)]) d_Mo_catcher_59 k_Mo_catcher_118 (jl_ss hO) rfl rfl rfl (Nat.le_of_ble_eq_true rfl) (by decide) (by decide) (mo_fail hl (jl_ss hO) (MoW.sx hw (Or.inl (by decide)))) ?_
      show jl_W l G m_Mo_catcher (0, 0) 62 [some (.ref 22), some (.int (k)), some (.int (sl)), some (.int (sp)), some (.int (tr)), some (.int (ki)), none, none] [.int (nI 0)] ((σ.set (22) (.inr (7, [.int (nI 0), .ref 23, .ref 24, .ref 25, .ref 26, .ref 27, .ref 28, .ref 29, .ref 30, .ref 31, .ref 32, .ref 33, .ref 34, .ref 35, .ref 36, .ref 37, .int (vf), .int (wh), .int (wy), .ref 38, .ref 39, .ref 40, .ref 41, .int (hg), .ref 42, .ref 43, .ref 44, .ref 45, .ref 46, .ref 47, .ref 48, .ref 49, .int (dp), .ref 50, .ref 51, .ref 52, .int (md), .int (ov), .int (oh), .int (dn), .int (an)]))).set (22) (.inr (7, [.int (nI 1), .ref 23, .ref 24, .ref 25, .ref 26, .ref 27, .ref 28, .ref 29, .ref 30, .ref 31, .ref 32, .ref 33, .ref 34, .ref 35, .ref 36, .ref 37, .int (vf), .int (wh), .int (wy), .ref 38, .ref 39, .ref 40, .ref 41, .int (hg), .ref 42, .ref 43, .ref 44, .ref 45, .ref 46, .ref 47, .ref 48, .ref 49, .int (dp), .ref 50, .ref 51, .ref 52, .int (md), .int (ov), .int (oh), .int (dn), .int (an)]))) (.inl (some (.int (nI 0)))) (σ.set 22 (.inr (7, MoF (nI 1) vf wh wy hg dp md ov oh dn an)))
      exact jr_iretE d_Mo_catcher_62 rfl (rfl) ((List.set_set ..).symm) (by decide) (by decide)
    · refine jr_aload_n d_Mo_catcher_24 rfl ?_
      refine jr_iload_n d_Mo_catcher_25 rfl ?_
      refine jr_sipush ((nI (1024))) d_Mo_catcher_26 (by decide) ?_
      refine jr_callV (As := [.int (sp), .int (nI 1024)]) d_Mo_catcher_29 k_Mo_catcher_114 (jl_ss hO) rfl rfl rfl (Nat.le_of_ble_eq_true rfl) (by decide) (by decide) (mo_out hl (jl_ss hO) (MoW.sx hw (Or.inl (by decide)))) ?_
      show jl_W l G m_Mo_catcher (0, 0) 32 [some (.ref 22), some (.int (k)), some (.int (sl)), some (.int (sp)), some (.int (tr)), some (.int (ki)), none, none] [.int (bi (outB (sp) (nI 1024)))] (σ.set (22) (.inr (7, [.int (nI 0), .ref 23, .ref 24, .ref 25, .ref 26, .ref 27, .ref 28, .ref 29, .ref 30, .ref 31, .ref 32, .ref 33, .ref 34, .ref 35, .ref 36, .ref 37, .int (vf), .int (wh), .int (wy), .ref 38, .ref 39, .ref 40, .ref 41, .int (hg), .ref 42, .ref 43, .ref 44, .ref 45, .ref 46, .ref 47, .ref 48, .ref 49, .int (dp), .ref 50, .ref 51, .ref 52, .int (md), .int (ov), .int (oh), .int (dn), .int (an)]))) (.inl (some (.int (nI 0)))) (σ.set 22 (.inr (7, MoF (nI 1) vf wh wy hg dp md ov oh dn an)))
      refine jr_if_ne 57 d_Mo_catcher_32 (by decide) (fun c3 => ?_) (fun c3 => ?_)
      · refine jr_aload_n d_Mo_catcher_57 rfl ?_
        refine jr_iconst ((nI (1))) d_Mo_catcher_58 (by decide) ?_
        refine jr_callV (As := [.int (nI 1)]) d_Mo_catcher_59 k_Mo_catcher_118 (jl_ss hO) rfl rfl rfl (Nat.le_of_ble_eq_true rfl) (by decide) (by decide) (mo_fail hl (jl_ss hO) (MoW.sx hw (Or.inl (by decide)))) ?_
        show jl_W l G m_Mo_catcher (0, 0) 62 [some (.ref 22), some (.int (k)), some (.int (sl)), some (.int (sp)), some (.int (tr)), some (.int (ki)), none, none] [.int (nI 0)] ((σ.set (22) (.inr (7, [.int (nI 0), .ref 23, .ref 24, .ref 25, .ref 26, .ref 27, .ref 28, .ref 29, .ref 30, .ref 31, .ref 32, .ref 33, .ref 34, .ref 35, .ref 36, .ref 37, .int (vf), .int (wh), .int (wy), .ref 38, .ref 39, .ref 40, .ref 41, .int (hg), .ref 42, .ref 43, .ref 44, .ref 45, .ref 46, .ref 47, .ref 48, .ref 49, .int (dp), .ref 50, .ref 51, .ref 52, .int (md), .int (ov), .int (oh), .int (dn), .int (an)]))).set (22) (.inr (7, [.int (nI 1), .ref 23, .ref 24, .ref 25, .ref 26, .ref 27, .ref 28, .ref 29, .ref 30, .ref 31, .ref 32, .ref 33, .ref 34, .ref 35, .ref 36, .ref 37, .int (vf), .int (wh), .int (wy), .ref 38, .ref 39, .ref 40, .ref 41, .int (hg), .ref 42, .ref 43, .ref 44, .ref 45, .ref 46, .ref 47, .ref 48, .ref 49, .int (dp), .ref 50, .ref 51, .ref 52, .int (md), .int (ov), .int (oh), .int (dn), .int (an)]))) (.inl (some (.int (nI 0)))) (σ.set 22 (.inr (7, MoF (nI 1) vf wh wy hg dp md ov oh dn an)))
        exact jr_iretE d_Mo_catcher_62 rfl (rfl) ((List.set_set ..).symm) (by decide) (by decide)
      · refine jr_aload_n d_Mo_catcher_35 rfl ?_
        refine jr_iload d_Mo_catcher_36 rfl ?_
        refine jr_bipush ((nI (24))) d_Mo_catcher_38 (by decide) ?_
        refine jr_callV (As := [.int (tr), .int (nI 24)]) d_Mo_catcher_40 k_Mo_catcher_114 (jl_ss hO) rfl rfl rfl (Nat.le_of_ble_eq_true rfl) (by decide) (by decide) (mo_out hl (jl_ss hO) (MoW.sx hw (Or.inl (by decide)))) ?_
        show jl_W l G m_Mo_catcher (0, 0) 43 [some (.ref 22), some (.int (k)), some (.int (sl)), some (.int (sp)), some (.int (tr)), some (.int (ki)), none, none] [.int (bi (outB (tr) (nI 24)))] (σ.set (22) (.inr (7, [.int (nI 0), .ref 23, .ref 24, .ref 25, .ref 26, .ref 27, .ref 28, .ref 29, .ref 30, .ref 31, .ref 32, .ref 33, .ref 34, .ref 35, .ref 36, .ref 37, .int (vf), .int (wh), .int (wy), .ref 38, .ref 39, .ref 40, .ref 41, .int (hg), .ref 42, .ref 43, .ref 44, .ref 45, .ref 46, .ref 47, .ref 48, .ref 49, .int (dp), .ref 50, .ref 51, .ref 52, .int (md), .int (ov), .int (oh), .int (dn), .int (an)]))) (.inl (some (.int (nI 0)))) (σ.set 22 (.inr (7, MoF (nI 1) vf wh wy hg dp md ov oh dn an)))
        refine jr_if_ne 57 d_Mo_catcher_43 (by decide) (fun c4 => ?_) (fun c4 => ?_)
        · refine jr_aload_n d_Mo_catcher_57 rfl ?_
          refine jr_iconst ((nI (1))) d_Mo_catcher_58 (by decide) ?_
          refine jr_callV (As := [.int (nI 1)]) d_Mo_catcher_59 k_Mo_catcher_118 (jl_ss hO) rfl rfl rfl (Nat.le_of_ble_eq_true rfl) (by decide) (by decide) (mo_fail hl (jl_ss hO) (MoW.sx hw (Or.inl (by decide)))) ?_
          show jl_W l G m_Mo_catcher (0, 0) 62 [some (.ref 22), some (.int (k)), some (.int (sl)), some (.int (sp)), some (.int (tr)), some (.int (ki)), none, none] [.int (nI 0)] ((σ.set (22) (.inr (7, [.int (nI 0), .ref 23, .ref 24, .ref 25, .ref 26, .ref 27, .ref 28, .ref 29, .ref 30, .ref 31, .ref 32, .ref 33, .ref 34, .ref 35, .ref 36, .ref 37, .int (vf), .int (wh), .int (wy), .ref 38, .ref 39, .ref 40, .ref 41, .int (hg), .ref 42, .ref 43, .ref 44, .ref 45, .ref 46, .ref 47, .ref 48, .ref 49, .int (dp), .ref 50, .ref 51, .ref 52, .int (md), .int (ov), .int (oh), .int (dn), .int (an)]))).set (22) (.inr (7, [.int (nI 1), .ref 23, .ref 24, .ref 25, .ref 26, .ref 27, .ref 28, .ref 29, .ref 30, .ref 31, .ref 32, .ref 33, .ref 34, .ref 35, .ref 36, .ref 37, .int (vf), .int (wh), .int (wy), .ref 38, .ref 39, .ref 40, .ref 41, .int (hg), .ref 42, .ref 43, .ref 44, .ref 45, .ref 46, .ref 47, .ref 48, .ref 49, .int (dp), .ref 50, .ref 51, .ref 52, .int (md), .int (ov), .int (oh), .int (dn), .int (an)]))) (.inl (some (.int (nI 0)))) (σ.set 22 (.inr (7, MoF (nI 1) vf wh wy hg dp md ov oh dn an)))
          exact jr_iretE d_Mo_catcher_62 rfl (rfl) ((List.set_set ..).symm) (by decide) (by decide)
        · refine jr_aload_n d_Mo_catcher_46 rfl ?_
          refine jr_iload d_Mo_catcher_47 rfl ?_
          refine jr_bipush ((nI (7))) d_Mo_catcher_49 (by decide) ?_
          refine jr_callV (As := [.int (ki), .int (nI 7)]) d_Mo_catcher_51 k_Mo_catcher_114 (jl_ss hO) rfl rfl rfl (Nat.le_of_ble_eq_true rfl) (by decide) (by decide) (mo_out hl (jl_ss hO) (MoW.sx hw (Or.inl (by decide)))) ?_
          show jl_W l G m_Mo_catcher (0, 0) 54 [some (.ref 22), some (.int (k)), some (.int (sl)), some (.int (sp)), some (.int (tr)), some (.int (ki)), none, none] [.int (bi (outB (ki) (nI 7)))] (σ.set (22) (.inr (7, [.int (nI 0), .ref 23, .ref 24, .ref 25, .ref 26, .ref 27, .ref 28, .ref 29, .ref 30, .ref 31, .ref 32, .ref 33, .ref 34, .ref 35, .ref 36, .ref 37, .int (vf), .int (wh), .int (wy), .ref 38, .ref 39, .ref 40, .ref 41, .int (hg), .ref 42, .ref 43, .ref 44, .ref 45, .ref 46, .ref 47, .ref 48, .ref 49, .int (dp), .ref 50, .ref 51, .ref 52, .int (md), .int (ov), .int (oh), .int (dn), .int (an)]))) (.inl (some (.int (nI 0)))) (σ.set 22 (.inr (7, MoF (nI 1) vf wh wy hg dp md ov oh dn an)))
          refine jr_if_eq 63 d_Mo_catcher_54 (by decide) (fun c5 => ?_) (fun c5 => ?_)
          · exact False.elim ((fun q => q.elim (fun q => by rw [bi_0.mp c1] at q; cases q) (fun q => q.elim (fun q => by rw [bi_0.mp c2] at q; cases q) (fun q => q.elim (fun q => by rw [bi_0.mp c3] at q; cases q) (fun q => q.elim (fun q => by rw [bi_0.mp c4] at q; cases q) (fun q => by rw [bi_0.mp c5] at q; cases q))))) h)
          · refine jr_aload_n d_Mo_catcher_57 rfl ?_
            refine jr_iconst ((nI (1))) d_Mo_catcher_58 (by decide) ?_
            refine jr_callV (As := [.int (nI 1)]) d_Mo_catcher_59 k_Mo_catcher_118 (jl_ss hO) rfl rfl rfl (Nat.le_of_ble_eq_true rfl) (by decide) (by decide) (mo_fail hl (jl_ss hO) (MoW.sx hw (Or.inl (by decide)))) ?_
            show jl_W l G m_Mo_catcher (0, 0) 62 [some (.ref 22), some (.int (k)), some (.int (sl)), some (.int (sp)), some (.int (tr)), some (.int (ki)), none, none] [.int (nI 0)] ((σ.set (22) (.inr (7, [.int (nI 0), .ref 23, .ref 24, .ref 25, .ref 26, .ref 27, .ref 28, .ref 29, .ref 30, .ref 31, .ref 32, .ref 33, .ref 34, .ref 35, .ref 36, .ref 37, .int (vf), .int (wh), .int (wy), .ref 38, .ref 39, .ref 40, .ref 41, .int (hg), .ref 42, .ref 43, .ref 44, .ref 45, .ref 46, .ref 47, .ref 48, .ref 49, .int (dp), .ref 50, .ref 51, .ref 52, .int (md), .int (ov), .int (oh), .int (dn), .int (an)]))).set (22) (.inr (7, [.int (nI 1), .ref 23, .ref 24, .ref 25, .ref 26, .ref 27, .ref 28, .ref 29, .ref 30, .ref 31, .ref 32, .ref 33, .ref 34, .ref 35, .ref 36, .ref 37, .int (vf), .int (wh), .int (wy), .ref 38, .ref 39, .ref 40, .ref 41, .int (hg), .ref 42, .ref 43, .ref 44, .ref 45, .ref 46, .ref 47, .ref 48, .ref 49, .int (dp), .ref 50, .ref 51, .ref 52, .int (md), .int (ov), .int (oh), .int (dn), .int (an)]))) (.inl (some (.int (nI 0)))) (σ.set 22 (.inr (7, MoF (nI 1) vf wh wy hg dp md ov oh dn an)))
            exact jr_iretE d_Mo_catcher_62 rfl (rfl) ((List.set_set ..).symm) (by decide) (by decide)
theorem d_Mo_catcher_63 : decode m_Mo_catcher.2.1 63 = .ok (.aload_n 0, 1) := by decide +kernel
theorem d_Mo_catcher_64 : decode m_Mo_catcher.2.1 64 = .ok (.iload_n 1, 1) := by decide +kernel
theorem d_Mo_catcher_65 : decode m_Mo_catcher.2.1 65 = .ok (.iload_n 2, 1) := by decide +kernel
theorem k_Mo_catcher_139 : jl_cv m_Mo_catcher m_Mo_noMethod 139 2 = true := by decide +kernel
theorem d_Mo_catcher_66 : decode m_Mo_catcher.2.1 66 = .ok (.invokevirtual 139, 3) := by decide +kernel
theorem d_Mo_catcher_69 : decode m_Mo_catcher.2.1 69 = .ok (.ifCond .eq 9, 3) := by decide +kernel
theorem d_Mo_catcher_72 : decode m_Mo_catcher.2.1 72 = .ok (.aload_n 0, 1) := by decide +kernel
theorem d_Mo_catcher_73 : decode m_Mo_catcher.2.1 73 = .ok (.iconst 2, 1) := by decide +kernel
theorem d_Mo_catcher_74 : decode m_Mo_catcher.2.1 74 = .ok (.invokevirtual 118, 3) := by decide +kernel
theorem d_Mo_catcher_77 : decode m_Mo_catcher.2.1 77 = .ok (.ireturn, 1) := by decide +kernel
theorem mo_cat_N (hl : l.stackTraces = false) {k sl sp tr ki : Nat} (hO : MoO σ fa vf wh wy hg dp md ov oh dn an) (hw : MoW σ tb pr ow ft hs) (hk : k < 6) (hs4 : sl < 4) (hp : sp < 1024) (hr : tr < 24) (hi : ki < 7) (hnm : noM tb hs k sl = true) : jl_m l G m_Mo_catcher [.ref 22, .int (nI k), .int (nI sl), .int (nI sp), .int (nI tr), .int (nI ki)] σ (.inl (some (.int (nI 0)))) (σ.set 22 (.inr (7, MoF (nI 2) vf wh wy hg dp md ov oh dn an))) := by
  obtain ⟨h23, h24, h25, h26, h27⟩ := id hw
  refine jl_of (as := [.ref 22, .int (nI k), .int (nI sl), .int (nI sp), .int (nI tr), .int (nI ki)]) rfl (by decide) hl (jl_cc rfl (jl_cc rfl (jl_cc rfl (jl_cc rfl (jl_cc rfl (jl_cc rfl jl_ca)))))) (Nat.le_of_ble_eq_true rfl) ?_
  show jl_W l G m_Mo_catcher (0, 0) 0 [some (.ref 22), some (.int (nI k)), some (.int (nI sl)), some (.int (nI sp)), some (.int (nI tr)), some (.int (nI ki)), none, none] [] (σ) (.inl (some (.int (nI 0)))) (σ.set 22 (.inr (7, MoF (nI 2) vf wh wy hg dp md ov oh dn an)))
  refine jr_aload_n d_Mo_catcher_0 rfl ?_
  refine jr_iconst ((nI (0))) d_Mo_catcher_1 (by decide) ?_
  refine jr_putf d_Mo_catcher_2 p_Mo_catcher_111 hO (Nat.le_of_ble_eq_true rfl) jl_fit_int ?_
  show jl_W l G m_Mo_catcher (0, 0) 5 [some (.ref 22), some (.int (nI k)), some (.int (nI sl)), some (.int (nI sp)), some (.int (nI tr)), some (.int (nI ki)), none, none] [] (σ.set (22) (.inr (7, [.int (nI 0), .ref 23, .ref 24, .ref 25, .ref 26, .ref 27, .ref 28, .ref 29, .ref 30, .ref 31, .ref 32, .ref 33, .ref 34, .ref 35, .ref 36, .ref 37, .int (vf), .int (wh), .int (wy), .ref 38, .ref 39, .ref 40, .ref 41, .int (hg), .ref 42, .ref 43, .ref 44, .ref 45, .ref 46, .ref 47, .ref 48, .ref 49, .int (dp), .ref 50, .ref 51, .ref 52, .int (md), .int (ov), .int (oh), .int (dn), .int (an)]))) (.inl (some (.int (nI 0)))) (σ.set 22 (.inr (7, MoF (nI 2) vf wh wy hg dp md ov oh dn an)))
  refine jr_aload_n d_Mo_catcher_5 rfl ?_
  refine jr_iload_n d_Mo_catcher_6 rfl ?_
  refine jr_bipush ((nI (6))) d_Mo_catcher_7 (by decide) ?_
  refine jr_callV (As := [.int (nI k), .int (nI 6)]) d_Mo_catcher_9 k_Mo_catcher_114 (jl_ss hO) rfl rfl rfl (Nat.le_of_ble_eq_true rfl) (by decide) (by decide) (mo_outN hl (jl_ss hO) (MoW.sx hw (Or.inl (by decide))) (by decide) (by omega)) ?_
  show jl_W l G m_Mo_catcher (0, 0) 12 [some (.ref 22), some (.int (nI k)), some (.int (nI sl)), some (.int (nI sp)), some (.int (nI tr)), some (.int (nI ki)), none, none] [.int (nI 0)] (σ.set (22) (.inr (7, [.int (nI 0), .ref 23, .ref 24, .ref 25, .ref 26, .ref 27, .ref 28, .ref 29, .ref 30, .ref 31, .ref 32, .ref 33, .ref 34, .ref 35, .ref 36, .ref 37, .int (vf), .int (wh), .int (wy), .ref 38, .ref 39, .ref 40, .ref 41, .int (hg), .ref 42, .ref 43, .ref 44, .ref 45, .ref 46, .ref 47, .ref 48, .ref 49, .int (dp), .ref 50, .ref 51, .ref 52, .int (md), .int (ov), .int (oh), .int (dn), .int (an)]))) (.inl (some (.int (nI 0)))) (σ.set 22 (.inr (7, MoF (nI 2) vf wh wy hg dp md ov oh dn an)))
  refine jr_if_ne 57 d_Mo_catcher_12 (by decide) (fun z => absurd rfl z) (fun _ => ?_)
  refine jr_aload_n d_Mo_catcher_15 rfl ?_
  refine jr_iload_n d_Mo_catcher_16 rfl ?_
  refine jr_iconst ((nI (4))) d_Mo_catcher_17 (by decide) ?_
  refine jr_callV (As := [.int (nI sl), .int (nI 4)]) d_Mo_catcher_18 k_Mo_catcher_114 (jl_ss hO) rfl rfl rfl (Nat.le_of_ble_eq_true rfl) (by decide) (by decide) (mo_outN hl (jl_ss hO) (MoW.sx hw (Or.inl (by decide))) (by decide) (by omega)) ?_
  show jl_W l G m_Mo_catcher (0, 0) 21 [some (.ref 22), some (.int (nI k)), some (.int (nI sl)), some (.int (nI sp)), some (.int (nI tr)), some (.int (nI ki)), none, none] [.int (nI 0)] (σ.set (22) (.inr (7, [.int (nI 0), .ref 23, .ref 24, .ref 25, .ref 26, .ref 27, .ref 28, .ref 29, .ref 30, .ref 31, .ref 32, .ref 33, .ref 34, .ref 35, .ref 36, .ref 37, .int (vf), .int (wh), .int (wy), .ref 38, .ref 39, .ref 40, .ref 41, .int (hg), .ref 42, .ref 43, .ref 44, .ref 45, .ref 46, .ref 47, .ref 48, .ref 49, .int (dp), .ref 50, .ref 51, .ref 52, .int (md), .int (ov), .int (oh), .int (dn), .int (an)]))) (.inl (some (.int (nI 0)))) (σ.set 22 (.inr (7, MoF (nI 2) vf wh wy hg dp md ov oh dn an)))
  refine jr_if_ne 57 d_Mo_catcher_21 (by decide) (fun z => absurd rfl z) (fun _ => ?_)
  refine jr_aload_n d_Mo_catcher_24 rfl ?_
  refine jr_iload_n d_Mo_catcher_25 rfl ?_
  refine jr_sipush ((nI (1024))) d_Mo_catcher_26 (by decide) ?_
  refine jr_callV (As := [.int (nI sp), .int (nI 1024)]) d_Mo_catcher_29 k_Mo_catcher_114 (jl_ss hO) rfl rfl rfl (Nat.le_of_ble_eq_true rfl) (by decide) (by decide) (mo_outN hl (jl_ss hO) (MoW.sx hw (Or.inl (by decide))) (by decide) (by omega)) ?_
  show jl_W l G m_Mo_catcher (0, 0) 32 [some (.ref 22), some (.int (nI k)), some (.int (nI sl)), some (.int (nI sp)), some (.int (nI tr)), some (.int (nI ki)), none, none] [.int (nI 0)] (σ.set (22) (.inr (7, [.int (nI 0), .ref 23, .ref 24, .ref 25, .ref 26, .ref 27, .ref 28, .ref 29, .ref 30, .ref 31, .ref 32, .ref 33, .ref 34, .ref 35, .ref 36, .ref 37, .int (vf), .int (wh), .int (wy), .ref 38, .ref 39, .ref 40, .ref 41, .int (hg), .ref 42, .ref 43, .ref 44, .ref 45, .ref 46, .ref 47, .ref 48, .ref 49, .int (dp), .ref 50, .ref 51, .ref 52, .int (md), .int (ov), .int (oh), .int (dn), .int (an)]))) (.inl (some (.int (nI 0)))) (σ.set 22 (.inr (7, MoF (nI 2) vf wh wy hg dp md ov oh dn an)))
  refine jr_if_ne 57 d_Mo_catcher_32 (by decide) (fun z => absurd rfl z) (fun _ => ?_)
  refine jr_aload_n d_Mo_catcher_35 rfl ?_
  refine jr_iload d_Mo_catcher_36 rfl ?_
  refine jr_bipush ((nI (24))) d_Mo_catcher_38 (by decide) ?_
  refine jr_callV (As := [.int (nI tr), .int (nI 24)]) d_Mo_catcher_40 k_Mo_catcher_114 (jl_ss hO) rfl rfl rfl (Nat.le_of_ble_eq_true rfl) (by decide) (by decide) (mo_outN hl (jl_ss hO) (MoW.sx hw (Or.inl (by decide))) (by decide) (by omega)) ?_
  show jl_W l G m_Mo_catcher (0, 0) 43 [some (.ref 22), some (.int (nI k)), some (.int (nI sl)), some (.int (nI sp)), some (.int (nI tr)), some (.int (nI ki)), none, none] [.int (nI 0)] (σ.set (22) (.inr (7, [.int (nI 0), .ref 23, .ref 24, .ref 25, .ref 26, .ref 27, .ref 28, .ref 29, .ref 30, .ref 31, .ref 32, .ref 33, .ref 34, .ref 35, .ref 36, .ref 37, .int (vf), .int (wh), .int (wy), .ref 38, .ref 39, .ref 40, .ref 41, .int (hg), .ref 42, .ref 43, .ref 44, .ref 45, .ref 46, .ref 47, .ref 48, .ref 49, .int (dp), .ref 50, .ref 51, .ref 52, .int (md), .int (ov), .int (oh), .int (dn), .int (an)]))) (.inl (some (.int (nI 0)))) (σ.set 22 (.inr (7, MoF (nI 2) vf wh wy hg dp md ov oh dn an)))
  refine jr_if_ne 57 d_Mo_catcher_43 (by decide) (fun z => absurd rfl z) (fun _ => ?_)
  refine jr_aload_n d_Mo_catcher_46 rfl ?_
  refine jr_iload d_Mo_catcher_47 rfl ?_
  refine jr_bipush ((nI (7))) d_Mo_catcher_49 (by decide) ?_
  refine jr_callV (As := [.int (nI ki), .int (nI 7)]) d_Mo_catcher_51 k_Mo_catcher_114 (jl_ss hO) rfl rfl rfl (Nat.le_of_ble_eq_true rfl) (by decide) (by decide) (mo_outN hl (jl_ss hO) (MoW.sx hw (Or.inl (by decide))) (by decide) (by omega)) ?_
  show jl_W l G m_Mo_catcher (0, 0) 54 [some (.ref 22), some (.int (nI k)), some (.int (nI sl)), some (.int (nI sp)), some (.int (nI tr)), some (.int (nI ki)), none, none] [.int (nI 0)] (σ.set (22) (.inr (7, [.int (nI 0), .ref 23, .ref 24, .ref 25, .ref 26, .ref 27, .ref 28, .ref 29, .ref 30, .ref 31, .ref 32, .ref 33, .ref 34, .ref 35, .ref 36, .ref 37, .int (vf), .int (wh), .int (wy), .ref 38, .ref 39, .ref 40, .ref 41, .int (hg), .ref 42, .ref 43, .ref 44, .ref 45, .ref 46, .ref 47, .ref 48, .ref 49, .int (dp), .ref 50, .ref 51, .ref 52, .int (md), .int (ov), .int (oh), .int (dn), .int (an)]))) (.inl (some (.int (nI 0)))) (σ.set 22 (.inr (7, MoF (nI 2) vf wh wy hg dp md ov oh dn an)))
  refine jr_if_eq 63 d_Mo_catcher_54 (by decide) (fun _ => ?_) (fun z => absurd (by decide) z)
  refine jr_aload_n d_Mo_catcher_63 rfl ?_
  refine jr_iload_n d_Mo_catcher_64 rfl ?_
  refine jr_iload_n d_Mo_catcher_65 rfl ?_
  refine jr_callV (As := [.int (nI k), .int (nI sl)]) d_Mo_catcher_66 k_Mo_catcher_139 (jl_ss hO) rfl rfl rfl (Nat.le_of_ble_eq_true rfl) (by decide) (by decide) (mo_noMF hl (jl_ss hO) (MoW.sx hw (Or.inl (by decide))) hk hs4 hnm) ?_
  show jl_W l G m_Mo_catcher (0, 0) 69 [some (.ref 22), some (.int (nI k)), some (.int (nI sl)), some (.int (nI sp)), some (.int (nI tr)), some (.int (nI ki)), none, none] [.int (nI 1)] (σ.set (22) (.inr (7, [.int (nI 0), .ref 23, .ref 24, .ref 25, .ref 26, .ref 27, .ref 28, .ref 29, .ref 30, .ref 31, .ref 32, .ref 33, .ref 34, .ref 35, .ref 36, .ref 37, .int (vf), .int (wh), .int (wy), .ref 38, .ref 39, .ref 40, .ref 41, .int (hg), .ref 42, .ref 43, .ref 44, .ref 45, .ref 46, .ref 47, .ref 48, .ref 49, .int (dp), .ref 50, .ref 51, .ref 52, .int (md), .int (ov), .int (oh), .int (dn), .int (an)]))) (.inl (some (.int (nI 0)))) (σ.set 22 (.inr (7, MoF (nI 2) vf wh wy hg dp md ov oh dn an)))
  refine jr_if_eq 78 d_Mo_catcher_69 (by decide) (fun z => absurd z (by decide)) (fun _ => ?_)
  refine jr_aload_n d_Mo_catcher_72 rfl ?_
  refine jr_iconst ((nI (2))) d_Mo_catcher_73 (by decide) ?_
  refine jr_callV (As := [.int (nI 2)]) d_Mo_catcher_74 k_Mo_catcher_118 (jl_ss hO) rfl rfl rfl (Nat.le_of_ble_eq_true rfl) (by decide) (by decide) (mo_fail hl (jl_ss hO) (MoW.sx hw (Or.inl (by decide)))) ?_
  show jl_W l G m_Mo_catcher (0, 0) 77 [some (.ref 22), some (.int (nI k)), some (.int (nI sl)), some (.int (nI sp)), some (.int (nI tr)), some (.int (nI ki)), none, none] [.int (nI 0)] ((σ.set (22) (.inr (7, [.int (nI 0), .ref 23, .ref 24, .ref 25, .ref 26, .ref 27, .ref 28, .ref 29, .ref 30, .ref 31, .ref 32, .ref 33, .ref 34, .ref 35, .ref 36, .ref 37, .int (vf), .int (wh), .int (wy), .ref 38, .ref 39, .ref 40, .ref 41, .int (hg), .ref 42, .ref 43, .ref 44, .ref 45, .ref 46, .ref 47, .ref 48, .ref 49, .int (dp), .ref 50, .ref 51, .ref 52, .int (md), .int (ov), .int (oh), .int (dn), .int (an)]))).set (22) (.inr (7, [.int (nI 2), .ref 23, .ref 24, .ref 25, .ref 26, .ref 27, .ref 28, .ref 29, .ref 30, .ref 31, .ref 32, .ref 33, .ref 34, .ref 35, .ref 36, .ref 37, .int (vf), .int (wh), .int (wy), .ref 38, .ref 39, .ref 40, .ref 41, .int (hg), .ref 42, .ref 43, .ref 44, .ref 45, .ref 46, .ref 47, .ref 48, .ref 49, .int (dp), .ref 50, .ref 51, .ref 52, .int (md), .int (ov), .int (oh), .int (dn), .int (an)]))) (.inl (some (.int (nI 0)))) (σ.set 22 (.inr (7, MoF (nI 2) vf wh wy hg dp md ov oh dn an)))
  exact jr_iretE d_Mo_catcher_77 rfl (rfl) ((List.set_set ..).symm) (by decide) (by decide)
theorem d_Mo_catcher_78 : decode m_Mo_catcher.2.1 78 = .ok (.iconst 4, 1) := by decide +kernel
theorem d_Mo_catcher_79 : decode m_Mo_catcher.2.1 79 = .ok (.iload_n 1, 1) := by decide +kernel
theorem d_Mo_catcher_80 : decode m_Mo_catcher.2.1 80 = .ok (.imul, 1) := by decide +kernel
theorem d_Mo_catcher_81 : decode m_Mo_catcher.2.1 81 = .ok (.iload_n 2, 1) := by decide +kernel
theorem d_Mo_catcher_82 : decode m_Mo_catcher.2.1 82 = .ok (.iadd, 1) := by decide +kernel
theorem d_Mo_catcher_83 : decode m_Mo_catcher.2.1 83 = .ok (.istore 6, 2) := by decide +kernel
theorem d_Mo_catcher_85 : decode m_Mo_catcher.2.1 85 = .ok (.aload_n 0, 1) := by decide +kernel
theorem f_Mo_catcher_44 : jl_fd m_Mo_catcher 44 7 12 = true := by decide +kernel
theorem d_Mo_catcher_86 : decode m_Mo_catcher.2.1 86 = .ok (.getfield 44, 3) := by decide +kernel
theorem d_Mo_catcher_89 : decode m_Mo_catcher.2.1 89 = .ok (.iload 6, 2) := by decide +kernel
theorem d_Mo_catcher_91 : decode m_Mo_catcher.2.1 91 = .ok (.iaload, 1) := by decide +kernel
theorem d_Mo_catcher_92 : decode m_Mo_catcher.2.1 92 = .ok (.iconst 2, 1) := by decide +kernel
theorem d_Mo_catcher_93 : decode m_Mo_catcher.2.1 93 = .ok (.if_icmp .ne 9, 3) := by decide +kernel
theorem d_Mo_catcher_102 : decode m_Mo_catcher.2.1 102 = .ok (.iconst 2, 1) := by decide +kernel
theorem d_Mo_catcher_103 : decode m_Mo_catcher.2.1 103 = .ok (.iload 6, 2) := by decide +kernel
theorem d_Mo_catcher_105 : decode m_Mo_catcher.2.1 105 = .ok (.imul, 1) := by decide +kernel
theorem d_Mo_catcher_106 : decode m_Mo_catcher.2.1 106 = .ok (.aload_n 0, 1) := by decide +kernel
theorem d_Mo_catcher_107 : decode m_Mo_catcher.2.1 107 = .ok (.getfield 44, 3) := by decide +kernel
theorem d_Mo_catcher_110 : decode m_Mo_catcher.2.1 110 = .ok (.iload 6, 2) := by decide +kernel
theorem d_Mo_catcher_112 : decode m_Mo_catcher.2.1 112 = .ok (.iaload, 1) := by decide +kernel
theorem d_Mo_catcher_113 : decode m_Mo_catcher.2.1 113 = .ok (.iadd, 1) := by decide +kernel
theorem d_Mo_catcher_114 : decode m_Mo_catcher.2.1 114 = .ok (.istore 7, 2) := by decide +kernel
theorem d_Mo_catcher_116 : decode m_Mo_catcher.2.1 116 = .ok (.aload_n 0, 1) := by decide +kernel
theorem f_Mo_catcher_47 : jl_fd m_Mo_catcher 47 7 13 = true := by decide +kernel
theorem d_Mo_catcher_117 : decode m_Mo_catcher.2.1 117 = .ok (.getfield 47, 3) := by decide +kernel
theorem d_Mo_catcher_120 : decode m_Mo_catcher.2.1 120 = .ok (.iload 7, 2) := by decide +kernel
theorem d_Mo_catcher_122 : decode m_Mo_catcher.2.1 122 = .ok (.iload_n 3, 1) := by decide +kernel
theorem d_Mo_catcher_123 : decode m_Mo_catcher.2.1 123 = .ok (.iastore, 1) := by decide +kernel
theorem d_Mo_catcher_124 : decode m_Mo_catcher.2.1 124 = .ok (.aload_n 0, 1) := by decide +kernel
theorem f_Mo_catcher_50 : jl_fd m_Mo_catcher 50 7 14 = true := by decide +kernel
theorem d_Mo_catcher_125 : decode m_Mo_catcher.2.1 125 = .ok (.getfield 50, 3) := by decide +kernel
theorem d_Mo_catcher_128 : decode m_Mo_catcher.2.1 128 = .ok (.iload 7, 2) := by decide +kernel
theorem d_Mo_catcher_130 : decode m_Mo_catcher.2.1 130 = .ok (.iload 4, 2) := by decide +kernel
theorem d_Mo_catcher_132 : decode m_Mo_catcher.2.1 132 = .ok (.iastore, 1) := by decide +kernel
theorem d_Mo_catcher_133 : decode m_Mo_catcher.2.1 133 = .ok (.aload_n 0, 1) := by decide +kernel
theorem f_Mo_catcher_53 : jl_fd m_Mo_catcher 53 7 15 = true := by decide +kernel
theorem d_Mo_catcher_134 : decode m_Mo_catcher.2.1 134 = .ok (.getfield 53, 3) := by decide +kernel
theorem d_Mo_catcher_137 : decode m_Mo_catcher.2.1 137 = .ok (.iload 7, 2) := by decide +kernel
theorem d_Mo_catcher_139 : decode m_Mo_catcher.2.1 139 = .ok (.iload 5, 2) := by decide +kernel
theorem d_Mo_catcher_141 : decode m_Mo_catcher.2.1 141 = .ok (.iastore, 1) := by decide +kernel
theorem d_Mo_catcher_142 : decode m_Mo_catcher.2.1 142 = .ok (.aload_n 0, 1) := by decide +kernel
theorem d_Mo_catcher_143 : decode m_Mo_catcher.2.1 143 = .ok (.getfield 44, 3) := by decide +kernel
theorem d_Mo_catcher_146 : decode m_Mo_catcher.2.1 146 = .ok (.iload 6, 2) := by decide +kernel
theorem d_Mo_catcher_148 : decode m_Mo_catcher.2.1 148 = .ok (.dup2, 1) := by decide +kernel
theorem d_Mo_catcher_149 : decode m_Mo_catcher.2.1 149 = .ok (.iaload, 1) := by decide +kernel
theorem d_Mo_catcher_150 : decode m_Mo_catcher.2.1 150 = .ok (.iconst 1, 1) := by decide +kernel
theorem d_Mo_catcher_151 : decode m_Mo_catcher.2.1 151 = .ok (.iadd, 1) := by decide +kernel
theorem d_Mo_catcher_152 : decode m_Mo_catcher.2.1 152 = .ok (.iastore, 1) := by decide +kernel
theorem d_Mo_catcher_153 : decode m_Mo_catcher.2.1 153 = .ok (.aload_n 0, 1) := by decide +kernel
theorem d_Mo_catcher_154 : decode m_Mo_catcher.2.1 154 = .ok (.iconst 0, 1) := by decide +kernel
theorem p_Mo_catcher_122 : jl_fp m_Mo_catcher 122 7 16 = true := by decide +kernel
theorem d_Mo_catcher_155 : decode m_Mo_catcher.2.1 155 = .ok (.putfield 122, 3) := by decide +kernel
theorem d_Mo_catcher_158 : decode m_Mo_catcher.2.1 158 = .ok (.aload_n 0, 1) := by decide +kernel
theorem d_Mo_catcher_159 : decode m_Mo_catcher.2.1 159 = .ok (.getfield 44, 3) := by decide +kernel
theorem d_Mo_catcher_162 : decode m_Mo_catcher.2.1 162 = .ok (.iload 6, 2) := by decide +kernel
theorem d_Mo_catcher_164 : decode m_Mo_catcher.2.1 164 = .ok (.iaload, 1) := by decide +kernel
theorem d_Mo_catcher_165 : decode m_Mo_catcher.2.1 165 = .ok (.ireturn, 1) := by decide +kernel
theorem d_Mo_catcher_96 : decode m_Mo_catcher.2.1 96 = .ok (.aload_n 0, 1) := by decide +kernel
theorem d_Mo_catcher_97 : decode m_Mo_catcher.2.1 97 = .ok (.iconst 3, 1) := by decide +kernel
theorem d_Mo_catcher_98 : decode m_Mo_catcher.2.1 98 = .ok (.invokevirtual 118, 3) := by decide +kernel
theorem d_Mo_catcher_101 : decode m_Mo_catcher.2.1 101 = .ok (.ireturn, 1) := by decide +kernel
theorem mo_cat (hl : l.stackTraces = false) {k sl sp tr ki : Nat} (hO : MoO σ fa vf wh wy hg dp md ov oh dn an) (hw : MoW σ tb pr ow ft hs) (hu : MoM σ u1 u2 ur ul uo ua uc us ut uk) (hk : k < 6) (hs4 : sl < 4) (hp : sp < 1024) (hr : tr < 24) (hi : ki < 7) (hnm : noM tb hs k sl = false) (huc : uc (4 * k + sl) ≤ 2) : jl_m l G m_Mo_catcher [.ref 22, .int (nI k), .int (nI sl), .int (nI sp), .int (nI tr), .int (nI ki)] σ (if uc (4 * k + sl) < 2 then .inl (some (.int (nI (uc (4 * k + sl) + 1)))) else .inl (some (.int (nI 0)))) (if uc (4 * k + sl) < 2 then (((((σ.set 22 (.inr (7, MoF (nI 0) vf wh wy hg dp md ov oh dn an))).set 35 (.inl (0, 48, .inl fun j => nI (va_up us (2 * (4 * k + sl) + uc (4 * k + sl)) sp j)))).set 36 (.inl (0, 48, .inl fun j => nI (va_up ut (2 * (4 * k + sl) + uc (4 * k + sl)) tr j)))).set 37 (.inl (0, 48, .inl fun j => nI (va_up uk (2 * (4 * k + sl) + uc (4 * k + sl)) ki j)))).set 34 (.inl (0, 24, .inl fun j => nI (va_up uc (4 * k + sl) (uc (4 * k + sl) + 1) j)))).set 22 (.inr (7, MoF (nI 0) (nI 0) wh wy hg dp md ov oh dn an)) else σ.set 22 (.inr (7, MoF (nI 3) vf wh wy hg dp md ov oh dn an))) := by
  obtain ⟨h23, h24, h25, h26, h27⟩ := id hw; obtain ⟨h28, h29, h30, h31, h32, h33, h34, h35, h36, h37⟩ := id hu
  have hvu : va_up uc (4 * k + sl) (uc (4 * k + sl) + 1) (4 * k + sl) = uc (4 * k + sl) + 1 := by simp [va_up]
  refine jl_of (as := [.ref 22, .int (nI k), .int (nI sl), .int (nI sp), .int (nI tr), .int (nI ki)]) rfl (by decide) hl (jl_cc rfl (jl_cc rfl (jl_cc rfl (jl_cc rfl (jl_cc rfl (jl_cc rfl jl_ca)))))) (Nat.le_of_ble_eq_true rfl) ?_
  show jl_W l G m_Mo_catcher (0, 0) 0 [some (.ref 22), some (.int (nI k)), some (.int (nI sl)), some (.int (nI sp)), some (.int (nI tr)), some (.int (nI ki)), none, none] [] (σ) (if uc (4 * k + sl) < 2 then .inl (some (.int (nI (uc (4 * k + sl) + 1)))) else .inl (some (.int (nI 0)))) (if uc (4 * k + sl) < 2 then (((((σ.set 22 (.inr (7, MoF (nI 0) vf wh wy hg dp md ov oh dn an))).set 35 (.inl (0, 48, .inl fun j => nI (va_up us (2 * (4 * k + sl) + uc (4 * k + sl)) sp j)))).set 36 (.inl (0, 48, .inl fun j => nI (va_up ut (2 * (4 * k + sl) + uc (4 * k + sl)) tr j)))).set 37 (.inl (0, 48, .inl fun j => nI (va_up uk (2 * (4 * k + sl) + uc (4 * k + sl)) ki j)))).set 34 (.inl (0, 24, .inl fun j => nI (va_up uc (4 * k + sl) (uc (4 * k + sl) + 1) j)))).set 22 (.inr (7, MoF (nI 0) (nI 0) wh wy hg dp md ov oh dn an)) else σ.set 22 (.inr (7, MoF (nI 3) vf wh wy hg dp md ov oh dn an)))
  refine jr_aload_n d_Mo_catcher_0 rfl ?_
  refine jr_iconst ((nI (0))) d_Mo_catcher_1 (by decide) ?_
  refine jr_putf d_Mo_catcher_2 p_Mo_catcher_111 hO (Nat.le_of_ble_eq_true rfl) jl_fit_int ?_
  show jl_W l G m_Mo_catcher (0, 0) 5 [some (.ref 22), some (.int (nI k)), some (.int (nI sl)), some (.int (nI sp)), some (.int (nI tr)), some (.int (nI ki)), none, none] [] (σ.set (22) (.inr (7, [.int (nI 0), .ref 23, .ref 24, .ref 25, .ref 26, .ref 27, .ref 28, .ref 29, .ref 30, .ref 31, .ref 32, .ref 33, .ref 34, .ref 35, .ref 36, .ref 37, .int (vf), .int (wh), .int (wy), .ref 38, .ref 39, .ref 40, .ref 41, .int (hg), .ref 42, .ref 43, .ref 44, .ref 45, .ref 46, .ref 47, .ref 48, .ref 49, .int (dp), .ref 50, .ref 51, .ref 52, .int (md), .int (ov), .int (oh), .int (dn), .int (an)]))) (if uc (4 * k + sl) < 2 then .inl (some (.int (nI (uc (4 * k + sl) + 1)))) else .inl (some (.int (nI 0)))) (if uc (4 * k + sl) < 2 then (((((σ.set 22 (.inr (7, MoF (nI 0) vf wh wy hg dp md ov oh dn an))).set 35 (.inl (0, 48, .inl fun j => nI (va_up us (2 * (4 * k + sl) + uc (4 * k + sl)) sp j)))).set 36 (.inl (0, 48, .inl fun j => nI (va_up ut (2 * (4 * k + sl) + uc (4 * k + sl)) tr j)))).set 37 (.inl (0, 48, .inl fun j => nI (va_up uk (2 * (4 * k + sl) + uc (4 * k + sl)) ki j)))).set 34 (.inl (0, 24, .inl fun j => nI (va_up uc (4 * k + sl) (uc (4 * k + sl) + 1) j)))).set 22 (.inr (7, MoF (nI 0) (nI 0) wh wy hg dp md ov oh dn an)) else σ.set 22 (.inr (7, MoF (nI 3) vf wh wy hg dp md ov oh dn an)))
  refine jr_aload_n d_Mo_catcher_5 rfl ?_
  refine jr_iload_n d_Mo_catcher_6 rfl ?_
  refine jr_bipush ((nI (6))) d_Mo_catcher_7 (by decide) ?_
  refine jr_callV (As := [.int (nI k), .int (nI 6)]) d_Mo_catcher_9 k_Mo_catcher_114 (jl_ss hO) rfl rfl rfl (Nat.le_of_ble_eq_true rfl) (by decide) (by decide) (mo_outN hl (jl_ss hO) (MoW.sx hw (Or.inl (by decide))) (by decide) (by omega)) ?_
  show jl_W l G m_Mo_catcher (0, 0) 12 [some (.ref 22), some (.int (nI k)), some (.int (nI sl)), some (.int (nI sp)), some (.int (nI tr)), some (.int (nI ki)), none, none] [.int (nI 0)] (σ.set (22) (.inr (7, [.int (nI 0), .ref 23, .ref 24, .ref 25, .ref 26, .ref 27, .ref 28, .ref 29, .ref 30, .ref 31, .ref 32, .ref 33, .ref 34, .ref 35, .ref 36, .ref 37, .int (vf), .int (wh), .int (wy), .ref 38, .ref 39, .ref 40, .ref 41, .int (hg), .ref 42, .ref 43, .ref 44, .ref 45, .ref 46, .ref 47, .ref 48, .ref 49, .int (dp), .ref 50, .ref 51, .ref 52, .int (md), .int (ov), .int (oh), .int (dn), .int (an)]))) (if uc (4 * k + sl) < 2 then .inl (some (.int (nI (uc (4 * k + sl) + 1)))) else .inl (some (.int (nI 0)))) (if uc (4 * k + sl) < 2 then (((((σ.set 22 (.inr (7, MoF (nI 0) vf wh wy hg dp md ov oh dn an))).set 35 (.inl (0, 48, .inl fun j => nI (va_up us (2 * (4 * k + sl) + uc (4 * k + sl)) sp j)))).set 36 (.inl (0, 48, .inl fun j => nI (va_up ut (2 * (4 * k + sl) + uc (4 * k + sl)) tr j)))).set 37 (.inl (0, 48, .inl fun j => nI (va_up uk (2 * (4 * k + sl) + uc (4 * k + sl)) ki j)))).set 34 (.inl (0, 24, .inl fun j => nI (va_up uc (4 * k + sl) (uc (4 * k + sl) + 1) j)))).set 22 (.inr (7, MoF (nI 0) (nI 0) wh wy hg dp md ov oh dn an)) else σ.set 22 (.inr (7, MoF (nI 3) vf wh wy hg dp md ov oh dn an)))
  refine jr_if_ne 57 d_Mo_catcher_12 (by decide) (fun z => absurd rfl z) (fun _ => ?_)
  refine jr_aload_n d_Mo_catcher_15 rfl ?_
  refine jr_iload_n d_Mo_catcher_16 rfl ?_
  refine jr_iconst ((nI (4))) d_Mo_catcher_17 (by decide) ?_
  refine jr_callV (As := [.int (nI sl), .int (nI 4)]) d_Mo_catcher_18 k_Mo_catcher_114 (jl_ss hO) rfl rfl rfl (Nat.le_of_ble_eq_true rfl) (by decide) (by decide) (mo_outN hl (jl_ss hO) (MoW.sx hw (Or.inl (by decide))) (by decide) (by omega)) ?_
  show jl_W l G m_Mo_catcher (0, 0) 21 [some (.ref 22), some (.int (nI k)), some (.int (nI sl)), some (.int (nI sp)), some (.int (nI tr)), some (.int (nI ki)), none, none] [.int (nI 0)] (σ.set (22) (.inr (7, [.int (nI 0), .ref 23, .ref 24, .ref 25, .ref 26, .ref 27, .ref 28, .ref 29, .ref 30, .ref 31, .ref 32, .ref 33, .ref 34, .ref 35, .ref 36, .ref 37, .int (vf), .int (wh), .int (wy), .ref 38, .ref 39, .ref 40, .ref 41, .int (hg), .ref 42, .ref 43, .ref 44, .ref 45, .ref 46, .ref 47, .ref 48, .ref 49, .int (dp), .ref 50, .ref 51, .ref 52, .int (md), .int (ov), .int (oh), .int (dn), .int (an)]))) (if uc (4 * k + sl) < 2 then .inl (some (.int (nI (uc (4 * k + sl) + 1)))) else .inl (some (.int (nI 0)))) (if uc (4 * k + sl) < 2 then (((((σ.set 22 (.inr (7, MoF (nI 0) vf wh wy hg dp md ov oh dn an))).set 35 (.inl (0, 48, .inl fun j => nI (va_up us (2 * (4 * k + sl) + uc (4 * k + sl)) sp j)))).set 36 (.inl (0, 48, .inl fun j => nI (va_up ut (2 * (4 * k + sl) + uc (4 * k + sl)) tr j)))).set 37 (.inl (0, 48, .inl fun j => nI (va_up uk (2 * (4 * k + sl) + uc (4 * k + sl)) ki j)))).set 34 (.inl (0, 24, .inl fun j => nI (va_up uc (4 * k + sl) (uc (4 * k + sl) + 1) j)))).set 22 (.inr (7, MoF (nI 0) (nI 0) wh wy hg dp md ov oh dn an)) else σ.set 22 (.inr (7, MoF (nI 3) vf wh wy hg dp md ov oh dn an)))
  refine jr_if_ne 57 d_Mo_catcher_21 (by decide) (fun z => absurd rfl z) (fun _ => ?_)
  refine jr_aload_n d_Mo_catcher_24 rfl ?_
  refine jr_iload_n d_Mo_catcher_25 rfl ?_
  refine jr_sipush ((nI (1024))) d_Mo_catcher_26 (by decide) ?_
  refine jr_callV (As := [.int (nI sp), .int (nI 1024)]) d_Mo_catcher_29 k_Mo_catcher_114 (jl_ss hO) rfl rfl rfl (Nat.le_of_ble_eq_true rfl) (by decide) (by decide) (mo_outN hl (jl_ss hO) (MoW.sx hw (Or.inl (by decide))) (by decide) (by omega)) ?_
  show jl_W l G m_Mo_catcher (0, 0) 32 [some (.ref 22), some (.int (nI k)), some (.int (nI sl)), some (.int (nI sp)), some (.int (nI tr)), some (.int (nI ki)), none, none] [.int (nI 0)] (σ.set (22) (.inr (7, [.int (nI 0), .ref 23, .ref 24, .ref 25, .ref 26, .ref 27, .ref 28, .ref 29, .ref 30, .ref 31, .ref 32, .ref 33, .ref 34, .ref 35, .ref 36, .ref 37, .int (vf), .int (wh), .int (wy), .ref 38, .ref 39, .ref 40, .ref 41, .int (hg), .ref 42, .ref 43, .ref 44, .ref 45, .ref 46, .ref 47, .ref 48, .ref 49, .int (dp), .ref 50, .ref 51, .ref 52, .int (md), .int (ov), .int (oh), .int (dn), .int (an)]))) (if uc (4 * k + sl) < 2 then .inl (some (.int (nI (uc (4 * k + sl) + 1)))) else .inl (some (.int (nI 0)))) (if uc (4 * k + sl) < 2 then (((((σ.set 22 (.inr (7, MoF (nI 0) vf wh wy hg dp md ov oh dn an))).set 35 (.inl (0, 48, .inl fun j => nI (va_up us (2 * (4 * k + sl) + uc (4 * k + sl)) sp j)))).set 36 (.inl (0, 48, .inl fun j => nI (va_up ut (2 * (4 * k + sl) + uc (4 * k + sl)) tr j)))).set 37 (.inl (0, 48, .inl fun j => nI (va_up uk (2 * (4 * k + sl) + uc (4 * k + sl)) ki j)))).set 34 (.inl (0, 24, .inl fun j => nI (va_up uc (4 * k + sl) (uc (4 * k + sl) + 1) j)))).set 22 (.inr (7, MoF (nI 0) (nI 0) wh wy hg dp md ov oh dn an)) else σ.set 22 (.inr (7, MoF (nI 3) vf wh wy hg dp md ov oh dn an)))
  refine jr_if_ne 57 d_Mo_catcher_32 (by decide) (fun z => absurd rfl z) (fun _ => ?_)
  refine jr_aload_n d_Mo_catcher_35 rfl ?_
  refine jr_iload d_Mo_catcher_36 rfl ?_
  refine jr_bipush ((nI (24))) d_Mo_catcher_38 (by decide) ?_
  refine jr_callV (As := [.int (nI tr), .int (nI 24)]) d_Mo_catcher_40 k_Mo_catcher_114 (jl_ss hO) rfl rfl rfl (Nat.le_of_ble_eq_true rfl) (by decide) (by decide) (mo_outN hl (jl_ss hO) (MoW.sx hw (Or.inl (by decide))) (by decide) (by omega)) ?_
  show jl_W l G m_Mo_catcher (0, 0) 43 [some (.ref 22), some (.int (nI k)), some (.int (nI sl)), some (.int (nI sp)), some (.int (nI tr)), some (.int (nI ki)), none, none] [.int (nI 0)] (σ.set (22) (.inr (7, [.int (nI 0), .ref 23, .ref 24, .ref 25, .ref 26, .ref 27, .ref 28, .ref 29, .ref 30, .ref 31, .ref 32, .ref 33, .ref 34, .ref 35, .ref 36, .ref 37, .int (vf), .int (wh), .int (wy), .ref 38, .ref 39, .ref 40, .ref 41, .int (hg), .ref 42, .ref 43, .ref 44, .ref 45, .ref 46, .ref 47, .ref 48, .ref 49, .int (dp), .ref 50, .ref 51, .ref 52, .int (md), .int (ov), .int (oh), .int (dn), .int (an)]))) (if uc (4 * k + sl) < 2 then .inl (some (.int (nI (uc (4 * k + sl) + 1)))) else .inl (some (.int (nI 0)))) (if uc (4 * k + sl) < 2 then (((((σ.set 22 (.inr (7, MoF (nI 0) vf wh wy hg dp md ov oh dn an))).set 35 (.inl (0, 48, .inl fun j => nI (va_up us (2 * (4 * k + sl) + uc (4 * k + sl)) sp j)))).set 36 (.inl (0, 48, .inl fun j => nI (va_up ut (2 * (4 * k + sl) + uc (4 * k + sl)) tr j)))).set 37 (.inl (0, 48, .inl fun j => nI (va_up uk (2 * (4 * k + sl) + uc (4 * k + sl)) ki j)))).set 34 (.inl (0, 24, .inl fun j => nI (va_up uc (4 * k + sl) (uc (4 * k + sl) + 1) j)))).set 22 (.inr (7, MoF (nI 0) (nI 0) wh wy hg dp md ov oh dn an)) else σ.set 22 (.inr (7, MoF (nI 3) vf wh wy hg dp md ov oh dn an)))
  refine jr_if_ne 57 d_Mo_catcher_43 (by decide) (fun z => absurd rfl z) (fun _ => ?_)
  refine jr_aload_n d_Mo_catcher_46 rfl ?_
  refine jr_iload d_Mo_catcher_47 rfl ?_
  refine jr_bipush ((nI (7))) d_Mo_catcher_49 (by decide) ?_
  refine jr_callV (As := [.int (nI ki), .int (nI 7)]) d_Mo_catcher_51 k_Mo_catcher_114 (jl_ss hO) rfl rfl rfl (Nat.le_of_ble_eq_true rfl) (by decide) (by decide) (mo_outN hl (jl_ss hO) (MoW.sx hw (Or.inl (by decide))) (by decide) (by omega)) ?_
  show jl_W l G m_Mo_catcher (0, 0) 54 [some (.ref 22), some (.int (nI k)), some (.int (nI sl)), some (.int (nI sp)), some (.int (nI tr)), some (.int (nI ki)), none, none] [.int (nI 0)] (σ.set (22) (.inr (7, [.int (nI 0), .ref 23, .ref 24, .ref 25, .ref 26, .ref 27, .ref 28, .ref 29, .ref 30, .ref 31, .ref 32, .ref 33, .ref 34, .ref 35, .ref 36, .ref 37, .int (vf), .int (wh), .int (wy), .ref 38, .ref 39, .ref 40, .ref 41, .int (hg), .ref 42, .ref 43, .ref 44, .ref 45, .ref 46, .ref 47, .ref 48, .ref 49, .int (dp), .ref 50, .ref 51, .ref 52, .int (md), .int (ov), .int (oh), .int (dn), .int (an)]))) (if uc (4 * k + sl) < 2 then .inl (some (.int (nI (uc (4 * k + sl) + 1)))) else .inl (some (.int (nI 0)))) (if uc (4 * k + sl) < 2 then (((((σ.set 22 (.inr (7, MoF (nI 0) vf wh wy hg dp md ov oh dn an))).set 35 (.inl (0, 48, .inl fun j => nI (va_up us (2 * (4 * k + sl) + uc (4 * k + sl)) sp j)))).set 36 (.inl (0, 48, .inl fun j => nI (va_up ut (2 * (4 * k + sl) + uc (4 * k + sl)) tr j)))).set 37 (.inl (0, 48, .inl fun j => nI (va_up uk (2 * (4 * k + sl) + uc (4 * k + sl)) ki j)))).set 34 (.inl (0, 24, .inl fun j => nI (va_up uc (4 * k + sl) (uc (4 * k + sl) + 1) j)))).set 22 (.inr (7, MoF (nI 0) (nI 0) wh wy hg dp md ov oh dn an)) else σ.set 22 (.inr (7, MoF (nI 3) vf wh wy hg dp md ov oh dn an)))
  refine jr_if_eq 63 d_Mo_catcher_54 (by decide) (fun _ => ?_) (fun z => absurd (by decide) z)
  refine jr_aload_n d_Mo_catcher_63 rfl ?_
  refine jr_iload_n d_Mo_catcher_64 rfl ?_
  refine jr_iload_n d_Mo_catcher_65 rfl ?_
  refine jr_callV (As := [.int (nI k), .int (nI sl)]) d_Mo_catcher_66 k_Mo_catcher_139 (jl_ss hO) rfl rfl rfl (Nat.le_of_ble_eq_true rfl) (by decide) (by decide) (mo_noMF hl (jl_ss hO) (MoW.sx hw (Or.inl (by decide))) hk hs4 hnm) ?_
  show jl_W l G m_Mo_catcher (0, 0) 69 [some (.ref 22), some (.int (nI k)), some (.int (nI sl)), some (.int (nI sp)), some (.int (nI tr)), some (.int (nI ki)), none, none] [.int (nI 0)] (σ.set (22) (.inr (7, [.int (nI 0), .ref 23, .ref 24, .ref 25, .ref 26, .ref 27, .ref 28, .ref 29, .ref 30, .ref 31, .ref 32, .ref 33, .ref 34, .ref 35, .ref 36, .ref 37, .int (vf), .int (wh), .int (wy), .ref 38, .ref 39, .ref 40, .ref 41, .int (hg), .ref 42, .ref 43, .ref 44, .ref 45, .ref 46, .ref 47, .ref 48, .ref 49, .int (dp), .ref 50, .ref 51, .ref 52, .int (md), .int (ov), .int (oh), .int (dn), .int (an)]))) (if uc (4 * k + sl) < 2 then .inl (some (.int (nI (uc (4 * k + sl) + 1)))) else .inl (some (.int (nI 0)))) (if uc (4 * k + sl) < 2 then (((((σ.set 22 (.inr (7, MoF (nI 0) vf wh wy hg dp md ov oh dn an))).set 35 (.inl (0, 48, .inl fun j => nI (va_up us (2 * (4 * k + sl) + uc (4 * k + sl)) sp j)))).set 36 (.inl (0, 48, .inl fun j => nI (va_up ut (2 * (4 * k + sl) + uc (4 * k + sl)) tr j)))).set 37 (.inl (0, 48, .inl fun j => nI (va_up uk (2 * (4 * k + sl) + uc (4 * k + sl)) ki j)))).set 34 (.inl (0, 24, .inl fun j => nI (va_up uc (4 * k + sl) (uc (4 * k + sl) + 1) j)))).set 22 (.inr (7, MoF (nI 0) (nI 0) wh wy hg dp md ov oh dn an)) else σ.set 22 (.inr (7, MoF (nI 3) vf wh wy hg dp md ov oh dn an)))
  refine jr_if_eq 78 d_Mo_catcher_69 (by decide) (fun _ => ?_) (fun z => absurd (by decide) z)
  refine jr_iconst ((nI (4))) d_Mo_catcher_78 (by decide) ?_
  refine jr_iload_n d_Mo_catcher_79 rfl ?_
  refine jr_imulN d_Mo_catcher_80 ?_
  refine jr_iload_n d_Mo_catcher_81 rfl ?_
  refine jr_iaddN d_Mo_catcher_82 ?_
  refine jr_istore d_Mo_catcher_83 (by decide) ?_
  show jl_W l G m_Mo_catcher (0, 0) 85 [some (.ref 22), some (.int (nI k)), some (.int (nI sl)), some (.int (nI sp)), some (.int (nI tr)), some (.int (nI ki)), some (.int (nI (((4) * (k)) + (sl)))), none] [] (σ.set (22) (.inr (7, [.int (nI 0), .ref 23, .ref 24, .ref 25, .ref 26, .ref 27, .ref 28, .ref 29, .ref 30, .ref 31, .ref 32, .ref 33, .ref 34, .ref 35, .ref 36, .ref 37, .int (vf), .int (wh), .int (wy), .ref 38, .ref 39, .ref 40, .ref 41, .int (hg), .ref 42, .ref 43, .ref 44, .ref 45, .ref 46, .ref 47, .ref 48, .ref 49, .int (dp), .ref 50, .ref 51, .ref 52, .int (md), .int (ov), .int (oh), .int (dn), .int (an)]))) (if uc (4 * k + sl) < 2 then .inl (some (.int (nI (uc (4 * k + sl) + 1)))) else .inl (some (.int (nI 0)))) (if uc (4 * k + sl) < 2 then (((((σ.set 22 (.inr (7, MoF (nI 0) vf wh wy hg dp md ov oh dn an))).set 35 (.inl (0, 48, .inl fun j => nI (va_up us (2 * (4 * k + sl) + uc (4 * k + sl)) sp j)))).set 36 (.inl (0, 48, .inl fun j => nI (va_up ut (2 * (4 * k + sl) + uc (4 * k + sl)) tr j)))).set 37 (.inl (0, 48, .inl fun j => nI (va_up uk (2 * (4 * k + sl) + uc (4 * k + sl)) ki j)))).set 34 (.inl (0, 24, .inl fun j => nI (va_up uc (4 * k + sl) (uc (4 * k + sl) + 1) j)))).set 22 (.inr (7, MoF (nI 0) (nI 0) wh wy hg dp md ov oh dn an)) else σ.set 22 (.inr (7, MoF (nI 3) vf wh wy hg dp md ov oh dn an)))
  refine jr_aload_n d_Mo_catcher_85 rfl ?_
  refine jr_getf d_Mo_catcher_86 f_Mo_catcher_44 (jl_ss hO) rfl ?_
  refine jr_iload d_Mo_catcher_89 rfl ?_
  refine jr_ialdN d_Mo_catcher_91 (jl_sn (by decide) h34) (by omega) (by omega) ?_
  refine jr_iconst ((nI (2))) d_Mo_catcher_92 (by decide) ?_
  refine jr_icmp_neN 102 d_Mo_catcher_93 (by decide) (by omega) (by omega) (fun c1 => ?_) (fun c1 => ?_)
  · refine jr_iconst ((nI (2))) d_Mo_catcher_102 (by decide) ?_
    refine jr_iload d_Mo_catcher_103 rfl ?_
    refine jr_imulN d_Mo_catcher_105 ?_
    refine jr_aload_n d_Mo_catcher_106 rfl ?_
    refine jr_getf d_Mo_catcher_107 f_Mo_catcher_44 (jl_ss hO) rfl ?_
    refine jr_iload d_Mo_catcher_110 rfl ?_
    refine jr_ialdN d_Mo_catcher_112 (jl_sn (by decide) h34) (by omega) (by omega) ?_
    refine jr_iaddN d_Mo_catcher_113 ?_
    refine jr_istore d_Mo_catcher_114 (by decide) ?_
    show jl_W l G m_Mo_catcher (0, 0) 116 [some (.ref 22), some (.int (nI k)), some (.int (nI sl)), some (.int (nI sp)), some (.int (nI tr)), some (.int (nI ki)), some (.int (nI (((4) * (k)) + (sl)))), some (.int (nI (((2) * (((4) * (k)) + (sl))) + (uc (((4) * (k)) + (sl))))))] [] (σ.set (22) (.inr (7, [.int (nI 0), .ref 23, .ref 24, .ref 25, .ref 26, .ref 27, .ref 28, .ref 29, .ref 30, .ref 31, .ref 32, .ref 33, .ref 34, .ref 35, .ref 36, .ref 37, .int (vf), .int (wh), .int (wy), .ref 38, .ref 39, .ref 40, .ref 41, .int (hg), .ref 42, .ref 43, .ref 44, .ref 45, .ref 46, .ref 47, .ref 48, .ref 49, .int (dp), .ref 50, .ref 51, .ref 52, .int (md), .int (ov), .int (oh), .int (dn), .int (an)]))) (if uc (4 * k + sl) < 2 then .inl (some (.int (nI (uc (4 * k + sl) + 1)))) else .inl (some (.int (nI 0)))) (if uc (4 * k + sl) < 2 then (((((σ.set 22 (.inr (7, MoF (nI 0) vf wh wy hg dp md ov oh dn an))).set 35 (.inl (0, 48, .inl fun j => nI (va_up us (2 * (4 * k + sl) + uc (4 * k + sl)) sp j)))).set 36 (.inl (0, 48, .inl fun j => nI (va_up ut (2 * (4 * k + sl) + uc (4 * k + sl)) tr j)))).set 37 (.inl (0, 48, .inl fun j => nI (va_up uk (2 * (4 * k + sl) + uc (4 * k + sl)) ki j)))).set 34 (.inl (0, 24, .inl fun j => nI (va_up uc (4 * k + sl) (uc (4 * k + sl) + 1) j)))).set 22 (.inr (7, MoF (nI 0) (nI 0) wh wy hg dp md ov oh dn an)) else σ.set 22 (.inr (7, MoF (nI 3) vf wh wy hg dp md ov oh dn an)))
    refine jr_aload_n d_Mo_catcher_116 rfl ?_
    refine jr_getf d_Mo_catcher_117 f_Mo_catcher_47 (jl_ss hO) rfl ?_
    refine jr_iload d_Mo_catcher_120 rfl ?_
    refine jr_iload_n d_Mo_catcher_122 rfl ?_
    refine jr_iastN d_Mo_catcher_123 (jl_sn (by decide) h35) (by omega) (by omega) ?_
    rw [show upd (fun j => nI (us j)) (((2) * (((4) * (k)) + (sl))) + (uc (((4) * (k)) + (sl)))) ((nI (sp))) = (fun j => nI ((va_up us (((2) * (((4) * (k)) + (sl))) + (uc (((4) * (k)) + (sl)))) (sp)) j)) from nI_up us (((2) * (((4) * (k)) + (sl))) + (uc (((4) * (k)) + (sl)))) (sp)]
    show jl_W l G m_Mo_catcher (0, 0) 124 [some (.ref 22), some (.int (nI k)), some (.int (nI sl)), some (.int (nI sp)), some (.int (nI tr)), some (.int (nI ki)), some (.int (nI (((4) * (k)) + (sl)))), some (.int (nI (((2) * (((4) * (k)) + (sl))) + (uc (((4) * (k)) + (sl))))))] [] ((σ.set (22) (.inr (7, [.int (nI 0), .ref 23, .ref 24, .ref 25, .ref 26, .ref 27, .ref 28, .ref 29, .ref 30, .ref 31, .ref 32, .ref 33, .ref 34, .ref 35, .ref 36, .ref 37, .int (vf), .int (wh), .int (wy), .ref 38, .ref 39, .ref 40, .ref 41, .int (hg), .ref 42, .ref 43, .ref 44, .ref 45, .ref 46, .ref 47, .ref 48, .ref 49, .int (dp), .ref 50, .ref 51, .ref 52, .int (md), .int (ov), .int (oh), .int (dn), .int (an)]))).set (35) (.inl (0, 48, .inl (fun j => nI ((va_up us (((2) * (((4) * (k)) + (sl))) + (uc (((4) * (k)) + (sl)))) (sp)) j))))) (if uc (4 * k + sl) < 2 then .inl (some (.int (nI (uc (4 * k + sl) + 1)))) else .inl (some (.int (nI 0)))) (if uc (4 * k + sl) < 2 then (((((σ.set 22 (.inr (7, MoF (nI 0) vf wh wy hg dp md ov oh dn an))).set 35 (.inl (0, 48, .inl fun j => nI (va_up us (2 * (4 * k + sl) + uc (4 * k + sl)) sp j)))).set 36 (.inl (0, 48, .inl fun j => nI (va_up ut (2 * (4 * k + sl) + uc (4 * k + sl)) tr j)))).set 37 (.inl (0, 48, .inl fun j => nI (va_up uk (2 * (4 * k + sl) + uc (4 * k + sl)) ki j)))).set 34 (.inl (0, 24, .inl fun j => nI (va_up uc (4 * k + sl) (uc (4 * k + sl) + 1) j)))).set 22 (.inr (7, MoF (nI 0) (nI 0) wh wy hg dp md ov oh dn an)) else σ.set 22 (.inr (7, MoF (nI 3) vf wh wy hg dp md ov oh dn an)))
    refine jr_aload_n d_Mo_catcher_124 rfl ?_
    refine jr_getf d_Mo_catcher_125 f_Mo_catcher_50 (jl_sn (by decide) (jl_ss hO)) rfl ?_
    refine jr_iload d_Mo_catcher_128 rfl ?_
    refine jr_iload d_Mo_catcher_130 rfl ?_
    refine jr_iastN d_Mo_catcher_132 (jl_sn (by decide) (jl_sn (by decide) h36)) (by omega) (by omega) ?_
    rw [show upd (fun j => nI (ut j)) (((2) * (((4) * (k)) + (sl))) + (uc (((4) * (k)) + (sl)))) ((nI (tr))) = (fun j => nI ((va_up ut (((2) * (((4) * (k)) + (sl))) + (uc (((4) * (k)) + (sl)))) (tr)) j)) from nI_up ut (((2) * (((4) * (k)) + (sl))) + (uc (((4) * (k)) + (sl)))) (tr)]
    show jl_W l G m_Mo_catcher (0, 0) 133 [some (.ref 22), some (.int (nI k)), some (.int (nI sl)), some (.int (nI sp)), some (.int (nI tr)), some (.int (nI ki)), some (.int (nI (((4) * (k)) + (sl)))), some (.int (nI (((2) * (((4) * (k)) + (sl))) + (uc (((4) * (k)) + (sl))))))] [] (((σ.set (22) (.inr (7, [.int (nI 0), .ref 23, .ref 24, .ref 25, .ref 26, .ref 27, .ref 28, .ref 29, .ref 30, .ref 31, .ref 32, .ref 33, .ref 34, .ref 35, .ref 36, .ref 37, .int (vf), .int (wh), .int (wy), .ref 38, .ref 39, .ref 40, .ref 41, .int (hg), .ref 42, .ref 43, .ref 44, .ref 45, .ref 46, .ref 47, .ref 48, .ref 49, .int (dp), .ref 50, .ref 51, .ref 52, .int (md), .int (ov), .int (oh), .int (dn), .int (an)]))).set (35) (.inl (0, 48, .inl (fun j => nI ((va_up us (((2) * (((4) * (k)) + (sl))) + (uc (((4) * (k)) + (sl)))) (sp)) j))))).set (36) (.inl (0, 48, .inl (fun j => nI ((va_up ut (((2) * (((4) * (k)) + (sl))) + (uc (((4) * (k)) + (sl)))) (tr)) j))))) (if uc (4 * k + sl) < 2 then .inl (some (.int (nI (uc (4 * k + sl) + 1)))) else .inl (some (.int (nI 0)))) (if uc (4 * k + sl) < 2 then (((((σ.set 22 (.inr (7, MoF (nI 0) vf wh wy hg dp md ov oh dn an))).set 35 (.inl (0, 48, .inl fun j => nI (va_up us (2 * (4 * k + sl) + uc (4 * k + sl)) sp j)))).set 36 (.inl (0, 48, .inl fun j => nI (va_up ut (2 * (4 * k + sl) + uc (4 * k + sl)) tr j)))).set 37 (.inl (0, 48, .inl fun j => nI (va_up uk (2 * (4 * k + sl) + uc (4 * k + sl)) ki j)))).set 34 (.inl (0, 24, .inl fun j => nI (va_up uc (4 * k + sl) (uc (4 * k + sl) + 1) j)))).set 22 (.inr (7, MoF (nI 0) (nI 0) wh wy hg dp md ov oh dn an)) else σ.set 22 (.inr (7, MoF (nI 3) vf wh wy hg dp md ov oh dn an)))
    refine jr_aload_n d_Mo_catcher_133 rfl ?_
    refine jr_getf d_Mo_catcher_134 f_Mo_catcher_53 (jl_sn (by decide) (jl_sn (by decide) (jl_ss hO))) rfl ?_
    refine jr_iload d_Mo_catcher_137 rfl ?_
    refine jr_iload d_Mo_catcher_139 rfl ?_
    refine jr_iastN d_Mo_catcher_141 (jl_sn (by decide) (jl_sn (by decide) (jl_sn (by decide) h37))) (by omega) (by omega) ?_
    rw [show upd (fun j => nI (uk j)) (((2) * (((4) * (k)) + (sl))) + (uc (((4) * (k)) + (sl)))) ((nI (ki))) = (fun j => nI ((va_up uk (((2) * (((4) * (k)) + (sl))) + (uc (((4) * (k)) + (sl)))) (ki)) j)) from nI_up uk (((2) * (((4) * (k)) + (sl))) + (uc (((4) * (k)) + (sl)))) (ki)]
    show jl_W l G m_Mo_catcher (0, 0) 142 [some (.ref 22), some (.int (nI k)), some (.int (nI sl)), some (.int (nI sp)), some (.int (nI tr)), some (.int (nI ki)), some (.int (nI (((4) * (k)) + (sl)))), some (.int (nI (((2) * (((4) * (k)) + (sl))) + (uc (((4) * (k)) + (sl))))))] [] ((((σ.set (22) (.inr (7, [.int (nI 0), .ref 23, .ref 24, .ref 25, .ref 26, .ref 27, .ref 28, .ref 29, .ref 30, .ref 31, .ref 32, .ref 33, .ref 34, .ref 35, .ref 36, .ref 37, .int (vf), .int (wh), .int (wy), .ref 38, .ref 39, .ref 40, .ref 41, .int (hg), .ref 42, .ref 43, .ref 44, .ref 45, .ref 46, .ref 47, .ref 48, .ref 49, .int (dp), .ref 50, .ref 51, .ref 52, .int (md), .int (ov), .int (oh), .int (dn), .int (an)]))).set (35) (.inl (0, 48, .inl (fun j => nI ((va_up us (((2) * (((4) * (k)) + (sl))) + (uc (((4) * (k)) + (sl)))) (sp)) j))))).set (36) (.inl (0, 48, .inl (fun j => nI ((va_up ut (((2) * (((4) * (k)) + (sl))) + (uc (((4) * (k)) + (sl)))) (tr)) j))))).set (37) (.inl (0, 48, .inl (fun j => nI ((va_up uk (((2) * (((4) * (k)) + (sl))) + (uc (((4) * (k)) + (sl)))) (ki)) j))))) (if uc (4 * k + sl) < 2 then .inl (some (.int (nI (uc (4 * k + sl) + 1)))) else .inl (some (.int (nI 0)))) (if uc (4 * k + sl) < 2 then (((((σ.set 22 (.inr (7, MoF (nI 0) vf wh wy hg dp md ov oh dn an))).set 35 (.inl (0, 48, .inl fun j => nI (va_up us (2 * (4 * k + sl) + uc (4 * k + sl)) sp j)))).set 36 (.inl (0, 48, .inl fun j => nI (va_up ut (2 * (4 * k + sl) + uc (4 * k + sl)) tr j)))).set 37 (.inl (0, 48, .inl fun j => nI (va_up uk (2 * (4 * k + sl) + uc (4 * k + sl)) ki j)))).set 34 (.inl (0, 24, .inl fun j => nI (va_up uc (4 * k + sl) (uc (4 * k + sl) + 1) j)))).set 22 (.inr (7, MoF (nI 0) (nI 0) wh wy hg dp md ov oh dn an)) else σ.set 22 (.inr (7, MoF (nI 3) vf wh wy hg dp md ov oh dn an)))
    refine jr_aload_n d_Mo_catcher_142 rfl ?_
    refine jr_getf d_Mo_catcher_143 f_Mo_catcher_44 (jl_sn (by decide) (jl_sn (by decide) (jl_sn (by decide) (jl_ss hO)))) rfl ?_
    refine jr_iload d_Mo_catcher_146 rfl ?_
    refine jr_dup2 d_Mo_catcher_148 rfl rfl ?_
    refine jr_ialdN d_Mo_catcher_149 (jl_sn (by decide) (jl_sn (by decide) (jl_sn (by decide) (jl_sn (by decide) h34)))) (by omega) (by omega) ?_
    refine jr_iconst ((nI (1))) d_Mo_catcher_150 (by decide) ?_
    refine jr_iaddN d_Mo_catcher_151 ?_
    refine jr_iastN d_Mo_catcher_152 (jl_sn (by decide) (jl_sn (by decide) (jl_sn (by decide) (jl_sn (by decide) h34)))) (by omega) (by omega) ?_
    rw [show upd (fun j => nI (uc j)) (((4) * (k)) + (sl)) ((nI ((uc (((4) * (k)) + (sl))) + (1)))) = (fun j => nI ((va_up uc (((4) * (k)) + (sl)) ((uc (((4) * (k)) + (sl))) + (1))) j)) from nI_up uc (((4) * (k)) + (sl)) ((uc (((4) * (k)) + (sl))) + (1))]
    show jl_W l G m_Mo_catcher (0, 0) 153 [some (.ref 22), some (.int (nI k)), some (.int (nI sl)), some (.int (nI sp)), some (.int (nI tr)), some (.int (nI ki)), some (.int (nI (((4) * (k)) + (sl)))), some (.int (nI (((2) * (((4) * (k)) + (sl))) + (uc (((4) * (k)) + (sl))))))] [] (((((σ.set (22) (.inr (7, [.int (nI 0), .ref 23, .ref 24, .ref 25, .ref 26, .ref 27, .ref 28, .ref 29, .ref 30, .ref 31, .ref 32, .ref 33, .ref 34, .ref 35, .ref 36, .ref 37, .int (vf), .int (wh), .int (wy), .ref 38, .ref 39, .ref 40, .ref 41, .int (hg), .ref 42, .ref 43, .ref 44, .ref 45, .ref 46, .ref 47, .ref 48, .ref 49, .int (dp), .ref 50, .ref 51, .ref 52, .int (md), .int (ov), .int (oh), .int (dn), .int (an)]))).set (35) (.inl (0, 48, .inl (fun j => nI ((va_up us (((2) * (((4) * (k)) + (sl))) + (uc (((4) * (k)) + (sl)))) (sp)) j))))).set (36) (.inl (0, 48, .inl (fun j => nI ((va_up ut (((2) * (((4) * (k)) + (sl))) + (uc (((4) * (k)) + (sl)))) (tr)) j))))).set (37) (.inl (0, 48, .inl (fun j => nI ((va_up uk (((2) * (((4) * (k)) + (sl))) + (uc (((4) * (k)) + (sl)))) (ki)) j))))).set (34) (.inl (0, 24, .inl (fun j => nI ((va_up uc (((4) * (k)) + (sl)) ((uc (((4) * (k)) + (sl))) + (1))) j))))) (if uc (4 * k + sl) < 2 then .inl (some (.int (nI (uc (4 * k + sl) + 1)))) else .inl (some (.int (nI 0)))) (if uc (4 * k + sl) < 2 then (((((σ.set 22 (.inr (7, MoF (nI 0) vf wh wy hg dp md ov oh dn an))).set 35 (.inl (0, 48, .inl fun j => nI (va_up us (2 * (4 * k + sl) + uc (4 * k + sl)) sp j)))).set 36 (.inl (0, 48, .inl fun j => nI (va_up ut (2 * (4 * k + sl) + uc (4 * k + sl)) tr j)))).set 37 (.inl (0, 48, .inl fun j => nI (va_up uk (2 * (4 * k + sl) + uc (4 * k + sl)) ki j)))).set 34 (.inl (0, 24, .inl fun j => nI (va_up uc (4 * k + sl) (uc (4 * k + sl) + 1) j)))).set 22 (.inr (7, MoF (nI 0) (nI 0) wh wy hg dp md ov oh dn an)) else σ.set 22 (.inr (7, MoF (nI 3) vf wh wy hg dp md ov oh dn an)))
    refine jr_aload_n d_Mo_catcher_153 rfl ?_
    refine jr_iconst ((nI (0))) d_Mo_catcher_154 (by decide) ?_
    refine jr_putf d_Mo_catcher_155 p_Mo_catcher_122 (jl_sn (by decide) (jl_sn (by decide) (jl_sn (by decide) (jl_sn (by decide) (jl_ss hO))))) (Nat.le_of_ble_eq_true rfl) jl_fit_b0 ?_
    show jl_W l G m_Mo_catcher (0, 0) 158 [some (.ref 22), some (.int (nI k)), some (.int (nI sl)), some (.int (nI sp)), some (.int (nI tr)), some (.int (nI ki)), some (.int (nI (((4) * (k)) + (sl)))), some (.int (nI (((2) * (((4) * (k)) + (sl))) + (uc (((4) * (k)) + (sl))))))] [] ((((((σ.set (22) (.inr (7, [.int (nI 0), .ref 23, .ref 24, .ref 25, .ref 26, .ref 27, .ref 28, .ref 29, .ref 30, .ref 31, .ref 32, .ref 33, .ref 34, .ref 35, .ref 36, .ref 37, .int (vf), .int (wh), .int (wy), .ref 38, .ref 39, .ref 40, .ref 41, .int (hg), .ref 42, .ref 43, .ref 44, .ref 45, .ref 46, .ref 47, .ref 48, .ref 49, .int (dp), .ref 50, .ref 51, .ref 52, .int (md), .int (ov), .int (oh), .int (dn), .int (an)]))).set (35) (.inl (0, 48, .inl (fun j => nI ((va_up us (((2) * (((4) * (k)) + (sl))) + (uc (((4) * (k)) + (sl)))) (sp)) j))))).set (36) (.inl (0, 48, .inl (fun j => nI ((va_up ut (((2) * (((4) * (k)) + (sl))) + (uc (((4) * (k)) + (sl)))) (tr)) j))))).set (37) (.inl (0, 48, .inl (fun j => nI ((va_up uk (((2) * (((4) * (k)) + (sl))) + (uc (((4) * (k)) + (sl)))) (ki)) j))))).set (34) (.inl (0, 24, .inl (fun j => nI ((va_up uc (((4) * (k)) + (sl)) ((uc (((4) * (k)) + (sl))) + (1))) j))))).set (22) (.inr (7, [.int (nI 0), .ref 23, .ref 24, .ref 25, .ref 26, .ref 27, .ref 28, .ref 29, .ref 30, .ref 31, .ref 32, .ref 33, .ref 34, .ref 35, .ref 36, .ref 37, .int (nI 0), .int (wh), .int (wy), .ref 38, .ref 39, .ref 40, .ref 41, .int (hg), .ref 42, .ref 43, .ref 44, .ref 45, .ref 46, .ref 47, .ref 48, .ref 49, .int (dp), .ref 50, .ref 51, .ref 52, .int (md), .int (ov), .int (oh), .int (dn), .int (an)]))) (if uc (4 * k + sl) < 2 then .inl (some (.int (nI (uc (4 * k + sl) + 1)))) else .inl (some (.int (nI 0)))) (if uc (4 * k + sl) < 2 then (((((σ.set 22 (.inr (7, MoF (nI 0) vf wh wy hg dp md ov oh dn an))).set 35 (.inl (0, 48, .inl fun j => nI (va_up us (2 * (4 * k + sl) + uc (4 * k + sl)) sp j)))).set 36 (.inl (0, 48, .inl fun j => nI (va_up ut (2 * (4 * k + sl) + uc (4 * k + sl)) tr j)))).set 37 (.inl (0, 48, .inl fun j => nI (va_up uk (2 * (4 * k + sl) + uc (4 * k + sl)) ki j)))).set 34 (.inl (0, 24, .inl fun j => nI (va_up uc (4 * k + sl) (uc (4 * k + sl) + 1) j)))).set 22 (.inr (7, MoF (nI 0) (nI 0) wh wy hg dp md ov oh dn an)) else σ.set 22 (.inr (7, MoF (nI 3) vf wh wy hg dp md ov oh dn an)))
    refine jr_aload_n d_Mo_catcher_158 rfl ?_
    refine jr_getf d_Mo_catcher_159 f_Mo_catcher_44 (jl_ss (jl_sn (by decide) (jl_sn (by decide) (jl_sn (by decide) (jl_sn (by decide) (jl_ss hO)))))) rfl ?_
    refine jr_iload d_Mo_catcher_162 rfl ?_
    refine jr_ialdN d_Mo_catcher_164 (jl_sn (by decide) (jl_ss (jl_sn (by decide) (jl_sn (by decide) (jl_sn (by decide) (jl_sn (by decide) h34)))))) (by omega) (by omega) ?_
    exact jr_iretE d_Mo_catcher_165 rfl (by rw [if_pos (show uc (4 * k + sl) < 2 by omega), hvu]) (by rw [if_pos (show uc (4 * k + sl) < 2 by omega)]) (by decide) (by decide)
  · refine jr_aload_n d_Mo_catcher_96 rfl ?_
    refine jr_iconst ((nI (3))) d_Mo_catcher_97 (by decide) ?_
    refine jr_callV (As := [.int (nI 3)]) d_Mo_catcher_98 k_Mo_catcher_118 (jl_ss hO) rfl rfl rfl (Nat.le_of_ble_eq_true rfl) (by decide) (by decide) (mo_fail hl (jl_ss hO) (MoW.sx hw (Or.inl (by decide)))) ?_
    show jl_W l G m_Mo_catcher (0, 0) 101 [some (.ref 22), some (.int (nI k)), some (.int (nI sl)), some (.int (nI sp)), some (.int (nI tr)), some (.int (nI ki)), some (.int (nI (((4) * (k)) + (sl)))), none] [.int (nI 0)] ((σ.set (22) (.inr (7, [.int (nI 0), .ref 23, .ref 24, .ref 25, .ref 26, .ref 27, .ref 28, .ref 29, .ref 30, .ref 31, .ref 32, .ref 33, .ref 34, .ref 35, .ref 36, .ref 37, .int (vf), .int (wh), .int (wy), .ref 38, .ref 39, .ref 40, .ref 41, .int (hg), .ref 42, .ref 43, .ref 44, .ref 45, .ref 46, .ref 47, .ref 48, .ref 49, .int (dp), .ref 50, .ref 51, .ref 52, .int (md), .int (ov), .int (oh), .int (dn), .int (an)]))).set (22) (.inr (7, [.int (nI 3), .ref 23, .ref 24, .ref 25, .ref 26, .ref 27, .ref 28, .ref 29, .ref 30, .ref 31, .ref 32, .ref 33, .ref 34, .ref 35, .ref 36, .ref 37, .int (vf), .int (wh), .int (wy), .ref 38, .ref 39, .ref 40, .ref 41, .int (hg), .ref 42, .ref 43, .ref 44, .ref 45, .ref 46, .ref 47, .ref 48, .ref 49, .int (dp), .ref 50, .ref 51, .ref 52, .int (md), .int (ov), .int (oh), .int (dn), .int (an)]))) (if uc (4 * k + sl) < 2 then .inl (some (.int (nI (uc (4 * k + sl) + 1)))) else .inl (some (.int (nI 0)))) (if uc (4 * k + sl) < 2 then (((((σ.set 22 (.inr (7, MoF (nI 0) vf wh wy hg dp md ov oh dn an))).set 35 (.inl (0, 48, .inl fun j => nI (va_up us (2 * (4 * k + sl) + uc (4 * k + sl)) sp j)))).set 36 (.inl (0, 48, .inl fun j => nI (va_up ut (2 * (4 * k + sl) + uc (4 * k + sl)) tr j)))).set 37 (.inl (0, 48, .inl fun j => nI (va_up uk (2 * (4 * k + sl) + uc (4 * k + sl)) ki j)))).set 34 (.inl (0, 24, .inl fun j => nI (va_up uc (4 * k + sl) (uc (4 * k + sl) + 1) j)))).set 22 (.inr (7, MoF (nI 0) (nI 0) wh wy hg dp md ov oh dn an)) else σ.set 22 (.inr (7, MoF (nI 3) vf wh wy hg dp md ov oh dn an)))
    exact jr_iretE d_Mo_catcher_101 rfl (by rw [if_neg (show ¬ uc (4 * k + sl) < 2 by omega)]) (by rw [if_neg (show ¬ uc (4 * k + sl) < 2 by omega)]; exact (List.set_set ..).symm) (by decide) (by decide)
end JMt
