/-! fault, outcome, heap, map: model (wip/gen/p48.py) -/
section JRm
variable {l : Launch} {G : jl_G} {σ : jl_S} {tb : Nat → Bool} {pr : Nat → Option Nat} {ow fi ft : Nat → Nat} {hs : Nat → Bool} {fa vf wh wy hg dp md ov oh dn an : Int32} {u1 u2 : Nat → Option Nat} {ur ul uo : Nat → Nat} {ua : Nat → Int32} {uc us ut uk : Nat → Nat} {m : Nat} {ks : Nat → Int32} {kc : Nat → Nat} {kv mm : Nat → Int32}
theorem d_Mo_fault_0 : decode m_Mo_fault.2.1 0 = .ok (.aload_n 0, 1) := by decide +kernel
theorem d_Mo_fault_1 : decode m_Mo_fault.2.1 1 = .ok (.iconst 0, 1) := by decide +kernel
theorem p_Mo_fault_111 : jl_fp m_Mo_fault 111 7 0 = true := by decide +kernel
theorem d_Mo_fault_2 : decode m_Mo_fault.2.1 2 = .ok (.putfield 111, 3) := by decide +kernel
theorem d_Mo_fault_5 : decode m_Mo_fault.2.1 5 = .ok (.iload_n 1, 1) := by decide +kernel
theorem d_Mo_fault_6 : decode m_Mo_fault.2.1 6 = .ok (.ifCond .eq 10, 3) := by decide +kernel
theorem d_Mo_fault_16 : decode m_Mo_fault.2.1 16 = .ok (.aload_n 0, 1) := by decide +kernel
theorem f_Mo_fault_56 : jl_fd m_Mo_fault 56 7 17 = true := by decide +kernel
theorem d_Mo_fault_17 : decode m_Mo_fault.2.1 17 = .ok (.getfield 56, 3) := by decide +kernel
theorem d_Mo_fault_20 : decode m_Mo_fault.2.1 20 = .ok (.ireturn, 1) := by decide +kernel
theorem d_Mo_fault_9 : decode m_Mo_fault.2.1 9 = .ok (.aload_n 0, 1) := by decide +kernel
theorem f_Mo_fault_60 : jl_fd m_Mo_fault 60 7 18 = true := by decide +kernel
theorem d_Mo_fault_10 : decode m_Mo_fault.2.1 10 = .ok (.getfield 60, 3) := by decide +kernel
theorem d_Mo_fault_13 : decode m_Mo_fault.2.1 13 = .ok (.goto 7, 3) := by decide +kernel
theorem mo_fault (hl : l.stackTraces = false) {b : Int32} (hO : MoO σ fa vf wh wy hg dp md ov oh dn an) (hw : MoW σ tb pr ow ft hs)  : jl_m l G m_Mo_fault [.ref 22, .int (b)] σ (.inl (some (.int (if b = 0 then wh else wy)))) (σ.set 22 (.inr (7, MoF (nI 0) vf wh wy hg dp md ov oh dn an))) := by
  obtain ⟨h23, h24, h25, h26, h27⟩ := id hw
  refine jl_of (as := [.ref 22, .int (b)]) rfl (by decide) hl (jl_cc rfl (jl_cc rfl jl_ca)) (Nat.le_of_ble_eq_true rfl) ?_
  show jl_W l G m_Mo_fault (0, 0) 0 [some (.ref 22), some (.int (b))] [] (σ) (.inl (some (.int (if b = 0 then wh else wy)))) (σ.set 22 (.inr (7, MoF (nI 0) vf wh wy hg dp md ov oh dn an)))
  refine jr_aload_n d_Mo_fault_0 rfl ?_
  refine jr_iconst ((nI (0))) d_Mo_fault_1 (by decide) ?_
  refine jr_putf d_Mo_fault_2 p_Mo_fault_111 hO (Nat.le_of_ble_eq_true rfl) jl_fit_int ?_
  show jl_W l G m_Mo_fault (0, 0) 5 [some (.ref 22), some (.int (b))] [] (σ.set (22) (.inr (7, [.int (nI 0), .ref 23, .ref 24, .ref 25, .ref 26, .ref 27, .ref 28, .ref 29, .ref 30, .ref 31, .ref 32, .ref 33, .ref 34, .ref 35, .ref 36, .ref 37, .int (vf), .int (wh), .int (wy), .ref 38, .ref 39, .ref 40, .ref 41, .int (hg), .ref 42, .ref 43, .ref 44, .ref 45, .ref 46, .ref 47, .ref 48, .ref 49, .int (dp), .ref 50, .ref 51, .ref 52, .int (md), .int (ov), .int (oh), .int (dn), .int (an)]))) (.inl (some (.int (if b = 0 then wh else wy)))) (σ.set 22 (.inr (7, MoF (nI 0) vf wh wy hg dp md ov oh dn an)))
  refine jr_iload_n d_Mo_fault_5 rfl ?_
  refine jr_if_eq 16 d_Mo_fault_6 (by decide) (fun c1 => ?_) (fun c1 => ?_)
  · refine jr_aload_n d_Mo_fault_16 rfl ?_
    refine jr_getf d_Mo_fault_17 f_Mo_fault_56 (jl_ss hO) rfl ?_
    exact jr_iretE d_Mo_fault_20 rfl (by rw [if_pos c1]) (rfl) (by decide) (by decide)
  · refine jr_aload_n d_Mo_fault_9 rfl ?_
    refine jr_getf d_Mo_fault_10 f_Mo_fault_60 (jl_ss hO) rfl ?_
    refine jr_goto 20 d_Mo_fault_13 (by decide) ?_
    exact jr_iretE d_Mo_fault_20 rfl (by rw [if_neg c1]) (rfl) (by decide) (by decide)
theorem d_Mo_outcome_0 : decode m_Mo_outcome.2.1 0 = .ok (.aload_n 0, 1) := by decide +kernel
theorem d_Mo_outcome_1 : decode m_Mo_outcome.2.1 1 = .ok (.iconst 0, 1) := by decide +kernel
theorem p_Mo_outcome_111 : jl_fp m_Mo_outcome 111 7 0 = true := by decide +kernel
theorem d_Mo_outcome_2 : decode m_Mo_outcome.2.1 2 = .ok (.putfield 111, 3) := by decide +kernel
theorem d_Mo_outcome_5 : decode m_Mo_outcome.2.1 5 = .ok (.iload_n 1, 1) := by decide +kernel
theorem d_Mo_outcome_6 : decode m_Mo_outcome.2.1 6 = .ok (.tableswitch 50 0 3 #[30, 35, 40, 45], 30) := by decide +kernel
theorem d_Mo_outcome_36 : decode m_Mo_outcome.2.1 36 = .ok (.aload_n 0, 1) := by decide +kernel
theorem f_Mo_outcome_108 : jl_fd m_Mo_outcome 108 7 37 = true := by decide +kernel
theorem d_Mo_outcome_37 : decode m_Mo_outcome.2.1 37 = .ok (.getfield 108, 3) := by decide +kernel
theorem d_Mo_outcome_40 : decode m_Mo_outcome.2.1 40 = .ok (.ireturn, 1) := by decide +kernel
theorem mo_outc_0 (hl : l.stackTraces = false)  (hO : MoO σ fa vf wh wy hg dp md ov oh dn an) (hw : MoW σ tb pr ow ft hs)  : jl_m l G m_Mo_outcome [.ref 22, .int (nI 0)] σ (.inl (some (.int (ov)))) (σ.set 22 (.inr (7, MoF (nI 0) vf wh wy hg dp md ov oh dn an))) := by
  obtain ⟨h23, h24, h25, h26, h27⟩ := id hw
  refine jl_of (as := [.ref 22, .int (nI 0)]) rfl (by decide) hl (jl_cc rfl (jl_cc rfl jl_ca)) (Nat.le_of_ble_eq_true rfl) ?_
  show jl_W l G m_Mo_outcome (0, 0) 0 [some (.ref 22), some (.int (nI 0))] [] (σ) (.inl (some (.int (ov)))) (σ.set 22 (.inr (7, MoF (nI 0) vf wh wy hg dp md ov oh dn an)))
  refine jr_aload_n d_Mo_outcome_0 rfl ?_
  refine jr_iconst ((nI (0))) d_Mo_outcome_1 (by decide) ?_
  refine jr_putf d_Mo_outcome_2 p_Mo_outcome_111 hO (Nat.le_of_ble_eq_true rfl) jl_fit_int ?_
  show jl_W l G m_Mo_outcome (0, 0) 5 [some (.ref 22), some (.int (nI 0))] [] (σ.set (22) (.inr (7, [.int (nI 0), .ref 23, .ref 24, .ref 25, .ref 26, .ref 27, .ref 28, .ref 29, .ref 30, .ref 31, .ref 32, .ref 33, .ref 34, .ref 35, .ref 36, .ref 37, .int (vf), .int (wh), .int (wy), .ref 38, .ref 39, .ref 40, .ref 41, .int (hg), .ref 42, .ref 43, .ref 44, .ref 45, .ref 46, .ref 47, .ref 48, .ref 49, .int (dp), .ref 50, .ref 51, .ref 52, .int (md), .int (ov), .int (oh), .int (dn), .int (an)]))) (.inl (some (.int (ov)))) (σ.set 22 (.inr (7, MoF (nI 0) vf wh wy hg dp md ov oh dn an)))
  refine jr_iload_n d_Mo_outcome_5 rfl ?_
  refine jr_tableIn (off := 30) 36 d_Mo_outcome_6 (by decide +kernel) (by decide +kernel) (by decide +kernel) (by decide) ?_
  refine jr_aload_n d_Mo_outcome_36 rfl ?_
  refine jr_getf d_Mo_outcome_37 f_Mo_outcome_108 (jl_ss hO) rfl ?_
  exact jr_iretE d_Mo_outcome_40 rfl (rfl) (rfl) (by decide) (by decide)
theorem d_Mo_outcome_41 : decode m_Mo_outcome.2.1 41 = .ok (.aload_n 0, 1) := by decide +kernel
theorem f_Mo_outcome_221 : jl_fd m_Mo_outcome 221 7 38 = true := by decide +kernel
theorem d_Mo_outcome_42 : decode m_Mo_outcome.2.1 42 = .ok (.getfield 221, 3) := by decide +kernel
theorem d_Mo_outcome_45 : decode m_Mo_outcome.2.1 45 = .ok (.ireturn, 1) := by decide +kernel
theorem mo_outc_1 (hl : l.stackTraces = false)  (hO : MoO σ fa vf wh wy hg dp md ov oh dn an) (hw : MoW σ tb pr ow ft hs)  : jl_m l G m_Mo_outcome [.ref 22, .int (nI 1)] σ (.inl (some (.int (oh)))) (σ.set 22 (.inr (7, MoF (nI 0) vf wh wy hg dp md ov oh dn an))) := by
  obtain ⟨h23, h24, h25, h26, h27⟩ := id hw
  refine jl_of (as := [.ref 22, .int (nI 1)]) rfl (by decide) hl (jl_cc rfl (jl_cc rfl jl_ca)) (Nat.le_of_ble_eq_true rfl) ?_
  show jl_W l G m_Mo_outcome (0, 0) 0 [some (.ref 22), some (.int (nI 1))] [] (σ) (.inl (some (.int (oh)))) (σ.set 22 (.inr (7, MoF (nI 0) vf wh wy hg dp md ov oh dn an)))
  refine jr_aload_n d_Mo_outcome_0 rfl ?_
  refine jr_iconst ((nI (0))) d_Mo_outcome_1 (by decide) ?_
  refine jr_putf d_Mo_outcome_2 p_Mo_outcome_111 hO (Nat.le_of_ble_eq_true rfl) jl_fit_int ?_
  show jl_W l G m_Mo_outcome (0, 0) 5 [some (.ref 22), some (.int (nI 1))] [] (σ.set (22) (.inr (7, [.int (nI 0), .ref 23, .ref 24, .ref 25, .ref 26, .ref 27, .ref 28, .ref 29, .ref 30, .ref 31, .ref 32, .ref 33, .ref 34, .ref 35, .ref 36, .ref 37, .int (vf), .int (wh), .int (wy), .ref 38, .ref 39, .ref 40, .ref 41, .int (hg), .ref 42, .ref 43, .ref 44, .ref 45, .ref 46, .ref 47, .ref 48, .ref 49, .int (dp), .ref 50, .ref 51, .ref 52, .int (md), .int (ov), .int (oh), .int (dn), .int (an)]))) (.inl (some (.int (oh)))) (σ.set 22 (.inr (7, MoF (nI 0) vf wh wy hg dp md ov oh dn an)))
  refine jr_iload_n d_Mo_outcome_5 rfl ?_
  refine jr_tableIn (off := 35) 41 d_Mo_outcome_6 (by decide +kernel) (by decide +kernel) (by decide +kernel) (by decide) ?_
  refine jr_aload_n d_Mo_outcome_41 rfl ?_
  refine jr_getf d_Mo_outcome_42 f_Mo_outcome_221 (jl_ss hO) rfl ?_
  exact jr_iretE d_Mo_outcome_45 rfl (rfl) (rfl) (by decide) (by decide)
theorem d_Mo_outcome_46 : decode m_Mo_outcome.2.1 46 = .ok (.aload_n 0, 1) := by decide +kernel
theorem f_Mo_outcome_270 : jl_fd m_Mo_outcome 270 7 39 = true := by decide +kernel
theorem d_Mo_outcome_47 : decode m_Mo_outcome.2.1 47 = .ok (.getfield 270, 3) := by decide +kernel
theorem d_Mo_outcome_50 : decode m_Mo_outcome.2.1 50 = .ok (.ireturn, 1) := by decide +kernel
theorem mo_outc_2 (hl : l.stackTraces = false)  (hO : MoO σ fa vf wh wy hg dp md ov oh dn an) (hw : MoW σ tb pr ow ft hs)  : jl_m l G m_Mo_outcome [.ref 22, .int (nI 2)] σ (.inl (some (.int (dn)))) (σ.set 22 (.inr (7, MoF (nI 0) vf wh wy hg dp md ov oh dn an))) := by
  obtain ⟨h23, h24, h25, h26, h27⟩ := id hw
  refine jl_of (as := [.ref 22, .int (nI 2)]) rfl (by decide) hl (jl_cc rfl (jl_cc rfl jl_ca)) (Nat.le_of_ble_eq_true rfl) ?_
  show jl_W l G m_Mo_outcome (0, 0) 0 [some (.ref 22), some (.int (nI 2))] [] (σ) (.inl (some (.int (dn)))) (σ.set 22 (.inr (7, MoF (nI 0) vf wh wy hg dp md ov oh dn an)))
  refine jr_aload_n d_Mo_outcome_0 rfl ?_
  refine jr_iconst ((nI (0))) d_Mo_outcome_1 (by decide) ?_
  refine jr_putf d_Mo_outcome_2 p_Mo_outcome_111 hO (Nat.le_of_ble_eq_true rfl) jl_fit_int ?_
  show jl_W l G m_Mo_outcome (0, 0) 5 [some (.ref 22), some (.int (nI 2))] [] (σ.set (22) (.inr (7, [.int (nI 0), .ref 23, .ref 24, .ref 25, .ref 26, .ref 27, .ref 28, .ref 29, .ref 30, .ref 31, .ref 32, .ref 33, .ref 34, .ref 35, .ref 36, .ref 37, .int (vf), .int (wh), .int (wy), .ref 38, .ref 39, .ref 40, .ref 41, .int (hg), .ref 42, .ref 43, .ref 44, .ref 45, .ref 46, .ref 47, .ref 48, .ref 49, .int (dp), .ref 50, .ref 51, .ref 52, .int (md), .int (ov), .int (oh), .int (dn), .int (an)]))) (.inl (some (.int (dn)))) (σ.set 22 (.inr (7, MoF (nI 0) vf wh wy hg dp md ov oh dn an)))
  refine jr_iload_n d_Mo_outcome_5 rfl ?_
  refine jr_tableIn (off := 40) 46 d_Mo_outcome_6 (by decide +kernel) (by decide +kernel) (by decide +kernel) (by decide) ?_
  refine jr_aload_n d_Mo_outcome_46 rfl ?_
  refine jr_getf d_Mo_outcome_47 f_Mo_outcome_270 (jl_ss hO) rfl ?_
  exact jr_iretE d_Mo_outcome_50 rfl (rfl) (rfl) (by decide) (by decide)
theorem d_Mo_outcome_51 : decode m_Mo_outcome.2.1 51 = .ok (.aload_n 0, 1) := by decide +kernel
theorem f_Mo_outcome_227 : jl_fd m_Mo_outcome 227 7 36 = true := by decide +kernel
theorem d_Mo_outcome_52 : decode m_Mo_outcome.2.1 52 = .ok (.getfield 227, 3) := by decide +kernel
theorem d_Mo_outcome_55 : decode m_Mo_outcome.2.1 55 = .ok (.ireturn, 1) := by decide +kernel
theorem mo_outc_3 (hl : l.stackTraces = false)  (hO : MoO σ fa vf wh wy hg dp md ov oh dn an) (hw : MoW σ tb pr ow ft hs)  : jl_m l G m_Mo_outcome [.ref 22, .int (nI 3)] σ (.inl (some (.int (md)))) (σ.set 22 (.inr (7, MoF (nI 0) vf wh wy hg dp md ov oh dn an))) := by
  obtain ⟨h23, h24, h25, h26, h27⟩ := id hw
  refine jl_of (as := [.ref 22, .int (nI 3)]) rfl (by decide) hl (jl_cc rfl (jl_cc rfl jl_ca)) (Nat.le_of_ble_eq_true rfl) ?_
  show jl_W l G m_Mo_outcome (0, 0) 0 [some (.ref 22), some (.int (nI 3))] [] (σ) (.inl (some (.int (md)))) (σ.set 22 (.inr (7, MoF (nI 0) vf wh wy hg dp md ov oh dn an)))
  refine jr_aload_n d_Mo_outcome_0 rfl ?_
  refine jr_iconst ((nI (0))) d_Mo_outcome_1 (by decide) ?_
  refine jr_putf d_Mo_outcome_2 p_Mo_outcome_111 hO (Nat.le_of_ble_eq_true rfl) jl_fit_int ?_
  show jl_W l G m_Mo_outcome (0, 0) 5 [some (.ref 22), some (.int (nI 3))] [] (σ.set (22) (.inr (7, [.int (nI 0), .ref 23, .ref 24, .ref 25, .ref 26, .ref 27, .ref 28, .ref 29, .ref 30, .ref 31, .ref 32, .ref 33, .ref 34, .ref 35, .ref 36, .ref 37, .int (vf), .int (wh), .int (wy), .ref 38, .ref 39, .ref 40, .ref 41, .int (hg), .ref 42, .ref 43, .ref 44, .ref 45, .ref 46, .ref 47, .ref 48, .ref 49, .int (dp), .ref 50, .ref 51, .ref 52, .int (md), .int (ov), .int (oh), .int (dn), .int (an)]))) (.inl (some (.int (md)))) (σ.set 22 (.inr (7, MoF (nI 0) vf wh wy hg dp md ov oh dn an)))
  refine jr_iload_n d_Mo_outcome_5 rfl ?_
  refine jr_tableIn (off := 45) 51 d_Mo_outcome_6 (by decide +kernel) (by decide +kernel) (by decide +kernel) (by decide) ?_
  refine jr_aload_n d_Mo_outcome_51 rfl ?_
  refine jr_getf d_Mo_outcome_52 f_Mo_outcome_227 (jl_ss hO) rfl ?_
  exact jr_iretE d_Mo_outcome_55 rfl (rfl) (rfl) (by decide) (by decide)
theorem d_Mo_outcome_56 : decode m_Mo_outcome.2.1 56 = .ok (.aload_n 0, 1) := by decide +kernel
theorem d_Mo_outcome_57 : decode m_Mo_outcome.2.1 57 = .ok (.iconst 1, 1) := by decide +kernel
theorem k_Mo_outcome_118 : jl_cv m_Mo_outcome m_Mo_fail 118 1 = true := by decide +kernel
theorem d_Mo_outcome_58 : decode m_Mo_outcome.2.1 58 = .ok (.invokevirtual 118, 3) := by decide +kernel
theorem d_Mo_outcome_61 : decode m_Mo_outcome.2.1 61 = .ok (.ireturn, 1) := by decide +kernel
theorem mo_outc_A (hl : l.stackTraces = false) {w : Int32} (hO : MoO σ fa vf wh wy hg dp md ov oh dn an) (hw : MoW σ tb pr ow ft hs) (h : w.toInt < 0 ∨ 3 < w.toInt) : jl_m l G m_Mo_outcome [.ref 22, .int (w)] σ (.inl (some (.int (nI 0)))) (σ.set 22 (.inr (7, MoF (nI 1) vf wh wy hg dp md ov oh dn an))) := by
  obtain ⟨h23, h24, h25, h26, h27⟩ := id hw
  refine jl_of (as := [.ref 22, .int (w)]) rfl (by decide) hl (jl_cc rfl (jl_cc rfl jl_ca)) (Nat.le_of_ble_eq_true rfl) ?_
  show jl_W l G m_Mo_outcome (0, 0) 0 [some (.ref 22), some (.int (w))] [] (σ) (.inl (some (.int (nI 0)))) (σ.set 22 (.inr (7, MoF (nI 1) vf wh wy hg dp md ov oh dn an)))
  refine jr_aload_n d_Mo_outcome_0 rfl ?_
  refine jr_iconst ((nI (0))) d_Mo_outcome_1 (by decide) ?_
  refine jr_putf d_Mo_outcome_2 p_Mo_outcome_111 hO (Nat.le_of_ble_eq_true rfl) jl_fit_int ?_
  show jl_W l G m_Mo_outcome (0, 0) 5 [some (.ref 22), some (.int (w))] [] (σ.set (22) (.inr (7, [.int (nI 0), .ref 23, .ref 24, .ref 25, .ref 26, .ref 27, .ref 28, .ref 29, .ref 30, .ref 31, .ref 32, .ref 33, .ref 34, .ref 35, .ref 36, .ref 37, .int (vf), .int (wh), .int (wy), .ref 38, .ref 39, .ref 40, .ref 41, .int (hg), .ref 42, .ref 43, .ref 44, .ref 45, .ref 46, .ref 47, .ref 48, .ref 49, .int (dp), .ref 50, .ref 51, .ref 52, .int (md), .int (ov), .int (oh), .int (dn), .int (an)]))) (.inl (some (.int (nI 0)))) (σ.set 22 (.inr (7, MoF (nI 1) vf wh wy hg dp md ov oh dn an)))
  refine jr_iload_n d_Mo_outcome_5 rfl ?_
  refine jr_tableOut 56 d_Mo_outcome_6 h (by decide) ?_
  refine jr_aload_n d_Mo_outcome_56 rfl ?_
  refine jr_iconst ((nI (1))) d_Mo_outcome_57 (by decide) ?_
  refine jr_callV (As := [.int (nI 1)]) d_Mo_outcome_58 k_Mo_outcome_118 (jl_ss hO) rfl rfl rfl (Nat.le_of_ble_eq_true rfl) (by decide) (by decide) (mo_fail hl (jl_ss hO) (MoW.sx hw (Or.inl (by decide)))) ?_
  show jl_W l G m_Mo_outcome (0, 0) 61 [some (.ref 22), some (.int (w))] [.int (nI 0)] ((σ.set (22) (.inr (7, [.int (nI 0), .ref 23, .ref 24, .ref 25, .ref 26, .ref 27, .ref 28, .ref 29, .ref 30, .ref 31, .ref 32, .ref 33, .ref 34, .ref 35, .ref 36, .ref 37, .int (vf), .int (wh), .int (wy), .ref 38, .ref 39, .ref 40, .ref 41, .int (hg), .ref 42, .ref 43, .ref 44, .ref 45, .ref 46, .ref 47, .ref 48, .ref 49, .int (dp), .ref 50, .ref 51, .ref 52, .int (md), .int (ov), .int (oh), .int (dn), .int (an)]))).set (22) (.inr (7, [.int (nI 1), .ref 23, .ref 24, .ref 25, .ref 26, .ref 27, .ref 28, .ref 29, .ref 30, .ref 31, .ref 32, .ref 33, .ref 34, .ref 35, .ref 36, .ref 37, .int (vf), .int (wh), .int (wy), .ref 38, .ref 39, .ref 40, .ref 41, .int (hg), .ref 42, .ref 43, .ref 44, .ref 45, .ref 46, .ref 47, .ref 48, .ref 49, .int (dp), .ref 50, .ref 51, .ref 52, .int (md), .int (ov), .int (oh), .int (dn), .int (an)]))) (.inl (some (.int (nI 0)))) (σ.set 22 (.inr (7, MoF (nI 1) vf wh wy hg dp md ov oh dn an)))
  exact jr_iretE d_Mo_outcome_61 rfl (rfl) ((List.set_set ..).symm) (by decide) (by decide)
theorem d_Mo_map_0 : decode m_Mo_map.2.1 0 = .ok (.aload_n 0, 1) := by decide +kernel
theorem d_Mo_map_1 : decode m_Mo_map.2.1 1 = .ok (.iconst 0, 1) := by decide +kernel
theorem p_Mo_map_111 : jl_fp m_Mo_map 111 7 0 = true := by decide +kernel
theorem d_Mo_map_2 : decode m_Mo_map.2.1 2 = .ok (.putfield 111, 3) := by decide +kernel
theorem d_Mo_map_5 : decode m_Mo_map.2.1 5 = .ok (.aload_n 0, 1) := by decide +kernel
theorem d_Mo_map_6 : decode m_Mo_map.2.1 6 = .ok (.iload_n 1, 1) := by decide +kernel
theorem d_Mo_map_7 : decode m_Mo_map.2.1 7 = .ok (.bipush 6, 2) := by decide +kernel
theorem k_Mo_map_114 : jl_cv m_Mo_map m_Mo_out 114 2 = true := by decide +kernel
theorem d_Mo_map_9 : decode m_Mo_map.2.1 9 = .ok (.invokevirtual 114, 3) := by decide +kernel
theorem d_Mo_map_12 : decode m_Mo_map.2.1 12 = .ok (.ifCond .ne 33, 3) := by decide +kernel
theorem d_Mo_map_45 : decode m_Mo_map.2.1 45 = .ok (.aload_n 0, 1) := by decide +kernel
theorem d_Mo_map_46 : decode m_Mo_map.2.1 46 = .ok (.iconst 1, 1) := by decide +kernel
theorem k_Mo_map_118 : jl_cv m_Mo_map m_Mo_fail 118 1 = true := by decide +kernel
theorem d_Mo_map_47 : decode m_Mo_map.2.1 47 = .ok (.invokevirtual 118, 3) := by decide +kernel
theorem d_Mo_map_50 : decode m_Mo_map.2.1 50 = .ok (.ireturn, 1) := by decide +kernel
theorem d_Mo_map_15 : decode m_Mo_map.2.1 15 = .ok (.aload_n 0, 1) := by decide +kernel
theorem d_Mo_map_16 : decode m_Mo_map.2.1 16 = .ok (.iload_n 2, 1) := by decide +kernel
theorem d_Mo_map_17 : decode m_Mo_map.2.1 17 = .ok (.iconst 4, 1) := by decide +kernel
theorem d_Mo_map_18 : decode m_Mo_map.2.1 18 = .ok (.invokevirtual 114, 3) := by decide +kernel
theorem d_Mo_map_21 : decode m_Mo_map.2.1 21 = .ok (.ifCond .ne 24, 3) := by decide +kernel
theorem d_Mo_map_24 : decode m_Mo_map.2.1 24 = .ok (.aload_n 0, 1) := by decide +kernel
theorem d_Mo_map_25 : decode m_Mo_map.2.1 25 = .ok (.iload_n 3, 1) := by decide +kernel
theorem d_Mo_map_26 : decode m_Mo_map.2.1 26 = .ok (.bipush 24, 2) := by decide +kernel
theorem d_Mo_map_28 : decode m_Mo_map.2.1 28 = .ok (.invokevirtual 114, 3) := by decide +kernel
theorem d_Mo_map_31 : decode m_Mo_map.2.1 31 = .ok (.ifCond .ne 14, 3) := by decide +kernel
theorem d_Mo_map_34 : decode m_Mo_map.2.1 34 = .ok (.aload_n 0, 1) := by decide +kernel
theorem d_Mo_map_35 : decode m_Mo_map.2.1 35 = .ok (.iload 4, 2) := by decide +kernel
theorem d_Mo_map_37 : decode m_Mo_map.2.1 37 = .ok (.bipush 12, 2) := by decide +kernel
theorem d_Mo_map_39 : decode m_Mo_map.2.1 39 = .ok (.invokevirtual 114, 3) := by decide +kernel
theorem d_Mo_map_42 : decode m_Mo_map.2.1 42 = .ok (.ifCond .eq 9, 3) := by decide +kernel
theorem mo_map_A (hl : l.stackTraces = false) {k sl pc i : Int32} (hO : MoO σ fa vf wh wy hg dp md ov oh dn an) (hw : MoW σ tb pr ow ft hs) (h : outB k (nI 6) = true ∨ outB sl (nI 4) = true ∨ outB pc (nI 24) = true ∨ outB i (nI 12) = true) : jl_m l G m_Mo_map [.ref 22, .int (k), .int (sl), .int (pc), .int (i)] σ (.inl (some (.int (nI 0)))) (σ.set 22 (.inr (7, MoF (nI 1) vf wh wy hg dp md ov oh dn an))) := by
  obtain ⟨h23, h24, h25, h26, h27⟩ := id hw
  refine jl_of (as := [.ref 22, .int (k), .int (sl), .int (pc), .int (i)]) rfl (by decide) hl (jl_cc rfl (jl_cc rfl (jl_cc rfl (jl_cc rfl (jl_cc rfl jl_ca))))) (Nat.le_of_ble_eq_true rfl) ?_
  show jl_W l G m_Mo_map (0, 0) 0 [some (.ref 22), some (.int (k)), some (.int (sl)), some (.int (pc)), some (.int (i)), none] [] (σ) (.inl (some (.int (nI 0)))) (σ.set 22 (.inr (7, MoF (nI 1) vf wh wy hg dp md ov oh dn an)))
  refine jr_aload_n d_Mo_map_0 rfl ?_
  refine jr_iconst ((nI (0))) d_Mo_map_1 (by decide) ?_
  refine jr_putf d_Mo_map_2 p_Mo_map_111 hO (Nat.le_of_ble_eq_true rfl) jl_fit_int ?_
  show jl_W l G m_Mo_map (0, 0) 5 [some (.ref 22), some (.int (k)), some (.int (sl)), some (.int (pc)), some (.int (i)), none] [] (σ.set (22) (.inr (7, [.int (nI 0), .ref 23, .ref 24, .ref 25, .ref 26, .ref 27, .ref 28, .ref 29, .ref 30, .ref 31, .ref 32, .ref 33, .ref 34, .ref 35, .ref 36, .ref 37, .int (vf), .int (wh), .int (wy), .ref 38, .ref 39, .ref 40, .ref 41, .int (hg), .ref 42, .ref 43, .ref 44, .ref 45, .ref 46, .ref 47, .ref 48, .ref 49, .int (dp), .ref 50, .ref 51, .ref 52, .int (md), .int (ov), .int (oh), .int (dn), .int (an)]))) (.inl (some (.int (nI 0)))) (σ.set 22 (.inr (7, MoF (nI 1) vf wh wy hg dp md ov oh dn an)))
  refine jr_aload_n d_Mo_map_5 rfl ?_
  refine jr_iload_n d_Mo_map_6 rfl ?_
  refine jr_bipush ((nI (6))) d_Mo_map_7 (by decide) ?_
  refine jr_callV (As := [.int (k), .int (nI 6)]) d_Mo_map_9 k_Mo_map_114 (jl_ss hO) rfl rfl rfl (Nat.le_of_ble_eq_true rfl) (by decide) (by decide) (mo_out hl (jl_ss hO) (MoW.sx hw (Or.inl (by decide)))) ?_
  show jl_W l G m_Mo_map (0, 0) 12 [some (.ref 22), some (.int (k)), some (.int (sl)), some (.int (pc)), some (.int (i)), none] [.int (bi (outB (k) (nI 6)))] (σ.set (22) (.inr (7, [.int (nI 0), .ref 23, .ref 24, .ref 25, .ref 26, .ref 27, .ref 28, .ref 29, .ref 30, .ref 31, .ref 32, .ref 33, .ref 34, .ref 35, .ref 36, .ref 37, .int (vf), .int (wh), .int (wy), .ref 38, .ref 39, .ref 40, .ref 41, .int (hg), .ref 42, .ref 43, .ref 44, .ref 45, .ref 46, .ref 47, .ref 48, .ref 49, .int (dp), .ref 50, .ref 51, .ref 52, .int (md), .int (ov), .int (oh), .int (dn), .int (an)]))) (.inl (some (.int (nI 0)))) (σ.set 22 (.inr (7, MoF (nI 1) vf wh wy hg dp md ov oh dn an)))
  refine jr_if_ne 45 d_Mo_map_12 (by decide) (fun c1 => ?_) (fun c1 => ?_)
  · refine jr_aload_n d_Mo_map_45 rfl ?_
    refine jr_iconst ((nI (1))) d_Mo_map_46 (by decide) ?_
    refine jr_callV (As := [.int (nI 1)]) d_Mo_map_47 k_Mo_map_118 (jl_ss hO) rfl rfl rfl (Nat.le_of_ble_eq_true rfl) (by decide) (by decide) (mo_fail hl (jl_ss hO) (MoW.sx hw (Or.inl (by decide)))) ?_
    show jl_W l G m_Mo_map (0, 0) 50 [some (.ref 22), some (.int (k)), some (.int (sl)), some (.int (pc)), some (.int (i)), none] [.int (nI 0)] ((σ.set (22) (.inr (7, [.int (nI 0), .ref 23, .ref 24, .ref 25, .ref 26, .ref 27, .ref 28, .ref 29, .ref 30, .ref 31, .ref 32, .ref 33, .ref 34, .ref 35, .ref 36, .ref 37, .int (vf), .int (wh), .int (wy), .ref 38, .ref 39, .ref 40, .ref 41, .int (hg), .ref 42, .ref 43, .ref 44, .ref 45, .ref 46, .ref 47, .ref 48, .ref 49, .int (dp), .ref 50, .ref 51, .ref 52, .int (md), .int (ov), .int (oh), .int (dn), .int (an)]))).set (22) (.inr (7, [.int (nI 1), .ref 23, .ref 24, .ref 25, .ref 26, .ref 27, .ref 28, .ref 29, .ref 30, .ref 31, .ref 32, .ref 33, .ref 34, .ref 35, .ref 36, .ref 37, .int (vf), .int (wh), .int (wy), .ref 38, .ref 39, .ref 40, .ref 41, .int (hg), .ref 42, .ref 43, .ref 44, .ref 45, .ref 46, .ref 47, .ref 48, .ref 49, .int (dp), .ref 50, .ref 51, .ref 52, .int (md), .int (ov), .int (oh), .int (dn), .int (an)]))) (.inl (some (.int (nI 0)))) (σ.set 22 (.inr (7, MoF (nI 1) vf wh wy hg dp md ov oh dn an)))
    exact jr_iretE d_Mo_map_50 rfl (rfl) ((List.set_set ..).symm) (by decide) (by decide)
  · refine jr_aload_n d_Mo_map_15 rfl ?_
    refine jr_iload_n d_Mo_map_16 rfl ?_
    refine jr_iconst ((nI (4))) d_Mo_map_17 (by decide) ?_
    refine jr_callV (As := [.int (sl), .int (nI 4)]) d_Mo_map_18 k_Mo_map_114 (jl_ss hO) rfl rfl rfl (Nat.le_of_ble_eq_true rfl) (by decide) (by decide) (mo_out hl (jl_ss hO) (MoW.sx hw (Or.inl (by decide)))) ?_
    show jl_W l G m_Mo_map (0, 0) 21 [some (.ref 22), some (.int (k)), some (.int (sl)), some (.int (pc)), some (.int (i)), none] [.int (bi (outB (sl) (nI 4)))] (σ.set (22) (.inr (7, [.int (nI 0), .ref 23, .ref 24, .ref 25, .ref 26, .ref 27, .ref 28, .ref 29, .ref 30, .ref 31, .ref 32, .ref 33, .ref 34, .ref 35, .ref 36, .ref 37, .int (vf), .int (wh), .int (wy), .ref 38, .ref 39, .ref 40, .ref 41, .int (hg), .ref 42, .ref 43, .ref 44, .ref 45, .ref 46, .ref 47, .ref 48, .ref 49, .int (dp), .ref 50, .ref 51, .ref 52, .int (md), .int (ov), .int (oh), .int (dn), .int (an)]))) (.inl (some (.int (nI 0)))) (σ.set 22 (.inr (7, MoF (nI 1) vf wh wy hg dp md ov oh dn an)))
    refine jr_if_ne 45 d_Mo_map_21 (by decide) (fun c2 => ?_) (fun c2 => ?_)
    · refine jr_aload_n d_Mo_map_45 rfl ?_
      refine jr_iconst ((nI (1))) d_Mo_map_46 (by decide) ?_
      refine jr_callV (As := [.int (nI 1)]) d_Mo_map_47 k_Mo_map_118 (jl_ss hO) rfl rfl rfl (Nat.le_of_ble_eq_true rfl) (by decide) (by decide) (mo_fail hl (jl_ss hO) (MoW.sx hw (Or.inl (by decide)))) ?_
      show jl_W l G m_Mo_map (0, 0) 50 [some (.ref 22), some (.int (k)), some (.int (sl)), some (.int (pc)), some (.int (i)), none] [.int (nI 0)] ((σ.set (22) (.inr (7, [.int (nI 0), .ref 23, .ref 24, .ref 25, .ref 26, .ref 27, .ref 28, .ref 29, .ref 30, .ref 31, .ref 32, .ref 33, .ref 34, .ref 35, .ref 36, .ref 37, .int (vf), .int (wh), .int (wy), .ref 38, .ref 39, .ref 40, .ref 41, .int (hg), .ref 42, .ref 43, .ref 44, .ref 45, .ref 46, .ref 47, .ref 48, .ref 49, .int (dp), .ref 50, .ref 51, .ref 52, .int (md), .int (ov), .int (oh), .int (dn), .int (an)]))).set (22) (.inr (7, [.int (nI 1), .ref 23, .ref 24, .ref 25, .ref 26, .ref 27, .ref 28, .ref 29, .ref 30, .ref 31, .ref 32, .ref 33, .ref 34, .ref 35, .ref 36, .ref 37, .int (vf), .int (wh), .int (wy), .ref 38, .ref 39, .ref 40, .ref 41, .int (hg), .ref 42, .ref 43, .ref 44, .ref 45, .ref 46, .ref 47, .ref 48, .ref 49, .int (dp), .ref 50, .ref 51, .ref 52, .int (md), .int (ov), .int (oh), .int (dn), .int (an)]))) (.inl (some (.int (nI 0)))) (σ.set 22 (.inr (7, MoF (nI 1) vf wh wy hg dp md ov oh dn an)))
      exact jr_iretE d_Mo_map_50 rfl (rfl) ((List.set_set ..).symm) (by decide) (by decide)
    · refine jr_aload_n d_Mo_map_24 rfl ?_
      refine jr_iload_n d_Mo_map_25 rfl ?_
      refine jr_bipush ((nI (24))) d_Mo_map_26 (by decide) ?_
      refine jr_callV (As := [.int (pc), .int (nI 24)]) d_Mo_map_28 k_Mo_map_114 (jl_ss hO) rfl rfl rfl (Nat.le_of_ble_eq_true rfl) (by decide) (by decide) (mo_out hl (jl_ss hO) (MoW.sx hw (Or.inl (by decide)))) ?_
      show jl_W l G m_Mo_map (0, 0) 31 [some (.ref 22), some (.int (k)), some (.int (sl)), some (.int (pc)), some (.int (i)), none] [.int (bi (outB (pc) (nI 24)))] (σ.set (22) (.inr (7, [.int (nI 0), .ref 23, .ref 24, .ref 25, .ref 26, .ref 27, .ref 28, .ref 29, .ref 30, .ref 31, .ref 32, .ref 33, .ref 34, .ref 35, .ref 36, .ref 37, .int (vf), .int (wh), .int (wy), .ref 38, .ref 39, .ref 40, .ref 41, .int (hg), .ref 42, .ref 43, .ref 44, .ref 45, .ref 46, .ref 47, .ref 48, .ref 49, .int (dp), .ref 50, .ref 51, .ref 52, .int (md), .int (ov), .int (oh), .int (dn), .int (an)]))) (.inl (some (.int (nI 0)))) (σ.set 22 (.inr (7, MoF (nI 1) vf wh wy hg dp md ov oh dn an)))
      refine jr_if_ne 45 d_Mo_map_31 (by decide) (fun c3 => ?_) (fun c3 => ?_)
      · refine jr_aload_n d_Mo_map_45 rfl ?_
        refine jr_iconst ((nI (1))) d_Mo_map_46 (by decide) ?_
        refine jr_callV (As := [.int (nI 1)]) d_Mo_map_47 k_Mo_map_118 (jl_ss hO) rfl rfl rfl (Nat.le_of_ble_eq_true rfl) (by decide) (by decide) (mo_fail hl (jl_ss hO) (MoW.sx hw (Or.inl (by decide)))) ?_
        show jl_W l G m_Mo_map (0, 0) 50 [some (.ref 22), some (.int (k)), some (.int (sl)), some (.int (pc)), some (.int (i)), none] [.int (nI 0)] ((σ.set (22) (.inr (7, [.int (nI 0), .ref 23, .ref 24, .ref 25, .ref 26, .ref 27, .ref 28, .ref 29, .ref 30, .ref 31, .ref 32, .ref 33, .ref 34, .ref 35, .ref 36, .ref 37, .int (vf), .int (wh), .int (wy), .ref 38, .ref 39, .ref 40, .ref 41, .int (hg), .ref 42, .ref 43, .ref 44, .ref 45, .ref 46, .ref 47, .ref 48, .ref 49, .int (dp), .ref 50, .ref 51, .ref 52, .int (md), .int (ov), .int (oh), .int (dn), .int (an)]))).set (22) (.inr (7, [.int (nI 1), .ref 23, .ref 24, .ref 25, .ref 26, .ref 27, .ref 28, .ref 29, .ref 30, .ref 31, .ref 32, .ref 33, .ref 34, .ref 35, .ref 36, .ref 37, .int (vf), .int (wh), .int (wy), .ref 38, .ref 39, .ref 40, .ref 41, .int (hg), .ref 42, .ref 43, .ref 44, .ref 45, .ref 46, .ref 47, .ref 48, .ref 49, .int (dp), .ref 50, .ref 51, .ref 52, .int (md), .int (ov), .int (oh), .int (dn), .int (an)]))) (.inl (some (.int (nI 0)))) (σ.set 22 (.inr (7, MoF (nI 1) vf wh wy hg dp md ov oh dn an)))
        exact jr_iretE d_Mo_map_50 rfl (rfl) ((List.set_set ..).symm) (by decide) (by decide)
      · refine jr_aload_n d_Mo_map_34 rfl ?_
        refine jr_iload d_Mo_map_35 rfl ?_
        refine jr_bipush ((nI (12))) d_Mo_map_37 (by decide) ?_
        refine jr_callV (As := [.int (i), .int (nI 12)]) d_Mo_map_39 k_Mo_map_114 (jl_ss hO) rfl rfl rfl (Nat.le_of_ble_eq_true rfl) (by decide) (by decide) (mo_out hl (jl_ss hO) (MoW.sx hw (Or.inl (by decide)))) ?_
        show jl_W l G m_Mo_map (0, 0) 42 [some (.ref 22), some (.int (k)), some (.int (sl)), some (.int (pc)), some (.int (i)), none] [.int (bi (outB (i) (nI 12)))] (σ.set (22) (.inr (7, [.int (nI 0), .ref 23, .ref 24, .ref 25, .ref 26, .ref 27, .ref 28, .ref 29, .ref 30, .ref 31, .ref 32, .ref 33, .ref 34, .ref 35, .ref 36, .ref 37, .int (vf), .int (wh), .int (wy), .ref 38, .ref 39, .ref 40, .ref 41, .int (hg), .ref 42, .ref 43, .ref 44, .ref 45, .ref 46, .ref 47, .ref 48, .ref 49, .int (dp), .ref 50, .ref 51, .ref 52, .int (md), .int (ov), .int (oh), .int (dn), .int (an)]))) (.inl (some (.int (nI 0)))) (σ.set 22 (.inr (7, MoF (nI 1) vf wh wy hg dp md ov oh dn an)))
        refine jr_if_eq 51 d_Mo_map_42 (by decide) (fun c4 => ?_) (fun c4 => ?_)
        · exact False.elim ((fun q => q.elim (fun q => by rw [bi_0.mp c1] at q; cases q) (fun q => q.elim (fun q => by rw [bi_0.mp c2] at q; cases q) (fun q => q.elim (fun q => by rw [bi_0.mp c3] at q; cases q) (fun q => by rw [bi_0.mp c4] at q; cases q)))) h)
        · refine jr_aload_n d_Mo_map_45 rfl ?_
          refine jr_iconst ((nI (1))) d_Mo_map_46 (by decide) ?_
          refine jr_callV (As := [.int (nI 1)]) d_Mo_map_47 k_Mo_map_118 (jl_ss hO) rfl rfl rfl (Nat.le_of_ble_eq_true rfl) (by decide) (by decide) (mo_fail hl (jl_ss hO) (MoW.sx hw (Or.inl (by decide)))) ?_
          show jl_W l G m_Mo_map (0, 0) 50 [some (.ref 22), some (.int (k)), some (.int (sl)), some (.int (pc)), some (.int (i)), none] [.int (nI 0)] ((σ.set (22) (.inr (7, [.int (nI 0), .ref 23, .ref 24, .ref 25, .ref 26, .ref 27, .ref 28, .ref 29, .ref 30, .ref 31, .ref 32, .ref 33, .ref 34, .ref 35, .ref 36, .ref 37, .int (vf), .int (wh), .int (wy), .ref 38, .ref 39, .ref 40, .ref 41, .int (hg), .ref 42, .ref 43, .ref 44, .ref 45, .ref 46, .ref 47, .ref 48, .ref 49, .int (dp), .ref 50, .ref 51, .ref 52, .int (md), .int (ov), .int (oh), .int (dn), .int (an)]))).set (22) (.inr (7, [.int (nI 1), .ref 23, .ref 24, .ref 25, .ref 26, .ref 27, .ref 28, .ref 29, .ref 30, .ref 31, .ref 32, .ref 33, .ref 34, .ref 35, .ref 36, .ref 37, .int (vf), .int (wh), .int (wy), .ref 38, .ref 39, .ref 40, .ref 41, .int (hg), .ref 42, .ref 43, .ref 44, .ref 45, .ref 46, .ref 47, .ref 48, .ref 49, .int (dp), .ref 50, .ref 51, .ref 52, .int (md), .int (ov), .int (oh), .int (dn), .int (an)]))) (.inl (some (.int (nI 0)))) (σ.set 22 (.inr (7, MoF (nI 1) vf wh wy hg dp md ov oh dn an)))
          exact jr_iretE d_Mo_map_50 rfl (rfl) ((List.set_set ..).symm) (by decide) (by decide)
theorem d_Mo_map_51 : decode m_Mo_map.2.1 51 = .ok (.aload_n 0, 1) := by decide +kernel
theorem d_Mo_map_52 : decode m_Mo_map.2.1 52 = .ok (.iload_n 1, 1) := by decide +kernel
theorem d_Mo_map_53 : decode m_Mo_map.2.1 53 = .ok (.iload_n 2, 1) := by decide +kernel
theorem k_Mo_map_139 : jl_cv m_Mo_map m_Mo_noMethod 139 2 = true := by decide +kernel
theorem d_Mo_map_54 : decode m_Mo_map.2.1 54 = .ok (.invokevirtual 139, 3) := by decide +kernel
theorem d_Mo_map_57 : decode m_Mo_map.2.1 57 = .ok (.ifCond .eq 9, 3) := by decide +kernel
theorem d_Mo_map_60 : decode m_Mo_map.2.1 60 = .ok (.aload_n 0, 1) := by decide +kernel
theorem d_Mo_map_61 : decode m_Mo_map.2.1 61 = .ok (.iconst 2, 1) := by decide +kernel
theorem d_Mo_map_62 : decode m_Mo_map.2.1 62 = .ok (.invokevirtual 118, 3) := by decide +kernel
theorem d_Mo_map_65 : decode m_Mo_map.2.1 65 = .ok (.ireturn, 1) := by decide +kernel
theorem mo_map_N (hl : l.stackTraces = false) {k sl pc i : Nat} (hO : MoO σ fa vf wh wy hg dp md ov oh dn an) (hw : MoW σ tb pr ow ft hs) (hk : k < 6) (hs4 : sl < 4) (hpc : pc < 24) (hi : i < 12) (hnm : noM tb hs k sl = true) : jl_m l G m_Mo_map [.ref 22, .int (nI k), .int (nI sl), .int (nI pc), .int (nI i)] σ (.inl (some (.int (nI 0)))) (σ.set 22 (.inr (7, MoF (nI 2) vf wh wy hg dp md ov oh dn an))) := by
  obtain ⟨h23, h24, h25, h26, h27⟩ := id hw
  refine jl_of (as := [.ref 22, .int (nI k), .int (nI sl), .int (nI pc), .int (nI i)]) rfl (by decide) hl (jl_cc rfl (jl_cc rfl (jl_cc rfl (jl_cc rfl (jl_cc rfl jl_ca))))) (Nat.le_of_ble_eq_true rfl) ?_
  show jl_W l G m_Mo_map (0, 0) 0 [some (.ref 22), some (.int (nI k)), some (.int (nI sl)), some (.int (nI pc)), some (.int (nI i)), none] [] (σ) (.inl (some (.int (nI 0)))) (σ.set 22 (.inr (7, MoF (nI 2) vf wh wy hg dp md ov oh dn an)))
  refine jr_aload_n d_Mo_map_0 rfl ?_
  refine jr_iconst ((nI (0))) d_Mo_map_1 (by decide) ?_
  refine jr_putf d_Mo_map_2 p_Mo_map_111 hO (Nat.le_of_ble_eq_true rfl) jl_fit_int ?_
  show jl_W l G m_Mo_map (0, 0) 5 [some (.ref 22), some (.int (nI k)), some (.int (nI sl)), some (.int (nI pc)), some (.int (nI i)), none] [] (σ.set (22) (.inr (7, [.int (nI 0), .ref 23, .ref 24, .ref 25, .ref 26, .ref 27, .ref 28, .ref 29, .ref 30, .ref 31, .ref 32, .ref 33, .ref 34, .ref 35, .ref 36, .ref 37, .int (vf), .int (wh), .int (wy), .ref 38, .ref 39, .ref 40, .ref 41, .int (hg), .ref 42, .ref 43, .ref 44, .ref 45, .ref 46, .ref 47, .ref 48, .ref 49, .int (dp), .ref 50, .ref 51, .ref 52, .int (md), .int (ov), .int (oh), .int (dn), .int (an)]))) (.inl (some (.int (nI 0)))) (σ.set 22 (.inr (7, MoF (nI 2) vf wh wy hg dp md ov oh dn an)))
  refine jr_aload_n d_Mo_map_5 rfl ?_
  refine jr_iload_n d_Mo_map_6 rfl ?_
  refine jr_bipush ((nI (6))) d_Mo_map_7 (by decide) ?_
  refine jr_callV (As := [.int (nI k), .int (nI 6)]) d_Mo_map_9 k_Mo_map_114 (jl_ss hO) rfl rfl rfl (Nat.le_of_ble_eq_true rfl) (by decide) (by decide) (mo_outN hl (jl_ss hO) (MoW.sx hw (Or.inl (by decide))) (by decide) (by omega)) ?_
  show jl_W l G m_Mo_map (0, 0) 12 [some (.ref 22), some (.int (nI k)), some (.int (nI sl)), some (.int (nI pc)), some (.int (nI i)), none] [.int (nI 0)] (σ.set (22) (.inr (7, [.int (nI 0), .ref 23, .ref 24, .ref 25, .ref 26, .ref 27, .ref 28, .ref 29, .ref 30, .ref 31, .ref 32, .ref 33, .ref 34, .ref 35, .ref 36, .ref 37, .int (vf), .int (wh), .int (wy), .ref 38, .ref 39, .ref 40, .ref 41, .int (hg), .ref 42, .ref 43, .ref 44, .ref 45, .ref 46, .ref 47, .ref 48, .ref 49, .int (dp), .ref 50, .ref 51, .ref 52, .int (md), .int (ov), .int (oh), .int (dn), .int (an)]))) (.inl (some (.int (nI 0)))) (σ.set 22 (.inr (7, MoF (nI 2) vf wh wy hg dp md ov oh dn an)))
  refine jr_if_ne 45 d_Mo_map_12 (by decide) (fun z => absurd rfl z) (fun _ => ?_)
  refine jr_aload_n d_Mo_map_15 rfl ?_
  refine jr_iload_n d_Mo_map_16 rfl ?_
  refine jr_iconst ((nI (4))) d_Mo_map_17 (by decide) ?_
  refine jr_callV (As := [.int (nI sl), .int (nI 4)]) d_Mo_map_18 k_Mo_map_114 (jl_ss hO) rfl rfl rfl (Nat.le_of_ble_eq_true rfl) (by decide) (by decide) (mo_outN hl (jl_ss hO) (MoW.sx hw (Or.inl (by decide))) (by decide) (by omega)) ?_
  show jl_W l G m_Mo_map (0, 0) 21 [some (.ref 22), some (.int (nI k)), some (.int (nI sl)), some (.int (nI pc)), some (.int (nI i)), none] [.int (nI 0)] (σ.set (22) (.inr (7, [.int (nI 0), .ref 23, .ref 24, .ref 25, .ref 26, .ref 27, .ref 28, .ref 29, .ref 30, .ref 31, .ref 32, .ref 33, .ref 34, .ref 35, .ref 36, .ref 37, .int (vf), .int (wh), .int (wy), .ref 38, .ref 39, .ref 40, .ref 41, .int (hg), .ref 42, .ref 43, .ref 44, .ref 45, .ref 46, .ref 47, .ref 48, .ref 49, .int (dp), .ref 50, .ref 51, .ref 52, .int (md), .int (ov), .int (oh), .int (dn), .int (an)]))) (.inl (some (.int (nI 0)))) (σ.set 22 (.inr (7, MoF (nI 2) vf wh wy hg dp md ov oh dn an)))
  refine jr_if_ne 45 d_Mo_map_21 (by decide) (fun z => absurd rfl z) (fun _ => ?_)
  refine jr_aload_n d_Mo_map_24 rfl ?_
  refine jr_iload_n d_Mo_map_25 rfl ?_
  refine jr_bipush ((nI (24))) d_Mo_map_26 (by decide) ?_
  refine jr_callV (As := [.int (nI pc), .int (nI 24)]) d_Mo_map_28 k_Mo_map_114 (jl_ss hO) rfl rfl rfl (Nat.le_of_ble_eq_true rfl) (by decide) (by decide) (mo_outN hl (jl_ss hO) (MoW.sx hw (Or.inl (by decide))) (by decide) (by omega)) ?_
  show jl_W l G m_Mo_map (0, 0) 31 [some (.ref 22), some (.int (nI k)), some (.int (nI sl)), some (.int (nI pc)), some (.int (nI i)), none] [.int (nI 0)] (σ.set (22) (.inr (7, [.int (nI 0), .ref 23, .ref 24, .ref 25, .ref 26, .ref 27, .ref 28, .ref 29, .ref 30, .ref 31, .ref 32, .ref 33, .ref 34, .ref 35, .ref 36, .ref 37, .int (vf), .int (wh), .int (wy), .ref 38, .ref 39, .ref 40, .ref 41, .int (hg), .ref 42, .ref 43, .ref 44, .ref 45, .ref 46, .ref 47, .ref 48, .ref 49, .int (dp), .ref 50, .ref 51, .ref 52, .int (md), .int (ov), .int (oh), .int (dn), .int (an)]))) (.inl (some (.int (nI 0)))) (σ.set 22 (.inr (7, MoF (nI 2) vf wh wy hg dp md ov oh dn an)))
  refine jr_if_ne 45 d_Mo_map_31 (by decide) (fun z => absurd rfl z) (fun _ => ?_)
  refine jr_aload_n d_Mo_map_34 rfl ?_
  refine jr_iload d_Mo_map_35 rfl ?_
  refine jr_bipush ((nI (12))) d_Mo_map_37 (by decide) ?_
  refine jr_callV (As := [.int (nI i), .int (nI 12)]) d_Mo_map_39 k_Mo_map_114 (jl_ss hO) rfl rfl rfl (Nat.le_of_ble_eq_true rfl) (by decide) (by decide) (mo_outN hl (jl_ss hO) (MoW.sx hw (Or.inl (by decide))) (by decide) (by omega)) ?_
  show jl_W l G m_Mo_map (0, 0) 42 [some (.ref 22), some (.int (nI k)), some (.int (nI sl)), some (.int (nI pc)), some (.int (nI i)), none] [.int (nI 0)] (σ.set (22) (.inr (7, [.int (nI 0), .ref 23, .ref 24, .ref 25, .ref 26, .ref 27, .ref 28, .ref 29, .ref 30, .ref 31, .ref 32, .ref 33, .ref 34, .ref 35, .ref 36, .ref 37, .int (vf), .int (wh), .int (wy), .ref 38, .ref 39, .ref 40, .ref 41, .int (hg), .ref 42, .ref 43, .ref 44, .ref 45, .ref 46, .ref 47, .ref 48, .ref 49, .int (dp), .ref 50, .ref 51, .ref 52, .int (md), .int (ov), .int (oh), .int (dn), .int (an)]))) (.inl (some (.int (nI 0)))) (σ.set 22 (.inr (7, MoF (nI 2) vf wh wy hg dp md ov oh dn an)))
  refine jr_if_eq 51 d_Mo_map_42 (by decide) (fun _ => ?_) (fun z => absurd (by decide) z)
  refine jr_aload_n d_Mo_map_51 rfl ?_
  refine jr_iload_n d_Mo_map_52 rfl ?_
  refine jr_iload_n d_Mo_map_53 rfl ?_
  refine jr_callV (As := [.int (nI k), .int (nI sl)]) d_Mo_map_54 k_Mo_map_139 (jl_ss hO) rfl rfl rfl (Nat.le_of_ble_eq_true rfl) (by decide) (by decide) (mo_noMF hl (jl_ss hO) (MoW.sx hw (Or.inl (by decide))) hk hs4 hnm) ?_
  show jl_W l G m_Mo_map (0, 0) 57 [some (.ref 22), some (.int (nI k)), some (.int (nI sl)), some (.int (nI pc)), some (.int (nI i)), none] [.int (nI 1)] (σ.set (22) (.inr (7, [.int (nI 0), .ref 23, .ref 24, .ref 25, .ref 26, .ref 27, .ref 28, .ref 29, .ref 30, .ref 31, .ref 32, .ref 33, .ref 34, .ref 35, .ref 36, .ref 37, .int (vf), .int (wh), .int (wy), .ref 38, .ref 39, .ref 40, .ref 41, .int (hg), .ref 42, .ref 43, .ref 44, .ref 45, .ref 46, .ref 47, .ref 48, .ref 49, .int (dp), .ref 50, .ref 51, .ref 52, .int (md), .int (ov), .int (oh), .int (dn), .int (an)]))) (.inl (some (.int (nI 0)))) (σ.set 22 (.inr (7, MoF (nI 2) vf wh wy hg dp md ov oh dn an)))
  refine jr_if_eq 66 d_Mo_map_57 (by decide) (fun z => absurd z (by decide)) (fun _ => ?_)
  refine jr_aload_n d_Mo_map_60 rfl ?_
  refine jr_iconst ((nI (2))) d_Mo_map_61 (by decide) ?_
  refine jr_callV (As := [.int (nI 2)]) d_Mo_map_62 k_Mo_map_118 (jl_ss hO) rfl rfl rfl (Nat.le_of_ble_eq_true rfl) (by decide) (by decide) (mo_fail hl (jl_ss hO) (MoW.sx hw (Or.inl (by decide)))) ?_
  show jl_W l G m_Mo_map (0, 0) 65 [some (.ref 22), some (.int (nI k)), some (.int (nI sl)), some (.int (nI pc)), some (.int (nI i)), none] [.int (nI 0)] ((σ.set (22) (.inr (7, [.int (nI 0), .ref 23, .ref 24, .ref 25, .ref 26, .ref 27, .ref 28, .ref 29, .ref 30, .ref 31, .ref 32, .ref 33, .ref 34, .ref 35, .ref 36, .ref 37, .int (vf), .int (wh), .int (wy), .ref 38, .ref 39, .ref 40, .ref 41, .int (hg), .ref 42, .ref 43, .ref 44, .ref 45, .ref 46, .ref 47, .ref 48, .ref 49, .int (dp), .ref 50, .ref 51, .ref 52, .int (md), .int (ov), .int (oh), .int (dn), .int (an)]))).set (22) (.inr (7, [.int (nI 2), .ref 23, .ref 24, .ref 25, .ref 26, .ref 27, .ref 28, .ref 29, .ref 30, .ref 31, .ref 32, .ref 33, .ref 34, .ref 35, .ref 36, .ref 37, .int (vf), .int (wh), .int (wy), .ref 38, .ref 39, .ref 40, .ref 41, .int (hg), .ref 42, .ref 43, .ref 44, .ref 45, .ref 46, .ref 47, .ref 48, .ref 49, .int (dp), .ref 50, .ref 51, .ref 52, .int (md), .int (ov), .int (oh), .int (dn), .int (an)]))) (.inl (some (.int (nI 0)))) (σ.set 22 (.inr (7, MoF (nI 2) vf wh wy hg dp md ov oh dn an)))
  exact jr_iretE d_Mo_map_65 rfl (rfl) ((List.set_set ..).symm) (by decide) (by decide)
theorem d_Mo_map_66 : decode m_Mo_map.2.1 66 = .ok (.bipush 12, 2) := by decide +kernel
theorem d_Mo_map_68 : decode m_Mo_map.2.1 68 = .ok (.bipush 96, 2) := by decide +kernel
theorem d_Mo_map_70 : decode m_Mo_map.2.1 70 = .ok (.iload_n 1, 1) := by decide +kernel
theorem d_Mo_map_71 : decode m_Mo_map.2.1 71 = .ok (.imul, 1) := by decide +kernel
theorem d_Mo_map_72 : decode m_Mo_map.2.1 72 = .ok (.bipush 24, 2) := by decide +kernel
theorem d_Mo_map_74 : decode m_Mo_map.2.1 74 = .ok (.iload_n 2, 1) := by decide +kernel
theorem d_Mo_map_75 : decode m_Mo_map.2.1 75 = .ok (.imul, 1) := by decide +kernel
theorem d_Mo_map_76 : decode m_Mo_map.2.1 76 = .ok (.iadd, 1) := by decide +kernel
theorem d_Mo_map_77 : decode m_Mo_map.2.1 77 = .ok (.iload_n 3, 1) := by decide +kernel
theorem d_Mo_map_78 : decode m_Mo_map.2.1 78 = .ok (.iadd, 1) := by decide +kernel
theorem d_Mo_map_79 : decode m_Mo_map.2.1 79 = .ok (.imul, 1) := by decide +kernel
theorem d_Mo_map_80 : decode m_Mo_map.2.1 80 = .ok (.istore 5, 2) := by decide +kernel
theorem d_Mo_map_82 : decode m_Mo_map.2.1 82 = .ok (.aload_n 0, 1) := by decide +kernel
theorem f_Mo_map_63 : jl_fd m_Mo_map 63 7 19 = true := by decide +kernel
theorem d_Mo_map_83 : decode m_Mo_map.2.1 83 = .ok (.getfield 63, 3) := by decide +kernel
theorem d_Mo_map_86 : decode m_Mo_map.2.1 86 = .ok (.iload 5, 2) := by decide +kernel
theorem d_Mo_map_88 : decode m_Mo_map.2.1 88 = .ok (.bipush 6, 2) := by decide +kernel
theorem d_Mo_map_90 : decode m_Mo_map.2.1 90 = .ok (.iadd, 1) := by decide +kernel
theorem d_Mo_map_91 : decode m_Mo_map.2.1 91 = .ok (.iaload, 1) := by decide +kernel
theorem d_Mo_map_92 : decode m_Mo_map.2.1 92 = .ok (.bipush (-2), 2) := by decide +kernel
theorem d_Mo_map_94 : decode m_Mo_map.2.1 94 = .ok (.if_icmp .ne 8, 3) := by decide +kernel
theorem d_Mo_map_102 : decode m_Mo_map.2.1 102 = .ok (.aload_n 0, 1) := by decide +kernel
theorem d_Mo_map_103 : decode m_Mo_map.2.1 103 = .ok (.getfield 63, 3) := by decide +kernel
theorem d_Mo_map_106 : decode m_Mo_map.2.1 106 = .ok (.iload 5, 2) := by decide +kernel
theorem d_Mo_map_108 : decode m_Mo_map.2.1 108 = .ok (.iload 4, 2) := by decide +kernel
theorem d_Mo_map_110 : decode m_Mo_map.2.1 110 = .ok (.iadd, 1) := by decide +kernel
theorem d_Mo_map_111 : decode m_Mo_map.2.1 111 = .ok (.iaload, 1) := by decide +kernel
theorem d_Mo_map_112 : decode m_Mo_map.2.1 112 = .ok (.ireturn, 1) := by decide +kernel
theorem d_Mo_map_97 : decode m_Mo_map.2.1 97 = .ok (.bipush (-2), 2) := by decide +kernel
theorem d_Mo_map_99 : decode m_Mo_map.2.1 99 = .ok (.goto 13, 3) := by decide +kernel
theorem mo_map (hl : l.stackTraces = false) {k sl pc i : Nat} (hO : MoO σ fa vf wh wy hg dp md ov oh dn an) (hw : MoW σ tb pr ow ft hs) (hP : MoP σ mm) (hk : k < 6) (hs4 : sl < 4) (hpc : pc < 24) (hi : i < 12) (hnm : noM tb hs k sl = false) : jl_m l G m_Mo_map [.ref 22, .int (nI k), .int (nI sl), .int (nI pc), .int (nI i)] σ (.inl (some (.int (if mm (12 * (96 * k + 24 * sl + pc) + 6) = -2 then -2 else mm (12 * (96 * k + 24 * sl + pc) + i))))) (σ.set 22 (.inr (7, MoF (nI 0) vf wh wy hg dp md ov oh dn an))) := by
  obtain ⟨h23, h24, h25, h26, h27⟩ := id hw
  refine jl_of (as := [.ref 22, .int (nI k), .int (nI sl), .int (nI pc), .int (nI i)]) rfl (by decide) hl (jl_cc rfl (jl_cc rfl (jl_cc rfl (jl_cc rfl (jl_cc rfl jl_ca))))) (Nat.le_of_ble_eq_true rfl) ?_
  show jl_W l G m_Mo_map (0, 0) 0 [some (.ref 22), some (.int (nI k)), some (.int (nI sl)), some (.int (nI pc)), some (.int (nI i)), none] [] (σ) (.inl (some (.int (if mm (12 * (96 * k + 24 * sl + pc) + 6) = -2 then -2 else mm (12 * (96 * k + 24 * sl + pc) + i))))) (σ.set 22 (.inr (7, MoF (nI 0) vf wh wy hg dp md ov oh dn an)))
  refine jr_aload_n d_Mo_map_0 rfl ?_
  refine jr_iconst ((nI (0))) d_Mo_map_1 (by decide) ?_
  refine jr_putf d_Mo_map_2 p_Mo_map_111 hO (Nat.le_of_ble_eq_true rfl) jl_fit_int ?_
  show jl_W l G m_Mo_map (0, 0) 5 [some (.ref 22), some (.int (nI k)), some (.int (nI sl)), some (.int (nI pc)), some (.int (nI i)), none] [] (σ.set (22) (.inr (7, [.int (nI 0), .ref 23, .ref 24, .ref 25, .ref 26, .ref 27, .ref 28, .ref 29, .ref 30, .ref 31, .ref 32, .ref 33, .ref 34, .ref 35, .ref 36, .ref 37, .int (vf), .int (wh), .int (wy), .ref 38, .ref 39, .ref 40, .ref 41, .int (hg), .ref 42, .ref 43, .ref 44, .ref 45, .ref 46, .ref 47, .ref 48, .ref 49, .int (dp), .ref 50, .ref 51, .ref 52, .int (md), .int (ov), .int (oh), .int (dn), .int (an)]))) (.inl (some (.int (if mm (12 * (96 * k + 24 * sl + pc) + 6) = -2 then -2 else mm (12 * (96 * k + 24 * sl + pc) + i))))) (σ.set 22 (.inr (7, MoF (nI 0) vf wh wy hg dp md ov oh dn an)))
  refine jr_aload_n d_Mo_map_5 rfl ?_
  refine jr_iload_n d_Mo_map_6 rfl ?_
  refine jr_bipush ((nI (6))) d_Mo_map_7 (by decide) ?_
  refine jr_callV (As := [.int (nI k), .int (nI 6)]) d_Mo_map_9 k_Mo_map_114 (jl_ss hO) rfl rfl rfl (Nat.le_of_ble_eq_true rfl) (by decide) (by decide) (mo_outN hl (jl_ss hO) (MoW.sx hw (Or.inl (by decide))) (by decide) (by omega)) ?_
  show jl_W l G m_Mo_map (0, 0) 12 [some (.ref 22), some (.int (nI k)), some (.int (nI sl)), some (.int (nI pc)), some (.int (nI i)), none] [.int (nI 0)] (σ.set (22) (.inr (7, [.int (nI 0), .ref 23, .ref 24, .ref 25, .ref 26, .ref 27, .ref 28, .ref 29, .ref 30, .ref 31, .ref 32, .ref 33, .ref 34, .ref 35, .ref 36, .ref 37, .int (vf), .int (wh), .int (wy), .ref 38, .ref 39, .ref 40, .ref 41, .int (hg), .ref 42, .ref 43, .ref 44, .ref 45, .ref 46, .ref 47, .ref 48, .ref 49, .int (dp), .ref 50, .ref 51, .ref 52, .int (md), .int (ov), .int (oh), .int (dn), .int (an)]))) (.inl (some (.int (if mm (12 * (96 * k + 24 * sl + pc) + 6) = -2 then -2 else mm (12 * (96 * k + 24 * sl + pc) + i))))) (σ.set 22 (.inr (7, MoF (nI 0) vf wh wy hg dp md ov oh dn an)))
  refine jr_if_ne 45 d_Mo_map_12 (by decide) (fun z => absurd rfl z) (fun _ => ?_)
  refine jr_aload_n d_Mo_map_15 rfl ?_
  refine jr_iload_n d_Mo_map_16 rfl ?_
  refine jr_iconst ((nI (4))) d_Mo_map_17 (by decide) ?_
  refine jr_callV (As := [.int (nI sl), .int (nI 4)]) d_Mo_map_18 k_Mo_map_114 (jl_ss hO) rfl rfl rfl (Nat.le_of_ble_eq_true rfl) (by decide) (by decide) (mo_outN hl (jl_ss hO) (MoW.sx hw (Or.inl (by decide))) (by decide) (by omega)) ?_
  show jl_W l G m_Mo_map (0, 0) 21 [some (.ref 22), some (.int (nI k)), some (.int (nI sl)), some (.int (nI pc)), some (.int (nI i)), none] [.int (nI 0)] (σ.set (22) (.inr (7, [.int (nI 0), .ref 23, .ref 24, .ref 25, .ref 26, .ref 27, .ref 28, .ref 29, .ref 30, .ref 31, .ref 32, .ref 33, .ref 34, .ref 35, .ref 36, .ref 37, .int (vf), .int (wh), .int (wy), .ref 38, .ref 39, .ref 40, .ref 41, .int (hg), .ref 42, .ref 43, .ref 44, .ref 45, .ref 46, .ref 47, .ref 48, .ref 49, .int (dp), .ref 50, .ref 51, .ref 52, .int (md), .int (ov), .int (oh), .int (dn), .int (an)]))) (.inl (some (.int (if mm (12 * (96 * k + 24 * sl + pc) + 6) = -2 then -2 else mm (12 * (96 * k + 24 * sl + pc) + i))))) (σ.set 22 (.inr (7, MoF (nI 0) vf wh wy hg dp md ov oh dn an)))
  refine jr_if_ne 45 d_Mo_map_21 (by decide) (fun z => absurd rfl z) (fun _ => ?_)
  refine jr_aload_n d_Mo_map_24 rfl ?_
  refine jr_iload_n d_Mo_map_25 rfl ?_
  refine jr_bipush ((nI (24))) d_Mo_map_26 (by decide) ?_
  refine jr_callV (As := [.int (nI pc), .int (nI 24)]) d_Mo_map_28 k_Mo_map_114 (jl_ss hO) rfl rfl rfl (Nat.le_of_ble_eq_true rfl) (by decide) (by decide) (mo_outN hl (jl_ss hO) (MoW.sx hw (Or.inl (by decide))) (by decide) (by omega)) ?_
  show jl_W l G m_Mo_map (0, 0) 31 [some (.ref 22), some (.int (nI k)), some (.int (nI sl)), some (.int (nI pc)), some (.int (nI i)), none] [.int (nI 0)] (σ.set (22) (.inr (7, [.int (nI 0), .ref 23, .ref 24, .ref 25, .ref 26, .ref 27, .ref 28, .ref 29, .ref 30, .ref 31, .ref 32, .ref 33, .ref 34, .ref 35, .ref 36, .ref 37, .int (vf), .int (wh), .int (wy), .ref 38, .ref 39, .ref 40, .ref 41, .int (hg), .ref 42, .ref 43, .ref 44, .ref 45, .ref 46, .ref 47, .ref 48, .ref 49, .int (dp), .ref 50, .ref 51, .ref 52, .int (md), .int (ov), .int (oh), .int (dn), .int (an)]))) (.inl (some (.int (if mm (12 * (96 * k + 24 * sl + pc) + 6) = -2 then -2 else mm (12 * (96 * k + 24 * sl + pc) + i))))) (σ.set 22 (.inr (7, MoF (nI 0) vf wh wy hg dp md ov oh dn an)))
  refine jr_if_ne 45 d_Mo_map_31 (by decide) (fun z => absurd rfl z) (fun _ => ?_)
  refine jr_aload_n d_Mo_map_34 rfl ?_
  refine jr_iload d_Mo_map_35 rfl ?_
  refine jr_bipush ((nI (12))) d_Mo_map_37 (by decide) ?_
  refine jr_callV (As := [.int (nI i), .int (nI 12)]) d_Mo_map_39 k_Mo_map_114 (jl_ss hO) rfl rfl rfl (Nat.le_of_ble_eq_true rfl) (by decide) (by decide) (mo_outN hl (jl_ss hO) (MoW.sx hw (Or.inl (by decide))) (by decide) (by omega)) ?_
  show jl_W l G m_Mo_map (0, 0) 42 [some (.ref 22), some (.int (nI k)), some (.int (nI sl)), some (.int (nI pc)), some (.int (nI i)), none] [.int (nI 0)] (σ.set (22) (.inr (7, [.int (nI 0), .ref 23, .ref 24, .ref 25, .ref 26, .ref 27, .ref 28, .ref 29, .ref 30, .ref 31, .ref 32, .ref 33, .ref 34, .ref 35, .ref 36, .ref 37, .int (vf), .int (wh), .int (wy), .ref 38, .ref 39, .ref 40, .ref 41, .int (hg), .ref 42, .ref 43, .ref 44, .ref 45, .ref 46, .ref 47, .ref 48, .ref 49, .int (dp), .ref 50, .ref 51, .ref 52, .int (md), .int (ov), .int (oh), .int (dn), .int (an)]))) (.inl (some (.int (if mm (12 * (96 * k + 24 * sl + pc) + 6) = -2 then -2 else mm (12 * (96 * k + 24 * sl + pc) + i))))) (σ.set 22 (.inr (7, MoF (nI 0) vf wh wy hg dp md ov oh dn an)))
  refine jr_if_eq 51 d_Mo_map_42 (by decide) (fun _ => ?_) (fun z => absurd (by decide) z)
  refine jr_aload_n d_Mo_map_51 rfl ?_
  refine jr_iload_n d_Mo_map_52 rfl ?_
  refine jr_iload_n d_Mo_map_53 rfl ?_
  refine jr_callV (As := [.int (nI k), .int (nI sl)]) d_Mo_map_54 k_Mo_map_139 (jl_ss hO) rfl rfl rfl (Nat.le_of_ble_eq_true rfl) (by decide) (by decide) (mo_noMF hl (jl_ss hO) (MoW.sx hw (Or.inl (by decide))) hk hs4 hnm) ?_
  show jl_W l G m_Mo_map (0, 0) 57 [some (.ref 22), some (.int (nI k)), some (.int (nI sl)), some (.int (nI pc)), some (.int (nI i)), none] [.int (nI 0)] (σ.set (22) (.inr (7, [.int (nI 0), .ref 23, .ref 24, .ref 25, .ref 26, .ref 27, .ref 28, .ref 29, .ref 30, .ref 31, .ref 32, .ref 33, .ref 34, .ref 35, .ref 36, .ref 37, .int (vf), .int (wh), .int (wy), .ref 38, .ref 39, .ref 40, .ref 41, .int (hg), .ref 42, .ref 43, .ref 44, .ref 45, .ref 46, .ref 47, .ref 48, .ref 49, .int (dp), .ref 50, .ref 51, .ref 52, .int (md), .int (ov), .int (oh), .int (dn), .int (an)]))) (.inl (some (.int (if mm (12 * (96 * k + 24 * sl + pc) + 6) = -2 then -2 else mm (12 * (96 * k + 24 * sl + pc) + i))))) (σ.set 22 (.inr (7, MoF (nI 0) vf wh wy hg dp md ov oh dn an)))
  refine jr_if_eq 66 d_Mo_map_57 (by decide) (fun _ => ?_) (fun z => absurd (by decide) z)
  refine jr_bipush ((nI (12))) d_Mo_map_66 (by decide) ?_
  refine jr_bipush ((nI (96))) d_Mo_map_68 (by decide) ?_
  refine jr_iload_n d_Mo_map_70 rfl ?_
  refine jr_imulN d_Mo_map_71 ?_
  refine jr_bipush ((nI (24))) d_Mo_map_72 (by decide) ?_
  refine jr_iload_n d_Mo_map_74 rfl ?_
  refine jr_imulN d_Mo_map_75 ?_
  refine jr_iaddN d_Mo_map_76 ?_
  refine jr_iload_n d_Mo_map_77 rfl ?_
  refine jr_iaddN d_Mo_map_78 ?_
  refine jr_imulN d_Mo_map_79 ?_
  refine jr_istore d_Mo_map_80 (by decide) ?_
  show jl_W l G m_Mo_map (0, 0) 82 [some (.ref 22), some (.int (nI k)), some (.int (nI sl)), some (.int (nI pc)), some (.int (nI i)), some (.int (nI ((12) * ((((96) * (k)) + ((24) * (sl))) + (pc)))))] [] (σ.set (22) (.inr (7, [.int (nI 0), .ref 23, .ref 24, .ref 25, .ref 26, .ref 27, .ref 28, .ref 29, .ref 30, .ref 31, .ref 32, .ref 33, .ref 34, .ref 35, .ref 36, .ref 37, .int (vf), .int (wh), .int (wy), .ref 38, .ref 39, .ref 40, .ref 41, .int (hg), .ref 42, .ref 43, .ref 44, .ref 45, .ref 46, .ref 47, .ref 48, .ref 49, .int (dp), .ref 50, .ref 51, .ref 52, .int (md), .int (ov), .int (oh), .int (dn), .int (an)]))) (.inl (some (.int (if mm (12 * (96 * k + 24 * sl + pc) + 6) = -2 then -2 else mm (12 * (96 * k + 24 * sl + pc) + i))))) (σ.set 22 (.inr (7, MoF (nI 0) vf wh wy hg dp md ov oh dn an)))
  refine jr_aload_n d_Mo_map_82 rfl ?_
  refine jr_getf d_Mo_map_83 f_Mo_map_63 (jl_ss hO) rfl ?_
  refine jr_iload d_Mo_map_86 rfl ?_
  refine jr_bipush ((nI (6))) d_Mo_map_88 (by decide) ?_
  refine jr_iaddN d_Mo_map_90 ?_
  refine jr_ialdN d_Mo_map_91 (jl_sn (by decide) hP) (by omega) (by omega) ?_
  refine jr_bipush ((-2)) d_Mo_map_92 (by decide) ?_
  refine jr_icmp_ne 102 d_Mo_map_94 (by decide) (fun c1 => ?_) (fun c1 => ?_)
  · refine jr_aload_n d_Mo_map_102 rfl ?_
    refine jr_getf d_Mo_map_103 f_Mo_map_63 (jl_ss hO) rfl ?_
    refine jr_iload d_Mo_map_106 rfl ?_
    refine jr_iload d_Mo_map_108 rfl ?_
    refine jr_iaddN d_Mo_map_110 ?_
    refine jr_ialdN d_Mo_map_111 (jl_sn (by decide) hP) (by omega) (by omega) ?_
    exact jr_iretE d_Mo_map_112 rfl (by rw [if_neg c1]) (rfl) (by decide) (by decide)
  · refine jr_bipush ((-2)) d_Mo_map_97 (by decide) ?_
    refine jr_goto 112 d_Mo_map_99 (by decide) ?_
    exact jr_iretE d_Mo_map_112 rfl (by rw [if_pos c1]) (rfl) (by decide) (by decide)
theorem mo_outF (hl : l.stackTraces = false) {v n : Int32} (hO : MoO σ fa vf wh wy hg dp md ov oh dn an) (hw : MoW σ tb pr ow ft hs) {b : Bool} (h : outB v n = b) : jl_m l G m_Mo_out [.ref 22, .int v, .int n] σ (.inl (some (.int (bi b)))) σ := by
  have q := mo_out (G := G) (v := v) (n := n) hl hO hw
  rw [h] at q
  exact q
theorem d_Mo_heap_0 : decode m_Mo_heap.2.1 0 = .ok (.aload_n 0, 1) := by decide +kernel
theorem d_Mo_heap_1 : decode m_Mo_heap.2.1 1 = .ok (.iconst 0, 1) := by decide +kernel
theorem p_Mo_heap_111 : jl_fp m_Mo_heap 111 7 0 = true := by decide +kernel
theorem d_Mo_heap_2 : decode m_Mo_heap.2.1 2 = .ok (.putfield 111, 3) := by decide +kernel
theorem d_Mo_heap_5 : decode m_Mo_heap.2.1 5 = .ok (.aload_n 0, 1) := by decide +kernel
theorem d_Mo_heap_6 : decode m_Mo_heap.2.1 6 = .ok (.iload_n 1, 1) := by decide +kernel
theorem d_Mo_heap_7 : decode m_Mo_heap.2.1 7 = .ok (.aload_n 0, 1) := by decide +kernel
theorem f_Mo_heap_227 : jl_fd m_Mo_heap 227 7 36 = true := by decide +kernel
theorem d_Mo_heap_8 : decode m_Mo_heap.2.1 8 = .ok (.getfield 227, 3) := by decide +kernel
theorem k_Mo_heap_114 : jl_cv m_Mo_heap m_Mo_out 114 2 = true := by decide +kernel
theorem d_Mo_heap_11 : decode m_Mo_heap.2.1 11 = .ok (.invokevirtual 114, 3) := by decide +kernel
theorem d_Mo_heap_14 : decode m_Mo_heap.2.1 14 = .ok (.ifCond .ne 17, 3) := by decide +kernel
theorem d_Mo_heap_31 : decode m_Mo_heap.2.1 31 = .ok (.aload_n 0, 1) := by decide +kernel
theorem d_Mo_heap_32 : decode m_Mo_heap.2.1 32 = .ok (.iconst 1, 1) := by decide +kernel
theorem k_Mo_heap_118 : jl_cv m_Mo_heap m_Mo_fail 118 1 = true := by decide +kernel
theorem d_Mo_heap_33 : decode m_Mo_heap.2.1 33 = .ok (.invokevirtual 118, 3) := by decide +kernel
theorem d_Mo_heap_36 : decode m_Mo_heap.2.1 36 = .ok (.goto 14, 3) := by decide +kernel
theorem d_Mo_heap_50 : decode m_Mo_heap.2.1 50 = .ok (.ireturn, 1) := by decide +kernel
theorem mo_heap_X1 (hl : l.stackTraces = false) {n i : Int32} (hO : MoO σ fa vf wh wy hg dp (nI m) ov oh dn an) (hw : MoW σ tb pr ow ft hs) (hH : MoH σ ks kc kv) (h : outB n (nI m) = true) : jl_m l G m_Mo_heap [.ref 22, .int (n), .int (i)] σ (.inl (some (.int (nI 0)))) (σ.set 22 (.inr (7, MoF (nI 1) vf wh wy hg dp (nI m) ov oh dn an))) := by
  obtain ⟨h23, h24, h25, h26, h27⟩ := id hw; obtain ⟨k1, k2, k3⟩ := id hH
  refine jl_of (as := [.ref 22, .int (n), .int (i)]) rfl (by decide) hl (jl_cc rfl (jl_cc rfl (jl_cc rfl jl_ca))) (Nat.le_of_ble_eq_true rfl) ?_
  show jl_W l G m_Mo_heap (0, 0) 0 [some (.ref 22), some (.int (n)), some (.int (i))] [] (σ) (.inl (some (.int (nI 0)))) (σ.set 22 (.inr (7, MoF (nI 1) vf wh wy hg dp (nI m) ov oh dn an)))
  refine jr_aload_n d_Mo_heap_0 rfl ?_
  refine jr_iconst ((nI (0))) d_Mo_heap_1 (by decide) ?_
  refine jr_putf d_Mo_heap_2 p_Mo_heap_111 hO (Nat.le_of_ble_eq_true rfl) jl_fit_int ?_
  show jl_W l G m_Mo_heap (0, 0) 5 [some (.ref 22), some (.int (n)), some (.int (i))] [] (σ.set (22) (.inr (7, [.int (nI 0), .ref 23, .ref 24, .ref 25, .ref 26, .ref 27, .ref 28, .ref 29, .ref 30, .ref 31, .ref 32, .ref 33, .ref 34, .ref 35, .ref 36, .ref 37, .int (vf), .int (wh), .int (wy), .ref 38, .ref 39, .ref 40, .ref 41, .int (hg), .ref 42, .ref 43, .ref 44, .ref 45, .ref 46, .ref 47, .ref 48, .ref 49, .int (dp), .ref 50, .ref 51, .ref 52, .int (nI m), .int (ov), .int (oh), .int (dn), .int (an)]))) (.inl (some (.int (nI 0)))) (σ.set 22 (.inr (7, MoF (nI 1) vf wh wy hg dp (nI m) ov oh dn an)))
  refine jr_aload_n d_Mo_heap_5 rfl ?_
  refine jr_iload_n d_Mo_heap_6 rfl ?_
  refine jr_aload_n d_Mo_heap_7 rfl ?_
  refine jr_getf d_Mo_heap_8 f_Mo_heap_227 (jl_ss hO) rfl ?_
  refine jr_callV (As := [.int (n), .int (nI m)]) d_Mo_heap_11 k_Mo_heap_114 (jl_ss hO) rfl rfl rfl (Nat.le_of_ble_eq_true rfl) (by decide) (by decide) (mo_outF hl (jl_ss hO) (MoW.sx hw (Or.inl (by decide))) (h)) ?_
  show jl_W l G m_Mo_heap (0, 0) 14 [some (.ref 22), some (.int (n)), some (.int (i))] [.int (nI 1)] (σ.set (22) (.inr (7, [.int (nI 0), .ref 23, .ref 24, .ref 25, .ref 26, .ref 27, .ref 28, .ref 29, .ref 30, .ref 31, .ref 32, .ref 33, .ref 34, .ref 35, .ref 36, .ref 37, .int (vf), .int (wh), .int (wy), .ref 38, .ref 39, .ref 40, .ref 41, .int (hg), .ref 42, .ref 43, .ref 44, .ref 45, .ref 46, .ref 47, .ref 48, .ref 49, .int (dp), .ref 50, .ref 51, .ref 52, .int (nI m), .int (ov), .int (oh), .int (dn), .int (an)]))) (.inl (some (.int (nI 0)))) (σ.set 22 (.inr (7, MoF (nI 1) vf wh wy hg dp (nI m) ov oh dn an)))
  refine jr_if_ne 31 d_Mo_heap_14 (by decide) (fun _ => ?_) (fun z => absurd z (by decide))
  refine jr_aload_n d_Mo_heap_31 rfl ?_
  refine jr_iconst ((nI (1))) d_Mo_heap_32 (by decide) ?_
  refine jr_callV (As := [.int (nI 1)]) d_Mo_heap_33 k_Mo_heap_118 (jl_ss hO) rfl rfl rfl (Nat.le_of_ble_eq_true rfl) (by decide) (by decide) (mo_fail hl (jl_ss hO) (MoW.sx hw (Or.inl (by decide)))) ?_
  show jl_W l G m_Mo_heap (0, 0) 36 [some (.ref 22), some (.int (n)), some (.int (i))] [.int (nI 0)] ((σ.set (22) (.inr (7, [.int (nI 0), .ref 23, .ref 24, .ref 25, .ref 26, .ref 27, .ref 28, .ref 29, .ref 30, .ref 31, .ref 32, .ref 33, .ref 34, .ref 35, .ref 36, .ref 37, .int (vf), .int (wh), .int (wy), .ref 38, .ref 39, .ref 40, .ref 41, .int (hg), .ref 42, .ref 43, .ref 44, .ref 45, .ref 46, .ref 47, .ref 48, .ref 49, .int (dp), .ref 50, .ref 51, .ref 52, .int (nI m), .int (ov), .int (oh), .int (dn), .int (an)]))).set (22) (.inr (7, [.int (nI 1), .ref 23, .ref 24, .ref 25, .ref 26, .ref 27, .ref 28, .ref 29, .ref 30, .ref 31, .ref 32, .ref 33, .ref 34, .ref 35, .ref 36, .ref 37, .int (vf), .int (wh), .int (wy), .ref 38, .ref 39, .ref 40, .ref 41, .int (hg), .ref 42, .ref 43, .ref 44, .ref 45, .ref 46, .ref 47, .ref 48, .ref 49, .int (dp), .ref 50, .ref 51, .ref 52, .int (nI m), .int (ov), .int (oh), .int (dn), .int (an)]))) (.inl (some (.int (nI 0)))) (σ.set 22 (.inr (7, MoF (nI 1) vf wh wy hg dp (nI m) ov oh dn an)))
  refine jr_goto 50 d_Mo_heap_36 (by decide) ?_
  exact jr_iretE d_Mo_heap_50 rfl (rfl) ((List.set_set ..).symm) (by decide) (by decide)
theorem d_Mo_heap_17 : decode m_Mo_heap.2.1 17 = .ok (.aload_n 0, 1) := by decide +kernel
theorem d_Mo_heap_18 : decode m_Mo_heap.2.1 18 = .ok (.iload_n 2, 1) := by decide +kernel
theorem d_Mo_heap_19 : decode m_Mo_heap.2.1 19 = .ok (.aload_n 0, 1) := by decide +kernel
theorem f_Mo_heap_102 : jl_fd m_Mo_heap 102 7 34 = true := by decide +kernel
theorem d_Mo_heap_20 : decode m_Mo_heap.2.1 20 = .ok (.getfield 102, 3) := by decide +kernel
theorem d_Mo_heap_23 : decode m_Mo_heap.2.1 23 = .ok (.iload_n 1, 1) := by decide +kernel
theorem d_Mo_heap_24 : decode m_Mo_heap.2.1 24 = .ok (.iaload, 1) := by decide +kernel
theorem d_Mo_heap_25 : decode m_Mo_heap.2.1 25 = .ok (.invokevirtual 114, 3) := by decide +kernel
theorem d_Mo_heap_28 : decode m_Mo_heap.2.1 28 = .ok (.ifCond .eq 11, 3) := by decide +kernel
theorem mo_heap_X2 (hl : l.stackTraces = false) {n : Nat} {i : Int32} (hO : MoO σ fa vf wh wy hg dp (nI m) ov oh dn an) (hw : MoW σ tb pr ow ft hs) (hH : MoH σ ks kc kv) (hn : n < m) (hm : m ≤ 40) (h : outB i (nI (kc n)) = true) : jl_m l G m_Mo_heap [.ref 22, .int (nI n), .int (i)] σ (.inl (some (.int (nI 0)))) (σ.set 22 (.inr (7, MoF (nI 1) vf wh wy hg dp (nI m) ov oh dn an))) := by
  obtain ⟨h23, h24, h25, h26, h27⟩ := id hw; obtain ⟨k1, k2, k3⟩ := id hH
  refine jl_of (as := [.ref 22, .int (nI n), .int (i)]) rfl (by decide) hl (jl_cc rfl (jl_cc rfl (jl_cc rfl jl_ca))) (Nat.le_of_ble_eq_true rfl) ?_
  show jl_W l G m_Mo_heap (0, 0) 0 [some (.ref 22), some (.int (nI n)), some (.int (i))] [] (σ) (.inl (some (.int (nI 0)))) (σ.set 22 (.inr (7, MoF (nI 1) vf wh wy hg dp (nI m) ov oh dn an)))
  refine jr_aload_n d_Mo_heap_0 rfl ?_
  refine jr_iconst ((nI (0))) d_Mo_heap_1 (by decide) ?_
  refine jr_putf d_Mo_heap_2 p_Mo_heap_111 hO (Nat.le_of_ble_eq_true rfl) jl_fit_int ?_
  show jl_W l G m_Mo_heap (0, 0) 5 [some (.ref 22), some (.int (nI n)), some (.int (i))] [] (σ.set (22) (.inr (7, [.int (nI 0), .ref 23, .ref 24, .ref 25, .ref 26, .ref 27, .ref 28, .ref 29, .ref 30, .ref 31, .ref 32, .ref 33, .ref 34, .ref 35, .ref 36, .ref 37, .int (vf), .int (wh), .int (wy), .ref 38, .ref 39, .ref 40, .ref 41, .int (hg), .ref 42, .ref 43, .ref 44, .ref 45, .ref 46, .ref 47, .ref 48, .ref 49, .int (dp), .ref 50, .ref 51, .ref 52, .int (nI m), .int (ov), .int (oh), .int (dn), .int (an)]))) (.inl (some (.int (nI 0)))) (σ.set 22 (.inr (7, MoF (nI 1) vf wh wy hg dp (nI m) ov oh dn an)))
  refine jr_aload_n d_Mo_heap_5 rfl ?_
  refine jr_iload_n d_Mo_heap_6 rfl ?_
  refine jr_aload_n d_Mo_heap_7 rfl ?_
  refine jr_getf d_Mo_heap_8 f_Mo_heap_227 (jl_ss hO) rfl ?_
  refine jr_callV (As := [.int (nI n), .int (nI m)]) d_Mo_heap_11 k_Mo_heap_114 (jl_ss hO) rfl rfl rfl (Nat.le_of_ble_eq_true rfl) (by decide) (by decide) (mo_outF hl (jl_ss hO) (MoW.sx hw (Or.inl (by decide))) (outB_n (by omega) hn)) ?_
  show jl_W l G m_Mo_heap (0, 0) 14 [some (.ref 22), some (.int (nI n)), some (.int (i))] [.int (nI 0)] (σ.set (22) (.inr (7, [.int (nI 0), .ref 23, .ref 24, .ref 25, .ref 26, .ref 27, .ref 28, .ref 29, .ref 30, .ref 31, .ref 32, .ref 33, .ref 34, .ref 35, .ref 36, .ref 37, .int (vf), .int (wh), .int (wy), .ref 38, .ref 39, .ref 40, .ref 41, .int (hg), .ref 42, .ref 43, .ref 44, .ref 45, .ref 46, .ref 47, .ref 48, .ref 49, .int (dp), .ref 50, .ref 51, .ref 52, .int (nI m), .int (ov), .int (oh), .int (dn), .int (an)]))) (.inl (some (.int (nI 0)))) (σ.set 22 (.inr (7, MoF (nI 1) vf wh wy hg dp (nI m) ov oh dn an)))
  refine jr_if_ne 31 d_Mo_heap_14 (by decide) (fun z => absurd rfl z) (fun _ => ?_)
  refine jr_aload_n d_Mo_heap_17 rfl ?_
  refine jr_iload_n d_Mo_heap_18 rfl ?_
  refine jr_aload_n d_Mo_heap_19 rfl ?_
  refine jr_getf d_Mo_heap_20 f_Mo_heap_102 (jl_ss hO) rfl ?_
  refine jr_iload_n d_Mo_heap_23 rfl ?_
  refine jr_ialdN d_Mo_heap_24 (jl_sn (by decide) k2) (by omega) (by omega) ?_
  refine jr_callV (As := [.int (i), .int (nI (kc (n)))]) d_Mo_heap_25 k_Mo_heap_114 (jl_ss hO) rfl rfl rfl (Nat.le_of_ble_eq_true rfl) (by decide) (by decide) (mo_outF hl (jl_ss hO) (MoW.sx hw (Or.inl (by decide))) (h)) ?_
  show jl_W l G m_Mo_heap (0, 0) 28 [some (.ref 22), some (.int (nI n)), some (.int (i))] [.int (nI 1)] (σ.set (22) (.inr (7, [.int (nI 0), .ref 23, .ref 24, .ref 25, .ref 26, .ref 27, .ref 28, .ref 29, .ref 30, .ref 31, .ref 32, .ref 33, .ref 34, .ref 35, .ref 36, .ref 37, .int (vf), .int (wh), .int (wy), .ref 38, .ref 39, .ref 40, .ref 41, .int (hg), .ref 42, .ref 43, .ref 44, .ref 45, .ref 46, .ref 47, .ref 48, .ref 49, .int (dp), .ref 50, .ref 51, .ref 52, .int (nI m), .int (ov), .int (oh), .int (dn), .int (an)]))) (.inl (some (.int (nI 0)))) (σ.set 22 (.inr (7, MoF (nI 1) vf wh wy hg dp (nI m) ov oh dn an)))
  refine jr_if_eq 39 d_Mo_heap_28 (by decide) (fun z => absurd z (by decide)) (fun _ => ?_)
  refine jr_aload_n d_Mo_heap_31 rfl ?_
  refine jr_iconst ((nI (1))) d_Mo_heap_32 (by decide) ?_
  refine jr_callV (As := [.int (nI 1)]) d_Mo_heap_33 k_Mo_heap_118 (jl_ss hO) rfl rfl rfl (Nat.le_of_ble_eq_true rfl) (by decide) (by decide) (mo_fail hl (jl_ss hO) (MoW.sx hw (Or.inl (by decide)))) ?_
  show jl_W l G m_Mo_heap (0, 0) 36 [some (.ref 22), some (.int (nI n)), some (.int (i))] [.int (nI 0)] ((σ.set (22) (.inr (7, [.int (nI 0), .ref 23, .ref 24, .ref 25, .ref 26, .ref 27, .ref 28, .ref 29, .ref 30, .ref 31, .ref 32, .ref 33, .ref 34, .ref 35, .ref 36, .ref 37, .int (vf), .int (wh), .int (wy), .ref 38, .ref 39, .ref 40, .ref 41, .int (hg), .ref 42, .ref 43, .ref 44, .ref 45, .ref 46, .ref 47, .ref 48, .ref 49, .int (dp), .ref 50, .ref 51, .ref 52, .int (nI m), .int (ov), .int (oh), .int (dn), .int (an)]))).set (22) (.inr (7, [.int (nI 1), .ref 23, .ref 24, .ref 25, .ref 26, .ref 27, .ref 28, .ref 29, .ref 30, .ref 31, .ref 32, .ref 33, .ref 34, .ref 35, .ref 36, .ref 37, .int (vf), .int (wh), .int (wy), .ref 38, .ref 39, .ref 40, .ref 41, .int (hg), .ref 42, .ref 43, .ref 44, .ref 45, .ref 46, .ref 47, .ref 48, .ref 49, .int (dp), .ref 50, .ref 51, .ref 52, .int (nI m), .int (ov), .int (oh), .int (dn), .int (an)]))) (.inl (some (.int (nI 0)))) (σ.set 22 (.inr (7, MoF (nI 1) vf wh wy hg dp (nI m) ov oh dn an)))
  refine jr_goto 50 d_Mo_heap_36 (by decide) ?_
  exact jr_iretE d_Mo_heap_50 rfl (rfl) ((List.set_set ..).symm) (by decide) (by decide)
theorem d_Mo_heap_39 : decode m_Mo_heap.2.1 39 = .ok (.aload_n 0, 1) := by decide +kernel
theorem f_Mo_heap_105 : jl_fd m_Mo_heap 105 7 35 = true := by decide +kernel
theorem d_Mo_heap_40 : decode m_Mo_heap.2.1 40 = .ok (.getfield 105, 3) := by decide +kernel
theorem d_Mo_heap_43 : decode m_Mo_heap.2.1 43 = .ok (.bipush 18, 2) := by decide +kernel
theorem d_Mo_heap_45 : decode m_Mo_heap.2.1 45 = .ok (.iload_n 1, 1) := by decide +kernel
theorem d_Mo_heap_46 : decode m_Mo_heap.2.1 46 = .ok (.imul, 1) := by decide +kernel
theorem d_Mo_heap_47 : decode m_Mo_heap.2.1 47 = .ok (.iload_n 2, 1) := by decide +kernel
theorem d_Mo_heap_48 : decode m_Mo_heap.2.1 48 = .ok (.iadd, 1) := by decide +kernel
theorem d_Mo_heap_49 : decode m_Mo_heap.2.1 49 = .ok (.iaload, 1) := by decide +kernel
theorem mo_heap (hl : l.stackTraces = false) {n i : Nat} (hO : MoO σ fa vf wh wy hg dp (nI m) ov oh dn an) (hw : MoW σ tb pr ow ft hs) (hH : MoH σ ks kc kv) (hn : n < m) (hm : m ≤ 40) (hi : i < kc n) (hc : kc n ≤ 18) : jl_m l G m_Mo_heap [.ref 22, .int (nI n), .int (nI i)] σ (.inl (some (.int (kv (18 * n + i))))) (σ.set 22 (.inr (7, MoF (nI 0) vf wh wy hg dp (nI m) ov oh dn an))) := by
  obtain ⟨h23, h24, h25, h26, h27⟩ := id hw; obtain ⟨k1, k2, k3⟩ := id hH
  refine jl_of (as := [.ref 22, .int (nI n), .int (nI i)]) rfl (by decide) hl (jl_cc rfl (jl_cc rfl (jl_cc rfl jl_ca))) (Nat.le_of_ble_eq_true rfl) ?_
  show jl_W l G m_Mo_heap (0, 0) 0 [some (.ref 22), some (.int (nI n)), some (.int (nI i))] [] (σ) (.inl (some (.int (kv (18 * n + i))))) (σ.set 22 (.inr (7, MoF (nI 0) vf wh wy hg dp (nI m) ov oh dn an)))
  refine jr_aload_n d_Mo_heap_0 rfl ?_
  refine jr_iconst ((nI (0))) d_Mo_heap_1 (by decide) ?_
  refine jr_putf d_Mo_heap_2 p_Mo_heap_111 hO (Nat.le_of_ble_eq_true rfl) jl_fit_int ?_
  show jl_W l G m_Mo_heap (0, 0) 5 [some (.ref 22), some (.int (nI n)), some (.int (nI i))] [] (σ.set (22) (.inr (7, [.int (nI 0), .ref 23, .ref 24, .ref 25, .ref 26, .ref 27, .ref 28, .ref 29, .ref 30, .ref 31, .ref 32, .ref 33, .ref 34, .ref 35, .ref 36, .ref 37, .int (vf), .int (wh), .int (wy), .ref 38, .ref 39, .ref 40, .ref 41, .int (hg), .ref 42, .ref 43, .ref 44, .ref 45, .ref 46, .ref 47, .ref 48, .ref 49, .int (dp), .ref 50, .ref 51, .ref 52, .int (nI m), .int (ov), .int (oh), .int (dn), .int (an)]))) (.inl (some (.int (kv (18 * n + i))))) (σ.set 22 (.inr (7, MoF (nI 0) vf wh wy hg dp (nI m) ov oh dn an)))
  refine jr_aload_n d_Mo_heap_5 rfl ?_
  refine jr_iload_n d_Mo_heap_6 rfl ?_
  refine jr_aload_n d_Mo_heap_7 rfl ?_
  refine jr_getf d_Mo_heap_8 f_Mo_heap_227 (jl_ss hO) rfl ?_
  refine jr_callV (As := [.int (nI n), .int (nI m)]) d_Mo_heap_11 k_Mo_heap_114 (jl_ss hO) rfl rfl rfl (Nat.le_of_ble_eq_true rfl) (by decide) (by decide) (mo_outF hl (jl_ss hO) (MoW.sx hw (Or.inl (by decide))) (outB_n (by omega) hn)) ?_
  show jl_W l G m_Mo_heap (0, 0) 14 [some (.ref 22), some (.int (nI n)), some (.int (nI i))] [.int (nI 0)] (σ.set (22) (.inr (7, [.int (nI 0), .ref 23, .ref 24, .ref 25, .ref 26, .ref 27, .ref 28, .ref 29, .ref 30, .ref 31, .ref 32, .ref 33, .ref 34, .ref 35, .ref 36, .ref 37, .int (vf), .int (wh), .int (wy), .ref 38, .ref 39, .ref 40, .ref 41, .int (hg), .ref 42, .ref 43, .ref 44, .ref 45, .ref 46, .ref 47, .ref 48, .ref 49, .int (dp), .ref 50, .ref 51, .ref 52, .int (nI m), .int (ov), .int (oh), .int (dn), .int (an)]))) (.inl (some (.int (kv (18 * n + i))))) (σ.set 22 (.inr (7, MoF (nI 0) vf wh wy hg dp (nI m) ov oh dn an)))
  refine jr_if_ne 31 d_Mo_heap_14 (by decide) (fun z => absurd rfl z) (fun _ => ?_)
  refine jr_aload_n d_Mo_heap_17 rfl ?_
  refine jr_iload_n d_Mo_heap_18 rfl ?_
  refine jr_aload_n d_Mo_heap_19 rfl ?_
  refine jr_getf d_Mo_heap_20 f_Mo_heap_102 (jl_ss hO) rfl ?_
  refine jr_iload_n d_Mo_heap_23 rfl ?_
  refine jr_ialdN d_Mo_heap_24 (jl_sn (by decide) k2) (by omega) (by omega) ?_
  refine jr_callV (As := [.int (nI i), .int (nI (kc (n)))]) d_Mo_heap_25 k_Mo_heap_114 (jl_ss hO) rfl rfl rfl (Nat.le_of_ble_eq_true rfl) (by decide) (by decide) (mo_outF hl (jl_ss hO) (MoW.sx hw (Or.inl (by decide))) (outB_n (by omega) hi)) ?_
  show jl_W l G m_Mo_heap (0, 0) 28 [some (.ref 22), some (.int (nI n)), some (.int (nI i))] [.int (nI 0)] (σ.set (22) (.inr (7, [.int (nI 0), .ref 23, .ref 24, .ref 25, .ref 26, .ref 27, .ref 28, .ref 29, .ref 30, .ref 31, .ref 32, .ref 33, .ref 34, .ref 35, .ref 36, .ref 37, .int (vf), .int (wh), .int (wy), .ref 38, .ref 39, .ref 40, .ref 41, .int (hg), .ref 42, .ref 43, .ref 44, .ref 45, .ref 46, .ref 47, .ref 48, .ref 49, .int (dp), .ref 50, .ref 51, .ref 52, .int (nI m), .int (ov), .int (oh), .int (dn), .int (an)]))) (.inl (some (.int (kv (18 * n + i))))) (σ.set 22 (.inr (7, MoF (nI 0) vf wh wy hg dp (nI m) ov oh dn an)))
  refine jr_if_eq 39 d_Mo_heap_28 (by decide) (fun _ => ?_) (fun z => absurd (by decide) z)
  refine jr_aload_n d_Mo_heap_39 rfl ?_
  refine jr_getf d_Mo_heap_40 f_Mo_heap_105 (jl_ss hO) rfl ?_
  refine jr_bipush ((nI (18))) d_Mo_heap_43 (by decide) ?_
  refine jr_iload_n d_Mo_heap_45 rfl ?_
  refine jr_imulN d_Mo_heap_46 ?_
  refine jr_iload_n d_Mo_heap_47 rfl ?_
  refine jr_iaddN d_Mo_heap_48 ?_
  refine jr_ialdN d_Mo_heap_49 (jl_sn (by decide) k3) (by omega) (by omega) ?_
  exact jr_iretE d_Mo_heap_50 rfl (rfl) (rfl) (by decide) (by decide)
end JRm
