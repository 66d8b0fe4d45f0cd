/-! the model: field (wip/gen/p35.py) -/
section JMs
variable {l : Launch} {G : jl_G} {σ : jl_S} {tb : Nat → Bool} {pr : Nat → Option Nat} {ow fi ft : Nat → Nat} {hs : Nat → Bool} {fa vf wh wy hg dp md ov oh dn an : Int32}
theorem d_Mo_field_0 : decode m_Mo_field.2.1 0 = .ok (.aload_n 0, 1) := by decide +kernel
theorem d_Mo_field_1 : decode m_Mo_field.2.1 1 = .ok (.iconst 0, 1) := by decide +kernel
theorem p_Mo_field_111 : jl_fp m_Mo_field 111 7 0 = true := by decide +kernel
theorem d_Mo_field_2 : decode m_Mo_field.2.1 2 = .ok (.putfield 111, 3) := by decide +kernel
theorem d_Mo_field_5 : decode m_Mo_field.2.1 5 = .ok (.aload_n 0, 1) := by decide +kernel
theorem d_Mo_field_6 : decode m_Mo_field.2.1 6 = .ok (.iload_n 1, 1) := by decide +kernel
theorem d_Mo_field_7 : decode m_Mo_field.2.1 7 = .ok (.bipush 6, 2) := by decide +kernel
theorem k_Mo_field_114 : jl_cv m_Mo_field m_Mo_out 114 2 = true := by decide +kernel
theorem d_Mo_field_9 : decode m_Mo_field.2.1 9 = .ok (.invokevirtual 114, 3) := by decide +kernel
theorem d_Mo_field_12 : decode m_Mo_field.2.1 12 = .ok (.ifCond .ne 11, 3) := by decide +kernel
theorem d_Mo_field_23 : decode m_Mo_field.2.1 23 = .ok (.aload_n 0, 1) := by decide +kernel
theorem d_Mo_field_24 : decode m_Mo_field.2.1 24 = .ok (.iconst 1, 1) := by decide +kernel
theorem k_Mo_field_118 : jl_cv m_Mo_field m_Mo_fail 118 1 = true := by decide +kernel
theorem d_Mo_field_25 : decode m_Mo_field.2.1 25 = .ok (.invokevirtual 118, 3) := by decide +kernel
theorem d_Mo_field_28 : decode m_Mo_field.2.1 28 = .ok (.ireturn, 1) := by decide +kernel
theorem d_Mo_field_15 : decode m_Mo_field.2.1 15 = .ok (.aload_n 0, 1) := by decide +kernel
theorem d_Mo_field_16 : decode m_Mo_field.2.1 16 = .ok (.iload_n 2, 1) := by decide +kernel
theorem k_Mo_field_129 : jl_cv m_Mo_field m_Mo_isType 129 1 = true := by decide +kernel
theorem d_Mo_field_17 : decode m_Mo_field.2.1 17 = .ok (.invokevirtual 129, 3) := by decide +kernel
theorem d_Mo_field_20 : decode m_Mo_field.2.1 20 = .ok (.ifCond .ne 9, 3) := by decide +kernel
theorem mo_field_A (hl : l.stackTraces = false) {k t : Int32} (hO : MoO σ fa vf wh wy hg dp md ov oh dn an) (hw : MoW σ tb pr ow ft hs) (h : outB k (nI 6) = true ∨ isTyM t = false) : jl_m l G m_Mo_field [.ref 22, .int (k), .int (t)] σ (.inl (some (.int (nI 0)))) (σ.set 22 (.inr (7, MoF (nI 1) vf wh wy hg dp md ov oh dn an))) := by
  obtain ⟨h23, h24, h25, h26, h27⟩ := id hw
  refine jl_of (as := [.ref 22, .int (k), .int (t)]) rfl (by decide) hl (jl_cc rfl (jl_cc rfl (jl_cc rfl jl_ca))) (Nat.le_of_ble_eq_true rfl) ?_
  show jl_W l G m_Mo_field (0, 0) 0 [some (.ref 22), some (.int (k)), some (.int (t))] [] (σ) (.inl (some (.int (nI 0)))) (σ.set 22 (.inr (7, MoF (nI 1) vf wh wy hg dp md ov oh dn an)))
  refine jr_aload_n d_Mo_field_0 rfl ?_
  refine jr_iconst ((nI (0))) d_Mo_field_1 (by decide) ?_
  refine jr_putf d_Mo_field_2 p_Mo_field_111 hO (Nat.le_of_ble_eq_true rfl) jl_fit_int ?_
  show jl_W l G m_Mo_field (0, 0) 5 [some (.ref 22), some (.int (k)), some (.int (t))] [] (σ.set (22) (.inr (7, [.int (nI 0), .ref 23, .ref 24, .ref 25, .ref 26, .ref 27, .ref 28, .ref 29, .ref 30, .ref 31, .ref 32, .ref 33, .ref 34, .ref 35, .ref 36, .ref 37, .int (vf), .int (wh), .int (wy), .ref 38, .ref 39, .ref 40, .ref 41, .int (hg), .ref 42, .ref 43, .ref 44, .ref 45, .ref 46, .ref 47, .ref 48, .ref 49, .int (dp), .ref 50, .ref 51, .ref 52, .int (md), .int (ov), .int (oh), .int (dn), .int (an)]))) (.inl (some (.int (nI 0)))) (σ.set 22 (.inr (7, MoF (nI 1) vf wh wy hg dp md ov oh dn an)))
  refine jr_aload_n d_Mo_field_5 rfl ?_
  refine jr_iload_n d_Mo_field_6 rfl ?_
  refine jr_bipush ((nI (6))) d_Mo_field_7 (by decide) ?_
  refine jr_callV (As := [.int (k), .int (nI 6)]) d_Mo_field_9 k_Mo_field_114 (jl_ss hO) rfl rfl rfl (Nat.le_of_ble_eq_true rfl) (by decide) (by decide) (mo_out hl (jl_ss hO) (MoW.sx hw (Or.inl (by decide)))) ?_
  show jl_W l G m_Mo_field (0, 0) 12 [some (.ref 22), some (.int (k)), some (.int (t))] [.int (bi (outB k (nI 6)))] (σ.set (22) (.inr (7, [.int (nI 0), .ref 23, .ref 24, .ref 25, .ref 26, .ref 27, .ref 28, .ref 29, .ref 30, .ref 31, .ref 32, .ref 33, .ref 34, .ref 35, .ref 36, .ref 37, .int (vf), .int (wh), .int (wy), .ref 38, .ref 39, .ref 40, .ref 41, .int (hg), .ref 42, .ref 43, .ref 44, .ref 45, .ref 46, .ref 47, .ref 48, .ref 49, .int (dp), .ref 50, .ref 51, .ref 52, .int (md), .int (ov), .int (oh), .int (dn), .int (an)]))) (.inl (some (.int (nI 0)))) (σ.set 22 (.inr (7, MoF (nI 1) vf wh wy hg dp md ov oh dn an)))
  refine jr_if_ne 23 d_Mo_field_12 (by decide) (fun c1 => ?_) (fun c1 => ?_)
  · refine jr_aload_n d_Mo_field_23 rfl ?_
    refine jr_iconst ((nI (1))) d_Mo_field_24 (by decide) ?_
    refine jr_callV (As := [.int (nI 1)]) d_Mo_field_25 k_Mo_field_118 (jl_ss hO) rfl rfl rfl (Nat.le_of_ble_eq_true rfl) (by decide) (by decide) (mo_fail hl (jl_ss hO) (MoW.sx hw (Or.inl (by decide)))) ?_
    show jl_W l G m_Mo_field (0, 0) 28 [some (.ref 22), some (.int (k)), some (.int (t))] [.int (nI 0)] ((σ.set (22) (.inr (7, [.int (nI 0), .ref 23, .ref 24, .ref 25, .ref 26, .ref 27, .ref 28, .ref 29, .ref 30, .ref 31, .ref 32, .ref 33, .ref 34, .ref 35, .ref 36, .ref 37, .int (vf), .int (wh), .int (wy), .ref 38, .ref 39, .ref 40, .ref 41, .int (hg), .ref 42, .ref 43, .ref 44, .ref 45, .ref 46, .ref 47, .ref 48, .ref 49, .int (dp), .ref 50, .ref 51, .ref 52, .int (md), .int (ov), .int (oh), .int (dn), .int (an)]))).set (22) (.inr (7, [.int (nI 1), .ref 23, .ref 24, .ref 25, .ref 26, .ref 27, .ref 28, .ref 29, .ref 30, .ref 31, .ref 32, .ref 33, .ref 34, .ref 35, .ref 36, .ref 37, .int (vf), .int (wh), .int (wy), .ref 38, .ref 39, .ref 40, .ref 41, .int (hg), .ref 42, .ref 43, .ref 44, .ref 45, .ref 46, .ref 47, .ref 48, .ref 49, .int (dp), .ref 50, .ref 51, .ref 52, .int (md), .int (ov), .int (oh), .int (dn), .int (an)]))) (.inl (some (.int (nI 0)))) (σ.set 22 (.inr (7, MoF (nI 1) vf wh wy hg dp md ov oh dn an)))
    exact jr_iretE d_Mo_field_28 rfl (rfl) ((List.set_set ..).symm) (by decide) (by decide)
  · refine jr_aload_n d_Mo_field_15 rfl ?_
    refine jr_iload_n d_Mo_field_16 rfl ?_
    refine jr_callV (As := [.int (t)]) d_Mo_field_17 k_Mo_field_129 (jl_ss hO) rfl rfl rfl (Nat.le_of_ble_eq_true rfl) (by decide) (by decide) (mo_isType hl (jl_ss hO) (MoW.sx hw (Or.inl (by decide)))) ?_
    show jl_W l G m_Mo_field (0, 0) 20 [some (.ref 22), some (.int (k)), some (.int (t))] [.int (bi (isTyM (t)))] (σ.set (22) (.inr (7, [.int (nI 0), .ref 23, .ref 24, .ref 25, .ref 26, .ref 27, .ref 28, .ref 29, .ref 30, .ref 31, .ref 32, .ref 33, .ref 34, .ref 35, .ref 36, .ref 37, .int (vf), .int (wh), .int (wy), .ref 38, .ref 39, .ref 40, .ref 41, .int (hg), .ref 42, .ref 43, .ref 44, .ref 45, .ref 46, .ref 47, .ref 48, .ref 49, .int (dp), .ref 50, .ref 51, .ref 52, .int (md), .int (ov), .int (oh), .int (dn), .int (an)]))) (.inl (some (.int (nI 0)))) (σ.set 22 (.inr (7, MoF (nI 1) vf wh wy hg dp md ov oh dn an)))
    refine jr_if_ne 29 d_Mo_field_20 (by decide) (fun c2 => ?_) (fun c2 => ?_)
    · exact False.elim (h.elim (fun q => by rw [bi_0.mp c1] at q; cases q) (fun q => by rw [bi_nf c2] at q; cases q))
    · refine jr_aload_n d_Mo_field_23 rfl ?_
      refine jr_iconst ((nI (1))) d_Mo_field_24 (by decide) ?_
      refine jr_callV (As := [.int (nI 1)]) d_Mo_field_25 k_Mo_field_118 (jl_ss hO) rfl rfl rfl (Nat.le_of_ble_eq_true rfl) (by decide) (by decide) (mo_fail hl (jl_ss hO) (MoW.sx hw (Or.inl (by decide)))) ?_
      show jl_W l G m_Mo_field (0, 0) 28 [some (.ref 22), some (.int (k)), some (.int (t))] [.int (nI 0)] ((σ.set (22) (.inr (7, [.int (nI 0), .ref 23, .ref 24, .ref 25, .ref 26, .ref 27, .ref 28, .ref 29, .ref 30, .ref 31, .ref 32, .ref 33, .ref 34, .ref 35, .ref 36, .ref 37, .int (vf), .int (wh), .int (wy), .ref 38, .ref 39, .ref 40, .ref 41, .int (hg), .ref 42, .ref 43, .ref 44, .ref 45, .ref 46, .ref 47, .ref 48, .ref 49, .int (dp), .ref 50, .ref 51, .ref 52, .int (md), .int (ov), .int (oh), .int (dn), .int (an)]))).set (22) (.inr (7, [.int (nI 1), .ref 23, .ref 24, .ref 25, .ref 26, .ref 27, .ref 28, .ref 29, .ref 30, .ref 31, .ref 32, .ref 33, .ref 34, .ref 35, .ref 36, .ref 37, .int (vf), .int (wh), .int (wy), .ref 38, .ref 39, .ref 40, .ref 41, .int (hg), .ref 42, .ref 43, .ref 44, .ref 45, .ref 46, .ref 47, .ref 48, .ref 49, .int (dp), .ref 50, .ref 51, .ref 52, .int (md), .int (ov), .int (oh), .int (dn), .int (an)]))) (.inl (some (.int (nI 0)))) (σ.set 22 (.inr (7, MoF (nI 1) vf wh wy hg dp md ov oh dn an)))
      exact jr_iretE d_Mo_field_28 rfl (rfl) ((List.set_set ..).symm) (by decide) (by decide)
theorem d_Mo_field_29 : decode m_Mo_field.2.1 29 = .ok (.aload_n 0, 1) := by decide +kernel
theorem f_Mo_field_7 : jl_fd m_Mo_field 7 7 1 = true := by decide +kernel
theorem d_Mo_field_30 : decode m_Mo_field.2.1 30 = .ok (.getfield 7, 3) := by decide +kernel
theorem d_Mo_field_33 : decode m_Mo_field.2.1 33 = .ok (.iload_n 1, 1) := by decide +kernel
theorem d_Mo_field_34 : decode m_Mo_field.2.1 34 = .ok (.baload, 1) := by decide +kernel
theorem d_Mo_field_35 : decode m_Mo_field.2.1 35 = .ok (.ifCond .ne 9, 3) := by decide +kernel
theorem d_Mo_field_38 : decode m_Mo_field.2.1 38 = .ok (.aload_n 0, 1) := by decide +kernel
theorem d_Mo_field_39 : decode m_Mo_field.2.1 39 = .ok (.iconst 2, 1) := by decide +kernel
theorem d_Mo_field_40 : decode m_Mo_field.2.1 40 = .ok (.invokevirtual 118, 3) := by decide +kernel
theorem d_Mo_field_43 : decode m_Mo_field.2.1 43 = .ok (.ireturn, 1) := by decide +kernel
theorem mo_field_C (hl : l.stackTraces = false) {k : Nat} {t : Int32} (hO : MoO σ fa vf wh wy hg dp md ov oh dn an) (hw : MoW σ tb pr ow ft hs) (hk : k < 6) (h : isTyM t = true) (ht : tb k = false) : jl_m l G m_Mo_field [.ref 22, .int (nI k), .int (t)] σ (.inl (some (.int (nI 0)))) (σ.set 22 (.inr (7, MoF (nI 2) vf wh wy hg dp md ov oh dn an))) := by
  obtain ⟨h23, h24, h25, h26, h27⟩ := id hw
  refine jl_of (as := [.ref 22, .int (nI k), .int (t)]) rfl (by decide) hl (jl_cc rfl (jl_cc rfl (jl_cc rfl jl_ca))) (Nat.le_of_ble_eq_true rfl) ?_
  show jl_W l G m_Mo_field (0, 0) 0 [some (.ref 22), some (.int (nI k)), some (.int (t))] [] (σ) (.inl (some (.int (nI 0)))) (σ.set 22 (.inr (7, MoF (nI 2) vf wh wy hg dp md ov oh dn an)))
  refine jr_aload_n d_Mo_field_0 rfl ?_
  refine jr_iconst ((nI (0))) d_Mo_field_1 (by decide) ?_
  refine jr_putf d_Mo_field_2 p_Mo_field_111 hO (Nat.le_of_ble_eq_true rfl) jl_fit_int ?_
  show jl_W l G m_Mo_field (0, 0) 5 [some (.ref 22), some (.int (nI k)), some (.int (t))] [] (σ.set (22) (.inr (7, [.int (nI 0), .ref 23, .ref 24, .ref 25, .ref 26, .ref 27, .ref 28, .ref 29, .ref 30, .ref 31, .ref 32, .ref 33, .ref 34, .ref 35, .ref 36, .ref 37, .int (vf), .int (wh), .int (wy), .ref 38, .ref 39, .ref 40, .ref 41, .int (hg), .ref 42, .ref 43, .ref 44, .ref 45, .ref 46, .ref 47, .ref 48, .ref 49, .int (dp), .ref 50, .ref 51, .ref 52, .int (md), .int (ov), .int (oh), .int (dn), .int (an)]))) (.inl (some (.int (nI 0)))) (σ.set 22 (.inr (7, MoF (nI 2) vf wh wy hg dp md ov oh dn an)))
  refine jr_aload_n d_Mo_field_5 rfl ?_
  refine jr_iload_n d_Mo_field_6 rfl ?_
  refine jr_bipush ((nI (6))) d_Mo_field_7 (by decide) ?_
  refine jr_callV (As := [.int (nI k), .int (nI 6)]) d_Mo_field_9 k_Mo_field_114 (jl_ss hO) rfl rfl rfl (Nat.le_of_ble_eq_true rfl) (by decide) (by decide) (mo_outN hl (jl_ss hO) (MoW.sx hw (Or.inl (by decide))) (by decide) (by omega)) ?_
  show jl_W l G m_Mo_field (0, 0) 12 [some (.ref 22), some (.int (nI k)), some (.int (t))] [.int (nI 0)] (σ.set (22) (.inr (7, [.int (nI 0), .ref 23, .ref 24, .ref 25, .ref 26, .ref 27, .ref 28, .ref 29, .ref 30, .ref 31, .ref 32, .ref 33, .ref 34, .ref 35, .ref 36, .ref 37, .int (vf), .int (wh), .int (wy), .ref 38, .ref 39, .ref 40, .ref 41, .int (hg), .ref 42, .ref 43, .ref 44, .ref 45, .ref 46, .ref 47, .ref 48, .ref 49, .int (dp), .ref 50, .ref 51, .ref 52, .int (md), .int (ov), .int (oh), .int (dn), .int (an)]))) (.inl (some (.int (nI 0)))) (σ.set 22 (.inr (7, MoF (nI 2) vf wh wy hg dp md ov oh dn an)))
  refine jr_if_ne 23 d_Mo_field_12 (by decide) (fun z => absurd rfl z) (fun _ => ?_)
  refine jr_aload_n d_Mo_field_15 rfl ?_
  refine jr_iload_n d_Mo_field_16 rfl ?_
  refine jr_callV (As := [.int (t)]) d_Mo_field_17 k_Mo_field_129 (jl_ss hO) rfl rfl rfl (Nat.le_of_ble_eq_true rfl) (by decide) (by decide) (mo_isType hl (jl_ss hO) (MoW.sx hw (Or.inl (by decide)))) ?_
  show jl_W l G m_Mo_field (0, 0) 20 [some (.ref 22), some (.int (nI k)), some (.int (t))] [.int (bi (isTyM (t)))] (σ.set (22) (.inr (7, [.int (nI 0), .ref 23, .ref 24, .ref 25, .ref 26, .ref 27, .ref 28, .ref 29, .ref 30, .ref 31, .ref 32, .ref 33, .ref 34, .ref 35, .ref 36, .ref 37, .int (vf), .int (wh), .int (wy), .ref 38, .ref 39, .ref 40, .ref 41, .int (hg), .ref 42, .ref 43, .ref 44, .ref 45, .ref 46, .ref 47, .ref 48, .ref 49, .int (dp), .ref 50, .ref 51, .ref 52, .int (md), .int (ov), .int (oh), .int (dn), .int (an)]))) (.inl (some (.int (nI 0)))) (σ.set 22 (.inr (7, MoF (nI 2) vf wh wy hg dp md ov oh dn an)))
  refine jr_if_ne 29 d_Mo_field_20 (by decide) (fun c1 => ?_) (fun c1 => ?_)
  · refine jr_aload_n d_Mo_field_29 rfl ?_
    refine jr_getf d_Mo_field_30 f_Mo_field_7 (jl_ss hO) rfl ?_
    refine jr_iload_n d_Mo_field_33 rfl ?_
    refine jr_baldN d_Mo_field_34 (jl_sn (by decide) h23) (by omega) (by omega) ?_
    refine jr_if_ne 44 d_Mo_field_35 (by decide) (fun c2 => ?_) (fun c2 => ?_)
    · exact absurd (bi_nf c2) (by rw [ht]; decide)
    · refine jr_aload_n d_Mo_field_38 rfl ?_
      refine jr_iconst ((nI (2))) d_Mo_field_39 (by decide) ?_
      refine jr_callV (As := [.int (nI 2)]) d_Mo_field_40 k_Mo_field_118 (jl_ss hO) rfl rfl rfl (Nat.le_of_ble_eq_true rfl) (by decide) (by decide) (mo_fail hl (jl_ss hO) (MoW.sx hw (Or.inl (by decide)))) ?_
      show jl_W l G m_Mo_field (0, 0) 43 [some (.ref 22), some (.int (nI k)), some (.int (t))] [.int (nI 0)] ((σ.set (22) (.inr (7, [.int (nI 0), .ref 23, .ref 24, .ref 25, .ref 26, .ref 27, .ref 28, .ref 29, .ref 30, .ref 31, .ref 32, .ref 33, .ref 34, .ref 35, .ref 36, .ref 37, .int (vf), .int (wh), .int (wy), .ref 38, .ref 39, .ref 40, .ref 41, .int (hg), .ref 42, .ref 43, .ref 44, .ref 45, .ref 46, .ref 47, .ref 48, .ref 49, .int (dp), .ref 50, .ref 51, .ref 52, .int (md), .int (ov), .int (oh), .int (dn), .int (an)]))).set (22) (.inr (7, [.int (nI 2), .ref 23, .ref 24, .ref 25, .ref 26, .ref 27, .ref 28, .ref 29, .ref 30, .ref 31, .ref 32, .ref 33, .ref 34, .ref 35, .ref 36, .ref 37, .int (vf), .int (wh), .int (wy), .ref 38, .ref 39, .ref 40, .ref 41, .int (hg), .ref 42, .ref 43, .ref 44, .ref 45, .ref 46, .ref 47, .ref 48, .ref 49, .int (dp), .ref 50, .ref 51, .ref 52, .int (md), .int (ov), .int (oh), .int (dn), .int (an)]))) (.inl (some (.int (nI 0)))) (σ.set 22 (.inr (7, MoF (nI 2) vf wh wy hg dp md ov oh dn an)))
      exact jr_iretE d_Mo_field_43 rfl (rfl) ((List.set_set ..).symm) (by decide) (by decide)
  · exact absurd h (by rw [bi_0.mp c1]; decide)
theorem d_Mo_field_44 : decode m_Mo_field.2.1 44 = .ok (.aload_n 0, 1) := by decide +kernel
theorem f_Mo_field_17 : jl_fd m_Mo_field 17 7 3 = true := by decide +kernel
theorem d_Mo_field_45 : decode m_Mo_field.2.1 45 = .ok (.getfield 17, 3) := by decide +kernel
theorem d_Mo_field_48 : decode m_Mo_field.2.1 48 = .ok (.iload_n 1, 1) := by decide +kernel
theorem d_Mo_field_49 : decode m_Mo_field.2.1 49 = .ok (.iaload, 1) := by decide +kernel
theorem d_Mo_field_50 : decode m_Mo_field.2.1 50 = .ok (.iconst 3, 1) := by decide +kernel
theorem d_Mo_field_51 : decode m_Mo_field.2.1 51 = .ok (.if_icmp .eq 11, 3) := by decide +kernel
theorem d_Mo_field_62 : decode m_Mo_field.2.1 62 = .ok (.aload_n 0, 1) := by decide +kernel
theorem d_Mo_field_63 : decode m_Mo_field.2.1 63 = .ok (.iconst 3, 1) := by decide +kernel
theorem d_Mo_field_64 : decode m_Mo_field.2.1 64 = .ok (.invokevirtual 118, 3) := by decide +kernel
theorem d_Mo_field_67 : decode m_Mo_field.2.1 67 = .ok (.ireturn, 1) := by decide +kernel
theorem d_Mo_field_54 : decode m_Mo_field.2.1 54 = .ok (.aload_n 0, 1) := by decide +kernel
theorem d_Mo_field_55 : decode m_Mo_field.2.1 55 = .ok (.iload_n 1, 1) := by decide +kernel
theorem k_Mo_field_133 : jl_cv m_Mo_field m_Mo_isSuper 133 1 = true := by decide +kernel
theorem d_Mo_field_56 : decode m_Mo_field.2.1 56 = .ok (.invokevirtual 133, 3) := by decide +kernel
theorem d_Mo_field_59 : decode m_Mo_field.2.1 59 = .ok (.ifCond .eq 9, 3) := by decide +kernel
theorem d_Mo_field_68 : decode m_Mo_field.2.1 68 = .ok (.aload_n 0, 1) := by decide +kernel
theorem f_Mo_field_20 : jl_fd m_Mo_field 20 7 4 = true := by decide +kernel
theorem d_Mo_field_69 : decode m_Mo_field.2.1 69 = .ok (.getfield 20, 3) := by decide +kernel
theorem d_Mo_field_72 : decode m_Mo_field.2.1 72 = .ok (.iconst 3, 1) := by decide +kernel
theorem d_Mo_field_73 : decode m_Mo_field.2.1 73 = .ok (.iload_n 1, 1) := by decide +kernel
theorem d_Mo_field_74 : decode m_Mo_field.2.1 74 = .ok (.imul, 1) := by decide +kernel
theorem d_Mo_field_75 : decode m_Mo_field.2.1 75 = .ok (.aload_n 0, 1) := by decide +kernel
theorem d_Mo_field_76 : decode m_Mo_field.2.1 76 = .ok (.getfield 17, 3) := by decide +kernel
theorem d_Mo_field_79 : decode m_Mo_field.2.1 79 = .ok (.iload_n 1, 1) := by decide +kernel
theorem d_Mo_field_80 : decode m_Mo_field.2.1 80 = .ok (.iaload, 1) := by decide +kernel
theorem d_Mo_field_81 : decode m_Mo_field.2.1 81 = .ok (.iadd, 1) := by decide +kernel
theorem d_Mo_field_82 : decode m_Mo_field.2.1 82 = .ok (.iload_n 2, 1) := by decide +kernel
theorem d_Mo_field_83 : decode m_Mo_field.2.1 83 = .ok (.iastore, 1) := by decide +kernel
theorem d_Mo_field_84 : decode m_Mo_field.2.1 84 = .ok (.aload_n 0, 1) := by decide +kernel
theorem d_Mo_field_85 : decode m_Mo_field.2.1 85 = .ok (.getfield 17, 3) := by decide +kernel
theorem d_Mo_field_88 : decode m_Mo_field.2.1 88 = .ok (.iload_n 1, 1) := by decide +kernel
theorem d_Mo_field_89 : decode m_Mo_field.2.1 89 = .ok (.dup2, 1) := by decide +kernel
theorem d_Mo_field_90 : decode m_Mo_field.2.1 90 = .ok (.iaload, 1) := by decide +kernel
theorem d_Mo_field_91 : decode m_Mo_field.2.1 91 = .ok (.iconst 1, 1) := by decide +kernel
theorem d_Mo_field_92 : decode m_Mo_field.2.1 92 = .ok (.iadd, 1) := by decide +kernel
theorem d_Mo_field_93 : decode m_Mo_field.2.1 93 = .ok (.iastore, 1) := by decide +kernel
theorem d_Mo_field_94 : decode m_Mo_field.2.1 94 = .ok (.aload_n 0, 1) := by decide +kernel
theorem d_Mo_field_95 : decode m_Mo_field.2.1 95 = .ok (.iconst 0, 1) := by decide +kernel
theorem p_Mo_field_122 : jl_fp m_Mo_field 122 7 16 = true := by decide +kernel
theorem d_Mo_field_96 : decode m_Mo_field.2.1 96 = .ok (.putfield 122, 3) := by decide +kernel
theorem d_Mo_field_99 : decode m_Mo_field.2.1 99 = .ok (.aload_n 0, 1) := by decide +kernel
theorem d_Mo_field_100 : decode m_Mo_field.2.1 100 = .ok (.iload_n 1, 1) := by decide +kernel
theorem k_Mo_field_126 : jl_cv m_Mo_field m_Mo_fieldsOf 126 1 = true := by decide +kernel
theorem d_Mo_field_101 : decode m_Mo_field.2.1 101 = .ok (.invokevirtual 126, 3) := by decide +kernel
theorem d_Mo_field_104 : decode m_Mo_field.2.1 104 = .ok (.iconst 1, 1) := by decide +kernel
theorem d_Mo_field_105 : decode m_Mo_field.2.1 105 = .ok (.isub, 1) := by decide +kernel
theorem d_Mo_field_106 : decode m_Mo_field.2.1 106 = .ok (.ireturn, 1) := by decide +kernel
theorem mo_field (hl : l.stackTraces = false) {k t : Nat} (hO : MoO σ fa vf wh wy hg dp md ov oh dn an) (hw : MoW σ tb pr ow ft hs) (hk : k < 6) (h : isTyM (nI t) = true) (ht : tb k = true) (hok : WoOk tb pr ow fi) (how : ow k ≤ 3) (hok2 : flOk pr ow k = true → WoOk tb pr (va_up ow k (ow k + 1)) fi) : jl_m l G m_Mo_field [.ref 22, .int (nI k), .int (nI t)] σ (if flOk pr ow k = true then .inl (some (.int (nI (fi k + ow k)))) else .inl (some (.int (nI 0)))) (if flOk pr ow k = true then (((σ.set 22 (.inr (7, MoF (nI 0) vf wh wy hg dp md ov oh dn an))).set 26 (.inl (0, 18, .inl fun j => nI (va_up ft (3 * k + ow k) t j)))).set 25 (.inl (0, 6, .inl fun j => nI (va_up ow k (ow k + 1) j)))).set 22 (.inr (7, MoF (nI 0) (nI 0) wh wy hg dp md ov oh dn an)) else σ.set 22 (.inr (7, MoF (nI 3) vf wh wy hg dp md ov oh dn an))) := by
  obtain ⟨h23, h24, h25, h26, h27⟩ := id hw
  have hvu : va_up ow k (ow k + 1) k = ow k + 1 := by simp [va_up]
  refine jl_of (as := [.ref 22, .int (nI k), .int (nI t)]) rfl (by decide) hl (jl_cc rfl (jl_cc rfl (jl_cc rfl jl_ca))) (Nat.le_of_ble_eq_true rfl) ?_
  show jl_W l G m_Mo_field (0, 0) 0 [some (.ref 22), some (.int (nI k)), some (.int (nI t))] [] (σ) (if flOk pr ow k = true then .inl (some (.int (nI (fi k + ow k)))) else .inl (some (.int (nI 0)))) (if flOk pr ow k = true then (((σ.set 22 (.inr (7, MoF (nI 0) vf wh wy hg dp md ov oh dn an))).set 26 (.inl (0, 18, .inl fun j => nI (va_up ft (3 * k + ow k) t j)))).set 25 (.inl (0, 6, .inl fun j => nI (va_up ow k (ow k + 1) j)))).set 22 (.inr (7, MoF (nI 0) (nI 0) wh wy hg dp md ov oh dn an)) else σ.set 22 (.inr (7, MoF (nI 3) vf wh wy hg dp md ov oh dn an)))
  refine jr_aload_n d_Mo_field_0 rfl ?_
  refine jr_iconst ((nI (0))) d_Mo_field_1 (by decide) ?_
  refine jr_putf d_Mo_field_2 p_Mo_field_111 hO (Nat.le_of_ble_eq_true rfl) jl_fit_int ?_
  show jl_W l G m_Mo_field (0, 0) 5 [some (.ref 22), some (.int (nI k)), some (.int (nI t))] [] (σ.set (22) (.inr (7, [.int (nI 0), .ref 23, .ref 24, .ref 25, .ref 26, .ref 27, .ref 28, .ref 29, .ref 30, .ref 31, .ref 32, .ref 33, .ref 34, .ref 35, .ref 36, .ref 37, .int (vf), .int (wh), .int (wy), .ref 38, .ref 39, .ref 40, .ref 41, .int (hg), .ref 42, .ref 43, .ref 44, .ref 45, .ref 46, .ref 47, .ref 48, .ref 49, .int (dp), .ref 50, .ref 51, .ref 52, .int (md), .int (ov), .int (oh), .int (dn), .int (an)]))) (if flOk pr ow k = true then .inl (some (.int (nI (fi k + ow k)))) else .inl (some (.int (nI 0)))) (if flOk pr ow k = true then (((σ.set 22 (.inr (7, MoF (nI 0) vf wh wy hg dp md ov oh dn an))).set 26 (.inl (0, 18, .inl fun j => nI (va_up ft (3 * k + ow k) t j)))).set 25 (.inl (0, 6, .inl fun j => nI (va_up ow k (ow k + 1) j)))).set 22 (.inr (7, MoF (nI 0) (nI 0) wh wy hg dp md ov oh dn an)) else σ.set 22 (.inr (7, MoF (nI 3) vf wh wy hg dp md ov oh dn an)))
  refine jr_aload_n d_Mo_field_5 rfl ?_
  refine jr_iload_n d_Mo_field_6 rfl ?_
  refine jr_bipush ((nI (6))) d_Mo_field_7 (by decide) ?_
  refine jr_callV (As := [.int (nI k), .int (nI 6)]) d_Mo_field_9 k_Mo_field_114 (jl_ss hO) rfl rfl rfl (Nat.le_of_ble_eq_true rfl) (by decide) (by decide) (mo_outN hl (jl_ss hO) (MoW.sx hw (Or.inl (by decide))) (by decide) (by omega)) ?_
  show jl_W l G m_Mo_field (0, 0) 12 [some (.ref 22), some (.int (nI k)), some (.int (nI t))] [.int (nI 0)] (σ.set (22) (.inr (7, [.int (nI 0), .ref 23, .ref 24, .ref 25, .ref 26, .ref 27, .ref 28, .ref 29, .ref 30, .ref 31, .ref 32, .ref 33, .ref 34, .ref 35, .ref 36, .ref 37, .int (vf), .int (wh), .int (wy), .ref 38, .ref 39, .ref 40, .ref 41, .int (hg), .ref 42, .ref 43, .ref 44, .ref 45, .ref 46, .ref 47, .ref 48, .ref 49, .int (dp), .ref 50, .ref 51, .ref 52, .int (md), .int (ov), .int (oh), .int (dn), .int (an)]))) (if flOk pr ow k = true then .inl (some (.int (nI (fi k + ow k)))) else .inl (some (.int (nI 0)))) (if flOk pr ow k = true then (((σ.set 22 (.inr (7, MoF (nI 0) vf wh wy hg dp md ov oh dn an))).set 26 (.inl (0, 18, .inl fun j => nI (va_up ft (3 * k + ow k) t j)))).set 25 (.inl (0, 6, .inl fun j => nI (va_up ow k (ow k + 1) j)))).set 22 (.inr (7, MoF (nI 0) (nI 0) wh wy hg dp md ov oh dn an)) else σ.set 22 (.inr (7, MoF (nI 3) vf wh wy hg dp md ov oh dn an)))
  refine jr_if_ne 23 d_Mo_field_12 (by decide) (fun z => absurd rfl z) (fun _ => ?_)
  refine jr_aload_n d_Mo_field_15 rfl ?_
  refine jr_iload_n d_Mo_field_16 rfl ?_
  refine jr_callV (As := [.int (nI t)]) d_Mo_field_17 k_Mo_field_129 (jl_ss hO) rfl rfl rfl (Nat.le_of_ble_eq_true rfl) (by decide) (by decide) (mo_isType hl (jl_ss hO) (MoW.sx hw (Or.inl (by decide)))) ?_
  show jl_W l G m_Mo_field (0, 0) 20 [some (.ref 22), some (.int (nI k)), some (.int (nI t))] [.int (bi (isTyM (nI (t))))] (σ.set (22) (.inr (7, [.int (nI 0), .ref 23, .ref 24, .ref 25, .ref 26, .ref 27, .ref 28, .ref 29, .ref 30, .ref 31, .ref 32, .ref 33, .ref 34, .ref 35, .ref 36, .ref 37, .int (vf), .int (wh), .int (wy), .ref 38, .ref 39, .ref 40, .ref 41, .int (hg), .ref 42, .ref 43, .ref 44, .ref 45, .ref 46, .ref 47, .ref 48, .ref 49, .int (dp), .ref 50, .ref 51, .ref 52, .int (md), .int (ov), .int (oh), .int (dn), .int (an)]))) (if flOk pr ow k = true then .inl (some (.int (nI (fi k + ow k)))) else .inl (some (.int (nI 0)))) (if flOk pr ow k = true then (((σ.set 22 (.inr (7, MoF (nI 0) vf wh wy hg dp md ov oh dn an))).set 26 (.inl (0, 18, .inl fun j => nI (va_up ft (3 * k + ow k) t j)))).set 25 (.inl (0, 6, .inl fun j => nI (va_up ow k (ow k + 1) j)))).set 22 (.inr (7, MoF (nI 0) (nI 0) wh wy hg dp md ov oh dn an)) else σ.set 22 (.inr (7, MoF (nI 3) vf wh wy hg dp md ov oh dn an)))
  refine jr_if_ne 29 d_Mo_field_20 (by decide) (fun c1 => ?_) (fun c1 => ?_)
  · refine jr_aload_n d_Mo_field_29 rfl ?_
    refine jr_getf d_Mo_field_30 f_Mo_field_7 (jl_ss hO) rfl ?_
    refine jr_iload_n d_Mo_field_33 rfl ?_
    refine jr_baldN d_Mo_field_34 (jl_sn (by decide) h23) (by omega) (by omega) ?_
    refine jr_if_ne 44 d_Mo_field_35 (by decide) (fun c2 => ?_) (fun c2 => ?_)
    · refine jr_aload_n d_Mo_field_44 rfl ?_
      refine jr_getf d_Mo_field_45 f_Mo_field_17 (jl_ss hO) rfl ?_
      refine jr_iload_n d_Mo_field_48 rfl ?_
      refine jr_ialdN d_Mo_field_49 (jl_sn (by decide) h25) (by omega) (by omega) ?_
      refine jr_iconst ((nI (3))) d_Mo_field_50 (by decide) ?_
      refine jr_icmp_eqN 62 d_Mo_field_51 (by decide) (by omega) (by omega) (fun c3 => ?_) (fun c3 => ?_)
      · refine jr_aload_n d_Mo_field_62 rfl ?_
        refine jr_iconst ((nI (3))) d_Mo_field_63 (by decide) ?_
        refine jr_callV (As := [.int (nI 3)]) d_Mo_field_64 k_Mo_field_118 (jl_ss hO) rfl rfl rfl (Nat.le_of_ble_eq_true rfl) (by decide) (by decide) (mo_fail hl (jl_ss hO) (MoW.sx hw (Or.inl (by decide)))) ?_
        show jl_W l G m_Mo_field (0, 0) 67 [some (.ref 22), some (.int (nI k)), some (.int (nI t))] [.int (nI 0)] ((σ.set (22) (.inr (7, [.int (nI 0), .ref 23, .ref 24, .ref 25, .ref 26, .ref 27, .ref 28, .ref 29, .ref 30, .ref 31, .ref 32, .ref 33, .ref 34, .ref 35, .ref 36, .ref 37, .int (vf), .int (wh), .int (wy), .ref 38, .ref 39, .ref 40, .ref 41, .int (hg), .ref 42, .ref 43, .ref 44, .ref 45, .ref 46, .ref 47, .ref 48, .ref 49, .int (dp), .ref 50, .ref 51, .ref 52, .int (md), .int (ov), .int (oh), .int (dn), .int (an)]))).set (22) (.inr (7, [.int (nI 3), .ref 23, .ref 24, .ref 25, .ref 26, .ref 27, .ref 28, .ref 29, .ref 30, .ref 31, .ref 32, .ref 33, .ref 34, .ref 35, .ref 36, .ref 37, .int (vf), .int (wh), .int (wy), .ref 38, .ref 39, .ref 40, .ref 41, .int (hg), .ref 42, .ref 43, .ref 44, .ref 45, .ref 46, .ref 47, .ref 48, .ref 49, .int (dp), .ref 50, .ref 51, .ref 52, .int (md), .int (ov), .int (oh), .int (dn), .int (an)]))) (if flOk pr ow k = true then .inl (some (.int (nI (fi k + ow k)))) else .inl (some (.int (nI 0)))) (if flOk pr ow k = true then (((σ.set 22 (.inr (7, MoF (nI 0) vf wh wy hg dp md ov oh dn an))).set 26 (.inl (0, 18, .inl fun j => nI (va_up ft (3 * k + ow k) t j)))).set 25 (.inl (0, 6, .inl fun j => nI (va_up ow k (ow k + 1) j)))).set 22 (.inr (7, MoF (nI 0) (nI 0) wh wy hg dp md ov oh dn an)) else σ.set 22 (.inr (7, MoF (nI 3) vf wh wy hg dp md ov oh dn an)))
        exact jr_iretE d_Mo_field_67 rfl (by rw [if_neg (show ¬ flOk pr ow k = true by unfold flOk; simp [show ¬ ow k < 3 by omega])]) (by rw [if_neg (show ¬ flOk pr ow k = true by unfold flOk; simp [show ¬ ow k < 3 by omega])]; exact (List.set_set ..).symm) (by decide) (by decide)
      · refine jr_aload_n d_Mo_field_54 rfl ?_
        refine jr_iload_n d_Mo_field_55 rfl ?_
        refine jr_callV (As := [.int (nI k)]) d_Mo_field_56 k_Mo_field_133 (jl_ss hO) rfl rfl rfl (Nat.le_of_ble_eq_true rfl) (by decide) (by decide) (mo_super hl (jl_ss hO) (MoW.sx hw (Or.inl (by decide))) hk hok) ?_
        show jl_W l G m_Mo_field (0, 0) 59 [some (.ref 22), some (.int (nI k)), some (.int (nI t))] [.int (bi (sup pr k (6 - (k + 1)) (k + 1)))] (σ.set (22) (.inr (7, [.int (nI 0), .ref 23, .ref 24, .ref 25, .ref 26, .ref 27, .ref 28, .ref 29, .ref 30, .ref 31, .ref 32, .ref 33, .ref 34, .ref 35, .ref 36, .ref 37, .int (vf), .int (wh), .int (wy), .ref 38, .ref 39, .ref 40, .ref 41, .int (hg), .ref 42, .ref 43, .ref 44, .ref 45, .ref 46, .ref 47, .ref 48, .ref 49, .int (dp), .ref 50, .ref 51, .ref 52, .int (md), .int (ov), .int (oh), .int (dn), .int (an)]))) (if flOk pr ow k = true then .inl (some (.int (nI (fi k + ow k)))) else .inl (some (.int (nI 0)))) (if flOk pr ow k = true then (((σ.set 22 (.inr (7, MoF (nI 0) vf wh wy hg dp md ov oh dn an))).set 26 (.inl (0, 18, .inl fun j => nI (va_up ft (3 * k + ow k) t j)))).set 25 (.inl (0, 6, .inl fun j => nI (va_up ow k (ow k + 1) j)))).set 22 (.inr (7, MoF (nI 0) (nI 0) wh wy hg dp md ov oh dn an)) else σ.set 22 (.inr (7, MoF (nI 3) vf wh wy hg dp md ov oh dn an)))
        refine jr_if_eq 68 d_Mo_field_59 (by decide) (fun c4 => ?_) (fun c4 => ?_)
        · refine jr_aload_n d_Mo_field_68 rfl ?_
          refine jr_getf d_Mo_field_69 f_Mo_field_20 (jl_ss hO) rfl ?_
          refine jr_iconst ((nI (3))) d_Mo_field_72 (by decide) ?_
          refine jr_iload_n d_Mo_field_73 rfl ?_
          refine jr_imulN d_Mo_field_74 ?_
          refine jr_aload_n d_Mo_field_75 rfl ?_
          refine jr_getf d_Mo_field_76 f_Mo_field_17 (jl_ss hO) rfl ?_
          refine jr_iload_n d_Mo_field_79 rfl ?_
          refine jr_ialdN d_Mo_field_80 (jl_sn (by decide) h25) (by omega) (by omega) ?_
          refine jr_iaddN d_Mo_field_81 ?_
          refine jr_iload_n d_Mo_field_82 rfl ?_
          refine jr_iastN d_Mo_field_83 (jl_sn (by decide) h26) (by omega) (by omega) ?_
          rw [show upd (fun j => nI (ft j)) (((3) * (k)) + (ow (k))) ((nI (t))) = (fun j => nI ((va_up ft (((3) * (k)) + (ow (k))) (t)) j)) from nI_up ft (((3) * (k)) + (ow (k))) (t)]
          show jl_W l G m_Mo_field (0, 0) 84 [some (.ref 22), some (.int (nI k)), some (.int (nI t))] [] ((σ.set (22) (.inr (7, [.int (nI 0), .ref 23, .ref 24, .ref 25, .ref 26, .ref 27, .ref 28, .ref 29, .ref 30, .ref 31, .ref 32, .ref 33, .ref 34, .ref 35, .ref 36, .ref 37, .int (vf), .int (wh), .int (wy), .ref 38, .ref 39, .ref 40, .ref 41, .int (hg), .ref 42, .ref 43, .ref 44, .ref 45, .ref 46, .ref 47, .ref 48, .ref 49, .int (dp), .ref 50, .ref 51, .ref 52, .int (md), .int (ov), .int (oh), .int (dn), .int (an)]))).set (26) (.inl (0, 18, .inl (fun j => nI ((va_up ft (((3) * (k)) + (ow (k))) (t)) j))))) (if flOk pr ow k = true then .inl (some (.int (nI (fi k + ow k)))) else .inl (some (.int (nI 0)))) (if flOk pr ow k = true then (((σ.set 22 (.inr (7, MoF (nI 0) vf wh wy hg dp md ov oh dn an))).set 26 (.inl (0, 18, .inl fun j => nI (va_up ft (3 * k + ow k) t j)))).set 25 (.inl (0, 6, .inl fun j => nI (va_up ow k (ow k + 1) j)))).set 22 (.inr (7, MoF (nI 0) (nI 0) wh wy hg dp md ov oh dn an)) else σ.set 22 (.inr (7, MoF (nI 3) vf wh wy hg dp md ov oh dn an)))
          refine jr_aload_n d_Mo_field_84 rfl ?_
          refine jr_getf d_Mo_field_85 f_Mo_field_17 (jl_sn (by decide) (jl_ss hO)) rfl ?_
          refine jr_iload_n d_Mo_field_88 rfl ?_
          refine jr_dup2 d_Mo_field_89 rfl rfl ?_
          refine jr_ialdN d_Mo_field_90 (jl_sn (by decide) (jl_sn (by decide) h25)) (by omega) (by omega) ?_
          refine jr_iconst ((nI (1))) d_Mo_field_91 (by decide) ?_
          refine jr_iaddN d_Mo_field_92 ?_
          refine jr_iastN d_Mo_field_93 (jl_sn (by decide) (jl_sn (by decide) h25)) (by omega) (by omega) ?_
          rw [show upd (fun j => nI (ow j)) (k) ((nI ((ow (k)) + (1)))) = (fun j => nI ((va_up ow (k) ((ow (k)) + (1))) j)) from nI_up ow (k) ((ow (k)) + (1))]
          show jl_W l G m_Mo_field (0, 0) 94 [some (.ref 22), some (.int (nI k)), some (.int (nI t))] [] (((σ.set (22) (.inr (7, [.int (nI 0), .ref 23, .ref 24, .ref 25, .ref 26, .ref 27, .ref 28, .ref 29, .ref 30, .ref 31, .ref 32, .ref 33, .ref 34, .ref 35, .ref 36, .ref 37, .int (vf), .int (wh), .int (wy), .ref 38, .ref 39, .ref 40, .ref 41, .int (hg), .ref 42, .ref 43, .ref 44, .ref 45, .ref 46, .ref 47, .ref 48, .ref 49, .int (dp), .ref 50, .ref 51, .ref 52, .int (md), .int (ov), .int (oh), .int (dn), .int (an)]))).set (26) (.inl (0, 18, .inl (fun j => nI ((va_up ft (((3) * (k)) + (ow (k))) (t)) j))))).set (25) (.inl (0, 6, .inl (fun j => nI ((va_up ow (k) ((ow (k)) + (1))) j))))) (if flOk pr ow k = true then .inl (some (.int (nI (fi k + ow k)))) else .inl (some (.int (nI 0)))) (if flOk pr ow k = true then (((σ.set 22 (.inr (7, MoF (nI 0) vf wh wy hg dp md ov oh dn an))).set 26 (.inl (0, 18, .inl fun j => nI (va_up ft (3 * k + ow k) t j)))).set 25 (.inl (0, 6, .inl fun j => nI (va_up ow k (ow k + 1) j)))).set 22 (.inr (7, MoF (nI 0) (nI 0) wh wy hg dp md ov oh dn an)) else σ.set 22 (.inr (7, MoF (nI 3) vf wh wy hg dp md ov oh dn an)))
          refine jr_aload_n d_Mo_field_94 rfl ?_
          refine jr_iconst ((nI (0))) d_Mo_field_95 (by decide) ?_
          refine jr_putf d_Mo_field_96 p_Mo_field_122 (jl_sn (by decide) (jl_sn (by decide) (jl_ss hO))) (Nat.le_of_ble_eq_true rfl) jl_fit_b0 ?_
          show jl_W l G m_Mo_field (0, 0) 99 [some (.ref 22), some (.int (nI k)), some (.int (nI t))] [] ((((σ.set (22) (.inr (7, [.int (nI 0), .ref 23, .ref 24, .ref 25, .ref 26, .ref 27, .ref 28, .ref 29, .ref 30, .ref 31, .ref 32, .ref 33, .ref 34, .ref 35, .ref 36, .ref 37, .int (vf), .int (wh), .int (wy), .ref 38, .ref 39, .ref 40, .ref 41, .int (hg), .ref 42, .ref 43, .ref 44, .ref 45, .ref 46, .ref 47, .ref 48, .ref 49, .int (dp), .ref 50, .ref 51, .ref 52, .int (md), .int (ov), .int (oh), .int (dn), .int (an)]))).set (26) (.inl (0, 18, .inl (fun j => nI ((va_up ft (((3) * (k)) + (ow (k))) (t)) j))))).set (25) (.inl (0, 6, .inl (fun j => nI ((va_up ow (k) ((ow (k)) + (1))) j))))).set (22) (.inr (7, [.int (nI 0), .ref 23, .ref 24, .ref 25, .ref 26, .ref 27, .ref 28, .ref 29, .ref 30, .ref 31, .ref 32, .ref 33, .ref 34, .ref 35, .ref 36, .ref 37, .int (nI 0), .int (wh), .int (wy), .ref 38, .ref 39, .ref 40, .ref 41, .int (hg), .ref 42, .ref 43, .ref 44, .ref 45, .ref 46, .ref 47, .ref 48, .ref 49, .int (dp), .ref 50, .ref 51, .ref 52, .int (md), .int (ov), .int (oh), .int (dn), .int (an)]))) (if flOk pr ow k = true then .inl (some (.int (nI (fi k + ow k)))) else .inl (some (.int (nI 0)))) (if flOk pr ow k = true then (((σ.set 22 (.inr (7, MoF (nI 0) vf wh wy hg dp md ov oh dn an))).set 26 (.inl (0, 18, .inl fun j => nI (va_up ft (3 * k + ow k) t j)))).set 25 (.inl (0, 6, .inl fun j => nI (va_up ow k (ow k + 1) j)))).set 22 (.inr (7, MoF (nI 0) (nI 0) wh wy hg dp md ov oh dn an)) else σ.set 22 (.inr (7, MoF (nI 3) vf wh wy hg dp md ov oh dn an)))
          refine jr_aload_n d_Mo_field_99 rfl ?_
          refine jr_iload_n d_Mo_field_100 rfl ?_
          refine jr_callV (As := [.int (nI k)]) d_Mo_field_101 k_Mo_field_126 (jl_ss (jl_sn (by decide) (jl_sn (by decide) (jl_ss hO)))) rfl rfl rfl (Nat.le_of_ble_eq_true rfl) (by decide) (by decide) (mo_fields (x := some k) hl (jl_ss (jl_sn (by decide) (jl_sn (by decide) (jl_ss hO)))) (MoW.sx (MoW.s25 (MoW.s26 (MoW.sx hw (Or.inl (by decide))))) (Or.inl (by decide))) (hok2 (show flOk pr ow k = true by unfold flOk; rw [bi_0.mp c4]; simp [show ow k < 3 by omega])) (fun z hz => by cases hz; exact hk)) ?_
          show jl_W l G m_Mo_field (0, 0) 104 [some (.ref 22), some (.int (nI k)), some (.int (nI t))] [.int (nI (fi k + va_up ow k (ow k + 1) k))] ((((σ.set (22) (.inr (7, [.int (nI 0), .ref 23, .ref 24, .ref 25, .ref 26, .ref 27, .ref 28, .ref 29, .ref 30, .ref 31, .ref 32, .ref 33, .ref 34, .ref 35, .ref 36, .ref 37, .int (vf), .int (wh), .int (wy), .ref 38, .ref 39, .ref 40, .ref 41, .int (hg), .ref 42, .ref 43, .ref 44, .ref 45, .ref 46, .ref 47, .ref 48, .ref 49, .int (dp), .ref 50, .ref 51, .ref 52, .int (md), .int (ov), .int (oh), .int (dn), .int (an)]))).set (26) (.inl (0, 18, .inl (fun j => nI ((va_up ft (((3) * (k)) + (ow (k))) (t)) j))))).set (25) (.inl (0, 6, .inl (fun j => nI ((va_up ow (k) ((ow (k)) + (1))) j))))).set (22) (.inr (7, [.int (nI 0), .ref 23, .ref 24, .ref 25, .ref 26, .ref 27, .ref 28, .ref 29, .ref 30, .ref 31, .ref 32, .ref 33, .ref 34, .ref 35, .ref 36, .ref 37, .int (nI 0), .int (wh), .int (wy), .ref 38, .ref 39, .ref 40, .ref 41, .int (hg), .ref 42, .ref 43, .ref 44, .ref 45, .ref 46, .ref 47, .ref 48, .ref 49, .int (dp), .ref 50, .ref 51, .ref 52, .int (md), .int (ov), .int (oh), .int (dn), .int (an)]))) (if flOk pr ow k = true then .inl (some (.int (nI (fi k + ow k)))) else .inl (some (.int (nI 0)))) (if flOk pr ow k = true then (((σ.set 22 (.inr (7, MoF (nI 0) vf wh wy hg dp md ov oh dn an))).set 26 (.inl (0, 18, .inl fun j => nI (va_up ft (3 * k + ow k) t j)))).set 25 (.inl (0, 6, .inl fun j => nI (va_up ow k (ow k + 1) j)))).set 22 (.inr (7, MoF (nI 0) (nI 0) wh wy hg dp md ov oh dn an)) else σ.set 22 (.inr (7, MoF (nI 3) vf wh wy hg dp md ov oh dn an)))
          refine jr_iconst ((nI (1))) d_Mo_field_104 (by decide) ?_
          refine jr_isubN d_Mo_field_105 (by omega) ?_
          exact jr_iretE d_Mo_field_106 rfl (by rw [if_pos (show flOk pr ow k = true by unfold flOk; rw [bi_0.mp c4]; simp [show ow k < 3 by omega])]; rw [hvu]; rfl) (by rw [if_pos (show flOk pr ow k = true by unfold flOk; rw [bi_0.mp c4]; simp [show ow k < 3 by omega])]) (by decide) (by decide)
        · refine jr_aload_n d_Mo_field_62 rfl ?_
          refine jr_iconst ((nI (3))) d_Mo_field_63 (by decide) ?_
          refine jr_callV (As := [.int (nI 3)]) d_Mo_field_64 k_Mo_field_118 (jl_ss hO) rfl rfl rfl (Nat.le_of_ble_eq_true rfl) (by decide) (by decide) (mo_fail hl (jl_ss hO) (MoW.sx hw (Or.inl (by decide)))) ?_
          show jl_W l G m_Mo_field (0, 0) 67 [some (.ref 22), some (.int (nI k)), some (.int (nI t))] [.int (nI 0)] ((σ.set (22) (.inr (7, [.int (nI 0), .ref 23, .ref 24, .ref 25, .ref 26, .ref 27, .ref 28, .ref 29, .ref 30, .ref 31, .ref 32, .ref 33, .ref 34, .ref 35, .ref 36, .ref 37, .int (vf), .int (wh), .int (wy), .ref 38, .ref 39, .ref 40, .ref 41, .int (hg), .ref 42, .ref 43, .ref 44, .ref 45, .ref 46, .ref 47, .ref 48, .ref 49, .int (dp), .ref 50, .ref 51, .ref 52, .int (md), .int (ov), .int (oh), .int (dn), .int (an)]))).set (22) (.inr (7, [.int (nI 3), .ref 23, .ref 24, .ref 25, .ref 26, .ref 27, .ref 28, .ref 29, .ref 30, .ref 31, .ref 32, .ref 33, .ref 34, .ref 35, .ref 36, .ref 37, .int (vf), .int (wh), .int (wy), .ref 38, .ref 39, .ref 40, .ref 41, .int (hg), .ref 42, .ref 43, .ref 44, .ref 45, .ref 46, .ref 47, .ref 48, .ref 49, .int (dp), .ref 50, .ref 51, .ref 52, .int (md), .int (ov), .int (oh), .int (dn), .int (an)]))) (if flOk pr ow k = true then .inl (some (.int (nI (fi k + ow k)))) else .inl (some (.int (nI 0)))) (if flOk pr ow k = true then (((σ.set 22 (.inr (7, MoF (nI 0) vf wh wy hg dp md ov oh dn an))).set 26 (.inl (0, 18, .inl fun j => nI (va_up ft (3 * k + ow k) t j)))).set 25 (.inl (0, 6, .inl fun j => nI (va_up ow k (ow k + 1) j)))).set 22 (.inr (7, MoF (nI 0) (nI 0) wh wy hg dp md ov oh dn an)) else σ.set 22 (.inr (7, MoF (nI 3) vf wh wy hg dp md ov oh dn an)))
          exact jr_iretE d_Mo_field_67 rfl (by rw [if_neg (show ¬ flOk pr ow k = true by unfold flOk; rw [bi_nf c4]; simp [show ow k < 3 by omega])]) (by rw [if_neg (show ¬ flOk pr ow k = true by unfold flOk; rw [bi_nf c4]; simp [show ow k < 3 by omega])]; exact (List.set_set ..).symm) (by decide) (by decide)
    · exact absurd ht (by rw [bi_0.mp c2]; decide)
  · exact absurd h (by rw [bi_0.mp c1]; decide)
end JMs
