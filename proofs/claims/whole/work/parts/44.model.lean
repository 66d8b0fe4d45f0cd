/-! the model: method (wip/gen/p44.py) -/
section JMu
variable {l : Launch} {G : jl_G} {σ : jl_S} {tb : Nat → Bool} {pr : Nat → Option Nat} {ow fi ft : Nat → Nat} {hs : Nat → Bool} {fa vf wh wy hg dp md ov oh dn an : Int32} {u1 u2 : Nat → Option Nat} {ur ul uo : Nat → Nat} {ua : Nat → Int32} {uc us ut uk : Nat → Nat}
theorem isTyM_eq (t : Int32) : isTyM t = isTyp t := by
  unfold isTyM isTyp
  have h : (nI 15 < t) = (nI 16 ≤ t) := by
    rw [Int32.lt_iff_toInt_lt, Int32.le_iff_toInt_le, nI_toInt (by decide), nI_toInt (by decide)]
    exact propext ⟨fun q => by omega, fun q => by omega⟩
  simp only [h]
theorem mo_isTyp (hl : l.stackTraces = false) {t : Int32} (hO : MoO σ fa vf wh wy hg dp md ov oh dn an) (hw : MoW σ tb pr ow ft hs) : jl_m l G m_Mo_isType [.ref 22, .int t] σ (.inl (some (.int (bi (isTyp t))))) σ := by
  have q := mo_isType (G := G) (t := t) hl hO hw
  rw [isTyM_eq] at q
  exact q
/-- as clash, by what the model has -/
def mcl (tb : Nat → Bool) (pr : Nat → Option Nat) (hs : Nat → Bool) (u1 u2 : Nat → Option Nat) (ur : Nat → Nat) (k sl : Nat) (p q : Option Nat) (r : Nat) : Nat → Nat → Bool
  | 0, _ => false
  | n + 1, i => (tb i && hs (4 * i + sl) && (ab pr i (some k) || ab pr k (some i)) && !(decide (u1 (4 * i + sl) = p) && decide (u2 (4 * i + sl) = q) && decide (ur (4 * i + sl) = r))) || mcl tb pr hs u1 u2 ur k sl p q r n (i + 1)
theorem d_Mo_method_0 : decode m_Mo_method.2.1 0 = .ok (.aload_n 0, 1) := by decide +kernel
theorem d_Mo_method_1 : decode m_Mo_method.2.1 1 = .ok (.iconst 0, 1) := by decide +kernel
theorem p_Mo_method_111 : jl_fp m_Mo_method 111 7 0 = true := by decide +kernel
theorem d_Mo_method_2 : decode m_Mo_method.2.1 2 = .ok (.putfield 111, 3) := by decide +kernel
theorem d_Mo_method_5 : decode m_Mo_method.2.1 5 = .ok (.iload_n 3, 1) := by decide +kernel
theorem d_Mo_method_6 : decode m_Mo_method.2.1 6 = .ok (.iconst (-1), 1) := by decide +kernel
theorem d_Mo_method_7 : decode m_Mo_method.2.1 7 = .ok (.if_icmp .eq 11, 3) := by decide +kernel
theorem d_Mo_method_18 : decode m_Mo_method.2.1 18 = .ok (.iload 4, 2) := by decide +kernel
theorem d_Mo_method_20 : decode m_Mo_method.2.1 20 = .ok (.iconst (-1), 1) := by decide +kernel
theorem d_Mo_method_21 : decode m_Mo_method.2.1 21 = .ok (.if_icmp .eq 12, 3) := by decide +kernel
theorem d_Mo_method_33 : decode m_Mo_method.2.1 33 = .ok (.iload_n 3, 1) := by decide +kernel
theorem d_Mo_method_34 : decode m_Mo_method.2.1 34 = .ok (.iconst (-1), 1) := by decide +kernel
theorem d_Mo_method_35 : decode m_Mo_method.2.1 35 = .ok (.if_icmp .ne 9, 3) := by decide +kernel
theorem d_Mo_method_44 : decode m_Mo_method.2.1 44 = .ok (.aload_n 0, 1) := by decide +kernel
theorem d_Mo_method_45 : decode m_Mo_method.2.1 45 = .ok (.iload 5, 2) := by decide +kernel
theorem k_Mo_method_129 : jl_cv m_Mo_method m_Mo_isType 129 1 = true := by decide +kernel
theorem d_Mo_method_47 : decode m_Mo_method.2.1 47 = .ok (.invokevirtual 129, 3) := by decide +kernel
theorem d_Mo_method_50 : decode m_Mo_method.2.1 50 = .ok (.ifCond .ne 7, 3) := by decide +kernel
theorem d_Mo_method_57 : decode m_Mo_method.2.1 57 = .ok (.iconst 0, 1) := by decide +kernel
theorem d_Mo_method_58 : decode m_Mo_method.2.1 58 = .ok (.istore 6, 2) := by decide +kernel
theorem d_Mo_method_60 : decode m_Mo_method.2.1 60 = .ok (.aload_n 0, 1) := by decide +kernel
theorem d_Mo_method_61 : decode m_Mo_method.2.1 61 = .ok (.iload_n 1, 1) := by decide +kernel
theorem d_Mo_method_62 : decode m_Mo_method.2.1 62 = .ok (.bipush 6, 2) := by decide +kernel
theorem k_Mo_method_114 : jl_cv m_Mo_method m_Mo_out 114 2 = true := by decide +kernel
theorem d_Mo_method_64 : decode m_Mo_method.2.1 64 = .ok (.invokevirtual 114, 3) := by decide +kernel
theorem d_Mo_method_67 : decode m_Mo_method.2.1 67 = .ok (.ifCond .ne 17, 3) := by decide +kernel
theorem d_Mo_method_84 : decode m_Mo_method.2.1 84 = .ok (.aload_n 0, 1) := by decide +kernel
theorem d_Mo_method_85 : decode m_Mo_method.2.1 85 = .ok (.iconst 1, 1) := by decide +kernel
theorem k_Mo_method_118 : jl_cv m_Mo_method m_Mo_fail 118 1 = true := by decide +kernel
theorem d_Mo_method_86 : decode m_Mo_method.2.1 86 = .ok (.invokevirtual 118, 3) := by decide +kernel
theorem d_Mo_method_89 : decode m_Mo_method.2.1 89 = .ok (.ireturn, 1) := by decide +kernel
theorem d_Mo_method_70 : decode m_Mo_method.2.1 70 = .ok (.aload_n 0, 1) := by decide +kernel
theorem d_Mo_method_71 : decode m_Mo_method.2.1 71 = .ok (.iload_n 2, 1) := by decide +kernel
theorem d_Mo_method_72 : decode m_Mo_method.2.1 72 = .ok (.iconst 4, 1) := by decide +kernel
theorem d_Mo_method_73 : decode m_Mo_method.2.1 73 = .ok (.invokevirtual 114, 3) := by decide +kernel
theorem d_Mo_method_76 : decode m_Mo_method.2.1 76 = .ok (.ifCond .ne 8, 3) := by decide +kernel
theorem d_Mo_method_79 : decode m_Mo_method.2.1 79 = .ok (.iload 6, 2) := by decide +kernel
theorem d_Mo_method_81 : decode m_Mo_method.2.1 81 = .ok (.ifCond .eq 9, 3) := by decide +kernel
theorem d_Mo_method_53 : decode m_Mo_method.2.1 53 = .ok (.iconst 1, 1) := by decide +kernel
theorem d_Mo_method_54 : decode m_Mo_method.2.1 54 = .ok (.goto 4, 3) := by decide +kernel
theorem d_Mo_method_38 : decode m_Mo_method.2.1 38 = .ok (.iload 4, 2) := by decide +kernel
theorem d_Mo_method_40 : decode m_Mo_method.2.1 40 = .ok (.iconst (-1), 1) := by decide +kernel
theorem d_Mo_method_41 : decode m_Mo_method.2.1 41 = .ok (.if_icmp .ne 12, 3) := by decide +kernel
theorem d_Mo_method_24 : decode m_Mo_method.2.1 24 = .ok (.aload_n 0, 1) := by decide +kernel
theorem d_Mo_method_25 : decode m_Mo_method.2.1 25 = .ok (.iload 4, 2) := by decide +kernel
theorem d_Mo_method_27 : decode m_Mo_method.2.1 27 = .ok (.invokevirtual 129, 3) := by decide +kernel
theorem d_Mo_method_30 : decode m_Mo_method.2.1 30 = .ok (.ifCond .eq 23, 3) := by decide +kernel
theorem d_Mo_method_10 : decode m_Mo_method.2.1 10 = .ok (.aload_n 0, 1) := by decide +kernel
theorem d_Mo_method_11 : decode m_Mo_method.2.1 11 = .ok (.iload_n 3, 1) := by decide +kernel
theorem d_Mo_method_12 : decode m_Mo_method.2.1 12 = .ok (.invokevirtual 129, 3) := by decide +kernel
theorem d_Mo_method_15 : decode m_Mo_method.2.1 15 = .ok (.ifCond .eq 38, 3) := by decide +kernel
theorem mo_method_A (hl : l.stackTraces = false) {k sl p q r : Int32} (hO : MoO σ fa vf wh wy hg dp md ov oh dn an) (hw : MoW σ tb pr ow ft hs) (h : outB k (nI 6) = true ∨ outB sl (nI 4) = true ∨ prOk p q = false ∨ isTyp r = false) : jl_m l G m_Mo_method [.ref 22, .int (k), .int (sl), .int (p), .int (q), .int (r)] σ (.inl (some (.int (nI 0)))) (σ.set 22 (.inr (7, MoF (nI 1) vf wh wy hg dp md ov oh dn an))) := by
  obtain ⟨h23, h24, h25, h26, h27⟩ := id hw
  refine jl_of (as := [.ref 22, .int (k), .int (sl), .int (p), .int (q), .int (r)]) rfl (by decide) hl (jl_cc rfl (jl_cc rfl (jl_cc rfl (jl_cc rfl (jl_cc rfl (jl_cc rfl jl_ca)))))) (Nat.le_of_ble_eq_true rfl) ?_
  show jl_W l G m_Mo_method (0, 0) 0 [some (.ref 22), some (.int (k)), some (.int (sl)), some (.int (p)), some (.int (q)), some (.int (r)), none, none, none, none] [] (σ) (.inl (some (.int (nI 0)))) (σ.set 22 (.inr (7, MoF (nI 1) vf wh wy hg dp md ov oh dn an)))
  refine jr_aload_n d_Mo_method_0 rfl ?_
  refine jr_iconst ((nI (0))) d_Mo_method_1 (by decide) ?_
  refine jr_putf d_Mo_method_2 p_Mo_method_111 hO (Nat.le_of_ble_eq_true rfl) jl_fit_int ?_
  show jl_W l G m_Mo_method (0, 0) 5 [some (.ref 22), some (.int (k)), some (.int (sl)), some (.int (p)), some (.int (q)), some (.int (r)), none, none, none, none] [] (σ.set (22) (.inr (7, [.int (nI 0), .ref 23, .ref 24, .ref 25, .ref 26, .ref 27, .ref 28, .ref 29, .ref 30, .ref 31, .ref 32, .ref 33, .ref 34, .ref 35, .ref 36, .ref 37, .int (vf), .int (wh), .int (wy), .ref 38, .ref 39, .ref 40, .ref 41, .int (hg), .ref 42, .ref 43, .ref 44, .ref 45, .ref 46, .ref 47, .ref 48, .ref 49, .int (dp), .ref 50, .ref 51, .ref 52, .int (md), .int (ov), .int (oh), .int (dn), .int (an)]))) (.inl (some (.int (nI 0)))) (σ.set 22 (.inr (7, MoF (nI 1) vf wh wy hg dp md ov oh dn an)))
  refine jr_iload_n d_Mo_method_5 rfl ?_
  refine jr_iconst ((-1)) d_Mo_method_6 (by decide) ?_
  refine jr_icmp_eq 18 d_Mo_method_7 (by decide) (fun c1 => ?_) (fun c1 => ?_)
  · refine jr_iload d_Mo_method_18 rfl ?_
    refine jr_iconst ((-1)) d_Mo_method_20 (by decide) ?_
    refine jr_icmp_eq 33 d_Mo_method_21 (by decide) (fun c2 => ?_) (fun c2 => ?_)
    · refine jr_iload_n d_Mo_method_33 rfl ?_
      refine jr_iconst ((-1)) d_Mo_method_34 (by decide) ?_
      refine jr_icmp_ne 44 d_Mo_method_35 (by decide) (fun c3 => ?_) (fun c3 => ?_)
      · refine jr_aload_n d_Mo_method_44 rfl ?_
        refine jr_iload d_Mo_method_45 rfl ?_
        refine jr_callV (As := [.int (r)]) d_Mo_method_47 k_Mo_method_129 (jl_ss hO) rfl rfl rfl (Nat.le_of_ble_eq_true rfl) (by decide) (by decide) (mo_isTyp hl (jl_ss hO) (MoW.sx hw (Or.inl (by decide)))) ?_
        show jl_W l G m_Mo_method (0, 0) 50 [some (.ref 22), some (.int (k)), some (.int (sl)), some (.int (p)), some (.int (q)), some (.int (r)), none, none, none, none] [.int (bi (isTyp (r)))] (σ.set (22) (.inr (7, [.int (nI 0), .ref 23, .ref 24, .ref 25, .ref 26, .ref 27, .ref 28, .ref 29, .ref 30, .ref 31, .ref 32, .ref 33, .ref 34, .ref 35, .ref 36, .ref 37, .int (vf), .int (wh), .int (wy), .ref 38, .ref 39, .ref 40, .ref 41, .int (hg), .ref 42, .ref 43, .ref 44, .ref 45, .ref 46, .ref 47, .ref 48, .ref 49, .int (dp), .ref 50, .ref 51, .ref 52, .int (md), .int (ov), .int (oh), .int (dn), .int (an)]))) (.inl (some (.int (nI 0)))) (σ.set 22 (.inr (7, MoF (nI 1) vf wh wy hg dp md ov oh dn an)))
        refine jr_if_ne 57 d_Mo_method_50 (by decide) (fun c4 => ?_) (fun c4 => ?_)
        · refine jr_iconst ((nI (0))) d_Mo_method_57 (by decide) ?_
          refine jr_istore d_Mo_method_58 (by decide) ?_
          show jl_W l G m_Mo_method (0, 0) 60 [some (.ref 22), some (.int (k)), some (.int (sl)), some (.int (p)), some (.int (q)), some (.int (r)), some (.int (nI 0)), none, none, none] [] (σ.set (22) (.inr (7, [.int (nI 0), .ref 23, .ref 24, .ref 25, .ref 26, .ref 27, .ref 28, .ref 29, .ref 30, .ref 31, .ref 32, .ref 33, .ref 34, .ref 35, .ref 36, .ref 37, .int (vf), .int (wh), .int (wy), .ref 38, .ref 39, .ref 40, .ref 41, .int (hg), .ref 42, .ref 43, .ref 44, .ref 45, .ref 46, .ref 47, .ref 48, .ref 49, .int (dp), .ref 50, .ref 51, .ref 52, .int (md), .int (ov), .int (oh), .int (dn), .int (an)]))) (.inl (some (.int (nI 0)))) (σ.set 22 (.inr (7, MoF (nI 1) vf wh wy hg dp md ov oh dn an)))
          refine jr_aload_n d_Mo_method_60 rfl ?_
          refine jr_iload_n d_Mo_method_61 rfl ?_
          refine jr_bipush ((nI (6))) d_Mo_method_62 (by decide) ?_
          refine jr_callV (As := [.int (k), .int (nI 6)]) d_Mo_method_64 k_Mo_method_114 (jl_ss hO) rfl rfl rfl (Nat.le_of_ble_eq_true rfl) (by decide) (by decide) (mo_out hl (jl_ss hO) (MoW.sx hw (Or.inl (by decide)))) ?_
          show jl_W l G m_Mo_method (0, 0) 67 [some (.ref 22), some (.int (k)), some (.int (sl)), some (.int (p)), some (.int (q)), some (.int (r)), some (.int (nI 0)), none, none, none] [.int (bi (outB (k) (nI 6)))] (σ.set (22) (.inr (7, [.int (nI 0), .ref 23, .ref 24, .ref 25, .ref 26, .ref 27, .ref 28, .ref 29, .ref 30, .ref 31, .ref 32, .ref 33, .ref 34, .ref 35, .ref 36, .ref 37, .int (vf), .int (wh), .int (wy), .ref 38, .ref 39, .ref 40, .ref 41, .int (hg), .ref 42, .ref 43, .ref 44, .ref 45, .ref 46, .ref 47, .ref 48, .ref 49, .int (dp), .ref 50, .ref 51, .ref 52, .int (md), .int (ov), .int (oh), .int (dn), .int (an)]))) (.inl (some (.int (nI 0)))) (σ.set 22 (.inr (7, MoF (nI 1) vf wh wy hg dp md ov oh dn an)))
          refine jr_if_ne 84 d_Mo_method_67 (by decide) (fun c5 => ?_) (fun c5 => ?_)
          · refine jr_aload_n d_Mo_method_84 rfl ?_
            refine jr_iconst ((nI (1))) d_Mo_method_85 (by decide) ?_
            refine jr_callV (As := [.int (nI 1)]) d_Mo_method_86 k_Mo_method_118 (jl_ss hO) rfl rfl rfl (Nat.le_of_ble_eq_true rfl) (by decide) (by decide) (mo_fail hl (jl_ss hO) (MoW.sx hw (Or.inl (by decide)))) ?_
            show jl_W l G m_Mo_method (0, 0) 89 [some (.ref 22), some (.int (k)), some (.int (sl)), some (.int (p)), some (.int (q)), some (.int (r)), some (.int (nI 0)), none, none, none] [.int (nI 0)] ((σ.set (22) (.inr (7, [.int (nI 0), .ref 23, .ref 24, .ref 25, .ref 26, .ref 27, .ref 28, .ref 29, .ref 30, .ref 31, .ref 32, .ref 33, .ref 34, .ref 35, .ref 36, .ref 37, .int (vf), .int (wh), .int (wy), .ref 38, .ref 39, .ref 40, .ref 41, .int (hg), .ref 42, .ref 43, .ref 44, .ref 45, .ref 46, .ref 47, .ref 48, .ref 49, .int (dp), .ref 50, .ref 51, .ref 52, .int (md), .int (ov), .int (oh), .int (dn), .int (an)]))).set (22) (.inr (7, [.int (nI 1), .ref 23, .ref 24, .ref 25, .ref 26, .ref 27, .ref 28, .ref 29, .ref 30, .ref 31, .ref 32, .ref 33, .ref 34, .ref 35, .ref 36, .ref 37, .int (vf), .int (wh), .int (wy), .ref 38, .ref 39, .ref 40, .ref 41, .int (hg), .ref 42, .ref 43, .ref 44, .ref 45, .ref 46, .ref 47, .ref 48, .ref 49, .int (dp), .ref 50, .ref 51, .ref 52, .int (md), .int (ov), .int (oh), .int (dn), .int (an)]))) (.inl (some (.int (nI 0)))) (σ.set 22 (.inr (7, MoF (nI 1) vf wh wy hg dp md ov oh dn an)))
            exact jr_iretE d_Mo_method_89 rfl (rfl) ((List.set_set ..).symm) (by decide) (by decide)
          · refine jr_aload_n d_Mo_method_70 rfl ?_
            refine jr_iload_n d_Mo_method_71 rfl ?_
            refine jr_iconst ((nI (4))) d_Mo_method_72 (by decide) ?_
            refine jr_callV (As := [.int (sl), .int (nI 4)]) d_Mo_method_73 k_Mo_method_114 (jl_ss hO) rfl rfl rfl (Nat.le_of_ble_eq_true rfl) (by decide) (by decide) (mo_out hl (jl_ss hO) (MoW.sx hw (Or.inl (by decide)))) ?_
            show jl_W l G m_Mo_method (0, 0) 76 [some (.ref 22), some (.int (k)), some (.int (sl)), some (.int (p)), some (.int (q)), some (.int (r)), some (.int (nI 0)), none, none, none] [.int (bi (outB (sl) (nI 4)))] (σ.set (22) (.inr (7, [.int (nI 0), .ref 23, .ref 24, .ref 25, .ref 26, .ref 27, .ref 28, .ref 29, .ref 30, .ref 31, .ref 32, .ref 33, .ref 34, .ref 35, .ref 36, .ref 37, .int (vf), .int (wh), .int (wy), .ref 38, .ref 39, .ref 40, .ref 41, .int (hg), .ref 42, .ref 43, .ref 44, .ref 45, .ref 46, .ref 47, .ref 48, .ref 49, .int (dp), .ref 50, .ref 51, .ref 52, .int (md), .int (ov), .int (oh), .int (dn), .int (an)]))) (.inl (some (.int (nI 0)))) (σ.set 22 (.inr (7, MoF (nI 1) vf wh wy hg dp md ov oh dn an)))
            refine jr_if_ne 84 d_Mo_method_76 (by decide) (fun c6 => ?_) (fun c6 => ?_)
            · refine jr_aload_n d_Mo_method_84 rfl ?_
              refine jr_iconst ((nI (1))) d_Mo_method_85 (by decide) ?_
              refine jr_callV (As := [.int (nI 1)]) d_Mo_method_86 k_Mo_method_118 (jl_ss hO) rfl rfl rfl (Nat.le_of_ble_eq_true rfl) (by decide) (by decide) (mo_fail hl (jl_ss hO) (MoW.sx hw (Or.inl (by decide)))) ?_
              show jl_W l G m_Mo_method (0, 0) 89 [some (.ref 22), some (.int (k)), some (.int (sl)), some (.int (p)), some (.int (q)), some (.int (r)), some (.int (nI 0)), none, none, none] [.int (nI 0)] ((σ.set (22) (.inr (7, [.int (nI 0), .ref 23, .ref 24, .ref 25, .ref 26, .ref 27, .ref 28, .ref 29, .ref 30, .ref 31, .ref 32, .ref 33, .ref 34, .ref 35, .ref 36, .ref 37, .int (vf), .int (wh), .int (wy), .ref 38, .ref 39, .ref 40, .ref 41, .int (hg), .ref 42, .ref 43, .ref 44, .ref 45, .ref 46, .ref 47, .ref 48, .ref 49, .int (dp), .ref 50, .ref 51, .ref 52, .int (md), .int (ov), .int (oh), .int (dn), .int (an)]))).set (22) (.inr (7, [.int (nI 1), .ref 23, .ref 24, .ref 25, .ref 26, .ref 27, .ref 28, .ref 29, .ref 30, .ref 31, .ref 32, .ref 33, .ref 34, .ref 35, .ref 36, .ref 37, .int (vf), .int (wh), .int (wy), .ref 38, .ref 39, .ref 40, .ref 41, .int (hg), .ref 42, .ref 43, .ref 44, .ref 45, .ref 46, .ref 47, .ref 48, .ref 49, .int (dp), .ref 50, .ref 51, .ref 52, .int (md), .int (ov), .int (oh), .int (dn), .int (an)]))) (.inl (some (.int (nI 0)))) (σ.set 22 (.inr (7, MoF (nI 1) vf wh wy hg dp md ov oh dn an)))
              exact jr_iretE d_Mo_method_89 rfl (rfl) ((List.set_set ..).symm) (by decide) (by decide)
            · refine jr_iload d_Mo_method_79 rfl ?_
              refine jr_if_eq 90 d_Mo_method_81 (by decide) (fun _ => ?_) (fun z => absurd (by decide) z)
              exfalso; simp_all [prOk, bi_0]
        · refine jr_iconst ((nI (1))) d_Mo_method_53 (by decide) ?_
          refine jr_goto 58 d_Mo_method_54 (by decide) ?_
          refine jr_istore d_Mo_method_58 (by decide) ?_
          show jl_W l G m_Mo_method (0, 0) 60 [some (.ref 22), some (.int (k)), some (.int (sl)), some (.int (p)), some (.int (q)), some (.int (r)), some (.int (nI 1)), none, none, none] [] (σ.set (22) (.inr (7, [.int (nI 0), .ref 23, .ref 24, .ref 25, .ref 26, .ref 27, .ref 28, .ref 29, .ref 30, .ref 31, .ref 32, .ref 33, .ref 34, .ref 35, .ref 36, .ref 37, .int (vf), .int (wh), .int (wy), .ref 38, .ref 39, .ref 40, .ref 41, .int (hg), .ref 42, .ref 43, .ref 44, .ref 45, .ref 46, .ref 47, .ref 48, .ref 49, .int (dp), .ref 50, .ref 51, .ref 52, .int (md), .int (ov), .int (oh), .int (dn), .int (an)]))) (.inl (some (.int (nI 0)))) (σ.set 22 (.inr (7, MoF (nI 1) vf wh wy hg dp md ov oh dn an)))
          refine jr_aload_n d_Mo_method_60 rfl ?_
          refine jr_iload_n d_Mo_method_61 rfl ?_
          refine jr_bipush ((nI (6))) d_Mo_method_62 (by decide) ?_
          refine jr_callV (As := [.int (k), .int (nI 6)]) d_Mo_method_64 k_Mo_method_114 (jl_ss hO) rfl rfl rfl (Nat.le_of_ble_eq_true rfl) (by decide) (by decide) (mo_out hl (jl_ss hO) (MoW.sx hw (Or.inl (by decide)))) ?_
          show jl_W l G m_Mo_method (0, 0) 67 [some (.ref 22), some (.int (k)), some (.int (sl)), some (.int (p)), some (.int (q)), some (.int (r)), some (.int (nI 1)), none, none, none] [.int (bi (outB (k) (nI 6)))] (σ.set (22) (.inr (7, [.int (nI 0), .ref 23, .ref 24, .ref 25, .ref 26, .ref 27, .ref 28, .ref 29, .ref 30, .ref 31, .ref 32, .ref 33, .ref 34, .ref 35, .ref 36, .ref 37, .int (vf), .int (wh), .int (wy), .ref 38, .ref 39, .ref 40, .ref 41, .int (hg), .ref 42, .ref 43, .ref 44, .ref 45, .ref 46, .ref 47, .ref 48, .ref 49, .int (dp), .ref 50, .ref 51, .ref 52, .int (md), .int (ov), .int (oh), .int (dn), .int (an)]))) (.inl (some (.int (nI 0)))) (σ.set 22 (.inr (7, MoF (nI 1) vf wh wy hg dp md ov oh dn an)))
          refine jr_if_ne 84 d_Mo_method_67 (by decide) (fun c7 => ?_) (fun c7 => ?_)
          · refine jr_aload_n d_Mo_method_84 rfl ?_
            refine jr_iconst ((nI (1))) d_Mo_method_85 (by decide) ?_
            refine jr_callV (As := [.int (nI 1)]) d_Mo_method_86 k_Mo_method_118 (jl_ss hO) rfl rfl rfl (Nat.le_of_ble_eq_true rfl) (by decide) (by decide) (mo_fail hl (jl_ss hO) (MoW.sx hw (Or.inl (by decide)))) ?_
            show jl_W l G m_Mo_method (0, 0) 89 [some (.ref 22), some (.int (k)), some (.int (sl)), some (.int (p)), some (.int (q)), some (.int (r)), some (.int (nI 1)), none, none, none] [.int (nI 0)] ((σ.set (22) (.inr (7, [.int (nI 0), .ref 23, .ref 24, .ref 25, .ref 26, .ref 27, .ref 28, .ref 29, .ref 30, .ref 31, .ref 32, .ref 33, .ref 34, .ref 35, .ref 36, .ref 37, .int (vf), .int (wh), .int (wy), .ref 38, .ref 39, .ref 40, .ref 41, .int (hg), .ref 42, .ref 43, .ref 44, .ref 45, .ref 46, .ref 47, .ref 48, .ref 49, .int (dp), .ref 50, .ref 51, .ref 52, .int (md), .int (ov), .int (oh), .int (dn), .int (an)]))).set (22) (.inr (7, [.int (nI 1), .ref 23, .ref 24, .ref 25, .ref 26, .ref 27, .ref 28, .ref 29, .ref 30, .ref 31, .ref 32, .ref 33, .ref 34, .ref 35, .ref 36, .ref 37, .int (vf), .int (wh), .int (wy), .ref 38, .ref 39, .ref 40, .ref 41, .int (hg), .ref 42, .ref 43, .ref 44, .ref 45, .ref 46, .ref 47, .ref 48, .ref 49, .int (dp), .ref 50, .ref 51, .ref 52, .int (md), .int (ov), .int (oh), .int (dn), .int (an)]))) (.inl (some (.int (nI 0)))) (σ.set 22 (.inr (7, MoF (nI 1) vf wh wy hg dp md ov oh dn an)))
            exact jr_iretE d_Mo_method_89 rfl (rfl) ((List.set_set ..).symm) (by decide) (by decide)
          · refine jr_aload_n d_Mo_method_70 rfl ?_
            refine jr_iload_n d_Mo_method_71 rfl ?_
            refine jr_iconst ((nI (4))) d_Mo_method_72 (by decide) ?_
            refine jr_callV (As := [.int (sl), .int (nI 4)]) d_Mo_method_73 k_Mo_method_114 (jl_ss hO) rfl rfl rfl (Nat.le_of_ble_eq_true rfl) (by decide) (by decide) (mo_out hl (jl_ss hO) (MoW.sx hw (Or.inl (by decide)))) ?_
            show jl_W l G m_Mo_method (0, 0) 76 [some (.ref 22), some (.int (k)), some (.int (sl)), some (.int (p)), some (.int (q)), some (.int (r)), some (.int (nI 1)), none, none, none] [.int (bi (outB (sl) (nI 4)))] (σ.set (22) (.inr (7, [.int (nI 0), .ref 23, .ref 24, .ref 25, .ref 26, .ref 27, .ref 28, .ref 29, .ref 30, .ref 31, .ref 32, .ref 33, .ref 34, .ref 35, .ref 36, .ref 37, .int (vf), .int (wh), .int (wy), .ref 38, .ref 39, .ref 40, .ref 41, .int (hg), .ref 42, .ref 43, .ref 44, .ref 45, .ref 46, .ref 47, .ref 48, .ref 49, .int (dp), .ref 50, .ref 51, .ref 52, .int (md), .int (ov), .int (oh), .int (dn), .int (an)]))) (.inl (some (.int (nI 0)))) (σ.set 22 (.inr (7, MoF (nI 1) vf wh wy hg dp md ov oh dn an)))
            refine jr_if_ne 84 d_Mo_method_76 (by decide) (fun c8 => ?_) (fun c8 => ?_)
            · refine jr_aload_n d_Mo_method_84 rfl ?_
              refine jr_iconst ((nI (1))) d_Mo_method_85 (by decide) ?_
              refine jr_callV (As := [.int (nI 1)]) d_Mo_method_86 k_Mo_method_118 (jl_ss hO) rfl rfl rfl (Nat.le_of_ble_eq_true rfl) (by decide) (by decide) (mo_fail hl (jl_ss hO) (MoW.sx hw (Or.inl (by decide)))) ?_
              show jl_W l G m_Mo_method (0, 0) 89 [some (.ref 22), some (.int (k)), some (.int (sl)), some (.int (p)), some (.int (q)), some (.int (r)), some (.int (nI 1)), none, none, none] [.int (nI 0)] ((σ.set (22) (.inr (7, [.int (nI 0), .ref 23, .ref 24, .ref 25, .ref 26, .ref 27, .ref 28, .ref 29, .ref 30, .ref 31, .ref 32, .ref 33, .ref 34, .ref 35, .ref 36, .ref 37, .int (vf), .int (wh), .int (wy), .ref 38, .ref 39, .ref 40, .ref 41, .int (hg), .ref 42, .ref 43, .ref 44, .ref 45, .ref 46, .ref 47, .ref 48, .ref 49, .int (dp), .ref 50, .ref 51, .ref 52, .int (md), .int (ov), .int (oh), .int (dn), .int (an)]))).set (22) (.inr (7, [.int (nI 1), .ref 23, .ref 24, .ref 25, .ref 26, .ref 27, .ref 28, .ref 29, .ref 30, .ref 31, .ref 32, .ref 33, .ref 34, .ref 35, .ref 36, .ref 37, .int (vf), .int (wh), .int (wy), .ref 38, .ref 39, .ref 40, .ref 41, .int (hg), .ref 42, .ref 43, .ref 44, .ref 45, .ref 46, .ref 47, .ref 48, .ref 49, .int (dp), .ref 50, .ref 51, .ref 52, .int (md), .int (ov), .int (oh), .int (dn), .int (an)]))) (.inl (some (.int (nI 0)))) (σ.set 22 (.inr (7, MoF (nI 1) vf wh wy hg dp md ov oh dn an)))
              exact jr_iretE d_Mo_method_89 rfl (rfl) ((List.set_set ..).symm) (by decide) (by decide)
            · refine jr_iload d_Mo_method_79 rfl ?_
              refine jr_if_eq 90 d_Mo_method_81 (by decide) (fun z => absurd z (by decide)) (fun _ => ?_)
              refine jr_aload_n d_Mo_method_84 rfl ?_
              refine jr_iconst ((nI (1))) d_Mo_method_85 (by decide) ?_
              refine jr_callV (As := [.int (nI 1)]) d_Mo_method_86 k_Mo_method_118 (jl_ss hO) rfl rfl rfl (Nat.le_of_ble_eq_true rfl) (by decide) (by decide) (mo_fail hl (jl_ss hO) (MoW.sx hw (Or.inl (by decide)))) ?_
              show jl_W l G m_Mo_method (0, 0) 89 [some (.ref 22), some (.int (k)), some (.int (sl)), some (.int (p)), some (.int (q)), some (.int (r)), some (.int (nI 1)), none, none, none] [.int (nI 0)] ((σ.set (22) (.inr (7, [.int (nI 0), .ref 23, .ref 24, .ref 25, .ref 26, .ref 27, .ref 28, .ref 29, .ref 30, .ref 31, .ref 32, .ref 33, .ref 34, .ref 35, .ref 36, .ref 37, .int (vf), .int (wh), .int (wy), .ref 38, .ref 39, .ref 40, .ref 41, .int (hg), .ref 42, .ref 43, .ref 44, .ref 45, .ref 46, .ref 47, .ref 48, .ref 49, .int (dp), .ref 50, .ref 51, .ref 52, .int (md), .int (ov), .int (oh), .int (dn), .int (an)]))).set (22) (.inr (7, [.int (nI 1), .ref 23, .ref 24, .ref 25, .ref 26, .ref 27, .ref 28, .ref 29, .ref 30, .ref 31, .ref 32, .ref 33, .ref 34, .ref 35, .ref 36, .ref 37, .int (vf), .int (wh), .int (wy), .ref 38, .ref 39, .ref 40, .ref 41, .int (hg), .ref 42, .ref 43, .ref 44, .ref 45, .ref 46, .ref 47, .ref 48, .ref 49, .int (dp), .ref 50, .ref 51, .ref 52, .int (md), .int (ov), .int (oh), .int (dn), .int (an)]))) (.inl (some (.int (nI 0)))) (σ.set 22 (.inr (7, MoF (nI 1) vf wh wy hg dp md ov oh dn an)))
              exact jr_iretE d_Mo_method_89 rfl (rfl) ((List.set_set ..).symm) (by decide) (by decide)
      · refine jr_iload d_Mo_method_38 rfl ?_
        refine jr_iconst ((-1)) d_Mo_method_40 (by decide) ?_
        refine jr_icmp_ne 53 d_Mo_method_41 (by decide) (fun c9 => ?_) (fun c9 => ?_)
        · refine jr_iconst ((nI (1))) d_Mo_method_53 (by decide) ?_
          refine jr_goto 58 d_Mo_method_54 (by decide) ?_
          refine jr_istore d_Mo_method_58 (by decide) ?_
          show jl_W l G m_Mo_method (0, 0) 60 [some (.ref 22), some (.int (k)), some (.int (sl)), some (.int (p)), some (.int (q)), some (.int (r)), some (.int (nI 1)), none, none, none] [] (σ.set (22) (.inr (7, [.int (nI 0), .ref 23, .ref 24, .ref 25, .ref 26, .ref 27, .ref 28, .ref 29, .ref 30, .ref 31, .ref 32, .ref 33, .ref 34, .ref 35, .ref 36, .ref 37, .int (vf), .int (wh), .int (wy), .ref 38, .ref 39, .ref 40, .ref 41, .int (hg), .ref 42, .ref 43, .ref 44, .ref 45, .ref 46, .ref 47, .ref 48, .ref 49, .int (dp), .ref 50, .ref 51, .ref 52, .int (md), .int (ov), .int (oh), .int (dn), .int (an)]))) (.inl (some (.int (nI 0)))) (σ.set 22 (.inr (7, MoF (nI 1) vf wh wy hg dp md ov oh dn an)))
          refine jr_aload_n d_Mo_method_60 rfl ?_
          refine jr_iload_n d_Mo_method_61 rfl ?_
          refine jr_bipush ((nI (6))) d_Mo_method_62 (by decide) ?_
          refine jr_callV (As := [.int (k), .int (nI 6)]) d_Mo_method_64 k_Mo_method_114 (jl_ss hO) rfl rfl rfl (Nat.le_of_ble_eq_true rfl) (by decide) (by decide) (mo_out hl (jl_ss hO) (MoW.sx hw (Or.inl (by decide)))) ?_
          show jl_W l G m_Mo_method (0, 0) 67 [some (.ref 22), some (.int (k)), some (.int (sl)), some (.int (p)), some (.int (q)), some (.int (r)), some (.int (nI 1)), none, none, none] [.int (bi (outB (k) (nI 6)))] (σ.set (22) (.inr (7, [.int (nI 0), .ref 23, .ref 24, .ref 25, .ref 26, .ref 27, .ref 28, .ref 29, .ref 30, .ref 31, .ref 32, .ref 33, .ref 34, .ref 35, .ref 36, .ref 37, .int (vf), .int (wh), .int (wy), .ref 38, .ref 39, .ref 40, .ref 41, .int (hg), .ref 42, .ref 43, .ref 44, .ref 45, .ref 46, .ref 47, .ref 48, .ref 49, .int (dp), .ref 50, .ref 51, .ref 52, .int (md), .int (ov), .int (oh), .int (dn), .int (an)]))) (.inl (some (.int (nI 0)))) (σ.set 22 (.inr (7, MoF (nI 1) vf wh wy hg dp md ov oh dn an)))
          refine jr_if_ne 84 d_Mo_method_67 (by decide) (fun c10 => ?_) (fun c10 => ?_)
          · refine jr_aload_n d_Mo_method_84 rfl ?_
            refine jr_iconst ((nI (1))) d_Mo_method_85 (by decide) ?_
            refine jr_callV (As := [.int (nI 1)]) d_Mo_method_86 k_Mo_method_118 (jl_ss hO) rfl rfl rfl (Nat.le_of_ble_eq_true rfl) (by decide) (by decide) (mo_fail hl (jl_ss hO) (MoW.sx hw (Or.inl (by decide)))) ?_
            show jl_W l G m_Mo_method (0, 0) 89 [some (.ref 22), some (.int (k)), some (.int (sl)), some (.int (p)), some (.int (q)), some (.int (r)), some (.int (nI 1)), none, none, none] [.int (nI 0)] ((σ.set (22) (.inr (7, [.int (nI 0), .ref 23, .ref 24, .ref 25, .ref 26, .ref 27, .ref 28, .ref 29, .ref 30, .ref 31, .ref 32, .ref 33, .ref 34, .ref 35, .ref 36, .ref 37, .int (vf), .int (wh), .int (wy), .ref 38, .ref 39, .ref 40, .ref 41, .int (hg), .ref 42, .ref 43, .ref 44, .ref 45, .ref 46, .ref 47, .ref 48, .ref 49, .int (dp), .ref 50, .ref 51, .ref 52, .int (md), .int (ov), .int (oh), .int (dn), .int (an)]))).set (22) (.inr (7, [.int (nI 1), .ref 23, .ref 24, .ref 25, .ref 26, .ref 27, .ref 28, .ref 29, .ref 30, .ref 31, .ref 32, .ref 33, .ref 34, .ref 35, .ref 36, .ref 37, .int (vf), .int (wh), .int (wy), .ref 38, .ref 39, .ref 40, .ref 41, .int (hg), .ref 42, .ref 43, .ref 44, .ref 45, .ref 46, .ref 47, .ref 48, .ref 49, .int (dp), .ref 50, .ref 51, .ref 52, .int (md), .int (ov), .int (oh), .int (dn), .int (an)]))) (.inl (some (.int (nI 0)))) (σ.set 22 (.inr (7, MoF (nI 1) vf wh wy hg dp md ov oh dn an)))
            exact jr_iretE d_Mo_method_89 rfl (rfl) ((List.set_set ..).symm) (by decide) (by decide)
          · refine jr_aload_n d_Mo_method_70 rfl ?_
            refine jr_iload_n d_Mo_method_71 rfl ?_
            refine jr_iconst ((nI (4))) d_Mo_method_72 (by decide) ?_
            refine jr_callV (As := [.int (sl), .int (nI 4)]) d_Mo_method_73 k_Mo_method_114 (jl_ss hO) rfl rfl rfl (Nat.le_of_ble_eq_true rfl) (by decide) (by decide) (mo_out hl (jl_ss hO) (MoW.sx hw (Or.inl (by decide)))) ?_
            show jl_W l G m_Mo_method (0, 0) 76 [some (.ref 22), some (.int (k)), some (.int (sl)), some (.int (p)), some (.int (q)), some (.int (r)), some (.int (nI 1)), none, none, none] [.int (bi (outB (sl) (nI 4)))] (σ.set (22) (.inr (7, [.int (nI 0), .ref 23, .ref 24, .ref 25, .ref 26, .ref 27, .ref 28, .ref 29, .ref 30, .ref 31, .ref 32, .ref 33, .ref 34, .ref 35, .ref 36, .ref 37, .int (vf), .int (wh), .int (wy), .ref 38, .ref 39, .ref 40, .ref 41, .int (hg), .ref 42, .ref 43, .ref 44, .ref 45, .ref 46, .ref 47, .ref 48, .ref 49, .int (dp), .ref 50, .ref 51, .ref 52, .int (md), .int (ov), .int (oh), .int (dn), .int (an)]))) (.inl (some (.int (nI 0)))) (σ.set 22 (.inr (7, MoF (nI 1) vf wh wy hg dp md ov oh dn an)))
            refine jr_if_ne 84 d_Mo_method_76 (by decide) (fun c11 => ?_) (fun c11 => ?_)
            · refine jr_aload_n d_Mo_method_84 rfl ?_
              refine jr_iconst ((nI (1))) d_Mo_method_85 (by decide) ?_
              refine jr_callV (As := [.int (nI 1)]) d_Mo_method_86 k_Mo_method_118 (jl_ss hO) rfl rfl rfl (Nat.le_of_ble_eq_true rfl) (by decide) (by decide) (mo_fail hl (jl_ss hO) (MoW.sx hw (Or.inl (by decide)))) ?_
              show jl_W l G m_Mo_method (0, 0) 89 [some (.ref 22), some (.int (k)), some (.int (sl)), some (.int (p)), some (.int (q)), some (.int (r)), some (.int (nI 1)), none, none, none] [.int (nI 0)] ((σ.set (22) (.inr (7, [.int (nI 0), .ref 23, .ref 24, .ref 25, .ref 26, .ref 27, .ref 28, .ref 29, .ref 30, .ref 31, .ref 32, .ref 33, .ref 34, .ref 35, .ref 36, .ref 37, .int (vf), .int (wh), .int (wy), .ref 38, .ref 39, .ref 40, .ref 41, .int (hg), .ref 42, .ref 43, .ref 44, .ref 45, .ref 46, .ref 47, .ref 48, .ref 49, .int (dp), .ref 50, .ref 51, .ref 52, .int (md), .int (ov), .int (oh), .int (dn), .int (an)]))).set (22) (.inr (7, [.int (nI 1), .ref 23, .ref 24, .ref 25, .ref 26, .ref 27, .ref 28, .ref 29, .ref 30, .ref 31, .ref 32, .ref 33, .ref 34, .ref 35, .ref 36, .ref 37, .int (vf), .int (wh), .int (wy), .ref 38, .ref 39, .ref 40, .ref 41, .int (hg), .ref 42, .ref 43, .ref 44, .ref 45, .ref 46, .ref 47, .ref 48, .ref 49, .int (dp), .ref 50, .ref 51, .ref 52, .int (md), .int (ov), .int (oh), .int (dn), .int (an)]))) (.inl (some (.int (nI 0)))) (σ.set 22 (.inr (7, MoF (nI 1) vf wh wy hg dp md ov oh dn an)))
              exact jr_iretE d_Mo_method_89 rfl (rfl) ((List.set_set ..).symm) (by decide) (by decide)
            · refine jr_iload d_Mo_method_79 rfl ?_
              refine jr_if_eq 90 d_Mo_method_81 (by decide) (fun z => absurd z (by decide)) (fun _ => ?_)
              refine jr_aload_n d_Mo_method_84 rfl ?_
              refine jr_iconst ((nI (1))) d_Mo_method_85 (by decide) ?_
              refine jr_callV (As := [.int (nI 1)]) d_Mo_method_86 k_Mo_method_118 (jl_ss hO) rfl rfl rfl (Nat.le_of_ble_eq_true rfl) (by decide) (by decide) (mo_fail hl (jl_ss hO) (MoW.sx hw (Or.inl (by decide)))) ?_
              show jl_W l G m_Mo_method (0, 0) 89 [some (.ref 22), some (.int (k)), some (.int (sl)), some (.int (p)), some (.int (q)), some (.int (r)), some (.int (nI 1)), none, none, none] [.int (nI 0)] ((σ.set (22) (.inr (7, [.int (nI 0), .ref 23, .ref 24, .ref 25, .ref 26, .ref 27, .ref 28, .ref 29, .ref 30, .ref 31, .ref 32, .ref 33, .ref 34, .ref 35, .ref 36, .ref 37, .int (vf), .int (wh), .int (wy), .ref 38, .ref 39, .ref 40, .ref 41, .int (hg), .ref 42, .ref 43, .ref 44, .ref 45, .ref 46, .ref 47, .ref 48, .ref 49, .int (dp), .ref 50, .ref 51, .ref 52, .int (md), .int (ov), .int (oh), .int (dn), .int (an)]))).set (22) (.inr (7, [.int (nI 1), .ref 23, .ref 24, .ref 25, .ref 26, .ref 27, .ref 28, .ref 29, .ref 30, .ref 31, .ref 32, .ref 33, .ref 34, .ref 35, .ref 36, .ref 37, .int (vf), .int (wh), .int (wy), .ref 38, .ref 39, .ref 40, .ref 41, .int (hg), .ref 42, .ref 43, .ref 44, .ref 45, .ref 46, .ref 47, .ref 48, .ref 49, .int (dp), .ref 50, .ref 51, .ref 52, .int (md), .int (ov), .int (oh), .int (dn), .int (an)]))) (.inl (some (.int (nI 0)))) (σ.set 22 (.inr (7, MoF (nI 1) vf wh wy hg dp md ov oh dn an)))
              exact jr_iretE d_Mo_method_89 rfl (rfl) ((List.set_set ..).symm) (by decide) (by decide)
        · refine jr_aload_n d_Mo_method_44 rfl ?_
          refine jr_iload d_Mo_method_45 rfl ?_
          refine jr_callV (As := [.int (r)]) d_Mo_method_47 k_Mo_method_129 (jl_ss hO) rfl rfl rfl (Nat.le_of_ble_eq_true rfl) (by decide) (by decide) (mo_isTyp hl (jl_ss hO) (MoW.sx hw (Or.inl (by decide)))) ?_
          show jl_W l G m_Mo_method (0, 0) 50 [some (.ref 22), some (.int (k)), some (.int (sl)), some (.int (p)), some (.int (q)), some (.int (r)), none, none, none, none] [.int (bi (isTyp (r)))] (σ.set (22) (.inr (7, [.int (nI 0), .ref 23, .ref 24, .ref 25, .ref 26, .ref 27, .ref 28, .ref 29, .ref 30, .ref 31, .ref 32, .ref 33, .ref 34, .ref 35, .ref 36, .ref 37, .int (vf), .int (wh), .int (wy), .ref 38, .ref 39, .ref 40, .ref 41, .int (hg), .ref 42, .ref 43, .ref 44, .ref 45, .ref 46, .ref 47, .ref 48, .ref 49, .int (dp), .ref 50, .ref 51, .ref 52, .int (md), .int (ov), .int (oh), .int (dn), .int (an)]))) (.inl (some (.int (nI 0)))) (σ.set 22 (.inr (7, MoF (nI 1) vf wh wy hg dp md ov oh dn an)))
          refine jr_if_ne 57 d_Mo_method_50 (by decide) (fun c12 => ?_) (fun c12 => ?_)
          · refine jr_iconst ((nI (0))) d_Mo_method_57 (by decide) ?_
            refine jr_istore d_Mo_method_58 (by decide) ?_
            show jl_W l G m_Mo_method (0, 0) 60 [some (.ref 22), some (.int (k)), some (.int (sl)), some (.int (p)), some (.int (q)), some (.int (r)), some (.int (nI 0)), none, none, none] [] (σ.set (22) (.inr (7, [.int (nI 0), .ref 23, .ref 24, .ref 25, .ref 26, .ref 27, .ref 28, .ref 29, .ref 30, .ref 31, .ref 32, .ref 33, .ref 34, .ref 35, .ref 36, .ref 37, .int (vf), .int (wh), .int (wy), .ref 38, .ref 39, .ref 40, .ref 41, .int (hg), .ref 42, .ref 43, .ref 44, .ref 45, .ref 46, .ref 47, .ref 48, .ref 49, .int (dp), .ref 50, .ref 51, .ref 52, .int (md), .int (ov), .int (oh), .int (dn), .int (an)]))) (.inl (some (.int (nI 0)))) (σ.set 22 (.inr (7, MoF (nI 1) vf wh wy hg dp md ov oh dn an)))
            refine jr_aload_n d_Mo_method_60 rfl ?_
            refine jr_iload_n d_Mo_method_61 rfl ?_
            refine jr_bipush ((nI (6))) d_Mo_method_62 (by decide) ?_
            refine jr_callV (As := [.int (k), .int (nI 6)]) d_Mo_method_64 k_Mo_method_114 (jl_ss hO) rfl rfl rfl (Nat.le_of_ble_eq_true rfl) (by decide) (by decide) (mo_out hl (jl_ss hO) (MoW.sx hw (Or.inl (by decide)))) ?_
            show jl_W l G m_Mo_method (0, 0) 67 [some (.ref 22), some (.int (k)), some (.int (sl)), some (.int (p)), some (.int (q)), some (.int (r)), some (.int (nI 0)), none, none, none] [.int (bi (outB (k) (nI 6)))] (σ.set (22) (.inr (7, [.int (nI 0), .ref 23, .ref 24, .ref 25, .ref 26, .ref 27, .ref 28, .ref 29, .ref 30, .ref 31, .ref 32, .ref 33, .ref 34, .ref 35, .ref 36, .ref 37, .int (vf), .int (wh), .int (wy), .ref 38, .ref 39, .ref 40, .ref 41, .int (hg), .ref 42, .ref 43, .ref 44, .ref 45, .ref 46, .ref 47, .ref 48, .ref 49, .int (dp), .ref 50, .ref 51, .ref 52, .int (md), .int (ov), .int (oh), .int (dn), .int (an)]))) (.inl (some (.int (nI 0)))) (σ.set 22 (.inr (7, MoF (nI 1) vf wh wy hg dp md ov oh dn an)))
            refine jr_if_ne 84 d_Mo_method_67 (by decide) (fun c13 => ?_) (fun c13 => ?_)
            · refine jr_aload_n d_Mo_method_84 rfl ?_
              refine jr_iconst ((nI (1))) d_Mo_method_85 (by decide) ?_
              refine jr_callV (As := [.int (nI 1)]) d_Mo_method_86 k_Mo_method_118 (jl_ss hO) rfl rfl rfl (Nat.le_of_ble_eq_true rfl) (by decide) (by decide) (mo_fail hl (jl_ss hO) (MoW.sx hw (Or.inl (by decide)))) ?_
              show jl_W l G m_Mo_method (0, 0) 89 [some (.ref 22), some (.int (k)), some (.int (sl)), some (.int (p)), some (.int (q)), some (.int (r)), some (.int (nI 0)), none, none, none] [.int (nI 0)] ((σ.set (22) (.inr (7, [.int (nI 0), .ref 23, .ref 24, .ref 25, .ref 26, .ref 27, .ref 28, .ref 29, .ref 30, .ref 31, .ref 32, .ref 33, .ref 34, .ref 35, .ref 36, .ref 37, .int (vf), .int (wh), .int (wy), .ref 38, .ref 39, .ref 40, .ref 41, .int (hg), .ref 42, .ref 43, .ref 44, .ref 45, .ref 46, .ref 47, .ref 48, .ref 49, .int (dp), .ref 50, .ref 51, .ref 52, .int (md), .int (ov), .int (oh), .int (dn), .int (an)]))).set (22) (.inr (7, [.int (nI 1), .ref 23, .ref 24, .ref 25, .ref 26, .ref 27, .ref 28, .ref 29, .ref 30, .ref 31, .ref 32, .ref 33, .ref 34, .ref 35, .ref 36, .ref 37, .int (vf), .int (wh), .int (wy), .ref 38, .ref 39, .ref 40, .ref 41, .int (hg), .ref 42, .ref 43, .ref 44, .ref 45, .ref 46, .ref 47, .ref 48, .ref 49, .int (dp), .ref 50, .ref 51, .ref 52, .int (md), .int (ov), .int (oh), .int (dn), .int (an)]))) (.inl (some (.int (nI 0)))) (σ.set 22 (.inr (7, MoF (nI 1) vf wh wy hg dp md ov oh dn an)))
              exact jr_iretE d_Mo_method_89 rfl (rfl) ((List.set_set ..).symm) (by decide) (by decide)
            · refine jr_aload_n d_Mo_method_70 rfl ?_
              refine jr_iload_n d_Mo_method_71 rfl ?_
              refine jr_iconst ((nI (4))) d_Mo_method_72 (by decide) ?_
              refine jr_callV (As := [.int (sl), .int (nI 4)]) d_Mo_method_73 k_Mo_method_114 (jl_ss hO) rfl rfl rfl (Nat.le_of_ble_eq_true rfl) (by decide) (by decide) (mo_out hl (jl_ss hO) (MoW.sx hw (Or.inl (by decide)))) ?_
              show jl_W l G m_Mo_method (0, 0) 76 [some (.ref 22), some (.int (k)), some (.int (sl)), some (.int (p)), some (.int (q)), some (.int (r)), some (.int (nI 0)), none, none, none] [.int (bi (outB (sl) (nI 4)))] (σ.set (22) (.inr (7, [.int (nI 0), .ref 23, .ref 24, .ref 25, .ref 26, .ref 27, .ref 28, .ref 29, .ref 30, .ref 31, .ref 32, .ref 33, .ref 34, .ref 35, .ref 36, .ref 37, .int (vf), .int (wh), .int (wy), .ref 38, .ref 39, .ref 40, .ref 41, .int (hg), .ref 42, .ref 43, .ref 44, .ref 45, .ref 46, .ref 47, .ref 48, .ref 49, .int (dp), .ref 50, .ref 51, .ref 52, .int (md), .int (ov), .int (oh), .int (dn), .int (an)]))) (.inl (some (.int (nI 0)))) (σ.set 22 (.inr (7, MoF (nI 1) vf wh wy hg dp md ov oh dn an)))
              refine jr_if_ne 84 d_Mo_method_76 (by decide) (fun c14 => ?_) (fun c14 => ?_)
              · refine jr_aload_n d_Mo_method_84 rfl ?_
                refine jr_iconst ((nI (1))) d_Mo_method_85 (by decide) ?_
                refine jr_callV (As := [.int (nI 1)]) d_Mo_method_86 k_Mo_method_118 (jl_ss hO) rfl rfl rfl (Nat.le_of_ble_eq_true rfl) (by decide) (by decide) (mo_fail hl (jl_ss hO) (MoW.sx hw (Or.inl (by decide)))) ?_
                show jl_W l G m_Mo_method (0, 0) 89 [some (.ref 22), some (.int (k)), some (.int (sl)), some (.int (p)), some (.int (q)), some (.int (r)), some (.int (nI 0)), none, none, none] [.int (nI 0)] ((σ.set (22) (.inr (7, [.int (nI 0), .ref 23, .ref 24, .ref 25, .ref 26, .ref 27, .ref 28, .ref 29, .ref 30, .ref 31, .ref 32, .ref 33, .ref 34, .ref 35, .ref 36, .ref 37, .int (vf), .int (wh), .int (wy), .ref 38, .ref 39, .ref 40, .ref 41, .int (hg), .ref 42, .ref 43, .ref 44, .ref 45, .ref 46, .ref 47, .ref 48, .ref 49, .int (dp), .ref 50, .ref 51, .ref 52, .int (md), .int (ov), .int (oh), .int (dn), .int (an)]))).set (22) (.inr (7, [.int (nI 1), .ref 23, .ref 24, .ref 25, .ref 26, .ref 27, .ref 28, .ref 29, .ref 30, .ref 31, .ref 32, .ref 33, .ref 34, .ref 35, .ref 36, .ref 37, .int (vf), .int (wh), .int (wy), .ref 38, .ref 39, .ref 40, .ref 41, .int (hg), .ref 42, .ref 43, .ref 44, .ref 45, .ref 46, .ref 47, .ref 48, .ref 49, .int (dp), .ref 50, .ref 51, .ref 52, .int (md), .int (ov), .int (oh), .int (dn), .int (an)]))) (.inl (some (.int (nI 0)))) (σ.set 22 (.inr (7, MoF (nI 1) vf wh wy hg dp md ov oh dn an)))
                exact jr_iretE d_Mo_method_89 rfl (rfl) ((List.set_set ..).symm) (by decide) (by decide)
              · refine jr_iload d_Mo_method_79 rfl ?_
                refine jr_if_eq 90 d_Mo_method_81 (by decide) (fun _ => ?_) (fun z => absurd (by decide) z)
                exfalso; simp_all [prOk, bi_0]
          · refine jr_iconst ((nI (1))) d_Mo_method_53 (by decide) ?_
            refine jr_goto 58 d_Mo_method_54 (by decide) ?_
            refine jr_istore d_Mo_method_58 (by decide) ?_
            show jl_W l G m_Mo_method (0, 0) 60 [some (.ref 22), some (.int (k)), some (.int (sl)), some (.int (p)), some (.int (q)), some (.int (r)), some (.int (nI 1)), none, none, none] [] (σ.set (22) (.inr (7, [.int (nI 0), .ref 23, .ref 24, .ref 25, .ref 26, .ref 27, .ref 28, .ref 29, .ref 30, .ref 31, .ref 32, .ref 33, .ref 34, .ref 35, .ref 36, .ref 37, .int (vf), .int (wh), .int (wy), .ref 38, .ref 39, .ref 40, .ref 41, .int (hg), .ref 42, .ref 43, .ref 44, .ref 45, .ref 46, .ref 47, .ref 48, .ref 49, .int (dp), .ref 50, .ref 51, .ref 52, .int (md), .int (ov), .int (oh), .int (dn), .int (an)]))) (.inl (some (.int (nI 0)))) (σ.set 22 (.inr (7, MoF (nI 1) vf wh wy hg dp md ov oh dn an)))
            refine jr_aload_n d_Mo_method_60 rfl ?_
            refine jr_iload_n d_Mo_method_61 rfl ?_
            refine jr_bipush ((nI (6))) d_Mo_method_62 (by decide) ?_
            refine jr_callV (As := [.int (k), .int (nI 6)]) d_Mo_method_64 k_Mo_method_114 (jl_ss hO) rfl rfl rfl (Nat.le_of_ble_eq_true rfl) (by decide) (by decide) (mo_out hl (jl_ss hO) (MoW.sx hw (Or.inl (by decide)))) ?_
            show jl_W l G m_Mo_method (0, 0) 67 [some (.ref 22), some (.int (k)), some (.int (sl)), some (.int (p)), some (.int (q)), some (.int (r)), some (.int (nI 1)), none, none, none] [.int (bi (outB (k) (nI 6)))] (σ.set (22) (.inr (7, [.int (nI 0), .ref 23, .ref 24, .ref 25, .ref 26, .ref 27, .ref 28, .ref 29, .ref 30, .ref 31, .ref 32, .ref 33, .ref 34, .ref 35, .ref 36, .ref 37, .int (vf), .int (wh), .int (wy), .ref 38, .ref 39, .ref 40, .ref 41, .int (hg), .ref 42, .ref 43, .ref 44, .ref 45, .ref 46, .ref 47, .ref 48, .ref 49, .int (dp), .ref 50, .ref 51, .ref 52, .int (md), .int (ov), .int (oh), .int (dn), .int (an)]))) (.inl (some (.int (nI 0)))) (σ.set 22 (.inr (7, MoF (nI 1) vf wh wy hg dp md ov oh dn an)))
            refine jr_if_ne 84 d_Mo_method_67 (by decide) (fun c15 => ?_) (fun c15 => ?_)
            · refine jr_aload_n d_Mo_method_84 rfl ?_
              refine jr_iconst ((nI (1))) d_Mo_method_85 (by decide) ?_
              refine jr_callV (As := [.int (nI 1)]) d_Mo_method_86 k_Mo_method_118 (jl_ss hO) rfl rfl rfl (Nat.le_of_ble_eq_true rfl) (by decide) (by decide) (mo_fail hl (jl_ss hO) (MoW.sx hw (Or.inl (by decide)))) ?_
              show jl_W l G m_Mo_method (0, 0) 89 [some (.ref 22), some (.int (k)), some (.int (sl)), some (.int (p)), some (.int (q)), some (.int (r)), some (.int (nI 1)), none, none, none] [.int (nI 0)] ((σ.set (22) (.inr (7, [.int (nI 0), .ref 23, .ref 24, .ref 25, .ref 26, .ref 27, .ref 28, .ref 29, .ref 30, .ref 31, .ref 32, .ref 33, .ref 34, .ref 35, .ref 36, .ref 37, .int (vf), .int (wh), .int (wy), .ref 38, .ref 39, .ref 40, .ref 41, .int (hg), .ref 42, .ref 43, .ref 44, .ref 45, .ref 46, .ref 47, .ref 48, .ref 49, .int (dp), .ref 50, .ref 51, .ref 52, .int (md), .int (ov), .int (oh), .int (dn), .int (an)]))).set (22) (.inr (7, [.int (nI 1), .ref 23, .ref 24, .ref 25, .ref 26, .ref 27, .ref 28, .ref 29, .ref 30, .ref 31, .ref 32, .ref 33, .ref 34, .ref 35, .ref 36, .ref 37, .int (vf), .int (wh), .int (wy), .ref 38, .ref 39, .ref 40, .ref 41, .int (hg), .ref 42, .ref 43, .ref 44, .ref 45, .ref 46, .ref 47, .ref 48, .ref 49, .int (dp), .ref 50, .ref 51, .ref 52, .int (md), .int (ov), .int (oh), .int (dn), .int (an)]))) (.inl (some (.int (nI 0)))) (σ.set 22 (.inr (7, MoF (nI 1) vf wh wy hg dp md ov oh dn an)))
              exact jr_iretE d_Mo_method_89 rfl (rfl) ((List.set_set ..).symm) (by decide) (by decide)
            · refine jr_aload_n d_Mo_method_70 rfl ?_
              refine jr_iload_n d_Mo_method_71 rfl ?_
              refine jr_iconst ((nI (4))) d_Mo_method_72 (by decide) ?_
              refine jr_callV (As := [.int (sl), .int (nI 4)]) d_Mo_method_73 k_Mo_method_114 (jl_ss hO) rfl rfl rfl (Nat.le_of_ble_eq_true rfl) (by decide) (by decide) (mo_out hl (jl_ss hO) (MoW.sx hw (Or.inl (by decide)))) ?_
              show jl_W l G m_Mo_method (0, 0) 76 [some (.ref 22), some (.int (k)), some (.int (sl)), some (.int (p)), some (.int (q)), some (.int (r)), some (.int (nI 1)), none, none, none] [.int (bi (outB (sl) (nI 4)))] (σ.set (22) (.inr (7, [.int (nI 0), .ref 23, .ref 24, .ref 25, .ref 26, .ref 27, .ref 28, .ref 29, .ref 30, .ref 31, .ref 32, .ref 33, .ref 34, .ref 35, .ref 36, .ref 37, .int (vf), .int (wh), .int (wy), .ref 38, .ref 39, .ref 40, .ref 41, .int (hg), .ref 42, .ref 43, .ref 44, .ref 45, .ref 46, .ref 47, .ref 48, .ref 49, .int (dp), .ref 50, .ref 51, .ref 52, .int (md), .int (ov), .int (oh), .int (dn), .int (an)]))) (.inl (some (.int (nI 0)))) (σ.set 22 (.inr (7, MoF (nI 1) vf wh wy hg dp md ov oh dn an)))
              refine jr_if_ne 84 d_Mo_method_76 (by decide) (fun c16 => ?_) (fun c16 => ?_)
              · refine jr_aload_n d_Mo_method_84 rfl ?_
                refine jr_iconst ((nI (1))) d_Mo_method_85 (by decide) ?_
                refine jr_callV (As := [.int (nI 1)]) d_Mo_method_86 k_Mo_method_118 (jl_ss hO) rfl rfl rfl (Nat.le_of_ble_eq_true rfl) (by decide) (by decide) (mo_fail hl (jl_ss hO) (MoW.sx hw (Or.inl (by decide)))) ?_
                show jl_W l G m_Mo_method (0, 0) 89 [some (.ref 22), some (.int (k)), some (.int (sl)), some (.int (p)), some (.int (q)), some (.int (r)), some (.int (nI 1)), none, none, none] [.int (nI 0)] ((σ.set (22) (.inr (7, [.int (nI 0), .ref 23, .ref 24, .ref 25, .ref 26, .ref 27, .ref 28, .ref 29, .ref 30, .ref 31, .ref 32, .ref 33, .ref 34, .ref 35, .ref 36, .ref 37, .int (vf), .int (wh), .int (wy), .ref 38, .ref 39, .ref 40, .ref 41, .int (hg), .ref 42, .ref 43, .ref 44, .ref 45, .ref 46, .ref 47, .ref 48, .ref 49, .int (dp), .ref 50, .ref 51, .ref 52, .int (md), .int (ov), .int (oh), .int (dn), .int (an)]))).set (22) (.inr (7, [.int (nI 1), .ref 23, .ref 24, .ref 25, .ref 26, .ref 27, .ref 28, .ref 29, .ref 30, .ref 31, .ref 32, .ref 33, .ref 34, .ref 35, .ref 36, .ref 37, .int (vf), .int (wh), .int (wy), .ref 38, .ref 39, .ref 40, .ref 41, .int (hg), .ref 42, .ref 43, .ref 44, .ref 45, .ref 46, .ref 47, .ref 48, .ref 49, .int (dp), .ref 50, .ref 51, .ref 52, .int (md), .int (ov), .int (oh), .int (dn), .int (an)]))) (.inl (some (.int (nI 0)))) (σ.set 22 (.inr (7, MoF (nI 1) vf wh wy hg dp md ov oh dn an)))
                exact jr_iretE d_Mo_method_89 rfl (rfl) ((List.set_set ..).symm) (by decide) (by decide)
              · refine jr_iload d_Mo_method_79 rfl ?_
                refine jr_if_eq 90 d_Mo_method_81 (by decide) (fun z => absurd z (by decide)) (fun _ => ?_)
                refine jr_aload_n d_Mo_method_84 rfl ?_
                refine jr_iconst ((nI (1))) d_Mo_method_85 (by decide) ?_
                refine jr_callV (As := [.int (nI 1)]) d_Mo_method_86 k_Mo_method_118 (jl_ss hO) rfl rfl rfl (Nat.le_of_ble_eq_true rfl) (by decide) (by decide) (mo_fail hl (jl_ss hO) (MoW.sx hw (Or.inl (by decide)))) ?_
                show jl_W l G m_Mo_method (0, 0) 89 [some (.ref 22), some (.int (k)), some (.int (sl)), some (.int (p)), some (.int (q)), some (.int (r)), some (.int (nI 1)), none, none, none] [.int (nI 0)] ((σ.set (22) (.inr (7, [.int (nI 0), .ref 23, .ref 24, .ref 25, .ref 26, .ref 27, .ref 28, .ref 29, .ref 30, .ref 31, .ref 32, .ref 33, .ref 34, .ref 35, .ref 36, .ref 37, .int (vf), .int (wh), .int (wy), .ref 38, .ref 39, .ref 40, .ref 41, .int (hg), .ref 42, .ref 43, .ref 44, .ref 45, .ref 46, .ref 47, .ref 48, .ref 49, .int (dp), .ref 50, .ref 51, .ref 52, .int (md), .int (ov), .int (oh), .int (dn), .int (an)]))).set (22) (.inr (7, [.int (nI 1), .ref 23, .ref 24, .ref 25, .ref 26, .ref 27, .ref 28, .ref 29, .ref 30, .ref 31, .ref 32, .ref 33, .ref 34, .ref 35, .ref 36, .ref 37, .int (vf), .int (wh), .int (wy), .ref 38, .ref 39, .ref 40, .ref 41, .int (hg), .ref 42, .ref 43, .ref 44, .ref 45, .ref 46, .ref 47, .ref 48, .ref 49, .int (dp), .ref 50, .ref 51, .ref 52, .int (md), .int (ov), .int (oh), .int (dn), .int (an)]))) (.inl (some (.int (nI 0)))) (σ.set 22 (.inr (7, MoF (nI 1) vf wh wy hg dp md ov oh dn an)))
                exact jr_iretE d_Mo_method_89 rfl (rfl) ((List.set_set ..).symm) (by decide) (by decide)
    · refine jr_aload_n d_Mo_method_24 rfl ?_
      refine jr_iload d_Mo_method_25 rfl ?_
      refine jr_callV (As := [.int (q)]) d_Mo_method_27 k_Mo_method_129 (jl_ss hO) rfl rfl rfl (Nat.le_of_ble_eq_true rfl) (by decide) (by decide) (mo_isTyp hl (jl_ss hO) (MoW.sx hw (Or.inl (by decide)))) ?_
      show jl_W l G m_Mo_method (0, 0) 30 [some (.ref 22), some (.int (k)), some (.int (sl)), some (.int (p)), some (.int (q)), some (.int (r)), none, none, none, none] [.int (bi (isTyp (q)))] (σ.set (22) (.inr (7, [.int (nI 0), .ref 23, .ref 24, .ref 25, .ref 26, .ref 27, .ref 28, .ref 29, .ref 30, .ref 31, .ref 32, .ref 33, .ref 34, .ref 35, .ref 36, .ref 37, .int (vf), .int (wh), .int (wy), .ref 38, .ref 39, .ref 40, .ref 41, .int (hg), .ref 42, .ref 43, .ref 44, .ref 45, .ref 46, .ref 47, .ref 48, .ref 49, .int (dp), .ref 50, .ref 51, .ref 52, .int (md), .int (ov), .int (oh), .int (dn), .int (an)]))) (.inl (some (.int (nI 0)))) (σ.set 22 (.inr (7, MoF (nI 1) vf wh wy hg dp md ov oh dn an)))
      refine jr_if_eq 53 d_Mo_method_30 (by decide) (fun c17 => ?_) (fun c17 => ?_)
      · refine jr_iconst ((nI (1))) d_Mo_method_53 (by decide) ?_
        refine jr_goto 58 d_Mo_method_54 (by decide) ?_
        refine jr_istore d_Mo_method_58 (by decide) ?_
        show jl_W l G m_Mo_method (0, 0) 60 [some (.ref 22), some (.int (k)), some (.int (sl)), some (.int (p)), some (.int (q)), some (.int (r)), some (.int (nI 1)), none, none, none] [] (σ.set (22) (.inr (7, [.int (nI 0), .ref 23, .ref 24, .ref 25, .ref 26, .ref 27, .ref 28, .ref 29, .ref 30, .ref 31, .ref 32, .ref 33, .ref 34, .ref 35, .ref 36, .ref 37, .int (vf), .int (wh), .int (wy), .ref 38, .ref 39, .ref 40, .ref 41, .int (hg), .ref 42, .ref 43, .ref 44, .ref 45, .ref 46, .ref 47, .ref 48, .ref 49, .int (dp), .ref 50, .ref 51, .ref 52, .int (md), .int (ov), .int (oh), .int (dn), .int (an)]))) (.inl (some (.int (nI 0)))) (σ.set 22 (.inr (7, MoF (nI 1) vf wh wy hg dp md ov oh dn an)))
        refine jr_aload_n d_Mo_method_60 rfl ?_
        refine jr_iload_n d_Mo_method_61 rfl ?_
        refine jr_bipush ((nI (6))) d_Mo_method_62 (by decide) ?_
        refine jr_callV (As := [.int (k), .int (nI 6)]) d_Mo_method_64 k_Mo_method_114 (jl_ss hO) rfl rfl rfl (Nat.le_of_ble_eq_true rfl) (by decide) (by decide) (mo_out hl (jl_ss hO) (MoW.sx hw (Or.inl (by decide)))) ?_
        show jl_W l G m_Mo_method (0, 0) 67 [some (.ref 22), some (.int (k)), some (.int (sl)), some (.int (p)), some (.int (q)), some (.int (r)), some (.int (nI 1)), none, none, none] [.int (bi (outB (k) (nI 6)))] (σ.set (22) (.inr (7, [.int (nI 0), .ref 23, .ref 24, .ref 25, .ref 26, .ref 27, .ref 28, .ref 29, .ref 30, .ref 31, .ref 32, .ref 33, .ref 34, .ref 35, .ref 36, .ref 37, .int (vf), .int (wh), .int (wy), .ref 38, .ref 39, .ref 40, .ref 41, .int (hg), .ref 42, .ref 43, .ref 44, .ref 45, .ref 46, .ref 47, .ref 48, .ref 49, .int (dp), .ref 50, .ref 51, .ref 52, .int (md), .int (ov), .int (oh), .int (dn), .int (an)]))) (.inl (some (.int (nI 0)))) (σ.set 22 (.inr (7, MoF (nI 1) vf wh wy hg dp md ov oh dn an)))
        refine jr_if_ne 84 d_Mo_method_67 (by decide) (fun c18 => ?_) (fun c18 => ?_)
        · refine jr_aload_n d_Mo_method_84 rfl ?_
          refine jr_iconst ((nI (1))) d_Mo_method_85 (by decide) ?_
          refine jr_callV (As := [.int (nI 1)]) d_Mo_method_86 k_Mo_method_118 (jl_ss hO) rfl rfl rfl (Nat.le_of_ble_eq_true rfl) (by decide) (by decide) (mo_fail hl (jl_ss hO) (MoW.sx hw (Or.inl (by decide)))) ?_
          show jl_W l G m_Mo_method (0, 0) 89 [some (.ref 22), some (.int (k)), some (.int (sl)), some (.int (p)), some (.int (q)), some (.int (r)), some (.int (nI 1)), none, none, none] [.int (nI 0)] ((σ.set (22) (.inr (7, [.int (nI 0), .ref 23, .ref 24, .ref 25, .ref 26, .ref 27, .ref 28, .ref 29, .ref 30, .ref 31, .ref 32, .ref 33, .ref 34, .ref 35, .ref 36, .ref 37, .int (vf), .int (wh), .int (wy), .ref 38, .ref 39, .ref 40, .ref 41, .int (hg), .ref 42, .ref 43, .ref 44, .ref 45, .ref 46, .ref 47, .ref 48, .ref 49, .int (dp), .ref 50, .ref 51, .ref 52, .int (md), .int (ov), .int (oh), .int (dn), .int (an)]))).set (22) (.inr (7, [.int (nI 1), .ref 23, .ref 24, .ref 25, .ref 26, .ref 27, .ref 28, .ref 29, .ref 30, .ref 31, .ref 32, .ref 33, .ref 34, .ref 35, .ref 36, .ref 37, .int (vf), .int (wh), .int (wy), .ref 38, .ref 39, .ref 40, .ref 41, .int (hg), .ref 42, .ref 43, .ref 44, .ref 45, .ref 46, .ref 47, .ref 48, .ref 49, .int (dp), .ref 50, .ref 51, .ref 52, .int (md), .int (ov), .int (oh), .int (dn), .int (an)]))) (.inl (some (.int (nI 0)))) (σ.set 22 (.inr (7, MoF (nI 1) vf wh wy hg dp md ov oh dn an)))
          exact jr_iretE d_Mo_method_89 rfl (rfl) ((List.set_set ..).symm) (by decide) (by decide)
        · refine jr_aload_n d_Mo_method_70 rfl ?_
          refine jr_iload_n d_Mo_method_71 rfl ?_
          refine jr_iconst ((nI (4))) d_Mo_method_72 (by decide) ?_
          refine jr_callV (As := [.int (sl), .int (nI 4)]) d_Mo_method_73 k_Mo_method_114 (jl_ss hO) rfl rfl rfl (Nat.le_of_ble_eq_true rfl) (by decide) (by decide) (mo_out hl (jl_ss hO) (MoW.sx hw (Or.inl (by decide)))) ?_
          show jl_W l G m_Mo_method (0, 0) 76 [some (.ref 22), some (.int (k)), some (.int (sl)), some (.int (p)), some (.int (q)), some (.int (r)), some (.int (nI 1)), none, none, none] [.int (bi (outB (sl) (nI 4)))] (σ.set (22) (.inr (7, [.int (nI 0), .ref 23, .ref 24, .ref 25, .ref 26, .ref 27, .ref 28, .ref 29, .ref 30, .ref 31, .ref 32, .ref 33, .ref 34, .ref 35, .ref 36, .ref 37, .int (vf), .int (wh), .int (wy), .ref 38, .ref 39, .ref 40, .ref 41, .int (hg), .ref 42, .ref 43, .ref 44, .ref 45, .ref 46, .ref 47, .ref 48, .ref 49, .int (dp), .ref 50, .ref 51, .ref 52, .int (md), .int (ov), .int (oh), .int (dn), .int (an)]))) (.inl (some (.int (nI 0)))) (σ.set 22 (.inr (7, MoF (nI 1) vf wh wy hg dp md ov oh dn an)))
          refine jr_if_ne 84 d_Mo_method_76 (by decide) (fun c19 => ?_) (fun c19 => ?_)
          · refine jr_aload_n d_Mo_method_84 rfl ?_
            refine jr_iconst ((nI (1))) d_Mo_method_85 (by decide) ?_
            refine jr_callV (As := [.int (nI 1)]) d_Mo_method_86 k_Mo_method_118 (jl_ss hO) rfl rfl rfl (Nat.le_of_ble_eq_true rfl) (by decide) (by decide) (mo_fail hl (jl_ss hO) (MoW.sx hw (Or.inl (by decide)))) ?_
            show jl_W l G m_Mo_method (0, 0) 89 [some (.ref 22), some (.int (k)), some (.int (sl)), some (.int (p)), some (.int (q)), some (.int (r)), some (.int (nI 1)), none, none, none] [.int (nI 0)] ((σ.set (22) (.inr (7, [.int (nI 0), .ref 23, .ref 24, .ref 25, .ref 26, .ref 27, .ref 28, .ref 29, .ref 30, .ref 31, .ref 32, .ref 33, .ref 34, .ref 35, .ref 36, .ref 37, .int (vf), .int (wh), .int (wy), .ref 38, .ref 39, .ref 40, .ref 41, .int (hg), .ref 42, .ref 43, .ref 44, .ref 45, .ref 46, .ref 47, .ref 48, .ref 49, .int (dp), .ref 50, .ref 51, .ref 52, .int (md), .int (ov), .int (oh), .int (dn), .int (an)]))).set (22) (.inr (7, [.int (nI 1), .ref 23, .ref 24, .ref 25, .ref 26, .ref 27, .ref 28, .ref 29, .ref 30, .ref 31, .ref 32, .ref 33, .ref 34, .ref 35, .ref 36, .ref 37, .int (vf), .int (wh), .int (wy), .ref 38, .ref 39, .ref 40, .ref 41, .int (hg), .ref 42, .ref 43, .ref 44, .ref 45, .ref 46, .ref 47, .ref 48, .ref 49, .int (dp), .ref 50, .ref 51, .ref 52, .int (md), .int (ov), .int (oh), .int (dn), .int (an)]))) (.inl (some (.int (nI 0)))) (σ.set 22 (.inr (7, MoF (nI 1) vf wh wy hg dp md ov oh dn an)))
            exact jr_iretE d_Mo_method_89 rfl (rfl) ((List.set_set ..).symm) (by decide) (by decide)
          · refine jr_iload d_Mo_method_79 rfl ?_
            refine jr_if_eq 90 d_Mo_method_81 (by decide) (fun z => absurd z (by decide)) (fun _ => ?_)
            refine jr_aload_n d_Mo_method_84 rfl ?_
            refine jr_iconst ((nI (1))) d_Mo_method_85 (by decide) ?_
            refine jr_callV (As := [.int (nI 1)]) d_Mo_method_86 k_Mo_method_118 (jl_ss hO) rfl rfl rfl (Nat.le_of_ble_eq_true rfl) (by decide) (by decide) (mo_fail hl (jl_ss hO) (MoW.sx hw (Or.inl (by decide)))) ?_
            show jl_W l G m_Mo_method (0, 0) 89 [some (.ref 22), some (.int (k)), some (.int (sl)), some (.int (p)), some (.int (q)), some (.int (r)), some (.int (nI 1)), none, none, none] [.int (nI 0)] ((σ.set (22) (.inr (7, [.int (nI 0), .ref 23, .ref 24, .ref 25, .ref 26, .ref 27, .ref 28, .ref 29, .ref 30, .ref 31, .ref 32, .ref 33, .ref 34, .ref 35, .ref 36, .ref 37, .int (vf), .int (wh), .int (wy), .ref 38, .ref 39, .ref 40, .ref 41, .int (hg), .ref 42, .ref 43, .ref 44, .ref 45, .ref 46, .ref 47, .ref 48, .ref 49, .int (dp), .ref 50, .ref 51, .ref 52, .int (md), .int (ov), .int (oh), .int (dn), .int (an)]))).set (22) (.inr (7, [.int (nI 1), .ref 23, .ref 24, .ref 25, .ref 26, .ref 27, .ref 28, .ref 29, .ref 30, .ref 31, .ref 32, .ref 33, .ref 34, .ref 35, .ref 36, .ref 37, .int (vf), .int (wh), .int (wy), .ref 38, .ref 39, .ref 40, .ref 41, .int (hg), .ref 42, .ref 43, .ref 44, .ref 45, .ref 46, .ref 47, .ref 48, .ref 49, .int (dp), .ref 50, .ref 51, .ref 52, .int (md), .int (ov), .int (oh), .int (dn), .int (an)]))) (.inl (some (.int (nI 0)))) (σ.set 22 (.inr (7, MoF (nI 1) vf wh wy hg dp md ov oh dn an)))
            exact jr_iretE d_Mo_method_89 rfl (rfl) ((List.set_set ..).symm) (by decide) (by decide)
      · refine jr_iload_n d_Mo_method_33 rfl ?_
        refine jr_iconst ((-1)) d_Mo_method_34 (by decide) ?_
        refine jr_icmp_ne 44 d_Mo_method_35 (by decide) (fun c20 => ?_) (fun c20 => ?_)
        · refine jr_aload_n d_Mo_method_44 rfl ?_
          refine jr_iload d_Mo_method_45 rfl ?_
          refine jr_callV (As := [.int (r)]) d_Mo_method_47 k_Mo_method_129 (jl_ss hO) rfl rfl rfl (Nat.le_of_ble_eq_true rfl) (by decide) (by decide) (mo_isTyp hl (jl_ss hO) (MoW.sx hw (Or.inl (by decide)))) ?_
          show jl_W l G m_Mo_method (0, 0) 50 [some (.ref 22), some (.int (k)), some (.int (sl)), some (.int (p)), some (.int (q)), some (.int (r)), none, none, none, none] [.int (bi (isTyp (r)))] (σ.set (22) (.inr (7, [.int (nI 0), .ref 23, .ref 24, .ref 25, .ref 26, .ref 27, .ref 28, .ref 29, .ref 30, .ref 31, .ref 32, .ref 33, .ref 34, .ref 35, .ref 36, .ref 37, .int (vf), .int (wh), .int (wy), .ref 38, .ref 39, .ref 40, .ref 41, .int (hg), .ref 42, .ref 43, .ref 44, .ref 45, .ref 46, .ref 47, .ref 48, .ref 49, .int (dp), .ref 50, .ref 51, .ref 52, .int (md), .int (ov), .int (oh), .int (dn), .int (an)]))) (.inl (some (.int (nI 0)))) (σ.set 22 (.inr (7, MoF (nI 1) vf wh wy hg dp md ov oh dn an)))
          refine jr_if_ne 57 d_Mo_method_50 (by decide) (fun c21 => ?_) (fun c21 => ?_)
          · refine jr_iconst ((nI (0))) d_Mo_method_57 (by decide) ?_
            refine jr_istore d_Mo_method_58 (by decide) ?_
            show jl_W l G m_Mo_method (0, 0) 60 [some (.ref 22), some (.int (k)), some (.int (sl)), some (.int (p)), some (.int (q)), some (.int (r)), some (.int (nI 0)), none, none, none] [] (σ.set (22) (.inr (7, [.int (nI 0), .ref 23, .ref 24, .ref 25, .ref 26, .ref 27, .ref 28, .ref 29, .ref 30, .ref 31, .ref 32, .ref 33, .ref 34, .ref 35, .ref 36, .ref 37, .int (vf), .int (wh), .int (wy), .ref 38, .ref 39, .ref 40, .ref 41, .int (hg), .ref 42, .ref 43, .ref 44, .ref 45, .ref 46, .ref 47, .ref 48, .ref 49, .int (dp), .ref 50, .ref 51, .ref 52, .int (md), .int (ov), .int (oh), .int (dn), .int (an)]))) (.inl (some (.int (nI 0)))) (σ.set 22 (.inr (7, MoF (nI 1) vf wh wy hg dp md ov oh dn an)))
            refine jr_aload_n d_Mo_method_60 rfl ?_
            refine jr_iload_n d_Mo_method_61 rfl ?_
            refine jr_bipush ((nI (6))) d_Mo_method_62 (by decide) ?_
            refine jr_callV (As := [.int (k), .int (nI 6)]) d_Mo_method_64 k_Mo_method_114 (jl_ss hO) rfl rfl rfl (Nat.le_of_ble_eq_true rfl) (by decide) (by decide) (mo_out hl (jl_ss hO) (MoW.sx hw (Or.inl (by decide)))) ?_
            show jl_W l G m_Mo_method (0, 0) 67 [some (.ref 22), some (.int (k)), some (.int (sl)), some (.int (p)), some (.int (q)), some (.int (r)), some (.int (nI 0)), none, none, none] [.int (bi (outB (k) (nI 6)))] (σ.set (22) (.inr (7, [.int (nI 0), .ref 23, .ref 24, .ref 25, .ref 26, .ref 27, .ref 28, .ref 29, .ref 30, .ref 31, .ref 32, .ref 33, .ref 34, .ref 35, .ref 36, .ref 37, .int (vf), .int (wh), .int (wy), .ref 38, .ref 39, .ref 40, .ref 41, .int (hg), .ref 42, .ref 43, .ref 44, .ref 45, .ref 46, .ref 47, .ref 48, .ref 49, .int (dp), .ref 50, .ref 51, .ref 52, .int (md), .int (ov), .int (oh), .int (dn), .int (an)]))) (.inl (some (.int (nI 0)))) (σ.set 22 (.inr (7, MoF (nI 1) vf wh wy hg dp md ov oh dn an)))
            refine jr_if_ne 84 d_Mo_method_67 (by decide) (fun c22 => ?_) (fun c22 => ?_)
            · refine jr_aload_n d_Mo_method_84 rfl ?_
              refine jr_iconst ((nI (1))) d_Mo_method_85 (by decide) ?_
              refine jr_callV (As := [.int (nI 1)]) d_Mo_method_86 k_Mo_method_118 (jl_ss hO) rfl rfl rfl (Nat.le_of_ble_eq_true rfl) (by decide) (by decide) (mo_fail hl (jl_ss hO) (MoW.sx hw (Or.inl (by decide)))) ?_
              show jl_W l G m_Mo_method (0, 0) 89 [some (.ref 22), some (.int (k)), some (.int (sl)), some (.int (p)), some (.int (q)), some (.int (r)), some (.int (nI 0)), none, none, none] [.int (nI 0)] ((σ.set (22) (.inr (7, [.int (nI 0), .ref 23, .ref 24, .ref 25, .ref 26, .ref 27, .ref 28, .ref 29, .ref 30, .ref 31, .ref 32, .ref 33, .ref 34, .ref 35, .ref 36, .ref 37, .int (vf), .int (wh), .int (wy), .ref 38, .ref 39, .ref 40, .ref 41, .int (hg), .ref 42, .ref 43, .ref 44, .ref 45, .ref 46, .ref 47, .ref 48, .ref 49, .int (dp), .ref 50, .ref 51, .ref 52, .int (md), .int (ov), .int (oh), .int (dn), .int (an)]))).set (22) (.inr (7, [.int (nI 1), .ref 23, .ref 24, .ref 25, .ref 26, .ref 27, .ref 28, .ref 29, .ref 30, .ref 31, .ref 32, .ref 33, .ref 34, .ref 35, .ref 36, .ref 37, .int (vf), .int (wh), .int (wy), .ref 38, .ref 39, .ref 40, .ref 41, .int (hg), .ref 42, .ref 43, .ref 44, .ref 45, .ref 46, .ref 47, .ref 48, .ref 49, .int (dp), .ref 50, .ref 51, .ref 52, .int (md), .int (ov), .int (oh), .int (dn), .int (an)]))) (.inl (some (.int (nI 0)))) (σ.set 22 (.inr (7, MoF (nI 1) vf wh wy hg dp md ov oh dn an)))
              exact jr_iretE d_Mo_method_89 rfl (rfl) ((List.set_set ..).symm) (by decide) (by decide)
            · refine jr_aload_n d_Mo_method_70 rfl ?_
              refine jr_iload_n d_Mo_method_71 rfl ?_
              refine jr_iconst ((nI (4))) d_Mo_method_72 (by decide) ?_
              refine jr_callV (As := [.int (sl), .int (nI 4)]) d_Mo_method_73 k_Mo_method_114 (jl_ss hO) rfl rfl rfl (Nat.le_of_ble_eq_true rfl) (by decide) (by decide) (mo_out hl (jl_ss hO) (MoW.sx hw (Or.inl (by decide)))) ?_
              show jl_W l G m_Mo_method (0, 0) 76 [some (.ref 22), some (.int (k)), some (.int (sl)), some (.int (p)), some (.int (q)), some (.int (r)), some (.int (nI 0)), none, none, none] [.int (bi (outB (sl) (nI 4)))] (σ.set (22) (.inr (7, [.int (nI 0), .ref 23, .ref 24, .ref 25, .ref 26, .ref 27, .ref 28, .ref 29, .ref 30, .ref 31, .ref 32, .ref 33, .ref 34, .ref 35, .ref 36, .ref 37, .int (vf), .int (wh), .int (wy), .ref 38, .ref 39, .ref 40, .ref 41, .int (hg), .ref 42, .ref 43, .ref 44, .ref 45, .ref 46, .ref 47, .ref 48, .ref 49, .int (dp), .ref 50, .ref 51, .ref 52, .int (md), .int (ov), .int (oh), .int (dn), .int (an)]))) (.inl (some (.int (nI 0)))) (σ.set 22 (.inr (7, MoF (nI 1) vf wh wy hg dp md ov oh dn an)))
              refine jr_if_ne 84 d_Mo_method_76 (by decide) (fun c23 => ?_) (fun c23 => ?_)
              · refine jr_aload_n d_Mo_method_84 rfl ?_
                refine jr_iconst ((nI (1))) d_Mo_method_85 (by decide) ?_
                refine jr_callV (As := [.int (nI 1)]) d_Mo_method_86 k_Mo_method_118 (jl_ss hO) rfl rfl rfl (Nat.le_of_ble_eq_true rfl) (by decide) (by decide) (mo_fail hl (jl_ss hO) (MoW.sx hw (Or.inl (by decide)))) ?_
                show jl_W l G m_Mo_method (0, 0) 89 [some (.ref 22), some (.int (k)), some (.int (sl)), some (.int (p)), some (.int (q)), some (.int (r)), some (.int (nI 0)), none, none, none] [.int (nI 0)] ((σ.set (22) (.inr (7, [.int (nI 0), .ref 23, .ref 24, .ref 25, .ref 26, .ref 27, .ref 28, .ref 29, .ref 30, .ref 31, .ref 32, .ref 33, .ref 34, .ref 35, .ref 36, .ref 37, .int (vf), .int (wh), .int (wy), .ref 38, .ref 39, .ref 40, .ref 41, .int (hg), .ref 42, .ref 43, .ref 44, .ref 45, .ref 46, .ref 47, .ref 48, .ref 49, .int (dp), .ref 50, .ref 51, .ref 52, .int (md), .int (ov), .int (oh), .int (dn), .int (an)]))).set (22) (.inr (7, [.int (nI 1), .ref 23, .ref 24, .ref 25, .ref 26, .ref 27, .ref 28, .ref 29, .ref 30, .ref 31, .ref 32, .ref 33, .ref 34, .ref 35, .ref 36, .ref 37, .int (vf), .int (wh), .int (wy), .ref 38, .ref 39, .ref 40, .ref 41, .int (hg), .ref 42, .ref 43, .ref 44, .ref 45, .ref 46, .ref 47, .ref 48, .ref 49, .int (dp), .ref 50, .ref 51, .ref 52, .int (md), .int (ov), .int (oh), .int (dn), .int (an)]))) (.inl (some (.int (nI 0)))) (σ.set 22 (.inr (7, MoF (nI 1) vf wh wy hg dp md ov oh dn an)))
                exact jr_iretE d_Mo_method_89 rfl (rfl) ((List.set_set ..).symm) (by decide) (by decide)
              · refine jr_iload d_Mo_method_79 rfl ?_
                refine jr_if_eq 90 d_Mo_method_81 (by decide) (fun _ => ?_) (fun z => absurd (by decide) z)
                exfalso; simp_all [prOk, bi_0]
          · refine jr_iconst ((nI (1))) d_Mo_method_53 (by decide) ?_
            refine jr_goto 58 d_Mo_method_54 (by decide) ?_
            refine jr_istore d_Mo_method_58 (by decide) ?_
            show jl_W l G m_Mo_method (0, 0) 60 [some (.ref 22), some (.int (k)), some (.int (sl)), some (.int (p)), some (.int (q)), some (.int (r)), some (.int (nI 1)), none, none, none] [] (σ.set (22) (.inr (7, [.int (nI 0), .ref 23, .ref 24, .ref 25, .ref 26, .ref 27, .ref 28, .ref 29, .ref 30, .ref 31, .ref 32, .ref 33, .ref 34, .ref 35, .ref 36, .ref 37, .int (vf), .int (wh), .int (wy), .ref 38, .ref 39, .ref 40, .ref 41, .int (hg), .ref 42, .ref 43, .ref 44, .ref 45, .ref 46, .ref 47, .ref 48, .ref 49, .int (dp), .ref 50, .ref 51, .ref 52, .int (md), .int (ov), .int (oh), .int (dn), .int (an)]))) (.inl (some (.int (nI 0)))) (σ.set 22 (.inr (7, MoF (nI 1) vf wh wy hg dp md ov oh dn an)))
            refine jr_aload_n d_Mo_method_60 rfl ?_
            refine jr_iload_n d_Mo_method_61 rfl ?_
            refine jr_bipush ((nI (6))) d_Mo_method_62 (by decide) ?_
            refine jr_callV (As := [.int (k), .int (nI 6)]) d_Mo_method_64 k_Mo_method_114 (jl_ss hO) rfl rfl rfl (Nat.le_of_ble_eq_true rfl) (by decide) (by decide) (mo_out hl (jl_ss hO) (MoW.sx hw (Or.inl (by decide)))) ?_
            show jl_W l G m_Mo_method (0, 0) 67 [some (.ref 22), some (.int (k)), some (.int (sl)), some (.int (p)), some (.int (q)), some (.int (r)), some (.int (nI 1)), none, none, none] [.int (bi (outB (k) (nI 6)))] (σ.set (22) (.inr (7, [.int (nI 0), .ref 23, .ref 24, .ref 25, .ref 26, .ref 27, .ref 28, .ref 29, .ref 30, .ref 31, .ref 32, .ref 33, .ref 34, .ref 35, .ref 36, .ref 37, .int (vf), .int (wh), .int (wy), .ref 38, .ref 39, .ref 40, .ref 41, .int (hg), .ref 42, .ref 43, .ref 44, .ref 45, .ref 46, .ref 47, .ref 48, .ref 49, .int (dp), .ref 50, .ref 51, .ref 52, .int (md), .int (ov), .int (oh), .int (dn), .int (an)]))) (.inl (some (.int (nI 0)))) (σ.set 22 (.inr (7, MoF (nI 1) vf wh wy hg dp md ov oh dn an)))
            refine jr_if_ne 84 d_Mo_method_67 (by decide) (fun c24 => ?_) (fun c24 => ?_)
            · refine jr_aload_n d_Mo_method_84 rfl ?_
              refine jr_iconst ((nI (1))) d_Mo_method_85 (by decide) ?_
              refine jr_callV (As := [.int (nI 1)]) d_Mo_method_86 k_Mo_method_118 (jl_ss hO) rfl rfl rfl (Nat.le_of_ble_eq_true rfl) (by decide) (by decide) (mo_fail hl (jl_ss hO) (MoW.sx hw (Or.inl (by decide)))) ?_
              show jl_W l G m_Mo_method (0, 0) 89 [some (.ref 22), some (.int (k)), some (.int (sl)), some (.int (p)), some (.int (q)), some (.int (r)), some (.int (nI 1)), none, none, none] [.int (nI 0)] ((σ.set (22) (.inr (7, [.int (nI 0), .ref 23, .ref 24, .ref 25, .ref 26, .ref 27, .ref 28, .ref 29, .ref 30, .ref 31, .ref 32, .ref 33, .ref 34, .ref 35, .ref 36, .ref 37, .int (vf), .int (wh), .int (wy), .ref 38, .ref 39, .ref 40, .ref 41, .int (hg), .ref 42, .ref 43, .ref 44, .ref 45, .ref 46, .ref 47, .ref 48, .ref 49, .int (dp), .ref 50, .ref 51, .ref 52, .int (md), .int (ov), .int (oh), .int (dn), .int (an)]))).set (22) (.inr (7, [.int (nI 1), .ref 23, .ref 24, .ref 25, .ref 26, .ref 27, .ref 28, .ref 29, .ref 30, .ref 31, .ref 32, .ref 33, .ref 34, .ref 35, .ref 36, .ref 37, .int (vf), .int (wh), .int (wy), .ref 38, .ref 39, .ref 40, .ref 41, .int (hg), .ref 42, .ref 43, .ref 44, .ref 45, .ref 46, .ref 47, .ref 48, .ref 49, .int (dp), .ref 50, .ref 51, .ref 52, .int (md), .int (ov), .int (oh), .int (dn), .int (an)]))) (.inl (some (.int (nI 0)))) (σ.set 22 (.inr (7, MoF (nI 1) vf wh wy hg dp md ov oh dn an)))
              exact jr_iretE d_Mo_method_89 rfl (rfl) ((List.set_set ..).symm) (by decide) (by decide)
            · refine jr_aload_n d_Mo_method_70 rfl ?_
              refine jr_iload_n d_Mo_method_71 rfl ?_
              refine jr_iconst ((nI (4))) d_Mo_method_72 (by decide) ?_
              refine jr_callV (As := [.int (sl), .int (nI 4)]) d_Mo_method_73 k_Mo_method_114 (jl_ss hO) rfl rfl rfl (Nat.le_of_ble_eq_true rfl) (by decide) (by decide) (mo_out hl (jl_ss hO) (MoW.sx hw (Or.inl (by decide)))) ?_
              show jl_W l G m_Mo_method (0, 0) 76 [some (.ref 22), some (.int (k)), some (.int (sl)), some (.int (p)), some (.int (q)), some (.int (r)), some (.int (nI 1)), none, none, none] [.int (bi (outB (sl) (nI 4)))] (σ.set (22) (.inr (7, [.int (nI 0), .ref 23, .ref 24, .ref 25, .ref 26, .ref 27, .ref 28, .ref 29, .ref 30, .ref 31, .ref 32, .ref 33, .ref 34, .ref 35, .ref 36, .ref 37, .int (vf), .int (wh), .int (wy), .ref 38, .ref 39, .ref 40, .ref 41, .int (hg), .ref 42, .ref 43, .ref 44, .ref 45, .ref 46, .ref 47, .ref 48, .ref 49, .int (dp), .ref 50, .ref 51, .ref 52, .int (md), .int (ov), .int (oh), .int (dn), .int (an)]))) (.inl (some (.int (nI 0)))) (σ.set 22 (.inr (7, MoF (nI 1) vf wh wy hg dp md ov oh dn an)))
              refine jr_if_ne 84 d_Mo_method_76 (by decide) (fun c25 => ?_) (fun c25 => ?_)
              · refine jr_aload_n d_Mo_method_84 rfl ?_
                refine jr_iconst ((nI (1))) d_Mo_method_85 (by decide) ?_
                refine jr_callV (As := [.int (nI 1)]) d_Mo_method_86 k_Mo_method_118 (jl_ss hO) rfl rfl rfl (Nat.le_of_ble_eq_true rfl) (by decide) (by decide) (mo_fail hl (jl_ss hO) (MoW.sx hw (Or.inl (by decide)))) ?_
                show jl_W l G m_Mo_method (0, 0) 89 [some (.ref 22), some (.int (k)), some (.int (sl)), some (.int (p)), some (.int (q)), some (.int (r)), some (.int (nI 1)), none, none, none] [.int (nI 0)] ((σ.set (22) (.inr (7, [.int (nI 0), .ref 23, .ref 24, .ref 25, .ref 26, .ref 27, .ref 28, .ref 29, .ref 30, .ref 31, .ref 32, .ref 33, .ref 34, .ref 35, .ref 36, .ref 37, .int (vf), .int (wh), .int (wy), .ref 38, .ref 39, .ref 40, .ref 41, .int (hg), .ref 42, .ref 43, .ref 44, .ref 45, .ref 46, .ref 47, .ref 48, .ref 49, .int (dp), .ref 50, .ref 51, .ref 52, .int (md), .int (ov), .int (oh), .int (dn), .int (an)]))).set (22) (.inr (7, [.int (nI 1), .ref 23, .ref 24, .ref 25, .ref 26, .ref 27, .ref 28, .ref 29, .ref 30, .ref 31, .ref 32, .ref 33, .ref 34, .ref 35, .ref 36, .ref 37, .int (vf), .int (wh), .int (wy), .ref 38, .ref 39, .ref 40, .ref 41, .int (hg), .ref 42, .ref 43, .ref 44, .ref 45, .ref 46, .ref 47, .ref 48, .ref 49, .int (dp), .ref 50, .ref 51, .ref 52, .int (md), .int (ov), .int (oh), .int (dn), .int (an)]))) (.inl (some (.int (nI 0)))) (σ.set 22 (.inr (7, MoF (nI 1) vf wh wy hg dp md ov oh dn an)))
                exact jr_iretE d_Mo_method_89 rfl (rfl) ((List.set_set ..).symm) (by decide) (by decide)
              · refine jr_iload d_Mo_method_79 rfl ?_
                refine jr_if_eq 90 d_Mo_method_81 (by decide) (fun z => absurd z (by decide)) (fun _ => ?_)
                refine jr_aload_n d_Mo_method_84 rfl ?_
                refine jr_iconst ((nI (1))) d_Mo_method_85 (by decide) ?_
                refine jr_callV (As := [.int (nI 1)]) d_Mo_method_86 k_Mo_method_118 (jl_ss hO) rfl rfl rfl (Nat.le_of_ble_eq_true rfl) (by decide) (by decide) (mo_fail hl (jl_ss hO) (MoW.sx hw (Or.inl (by decide)))) ?_
                show jl_W l G m_Mo_method (0, 0) 89 [some (.ref 22), some (.int (k)), some (.int (sl)), some (.int (p)), some (.int (q)), some (.int (r)), some (.int (nI 1)), none, none, none] [.int (nI 0)] ((σ.set (22) (.inr (7, [.int (nI 0), .ref 23, .ref 24, .ref 25, .ref 26, .ref 27, .ref 28, .ref 29, .ref 30, .ref 31, .ref 32, .ref 33, .ref 34, .ref 35, .ref 36, .ref 37, .int (vf), .int (wh), .int (wy), .ref 38, .ref 39, .ref 40, .ref 41, .int (hg), .ref 42, .ref 43, .ref 44, .ref 45, .ref 46, .ref 47, .ref 48, .ref 49, .int (dp), .ref 50, .ref 51, .ref 52, .int (md), .int (ov), .int (oh), .int (dn), .int (an)]))).set (22) (.inr (7, [.int (nI 1), .ref 23, .ref 24, .ref 25, .ref 26, .ref 27, .ref 28, .ref 29, .ref 30, .ref 31, .ref 32, .ref 33, .ref 34, .ref 35, .ref 36, .ref 37, .int (vf), .int (wh), .int (wy), .ref 38, .ref 39, .ref 40, .ref 41, .int (hg), .ref 42, .ref 43, .ref 44, .ref 45, .ref 46, .ref 47, .ref 48, .ref 49, .int (dp), .ref 50, .ref 51, .ref 52, .int (md), .int (ov), .int (oh), .int (dn), .int (an)]))) (.inl (some (.int (nI 0)))) (σ.set 22 (.inr (7, MoF (nI 1) vf wh wy hg dp md ov oh dn an)))
                exact jr_iretE d_Mo_method_89 rfl (rfl) ((List.set_set ..).symm) (by decide) (by decide)
        · refine jr_iload d_Mo_method_38 rfl ?_
          refine jr_iconst ((-1)) d_Mo_method_40 (by decide) ?_
          refine jr_icmp_ne 53 d_Mo_method_41 (by decide) (fun c26 => ?_) (fun c26 => ?_)
          · refine jr_iconst ((nI (1))) d_Mo_method_53 (by decide) ?_
            refine jr_goto 58 d_Mo_method_54 (by decide) ?_
            refine jr_istore d_Mo_method_58 (by decide) ?_
            show jl_W l G m_Mo_method (0, 0) 60 [some (.ref 22), some (.int (k)), some (.int (sl)), some (.int (p)), some (.int (q)), some (.int (r)), some (.int (nI 1)), none, none, none] [] (σ.set (22) (.inr (7, [.int (nI 0), .ref 23, .ref 24, .ref 25, .ref 26, .ref 27, .ref 28, .ref 29, .ref 30, .ref 31, .ref 32, .ref 33, .ref 34, .ref 35, .ref 36, .ref 37, .int (vf), .int (wh), .int (wy), .ref 38, .ref 39, .ref 40, .ref 41, .int (hg), .ref 42, .ref 43, .ref 44, .ref 45, .ref 46, .ref 47, .ref 48, .ref 49, .int (dp), .ref 50, .ref 51, .ref 52, .int (md), .int (ov), .int (oh), .int (dn), .int (an)]))) (.inl (some (.int (nI 0)))) (σ.set 22 (.inr (7, MoF (nI 1) vf wh wy hg dp md ov oh dn an)))
            refine jr_aload_n d_Mo_method_60 rfl ?_
            refine jr_iload_n d_Mo_method_61 rfl ?_
            refine jr_bipush ((nI (6))) d_Mo_method_62 (by decide) ?_
            refine jr_callV (As := [.int (k), .int (nI 6)]) d_Mo_method_64 k_Mo_method_114 (jl_ss hO) rfl rfl rfl (Nat.le_of_ble_eq_true rfl) (by decide) (by decide) (mo_out hl (jl_ss hO) (MoW.sx hw (Or.inl (by decide)))) ?_
            show jl_W l G m_Mo_method (0, 0) 67 [some (.ref 22), some (.int (k)), some (.int (sl)), some (.int (p)), some (.int (q)), some (.int (r)), some (.int (nI 1)), none, none, none] [.int (bi (outB (k) (nI 6)))] (σ.set (22) (.inr (7, [.int (nI 0), .ref 23, .ref 24, .ref 25, .ref 26, .ref 27, .ref 28, .ref 29, .ref 30, .ref 31, .ref 32, .ref 33, .ref 34, .ref 35, .ref 36, .ref 37, .int (vf), .int (wh), .int (wy), .ref 38, .ref 39, .ref 40, .ref 41, .int (hg), .ref 42, .ref 43, .ref 44, .ref 45, .ref 46, .ref 47, .ref 48, .ref 49, .int (dp), .ref 50, .ref 51, .ref 52, .int (md), .int (ov), .int (oh), .int (dn), .int (an)]))) (.inl (some (.int (nI 0)))) (σ.set 22 (.inr (7, MoF (nI 1) vf wh wy hg dp md ov oh dn an)))
            refine jr_if_ne 84 d_Mo_method_67 (by decide) (fun c27 => ?_) (fun c27 => ?_)
            · refine jr_aload_n d_Mo_method_84 rfl ?_
              refine jr_iconst ((nI (1))) d_Mo_method_85 (by decide) ?_
              refine jr_callV (As := [.int (nI 1)]) d_Mo_method_86 k_Mo_method_118 (jl_ss hO) rfl rfl rfl (Nat.le_of_ble_eq_true rfl) (by decide) (by decide) (mo_fail hl (jl_ss hO) (MoW.sx hw (Or.inl (by decide)))) ?_
              show jl_W l G m_Mo_method (0, 0) 89 [some (.ref 22), some (.int (k)), some (.int (sl)), some (.int (p)), some (.int (q)), some (.int (r)), some (.int (nI 1)), none, none, none] [.int (nI 0)] ((σ.set (22) (.inr (7, [.int (nI 0), .ref 23, .ref 24, .ref 25, .ref 26, .ref 27, .ref 28, .ref 29, .ref 30, .ref 31, .ref 32, .ref 33, .ref 34, .ref 35, .ref 36, .ref 37, .int (vf), .int (wh), .int (wy), .ref 38, .ref 39, .ref 40, .ref 41, .int (hg), .ref 42, .ref 43, .ref 44, .ref 45, .ref 46, .ref 47, .ref 48, .ref 49, .int (dp), .ref 50, .ref 51, .ref 52, .int (md), .int (ov), .int (oh), .int (dn), .int (an)]))).set (22) (.inr (7, [.int (nI 1), .ref 23, .ref 24, .ref 25, .ref 26, .ref 27, .ref 28, .ref 29, .ref 30, .ref 31, .ref 32, .ref 33, .ref 34, .ref 35, .ref 36, .ref 37, .int (vf), .int (wh), .int (wy), .ref 38, .ref 39, .ref 40, .ref 41, .int (hg), .ref 42, .ref 43, .ref 44, .ref 45, .ref 46, .ref 47, .ref 48, .ref 49, .int (dp), .ref 50, .ref 51, .ref 52, .int (md), .int (ov), .int (oh), .int (dn), .int (an)]))) (.inl (some (.int (nI 0)))) (σ.set 22 (.inr (7, MoF (nI 1) vf wh wy hg dp md ov oh dn an)))
              exact jr_iretE d_Mo_method_89 rfl (rfl) ((List.set_set ..).symm) (by decide) (by decide)
            · refine jr_aload_n d_Mo_method_70 rfl ?_
              refine jr_iload_n d_Mo_method_71 rfl ?_
              refine jr_iconst ((nI (4))) d_Mo_method_72 (by decide) ?_
              refine jr_callV (As := [.int (sl), .int (nI 4)]) d_Mo_method_73 k_Mo_method_114 (jl_ss hO) rfl rfl rfl (Nat.le_of_ble_eq_true rfl) (by decide) (by decide) (mo_out hl (jl_ss hO) (MoW.sx hw (Or.inl (by decide)))) ?_
              show jl_W l G m_Mo_method (0, 0) 76 [some (.ref 22), some (.int (k)), some (.int (sl)), some (.int (p)), some (.int (q)), some (.int (r)), some (.int (nI 1)), none, none, none] [.int (bi (outB (sl) (nI 4)))] (σ.set (22) (.inr (7, [.int (nI 0), .ref 23, .ref 24, .ref 25, .ref 26, .ref 27, .ref 28, .ref 29, .ref 30, .ref 31, .ref 32, .ref 33, .ref 34, .ref 35, .ref 36, .ref 37, .int (vf), .int (wh), .int (wy), .ref 38, .ref 39, .ref 40, .ref 41, .int (hg), .ref 42, .ref 43, .ref 44, .ref 45, .ref 46, .ref 47, .ref 48, .ref 49, .int (dp), .ref 50, .ref 51, .ref 52, .int (md), .int (ov), .int (oh), .int (dn), .int (an)]))) (.inl (some (.int (nI 0)))) (σ.set 22 (.inr (7, MoF (nI 1) vf wh wy hg dp md ov oh dn an)))
              refine jr_if_ne 84 d_Mo_method_76 (by decide) (fun c28 => ?_) (fun c28 => ?_)
              · refine jr_aload_n d_Mo_method_84 rfl ?_
                refine jr_iconst ((nI (1))) d_Mo_method_85 (by decide) ?_
                refine jr_callV (As := [.int (nI 1)]) d_Mo_method_86 k_Mo_method_118 (jl_ss hO) rfl rfl rfl (Nat.le_of_ble_eq_true rfl) (by decide) (by decide) (mo_fail hl (jl_ss hO) (MoW.sx hw (Or.inl (by decide)))) ?_
                show jl_W l G m_Mo_method (0, 0) 89 [some (.ref 22), some (.int (k)), some (.int (sl)), some (.int (p)), some (.int (q)), some (.int (r)), some (.int (nI 1)), none, none, none] [.int (nI 0)] ((σ.set (22) (.inr (7, [.int (nI 0), .ref 23, .ref 24, .ref 25, .ref 26, .ref 27, .ref 28, .ref 29, .ref 30, .ref 31, .ref 32, .ref 33, .ref 34, .ref 35, .ref 36, .ref 37, .int (vf), .int (wh), .int (wy), .ref 38, .ref 39, .ref 40, .ref 41, .int (hg), .ref 42, .ref 43, .ref 44, .ref 45, .ref 46, .ref 47, .ref 48, .ref 49, .int (dp), .ref 50, .ref 51, .ref 52, .int (md), .int (ov), .int (oh), .int (dn), .int (an)]))).set (22) (.inr (7, [.int (nI 1), .ref 23, .ref 24, .ref 25, .ref 26, .ref 27, .ref 28, .ref 29, .ref 30, .ref 31, .ref 32, .ref 33, .ref 34, .ref 35, .ref 36, .ref 37, .int (vf), .int (wh), .int (wy), .ref 38, .ref 39, .ref 40, .ref 41, .int (hg), .ref 42, .ref 43, .ref 44, .ref 45, .ref 46, .ref 47, .ref 48, .ref 49, .int (dp), .ref 50, .ref 51, .ref 52, .int (md), .int (ov), .int (oh), .int (dn), .int (an)]))) (.inl (some (.int (nI 0)))) (σ.set 22 (.inr (7, MoF (nI 1) vf wh wy hg dp md ov oh dn an)))
                exact jr_iretE d_Mo_method_89 rfl (rfl) ((List.set_set ..).symm) (by decide) (by decide)
              · refine jr_iload d_Mo_method_79 rfl ?_
                refine jr_if_eq 90 d_Mo_method_81 (by decide) (fun z => absurd z (by decide)) (fun _ => ?_)
                refine jr_aload_n d_Mo_method_84 rfl ?_
                refine jr_iconst ((nI (1))) d_Mo_method_85 (by decide) ?_
                refine jr_callV (As := [.int (nI 1)]) d_Mo_method_86 k_Mo_method_118 (jl_ss hO) rfl rfl rfl (Nat.le_of_ble_eq_true rfl) (by decide) (by decide) (mo_fail hl (jl_ss hO) (MoW.sx hw (Or.inl (by decide)))) ?_
                show jl_W l G m_Mo_method (0, 0) 89 [some (.ref 22), some (.int (k)), some (.int (sl)), some (.int (p)), some (.int (q)), some (.int (r)), some (.int (nI 1)), none, none, none] [.int (nI 0)] ((σ.set (22) (.inr (7, [.int (nI 0), .ref 23, .ref 24, .ref 25, .ref 26, .ref 27, .ref 28, .ref 29, .ref 30, .ref 31, .ref 32, .ref 33, .ref 34, .ref 35, .ref 36, .ref 37, .int (vf), .int (wh), .int (wy), .ref 38, .ref 39, .ref 40, .ref 41, .int (hg), .ref 42, .ref 43, .ref 44, .ref 45, .ref 46, .ref 47, .ref 48, .ref 49, .int (dp), .ref 50, .ref 51, .ref 52, .int (md), .int (ov), .int (oh), .int (dn), .int (an)]))).set (22) (.inr (7, [.int (nI 1), .ref 23, .ref 24, .ref 25, .ref 26, .ref 27, .ref 28, .ref 29, .ref 30, .ref 31, .ref 32, .ref 33, .ref 34, .ref 35, .ref 36, .ref 37, .int (vf), .int (wh), .int (wy), .ref 38, .ref 39, .ref 40, .ref 41, .int (hg), .ref 42, .ref 43, .ref 44, .ref 45, .ref 46, .ref 47, .ref 48, .ref 49, .int (dp), .ref 50, .ref 51, .ref 52, .int (md), .int (ov), .int (oh), .int (dn), .int (an)]))) (.inl (some (.int (nI 0)))) (σ.set 22 (.inr (7, MoF (nI 1) vf wh wy hg dp md ov oh dn an)))
                exact jr_iretE d_Mo_method_89 rfl (rfl) ((List.set_set ..).symm) (by decide) (by decide)
          · refine jr_aload_n d_Mo_method_44 rfl ?_
            refine jr_iload d_Mo_method_45 rfl ?_
            refine jr_callV (As := [.int (r)]) d_Mo_method_47 k_Mo_method_129 (jl_ss hO) rfl rfl rfl (Nat.le_of_ble_eq_true rfl) (by decide) (by decide) (mo_isTyp hl (jl_ss hO) (MoW.sx hw (Or.inl (by decide)))) ?_
            show jl_W l G m_Mo_method (0, 0) 50 [some (.ref 22), some (.int (k)), some (.int (sl)), some (.int (p)), some (.int (q)), some (.int (r)), none, none, none, none] [.int (bi (isTyp (r)))] (σ.set (22) (.inr (7, [.int (nI 0), .ref 23, .ref 24, .ref 25, .ref 26, .ref 27, .ref 28, .ref 29, .ref 30, .ref 31, .ref 32, .ref 33, .ref 34, .ref 35, .ref 36, .ref 37, .int (vf), .int (wh), .int (wy), .ref 38, .ref 39, .ref 40, .ref 41, .int (hg), .ref 42, .ref 43, .ref 44, .ref 45, .ref 46, .ref 47, .ref 48, .ref 49, .int (dp), .ref 50, .ref 51, .ref 52, .int (md), .int (ov), .int (oh), .int (dn), .int (an)]))) (.inl (some (.int (nI 0)))) (σ.set 22 (.inr (7, MoF (nI 1) vf wh wy hg dp md ov oh dn an)))
            refine jr_if_ne 57 d_Mo_method_50 (by decide) (fun c29 => ?_) (fun c29 => ?_)
            · refine jr_iconst ((nI (0))) d_Mo_method_57 (by decide) ?_
              refine jr_istore d_Mo_method_58 (by decide) ?_
              show jl_W l G m_Mo_method (0, 0) 60 [some (.ref 22), some (.int (k)), some (.int (sl)), some (.int (p)), some (.int (q)), some (.int (r)), some (.int (nI 0)), none, none, none] [] (σ.set (22) (.inr (7, [.int (nI 0), .ref 23, .ref 24, .ref 25, .ref 26, .ref 27, .ref 28, .ref 29, .ref 30, .ref 31, .ref 32, .ref 33, .ref 34, .ref 35, .ref 36, .ref 37, .int (vf), .int (wh), .int (wy), .ref 38, .ref 39, .ref 40, .ref 41, .int (hg), .ref 42, .ref 43, .ref 44, .ref 45, .ref 46, .ref 47, .ref 48, .ref 49, .int (dp), .ref 50, .ref 51, .ref 52, .int (md), .int (ov), .int (oh), .int (dn), .int (an)]))) (.inl (some (.int (nI 0)))) (σ.set 22 (.inr (7, MoF (nI 1) vf wh wy hg dp md ov oh dn an)))
              refine jr_aload_n d_Mo_method_60 rfl ?_
              refine jr_iload_n d_Mo_method_61 rfl ?_
              refine jr_bipush ((nI (6))) d_Mo_method_62 (by decide) ?_
              refine jr_callV (As := [.int (k), .int (nI 6)]) d_Mo_method_64 k_Mo_method_114 (jl_ss hO) rfl rfl rfl (Nat.le_of_ble_eq_true rfl) (by decide) (by decide) (mo_out hl (jl_ss hO) (MoW.sx hw (Or.inl (by decide)))) ?_
              show jl_W l G m_Mo_method (0, 0) 67 [some (.ref 22), some (.int (k)), some (.int (sl)), some (.int (p)), some (.int (q)), some (.int (r)), some (.int (nI 0)), none, none, none] [.int (bi (outB (k) (nI 6)))] (σ.set (22) (.inr (7, [.int (nI 0), .ref 23, .ref 24, .ref 25, .ref 26, .ref 27, .ref 28, .ref 29, .ref 30, .ref 31, .ref 32, .ref 33, .ref 34, .ref 35, .ref 36, .ref 37, .int (vf), .int (wh), .int (wy), .ref 38, .ref 39, .ref 40, .ref 41, .int (hg), .ref 42, .ref 43, .ref 44, .ref 45, .ref 46, .ref 47, .ref 48, .ref 49, .int (dp), .ref 50, .ref 51, .ref 52, .int (md), .int (ov), .int (oh), .int (dn), .int (an)]))) (.inl (some (.int (nI 0)))) (σ.set 22 (.inr (7, MoF (nI 1) vf wh wy hg dp md ov oh dn an)))
              refine jr_if_ne 84 d_Mo_method_67 (by decide) (fun c30 => ?_) (fun c30 => ?_)
              · refine jr_aload_n d_Mo_method_84 rfl ?_
                refine jr_iconst ((nI (1))) d_Mo_method_85 (by decide) ?_
                refine jr_callV (As := [.int (nI 1)]) d_Mo_method_86 k_Mo_method_118 (jl_ss hO) rfl rfl rfl (Nat.le_of_ble_eq_true rfl) (by decide) (by decide) (mo_fail hl (jl_ss hO) (MoW.sx hw (Or.inl (by decide)))) ?_
                show jl_W l G m_Mo_method (0, 0) 89 [some (.ref 22), some (.int (k)), some (.int (sl)), some (.int (p)), some (.int (q)), some (.int (r)), some (.int (nI 0)), none, none, none] [.int (nI 0)] ((σ.set (22) (.inr (7, [.int (nI 0), .ref 23, .ref 24, .ref 25, .ref 26, .ref 27, .ref 28, .ref 29, .ref 30, .ref 31, .ref 32, .ref 33, .ref 34, .ref 35, .ref 36, .ref 37, .int (vf), .int (wh), .int (wy), .ref 38, .ref 39, .ref 40, .ref 41, .int (hg), .ref 42, .ref 43, .ref 44, .ref 45, .ref 46, .ref 47, .ref 48, .ref 49, .int (dp), .ref 50, .ref 51, .ref 52, .int (md), .int (ov), .int (oh), .int (dn), .int (an)]))).set (22) (.inr (7, [.int (nI 1), .ref 23, .ref 24, .ref 25, .ref 26, .ref 27, .ref 28, .ref 29, .ref 30, .ref 31, .ref 32, .ref 33, .ref 34, .ref 35, .ref 36, .ref 37, .int (vf), .int (wh), .int (wy), .ref 38, .ref 39, .ref 40, .ref 41, .int (hg), .ref 42, .ref 43, .ref 44, .ref 45, .ref 46, .ref 47, .ref 48, .ref 49, .int (dp), .ref 50, .ref 51, .ref 52, .int (md), .int (ov), .int (oh), .int (dn), .int (an)]))) (.inl (some (.int (nI 0)))) (σ.set 22 (.inr (7, MoF (nI 1) vf wh wy hg dp md ov oh dn an)))
                exact jr_iretE d_Mo_method_89 rfl (rfl) ((List.set_set ..).symm) (by decide) (by decide)
              · refine jr_aload_n d_Mo_method_70 rfl ?_
                refine jr_iload_n d_Mo_method_71 rfl ?_
                refine jr_iconst ((nI (4))) d_Mo_method_72 (by decide) ?_
                refine jr_callV (As := [.int (sl), .int (nI 4)]) d_Mo_method_73 k_Mo_method_114 (jl_ss hO) rfl rfl rfl (Nat.le_of_ble_eq_true rfl) (by decide) (by decide) (mo_out hl (jl_ss hO) (MoW.sx hw (Or.inl (by decide)))) ?_
                show jl_W l G m_Mo_method (0, 0) 76 [some (.ref 22), some (.int (k)), some (.int (sl)), some (.int (p)), some (.int (q)), some (.int (r)), some (.int (nI 0)), none, none, none] [.int (bi (outB (sl) (nI 4)))] (σ.set (22) (.inr (7, [.int (nI 0), .ref 23, .ref 24, .ref 25, .ref 26, .ref 27, .ref 28, .ref 29, .ref 30, .ref 31, .ref 32, .ref 33, .ref 34, .ref 35, .ref 36, .ref 37, .int (vf), .int (wh), .int (wy), .ref 38, .ref 39, .ref 40, .ref 41, .int (hg), .ref 42, .ref 43, .ref 44, .ref 45, .ref 46, .ref 47, .ref 48, .ref 49, .int (dp), .ref 50, .ref 51, .ref 52, .int (md), .int (ov), .int (oh), .int (dn), .int (an)]))) (.inl (some (.int (nI 0)))) (σ.set 22 (.inr (7, MoF (nI 1) vf wh wy hg dp md ov oh dn an)))
                refine jr_if_ne 84 d_Mo_method_76 (by decide) (fun c31 => ?_) (fun c31 => ?_)
                · refine jr_aload_n d_Mo_method_84 rfl ?_
                  refine jr_iconst ((nI (1))) d_Mo_method_85 (by decide) ?_
                  refine jr_callV (As := [.int (nI 1)]) d_Mo_method_86 k_Mo_method_118 (jl_ss hO) rfl rfl rfl (Nat.le_of_ble_eq_true rfl) (by decide) (by decide) (mo_fail hl (jl_ss hO) (MoW.sx hw (Or.inl (by decide)))) ?_
                  show jl_W l G m_Mo_method (0, 0) 89 [some (.ref 22), some (.int (k)), some (.int (sl)), some (.int (p)), some (.int (q)), some (.int (r)), some (.int (nI 0)), none, none, none] [.int (nI 0)] ((σ.set (22) (.inr (7, [.int (nI 0), .ref 23, .ref 24, .ref 25, .ref 26, .ref 27, .ref 28, .ref 29, .ref 30, .ref 31, .ref 32, .ref 33, .ref 34, .ref 35, .ref 36, .ref 37, .int (vf), .int (wh), .int (wy), .ref 38, .ref 39, .ref 40, .ref 41, .int (hg), .ref 42, .ref 43, .ref 44, .ref 45, .ref 46, .ref 47, .ref 48, .ref 49, .int (dp), .ref 50, .ref 51, .ref 52, .int (md), .int (ov), .int (oh), .int (dn), .int (an)]))).set (22) (.inr (7, [.int (nI 1), .ref 23, .ref 24, .ref 25, .ref 26, .ref 27, .ref 28, .ref 29, .ref 30, .ref 31, .ref 32, .ref 33, .ref 34, .ref 35, .ref 36, .ref 37, .int (vf), .int (wh), .int (wy), .ref 38, .ref 39, .ref 40, .ref 41, .int (hg), .ref 42, .ref 43, .ref 44, .ref 45, .ref 46, .ref 47, .ref 48, .ref 49, .int (dp), .ref 50, .ref 51, .ref 52, .int (md), .int (ov), .int (oh), .int (dn), .int (an)]))) (.inl (some (.int (nI 0)))) (σ.set 22 (.inr (7, MoF (nI 1) vf wh wy hg dp md ov oh dn an)))
                  exact jr_iretE d_Mo_method_89 rfl (rfl) ((List.set_set ..).symm) (by decide) (by decide)
                · refine jr_iload d_Mo_method_79 rfl ?_
                  refine jr_if_eq 90 d_Mo_method_81 (by decide) (fun _ => ?_) (fun z => absurd (by decide) z)
                  exfalso; simp_all [prOk, bi_0]
            · refine jr_iconst ((nI (1))) d_Mo_method_53 (by decide) ?_
              refine jr_goto 58 d_Mo_method_54 (by decide) ?_
              refine jr_istore d_Mo_method_58 (by decide) ?_
              show jl_W l G m_Mo_method (0, 0) 60 [some (.ref 22), some (.int (k)), some (.int (sl)), some (.int (p)), some (.int (q)), some (.int (r)), some (.int (nI 1)), none, none, none] [] (σ.set (22) (.inr (7, [.int (nI 0), .ref 23, .ref 24, .ref 25, .ref 26, .ref 27, .ref 28, .ref 29, .ref 30, .ref 31, .ref 32, .ref 33, .ref 34, .ref 35, .ref 36, .ref 37, .int (vf), .int (wh), .int (wy), .ref 38, .ref 39, .ref 40, .ref 41, .int (hg), .ref 42, .ref 43, .ref 44, .ref 45, .ref 46, .ref 47, .ref 48, .ref 49, .int (dp), .ref 50, .ref 51, .ref 52, .int (md), .int (ov), .int (oh), .int (dn), .int (an)]))) (.inl (some (.int (nI 0)))) (σ.set 22 (.inr (7, MoF (nI 1) vf wh wy hg dp md ov oh dn an)))
              refine jr_aload_n d_Mo_method_60 rfl ?_
              refine jr_iload_n d_Mo_method_61 rfl ?_
              refine jr_bipush ((nI (6))) d_Mo_method_62 (by decide) ?_
              refine jr_callV (As := [.int (k), .int (nI 6)]) d_Mo_method_64 k_Mo_method_114 (jl_ss hO) rfl rfl rfl (Nat.le_of_ble_eq_true rfl) (by decide) (by decide) (mo_out hl (jl_ss hO) (MoW.sx hw (Or.inl (by decide)))) ?_
              show jl_W l G m_Mo_method (0, 0) 67 [some (.ref 22), some (.int (k)), some (.int (sl)), some (.int (p)), some (.int (q)), some (.int (r)), some (.int (nI 1)), none, none, none] [.int (bi (outB (k) (nI 6)))] (σ.set (22) (.inr (7, [.int (nI 0), .ref 23, .ref 24, .ref 25, .ref 26, .ref 27, .ref 28, .ref 29, .ref 30, .ref 31, .ref 32, .ref 33, .ref 34, .ref 35, .ref 36, .ref 37, .int (vf), .int (wh), .int (wy), .ref 38, .ref 39, .ref 40, .ref 41, .int (hg), .ref 42, .ref 43, .ref 44, .ref 45, .ref 46, .ref 47, .ref 48, .ref 49, .int (dp), .ref 50, .ref 51, .ref 52, .int (md), .int (ov), .int (oh), .int (dn), .int (an)]))) (.inl (some (.int (nI 0)))) (σ.set 22 (.inr (7, MoF (nI 1) vf wh wy hg dp md ov oh dn an)))
              refine jr_if_ne 84 d_Mo_method_67 (by decide) (fun c32 => ?_) (fun c32 => ?_)
              · refine jr_aload_n d_Mo_method_84 rfl ?_
                refine jr_iconst ((nI (1))) d_Mo_method_85 (by decide) ?_
                refine jr_callV (As := [.int (nI 1)]) d_Mo_method_86 k_Mo_method_118 (jl_ss hO) rfl rfl rfl (Nat.le_of_ble_eq_true rfl) (by decide) (by decide) (mo_fail hl (jl_ss hO) (MoW.sx hw (Or.inl (by decide)))) ?_
                show jl_W l G m_Mo_method (0, 0) 89 [some (.ref 22), some (.int (k)), some (.int (sl)), some (.int (p)), some (.int (q)), some (.int (r)), some (.int (nI 1)), none, none, none] [.int (nI 0)] ((σ.set (22) (.inr (7, [.int (nI 0), .ref 23, .ref 24, .ref 25, .ref 26, .ref 27, .ref 28, .ref 29, .ref 30, .ref 31, .ref 32, .ref 33, .ref 34, .ref 35, .ref 36, .ref 37, .int (vf), .int (wh), .int (wy), .ref 38, .ref 39, .ref 40, .ref 41, .int (hg), .ref 42, .ref 43, .ref 44, .ref 45, .ref 46, .ref 47, .ref 48, .ref 49, .int (dp), .ref 50, .ref 51, .ref 52, .int (md), .int (ov), .int (oh), .int (dn), .int (an)]))).set (22) (.inr (7, [.int (nI 1), .ref 23, .ref 24, .ref 25, .ref 26, .ref 27, .ref 28, .ref 29, .ref 30, .ref 31, .ref 32, .ref 33, .ref 34, .ref 35, .ref 36, .ref 37, .int (vf), .int (wh), .int (wy), .ref 38, .ref 39, .ref 40, .ref 41, .int (hg), .ref 42, .ref 43, .ref 44, .ref 45, .ref 46, .ref 47, .ref 48, .ref 49, .int (dp), .ref 50, .ref 51, .ref 52, .int (md), .int (ov), .int (oh), .int (dn), .int (an)]))) (.inl (some (.int (nI 0)))) (σ.set 22 (.inr (7, MoF (nI 1) vf wh wy hg dp md ov oh dn an)))
                exact jr_iretE d_Mo_method_89 rfl (rfl) ((List.set_set ..).symm) (by decide) (by decide)
              · refine jr_aload_n d_Mo_method_70 rfl ?_
                refine jr_iload_n d_Mo_method_71 rfl ?_
                refine jr_iconst ((nI (4))) d_Mo_method_72 (by decide) ?_
                refine jr_callV (As := [.int (sl), .int (nI 4)]) d_Mo_method_73 k_Mo_method_114 (jl_ss hO) rfl rfl rfl (Nat.le_of_ble_eq_true rfl) (by decide) (by decide) (mo_out hl (jl_ss hO) (MoW.sx hw (Or.inl (by decide)))) ?_
                show jl_W l G m_Mo_method (0, 0) 76 [some (.ref 22), some (.int (k)), some (.int (sl)), some (.int (p)), some (.int (q)), some (.int (r)), some (.int (nI 1)), none, none, none] [.int (bi (outB (sl) (nI 4)))] (σ.set (22) (.inr (7, [.int (nI 0), .ref 23, .ref 24, .ref 25, .ref 26, .ref 27, .ref 28, .ref 29, .ref 30, .ref 31, .ref 32, .ref 33, .ref 34, .ref 35, .ref 36, .ref 37, .int (vf), .int (wh), .int (wy), .ref 38, .ref 39, .ref 40, .ref 41, .int (hg), .ref 42, .ref 43, .ref 44, .ref 45, .ref 46, .ref 47, .ref 48, .ref 49, .int (dp), .ref 50, .ref 51, .ref 52, .int (md), .int (ov), .int (oh), .int (dn), .int (an)]))) (.inl (some (.int (nI 0)))) (σ.set 22 (.inr (7, MoF (nI 1) vf wh wy hg dp md ov oh dn an)))
                refine jr_if_ne 84 d_Mo_method_76 (by decide) (fun c33 => ?_) (fun c33 => ?_)
                · refine jr_aload_n d_Mo_method_84 rfl ?_
                  refine jr_iconst ((nI (1))) d_Mo_method_85 (by decide) ?_
                  refine jr_callV (As := [.int (nI 1)]) d_Mo_method_86 k_Mo_method_118 (jl_ss hO) rfl rfl rfl (Nat.le_of_ble_eq_true rfl) (by decide) (by decide) (mo_fail hl (jl_ss hO) (MoW.sx hw (Or.inl (by decide)))) ?_
                  show jl_W l G m_Mo_method (0, 0) 89 [some (.ref 22), some (.int (k)), some (.int (sl)), some (.int (p)), some (.int (q)), some (.int (r)), some (.int (nI 1)), none, none, none] [.int (nI 0)] ((σ.set (22) (.inr (7, [.int (nI 0), .ref 23, .ref 24, .ref 25, .ref 26, .ref 27, .ref 28, .ref 29, .ref 30, .ref 31, .ref 32, .ref 33, .ref 34, .ref 35, .ref 36, .ref 37, .int (vf), .int (wh), .int (wy), .ref 38, .ref 39, .ref 40, .ref 41, .int (hg), .ref 42, .ref 43, .ref 44, .ref 45, .ref 46, .ref 47, .ref 48, .ref 49, .int (dp), .ref 50, .ref 51, .ref 52, .int (md), .int (ov), .int (oh), .int (dn), .int (an)]))).set (22) (.inr (7, [.int (nI 1), .ref 23, .ref 24, .ref 25, .ref 26, .ref 27, .ref 28, .ref 29, .ref 30, .ref 31, .ref 32, .ref 33, .ref 34, .ref 35, .ref 36, .ref 37, .int (vf), .int (wh), .int (wy), .ref 38, .ref 39, .ref 40, .ref 41, .int (hg), .ref 42, .ref 43, .ref 44, .ref 45, .ref 46, .ref 47, .ref 48, .ref 49, .int (dp), .ref 50, .ref 51, .ref 52, .int (md), .int (ov), .int (oh), .int (dn), .int (an)]))) (.inl (some (.int (nI 0)))) (σ.set 22 (.inr (7, MoF (nI 1) vf wh wy hg dp md ov oh dn an)))
                  exact jr_iretE d_Mo_method_89 rfl (rfl) ((List.set_set ..).symm) (by decide) (by decide)
                · refine jr_iload d_Mo_method_79 rfl ?_
                  refine jr_if_eq 90 d_Mo_method_81 (by decide) (fun z => absurd z (by decide)) (fun _ => ?_)
                  refine jr_aload_n d_Mo_method_84 rfl ?_
                  refine jr_iconst ((nI (1))) d_Mo_method_85 (by decide) ?_
                  refine jr_callV (As := [.int (nI 1)]) d_Mo_method_86 k_Mo_method_118 (jl_ss hO) rfl rfl rfl (Nat.le_of_ble_eq_true rfl) (by decide) (by decide) (mo_fail hl (jl_ss hO) (MoW.sx hw (Or.inl (by decide)))) ?_
                  show jl_W l G m_Mo_method (0, 0) 89 [some (.ref 22), some (.int (k)), some (.int (sl)), some (.int (p)), some (.int (q)), some (.int (r)), some (.int (nI 1)), none, none, none] [.int (nI 0)] ((σ.set (22) (.inr (7, [.int (nI 0), .ref 23, .ref 24, .ref 25, .ref 26, .ref 27, .ref 28, .ref 29, .ref 30, .ref 31, .ref 32, .ref 33, .ref 34, .ref 35, .ref 36, .ref 37, .int (vf), .int (wh), .int (wy), .ref 38, .ref 39, .ref 40, .ref 41, .int (hg), .ref 42, .ref 43, .ref 44, .ref 45, .ref 46, .ref 47, .ref 48, .ref 49, .int (dp), .ref 50, .ref 51, .ref 52, .int (md), .int (ov), .int (oh), .int (dn), .int (an)]))).set (22) (.inr (7, [.int (nI 1), .ref 23, .ref 24, .ref 25, .ref 26, .ref 27, .ref 28, .ref 29, .ref 30, .ref 31, .ref 32, .ref 33, .ref 34, .ref 35, .ref 36, .ref 37, .int (vf), .int (wh), .int (wy), .ref 38, .ref 39, .ref 40, .ref 41, .int (hg), .ref 42, .ref 43, .ref 44, .ref 45, .ref 46, .ref 47, .ref 48, .ref 49, .int (dp), .ref 50, .ref 51, .ref 52, .int (md), .int (ov), .int (oh), .int (dn), .int (an)]))) (.inl (some (.int (nI 0)))) (σ.set 22 (.inr (7, MoF (nI 1) vf wh wy hg dp md ov oh dn an)))
                  exact jr_iretE d_Mo_method_89 rfl (rfl) ((List.set_set ..).symm) (by decide) (by decide)
  · refine jr_aload_n d_Mo_method_10 rfl ?_
    refine jr_iload_n d_Mo_method_11 rfl ?_
    refine jr_callV (As := [.int (p)]) d_Mo_method_12 k_Mo_method_129 (jl_ss hO) rfl rfl rfl (Nat.le_of_ble_eq_true rfl) (by decide) (by decide) (mo_isTyp hl (jl_ss hO) (MoW.sx hw (Or.inl (by decide)))) ?_
    show jl_W l G m_Mo_method (0, 0) 15 [some (.ref 22), some (.int (k)), some (.int (sl)), some (.int (p)), some (.int (q)), some (.int (r)), none, none, none, none] [.int (bi (isTyp (p)))] (σ.set (22) (.inr (7, [.int (nI 0), .ref 23, .ref 24, .ref 25, .ref 26, .ref 27, .ref 28, .ref 29, .ref 30, .ref 31, .ref 32, .ref 33, .ref 34, .ref 35, .ref 36, .ref 37, .int (vf), .int (wh), .int (wy), .ref 38, .ref 39, .ref 40, .ref 41, .int (hg), .ref 42, .ref 43, .ref 44, .ref 45, .ref 46, .ref 47, .ref 48, .ref 49, .int (dp), .ref 50, .ref 51, .ref 52, .int (md), .int (ov), .int (oh), .int (dn), .int (an)]))) (.inl (some (.int (nI 0)))) (σ.set 22 (.inr (7, MoF (nI 1) vf wh wy hg dp md ov oh dn an)))
    refine jr_if_eq 53 d_Mo_method_15 (by decide) (fun c34 => ?_) (fun c34 => ?_)
    · refine jr_iconst ((nI (1))) d_Mo_method_53 (by decide) ?_
      refine jr_goto 58 d_Mo_method_54 (by decide) ?_
      refine jr_istore d_Mo_method_58 (by decide) ?_
      show jl_W l G m_Mo_method (0, 0) 60 [some (.ref 22), some (.int (k)), some (.int (sl)), some (.int (p)), some (.int (q)), some (.int (r)), some (.int (nI 1)), none, none, none] [] (σ.set (22) (.inr (7, [.int (nI 0), .ref 23, .ref 24, .ref 25, .ref 26, .ref 27, .ref 28, .ref 29, .ref 30, .ref 31, .ref 32, .ref 33, .ref 34, .ref 35, .ref 36, .ref 37, .int (vf), .int (wh), .int (wy), .ref 38, .ref 39, .ref 40, .ref 41, .int (hg), .ref 42, .ref 43, .ref 44, .ref 45, .ref 46, .ref 47, .ref 48, .ref 49, .int (dp), .ref 50, .ref 51, .ref 52, .int (md), .int (ov), .int (oh), .int (dn), .int (an)]))) (.inl (some (.int (nI 0)))) (σ.set 22 (.inr (7, MoF (nI 1) vf wh wy hg dp md ov oh dn an)))
      refine jr_aload_n d_Mo_method_60 rfl ?_
      refine jr_iload_n d_Mo_method_61 rfl ?_
      refine jr_bipush ((nI (6))) d_Mo_method_62 (by decide) ?_
      refine jr_callV (As := [.int (k), .int (nI 6)]) d_Mo_method_64 k_Mo_method_114 (jl_ss hO) rfl rfl rfl (Nat.le_of_ble_eq_true rfl) (by decide) (by decide) (mo_out hl (jl_ss hO) (MoW.sx hw (Or.inl (by decide)))) ?_
      show jl_W l G m_Mo_method (0, 0) 67 [some (.ref 22), some (.int (k)), some (.int (sl)), some (.int (p)), some (.int (q)), some (.int (r)), some (.int (nI 1)), none, none, none] [.int (bi (outB (k) (nI 6)))] (σ.set (22) (.inr (7, [.int (nI 0), .ref 23, .ref 24, .ref 25, .ref 26, .ref 27, .ref 28, .ref 29, .ref 30, .ref 31, .ref 32, .ref 33, .ref 34, .ref 35, .ref 36, .ref 37, .int (vf), .int (wh), .int (wy), .ref 38, .ref 39, .ref 40, .ref 41, .int (hg), .ref 42, .ref 43, .ref 44, .ref 45, .ref 46, .ref 47, .ref 48, .ref 49, .int (dp), .ref 50, .ref 51, .ref 52, .int (md), .int (ov), .int (oh), .int (dn), .int (an)]))) (.inl (some (.int (nI 0)))) (σ.set 22 (.inr (7, MoF (nI 1) vf wh wy hg dp md ov oh dn an)))
      refine jr_if_ne 84 d_Mo_method_67 (by decide) (fun c35 => ?_) (fun c35 => ?_)
      · refine jr_aload_n d_Mo_method_84 rfl ?_
        refine jr_iconst ((nI (1))) d_Mo_method_85 (by decide) ?_
        refine jr_callV (As := [.int (nI 1)]) d_Mo_method_86 k_Mo_method_118 (jl_ss hO) rfl rfl rfl (Nat.le_of_ble_eq_true rfl) (by decide) (by decide) (mo_fail hl (jl_ss hO) (MoW.sx hw (Or.inl (by decide)))) ?_
        show jl_W l G m_Mo_method (0, 0) 89 [some (.ref 22), some (.int (k)), some (.int (sl)), some (.int (p)), some (.int (q)), some (.int (r)), some (.int (nI 1)), none, none, none] [.int (nI 0)] ((σ.set (22) (.inr (7, [.int (nI 0), .ref 23, .ref 24, .ref 25, .ref 26, .ref 27, .ref 28, .ref 29, .ref 30, .ref 31, .ref 32, .ref 33, .ref 34, .ref 35, .ref 36, .ref 37, .int (vf), .int (wh), .int (wy), .ref 38, .ref 39, .ref 40, .ref 41, .int (hg), .ref 42, .ref 43, .ref 44, .ref 45, .ref 46, .ref 47, .ref 48, .ref 49, .int (dp), .ref 50, .ref 51, .ref 52, .int (md), .int (ov), .int (oh), .int (dn), .int (an)]))).set (22) (.inr (7, [.int (nI 1), .ref 23, .ref 24, .ref 25, .ref 26, .ref 27, .ref 28, .ref 29, .ref 30, .ref 31, .ref 32, .ref 33, .ref 34, .ref 35, .ref 36, .ref 37, .int (vf), .int (wh), .int (wy), .ref 38, .ref 39, .ref 40, .ref 41, .int (hg), .ref 42, .ref 43, .ref 44, .ref 45, .ref 46, .ref 47, .ref 48, .ref 49, .int (dp), .ref 50, .ref 51, .ref 52, .int (md), .int (ov), .int (oh), .int (dn), .int (an)]))) (.inl (some (.int (nI 0)))) (σ.set 22 (.inr (7, MoF (nI 1) vf wh wy hg dp md ov oh dn an)))
        exact jr_iretE d_Mo_method_89 rfl (rfl) ((List.set_set ..).symm) (by decide) (by decide)
      · refine jr_aload_n d_Mo_method_70 rfl ?_
        refine jr_iload_n d_Mo_method_71 rfl ?_
        refine jr_iconst ((nI (4))) d_Mo_method_72 (by decide) ?_
        refine jr_callV (As := [.int (sl), .int (nI 4)]) d_Mo_method_73 k_Mo_method_114 (jl_ss hO) rfl rfl rfl (Nat.le_of_ble_eq_true rfl) (by decide) (by decide) (mo_out hl (jl_ss hO) (MoW.sx hw (Or.inl (by decide)))) ?_
        show jl_W l G m_Mo_method (0, 0) 76 [some (.ref 22), some (.int (k)), some (.int (sl)), some (.int (p)), some (.int (q)), some (.int (r)), some (.int (nI 1)), none, none, none] [.int (bi (outB (sl) (nI 4)))] (σ.set (22) (.inr (7, [.int (nI 0), .ref 23, .ref 24, .ref 25, .ref 26, .ref 27, .ref 28, .ref 29, .ref 30, .ref 31, .ref 32, .ref 33, .ref 34, .ref 35, .ref 36, .ref 37, .int (vf), .int (wh), .int (wy), .ref 38, .ref 39, .ref 40, .ref 41, .int (hg), .ref 42, .ref 43, .ref 44, .ref 45, .ref 46, .ref 47, .ref 48, .ref 49, .int (dp), .ref 50, .ref 51, .ref 52, .int (md), .int (ov), .int (oh), .int (dn), .int (an)]))) (.inl (some (.int (nI 0)))) (σ.set 22 (.inr (7, MoF (nI 1) vf wh wy hg dp md ov oh dn an)))
        refine jr_if_ne 84 d_Mo_method_76 (by decide) (fun c36 => ?_) (fun c36 => ?_)
        · refine jr_aload_n d_Mo_method_84 rfl ?_
          refine jr_iconst ((nI (1))) d_Mo_method_85 (by decide) ?_
          refine jr_callV (As := [.int (nI 1)]) d_Mo_method_86 k_Mo_method_118 (jl_ss hO) rfl rfl rfl (Nat.le_of_ble_eq_true rfl) (by decide) (by decide) (mo_fail hl (jl_ss hO) (MoW.sx hw (Or.inl (by decide)))) ?_
          show jl_W l G m_Mo_method (0, 0) 89 [some (.ref 22), some (.int (k)), some (.int (sl)), some (.int (p)), some (.int (q)), some (.int (r)), some (.int (nI 1)), none, none, none] [.int (nI 0)] ((σ.set (22) (.inr (7, [.int (nI 0), .ref 23, .ref 24, .ref 25, .ref 26, .ref 27, .ref 28, .ref 29, .ref 30, .ref 31, .ref 32, .ref 33, .ref 34, .ref 35, .ref 36, .ref 37, .int (vf), .int (wh), .int (wy), .ref 38, .ref 39, .ref 40, .ref 41, .int (hg), .ref 42, .ref 43, .ref 44, .ref 45, .ref 46, .ref 47, .ref 48, .ref 49, .int (dp), .ref 50, .ref 51, .ref 52, .int (md), .int (ov), .int (oh), .int (dn), .int (an)]))).set (22) (.inr (7, [.int (nI 1), .ref 23, .ref 24, .ref 25, .ref 26, .ref 27, .ref 28, .ref 29, .ref 30, .ref 31, .ref 32, .ref 33, .ref 34, .ref 35, .ref 36, .ref 37, .int (vf), .int (wh), .int (wy), .ref 38, .ref 39, .ref 40, .ref 41, .int (hg), .ref 42, .ref 43, .ref 44, .ref 45, .ref 46, .ref 47, .ref 48, .ref 49, .int (dp), .ref 50, .ref 51, .ref 52, .int (md), .int (ov), .int (oh), .int (dn), .int (an)]))) (.inl (some (.int (nI 0)))) (σ.set 22 (.inr (7, MoF (nI 1) vf wh wy hg dp md ov oh dn an)))
          exact jr_iretE d_Mo_method_89 rfl (rfl) ((List.set_set ..).symm) (by decide) (by decide)
        · refine jr_iload d_Mo_method_79 rfl ?_
          refine jr_if_eq 90 d_Mo_method_81 (by decide) (fun z => absurd z (by decide)) (fun _ => ?_)
          refine jr_aload_n d_Mo_method_84 rfl ?_
          refine jr_iconst ((nI (1))) d_Mo_method_85 (by decide) ?_
          refine jr_callV (As := [.int (nI 1)]) d_Mo_method_86 k_Mo_method_118 (jl_ss hO) rfl rfl rfl (Nat.le_of_ble_eq_true rfl) (by decide) (by decide) (mo_fail hl (jl_ss hO) (MoW.sx hw (Or.inl (by decide)))) ?_
          show jl_W l G m_Mo_method (0, 0) 89 [some (.ref 22), some (.int (k)), some (.int (sl)), some (.int (p)), some (.int (q)), some (.int (r)), some (.int (nI 1)), none, none, none] [.int (nI 0)] ((σ.set (22) (.inr (7, [.int (nI 0), .ref 23, .ref 24, .ref 25, .ref 26, .ref 27, .ref 28, .ref 29, .ref 30, .ref 31, .ref 32, .ref 33, .ref 34, .ref 35, .ref 36, .ref 37, .int (vf), .int (wh), .int (wy), .ref 38, .ref 39, .ref 40, .ref 41, .int (hg), .ref 42, .ref 43, .ref 44, .ref 45, .ref 46, .ref 47, .ref 48, .ref 49, .int (dp), .ref 50, .ref 51, .ref 52, .int (md), .int (ov), .int (oh), .int (dn), .int (an)]))).set (22) (.inr (7, [.int (nI 1), .ref 23, .ref 24, .ref 25, .ref 26, .ref 27, .ref 28, .ref 29, .ref 30, .ref 31, .ref 32, .ref 33, .ref 34, .ref 35, .ref 36, .ref 37, .int (vf), .int (wh), .int (wy), .ref 38, .ref 39, .ref 40, .ref 41, .int (hg), .ref 42, .ref 43, .ref 44, .ref 45, .ref 46, .ref 47, .ref 48, .ref 49, .int (dp), .ref 50, .ref 51, .ref 52, .int (md), .int (ov), .int (oh), .int (dn), .int (an)]))) (.inl (some (.int (nI 0)))) (σ.set 22 (.inr (7, MoF (nI 1) vf wh wy hg dp md ov oh dn an)))
          exact jr_iretE d_Mo_method_89 rfl (rfl) ((List.set_set ..).symm) (by decide) (by decide)
    · refine jr_iload d_Mo_method_18 rfl ?_
      refine jr_iconst ((-1)) d_Mo_method_20 (by decide) ?_
      refine jr_icmp_eq 33 d_Mo_method_21 (by decide) (fun c37 => ?_) (fun c37 => ?_)
      · refine jr_iload_n d_Mo_method_33 rfl ?_
        refine jr_iconst ((-1)) d_Mo_method_34 (by decide) ?_
        refine jr_icmp_ne 44 d_Mo_method_35 (by decide) (fun c38 => ?_) (fun c38 => ?_)
        · refine jr_aload_n d_Mo_method_44 rfl ?_
          refine jr_iload d_Mo_method_45 rfl ?_
          refine jr_callV (As := [.int (r)]) d_Mo_method_47 k_Mo_method_129 (jl_ss hO) rfl rfl rfl (Nat.le_of_ble_eq_true rfl) (by decide) (by decide) (mo_isTyp hl (jl_ss hO) (MoW.sx hw (Or.inl (by decide)))) ?_
          show jl_W l G m_Mo_method (0, 0) 50 [some (.ref 22), some (.int (k)), some (.int (sl)), some (.int (p)), some (.int (q)), some (.int (r)), none, none, none, none] [.int (bi (isTyp (r)))] (σ.set (22) (.inr (7, [.int (nI 0), .ref 23, .ref 24, .ref 25, .ref 26, .ref 27, .ref 28, .ref 29, .ref 30, .ref 31, .ref 32, .ref 33, .ref 34, .ref 35, .ref 36, .ref 37, .int (vf), .int (wh), .int (wy), .ref 38, .ref 39, .ref 40, .ref 41, .int (hg), .ref 42, .ref 43, .ref 44, .ref 45, .ref 46, .ref 47, .ref 48, .ref 49, .int (dp), .ref 50, .ref 51, .ref 52, .int (md), .int (ov), .int (oh), .int (dn), .int (an)]))) (.inl (some (.int (nI 0)))) (σ.set 22 (.inr (7, MoF (nI 1) vf wh wy hg dp md ov oh dn an)))
          refine jr_if_ne 57 d_Mo_method_50 (by decide) (fun c39 => ?_) (fun c39 => ?_)
          · refine jr_iconst ((nI (0))) d_Mo_method_57 (by decide) ?_
            refine jr_istore d_Mo_method_58 (by decide) ?_
            show jl_W l G m_Mo_method (0, 0) 60 [some (.ref 22), some (.int (k)), some (.int (sl)), some (.int (p)), some (.int (q)), some (.int (r)), some (.int (nI 0)), none, none, none] [] (σ.set (22) (.inr (7, [.int (nI 0), .ref 23, .ref 24, .ref 25, .ref 26, .ref 27, .ref 28, .ref 29, .ref 30, .ref 31, .ref 32, .ref 33, .ref 34, .ref 35, .ref 36, .ref 37, .int (vf), .int (wh), .int (wy), .ref 38, .ref 39, .ref 40, .ref 41, .int (hg), .ref 42, .ref 43, .ref 44, .ref 45, .ref 46, .ref 47, .ref 48, .ref 49, .int (dp), .ref 50, .ref 51, .ref 52, .int (md), .int (ov), .int (oh), .int (dn), .int (an)]))) (.inl (some (.int (nI 0)))) (σ.set 22 (.inr (7, MoF (nI 1) vf wh wy hg dp md ov oh dn an)))
            refine jr_aload_n d_Mo_method_60 rfl ?_
            refine jr_iload_n d_Mo_method_61 rfl ?_
            refine jr_bipush ((nI (6))) d_Mo_method_62 (by decide) ?_
            refine jr_callV (As := [.int (k), .int (nI 6)]) d_Mo_method_64 k_Mo_method_114 (jl_ss hO) rfl rfl rfl (Nat.le_of_ble_eq_true rfl) (by decide) (by decide) (mo_out hl (jl_ss hO) (MoW.sx hw (Or.inl (by decide)))) ?_
            show jl_W l G m_Mo_method (0, 0) 67 [some (.ref 22), some (.int (k)), some (.int (sl)), some (.int (p)), some (.int (q)), some (.int (r)), some (.int (nI 0)), none, none, none] [.int (bi (outB (k) (nI 6)))] (σ.set (22) (.inr (7, [.int (nI 0), .ref 23, .ref 24, .ref 25, .ref 26, .ref 27, .ref 28, .ref 29, .ref 30, .ref 31, .ref 32, .ref 33, .ref 34, .ref 35, .ref 36, .ref 37, .int (vf), .int (wh), .int (wy), .ref 38, .ref 39, .ref 40, .ref 41, .int (hg), .ref 42, .ref 43, .ref 44, .ref 45, .ref 46, .ref 47, .ref 48, .ref 49, .int (dp), .ref 50, .ref 51, .ref 52, .int (md), .int (ov), .int (oh), .int (dn), .int (an)]))) (.inl (some (.int (nI 0)))) (σ.set 22 (.inr (7, MoF (nI 1) vf wh wy hg dp md ov oh dn an)))
            refine jr_if_ne 84 d_Mo_method_67 (by decide) (fun c40 => ?_) (fun c40 => ?_)
            · refine jr_aload_n d_Mo_method_84 rfl ?_
              refine jr_iconst ((nI (1))) d_Mo_method_85 (by decide) ?_
              refine jr_callV (As := [.int (nI 1)]) d_Mo_method_86 k_Mo_method_118 (jl_ss hO) rfl rfl rfl (Nat.le_of_ble_eq_true rfl) (by decide) (by decide) (mo_fail hl (jl_ss hO) (MoW.sx hw (Or.inl (by decide)))) ?_
              show jl_W l G m_Mo_method (0, 0) 89 [some (.ref 22), some (.int (k)), some (.int (sl)), some (.int (p)), some (.int (q)), some (.int (r)), some (.int (nI 0)), none, none, none] [.int (nI 0)] ((σ.set (22) (.inr (7, [.int (nI 0), .ref 23, .ref 24, .ref 25, .ref 26, .ref 27, .ref 28, .ref 29, .ref 30, .ref 31, .ref 32, .ref 33, .ref 34, .ref 35, .ref 36, .ref 37, .int (vf), .int (wh), .int (wy), .ref 38, .ref 39, .ref 40, .ref 41, .int (hg), .ref 42, .ref 43, .ref 44, .ref 45, .ref 46, .ref 47, .ref 48, .ref 49, .int (dp), .ref 50, .ref 51, .ref 52, .int (md), .int (ov), .int (oh), .int (dn), .int (an)]))).set (22) (.inr (7, [.int (nI 1), .ref 23, .ref 24, .ref 25, .ref 26, .ref 27, .ref 28, .ref 29, .ref 30, .ref 31, .ref 32, .ref 33, .ref 34, .ref 35, .ref 36, .ref 37, .int (vf), .int (wh), .int (wy), .ref 38, .ref 39, .ref 40, .ref 41, .int (hg), .ref 42, .ref 43, .ref 44, .ref 45, .ref 46, .ref 47, .ref 48, .ref 49, .int (dp), .ref 50, .ref 51, .ref 52, .int (md), .int (ov), .int (oh), .int (dn), .int (an)]))) (.inl (some (.int (nI 0)))) (σ.set 22 (.inr (7, MoF (nI 1) vf wh wy hg dp md ov oh dn an)))
              exact jr_iretE d_Mo_method_89 rfl (rfl) ((List.set_set ..).symm) (by decide) (by decide)
            · refine jr_aload_n d_Mo_method_70 rfl ?_
              refine jr_iload_n d_Mo_method_71 rfl ?_
              refine jr_iconst ((nI (4))) d_Mo_method_72 (by decide) ?_
              refine jr_callV (As := [.int (sl), .int (nI 4)]) d_Mo_method_73 k_Mo_method_114 (jl_ss hO) rfl rfl rfl (Nat.le_of_ble_eq_true rfl) (by decide) (by decide) (mo_out hl (jl_ss hO) (MoW.sx hw (Or.inl (by decide)))) ?_
              show jl_W l G m_Mo_method (0, 0) 76 [some (.ref 22), some (.int (k)), some (.int (sl)), some (.int (p)), some (.int (q)), some (.int (r)), some (.int (nI 0)), none, none, none] [.int (bi (outB (sl) (nI 4)))] (σ.set (22) (.inr (7, [.int (nI 0), .ref 23, .ref 24, .ref 25, .ref 26, .ref 27, .ref 28, .ref 29, .ref 30, .ref 31, .ref 32, .ref 33, .ref 34, .ref 35, .ref 36, .ref 37, .int (vf), .int (wh), .int (wy), .ref 38, .ref 39, .ref 40, .ref 41, .int (hg), .ref 42, .ref 43, .ref 44, .ref 45, .ref 46, .ref 47, .ref 48, .ref 49, .int (dp), .ref 50, .ref 51, .ref 52, .int (md), .int (ov), .int (oh), .int (dn), .int (an)]))) (.inl (some (.int (nI 0)))) (σ.set 22 (.inr (7, MoF (nI 1) vf wh wy hg dp md ov oh dn an)))
              refine jr_if_ne 84 d_Mo_method_76 (by decide) (fun c41 => ?_) (fun c41 => ?_)
              · refine jr_aload_n d_Mo_method_84 rfl ?_
                refine jr_iconst ((nI (1))) d_Mo_method_85 (by decide) ?_
                refine jr_callV (As := [.int (nI 1)]) d_Mo_method_86 k_Mo_method_118 (jl_ss hO) rfl rfl rfl (Nat.le_of_ble_eq_true rfl) (by decide) (by decide) (mo_fail hl (jl_ss hO) (MoW.sx hw (Or.inl (by decide)))) ?_
                show jl_W l G m_Mo_method (0, 0) 89 [some (.ref 22), some (.int (k)), some (.int (sl)), some (.int (p)), some (.int (q)), some (.int (r)), some (.int (nI 0)), none, none, none] [.int (nI 0)] ((σ.set (22) (.inr (7, [.int (nI 0), .ref 23, .ref 24, .ref 25, .ref 26, .ref 27, .ref 28, .ref 29, .ref 30, .ref 31, .ref 32, .ref 33, .ref 34, .ref 35, .ref 36, .ref 37, .int (vf), .int (wh), .int (wy), .ref 38, .ref 39, .ref 40, .ref 41, .int (hg), .ref 42, .ref 43, .ref 44, .ref 45, .ref 46, .ref 47, .ref 48, .ref 49, .int (dp), .ref 50, .ref 51, .ref 52, .int (md), .int (ov), .int (oh), .int (dn), .int (an)]))).set (22) (.inr (7, [.int (nI 1), .ref 23, .ref 24, .ref 25, .ref 26, .ref 27, .ref 28, .ref 29, .ref 30, .ref 31, .ref 32, .ref 33, .ref 34, .ref 35, .ref 36, .ref 37, .int (vf), .int (wh), .int (wy), .ref 38, .ref 39, .ref 40, .ref 41, .int (hg), .ref 42, .ref 43, .ref 44, .ref 45, .ref 46, .ref 47, .ref 48, .ref 49, .int (dp), .ref 50, .ref 51, .ref 52, .int (md), .int (ov), .int (oh), .int (dn), .int (an)]))) (.inl (some (.int (nI 0)))) (σ.set 22 (.inr (7, MoF (nI 1) vf wh wy hg dp md ov oh dn an)))
                exact jr_iretE d_Mo_method_89 rfl (rfl) ((List.set_set ..).symm) (by decide) (by decide)
              · refine jr_iload d_Mo_method_79 rfl ?_
                refine jr_if_eq 90 d_Mo_method_81 (by decide) (fun _ => ?_) (fun z => absurd (by decide) z)
                exfalso; simp_all [prOk, bi_0]
          · refine jr_iconst ((nI (1))) d_Mo_method_53 (by decide) ?_
            refine jr_goto 58 d_Mo_method_54 (by decide) ?_
            refine jr_istore d_Mo_method_58 (by decide) ?_
            show jl_W l G m_Mo_method (0, 0) 60 [some (.ref 22), some (.int (k)), some (.int (sl)), some (.int (p)), some (.int (q)), some (.int (r)), some (.int (nI 1)), none, none, none] [] (σ.set (22) (.inr (7, [.int (nI 0), .ref 23, .ref 24, .ref 25, .ref 26, .ref 27, .ref 28, .ref 29, .ref 30, .ref 31, .ref 32, .ref 33, .ref 34, .ref 35, .ref 36, .ref 37, .int (vf), .int (wh), .int (wy), .ref 38, .ref 39, .ref 40, .ref 41, .int (hg), .ref 42, .ref 43, .ref 44, .ref 45, .ref 46, .ref 47, .ref 48, .ref 49, .int (dp), .ref 50, .ref 51, .ref 52, .int (md), .int (ov), .int (oh), .int (dn), .int (an)]))) (.inl (some (.int (nI 0)))) (σ.set 22 (.inr (7, MoF (nI 1) vf wh wy hg dp md ov oh dn an)))
            refine jr_aload_n d_Mo_method_60 rfl ?_
            refine jr_iload_n d_Mo_method_61 rfl ?_
            refine jr_bipush ((nI (6))) d_Mo_method_62 (by decide) ?_
            refine jr_callV (As := [.int (k), .int (nI 6)]) d_Mo_method_64 k_Mo_method_114 (jl_ss hO) rfl rfl rfl (Nat.le_of_ble_eq_true rfl) (by decide) (by decide) (mo_out hl (jl_ss hO) (MoW.sx hw (Or.inl (by decide)))) ?_
            show jl_W l G m_Mo_method (0, 0) 67 [some (.ref 22), some (.int (k)), some (.int (sl)), some (.int (p)), some (.int (q)), some (.int (r)), some (.int (nI 1)), none, none, none] [.int (bi (outB (k) (nI 6)))] (σ.set (22) (.inr (7, [.int (nI 0), .ref 23, .ref 24, .ref 25, .ref 26, .ref 27, .ref 28, .ref 29, .ref 30, .ref 31, .ref 32, .ref 33, .ref 34, .ref 35, .ref 36, .ref 37, .int (vf), .int (wh), .int (wy), .ref 38, .ref 39, .ref 40, .ref 41, .int (hg), .ref 42, .ref 43, .ref 44, .ref 45, .ref 46, .ref 47, .ref 48, .ref 49, .int (dp), .ref 50, .ref 51, .ref 52, .int (md), .int (ov), .int (oh), .int (dn), .int (an)]))) (.inl (some (.int (nI 0)))) (σ.set 22 (.inr (7, MoF (nI 1) vf wh wy hg dp md ov oh dn an)))
            refine jr_if_ne 84 d_Mo_method_67 (by decide) (fun c42 => ?_) (fun c42 => ?_)
            · refine jr_aload_n d_Mo_method_84 rfl ?_
              refine jr_iconst ((nI (1))) d_Mo_method_85 (by decide) ?_
              refine jr_callV (As := [.int (nI 1)]) d_Mo_method_86 k_Mo_method_118 (jl_ss hO) rfl rfl rfl (Nat.le_of_ble_eq_true rfl) (by decide) (by decide) (mo_fail hl (jl_ss hO) (MoW.sx hw (Or.inl (by decide)))) ?_
              show jl_W l G m_Mo_method (0, 0) 89 [some (.ref 22), some (.int (k)), some (.int (sl)), some (.int (p)), some (.int (q)), some (.int (r)), some (.int (nI 1)), none, none, none] [.int (nI 0)] ((σ.set (22) (.inr (7, [.int (nI 0), .ref 23, .ref 24, .ref 25, .ref 26, .ref 27, .ref 28, .ref 29, .ref 30, .ref 31, .ref 32, .ref 33, .ref 34, .ref 35, .ref 36, .ref 37, .int (vf), .int (wh), .int (wy), .ref 38, .ref 39, .ref 40, .ref 41, .int (hg), .ref 42, .ref 43, .ref 44, .ref 45, .ref 46, .ref 47, .ref 48, .ref 49, .int (dp), .ref 50, .ref 51, .ref 52, .int (md), .int (ov), .int (oh), .int (dn), .int (an)]))).set (22) (.inr (7, [.int (nI 1), .ref 23, .ref 24, .ref 25, .ref 26, .ref 27, .ref 28, .ref 29, .ref 30, .ref 31, .ref 32, .ref 33, .ref 34, .ref 35, .ref 36, .ref 37, .int (vf), .int (wh), .int (wy), .ref 38, .ref 39, .ref 40, .ref 41, .int (hg), .ref 42, .ref 43, .ref 44, .ref 45, .ref 46, .ref 47, .ref 48, .ref 49, .int (dp), .ref 50, .ref 51, .ref 52, .int (md), .int (ov), .int (oh), .int (dn), .int (an)]))) (.inl (some (.int (nI 0)))) (σ.set 22 (.inr (7, MoF (nI 1) vf wh wy hg dp md ov oh dn an)))
              exact jr_iretE d_Mo_method_89 rfl (rfl) ((List.set_set ..).symm) (by decide) (by decide)
            · refine jr_aload_n d_Mo_method_70 rfl ?_
              refine jr_iload_n d_Mo_method_71 rfl ?_
              refine jr_iconst ((nI (4))) d_Mo_method_72 (by decide) ?_
              refine jr_callV (As := [.int (sl), .int (nI 4)]) d_Mo_method_73 k_Mo_method_114 (jl_ss hO) rfl rfl rfl (Nat.le_of_ble_eq_true rfl) (by decide) (by decide) (mo_out hl (jl_ss hO) (MoW.sx hw (Or.inl (by decide)))) ?_
              show jl_W l G m_Mo_method (0, 0) 76 [some (.ref 22), some (.int (k)), some (.int (sl)), some (.int (p)), some (.int (q)), some (.int (r)), some (.int (nI 1)), none, none, none] [.int (bi (outB (sl) (nI 4)))] (σ.set (22) (.inr (7, [.int (nI 0), .ref 23, .ref 24, .ref 25, .ref 26, .ref 27, .ref 28, .ref 29, .ref 30, .ref 31, .ref 32, .ref 33, .ref 34, .ref 35, .ref 36, .ref 37, .int (vf), .int (wh), .int (wy), .ref 38, .ref 39, .ref 40, .ref 41, .int (hg), .ref 42, .ref 43, .ref 44, .ref 45, .ref 46, .ref 47, .ref 48, .ref 49, .int (dp), .ref 50, .ref 51, .ref 52, .int (md), .int (ov), .int (oh), .int (dn), .int (an)]))) (.inl (some (.int (nI 0)))) (σ.set 22 (.inr (7, MoF (nI 1) vf wh wy hg dp md ov oh dn an)))
              refine jr_if_ne 84 d_Mo_method_76 (by decide) (fun c43 => ?_) (fun c43 => ?_)
              · refine jr_aload_n d_Mo_method_84 rfl ?_
                refine jr_iconst ((nI (1))) d_Mo_method_85 (by decide) ?_
                refine jr_callV (As := [.int (nI 1)]) d_Mo_method_86 k_Mo_method_118 (jl_ss hO) rfl rfl rfl (Nat.le_of_ble_eq_true rfl) (by decide) (by decide) (mo_fail hl (jl_ss hO) (MoW.sx hw (Or.inl (by decide)))) ?_
                show jl_W l G m_Mo_method (0, 0) 89 [some (.ref 22), some (.int (k)), some (.int (sl)), some (.int (p)), some (.int (q)), some (.int (r)), some (.int (nI 1)), none, none, none] [.int (nI 0)] ((σ.set (22) (.inr (7, [.int (nI 0), .ref 23, .ref 24, .ref 25, .ref 26, .ref 27, .ref 28, .ref 29, .ref 30, .ref 31, .ref 32, .ref 33, .ref 34, .ref 35, .ref 36, .ref 37, .int (vf), .int (wh), .int (wy), .ref 38, .ref 39, .ref 40, .ref 41, .int (hg), .ref 42, .ref 43, .ref 44, .ref 45, .ref 46, .ref 47, .ref 48, .ref 49, .int (dp), .ref 50, .ref 51, .ref 52, .int (md), .int (ov), .int (oh), .int (dn), .int (an)]))).set (22) (.inr (7, [.int (nI 1), .ref 23, .ref 24, .ref 25, .ref 26, .ref 27, .ref 28, .ref 29, .ref 30, .ref 31, .ref 32, .ref 33, .ref 34, .ref 35, .ref 36, .ref 37, .int (vf), .int (wh), .int (wy), .ref 38, .ref 39, .ref 40, .ref 41, .int (hg), .ref 42, .ref 43, .ref 44, .ref 45, .ref 46, .ref 47, .ref 48, .ref 49, .int (dp), .ref 50, .ref 51, .ref 52, .int (md), .int (ov), .int (oh), .int (dn), .int (an)]))) (.inl (some (.int (nI 0)))) (σ.set 22 (.inr (7, MoF (nI 1) vf wh wy hg dp md ov oh dn an)))
                exact jr_iretE d_Mo_method_89 rfl (rfl) ((List.set_set ..).symm) (by decide) (by decide)
              · refine jr_iload d_Mo_method_79 rfl ?_
                refine jr_if_eq 90 d_Mo_method_81 (by decide) (fun z => absurd z (by decide)) (fun _ => ?_)
                refine jr_aload_n d_Mo_method_84 rfl ?_
                refine jr_iconst ((nI (1))) d_Mo_method_85 (by decide) ?_
                refine jr_callV (As := [.int (nI 1)]) d_Mo_method_86 k_Mo_method_118 (jl_ss hO) rfl rfl rfl (Nat.le_of_ble_eq_true rfl) (by decide) (by decide) (mo_fail hl (jl_ss hO) (MoW.sx hw (Or.inl (by decide)))) ?_
                show jl_W l G m_Mo_method (0, 0) 89 [some (.ref 22), some (.int (k)), some (.int (sl)), some (.int (p)), some (.int (q)), some (.int (r)), some (.int (nI 1)), none, none, none] [.int (nI 0)] ((σ.set (22) (.inr (7, [.int (nI 0), .ref 23, .ref 24, .ref 25, .ref 26, .ref 27, .ref 28, .ref 29, .ref 30, .ref 31, .ref 32, .ref 33, .ref 34, .ref 35, .ref 36, .ref 37, .int (vf), .int (wh), .int (wy), .ref 38, .ref 39, .ref 40, .ref 41, .int (hg), .ref 42, .ref 43, .ref 44, .ref 45, .ref 46, .ref 47, .ref 48, .ref 49, .int (dp), .ref 50, .ref 51, .ref 52, .int (md), .int (ov), .int (oh), .int (dn), .int (an)]))).set (22) (.inr (7, [.int (nI 1), .ref 23, .ref 24, .ref 25, .ref 26, .ref 27, .ref 28, .ref 29, .ref 30, .ref 31, .ref 32, .ref 33, .ref 34, .ref 35, .ref 36, .ref 37, .int (vf), .int (wh), .int (wy), .ref 38, .ref 39, .ref 40, .ref 41, .int (hg), .ref 42, .ref 43, .ref 44, .ref 45, .ref 46, .ref 47, .ref 48, .ref 49, .int (dp), .ref 50, .ref 51, .ref 52, .int (md), .int (ov), .int (oh), .int (dn), .int (an)]))) (.inl (some (.int (nI 0)))) (σ.set 22 (.inr (7, MoF (nI 1) vf wh wy hg dp md ov oh dn an)))
                exact jr_iretE d_Mo_method_89 rfl (rfl) ((List.set_set ..).symm) (by decide) (by decide)
        · refine jr_iload d_Mo_method_38 rfl ?_
          refine jr_iconst ((-1)) d_Mo_method_40 (by decide) ?_
          refine jr_icmp_ne 53 d_Mo_method_41 (by decide) (fun c44 => ?_) (fun c44 => ?_)
          · refine jr_iconst ((nI (1))) d_Mo_method_53 (by decide) ?_
            refine jr_goto 58 d_Mo_method_54 (by decide) ?_
            refine jr_istore d_Mo_method_58 (by decide) ?_
            show jl_W l G m_Mo_method (0, 0) 60 [some (.ref 22), some (.int (k)), some (.int (sl)), some (.int (p)), some (.int (q)), some (.int (r)), some (.int (nI 1)), none, none, none] [] (σ.set (22) (.inr (7, [.int (nI 0), .ref 23, .ref 24, .ref 25, .ref 26, .ref 27, .ref 28, .ref 29, .ref 30, .ref 31, .ref 32, .ref 33, .ref 34, .ref 35, .ref 36, .ref 37, .int (vf), .int (wh), .int (wy), .ref 38, .ref 39, .ref 40, .ref 41, .int (hg), .ref 42, .ref 43, .ref 44, .ref 45, .ref 46, .ref 47, .ref 48, .ref 49, .int (dp), .ref 50, .ref 51, .ref 52, .int (md), .int (ov), .int (oh), .int (dn), .int (an)]))) (.inl (some (.int (nI 0)))) (σ.set 22 (.inr (7, MoF (nI 1) vf wh wy hg dp md ov oh dn an)))
            refine jr_aload_n d_Mo_method_60 rfl ?_
            refine jr_iload_n d_Mo_method_61 rfl ?_
            refine jr_bipush ((nI (6))) d_Mo_method_62 (by decide) ?_
            refine jr_callV (As := [.int (k), .int (nI 6)]) d_Mo_method_64 k_Mo_method_114 (jl_ss hO) rfl rfl rfl (Nat.le_of_ble_eq_true rfl) (by decide) (by decide) (mo_out hl (jl_ss hO) (MoW.sx hw (Or.inl (by decide)))) ?_
            show jl_W l G m_Mo_method (0, 0) 67 [some (.ref 22), some (.int (k)), some (.int (sl)), some (.int (p)), some (.int (q)), some (.int (r)), some (.int (nI 1)), none, none, none] [.int (bi (outB (k) (nI 6)))] (σ.set (22) (.inr (7, [.int (nI 0), .ref 23, .ref 24, .ref 25, .ref 26, .ref 27, .ref 28, .ref 29, .ref 30, .ref 31, .ref 32, .ref 33, .ref 34, .ref 35, .ref 36, .ref 37, .int (vf), .int (wh), .int (wy), .ref 38, .ref 39, .ref 40, .ref 41, .int (hg), .ref 42, .ref 43, .ref 44, .ref 45, .ref 46, .ref 47, .ref 48, .ref 49, .int (dp), .ref 50, .ref 51, .ref 52, .int (md), .int (ov), .int (oh), .int (dn), .int (an)]))) (.inl (some (.int (nI 0)))) (σ.set 22 (.inr (7, MoF (nI 1) vf wh wy hg dp md ov oh dn an)))
            refine jr_if_ne 84 d_Mo_method_67 (by decide) (fun c45 => ?_) (fun c45 => ?_)
            · refine jr_aload_n d_Mo_method_84 rfl ?_
              refine jr_iconst ((nI (1))) d_Mo_method_85 (by decide) ?_
              refine jr_callV (As := [.int (nI 1)]) d_Mo_method_86 k_Mo_method_118 (jl_ss hO) rfl rfl rfl (Nat.le_of_ble_eq_true rfl) (by decide) (by decide) (mo_fail hl (jl_ss hO) (MoW.sx hw (Or.inl (by decide)))) ?_
              show jl_W l G m_Mo_method (0, 0) 89 [some (.ref 22), some (.int (k)), some (.int (sl)), some (.int (p)), some (.int (q)), some (.int (r)), some (.int (nI 1)), none, none, none] [.int (nI 0)] ((σ.set (22) (.inr (7, [.int (nI 0), .ref 23, .ref 24, .ref 25, .ref 26, .ref 27, .ref 28, .ref 29, .ref 30, .ref 31, .ref 32, .ref 33, .ref 34, .ref 35, .ref 36, .ref 37, .int (vf), .int (wh), .int (wy), .ref 38, .ref 39, .ref 40, .ref 41, .int (hg), .ref 42, .ref 43, .ref 44, .ref 45, .ref 46, .ref 47, .ref 48, .ref 49, .int (dp), .ref 50, .ref 51, .ref 52, .int (md), .int (ov), .int (oh), .int (dn), .int (an)]))).set (22) (.inr (7, [.int (nI 1), .ref 23, .ref 24, .ref 25, .ref 26, .ref 27, .ref 28, .ref 29, .ref 30, .ref 31, .ref 32, .ref 33, .ref 34, .ref 35, .ref 36, .ref 37, .int (vf), .int (wh), .int (wy), .ref 38, .ref 39, .ref 40, .ref 41, .int (hg), .ref 42, .ref 43, .ref 44, .ref 45, .ref 46, .ref 47, .ref 48, .ref 49, .int (dp), .ref 50, .ref 51, .ref 52, .int (md), .int (ov), .int (oh), .int (dn), .int (an)]))) (.inl (some (.int (nI 0)))) (σ.set 22 (.inr (7, MoF (nI 1) vf wh wy hg dp md ov oh dn an)))
              exact jr_iretE d_Mo_method_89 rfl (rfl) ((List.set_set ..).symm) (by decide) (by decide)
            · refine jr_aload_n d_Mo_method_70 rfl ?_
              refine jr_iload_n d_Mo_method_71 rfl ?_
              refine jr_iconst ((nI (4))) d_Mo_method_72 (by decide) ?_
              refine jr_callV (As := [.int (sl), .int (nI 4)]) d_Mo_method_73 k_Mo_method_114 (jl_ss hO) rfl rfl rfl (Nat.le_of_ble_eq_true rfl) (by decide) (by decide) (mo_out hl (jl_ss hO) (MoW.sx hw (Or.inl (by decide)))) ?_
              show jl_W l G m_Mo_method (0, 0) 76 [some (.ref 22), some (.int (k)), some (.int (sl)), some (.int (p)), some (.int (q)), some (.int (r)), some (.int (nI 1)), none, none, none] [.int (bi (outB (sl) (nI 4)))] (σ.set (22) (.inr (7, [.int (nI 0), .ref 23, .ref 24, .ref 25, .ref 26, .ref 27, .ref 28, .ref 29, .ref 30, .ref 31, .ref 32, .ref 33, .ref 34, .ref 35, .ref 36, .ref 37, .int (vf), .int (wh), .int (wy), .ref 38, .ref 39, .ref 40, .ref 41, .int (hg), .ref 42, .ref 43, .ref 44, .ref 45, .ref 46, .ref 47, .ref 48, .ref 49, .int (dp), .ref 50, .ref 51, .ref 52, .int (md), .int (ov), .int (oh), .int (dn), .int (an)]))) (.inl (some (.int (nI 0)))) (σ.set 22 (.inr (7, MoF (nI 1) vf wh wy hg dp md ov oh dn an)))
              refine jr_if_ne 84 d_Mo_method_76 (by decide) (fun c46 => ?_) (fun c46 => ?_)
              · refine jr_aload_n d_Mo_method_84 rfl ?_
                refine jr_iconst ((nI (1))) d_Mo_method_85 (by decide) ?_
                refine jr_callV (As := [.int (nI 1)]) d_Mo_method_86 k_Mo_method_118 (jl_ss hO) rfl rfl rfl (Nat.le_of_ble_eq_true rfl) (by decide) (by decide) (mo_fail hl (jl_ss hO) (MoW.sx hw (Or.inl (by decide)))) ?_
                show jl_W l G m_Mo_method (0, 0) 89 [some (.ref 22), some (.int (k)), some (.int (sl)), some (.int (p)), some (.int (q)), some (.int (r)), some (.int (nI 1)), none, none, none] [.int (nI 0)] ((σ.set (22) (.inr (7, [.int (nI 0), .ref 23, .ref 24, .ref 25, .ref 26, .ref 27, .ref 28, .ref 29, .ref 30, .ref 31, .ref 32, .ref 33, .ref 34, .ref 35, .ref 36, .ref 37, .int (vf), .int (wh), .int (wy), .ref 38, .ref 39, .ref 40, .ref 41, .int (hg), .ref 42, .ref 43, .ref 44, .ref 45, .ref 46, .ref 47, .ref 48, .ref 49, .int (dp), .ref 50, .ref 51, .ref 52, .int (md), .int (ov), .int (oh), .int (dn), .int (an)]))).set (22) (.inr (7, [.int (nI 1), .ref 23, .ref 24, .ref 25, .ref 26, .ref 27, .ref 28, .ref 29, .ref 30, .ref 31, .ref 32, .ref 33, .ref 34, .ref 35, .ref 36, .ref 37, .int (vf), .int (wh), .int (wy), .ref 38, .ref 39, .ref 40, .ref 41, .int (hg), .ref 42, .ref 43, .ref 44, .ref 45, .ref 46, .ref 47, .ref 48, .ref 49, .int (dp), .ref 50, .ref 51, .ref 52, .int (md), .int (ov), .int (oh), .int (dn), .int (an)]))) (.inl (some (.int (nI 0)))) (σ.set 22 (.inr (7, MoF (nI 1) vf wh wy hg dp md ov oh dn an)))
                exact jr_iretE d_Mo_method_89 rfl (rfl) ((List.set_set ..).symm) (by decide) (by decide)
              · refine jr_iload d_Mo_method_79 rfl ?_
                refine jr_if_eq 90 d_Mo_method_81 (by decide) (fun z => absurd z (by decide)) (fun _ => ?_)
                refine jr_aload_n d_Mo_method_84 rfl ?_
                refine jr_iconst ((nI (1))) d_Mo_method_85 (by decide) ?_
                refine jr_callV (As := [.int (nI 1)]) d_Mo_method_86 k_Mo_method_118 (jl_ss hO) rfl rfl rfl (Nat.le_of_ble_eq_true rfl) (by decide) (by decide) (mo_fail hl (jl_ss hO) (MoW.sx hw (Or.inl (by decide)))) ?_
                show jl_W l G m_Mo_method (0, 0) 89 [some (.ref 22), some (.int (k)), some (.int (sl)), some (.int (p)), some (.int (q)), some (.int (r)), some (.int (nI 1)), none, none, none] [.int (nI 0)] ((σ.set (22) (.inr (7, [.int (nI 0), .ref 23, .ref 24, .ref 25, .ref 26, .ref 27, .ref 28, .ref 29, .ref 30, .ref 31, .ref 32, .ref 33, .ref 34, .ref 35, .ref 36, .ref 37, .int (vf), .int (wh), .int (wy), .ref 38, .ref 39, .ref 40, .ref 41, .int (hg), .ref 42, .ref 43, .ref 44, .ref 45, .ref 46, .ref 47, .ref 48, .ref 49, .int (dp), .ref 50, .ref 51, .ref 52, .int (md), .int (ov), .int (oh), .int (dn), .int (an)]))).set (22) (.inr (7, [.int (nI 1), .ref 23, .ref 24, .ref 25, .ref 26, .ref 27, .ref 28, .ref 29, .ref 30, .ref 31, .ref 32, .ref 33, .ref 34, .ref 35, .ref 36, .ref 37, .int (vf), .int (wh), .int (wy), .ref 38, .ref 39, .ref 40, .ref 41, .int (hg), .ref 42, .ref 43, .ref 44, .ref 45, .ref 46, .ref 47, .ref 48, .ref 49, .int (dp), .ref 50, .ref 51, .ref 52, .int (md), .int (ov), .int (oh), .int (dn), .int (an)]))) (.inl (some (.int (nI 0)))) (σ.set 22 (.inr (7, MoF (nI 1) vf wh wy hg dp md ov oh dn an)))
                exact jr_iretE d_Mo_method_89 rfl (rfl) ((List.set_set ..).symm) (by decide) (by decide)
          · refine jr_aload_n d_Mo_method_44 rfl ?_
            refine jr_iload d_Mo_method_45 rfl ?_
            refine jr_callV (As := [.int (r)]) d_Mo_method_47 k_Mo_method_129 (jl_ss hO) rfl rfl rfl (Nat.le_of_ble_eq_true rfl) (by decide) (by decide) (mo_isTyp hl (jl_ss hO) (MoW.sx hw (Or.inl (by decide)))) ?_
            show jl_W l G m_Mo_method (0, 0) 50 [some (.ref 22), some (.int (k)), some (.int (sl)), some (.int (p)), some (.int (q)), some (.int (r)), none, none, none, none] [.int (bi (isTyp (r)))] (σ.set (22) (.inr (7, [.int (nI 0), .ref 23, .ref 24, .ref 25, .ref 26, .ref 27, .ref 28, .ref 29, .ref 30, .ref 31, .ref 32, .ref 33, .ref 34, .ref 35, .ref 36, .ref 37, .int (vf), .int (wh), .int (wy), .ref 38, .ref 39, .ref 40, .ref 41, .int (hg), .ref 42, .ref 43, .ref 44, .ref 45, .ref 46, .ref 47, .ref 48, .ref 49, .int (dp), .ref 50, .ref 51, .ref 52, .int (md), .int (ov), .int (oh), .int (dn), .int (an)]))) (.inl (some (.int (nI 0)))) (σ.set 22 (.inr (7, MoF (nI 1) vf wh wy hg dp md ov oh dn an)))
            refine jr_if_ne 57 d_Mo_method_50 (by decide) (fun c47 => ?_) (fun c47 => ?_)
            · refine jr_iconst ((nI (0))) d_Mo_method_57 (by decide) ?_
              refine jr_istore d_Mo_method_58 (by decide) ?_
              show jl_W l G m_Mo_method (0, 0) 60 [some (.ref 22), some (.int (k)), some (.int (sl)), some (.int (p)), some (.int (q)), some (.int (r)), some (.int (nI 0)), none, none, none] [] (σ.set (22) (.inr (7, [.int (nI 0), .ref 23, .ref 24, .ref 25, .ref 26, .ref 27, .ref 28, .ref 29, .ref 30, .ref 31, .ref 32, .ref 33, .ref 34, .ref 35, .ref 36, .ref 37, .int (vf), .int (wh), .int (wy), .ref 38, .ref 39, .ref 40, .ref 41, .int (hg), .ref 42, .ref 43, .ref 44, .ref 45, .ref 46, .ref 47, .ref 48, .ref 49, .int (dp), .ref 50, .ref 51, .ref 52, .int (md), .int (ov), .int (oh), .int (dn), .int (an)]))) (.inl (some (.int (nI 0)))) (σ.set 22 (.inr (7, MoF (nI 1) vf wh wy hg dp md ov oh dn an)))
              refine jr_aload_n d_Mo_method_60 rfl ?_
              refine jr_iload_n d_Mo_method_61 rfl ?_
              refine jr_bipush ((nI (6))) d_Mo_method_62 (by decide) ?_
              refine jr_callV (As := [.int (k), .int (nI 6)]) d_Mo_method_64 k_Mo_method_114 (jl_ss hO) rfl rfl rfl (Nat.le_of_ble_eq_true rfl) (by decide) (by decide) (mo_out hl (jl_ss hO) (MoW.sx hw (Or.inl (by decide)))) ?_
              show jl_W l G m_Mo_method (0, 0) 67 [some (.ref 22), some (.int (k)), some (.int (sl)), some (.int (p)), some (.int (q)), some (.int (r)), some (.int (nI 0)), none, none, none] [.int (bi (outB (k) (nI 6)))] (σ.set (22) (.inr (7, [.int (nI 0), .ref 23, .ref 24, .ref 25, .ref 26, .ref 27, .ref 28, .ref 29, .ref 30, .ref 31, .ref 32, .ref 33, .ref 34, .ref 35, .ref 36, .ref 37, .int (vf), .int (wh), .int (wy), .ref 38, .ref 39, .ref 40, .ref 41, .int (hg), .ref 42, .ref 43, .ref 44, .ref 45, .ref 46, .ref 47, .ref 48, .ref 49, .int (dp), .ref 50, .ref 51, .ref 52, .int (md), .int (ov), .int (oh), .int (dn), .int (an)]))) (.inl (some (.int (nI 0)))) (σ.set 22 (.inr (7, MoF (nI 1) vf wh wy hg dp md ov oh dn an)))
              refine jr_if_ne 84 d_Mo_method_67 (by decide) (fun c48 => ?_) (fun c48 => ?_)
              · refine jr_aload_n d_Mo_method_84 rfl ?_
                refine jr_iconst ((nI (1))) d_Mo_method_85 (by decide) ?_
                refine jr_callV (As := [.int (nI 1)]) d_Mo_method_86 k_Mo_method_118 (jl_ss hO) rfl rfl rfl (Nat.le_of_ble_eq_true rfl) (by decide) (by decide) (mo_fail hl (jl_ss hO) (MoW.sx hw (Or.inl (by decide)))) ?_
                show jl_W l G m_Mo_method (0, 0) 89 [some (.ref 22), some (.int (k)), some (.int (sl)), some (.int (p)), some (.int (q)), some (.int (r)), some (.int (nI 0)), none, none, none] [.int (nI 0)] ((σ.set (22) (.inr (7, [.int (nI 0), .ref 23, .ref 24, .ref 25, .ref 26, .ref 27, .ref 28, .ref 29, .ref 30, .ref 31, .ref 32, .ref 33, .ref 34, .ref 35, .ref 36, .ref 37, .int (vf), .int (wh), .int (wy), .ref 38, .ref 39, .ref 40, .ref 41, .int (hg), .ref 42, .ref 43, .ref 44, .ref 45, .ref 46, .ref 47, .ref 48, .ref 49, .int (dp), .ref 50, .ref 51, .ref 52, .int (md), .int (ov), .int (oh), .int (dn), .int (an)]))).set (22) (.inr (7, [.int (nI 1), .ref 23, .ref 24, .ref 25, .ref 26, .ref 27, .ref 28, .ref 29, .ref 30, .ref 31, .ref 32, .ref 33, .ref 34, .ref 35, .ref 36, .ref 37, .int (vf), .int (wh), .int (wy), .ref 38, .ref 39, .ref 40, .ref 41, .int (hg), .ref 42, .ref 43, .ref 44, .ref 45, .ref 46, .ref 47, .ref 48, .ref 49, .int (dp), .ref 50, .ref 51, .ref 52, .int (md), .int (ov), .int (oh), .int (dn), .int (an)]))) (.inl (some (.int (nI 0)))) (σ.set 22 (.inr (7, MoF (nI 1) vf wh wy hg dp md ov oh dn an)))
                exact jr_iretE d_Mo_method_89 rfl (rfl) ((List.set_set ..).symm) (by decide) (by decide)
              · refine jr_aload_n d_Mo_method_70 rfl ?_
                refine jr_iload_n d_Mo_method_71 rfl ?_
                refine jr_iconst ((nI (4))) d_Mo_method_72 (by decide) ?_
                refine jr_callV (As := [.int (sl), .int (nI 4)]) d_Mo_method_73 k_Mo_method_114 (jl_ss hO) rfl rfl rfl (Nat.le_of_ble_eq_true rfl) (by decide) (by decide) (mo_out hl (jl_ss hO) (MoW.sx hw (Or.inl (by decide)))) ?_
                show jl_W l G m_Mo_method (0, 0) 76 [some (.ref 22), some (.int (k)), some (.int (sl)), some (.int (p)), some (.int (q)), some (.int (r)), some (.int (nI 0)), none, none, none] [.int (bi (outB (sl) (nI 4)))] (σ.set (22) (.inr (7, [.int (nI 0), .ref 23, .ref 24, .ref 25, .ref 26, .ref 27, .ref 28, .ref 29, .ref 30, .ref 31, .ref 32, .ref 33, .ref 34, .ref 35, .ref 36, .ref 37, .int (vf), .int (wh), .int (wy), .ref 38, .ref 39, .ref 40, .ref 41, .int (hg), .ref 42, .ref 43, .ref 44, .ref 45, .ref 46, .ref 47, .ref 48, .ref 49, .int (dp), .ref 50, .ref 51, .ref 52, .int (md), .int (ov), .int (oh), .int (dn), .int (an)]))) (.inl (some (.int (nI 0)))) (σ.set 22 (.inr (7, MoF (nI 1) vf wh wy hg dp md ov oh dn an)))
                refine jr_if_ne 84 d_Mo_method_76 (by decide) (fun c49 => ?_) (fun c49 => ?_)
                · refine jr_aload_n d_Mo_method_84 rfl ?_
                  refine jr_iconst ((nI (1))) d_Mo_method_85 (by decide) ?_
                  refine jr_callV (As := [.int (nI 1)]) d_Mo_method_86 k_Mo_method_118 (jl_ss hO) rfl rfl rfl (Nat.le_of_ble_eq_true rfl) (by decide) (by decide) (mo_fail hl (jl_ss hO) (MoW.sx hw (Or.inl (by decide)))) ?_
                  show jl_W l G m_Mo_method (0, 0) 89 [some (.ref 22), some (.int (k)), some (.int (sl)), some (.int (p)), some (.int (q)), some (.int (r)), some (.int (nI 0)), none, none, none] [.int (nI 0)] ((σ.set (22) (.inr (7, [.int (nI 0), .ref 23, .ref 24, .ref 25, .ref 26, .ref 27, .ref 28, .ref 29, .ref 30, .ref 31, .ref 32, .ref 33, .ref 34, .ref 35, .ref 36, .ref 37, .int (vf), .int (wh), .int (wy), .ref 38, .ref 39, .ref 40, .ref 41, .int (hg), .ref 42, .ref 43, .ref 44, .ref 45, .ref 46, .ref 47, .ref 48, .ref 49, .int (dp), .ref 50, .ref 51, .ref 52, .int (md), .int (ov), .int (oh), .int (dn), .int (an)]))).set (22) (.inr (7, [.int (nI 1), .ref 23, .ref 24, .ref 25, .ref 26, .ref 27, .ref 28, .ref 29, .ref 30, .ref 31, .ref 32, .ref 33, .ref 34, .ref 35, .ref 36, .ref 37, .int (vf), .int (wh), .int (wy), .ref 38, .ref 39, .ref 40, .ref 41, .int (hg), .ref 42, .ref 43, .ref 44, .ref 45, .ref 46, .ref 47, .ref 48, .ref 49, .int (dp), .ref 50, .ref 51, .ref 52, .int (md), .int (ov), .int (oh), .int (dn), .int (an)]))) (.inl (some (.int (nI 0)))) (σ.set 22 (.inr (7, MoF (nI 1) vf wh wy hg dp md ov oh dn an)))
                  exact jr_iretE d_Mo_method_89 rfl (rfl) ((List.set_set ..).symm) (by decide) (by decide)
                · refine jr_iload d_Mo_method_79 rfl ?_
                  refine jr_if_eq 90 d_Mo_method_81 (by decide) (fun _ => ?_) (fun z => absurd (by decide) z)
                  exfalso; simp_all [prOk, bi_0]
            · refine jr_iconst ((nI (1))) d_Mo_method_53 (by decide) ?_
              refine jr_goto 58 d_Mo_method_54 (by decide) ?_
              refine jr_istore d_Mo_method_58 (by decide) ?_
              show jl_W l G m_Mo_method (0, 0) 60 [some (.ref 22), some (.int (k)), some (.int (sl)), some (.int (p)), some (.int (q)), some (.int (r)), some (.int (nI 1)), none, none, none] [] (σ.set (22) (.inr (7, [.int (nI 0), .ref 23, .ref 24, .ref 25, .ref 26, .ref 27, .ref 28, .ref 29, .ref 30, .ref 31, .ref 32, .ref 33, .ref 34, .ref 35, .ref 36, .ref 37, .int (vf), .int (wh), .int (wy), .ref 38, .ref 39, .ref 40, .ref 41, .int (hg), .ref 42, .ref 43, .ref 44, .ref 45, .ref 46, .ref 47, .ref 48, .ref 49, .int (dp), .ref 50, .ref 51, .ref 52, .int (md), .int (ov), .int (oh), .int (dn), .int (an)]))) (.inl (some (.int (nI 0)))) (σ.set 22 (.inr (7, MoF (nI 1) vf wh wy hg dp md ov oh dn an)))
              refine jr_aload_n d_Mo_method_60 rfl ?_
              refine jr_iload_n d_Mo_method_61 rfl ?_
              refine jr_bipush ((nI (6))) d_Mo_method_62 (by decide) ?_
              refine jr_callV (As := [.int (k), .int (nI 6)]) d_Mo_method_64 k_Mo_method_114 (jl_ss hO) rfl rfl rfl (Nat.le_of_ble_eq_true rfl) (by decide) (by decide) (mo_out hl (jl_ss hO) (MoW.sx hw (Or.inl (by decide)))) ?_
              show jl_W l G m_Mo_method (0, 0) 67 [some (.ref 22), some (.int (k)), some (.int (sl)), some (.int (p)), some (.int (q)), some (.int (r)), some (.int (nI 1)), none, none, none] [.int (bi (outB (k) (nI 6)))] (σ.set (22) (.inr (7, [.int (nI 0), .ref 23, .ref 24, .ref 25, .ref 26, .ref 27, .ref 28, .ref 29, .ref 30, .ref 31, .ref 32, .ref 33, .ref 34, .ref 35, .ref 36, .ref 37, .int (vf), .int (wh), .int (wy), .ref 38, .ref 39, .ref 40, .ref 41, .int (hg), .ref 42, .ref 43, .ref 44, .ref 45, .ref 46, .ref 47, .ref 48, .ref 49, .int (dp), .ref 50, .ref 51, .ref 52, .int (md), .int (ov), .int (oh), .int (dn), .int (an)]))) (.inl (some (.int (nI 0)))) (σ.set 22 (.inr (7, MoF (nI 1) vf wh wy hg dp md ov oh dn an)))
              refine jr_if_ne 84 d_Mo_method_67 (by decide) (fun c50 => ?_) (fun c50 => ?_)
              · refine jr_aload_n d_Mo_method_84 rfl ?_
                refine jr_iconst ((nI (1))) d_Mo_method_85 (by decide) ?_
                refine jr_callV (As := [.int (nI 1)]) d_Mo_method_86 k_Mo_method_118 (jl_ss hO) rfl rfl rfl (Nat.le_of_ble_eq_true rfl) (by decide) (by decide) (mo_fail hl (jl_ss hO) (MoW.sx hw (Or.inl (by decide)))) ?_
                show jl_W l G m_Mo_method (0, 0) 89 [some (.ref 22), some (.int (k)), some (.int (sl)), some (.int (p)), some (.int (q)), some (.int (r)), some (.int (nI 1)), none, none, none] [.int (nI 0)] ((σ.set (22) (.inr (7, [.int (nI 0), .ref 23, .ref 24, .ref 25, .ref 26, .ref 27, .ref 28, .ref 29, .ref 30, .ref 31, .ref 32, .ref 33, .ref 34, .ref 35, .ref 36, .ref 37, .int (vf), .int (wh), .int (wy), .ref 38, .ref 39, .ref 40, .ref 41, .int (hg), .ref 42, .ref 43, .ref 44, .ref 45, .ref 46, .ref 47, .ref 48, .ref 49, .int (dp), .ref 50, .ref 51, .ref 52, .int (md), .int (ov), .int (oh), .int (dn), .int (an)]))).set (22) (.inr (7, [.int (nI 1), .ref 23, .ref 24, .ref 25, .ref 26, .ref 27, .ref 28, .ref 29, .ref 30, .ref 31, .ref 32, .ref 33, .ref 34, .ref 35, .ref 36, .ref 37, .int (vf), .int (wh), .int (wy), .ref 38, .ref 39, .ref 40, .ref 41, .int (hg), .ref 42, .ref 43, .ref 44, .ref 45, .ref 46, .ref 47, .ref 48, .ref 49, .int (dp), .ref 50, .ref 51, .ref 52, .int (md), .int (ov), .int (oh), .int (dn), .int (an)]))) (.inl (some (.int (nI 0)))) (σ.set 22 (.inr (7, MoF (nI 1) vf wh wy hg dp md ov oh dn an)))
                exact jr_iretE d_Mo_method_89 rfl (rfl) ((List.set_set ..).symm) (by decide) (by decide)
              · refine jr_aload_n d_Mo_method_70 rfl ?_
                refine jr_iload_n d_Mo_method_71 rfl ?_
                refine jr_iconst ((nI (4))) d_Mo_method_72 (by decide) ?_
                refine jr_callV (As := [.int (sl), .int (nI 4)]) d_Mo_method_73 k_Mo_method_114 (jl_ss hO) rfl rfl rfl (Nat.le_of_ble_eq_true rfl) (by decide) (by decide) (mo_out hl (jl_ss hO) (MoW.sx hw (Or.inl (by decide)))) ?_
                show jl_W l G m_Mo_method (0, 0) 76 [some (.ref 22), some (.int (k)), some (.int (sl)), some (.int (p)), some (.int (q)), some (.int (r)), some (.int (nI 1)), none, none, none] [.int (bi (outB (sl) (nI 4)))] (σ.set (22) (.inr (7, [.int (nI 0), .ref 23, .ref 24, .ref 25, .ref 26, .ref 27, .ref 28, .ref 29, .ref 30, .ref 31, .ref 32, .ref 33, .ref 34, .ref 35, .ref 36, .ref 37, .int (vf), .int (wh), .int (wy), .ref 38, .ref 39, .ref 40, .ref 41, .int (hg), .ref 42, .ref 43, .ref 44, .ref 45, .ref 46, .ref 47, .ref 48, .ref 49, .int (dp), .ref 50, .ref 51, .ref 52, .int (md), .int (ov), .int (oh), .int (dn), .int (an)]))) (.inl (some (.int (nI 0)))) (σ.set 22 (.inr (7, MoF (nI 1) vf wh wy hg dp md ov oh dn an)))
                refine jr_if_ne 84 d_Mo_method_76 (by decide) (fun c51 => ?_) (fun c51 => ?_)
                · refine jr_aload_n d_Mo_method_84 rfl ?_
                  refine jr_iconst ((nI (1))) d_Mo_method_85 (by decide) ?_
                  refine jr_callV (As := [.int (nI 1)]) d_Mo_method_86 k_Mo_method_118 (jl_ss hO) rfl rfl rfl (Nat.le_of_ble_eq_true rfl) (by decide) (by decide) (mo_fail hl (jl_ss hO) (MoW.sx hw (Or.inl (by decide)))) ?_
                  show jl_W l G m_Mo_method (0, 0) 89 [some (.ref 22), some (.int (k)), some (.int (sl)), some (.int (p)), some (.int (q)), some (.int (r)), some (.int (nI 1)), none, none, none] [.int (nI 0)] ((σ.set (22) (.inr (7, [.int (nI 0), .ref 23, .ref 24, .ref 25, .ref 26, .ref 27, .ref 28, .ref 29, .ref 30, .ref 31, .ref 32, .ref 33, .ref 34, .ref 35, .ref 36, .ref 37, .int (vf), .int (wh), .int (wy), .ref 38, .ref 39, .ref 40, .ref 41, .int (hg), .ref 42, .ref 43, .ref 44, .ref 45, .ref 46, .ref 47, .ref 48, .ref 49, .int (dp), .ref 50, .ref 51, .ref 52, .int (md), .int (ov), .int (oh), .int (dn), .int (an)]))).set (22) (.inr (7, [.int (nI 1), .ref 23, .ref 24, .ref 25, .ref 26, .ref 27, .ref 28, .ref 29, .ref 30, .ref 31, .ref 32, .ref 33, .ref 34, .ref 35, .ref 36, .ref 37, .int (vf), .int (wh), .int (wy), .ref 38, .ref 39, .ref 40, .ref 41, .int (hg), .ref 42, .ref 43, .ref 44, .ref 45, .ref 46, .ref 47, .ref 48, .ref 49, .int (dp), .ref 50, .ref 51, .ref 52, .int (md), .int (ov), .int (oh), .int (dn), .int (an)]))) (.inl (some (.int (nI 0)))) (σ.set 22 (.inr (7, MoF (nI 1) vf wh wy hg dp md ov oh dn an)))
                  exact jr_iretE d_Mo_method_89 rfl (rfl) ((List.set_set ..).symm) (by decide) (by decide)
                · refine jr_iload d_Mo_method_79 rfl ?_
                  refine jr_if_eq 90 d_Mo_method_81 (by decide) (fun z => absurd z (by decide)) (fun _ => ?_)
                  refine jr_aload_n d_Mo_method_84 rfl ?_
                  refine jr_iconst ((nI (1))) d_Mo_method_85 (by decide) ?_
                  refine jr_callV (As := [.int (nI 1)]) d_Mo_method_86 k_Mo_method_118 (jl_ss hO) rfl rfl rfl (Nat.le_of_ble_eq_true rfl) (by decide) (by decide) (mo_fail hl (jl_ss hO) (MoW.sx hw (Or.inl (by decide)))) ?_
                  show jl_W l G m_Mo_method (0, 0) 89 [some (.ref 22), some (.int (k)), some (.int (sl)), some (.int (p)), some (.int (q)), some (.int (r)), some (.int (nI 1)), none, none, none] [.int (nI 0)] ((σ.set (22) (.inr (7, [.int (nI 0), .ref 23, .ref 24, .ref 25, .ref 26, .ref 27, .ref 28, .ref 29, .ref 30, .ref 31, .ref 32, .ref 33, .ref 34, .ref 35, .ref 36, .ref 37, .int (vf), .int (wh), .int (wy), .ref 38, .ref 39, .ref 40, .ref 41, .int (hg), .ref 42, .ref 43, .ref 44, .ref 45, .ref 46, .ref 47, .ref 48, .ref 49, .int (dp), .ref 50, .ref 51, .ref 52, .int (md), .int (ov), .int (oh), .int (dn), .int (an)]))).set (22) (.inr (7, [.int (nI 1), .ref 23, .ref 24, .ref 25, .ref 26, .ref 27, .ref 28, .ref 29, .ref 30, .ref 31, .ref 32, .ref 33, .ref 34, .ref 35, .ref 36, .ref 37, .int (vf), .int (wh), .int (wy), .ref 38, .ref 39, .ref 40, .ref 41, .int (hg), .ref 42, .ref 43, .ref 44, .ref 45, .ref 46, .ref 47, .ref 48, .ref 49, .int (dp), .ref 50, .ref 51, .ref 52, .int (md), .int (ov), .int (oh), .int (dn), .int (an)]))) (.inl (some (.int (nI 0)))) (σ.set 22 (.inr (7, MoF (nI 1) vf wh wy hg dp md ov oh dn an)))
                  exact jr_iretE d_Mo_method_89 rfl (rfl) ((List.set_set ..).symm) (by decide) (by decide)
      · refine jr_aload_n d_Mo_method_24 rfl ?_
        refine jr_iload d_Mo_method_25 rfl ?_
        refine jr_callV (As := [.int (q)]) d_Mo_method_27 k_Mo_method_129 (jl_ss hO) rfl rfl rfl (Nat.le_of_ble_eq_true rfl) (by decide) (by decide) (mo_isTyp hl (jl_ss hO) (MoW.sx hw (Or.inl (by decide)))) ?_
        show jl_W l G m_Mo_method (0, 0) 30 [some (.ref 22), some (.int (k)), some (.int (sl)), some (.int (p)), some (.int (q)), some (.int (r)), none, none, none, none] [.int (bi (isTyp (q)))] (σ.set (22) (.inr (7, [.int (nI 0), .ref 23, .ref 24, .ref 25, .ref 26, .ref 27, .ref 28, .ref 29, .ref 30, .ref 31, .ref 32, .ref 33, .ref 34, .ref 35, .ref 36, .ref 37, .int (vf), .int (wh), .int (wy), .ref 38, .ref 39, .ref 40, .ref 41, .int (hg), .ref 42, .ref 43, .ref 44, .ref 45, .ref 46, .ref 47, .ref 48, .ref 49, .int (dp), .ref 50, .ref 51, .ref 52, .int (md), .int (ov), .int (oh), .int (dn), .int (an)]))) (.inl (some (.int (nI 0)))) (σ.set 22 (.inr (7, MoF (nI 1) vf wh wy hg dp md ov oh dn an)))
        refine jr_if_eq 53 d_Mo_method_30 (by decide) (fun c52 => ?_) (fun c52 => ?_)
        · refine jr_iconst ((nI (1))) d_Mo_method_53 (by decide) ?_
          refine jr_goto 58 d_Mo_method_54 (by decide) ?_
          refine jr_istore d_Mo_method_58 (by decide) ?_
          show jl_W l G m_Mo_method (0, 0) 60 [some (.ref 22), some (.int (k)), some (.int (sl)), some (.int (p)), some (.int (q)), some (.int (r)), some (.int (nI 1)), none, none, none] [] (σ.set (22) (.inr (7, [.int (nI 0), .ref 23, .ref 24, .ref 25, .ref 26, .ref 27, .ref 28, .ref 29, .ref 30, .ref 31, .ref 32, .ref 33, .ref 34, .ref 35, .ref 36, .ref 37, .int (vf), .int (wh), .int (wy), .ref 38, .ref 39, .ref 40, .ref 41, .int (hg), .ref 42, .ref 43, .ref 44, .ref 45, .ref 46, .ref 47, .ref 48, .ref 49, .int (dp), .ref 50, .ref 51, .ref 52, .int (md), .int (ov), .int (oh), .int (dn), .int (an)]))) (.inl (some (.int (nI 0)))) (σ.set 22 (.inr (7, MoF (nI 1) vf wh wy hg dp md ov oh dn an)))
          refine jr_aload_n d_Mo_method_60 rfl ?_
          refine jr_iload_n d_Mo_method_61 rfl ?_
          refine jr_bipush ((nI (6))) d_Mo_method_62 (by decide) ?_
          refine jr_callV (As := [.int (k), .int (nI 6)]) d_Mo_method_64 k_Mo_method_114 (jl_ss hO) rfl rfl rfl (Nat.le_of_ble_eq_true rfl) (by decide) (by decide) (mo_out hl (jl_ss hO) (MoW.sx hw (Or.inl (by decide)))) ?_
          show jl_W l G m_Mo_method (0, 0) 67 [some (.ref 22), some (.int (k)), some (.int (sl)), some (.int (p)), some (.int (q)), some (.int (r)), some (.int (nI 1)), none, none, none] [.int (bi (outB (k) (nI 6)))] (σ.set (22) (.inr (7, [.int (nI 0), .ref 23, .ref 24, .ref 25, .ref 26, .ref 27, .ref 28, .ref 29, .ref 30, .ref 31, .ref 32, .ref 33, .ref 34, .ref 35, .ref 36, .ref 37, .int (vf), .int (wh), .int (wy), .ref 38, .ref 39, .ref 40, .ref 41, .int (hg), .ref 42, .ref 43, .ref 44, .ref 45, .ref 46, .ref 47, .ref 48, .ref 49, .int (dp), .ref 50, .ref 51, .ref 52, .int (md), .int (ov), .int (oh), .int (dn), .int (an)]))) (.inl (some (.int (nI 0)))) (σ.set 22 (.inr (7, MoF (nI 1) vf wh wy hg dp md ov oh dn an)))
          refine jr_if_ne 84 d_Mo_method_67 (by decide) (fun c53 => ?_) (fun c53 => ?_)
          · refine jr_aload_n d_Mo_method_84 rfl ?_
            refine jr_iconst ((nI (1))) d_Mo_method_85 (by decide) ?_
            refine jr_callV (As := [.int (nI 1)]) d_Mo_method_86 k_Mo_method_118 (jl_ss hO) rfl rfl rfl (Nat.le_of_ble_eq_true rfl) (by decide) (by decide) (mo_fail hl (jl_ss hO) (MoW.sx hw (Or.inl (by decide)))) ?_
            show jl_W l G m_Mo_method (0, 0) 89 [some (.ref 22), some (.int (k)), some (.int (sl)), some (.int (p)), some (.int (q)), some (.int (r)), some (.int (nI 1)), none, none, none] [.int (nI 0)] ((σ.set (22) (.inr (7, [.int (nI 0), .ref 23, .ref 24, .ref 25, .ref 26, .ref 27, .ref 28, .ref 29, .ref 30, .ref 31, .ref 32, .ref 33, .ref 34, .ref 35, .ref 36, .ref 37, .int (vf), .int (wh), .int (wy), .ref 38, .ref 39, .ref 40, .ref 41, .int (hg), .ref 42, .ref 43, .ref 44, .ref 45, .ref 46, .ref 47, .ref 48, .ref 49, .int (dp), .ref 50, .ref 51, .ref 52, .int (md), .int (ov), .int (oh), .int (dn), .int (an)]))).set (22) (.inr (7, [.int (nI 1), .ref 23, .ref 24, .ref 25, .ref 26, .ref 27, .ref 28, .ref 29, .ref 30, .ref 31, .ref 32, .ref 33, .ref 34, .ref 35, .ref 36, .ref 37, .int (vf), .int (wh), .int (wy), .ref 38, .ref 39, .ref 40, .ref 41, .int (hg), .ref 42, .ref 43, .ref 44, .ref 45, .ref 46, .ref 47, .ref 48, .ref 49, .int (dp), .ref 50, .ref 51, .ref 52, .int (md), .int (ov), .int (oh), .int (dn), .int (an)]))) (.inl (some (.int (nI 0)))) (σ.set 22 (.inr (7, MoF (nI 1) vf wh wy hg dp md ov oh dn an)))
            exact jr_iretE d_Mo_method_89 rfl (rfl) ((List.set_set ..).symm) (by decide) (by decide)
          · refine jr_aload_n d_Mo_method_70 rfl ?_
            refine jr_iload_n d_Mo_method_71 rfl ?_
            refine jr_iconst ((nI (4))) d_Mo_method_72 (by decide) ?_
            refine jr_callV (As := [.int (sl), .int (nI 4)]) d_Mo_method_73 k_Mo_method_114 (jl_ss hO) rfl rfl rfl (Nat.le_of_ble_eq_true rfl) (by decide) (by decide) (mo_out hl (jl_ss hO) (MoW.sx hw (Or.inl (by decide)))) ?_
            show jl_W l G m_Mo_method (0, 0) 76 [some (.ref 22), some (.int (k)), some (.int (sl)), some (.int (p)), some (.int (q)), some (.int (r)), some (.int (nI 1)), none, none, none] [.int (bi (outB (sl) (nI 4)))] (σ.set (22) (.inr (7, [.int (nI 0), .ref 23, .ref 24, .ref 25, .ref 26, .ref 27, .ref 28, .ref 29, .ref 30, .ref 31, .ref 32, .ref 33, .ref 34, .ref 35, .ref 36, .ref 37, .int (vf), .int (wh), .int (wy), .ref 38, .ref 39, .ref 40, .ref 41, .int (hg), .ref 42, .ref 43, .ref 44, .ref 45, .ref 46, .ref 47, .ref 48, .ref 49, .int (dp), .ref 50, .ref 51, .ref 52, .int (md), .int (ov), .int (oh), .int (dn), .int (an)]))) (.inl (some (.int (nI 0)))) (σ.set 22 (.inr (7, MoF (nI 1) vf wh wy hg dp md ov oh dn an)))
            refine jr_if_ne 84 d_Mo_method_76 (by decide) (fun c54 => ?_) (fun c54 => ?_)
            · refine jr_aload_n d_Mo_method_84 rfl ?_
              refine jr_iconst ((nI (1))) d_Mo_method_85 (by decide) ?_
              refine jr_callV (As := [.int (nI 1)]) d_Mo_method_86 k_Mo_method_118 (jl_ss hO) rfl rfl rfl (Nat.le_of_ble_eq_true rfl) (by decide) (by decide) (mo_fail hl (jl_ss hO) (MoW.sx hw (Or.inl (by decide)))) ?_
              show jl_W l G m_Mo_method (0, 0) 89 [some (.ref 22), some (.int (k)), some (.int (sl)), some (.int (p)), some (.int (q)), some (.int (r)), some (.int (nI 1)), none, none, none] [.int (nI 0)] ((σ.set (22) (.inr (7, [.int (nI 0), .ref 23, .ref 24, .ref 25, .ref 26, .ref 27, .ref 28, .ref 29, .ref 30, .ref 31, .ref 32, .ref 33, .ref 34, .ref 35, .ref 36, .ref 37, .int (vf), .int (wh), .int (wy), .ref 38, .ref 39, .ref 40, .ref 41, .int (hg), .ref 42, .ref 43, .ref 44, .ref 45, .ref 46, .ref 47, .ref 48, .ref 49, .int (dp), .ref 50, .ref 51, .ref 52, .int (md), .int (ov), .int (oh), .int (dn), .int (an)]))).set (22) (.inr (7, [.int (nI 1), .ref 23, .ref 24, .ref 25, .ref 26, .ref 27, .ref 28, .ref 29, .ref 30, .ref 31, .ref 32, .ref 33, .ref 34, .ref 35, .ref 36, .ref 37, .int (vf), .int (wh), .int (wy), .ref 38, .ref 39, .ref 40, .ref 41, .int (hg), .ref 42, .ref 43, .ref 44, .ref 45, .ref 46, .ref 47, .ref 48, .ref 49, .int (dp), .ref 50, .ref 51, .ref 52, .int (md), .int (ov), .int (oh), .int (dn), .int (an)]))) (.inl (some (.int (nI 0)))) (σ.set 22 (.inr (7, MoF (nI 1) vf wh wy hg dp md ov oh dn an)))
              exact jr_iretE d_Mo_method_89 rfl (rfl) ((List.set_set ..).symm) (by decide) (by decide)
            · refine jr_iload d_Mo_method_79 rfl ?_
              refine jr_if_eq 90 d_Mo_method_81 (by decide) (fun z => absurd z (by decide)) (fun _ => ?_)
              refine jr_aload_n d_Mo_method_84 rfl ?_
              refine jr_iconst ((nI (1))) d_Mo_method_85 (by decide) ?_
              refine jr_callV (As := [.int (nI 1)]) d_Mo_method_86 k_Mo_method_118 (jl_ss hO) rfl rfl rfl (Nat.le_of_ble_eq_true rfl) (by decide) (by decide) (mo_fail hl (jl_ss hO) (MoW.sx hw (Or.inl (by decide)))) ?_
              show jl_W l G m_Mo_method (0, 0) 89 [some (.ref 22), some (.int (k)), some (.int (sl)), some (.int (p)), some (.int (q)), some (.int (r)), some (.int (nI 1)), none, none, none] [.int (nI 0)] ((σ.set (22) (.inr (7, [.int (nI 0), .ref 23, .ref 24, .ref 25, .ref 26, .ref 27, .ref 28, .ref 29, .ref 30, .ref 31, .ref 32, .ref 33, .ref 34, .ref 35, .ref 36, .ref 37, .int (vf), .int (wh), .int (wy), .ref 38, .ref 39, .ref 40, .ref 41, .int (hg), .ref 42, .ref 43, .ref 44, .ref 45, .ref 46, .ref 47, .ref 48, .ref 49, .int (dp), .ref 50, .ref 51, .ref 52, .int (md), .int (ov), .int (oh), .int (dn), .int (an)]))).set (22) (.inr (7, [.int (nI 1), .ref 23, .ref 24, .ref 25, .ref 26, .ref 27, .ref 28, .ref 29, .ref 30, .ref 31, .ref 32, .ref 33, .ref 34, .ref 35, .ref 36, .ref 37, .int (vf), .int (wh), .int (wy), .ref 38, .ref 39, .ref 40, .ref 41, .int (hg), .ref 42, .ref 43, .ref 44, .ref 45, .ref 46, .ref 47, .ref 48, .ref 49, .int (dp), .ref 50, .ref 51, .ref 52, .int (md), .int (ov), .int (oh), .int (dn), .int (an)]))) (.inl (some (.int (nI 0)))) (σ.set 22 (.inr (7, MoF (nI 1) vf wh wy hg dp md ov oh dn an)))
              exact jr_iretE d_Mo_method_89 rfl (rfl) ((List.set_set ..).symm) (by decide) (by decide)
        · refine jr_iload_n d_Mo_method_33 rfl ?_
          refine jr_iconst ((-1)) d_Mo_method_34 (by decide) ?_
          refine jr_icmp_ne 44 d_Mo_method_35 (by decide) (fun c55 => ?_) (fun c55 => ?_)
          · refine jr_aload_n d_Mo_method_44 rfl ?_
            refine jr_iload d_Mo_method_45 rfl ?_
            refine jr_callV (As := [.int (r)]) d_Mo_method_47 k_Mo_method_129 (jl_ss hO) rfl rfl rfl (Nat.le_of_ble_eq_true rfl) (by decide) (by decide) (mo_isTyp hl (jl_ss hO) (MoW.sx hw (Or.inl (by decide)))) ?_
            show jl_W l G m_Mo_method (0, 0) 50 [some (.ref 22), some (.int (k)), some (.int (sl)), some (.int (p)), some (.int (q)), some (.int (r)), none, none, none, none] [.int (bi (isTyp (r)))] (σ.set (22) (.inr (7, [.int (nI 0), .ref 23, .ref 24, .ref 25, .ref 26, .ref 27, .ref 28, .ref 29, .ref 30, .ref 31, .ref 32, .ref 33, .ref 34, .ref 35, .ref 36, .ref 37, .int (vf), .int (wh), .int (wy), .ref 38, .ref 39, .ref 40, .ref 41, .int (hg), .ref 42, .ref 43, .ref 44, .ref 45, .ref 46, .ref 47, .ref 48, .ref 49, .int (dp), .ref 50, .ref 51, .ref 52, .int (md), .int (ov), .int (oh), .int (dn), .int (an)]))) (.inl (some (.int (nI 0)))) (σ.set 22 (.inr (7, MoF (nI 1) vf wh wy hg dp md ov oh dn an)))
            refine jr_if_ne 57 d_Mo_method_50 (by decide) (fun c56 => ?_) (fun c56 => ?_)
            · refine jr_iconst ((nI (0))) d_Mo_method_57 (by decide) ?_
              refine jr_istore d_Mo_method_58 (by decide) ?_
              show jl_W l G m_Mo_method (0, 0) 60 [some (.ref 22), some (.int (k)), some (.int (sl)), some (.int (p)), some (.int (q)), some (.int (r)), some (.int (nI 0)), none, none, none] [] (σ.set (22) (.inr (7, [.int (nI 0), .ref 23, .ref 24, .ref 25, .ref 26, .ref 27, .ref 28, .ref 29, .ref 30, .ref 31, .ref 32, .ref 33, .ref 34, .ref 35, .ref 36, .ref 37, .int (vf), .int (wh), .int (wy), .ref 38, .ref 39, .ref 40, .ref 41, .int (hg), .ref 42, .ref 43, .ref 44, .ref 45, .ref 46, .ref 47, .ref 48, .ref 49, .int (dp), .ref 50, .ref 51, .ref 52, .int (md), .int (ov), .int (oh), .int (dn), .int (an)]))) (.inl (some (.int (nI 0)))) (σ.set 22 (.inr (7, MoF (nI 1) vf wh wy hg dp md ov oh dn an)))
              refine jr_aload_n d_Mo_method_60 rfl ?_
              refine jr_iload_n d_Mo_method_61 rfl ?_
              refine jr_bipush ((nI (6))) d_Mo_method_62 (by decide) ?_
              refine jr_callV (As := [.int (k), .int (nI 6)]) d_Mo_method_64 k_Mo_method_114 (jl_ss hO) rfl rfl rfl (Nat.le_of_ble_eq_true rfl) (by decide) (by decide) (mo_out hl (jl_ss hO) (MoW.sx hw (Or.inl (by decide)))) ?_
              show jl_W l G m_Mo_method (0, 0) 67 [some (.ref 22), some (.int (k)), some (.int (sl)), some (.int (p)), some (.int (q)), some (.int (r)), some (.int (nI 0)), none, none, none] [.int (bi (outB (k) (nI 6)))] (σ.set (22) (.inr (7, [.int (nI 0), .ref 23, .ref 24, .ref 25, .ref 26, .ref 27, .ref 28, .ref 29, .ref 30, .ref 31, .ref 32, .ref 33, .ref 34, .ref 35, .ref 36, .ref 37, .int (vf), .int (wh), .int (wy), .ref 38, .ref 39, .ref 40, .ref 41, .int (hg), .ref 42, .ref 43, .ref 44, .ref 45, .ref 46, .ref 47, .ref 48, .ref 49, .int (dp), .ref 50, .ref 51, .ref 52, .int (md), .int (ov), .int (oh), .int (dn), .int (an)]))) (.inl (some (.int (nI 0)))) (σ.set 22 (.inr (7, MoF (nI 1) vf wh wy hg dp md ov oh dn an)))
              refine jr_if_ne 84 d_Mo_method_67 (by decide) (fun c57 => ?_) (fun c57 => ?_)
              · refine jr_aload_n d_Mo_method_84 rfl ?_
                refine jr_iconst ((nI (1))) d_Mo_method_85 (by decide) ?_
                refine jr_callV (As := [.int (nI 1)]) d_Mo_method_86 k_Mo_method_118 (jl_ss hO) rfl rfl rfl (Nat.le_of_ble_eq_true rfl) (by decide) (by decide) (mo_fail hl (jl_ss hO) (MoW.sx hw (Or.inl (by decide)))) ?_
                show jl_W l G m_Mo_method (0, 0) 89 [some (.ref 22), some (.int (k)), some (.int (sl)), some (.int (p)), some (.int (q)), some (.int (r)), some (.int (nI 0)), none, none, none] [.int (nI 0)] ((σ.set (22) (.inr (7, [.int (nI 0), .ref 23, .ref 24, .ref 25, .ref 26, .ref 27, .ref 28, .ref 29, .ref 30, .ref 31, .ref 32, .ref 33, .ref 34, .ref 35, .ref 36, .ref 37, .int (vf), .int (wh), .int (wy), .ref 38, .ref 39, .ref 40, .ref 41, .int (hg), .ref 42, .ref 43, .ref 44, .ref 45, .ref 46, .ref 47, .ref 48, .ref 49, .int (dp), .ref 50, .ref 51, .ref 52, .int (md), .int (ov), .int (oh), .int (dn), .int (an)]))).set (22) (.inr (7, [.int (nI 1), .ref 23, .ref 24, .ref 25, .ref 26, .ref 27, .ref 28, .ref 29, .ref 30, .ref 31, .ref 32, .ref 33, .ref 34, .ref 35, .ref 36, .ref 37, .int (vf), .int (wh), .int (wy), .ref 38, .ref 39, .ref 40, .ref 41, .int (hg), .ref 42, .ref 43, .ref 44, .ref 45, .ref 46, .ref 47, .ref 48, .ref 49, .int (dp), .ref 50, .ref 51, .ref 52, .int (md), .int (ov), .int (oh), .int (dn), .int (an)]))) (.inl (some (.int (nI 0)))) (σ.set 22 (.inr (7, MoF (nI 1) vf wh wy hg dp md ov oh dn an)))
                exact jr_iretE d_Mo_method_89 rfl (rfl) ((List.set_set ..).symm) (by decide) (by decide)
              · refine jr_aload_n d_Mo_method_70 rfl ?_
                refine jr_iload_n d_Mo_method_71 rfl ?_
                refine jr_iconst ((nI (4))) d_Mo_method_72 (by decide) ?_
                refine jr_callV (As := [.int (sl), .int (nI 4)]) d_Mo_method_73 k_Mo_method_114 (jl_ss hO) rfl rfl rfl (Nat.le_of_ble_eq_true rfl) (by decide) (by decide) (mo_out hl (jl_ss hO) (MoW.sx hw (Or.inl (by decide)))) ?_
                show jl_W l G m_Mo_method (0, 0) 76 [some (.ref 22), some (.int (k)), some (.int (sl)), some (.int (p)), some (.int (q)), some (.int (r)), some (.int (nI 0)), none, none, none] [.int (bi (outB (sl) (nI 4)))] (σ.set (22) (.inr (7, [.int (nI 0), .ref 23, .ref 24, .ref 25, .ref 26, .ref 27, .ref 28, .ref 29, .ref 30, .ref 31, .ref 32, .ref 33, .ref 34, .ref 35, .ref 36, .ref 37, .int (vf), .int (wh), .int (wy), .ref 38, .ref 39, .ref 40, .ref 41, .int (hg), .ref 42, .ref 43, .ref 44, .ref 45, .ref 46, .ref 47, .ref 48, .ref 49, .int (dp), .ref 50, .ref 51, .ref 52, .int (md), .int (ov), .int (oh), .int (dn), .int (an)]))) (.inl (some (.int (nI 0)))) (σ.set 22 (.inr (7, MoF (nI 1) vf wh wy hg dp md ov oh dn an)))
                refine jr_if_ne 84 d_Mo_method_76 (by decide) (fun c58 => ?_) (fun c58 => ?_)
                · refine jr_aload_n d_Mo_method_84 rfl ?_
                  refine jr_iconst ((nI (1))) d_Mo_method_85 (by decide) ?_
                  refine jr_callV (As := [.int (nI 1)]) d_Mo_method_86 k_Mo_method_118 (jl_ss hO) rfl rfl rfl (Nat.le_of_ble_eq_true rfl) (by decide) (by decide) (mo_fail hl (jl_ss hO) (MoW.sx hw (Or.inl (by decide)))) ?_
                  show jl_W l G m_Mo_method (0, 0) 89 [some (.ref 22), some (.int (k)), some (.int (sl)), some (.int (p)), some (.int (q)), some (.int (r)), some (.int (nI 0)), none, none, none] [.int (nI 0)] ((σ.set (22) (.inr (7, [.int (nI 0), .ref 23, .ref 24, .ref 25, .ref 26, .ref 27, .ref 28, .ref 29, .ref 30, .ref 31, .ref 32, .ref 33, .ref 34, .ref 35, .ref 36, .ref 37, .int (vf), .int (wh), .int (wy), .ref 38, .ref 39, .ref 40, .ref 41, .int (hg), .ref 42, .ref 43, .ref 44, .ref 45, .ref 46, .ref 47, .ref 48, .ref 49, .int (dp), .ref 50, .ref 51, .ref 52, .int (md), .int (ov), .int (oh), .int (dn), .int (an)]))).set (22) (.inr (7, [.int (nI 1), .ref 23, .ref 24, .ref 25, .ref 26, .ref 27, .ref 28, .ref 29, .ref 30, .ref 31, .ref 32, .ref 33, .ref 34, .ref 35, .ref 36, .ref 37, .int (vf), .int (wh), .int (wy), .ref 38, .ref 39, .ref 40, .ref 41, .int (hg), .ref 42, .ref 43, .ref 44, .ref 45, .ref 46, .ref 47, .ref 48, .ref 49, .int (dp), .ref 50, .ref 51, .ref 52, .int (md), .int (ov), .int (oh), .int (dn), .int (an)]))) (.inl (some (.int (nI 0)))) (σ.set 22 (.inr (7, MoF (nI 1) vf wh wy hg dp md ov oh dn an)))
                  exact jr_iretE d_Mo_method_89 rfl (rfl) ((List.set_set ..).symm) (by decide) (by decide)
                · refine jr_iload d_Mo_method_79 rfl ?_
                  refine jr_if_eq 90 d_Mo_method_81 (by decide) (fun _ => ?_) (fun z => absurd (by decide) z)
                  exfalso; simp_all [prOk, bi_0]
            · refine jr_iconst ((nI (1))) d_Mo_method_53 (by decide) ?_
              refine jr_goto 58 d_Mo_method_54 (by decide) ?_
              refine jr_istore d_Mo_method_58 (by decide) ?_
              show jl_W l G m_Mo_method (0, 0) 60 [some (.ref 22), some (.int (k)), some (.int (sl)), some (.int (p)), some (.int (q)), some (.int (r)), some (.int (nI 1)), none, none, none] [] (σ.set (22) (.inr (7, [.int (nI 0), .ref 23, .ref 24, .ref 25, .ref 26, .ref 27, .ref 28, .ref 29, .ref 30, .ref 31, .ref 32, .ref 33, .ref 34, .ref 35, .ref 36, .ref 37, .int (vf), .int (wh), .int (wy), .ref 38, .ref 39, .ref 40, .ref 41, .int (hg), .ref 42, .ref 43, .ref 44, .ref 45, .ref 46, .ref 47, .ref 48, .ref 49, .int (dp), .ref 50, .ref 51, .ref 52, .int (md), .int (ov), .int (oh), .int (dn), .int (an)]))) (.inl (some (.int (nI 0)))) (σ.set 22 (.inr (7, MoF (nI 1) vf wh wy hg dp md ov oh dn an)))
              refine jr_aload_n d_Mo_method_60 rfl ?_
              refine jr_iload_n d_Mo_method_61 rfl ?_
              refine jr_bipush ((nI (6))) d_Mo_method_62 (by decide) ?_
              refine jr_callV (As := [.int (k), .int (nI 6)]) d_Mo_method_64 k_Mo_method_114 (jl_ss hO) rfl rfl rfl (Nat.le_of_ble_eq_true rfl) (by decide) (by decide) (mo_out hl (jl_ss hO) (MoW.sx hw (Or.inl (by decide)))) ?_
              show jl_W l G m_Mo_method (0, 0) 67 [some (.ref 22), some (.int (k)), some (.int (sl)), some (.int (p)), some (.int (q)), some (.int (r)), some (.int (nI 1)), none, none, none] [.int (bi (outB (k) (nI 6)))] (σ.set (22) (.inr (7, [.int (nI 0), .ref 23, .ref 24, .ref 25, .ref 26, .ref 27, .ref 28, .ref 29, .ref 30, .ref 31, .ref 32, .ref 33, .ref 34, .ref 35, .ref 36, .ref 37, .int (vf), .int (wh), .int (wy), .ref 38, .ref 39, .ref 40, .ref 41, .int (hg), .ref 42, .ref 43, .ref 44, .ref 45, .ref 46, .ref 47, .ref 48, .ref 49, .int (dp), .ref 50, .ref 51, .ref 52, .int (md), .int (ov), .int (oh), .int (dn), .int (an)]))) (.inl (some (.int (nI 0)))) (σ.set 22 (.inr (7, MoF (nI 1) vf wh wy hg dp md ov oh dn an)))
              refine jr_if_ne 84 d_Mo_method_67 (by decide) (fun c59 => ?_) (fun c59 => ?_)
              · refine jr_aload_n d_Mo_method_84 rfl ?_
                refine jr_iconst ((nI (1))) d_Mo_method_85 (by decide) ?_
                refine jr_callV (As := [.int (nI 1)]) d_Mo_method_86 k_Mo_method_118 (jl_ss hO) rfl rfl rfl (Nat.le_of_ble_eq_true rfl) (by decide) (by decide) (mo_fail hl (jl_ss hO) (MoW.sx hw (Or.inl (by decide)))) ?_
                show jl_W l G m_Mo_method (0, 0) 89 [some (.ref 22), some (.int (k)), some (.int (sl)), some (.int (p)), some (.int (q)), some (.int (r)), some (.int (nI 1)), none, none, none] [.int (nI 0)] ((σ.set (22) (.inr (7, [.int (nI 0), .ref 23, .ref 24, .ref 25, .ref 26, .ref 27, .ref 28, .ref 29, .ref 30, .ref 31, .ref 32, .ref 33, .ref 34, .ref 35, .ref 36, .ref 37, .int (vf), .int (wh), .int (wy), .ref 38, .ref 39, .ref 40, .ref 41, .int (hg), .ref 42, .ref 43, .ref 44, .ref 45, .ref 46, .ref 47, .ref 48, .ref 49, .int (dp), .ref 50, .ref 51, .ref 52, .int (md), .int (ov), .int (oh), .int (dn), .int (an)]))).set (22) (.inr (7, [.int (nI 1), .ref 23, .ref 24, .ref 25, .ref 26, .ref 27, .ref 28, .ref 29, .ref 30, .ref 31, .ref 32, .ref 33, .ref 34, .ref 35, .ref 36, .ref 37, .int (vf), .int (wh), .int (wy), .ref 38, .ref 39, .ref 40, .ref 41, .int (hg), .ref 42, .ref 43, .ref 44, .ref 45, .ref 46, .ref 47, .ref 48, .ref 49, .int (dp), .ref 50, .ref 51, .ref 52, .int (md), .int (ov), .int (oh), .int (dn), .int (an)]))) (.inl (some (.int (nI 0)))) (σ.set 22 (.inr (7, MoF (nI 1) vf wh wy hg dp md ov oh dn an)))
                exact jr_iretE d_Mo_method_89 rfl (rfl) ((List.set_set ..).symm) (by decide) (by decide)
              · refine jr_aload_n d_Mo_method_70 rfl ?_
                refine jr_iload_n d_Mo_method_71 rfl ?_
                refine jr_iconst ((nI (4))) d_Mo_method_72 (by decide) ?_
                refine jr_callV (As := [.int (sl), .int (nI 4)]) d_Mo_method_73 k_Mo_method_114 (jl_ss hO) rfl rfl rfl (Nat.le_of_ble_eq_true rfl) (by decide) (by decide) (mo_out hl (jl_ss hO) (MoW.sx hw (Or.inl (by decide)))) ?_
                show jl_W l G m_Mo_method (0, 0) 76 [some (.ref 22), some (.int (k)), some (.int (sl)), some (.int (p)), some (.int (q)), some (.int (r)), some (.int (nI 1)), none, none, none] [.int (bi (outB (sl) (nI 4)))] (σ.set (22) (.inr (7, [.int (nI 0), .ref 23, .ref 24, .ref 25, .ref 26, .ref 27, .ref 28, .ref 29, .ref 30, .ref 31, .ref 32, .ref 33, .ref 34, .ref 35, .ref 36, .ref 37, .int (vf), .int (wh), .int (wy), .ref 38, .ref 39, .ref 40, .ref 41, .int (hg), .ref 42, .ref 43, .ref 44, .ref 45, .ref 46, .ref 47, .ref 48, .ref 49, .int (dp), .ref 50, .ref 51, .ref 52, .int (md), .int (ov), .int (oh), .int (dn), .int (an)]))) (.inl (some (.int (nI 0)))) (σ.set 22 (.inr (7, MoF (nI 1) vf wh wy hg dp md ov oh dn an)))
                refine jr_if_ne 84 d_Mo_method_76 (by decide) (fun c60 => ?_) (fun c60 => ?_)
                · refine jr_aload_n d_Mo_method_84 rfl ?_
                  refine jr_iconst ((nI (1))) d_Mo_method_85 (by decide) ?_
                  refine jr_callV (As := [.int (nI 1)]) d_Mo_method_86 k_Mo_method_118 (jl_ss hO) rfl rfl rfl (Nat.le_of_ble_eq_true rfl) (by decide) (by decide) (mo_fail hl (jl_ss hO) (MoW.sx hw (Or.inl (by decide)))) ?_
                  show jl_W l G m_Mo_method (0, 0) 89 [some (.ref 22), some (.int (k)), some (.int (sl)), some (.int (p)), some (.int (q)), some (.int (r)), some (.int (nI 1)), none, none, none] [.int (nI 0)] ((σ.set (22) (.inr (7, [.int (nI 0), .ref 23, .ref 24, .ref 25, .ref 26, .ref 27, .ref 28, .ref 29, .ref 30, .ref 31, .ref 32, .ref 33, .ref 34, .ref 35, .ref 36, .ref 37, .int (vf), .int (wh), .int (wy), .ref 38, .ref 39, .ref 40, .ref 41, .int (hg), .ref 42, .ref 43, .ref 44, .ref 45, .ref 46, .ref 47, .ref 48, .ref 49, .int (dp), .ref 50, .ref 51, .ref 52, .int (md), .int (ov), .int (oh), .int (dn), .int (an)]))).set (22) (.inr (7, [.int (nI 1), .ref 23, .ref 24, .ref 25, .ref 26, .ref 27, .ref 28, .ref 29, .ref 30, .ref 31, .ref 32, .ref 33, .ref 34, .ref 35, .ref 36, .ref 37, .int (vf), .int (wh), .int (wy), .ref 38, .ref 39, .ref 40, .ref 41, .int (hg), .ref 42, .ref 43, .ref 44, .ref 45, .ref 46, .ref 47, .ref 48, .ref 49, .int (dp), .ref 50, .ref 51, .ref 52, .int (md), .int (ov), .int (oh), .int (dn), .int (an)]))) (.inl (some (.int (nI 0)))) (σ.set 22 (.inr (7, MoF (nI 1) vf wh wy hg dp md ov oh dn an)))
                  exact jr_iretE d_Mo_method_89 rfl (rfl) ((List.set_set ..).symm) (by decide) (by decide)
                · refine jr_iload d_Mo_method_79 rfl ?_
                  refine jr_if_eq 90 d_Mo_method_81 (by decide) (fun z => absurd z (by decide)) (fun _ => ?_)
                  refine jr_aload_n d_Mo_method_84 rfl ?_
                  refine jr_iconst ((nI (1))) d_Mo_method_85 (by decide) ?_
                  refine jr_callV (As := [.int (nI 1)]) d_Mo_method_86 k_Mo_method_118 (jl_ss hO) rfl rfl rfl (Nat.le_of_ble_eq_true rfl) (by decide) (by decide) (mo_fail hl (jl_ss hO) (MoW.sx hw (Or.inl (by decide)))) ?_
                  show jl_W l G m_Mo_method (0, 0) 89 [some (.ref 22), some (.int (k)), some (.int (sl)), some (.int (p)), some (.int (q)), some (.int (r)), some (.int (nI 1)), none, none, none] [.int (nI 0)] ((σ.set (22) (.inr (7, [.int (nI 0), .ref 23, .ref 24, .ref 25, .ref 26, .ref 27, .ref 28, .ref 29, .ref 30, .ref 31, .ref 32, .ref 33, .ref 34, .ref 35, .ref 36, .ref 37, .int (vf), .int (wh), .int (wy), .ref 38, .ref 39, .ref 40, .ref 41, .int (hg), .ref 42, .ref 43, .ref 44, .ref 45, .ref 46, .ref 47, .ref 48, .ref 49, .int (dp), .ref 50, .ref 51, .ref 52, .int (md), .int (ov), .int (oh), .int (dn), .int (an)]))).set (22) (.inr (7, [.int (nI 1), .ref 23, .ref 24, .ref 25, .ref 26, .ref 27, .ref 28, .ref 29, .ref 30, .ref 31, .ref 32, .ref 33, .ref 34, .ref 35, .ref 36, .ref 37, .int (vf), .int (wh), .int (wy), .ref 38, .ref 39, .ref 40, .ref 41, .int (hg), .ref 42, .ref 43, .ref 44, .ref 45, .ref 46, .ref 47, .ref 48, .ref 49, .int (dp), .ref 50, .ref 51, .ref 52, .int (md), .int (ov), .int (oh), .int (dn), .int (an)]))) (.inl (some (.int (nI 0)))) (σ.set 22 (.inr (7, MoF (nI 1) vf wh wy hg dp md ov oh dn an)))
                  exact jr_iretE d_Mo_method_89 rfl (rfl) ((List.set_set ..).symm) (by decide) (by decide)
          · refine jr_iload d_Mo_method_38 rfl ?_
            refine jr_iconst ((-1)) d_Mo_method_40 (by decide) ?_
            refine jr_icmp_ne 53 d_Mo_method_41 (by decide) (fun c61 => ?_) (fun c61 => ?_)
            · refine jr_iconst ((nI (1))) d_Mo_method_53 (by decide) ?_
              refine jr_goto 58 d_Mo_method_54 (by decide) ?_
              refine jr_istore d_Mo_method_58 (by decide) ?_
              show jl_W l G m_Mo_method (0, 0) 60 [some (.ref 22), some (.int (k)), some (.int (sl)), some (.int (p)), some (.int (q)), some (.int (r)), some (.int (nI 1)), none, none, none] [] (σ.set (22) (.inr (7, [.int (nI 0), .ref 23, .ref 24, .ref 25, .ref 26, .ref 27, .ref 28, .ref 29, .ref 30, .ref 31, .ref 32, .ref 33, .ref 34, .ref 35, .ref 36, .ref 37, .int (vf), .int (wh), .int (wy), .ref 38, .ref 39, .ref 40, .ref 41, .int (hg), .ref 42, .ref 43, .ref 44, .ref 45, .ref 46, .ref 47, .ref 48, .ref 49, .int (dp), .ref 50, .ref 51, .ref 52, .int (md), .int (ov), .int (oh), .int (dn), .int (an)]))) (.inl (some (.int (nI 0)))) (σ.set 22 (.inr (7, MoF (nI 1) vf wh wy hg dp md ov oh dn an)))
              refine jr_aload_n d_Mo_method_60 rfl ?_
              refine jr_iload_n d_Mo_method_61 rfl ?_
              refine jr_bipush ((nI (6))) d_Mo_method_62 (by decide) ?_
              refine jr_callV (As := [.int (k), .int (nI 6)]) d_Mo_method_64 k_Mo_method_114 (jl_ss hO) rfl rfl rfl (Nat.le_of_ble_eq_true rfl) (by decide) (by decide) (mo_out hl (jl_ss hO) (MoW.sx hw (Or.inl (by decide)))) ?_
              show jl_W l G m_Mo_method (0, 0) 67 [some (.ref 22), some (.int (k)), some (.int (sl)), some (.int (p)), some (.int (q)), some (.int (r)), some (.int (nI 1)), none, none, none] [.int (bi (outB (k) (nI 6)))] (σ.set (22) (.inr (7, [.int (nI 0), .ref 23, .ref 24, .ref 25, .ref 26, .ref 27, .ref 28, .ref 29, .ref 30, .ref 31, .ref 32, .ref 33, .ref 34, .ref 35, .ref 36, .ref 37, .int (vf), .int (wh), .int (wy), .ref 38, .ref 39, .ref 40, .ref 41, .int (hg), .ref 42, .ref 43, .ref 44, .ref 45, .ref 46, .ref 47, .ref 48, .ref 49, .int (dp), .ref 50, .ref 51, .ref 52, .int (md), .int (ov), .int (oh), .int (dn), .int (an)]))) (.inl (some (.int (nI 0)))) (σ.set 22 (.inr (7, MoF (nI 1) vf wh wy hg dp md ov oh dn an)))
              refine jr_if_ne 84 d_Mo_method_67 (by decide) (fun c62 => ?_) (fun c62 => ?_)
              · refine jr_aload_n d_Mo_method_84 rfl ?_
                refine jr_iconst ((nI (1))) d_Mo_method_85 (by decide) ?_
                refine jr_callV (As := [.int (nI 1)]) d_Mo_method_86 k_Mo_method_118 (jl_ss hO) rfl rfl rfl (Nat.le_of_ble_eq_true rfl) (by decide) (by decide) (mo_fail hl (jl_ss hO) (MoW.sx hw (Or.inl (by decide)))) ?_
                show jl_W l G m_Mo_method (0, 0) 89 [some (.ref 22), some (.int (k)), some (.int (sl)), some (.int (p)), some (.int (q)), some (.int (r)), some (.int (nI 1)), none, none, none] [.int (nI 0)] ((σ.set (22) (.inr (7, [.int (nI 0), .ref 23, .ref 24, .ref 25, .ref 26, .ref 27, .ref 28, .ref 29, .ref 30, .ref 31, .ref 32, .ref 33, .ref 34, .ref 35, .ref 36, .ref 37, .int (vf), .int (wh), .int (wy), .ref 38, .ref 39, .ref 40, .ref 41, .int (hg), .ref 42, .ref 43, .ref 44, .ref 45, .ref 46, .ref 47, .ref 48, .ref 49, .int (dp), .ref 50, .ref 51, .ref 52, .int (md), .int (ov), .int (oh), .int (dn), .int (an)]))).set (22) (.inr (7, [.int (nI 1), .ref 23, .ref 24, .ref 25, .ref 26, .ref 27, .ref 28, .ref 29, .ref 30, .ref 31, .ref 32, .ref 33, .ref 34, .ref 35, .ref 36, .ref 37, .int (vf), .int (wh), .int (wy), .ref 38, .ref 39, .ref 40, .ref 41, .int (hg), .ref 42, .ref 43, .ref 44, .ref 45, .ref 46, .ref 47, .ref 48, .ref 49, .int (dp), .ref 50, .ref 51, .ref 52, .int (md), .int (ov), .int (oh), .int (dn), .int (an)]))) (.inl (some (.int (nI 0)))) (σ.set 22 (.inr (7, MoF (nI 1) vf wh wy hg dp md ov oh dn an)))
                exact jr_iretE d_Mo_method_89 rfl (rfl) ((List.set_set ..).symm) (by decide) (by decide)
              · refine jr_aload_n d_Mo_method_70 rfl ?_
                refine jr_iload_n d_Mo_method_71 rfl ?_
                refine jr_iconst ((nI (4))) d_Mo_method_72 (by decide) ?_
                refine jr_callV (As := [.int (sl), .int (nI 4)]) d_Mo_method_73 k_Mo_method_114 (jl_ss hO) rfl rfl rfl (Nat.le_of_ble_eq_true rfl) (by decide) (by decide) (mo_out hl (jl_ss hO) (MoW.sx hw (Or.inl (by decide)))) ?_
                show jl_W l G m_Mo_method (0, 0) 76 [some (.ref 22), some (.int (k)), some (.int (sl)), some (.int (p)), some (.int (q)), some (.int (r)), some (.int (nI 1)), none, none, none] [.int (bi (outB (sl) (nI 4)))] (σ.set (22) (.inr (7, [.int (nI 0), .ref 23, .ref 24, .ref 25, .ref 26, .ref 27, .ref 28, .ref 29, .ref 30, .ref 31, .ref 32, .ref 33, .ref 34, .ref 35, .ref 36, .ref 37, .int (vf), .int (wh), .int (wy), .ref 38, .ref 39, .ref 40, .ref 41, .int (hg), .ref 42, .ref 43, .ref 44, .ref 45, .ref 46, .ref 47, .ref 48, .ref 49, .int (dp), .ref 50, .ref 51, .ref 52, .int (md), .int (ov), .int (oh), .int (dn), .int (an)]))) (.inl (some (.int (nI 0)))) (σ.set 22 (.inr (7, MoF (nI 1) vf wh wy hg dp md ov oh dn an)))
                refine jr_if_ne 84 d_Mo_method_76 (by decide) (fun c63 => ?_) (fun c63 => ?_)
                · refine jr_aload_n d_Mo_method_84 rfl ?_
                  refine jr_iconst ((nI (1))) d_Mo_method_85 (by decide) ?_
                  refine jr_callV (As := [.int (nI 1)]) d_Mo_method_86 k_Mo_method_118 (jl_ss hO) rfl rfl rfl (Nat.le_of_ble_eq_true rfl) (by decide) (by decide) (mo_fail hl (jl_ss hO) (MoW.sx hw (Or.inl (by decide)))) ?_
                  show jl_W l G m_Mo_method (0, 0) 89 [some (.ref 22), some (.int (k)), some (.int (sl)), some (.int (p)), some (.int (q)), some (.int (r)), some (.int (nI 1)), none, none, none] [.int (nI 0)] ((σ.set (22) (.inr (7, [.int (nI 0), .ref 23, .ref 24, .ref 25, .ref 26, .ref 27, .ref 28, .ref 29, .ref 30, .ref 31, .ref 32, .ref 33, .ref 34, .ref 35, .ref 36, .ref 37, .int (vf), .int (wh), .int (wy), .ref 38, .ref 39, .ref 40, .ref 41, .int (hg), .ref 42, .ref 43, .ref 44, .ref 45, .ref 46, .ref 47, .ref 48, .ref 49, .int (dp), .ref 50, .ref 51, .ref 52, .int (md), .int (ov), .int (oh), .int (dn), .int (an)]))).set (22) (.inr (7, [.int (nI 1), .ref 23, .ref 24, .ref 25, .ref 26, .ref 27, .ref 28, .ref 29, .ref 30, .ref 31, .ref 32, .ref 33, .ref 34, .ref 35, .ref 36, .ref 37, .int (vf), .int (wh), .int (wy), .ref 38, .ref 39, .ref 40, .ref 41, .int (hg), .ref 42, .ref 43, .ref 44, .ref 45, .ref 46, .ref 47, .ref 48, .ref 49, .int (dp), .ref 50, .ref 51, .ref 52, .int (md), .int (ov), .int (oh), .int (dn), .int (an)]))) (.inl (some (.int (nI 0)))) (σ.set 22 (.inr (7, MoF (nI 1) vf wh wy hg dp md ov oh dn an)))
                  exact jr_iretE d_Mo_method_89 rfl (rfl) ((List.set_set ..).symm) (by decide) (by decide)
                · refine jr_iload d_Mo_method_79 rfl ?_
                  refine jr_if_eq 90 d_Mo_method_81 (by decide) (fun z => absurd z (by decide)) (fun _ => ?_)
                  refine jr_aload_n d_Mo_method_84 rfl ?_
                  refine jr_iconst ((nI (1))) d_Mo_method_85 (by decide) ?_
                  refine jr_callV (As := [.int (nI 1)]) d_Mo_method_86 k_Mo_method_118 (jl_ss hO) rfl rfl rfl (Nat.le_of_ble_eq_true rfl) (by decide) (by decide) (mo_fail hl (jl_ss hO) (MoW.sx hw (Or.inl (by decide)))) ?_
                  show jl_W l G m_Mo_method (0, 0) 89 [some (.ref 22), some (.int (k)), some (.int (sl)), some (.int (p)), some (.int (q)), some (.int (r)), some (.int (nI 1)), none, none, none] [.int (nI 0)] ((σ.set (22) (.inr (7, [.int (nI 0), .ref 23, .ref 24, .ref 25, .ref 26, .ref 27, .ref 28, .ref 29, .ref 30, .ref 31, .ref 32, .ref 33, .ref 34, .ref 35, .ref 36, .ref 37, .int (vf), .int (wh), .int (wy), .ref 38, .ref 39, .ref 40, .ref 41, .int (hg), .ref 42, .ref 43, .ref 44, .ref 45, .ref 46, .ref 47, .ref 48, .ref 49, .int (dp), .ref 50, .ref 51, .ref 52, .int (md), .int (ov), .int (oh), .int (dn), .int (an)]))).set (22) (.inr (7, [.int (nI 1), .ref 23, .ref 24, .ref 25, .ref 26, .ref 27, .ref 28, .ref 29, .ref 30, .ref 31, .ref 32, .ref 33, .ref 34, .ref 35, .ref 36, .ref 37, .int (vf), .int (wh), .int (wy), .ref 38, .ref 39, .ref 40, .ref 41, .int (hg), .ref 42, .ref 43, .ref 44, .ref 45, .ref 46, .ref 47, .ref 48, .ref 49, .int (dp), .ref 50, .ref 51, .ref 52, .int (md), .int (ov), .int (oh), .int (dn), .int (an)]))) (.inl (some (.int (nI 0)))) (σ.set 22 (.inr (7, MoF (nI 1) vf wh wy hg dp md ov oh dn an)))
                  exact jr_iretE d_Mo_method_89 rfl (rfl) ((List.set_set ..).symm) (by decide) (by decide)
            · refine jr_aload_n d_Mo_method_44 rfl ?_
              refine jr_iload d_Mo_method_45 rfl ?_
              refine jr_callV (As := [.int (r)]) d_Mo_method_47 k_Mo_method_129 (jl_ss hO) rfl rfl rfl (Nat.le_of_ble_eq_true rfl) (by decide) (by decide) (mo_isTyp hl (jl_ss hO) (MoW.sx hw (Or.inl (by decide)))) ?_
              show jl_W l G m_Mo_method (0, 0) 50 [some (.ref 22), some (.int (k)), some (.int (sl)), some (.int (p)), some (.int (q)), some (.int (r)), none, none, none, none] [.int (bi (isTyp (r)))] (σ.set (22) (.inr (7, [.int (nI 0), .ref 23, .ref 24, .ref 25, .ref 26, .ref 27, .ref 28, .ref 29, .ref 30, .ref 31, .ref 32, .ref 33, .ref 34, .ref 35, .ref 36, .ref 37, .int (vf), .int (wh), .int (wy), .ref 38, .ref 39, .ref 40, .ref 41, .int (hg), .ref 42, .ref 43, .ref 44, .ref 45, .ref 46, .ref 47, .ref 48, .ref 49, .int (dp), .ref 50, .ref 51, .ref 52, .int (md), .int (ov), .int (oh), .int (dn), .int (an)]))) (.inl (some (.int (nI 0)))) (σ.set 22 (.inr (7, MoF (nI 1) vf wh wy hg dp md ov oh dn an)))
              refine jr_if_ne 57 d_Mo_method_50 (by decide) (fun c64 => ?_) (fun c64 => ?_)
              · refine jr_iconst ((nI (0))) d_Mo_method_57 (by decide) ?_
                refine jr_istore d_Mo_method_58 (by decide) ?_
                show jl_W l G m_Mo_method (0, 0) 60 [some (.ref 22), some (.int (k)), some (.int (sl)), some (.int (p)), some (.int (q)), some (.int (r)), some (.int (nI 0)), none, none, none] [] (σ.set (22) (.inr (7, [.int (nI 0), .ref 23, .ref 24, .ref 25, .ref 26, .ref 27, .ref 28, .ref 29, .ref 30, .ref 31, .ref 32, .ref 33, .ref 34, .ref 35, .ref 36, .ref 37, .int (vf), .int (wh), .int (wy), .ref 38, .ref 39, .ref 40, .ref 41, .int (hg), .ref 42, .ref 43, .ref 44, .ref 45, .ref 46, .ref 47, .ref 48, .ref 49, .int (dp), .ref 50, .ref 51, .ref 52, .int (md), .int (ov), .int (oh), .int (dn), .int (an)]))) (.inl (some (.int (nI 0)))) (σ.set 22 (.inr (7, MoF (nI 1) vf wh wy hg dp md ov oh dn an)))
                refine jr_aload_n d_Mo_method_60 rfl ?_
                refine jr_iload_n d_Mo_method_61 rfl ?_
                refine jr_bipush ((nI (6))) d_Mo_method_62 (by decide) ?_
                refine jr_callV (As := [.int (k), .int (nI 6)]) d_Mo_method_64 k_Mo_method_114 (jl_ss hO) rfl rfl rfl (Nat.le_of_ble_eq_true rfl) (by decide) (by decide) (mo_out hl (jl_ss hO) (MoW.sx hw (Or.inl (by decide)))) ?_
                show jl_W l G m_Mo_method (0, 0) 67 [some (.ref 22), some (.int (k)), some (.int (sl)), some (.int (p)), some (.int (q)), some (.int (r)), some (.int (nI 0)), none, none, none] [.int (bi (outB (k) (nI 6)))] (σ.set (22) (.inr (7, [.int (nI 0), .ref 23, .ref 24, .ref 25, .ref 26, .ref 27, .ref 28, .ref 29, .ref 30, .ref 31, .ref 32, .ref 33, .ref 34, .ref 35, .ref 36, .ref 37, .int (vf), .int (wh), .int (wy), .ref 38, .ref 39, .ref 40, .ref 41, .int (hg), .ref 42, .ref 43, .ref 44, .ref 45, .ref 46, .ref 47, .ref 48, .ref 49, .int (dp), .ref 50, .ref 51, .ref 52, .int (md), .int (ov), .int (oh), .int (dn), .int (an)]))) (.inl (some (.int (nI 0)))) (σ.set 22 (.inr (7, MoF (nI 1) vf wh wy hg dp md ov oh dn an)))
                refine jr_if_ne 84 d_Mo_method_67 (by decide) (fun c65 => ?_) (fun c65 => ?_)
                · refine jr_aload_n d_Mo_method_84 rfl ?_
                  refine jr_iconst ((nI (1))) d_Mo_method_85 (by decide) ?_
                  refine jr_callV (As := [.int (nI 1)]) d_Mo_method_86 k_Mo_method_118 (jl_ss hO) rfl rfl rfl (Nat.le_of_ble_eq_true rfl) (by decide) (by decide) (mo_fail hl (jl_ss hO) (MoW.sx hw (Or.inl (by decide)))) ?_
                  show jl_W l G m_Mo_method (0, 0) 89 [some (.ref 22), some (.int (k)), some (.int (sl)), some (.int (p)), some (.int (q)), some (.int (r)), some (.int (nI 0)), none, none, none] [.int (nI 0)] ((σ.set (22) (.inr (7, [.int (nI 0), .ref 23, .ref 24, .ref 25, .ref 26, .ref 27, .ref 28, .ref 29, .ref 30, .ref 31, .ref 32, .ref 33, .ref 34, .ref 35, .ref 36, .ref 37, .int (vf), .int (wh), .int (wy), .ref 38, .ref 39, .ref 40, .ref 41, .int (hg), .ref 42, .ref 43, .ref 44, .ref 45, .ref 46, .ref 47, .ref 48, .ref 49, .int (dp), .ref 50, .ref 51, .ref 52, .int (md), .int (ov), .int (oh), .int (dn), .int (an)]))).set (22) (.inr (7, [.int (nI 1), .ref 23, .ref 24, .ref 25, .ref 26, .ref 27, .ref 28, .ref 29, .ref 30, .ref 31, .ref 32, .ref 33, .ref 34, .ref 35, .ref 36, .ref 37, .int (vf), .int (wh), .int (wy), .ref 38, .ref 39, .ref 40, .ref 41, .int (hg), .ref 42, .ref 43, .ref 44, .ref 45, .ref 46, .ref 47, .ref 48, .ref 49, .int (dp), .ref 50, .ref 51, .ref 52, .int (md), .int (ov), .int (oh), .int (dn), .int (an)]))) (.inl (some (.int (nI 0)))) (σ.set 22 (.inr (7, MoF (nI 1) vf wh wy hg dp md ov oh dn an)))
                  exact jr_iretE d_Mo_method_89 rfl (rfl) ((List.set_set ..).symm) (by decide) (by decide)
                · refine jr_aload_n d_Mo_method_70 rfl ?_
                  refine jr_iload_n d_Mo_method_71 rfl ?_
                  refine jr_iconst ((nI (4))) d_Mo_method_72 (by decide) ?_
                  refine jr_callV (As := [.int (sl), .int (nI 4)]) d_Mo_method_73 k_Mo_method_114 (jl_ss hO) rfl rfl rfl (Nat.le_of_ble_eq_true rfl) (by decide) (by decide) (mo_out hl (jl_ss hO) (MoW.sx hw (Or.inl (by decide)))) ?_
                  show jl_W l G m_Mo_method (0, 0) 76 [some (.ref 22), some (.int (k)), some (.int (sl)), some (.int (p)), some (.int (q)), some (.int (r)), some (.int (nI 0)), none, none, none] [.int (bi (outB (sl) (nI 4)))] (σ.set (22) (.inr (7, [.int (nI 0), .ref 23, .ref 24, .ref 25, .ref 26, .ref 27, .ref 28, .ref 29, .ref 30, .ref 31, .ref 32, .ref 33, .ref 34, .ref 35, .ref 36, .ref 37, .int (vf), .int (wh), .int (wy), .ref 38, .ref 39, .ref 40, .ref 41, .int (hg), .ref 42, .ref 43, .ref 44, .ref 45, .ref 46, .ref 47, .ref 48, .ref 49, .int (dp), .ref 50, .ref 51, .ref 52, .int (md), .int (ov), .int (oh), .int (dn), .int (an)]))) (.inl (some (.int (nI 0)))) (σ.set 22 (.inr (7, MoF (nI 1) vf wh wy hg dp md ov oh dn an)))
                  refine jr_if_ne 84 d_Mo_method_76 (by decide) (fun c66 => ?_) (fun c66 => ?_)
                  · refine jr_aload_n d_Mo_method_84 rfl ?_
                    refine jr_iconst ((nI (1))) d_Mo_method_85 (by decide) ?_
                    refine jr_callV (As := [.int (nI 1)]) d_Mo_method_86 k_Mo_method_118 (jl_ss hO) rfl rfl rfl (Nat.le_of_ble_eq_true rfl) (by decide) (by decide) (mo_fail hl (jl_ss hO) (MoW.sx hw (Or.inl (by decide)))) ?_
                    show jl_W l G m_Mo_method (0, 0) 89 [some (.ref 22), some (.int (k)), some (.int (sl)), some (.int (p)), some (.int (q)), some (.int (r)), some (.int (nI 0)), none, none, none] [.int (nI 0)] ((σ.set (22) (.inr (7, [.int (nI 0), .ref 23, .ref 24, .ref 25, .ref 26, .ref 27, .ref 28, .ref 29, .ref 30, .ref 31, .ref 32, .ref 33, .ref 34, .ref 35, .ref 36, .ref 37, .int (vf), .int (wh), .int (wy), .ref 38, .ref 39, .ref 40, .ref 41, .int (hg), .ref 42, .ref 43, .ref 44, .ref 45, .ref 46, .ref 47, .ref 48, .ref 49, .int (dp), .ref 50, .ref 51, .ref 52, .int (md), .int (ov), .int (oh), .int (dn), .int (an)]))).set (22) (.inr (7, [.int (nI 1), .ref 23, .ref 24, .ref 25, .ref 26, .ref 27, .ref 28, .ref 29, .ref 30, .ref 31, .ref 32, .ref 33, .ref 34, .ref 35, .ref 36, .ref 37, .int (vf), .int (wh), .int (wy), .ref 38, .ref 39, .ref 40, .ref 41, .int (hg), .ref 42, .ref 43, .ref 44, .ref 45, .ref 46, .ref 47, .ref 48, .ref 49, .int (dp), .ref 50, .ref 51, .ref 52, .int (md), .int (ov), .int (oh), .int (dn), .int (an)]))) (.inl (some (.int (nI 0)))) (σ.set 22 (.inr (7, MoF (nI 1) vf wh wy hg dp md ov oh dn an)))
                    exact jr_iretE d_Mo_method_89 rfl (rfl) ((List.set_set ..).symm) (by decide) (by decide)
                  · refine jr_iload d_Mo_method_79 rfl ?_
                    refine jr_if_eq 90 d_Mo_method_81 (by decide) (fun _ => ?_) (fun z => absurd (by decide) z)
                    exfalso; simp_all [prOk, bi_0]
              · refine jr_iconst ((nI (1))) d_Mo_method_53 (by decide) ?_
                refine jr_goto 58 d_Mo_method_54 (by decide) ?_
                refine jr_istore d_Mo_method_58 (by decide) ?_
                show jl_W l G m_Mo_method (0, 0) 60 [some (.ref 22), some (.int (k)), some (.int (sl)), some (.int (p)), some (.int (q)), some (.int (r)), some (.int (nI 1)), none, none, none] [] (σ.set (22) (.inr (7, [.int (nI 0), .ref 23, .ref 24, .ref 25, .ref 26, .ref 27, .ref 28, .ref 29, .ref 30, .ref 31, .ref 32, .ref 33, .ref 34, .ref 35, .ref 36, .ref 37, .int (vf), .int (wh), .int (wy), .ref 38, .ref 39, .ref 40, .ref 41, .int (hg), .ref 42, .ref 43, .ref 44, .ref 45, .ref 46, .ref 47, .ref 48, .ref 49, .int (dp), .ref 50, .ref 51, .ref 52, .int (md), .int (ov), .int (oh), .int (dn), .int (an)]))) (.inl (some (.int (nI 0)))) (σ.set 22 (.inr (7, MoF (nI 1) vf wh wy hg dp md ov oh dn an)))
                refine jr_aload_n d_Mo_method_60 rfl ?_
                refine jr_iload_n d_Mo_method_61 rfl ?_
                refine jr_bipush ((nI (6))) d_Mo_method_62 (by decide) ?_
                refine jr_callV (As := [.int (k), .int (nI 6)]) d_Mo_method_64 k_Mo_method_114 (jl_ss hO) rfl rfl rfl (Nat.le_of_ble_eq_true rfl) (by decide) (by decide) (mo_out hl (jl_ss hO) (MoW.sx hw (Or.inl (by decide)))) ?_
                show jl_W l G m_Mo_method (0, 0) 67 [some (.ref 22), some (.int (k)), some (.int (sl)), some (.int (p)), some (.int (q)), some (.int (r)), some (.int (nI 1)), none, none, none] [.int (bi (outB (k) (nI 6)))] (σ.set (22) (.inr (7, [.int (nI 0), .ref 23, .ref 24, .ref 25, .ref 26, .ref 27, .ref 28, .ref 29, .ref 30, .ref 31, .ref 32, .ref 33, .ref 34, .ref 35, .ref 36, .ref 37, .int (vf), .int (wh), .int (wy), .ref 38, .ref 39, .ref 40, .ref 41, .int (hg), .ref 42, .ref 43, .ref 44, .ref 45, .ref 46, .ref 47, .ref 48, .ref 49, .int (dp), .ref 50, .ref 51, .ref 52, .int (md), .int (ov), .int (oh), .int (dn), .int (an)]))) (.inl (some (.int (nI 0)))) (σ.set 22 (.inr (7, MoF (nI 1) vf wh wy hg dp md ov oh dn an)))
                refine jr_if_ne 84 d_Mo_method_67 (by decide) (fun c67 => ?_) (fun c67 => ?_)
                · refine jr_aload_n d_Mo_method_84 rfl ?_
                  refine jr_iconst ((nI (1))) d_Mo_method_85 (by decide) ?_
                  refine jr_callV (As := [.int (nI 1)]) d_Mo_method_86 k_Mo_method_118 (jl_ss hO) rfl rfl rfl (Nat.le_of_ble_eq_true rfl) (by decide) (by decide) (mo_fail hl (jl_ss hO) (MoW.sx hw (Or.inl (by decide)))) ?_
                  show jl_W l G m_Mo_method (0, 0) 89 [some (.ref 22), some (.int (k)), some (.int (sl)), some (.int (p)), some (.int (q)), some (.int (r)), some (.int (nI 1)), none, none, none] [.int (nI 0)] ((σ.set (22) (.inr (7, [.int (nI 0), .ref 23, .ref 24, .ref 25, .ref 26, .ref 27, .ref 28, .ref 29, .ref 30, .ref 31, .ref 32, .ref 33, .ref 34, .ref 35, .ref 36, .ref 37, .int (vf), .int (wh), .int (wy), .ref 38, .ref 39, .ref 40, .ref 41, .int (hg), .ref 42, .ref 43, .ref 44, .ref 45, .ref 46, .ref 47, .ref 48, .ref 49, .int (dp), .ref 50, .ref 51, .ref 52, .int (md), .int (ov), .int (oh), .int (dn), .int (an)]))).set (22) (.inr (7, [.int (nI 1), .ref 23, .ref 24, .ref 25, .ref 26, .ref 27, .ref 28, .ref 29, .ref 30, .ref 31, .ref 32, .ref 33, .ref 34, .ref 35, .ref 36, .ref 37, .int (vf), .int (wh), .int (wy), .ref 38, .ref 39, .ref 40, .ref 41, .int (hg), .ref 42, .ref 43, .ref 44, .ref 45, .ref 46, .ref 47, .ref 48, .ref 49, .int (dp), .ref 50, .ref 51, .ref 52, .int (md), .int (ov), .int (oh), .int (dn), .int (an)]))) (.inl (some (.int (nI 0)))) (σ.set 22 (.inr (7, MoF (nI 1) vf wh wy hg dp md ov oh dn an)))
                  exact jr_iretE d_Mo_method_89 rfl (rfl) ((List.set_set ..).symm) (by decide) (by decide)
                · refine jr_aload_n d_Mo_method_70 rfl ?_
                  refine jr_iload_n d_Mo_method_71 rfl ?_
                  refine jr_iconst ((nI (4))) d_Mo_method_72 (by decide) ?_
                  refine jr_callV (As := [.int (sl), .int (nI 4)]) d_Mo_method_73 k_Mo_method_114 (jl_ss hO) rfl rfl rfl (Nat.le_of_ble_eq_true rfl) (by decide) (by decide) (mo_out hl (jl_ss hO) (MoW.sx hw (Or.inl (by decide)))) ?_
                  show jl_W l G m_Mo_method (0, 0) 76 [some (.ref 22), some (.int (k)), some (.int (sl)), some (.int (p)), some (.int (q)), some (.int (r)), some (.int (nI 1)), none, none, none] [.int (bi (outB (sl) (nI 4)))] (σ.set (22) (.inr (7, [.int (nI 0), .ref 23, .ref 24, .ref 25, .ref 26, .ref 27, .ref 28, .ref 29, .ref 30, .ref 31, .ref 32, .ref 33, .ref 34, .ref 35, .ref 36, .ref 37, .int (vf), .int (wh), .int (wy), .ref 38, .ref 39, .ref 40, .ref 41, .int (hg), .ref 42, .ref 43, .ref 44, .ref 45, .ref 46, .ref 47, .ref 48, .ref 49, .int (dp), .ref 50, .ref 51, .ref 52, .int (md), .int (ov), .int (oh), .int (dn), .int (an)]))) (.inl (some (.int (nI 0)))) (σ.set 22 (.inr (7, MoF (nI 1) vf wh wy hg dp md ov oh dn an)))
                  refine jr_if_ne 84 d_Mo_method_76 (by decide) (fun c68 => ?_) (fun c68 => ?_)
                  · refine jr_aload_n d_Mo_method_84 rfl ?_
                    refine jr_iconst ((nI (1))) d_Mo_method_85 (by decide) ?_
                    refine jr_callV (As := [.int (nI 1)]) d_Mo_method_86 k_Mo_method_118 (jl_ss hO) rfl rfl rfl (Nat.le_of_ble_eq_true rfl) (by decide) (by decide) (mo_fail hl (jl_ss hO) (MoW.sx hw (Or.inl (by decide)))) ?_
                    show jl_W l G m_Mo_method (0, 0) 89 [some (.ref 22), some (.int (k)), some (.int (sl)), some (.int (p)), some (.int (q)), some (.int (r)), some (.int (nI 1)), none, none, none] [.int (nI 0)] ((σ.set (22) (.inr (7, [.int (nI 0), .ref 23, .ref 24, .ref 25, .ref 26, .ref 27, .ref 28, .ref 29, .ref 30, .ref 31, .ref 32, .ref 33, .ref 34, .ref 35, .ref 36, .ref 37, .int (vf), .int (wh), .int (wy), .ref 38, .ref 39, .ref 40, .ref 41, .int (hg), .ref 42, .ref 43, .ref 44, .ref 45, .ref 46, .ref 47, .ref 48, .ref 49, .int (dp), .ref 50, .ref 51, .ref 52, .int (md), .int (ov), .int (oh), .int (dn), .int (an)]))).set (22) (.inr (7, [.int (nI 1), .ref 23, .ref 24, .ref 25, .ref 26, .ref 27, .ref 28, .ref 29, .ref 30, .ref 31, .ref 32, .ref 33, .ref 34, .ref 35, .ref 36, .ref 37, .int (vf), .int (wh), .int (wy), .ref 38, .ref 39, .ref 40, .ref 41, .int (hg), .ref 42, .ref 43, .ref 44, .ref 45, .ref 46, .ref 47, .ref 48, .ref 49, .int (dp), .ref 50, .ref 51, .ref 52, .int (md), .int (ov), .int (oh), .int (dn), .int (an)]))) (.inl (some (.int (nI 0)))) (σ.set 22 (.inr (7, MoF (nI 1) vf wh wy hg dp md ov oh dn an)))
                    exact jr_iretE d_Mo_method_89 rfl (rfl) ((List.set_set ..).symm) (by decide) (by decide)
                  · refine jr_iload d_Mo_method_79 rfl ?_
                    refine jr_if_eq 90 d_Mo_method_81 (by decide) (fun z => absurd z (by decide)) (fun _ => ?_)
                    refine jr_aload_n d_Mo_method_84 rfl ?_
                    refine jr_iconst ((nI (1))) d_Mo_method_85 (by decide) ?_
                    refine jr_callV (As := [.int (nI 1)]) d_Mo_method_86 k_Mo_method_118 (jl_ss hO) rfl rfl rfl (Nat.le_of_ble_eq_true rfl) (by decide) (by decide) (mo_fail hl (jl_ss hO) (MoW.sx hw (Or.inl (by decide)))) ?_
                    show jl_W l G m_Mo_method (0, 0) 89 [some (.ref 22), some (.int (k)), some (.int (sl)), some (.int (p)), some (.int (q)), some (.int (r)), some (.int (nI 1)), none, none, none] [.int (nI 0)] ((σ.set (22) (.inr (7, [.int (nI 0), .ref 23, .ref 24, .ref 25, .ref 26, .ref 27, .ref 28, .ref 29, .ref 30, .ref 31, .ref 32, .ref 33, .ref 34, .ref 35, .ref 36, .ref 37, .int (vf), .int (wh), .int (wy), .ref 38, .ref 39, .ref 40, .ref 41, .int (hg), .ref 42, .ref 43, .ref 44, .ref 45, .ref 46, .ref 47, .ref 48, .ref 49, .int (dp), .ref 50, .ref 51, .ref 52, .int (md), .int (ov), .int (oh), .int (dn), .int (an)]))).set (22) (.inr (7, [.int (nI 1), .ref 23, .ref 24, .ref 25, .ref 26, .ref 27, .ref 28, .ref 29, .ref 30, .ref 31, .ref 32, .ref 33, .ref 34, .ref 35, .ref 36, .ref 37, .int (vf), .int (wh), .int (wy), .ref 38, .ref 39, .ref 40, .ref 41, .int (hg), .ref 42, .ref 43, .ref 44, .ref 45, .ref 46, .ref 47, .ref 48, .ref 49, .int (dp), .ref 50, .ref 51, .ref 52, .int (md), .int (ov), .int (oh), .int (dn), .int (an)]))) (.inl (some (.int (nI 0)))) (σ.set 22 (.inr (7, MoF (nI 1) vf wh wy hg dp md ov oh dn an)))
                    exact jr_iretE d_Mo_method_89 rfl (rfl) ((List.set_set ..).symm) (by decide) (by decide)
theorem d_Mo_method_131 : decode m_Mo_method.2.1 131 = .ok (.iload 8, 2) := by decide +kernel
theorem d_Mo_method_133 : decode m_Mo_method.2.1 133 = .ok (.bipush 6, 2) := by decide +kernel
theorem d_Mo_method_135 : decode m_Mo_method.2.1 135 = .ok (.if_icmp .ge 101, 3) := by decide +kernel
theorem d_Mo_method_138 : decode m_Mo_method.2.1 138 = .ok (.iconst 4, 1) := by decide +kernel
theorem d_Mo_method_139 : decode m_Mo_method.2.1 139 = .ok (.iload 8, 2) := by decide +kernel
theorem d_Mo_method_141 : decode m_Mo_method.2.1 141 = .ok (.imul, 1) := by decide +kernel
theorem d_Mo_method_142 : decode m_Mo_method.2.1 142 = .ok (.iload_n 2, 1) := by decide +kernel
theorem d_Mo_method_143 : decode m_Mo_method.2.1 143 = .ok (.iadd, 1) := by decide +kernel
theorem d_Mo_method_144 : decode m_Mo_method.2.1 144 = .ok (.istore 9, 2) := by decide +kernel
theorem d_Mo_method_146 : decode m_Mo_method.2.1 146 = .ok (.aload_n 0, 1) := by decide +kernel
theorem f_Mo_method_7 : jl_fd m_Mo_method 7 7 1 = true := by decide +kernel
theorem d_Mo_method_147 : decode m_Mo_method.2.1 147 = .ok (.getfield 7, 3) := by decide +kernel
theorem d_Mo_method_150 : decode m_Mo_method.2.1 150 = .ok (.iload 8, 2) := by decide +kernel
theorem d_Mo_method_152 : decode m_Mo_method.2.1 152 = .ok (.baload, 1) := by decide +kernel
theorem d_Mo_method_153 : decode m_Mo_method.2.1 153 = .ok (.ifCond .eq 77, 3) := by decide +kernel
theorem d_Mo_method_230 : decode m_Mo_method.2.1 230 = .ok (.iinc 8 1, 3) := by decide +kernel
theorem d_Mo_method_233 : decode m_Mo_method.2.1 233 = .ok (.goto (-102), 3) := by decide +kernel
theorem d_Mo_method_156 : decode m_Mo_method.2.1 156 = .ok (.aload_n 0, 1) := by decide +kernel
theorem f_Mo_method_23 : jl_fd m_Mo_method 23 7 5 = true := by decide +kernel
theorem d_Mo_method_157 : decode m_Mo_method.2.1 157 = .ok (.getfield 23, 3) := by decide +kernel
theorem d_Mo_method_160 : decode m_Mo_method.2.1 160 = .ok (.iload 9, 2) := by decide +kernel
theorem d_Mo_method_162 : decode m_Mo_method.2.1 162 = .ok (.baload, 1) := by decide +kernel
theorem d_Mo_method_163 : decode m_Mo_method.2.1 163 = .ok (.ifCond .eq 67, 3) := by decide +kernel
theorem d_Mo_method_166 : decode m_Mo_method.2.1 166 = .ok (.aload_n 0, 1) := by decide +kernel
theorem d_Mo_method_167 : decode m_Mo_method.2.1 167 = .ok (.iload 8, 2) := by decide +kernel
theorem d_Mo_method_169 : decode m_Mo_method.2.1 169 = .ok (.iload_n 1, 1) := by decide +kernel
theorem k_Mo_method_136 : jl_cv m_Mo_method m_Mo_above 136 2 = true := by decide +kernel
theorem d_Mo_method_170 : decode m_Mo_method.2.1 170 = .ok (.invokevirtual 136, 3) := by decide +kernel
theorem d_Mo_method_173 : decode m_Mo_method.2.1 173 = .ok (.ifCond .ne 16, 3) := by decide +kernel
theorem d_Mo_method_189 : decode m_Mo_method.2.1 189 = .ok (.aload_n 0, 1) := by decide +kernel
theorem f_Mo_method_26 : jl_fd m_Mo_method 26 7 6 = true := by decide +kernel
theorem d_Mo_method_190 : decode m_Mo_method.2.1 190 = .ok (.getfield 26, 3) := by decide +kernel
theorem d_Mo_method_193 : decode m_Mo_method.2.1 193 = .ok (.iload 9, 2) := by decide +kernel
theorem d_Mo_method_195 : decode m_Mo_method.2.1 195 = .ok (.iaload, 1) := by decide +kernel
theorem d_Mo_method_196 : decode m_Mo_method.2.1 196 = .ok (.iload_n 3, 1) := by decide +kernel
theorem d_Mo_method_197 : decode m_Mo_method.2.1 197 = .ok (.if_icmp .ne 27, 3) := by decide +kernel
theorem d_Mo_method_200 : decode m_Mo_method.2.1 200 = .ok (.aload_n 0, 1) := by decide +kernel
theorem f_Mo_method_29 : jl_fd m_Mo_method 29 7 7 = true := by decide +kernel
theorem d_Mo_method_201 : decode m_Mo_method.2.1 201 = .ok (.getfield 29, 3) := by decide +kernel
theorem d_Mo_method_204 : decode m_Mo_method.2.1 204 = .ok (.iload 9, 2) := by decide +kernel
theorem d_Mo_method_206 : decode m_Mo_method.2.1 206 = .ok (.iaload, 1) := by decide +kernel
theorem d_Mo_method_207 : decode m_Mo_method.2.1 207 = .ok (.iload 4, 2) := by decide +kernel
theorem d_Mo_method_209 : decode m_Mo_method.2.1 209 = .ok (.if_icmp .ne 15, 3) := by decide +kernel
theorem d_Mo_method_212 : decode m_Mo_method.2.1 212 = .ok (.aload_n 0, 1) := by decide +kernel
theorem f_Mo_method_32 : jl_fd m_Mo_method 32 7 8 = true := by decide +kernel
theorem d_Mo_method_213 : decode m_Mo_method.2.1 213 = .ok (.getfield 32, 3) := by decide +kernel
theorem d_Mo_method_216 : decode m_Mo_method.2.1 216 = .ok (.iload 9, 2) := by decide +kernel
theorem d_Mo_method_218 : decode m_Mo_method.2.1 218 = .ok (.iaload, 1) := by decide +kernel
theorem d_Mo_method_219 : decode m_Mo_method.2.1 219 = .ok (.iload 5, 2) := by decide +kernel
theorem d_Mo_method_221 : decode m_Mo_method.2.1 221 = .ok (.if_icmp .eq 9, 3) := by decide +kernel
theorem d_Mo_method_176 : decode m_Mo_method.2.1 176 = .ok (.aload_n 0, 1) := by decide +kernel
theorem d_Mo_method_177 : decode m_Mo_method.2.1 177 = .ok (.iload_n 1, 1) := by decide +kernel
theorem d_Mo_method_178 : decode m_Mo_method.2.1 178 = .ok (.iload 8, 2) := by decide +kernel
theorem d_Mo_method_180 : decode m_Mo_method.2.1 180 = .ok (.invokevirtual 136, 3) := by decide +kernel
theorem d_Mo_method_183 : decode m_Mo_method.2.1 183 = .ok (.ifCond .ne 6, 3) := by decide +kernel
theorem d_Mo_method_186 : decode m_Mo_method.2.1 186 = .ok (.goto 44, 3) := by decide +kernel
theorem mo_mcl_F (hl : l.stackTraces = false) {k sl r : Nat} {p q : Option Nat} {o : jl_O} {σ' : jl_S} (hO : MoO σ fa vf wh wy hg dp md ov oh dn an) (hw : MoW σ tb pr ow ft hs) (hu : MoM σ u1 u2 ur ul uo ua uc us ut uk) (hk : k < 6) (hs4 : sl < 4) (hd : dsc pr) (hp : ob 16 p) (hq : ob 16 q) (hr : r < 16) (hu1 : ∀ j, ob 16 (u1 j)) (hu2 : ∀ j, ob 16 (u2 j)) (hur : ∀ j, ur j < 16) (k2 : jl_W l G m_Mo_method (0, 0) 236 [some (.ref 22), some (.int (nI k)), some (.int (nI sl)), some (.int (en p)), some (.int (en q)), some (.int (nI r)), some (.int (nI 0)), some (.int (nI (4 * k + sl))), none, none] [] σ o σ') : ∀ (nn : Nat) (i : Nat), 6 - i < nn → i ≤ 6 → mcl tb pr hs u1 u2 ur k sl p q r (6 - i) i = false → jl_W l G m_Mo_method (0, 0) 131 [some (.ref 22), some (.int (nI k)), some (.int (nI sl)), some (.int (en p)), some (.int (en q)), some (.int (nI r)), some (.int (nI 0)), some (.int (nI (4 * k + sl))), some (.int (nI i)), none] [] σ (o) (σ') := by
  obtain ⟨h23, h24, h25, h26, h27⟩ := id hw; obtain ⟨h28, h29, h30, h31, h32, h33, h34, h35, h36, h37⟩ := id hu
  intro nn
  induction nn with
  | zero => intro i hnn; exact absurd hnn (Nat.not_lt_zero _)
  | succ nn ihn =>
    intro i hnn hi hcl
    have hur2 := hur (4 * i + sl)
    refine jr_iload d_Mo_method_131 rfl ?_
    refine jr_bipush ((nI (6))) d_Mo_method_133 (by decide) ?_
    refine jr_icmp_geN 236 d_Mo_method_135 (by decide) (by omega) (by omega) (fun c1 => ?_) (fun c1 => ?_)
    · exact jr_weak (fun q v hv => by match q, hv with | 0, hv => exact hv | 1, hv => exact hv | 2, hv => exact hv | 3, hv => exact hv | 4, hv => exact hv | 5, hv => exact hv | 6, hv => exact hv | 7, hv => exact hv | 8, hv => cases hv | 9, hv => cases hv | q + 10, hv => cases hv) k2
    · refine jr_iconst ((nI (4))) d_Mo_method_138 (by decide) ?_
      refine jr_iload d_Mo_method_139 rfl ?_
      refine jr_imulN d_Mo_method_141 ?_
      refine jr_iload_n d_Mo_method_142 rfl ?_
      refine jr_iaddN d_Mo_method_143 ?_
      refine jr_istore d_Mo_method_144 (by decide) ?_
      show jl_W l G m_Mo_method (0, 0) 146 [some (.ref 22), some (.int (nI k)), some (.int (nI sl)), some (.int (en p)), some (.int (en q)), some (.int (nI r)), some (.int (nI 0)), some (.int (nI (4 * k + sl))), some (.int (nI i)), some (.int (nI (((4) * (i)) + (sl))))] [] (σ) (o) (σ')
      refine jr_aload_n d_Mo_method_146 rfl ?_
      refine jr_getf d_Mo_method_147 f_Mo_method_7 hO rfl ?_
      refine jr_iload d_Mo_method_150 rfl ?_
      refine jr_baldN d_Mo_method_152 h23 (by omega) (by omega) ?_
      refine jr_if_eq 230 d_Mo_method_153 (by decide) (fun c2 => ?_) (fun c2 => ?_)
      · refine jr_iinc ((nI (i + 1))) d_Mo_method_230 (by decide) rfl (jl_inc _) ?_
        show jl_W l G m_Mo_method (0, 0) 233 [some (.ref 22), some (.int (nI k)), some (.int (nI sl)), some (.int (en p)), some (.int (en q)), some (.int (nI r)), some (.int (nI 0)), some (.int (nI (4 * k + sl))), some (.int (nI (i + 1))), some (.int (nI (((4) * (i)) + (sl))))] [] (σ) (o) (σ')
        refine jr_goto 131 d_Mo_method_233 (by decide) ?_
        exact jr_weak (fun q v hv => by match q, hv with | 0, hv => exact hv | 1, hv => exact hv | 2, hv => exact hv | 3, hv => exact hv | 4, hv => exact hv | 5, hv => exact hv | 6, hv => exact hv | 7, hv => exact hv | 8, hv => exact hv | 9, hv => cases hv | q + 10, hv => cases hv) (ihn (i + 1) (by omega) (by omega) (by rw [show 6 - i = (6 - (i + 1)) + 1 by omega] at hcl; simp only [mcl] at hcl; exact (Bool.or_eq_false_iff.mp hcl).2))
      · refine jr_aload_n d_Mo_method_156 rfl ?_
        refine jr_getf d_Mo_method_157 f_Mo_method_23 hO rfl ?_
        refine jr_iload d_Mo_method_160 rfl ?_
        refine jr_baldN d_Mo_method_162 h27 (by omega) (by omega) ?_
        refine jr_if_eq 230 d_Mo_method_163 (by decide) (fun c3 => ?_) (fun c3 => ?_)
        · refine jr_iinc ((nI (i + 1))) d_Mo_method_230 (by decide) rfl (jl_inc _) ?_
          show jl_W l G m_Mo_method (0, 0) 233 [some (.ref 22), some (.int (nI k)), some (.int (nI sl)), some (.int (en p)), some (.int (en q)), some (.int (nI r)), some (.int (nI 0)), some (.int (nI (4 * k + sl))), some (.int (nI (i + 1))), some (.int (nI (((4) * (i)) + (sl))))] [] (σ) (o) (σ')
          refine jr_goto 131 d_Mo_method_233 (by decide) ?_
          exact jr_weak (fun q v hv => by match q, hv with | 0, hv => exact hv | 1, hv => exact hv | 2, hv => exact hv | 3, hv => exact hv | 4, hv => exact hv | 5, hv => exact hv | 6, hv => exact hv | 7, hv => exact hv | 8, hv => exact hv | 9, hv => cases hv | q + 10, hv => cases hv) (ihn (i + 1) (by omega) (by omega) (by rw [show 6 - i = (6 - (i + 1)) + 1 by omega] at hcl; simp only [mcl] at hcl; exact (Bool.or_eq_false_iff.mp hcl).2))
        · refine jr_aload_n d_Mo_method_166 rfl ?_
          refine jr_iload d_Mo_method_167 rfl ?_
          refine jr_iload_n d_Mo_method_169 rfl ?_
          refine jr_callV (As := [.int (nI i), .int (nI k)]) d_Mo_method_170 k_Mo_method_136 hO rfl rfl rfl (Nat.le_of_ble_eq_true rfl) (by decide) (by decide) (mo_above (x := some k) hl hO hw (by omega) hd (fun z hz => by cases hz; omega)) ?_
          show jl_W l G m_Mo_method (0, 0) 173 [some (.ref 22), some (.int (nI k)), some (.int (nI sl)), some (.int (en p)), some (.int (en q)), some (.int (nI r)), some (.int (nI 0)), some (.int (nI (4 * k + sl))), some (.int (nI i)), some (.int (nI (((4) * (i)) + (sl))))] [.int (bi (ab pr i (some k)))] (σ) (o) (σ')
          refine jr_if_ne 189 d_Mo_method_173 (by decide) (fun c4 => ?_) (fun c4 => ?_)
          · refine jr_aload_n d_Mo_method_189 rfl ?_
            refine jr_getf d_Mo_method_190 f_Mo_method_26 hO rfl ?_
            refine jr_iload d_Mo_method_193 rfl ?_
            refine jr_ialdN d_Mo_method_195 h28 (by omega) (by omega) ?_
            refine jr_iload_n d_Mo_method_196 rfl ?_
            refine jr_icmp_ne 224 d_Mo_method_197 (by decide) (fun c5 => ?_) (fun c5 => ?_)
            · exfalso; rw [show 6 - i = (6 - (i + 1)) + 1 by omega] at hcl; simp only [mcl] at hcl; have hcl2 := (Bool.or_eq_false_iff.mp hcl).1; clear hcl ihn; simp_all [bi_0, en_inj (ob_w (hu1 _) (by decide)) (ob_w hp (by decide)), en_inj (ob_w (hu2 _) (by decide)) (ob_w hq (by decide))]
            · refine jr_aload_n d_Mo_method_200 rfl ?_
              refine jr_getf d_Mo_method_201 f_Mo_method_29 hO rfl ?_
              refine jr_iload d_Mo_method_204 rfl ?_
              refine jr_ialdN d_Mo_method_206 h29 (by omega) (by omega) ?_
              refine jr_iload d_Mo_method_207 rfl ?_
              refine jr_icmp_ne 224 d_Mo_method_209 (by decide) (fun c6 => ?_) (fun c6 => ?_)
              · exfalso; rw [show 6 - i = (6 - (i + 1)) + 1 by omega] at hcl; simp only [mcl] at hcl; have hcl2 := (Bool.or_eq_false_iff.mp hcl).1; clear hcl ihn; simp_all [bi_0, en_inj (ob_w (hu1 _) (by decide)) (ob_w hp (by decide)), en_inj (ob_w (hu2 _) (by decide)) (ob_w hq (by decide))]
              · refine jr_aload_n d_Mo_method_212 rfl ?_
                refine jr_getf d_Mo_method_213 f_Mo_method_32 hO rfl ?_
                refine jr_iload d_Mo_method_216 rfl ?_
                refine jr_ialdN d_Mo_method_218 h30 (by omega) (by omega) ?_
                refine jr_iload d_Mo_method_219 rfl ?_
                refine jr_icmp_eqN 230 d_Mo_method_221 (by decide) (by omega) (by omega) (fun c7 => ?_) (fun c7 => ?_)
                · refine jr_iinc ((nI (i + 1))) d_Mo_method_230 (by decide) rfl (jl_inc _) ?_
                  show jl_W l G m_Mo_method (0, 0) 233 [some (.ref 22), some (.int (nI k)), some (.int (nI sl)), some (.int (en p)), some (.int (en q)), some (.int (nI r)), some (.int (nI 0)), some (.int (nI (4 * k + sl))), some (.int (nI (i + 1))), some (.int (nI (((4) * (i)) + (sl))))] [] (σ) (o) (σ')
                  refine jr_goto 131 d_Mo_method_233 (by decide) ?_
                  exact jr_weak (fun q v hv => by match q, hv with | 0, hv => exact hv | 1, hv => exact hv | 2, hv => exact hv | 3, hv => exact hv | 4, hv => exact hv | 5, hv => exact hv | 6, hv => exact hv | 7, hv => exact hv | 8, hv => exact hv | 9, hv => cases hv | q + 10, hv => cases hv) (ihn (i + 1) (by omega) (by omega) (by rw [show 6 - i = (6 - (i + 1)) + 1 by omega] at hcl; simp only [mcl] at hcl; exact (Bool.or_eq_false_iff.mp hcl).2))
                · exfalso; rw [show 6 - i = (6 - (i + 1)) + 1 by omega] at hcl; simp only [mcl] at hcl; have hcl2 := (Bool.or_eq_false_iff.mp hcl).1; clear hcl ihn; simp_all [bi_0, en_inj (ob_w (hu1 _) (by decide)) (ob_w hp (by decide)), en_inj (ob_w (hu2 _) (by decide)) (ob_w hq (by decide))]
          · refine jr_aload_n d_Mo_method_176 rfl ?_
            refine jr_iload_n d_Mo_method_177 rfl ?_
            refine jr_iload d_Mo_method_178 rfl ?_
            refine jr_callV (As := [.int (nI k), .int (nI i)]) d_Mo_method_180 k_Mo_method_136 hO rfl rfl rfl (Nat.le_of_ble_eq_true rfl) (by decide) (by decide) (mo_above (x := some i) hl hO hw (by omega) hd (fun z hz => by cases hz; omega)) ?_
            show jl_W l G m_Mo_method (0, 0) 183 [some (.ref 22), some (.int (nI k)), some (.int (nI sl)), some (.int (en p)), some (.int (en q)), some (.int (nI r)), some (.int (nI 0)), some (.int (nI (4 * k + sl))), some (.int (nI i)), some (.int (nI (((4) * (i)) + (sl))))] [.int (bi (ab pr k (some i)))] (σ) (o) (σ')
            refine jr_if_ne 189 d_Mo_method_183 (by decide) (fun c8 => ?_) (fun c8 => ?_)
            · refine jr_aload_n d_Mo_method_189 rfl ?_
              refine jr_getf d_Mo_method_190 f_Mo_method_26 hO rfl ?_
              refine jr_iload d_Mo_method_193 rfl ?_
              refine jr_ialdN d_Mo_method_195 h28 (by omega) (by omega) ?_
              refine jr_iload_n d_Mo_method_196 rfl ?_
              refine jr_icmp_ne 224 d_Mo_method_197 (by decide) (fun c9 => ?_) (fun c9 => ?_)
              · exfalso; rw [show 6 - i = (6 - (i + 1)) + 1 by omega] at hcl; simp only [mcl] at hcl; have hcl2 := (Bool.or_eq_false_iff.mp hcl).1; clear hcl ihn; simp_all [bi_0, en_inj (ob_w (hu1 _) (by decide)) (ob_w hp (by decide)), en_inj (ob_w (hu2 _) (by decide)) (ob_w hq (by decide))]
              · refine jr_aload_n d_Mo_method_200 rfl ?_
                refine jr_getf d_Mo_method_201 f_Mo_method_29 hO rfl ?_
                refine jr_iload d_Mo_method_204 rfl ?_
                refine jr_ialdN d_Mo_method_206 h29 (by omega) (by omega) ?_
                refine jr_iload d_Mo_method_207 rfl ?_
                refine jr_icmp_ne 224 d_Mo_method_209 (by decide) (fun c10 => ?_) (fun c10 => ?_)
                · exfalso; rw [show 6 - i = (6 - (i + 1)) + 1 by omega] at hcl; simp only [mcl] at hcl; have hcl2 := (Bool.or_eq_false_iff.mp hcl).1; clear hcl ihn; simp_all [bi_0, en_inj (ob_w (hu1 _) (by decide)) (ob_w hp (by decide)), en_inj (ob_w (hu2 _) (by decide)) (ob_w hq (by decide))]
                · refine jr_aload_n d_Mo_method_212 rfl ?_
                  refine jr_getf d_Mo_method_213 f_Mo_method_32 hO rfl ?_
                  refine jr_iload d_Mo_method_216 rfl ?_
                  refine jr_ialdN d_Mo_method_218 h30 (by omega) (by omega) ?_
                  refine jr_iload d_Mo_method_219 rfl ?_
                  refine jr_icmp_eqN 230 d_Mo_method_221 (by decide) (by omega) (by omega) (fun c11 => ?_) (fun c11 => ?_)
                  · refine jr_iinc ((nI (i + 1))) d_Mo_method_230 (by decide) rfl (jl_inc _) ?_
                    show jl_W l G m_Mo_method (0, 0) 233 [some (.ref 22), some (.int (nI k)), some (.int (nI sl)), some (.int (en p)), some (.int (en q)), some (.int (nI r)), some (.int (nI 0)), some (.int (nI (4 * k + sl))), some (.int (nI (i + 1))), some (.int (nI (((4) * (i)) + (sl))))] [] (σ) (o) (σ')
                    refine jr_goto 131 d_Mo_method_233 (by decide) ?_
                    exact jr_weak (fun q v hv => by match q, hv with | 0, hv => exact hv | 1, hv => exact hv | 2, hv => exact hv | 3, hv => exact hv | 4, hv => exact hv | 5, hv => exact hv | 6, hv => exact hv | 7, hv => exact hv | 8, hv => exact hv | 9, hv => cases hv | q + 10, hv => cases hv) (ihn (i + 1) (by omega) (by omega) (by rw [show 6 - i = (6 - (i + 1)) + 1 by omega] at hcl; simp only [mcl] at hcl; exact (Bool.or_eq_false_iff.mp hcl).2))
                  · exfalso; rw [show 6 - i = (6 - (i + 1)) + 1 by omega] at hcl; simp only [mcl] at hcl; have hcl2 := (Bool.or_eq_false_iff.mp hcl).1; clear hcl ihn; simp_all [bi_0, en_inj (ob_w (hu1 _) (by decide)) (ob_w hp (by decide)), en_inj (ob_w (hu2 _) (by decide)) (ob_w hq (by decide))]
            · refine jr_goto 230 d_Mo_method_186 (by decide) ?_
              refine jr_iinc ((nI (i + 1))) d_Mo_method_230 (by decide) rfl (jl_inc _) ?_
              show jl_W l G m_Mo_method (0, 0) 233 [some (.ref 22), some (.int (nI k)), some (.int (nI sl)), some (.int (en p)), some (.int (en q)), some (.int (nI r)), some (.int (nI 0)), some (.int (nI (4 * k + sl))), some (.int (nI (i + 1))), some (.int (nI (((4) * (i)) + (sl))))] [] (σ) (o) (σ')
              refine jr_goto 131 d_Mo_method_233 (by decide) ?_
              exact jr_weak (fun q v hv => by match q, hv with | 0, hv => exact hv | 1, hv => exact hv | 2, hv => exact hv | 3, hv => exact hv | 4, hv => exact hv | 5, hv => exact hv | 6, hv => exact hv | 7, hv => exact hv | 8, hv => exact hv | 9, hv => cases hv | q + 10, hv => cases hv) (ihn (i + 1) (by omega) (by omega) (by rw [show 6 - i = (6 - (i + 1)) + 1 by omega] at hcl; simp only [mcl] at hcl; exact (Bool.or_eq_false_iff.mp hcl).2))
theorem d_Mo_method_224 : decode m_Mo_method.2.1 224 = .ok (.aload_n 0, 1) := by decide +kernel
theorem d_Mo_method_225 : decode m_Mo_method.2.1 225 = .ok (.iconst 3, 1) := by decide +kernel
theorem d_Mo_method_226 : decode m_Mo_method.2.1 226 = .ok (.invokevirtual 118, 3) := by decide +kernel
theorem d_Mo_method_229 : decode m_Mo_method.2.1 229 = .ok (.ireturn, 1) := by decide +kernel
theorem mo_mcl_T (hl : l.stackTraces = false) {k sl r : Nat} {p q : Option Nat} (hO : MoO σ fa vf wh wy hg dp md ov oh dn an) (hw : MoW σ tb pr ow ft hs) (hu : MoM σ u1 u2 ur ul uo ua uc us ut uk) (hk : k < 6) (hs4 : sl < 4) (hd : dsc pr) (hp : ob 16 p) (hq : ob 16 q) (hr : r < 16) (hu1 : ∀ j, ob 16 (u1 j)) (hu2 : ∀ j, ob 16 (u2 j)) (hur : ∀ j, ur j < 16)  : ∀ (nn : Nat) (i : Nat), 6 - i < nn → i ≤ 6 → mcl tb pr hs u1 u2 ur k sl p q r (6 - i) i = true → jl_W l G m_Mo_method (0, 0) 131 [some (.ref 22), some (.int (nI k)), some (.int (nI sl)), some (.int (en p)), some (.int (en q)), some (.int (nI r)), some (.int (nI 0)), some (.int (nI (4 * k + sl))), some (.int (nI i)), none] [] σ (.inl (some (.int (nI 0)))) (σ.set 22 (.inr (7, MoF (nI 3) vf wh wy hg dp md ov oh dn an))) := by
  obtain ⟨h23, h24, h25, h26, h27⟩ := id hw; obtain ⟨h28, h29, h30, h31, h32, h33, h34, h35, h36, h37⟩ := id hu
  intro nn
  induction nn with
  | zero => intro i hnn; exact absurd hnn (Nat.not_lt_zero _)
  | succ nn ihn =>
    intro i hnn hi hcl
    have hur2 := hur (4 * i + sl)
    refine jr_iload d_Mo_method_131 rfl ?_
    refine jr_bipush ((nI (6))) d_Mo_method_133 (by decide) ?_
    refine jr_icmp_geN 236 d_Mo_method_135 (by decide) (by omega) (by omega) (fun c1 => ?_) (fun c1 => ?_)
    · rw [show 6 - i = 0 by omega] at hcl; cases hcl
    · refine jr_iconst ((nI (4))) d_Mo_method_138 (by decide) ?_
      refine jr_iload d_Mo_method_139 rfl ?_
      refine jr_imulN d_Mo_method_141 ?_
      refine jr_iload_n d_Mo_method_142 rfl ?_
      refine jr_iaddN d_Mo_method_143 ?_
      refine jr_istore d_Mo_method_144 (by decide) ?_
      show jl_W l G m_Mo_method (0, 0) 146 [some (.ref 22), some (.int (nI k)), some (.int (nI sl)), some (.int (en p)), some (.int (en q)), some (.int (nI r)), some (.int (nI 0)), some (.int (nI (4 * k + sl))), some (.int (nI i)), some (.int (nI (((4) * (i)) + (sl))))] [] (σ) (.inl (some (.int (nI 0)))) (σ.set 22 (.inr (7, MoF (nI 3) vf wh wy hg dp md ov oh dn an)))
      refine jr_aload_n d_Mo_method_146 rfl ?_
      refine jr_getf d_Mo_method_147 f_Mo_method_7 hO rfl ?_
      refine jr_iload d_Mo_method_150 rfl ?_
      refine jr_baldN d_Mo_method_152 h23 (by omega) (by omega) ?_
      refine jr_if_eq 230 d_Mo_method_153 (by decide) (fun c2 => ?_) (fun c2 => ?_)
      · refine jr_iinc ((nI (i + 1))) d_Mo_method_230 (by decide) rfl (jl_inc _) ?_
        show jl_W l G m_Mo_method (0, 0) 233 [some (.ref 22), some (.int (nI k)), some (.int (nI sl)), some (.int (en p)), some (.int (en q)), some (.int (nI r)), some (.int (nI 0)), some (.int (nI (4 * k + sl))), some (.int (nI (i + 1))), some (.int (nI (((4) * (i)) + (sl))))] [] (σ) (.inl (some (.int (nI 0)))) (σ.set 22 (.inr (7, MoF (nI 3) vf wh wy hg dp md ov oh dn an)))
        refine jr_goto 131 d_Mo_method_233 (by decide) ?_
        exact jr_weak (fun q v hv => by match q, hv with | 0, hv => exact hv | 1, hv => exact hv | 2, hv => exact hv | 3, hv => exact hv | 4, hv => exact hv | 5, hv => exact hv | 6, hv => exact hv | 7, hv => exact hv | 8, hv => exact hv | 9, hv => cases hv | q + 10, hv => cases hv) (ihn (i + 1) (by omega) (by omega) (by rw [show 6 - i = (6 - (i + 1)) + 1 by omega] at hcl; simp only [mcl] at hcl; refine (Bool.or_eq_true_iff.mp hcl).elim (fun z => ?_) id; exfalso; clear hcl ihn; simp_all [bi_0, en_inj (ob_w (hu1 _) (by decide)) (ob_w hp (by decide)), en_inj (ob_w (hu2 _) (by decide)) (ob_w hq (by decide))]))
      · refine jr_aload_n d_Mo_method_156 rfl ?_
        refine jr_getf d_Mo_method_157 f_Mo_method_23 hO rfl ?_
        refine jr_iload d_Mo_method_160 rfl ?_
        refine jr_baldN d_Mo_method_162 h27 (by omega) (by omega) ?_
        refine jr_if_eq 230 d_Mo_method_163 (by decide) (fun c3 => ?_) (fun c3 => ?_)
        · refine jr_iinc ((nI (i + 1))) d_Mo_method_230 (by decide) rfl (jl_inc _) ?_
          show jl_W l G m_Mo_method (0, 0) 233 [some (.ref 22), some (.int (nI k)), some (.int (nI sl)), some (.int (en p)), some (.int (en q)), some (.int (nI r)), some (.int (nI 0)), some (.int (nI (4 * k + sl))), some (.int (nI (i + 1))), some (.int (nI (((4) * (i)) + (sl))))] [] (σ) (.inl (some (.int (nI 0)))) (σ.set 22 (.inr (7, MoF (nI 3) vf wh wy hg dp md ov oh dn an)))
          refine jr_goto 131 d_Mo_method_233 (by decide) ?_
          exact jr_weak (fun q v hv => by match q, hv with | 0, hv => exact hv | 1, hv => exact hv | 2, hv => exact hv | 3, hv => exact hv | 4, hv => exact hv | 5, hv => exact hv | 6, hv => exact hv | 7, hv => exact hv | 8, hv => exact hv | 9, hv => cases hv | q + 10, hv => cases hv) (ihn (i + 1) (by omega) (by omega) (by rw [show 6 - i = (6 - (i + 1)) + 1 by omega] at hcl; simp only [mcl] at hcl; refine (Bool.or_eq_true_iff.mp hcl).elim (fun z => ?_) id; exfalso; clear hcl ihn; simp_all [bi_0, en_inj (ob_w (hu1 _) (by decide)) (ob_w hp (by decide)), en_inj (ob_w (hu2 _) (by decide)) (ob_w hq (by decide))]))
        · refine jr_aload_n d_Mo_method_166 rfl ?_
          refine jr_iload d_Mo_method_167 rfl ?_
          refine jr_iload_n d_Mo_method_169 rfl ?_
          refine jr_callV (As := [.int (nI i), .int (nI k)]) d_Mo_method_170 k_Mo_method_136 hO rfl rfl rfl (Nat.le_of_ble_eq_true rfl) (by decide) (by decide) (mo_above (x := some k) hl hO hw (by omega) hd (fun z hz => by cases hz; omega)) ?_
          show jl_W l G m_Mo_method (0, 0) 173 [some (.ref 22), some (.int (nI k)), some (.int (nI sl)), some (.int (en p)), some (.int (en q)), some (.int (nI r)), some (.int (nI 0)), some (.int (nI (4 * k + sl))), some (.int (nI i)), some (.int (nI (((4) * (i)) + (sl))))] [.int (bi (ab pr i (some k)))] (σ) (.inl (some (.int (nI 0)))) (σ.set 22 (.inr (7, MoF (nI 3) vf wh wy hg dp md ov oh dn an)))
          refine jr_if_ne 189 d_Mo_method_173 (by decide) (fun c4 => ?_) (fun c4 => ?_)
          · refine jr_aload_n d_Mo_method_189 rfl ?_
            refine jr_getf d_Mo_method_190 f_Mo_method_26 hO rfl ?_
            refine jr_iload d_Mo_method_193 rfl ?_
            refine jr_ialdN d_Mo_method_195 h28 (by omega) (by omega) ?_
            refine jr_iload_n d_Mo_method_196 rfl ?_
            refine jr_icmp_ne 224 d_Mo_method_197 (by decide) (fun c5 => ?_) (fun c5 => ?_)
            · refine jr_aload_n d_Mo_method_224 rfl ?_
              refine jr_iconst ((nI (3))) d_Mo_method_225 (by decide) ?_
              refine jr_callV (As := [.int (nI 3)]) d_Mo_method_226 k_Mo_method_118 hO rfl rfl rfl (Nat.le_of_ble_eq_true rfl) (by decide) (by decide) (mo_fail hl hO hw) ?_
              show jl_W l G m_Mo_method (0, 0) 229 [some (.ref 22), some (.int (nI k)), some (.int (nI sl)), some (.int (en p)), some (.int (en q)), some (.int (nI r)), some (.int (nI 0)), some (.int (nI (4 * k + sl))), some (.int (nI i)), some (.int (nI (((4) * (i)) + (sl))))] [.int (nI 0)] (σ.set (22) (.inr (7, [.int (nI 3), .ref 23, .ref 24, .ref 25, .ref 26, .ref 27, .ref 28, .ref 29, .ref 30, .ref 31, .ref 32, .ref 33, .ref 34, .ref 35, .ref 36, .ref 37, .int (vf), .int (wh), .int (wy), .ref 38, .ref 39, .ref 40, .ref 41, .int (hg), .ref 42, .ref 43, .ref 44, .ref 45, .ref 46, .ref 47, .ref 48, .ref 49, .int (dp), .ref 50, .ref 51, .ref 52, .int (md), .int (ov), .int (oh), .int (dn), .int (an)]))) (.inl (some (.int (nI 0)))) (σ.set 22 (.inr (7, MoF (nI 3) vf wh wy hg dp md ov oh dn an)))
              exact jr_iretE d_Mo_method_229 rfl (rfl) (rfl) (by decide) (by decide)
            · refine jr_aload_n d_Mo_method_200 rfl ?_
              refine jr_getf d_Mo_method_201 f_Mo_method_29 hO rfl ?_
              refine jr_iload d_Mo_method_204 rfl ?_
              refine jr_ialdN d_Mo_method_206 h29 (by omega) (by omega) ?_
              refine jr_iload d_Mo_method_207 rfl ?_
              refine jr_icmp_ne 224 d_Mo_method_209 (by decide) (fun c6 => ?_) (fun c6 => ?_)
              · refine jr_aload_n d_Mo_method_224 rfl ?_
                refine jr_iconst ((nI (3))) d_Mo_method_225 (by decide) ?_
                refine jr_callV (As := [.int (nI 3)]) d_Mo_method_226 k_Mo_method_118 hO rfl rfl rfl (Nat.le_of_ble_eq_true rfl) (by decide) (by decide) (mo_fail hl hO hw) ?_
                show jl_W l G m_Mo_method (0, 0) 229 [some (.ref 22), some (.int (nI k)), some (.int (nI sl)), some (.int (en p)), some (.int (en q)), some (.int (nI r)), some (.int (nI 0)), some (.int (nI (4 * k + sl))), some (.int (nI i)), some (.int (nI (((4) * (i)) + (sl))))] [.int (nI 0)] (σ.set (22) (.inr (7, [.int (nI 3), .ref 23, .ref 24, .ref 25, .ref 26, .ref 27, .ref 28, .ref 29, .ref 30, .ref 31, .ref 32, .ref 33, .ref 34, .ref 35, .ref 36, .ref 37, .int (vf), .int (wh), .int (wy), .ref 38, .ref 39, .ref 40, .ref 41, .int (hg), .ref 42, .ref 43, .ref 44, .ref 45, .ref 46, .ref 47, .ref 48, .ref 49, .int (dp), .ref 50, .ref 51, .ref 52, .int (md), .int (ov), .int (oh), .int (dn), .int (an)]))) (.inl (some (.int (nI 0)))) (σ.set 22 (.inr (7, MoF (nI 3) vf wh wy hg dp md ov oh dn an)))
                exact jr_iretE d_Mo_method_229 rfl (rfl) (rfl) (by decide) (by decide)
              · refine jr_aload_n d_Mo_method_212 rfl ?_
                refine jr_getf d_Mo_method_213 f_Mo_method_32 hO rfl ?_
                refine jr_iload d_Mo_method_216 rfl ?_
                refine jr_ialdN d_Mo_method_218 h30 (by omega) (by omega) ?_
                refine jr_iload d_Mo_method_219 rfl ?_
                refine jr_icmp_eqN 230 d_Mo_method_221 (by decide) (by omega) (by omega) (fun c7 => ?_) (fun c7 => ?_)
                · refine jr_iinc ((nI (i + 1))) d_Mo_method_230 (by decide) rfl (jl_inc _) ?_
                  show jl_W l G m_Mo_method (0, 0) 233 [some (.ref 22), some (.int (nI k)), some (.int (nI sl)), some (.int (en p)), some (.int (en q)), some (.int (nI r)), some (.int (nI 0)), some (.int (nI (4 * k + sl))), some (.int (nI (i + 1))), some (.int (nI (((4) * (i)) + (sl))))] [] (σ) (.inl (some (.int (nI 0)))) (σ.set 22 (.inr (7, MoF (nI 3) vf wh wy hg dp md ov oh dn an)))
                  refine jr_goto 131 d_Mo_method_233 (by decide) ?_
                  exact jr_weak (fun q v hv => by match q, hv with | 0, hv => exact hv | 1, hv => exact hv | 2, hv => exact hv | 3, hv => exact hv | 4, hv => exact hv | 5, hv => exact hv | 6, hv => exact hv | 7, hv => exact hv | 8, hv => exact hv | 9, hv => cases hv | q + 10, hv => cases hv) (ihn (i + 1) (by omega) (by omega) (by rw [show 6 - i = (6 - (i + 1)) + 1 by omega] at hcl; simp only [mcl] at hcl; refine (Bool.or_eq_true_iff.mp hcl).elim (fun z => ?_) id; exfalso; clear hcl ihn; simp_all [bi_0, en_inj (ob_w (hu1 _) (by decide)) (ob_w hp (by decide)), en_inj (ob_w (hu2 _) (by decide)) (ob_w hq (by decide))]))
                · refine jr_aload_n d_Mo_method_224 rfl ?_
                  refine jr_iconst ((nI (3))) d_Mo_method_225 (by decide) ?_
                  refine jr_callV (As := [.int (nI 3)]) d_Mo_method_226 k_Mo_method_118 hO rfl rfl rfl (Nat.le_of_ble_eq_true rfl) (by decide) (by decide) (mo_fail hl hO hw) ?_
                  show jl_W l G m_Mo_method (0, 0) 229 [some (.ref 22), some (.int (nI k)), some (.int (nI sl)), some (.int (en p)), some (.int (en q)), some (.int (nI r)), some (.int (nI 0)), some (.int (nI (4 * k + sl))), some (.int (nI i)), some (.int (nI (((4) * (i)) + (sl))))] [.int (nI 0)] (σ.set (22) (.inr (7, [.int (nI 3), .ref 23, .ref 24, .ref 25, .ref 26, .ref 27, .ref 28, .ref 29, .ref 30, .ref 31, .ref 32, .ref 33, .ref 34, .ref 35, .ref 36, .ref 37, .int (vf), .int (wh), .int (wy), .ref 38, .ref 39, .ref 40, .ref 41, .int (hg), .ref 42, .ref 43, .ref 44, .ref 45, .ref 46, .ref 47, .ref 48, .ref 49, .int (dp), .ref 50, .ref 51, .ref 52, .int (md), .int (ov), .int (oh), .int (dn), .int (an)]))) (.inl (some (.int (nI 0)))) (σ.set 22 (.inr (7, MoF (nI 3) vf wh wy hg dp md ov oh dn an)))
                  exact jr_iretE d_Mo_method_229 rfl (rfl) (rfl) (by decide) (by decide)
          · refine jr_aload_n d_Mo_method_176 rfl ?_
            refine jr_iload_n d_Mo_method_177 rfl ?_
            refine jr_iload d_Mo_method_178 rfl ?_
            refine jr_callV (As := [.int (nI k), .int (nI i)]) d_Mo_method_180 k_Mo_method_136 hO rfl rfl rfl (Nat.le_of_ble_eq_true rfl) (by decide) (by decide) (mo_above (x := some i) hl hO hw (by omega) hd (fun z hz => by cases hz; omega)) ?_
            show jl_W l G m_Mo_method (0, 0) 183 [some (.ref 22), some (.int (nI k)), some (.int (nI sl)), some (.int (en p)), some (.int (en q)), some (.int (nI r)), some (.int (nI 0)), some (.int (nI (4 * k + sl))), some (.int (nI i)), some (.int (nI (((4) * (i)) + (sl))))] [.int (bi (ab pr k (some i)))] (σ) (.inl (some (.int (nI 0)))) (σ.set 22 (.inr (7, MoF (nI 3) vf wh wy hg dp md ov oh dn an)))
            refine jr_if_ne 189 d_Mo_method_183 (by decide) (fun c8 => ?_) (fun c8 => ?_)
            · refine jr_aload_n d_Mo_method_189 rfl ?_
              refine jr_getf d_Mo_method_190 f_Mo_method_26 hO rfl ?_
              refine jr_iload d_Mo_method_193 rfl ?_
              refine jr_ialdN d_Mo_method_195 h28 (by omega) (by omega) ?_
              refine jr_iload_n d_Mo_method_196 rfl ?_
              refine jr_icmp_ne 224 d_Mo_method_197 (by decide) (fun c9 => ?_) (fun c9 => ?_)
              · refine jr_aload_n d_Mo_method_224 rfl ?_
                refine jr_iconst ((nI (3))) d_Mo_method_225 (by decide) ?_
                refine jr_callV (As := [.int (nI 3)]) d_Mo_method_226 k_Mo_method_118 hO rfl rfl rfl (Nat.le_of_ble_eq_true rfl) (by decide) (by decide) (mo_fail hl hO hw) ?_
                show jl_W l G m_Mo_method (0, 0) 229 [some (.ref 22), some (.int (nI k)), some (.int (nI sl)), some (.int (en p)), some (.int (en q)), some (.int (nI r)), some (.int (nI 0)), some (.int (nI (4 * k + sl))), some (.int (nI i)), some (.int (nI (((4) * (i)) + (sl))))] [.int (nI 0)] (σ.set (22) (.inr (7, [.int (nI 3), .ref 23, .ref 24, .ref 25, .ref 26, .ref 27, .ref 28, .ref 29, .ref 30, .ref 31, .ref 32, .ref 33, .ref 34, .ref 35, .ref 36, .ref 37, .int (vf), .int (wh), .int (wy), .ref 38, .ref 39, .ref 40, .ref 41, .int (hg), .ref 42, .ref 43, .ref 44, .ref 45, .ref 46, .ref 47, .ref 48, .ref 49, .int (dp), .ref 50, .ref 51, .ref 52, .int (md), .int (ov), .int (oh), .int (dn), .int (an)]))) (.inl (some (.int (nI 0)))) (σ.set 22 (.inr (7, MoF (nI 3) vf wh wy hg dp md ov oh dn an)))
                exact jr_iretE d_Mo_method_229 rfl (rfl) (rfl) (by decide) (by decide)
              · refine jr_aload_n d_Mo_method_200 rfl ?_
                refine jr_getf d_Mo_method_201 f_Mo_method_29 hO rfl ?_
                refine jr_iload d_Mo_method_204 rfl ?_
                refine jr_ialdN d_Mo_method_206 h29 (by omega) (by omega) ?_
                refine jr_iload d_Mo_method_207 rfl ?_
                refine jr_icmp_ne 224 d_Mo_method_209 (by decide) (fun c10 => ?_) (fun c10 => ?_)
                · refine jr_aload_n d_Mo_method_224 rfl ?_
                  refine jr_iconst ((nI (3))) d_Mo_method_225 (by decide) ?_
                  refine jr_callV (As := [.int (nI 3)]) d_Mo_method_226 k_Mo_method_118 hO rfl rfl rfl (Nat.le_of_ble_eq_true rfl) (by decide) (by decide) (mo_fail hl hO hw) ?_
                  show jl_W l G m_Mo_method (0, 0) 229 [some (.ref 22), some (.int (nI k)), some (.int (nI sl)), some (.int (en p)), some (.int (en q)), some (.int (nI r)), some (.int (nI 0)), some (.int (nI (4 * k + sl))), some (.int (nI i)), some (.int (nI (((4) * (i)) + (sl))))] [.int (nI 0)] (σ.set (22) (.inr (7, [.int (nI 3), .ref 23, .ref 24, .ref 25, .ref 26, .ref 27, .ref 28, .ref 29, .ref 30, .ref 31, .ref 32, .ref 33, .ref 34, .ref 35, .ref 36, .ref 37, .int (vf), .int (wh), .int (wy), .ref 38, .ref 39, .ref 40, .ref 41, .int (hg), .ref 42, .ref 43, .ref 44, .ref 45, .ref 46, .ref 47, .ref 48, .ref 49, .int (dp), .ref 50, .ref 51, .ref 52, .int (md), .int (ov), .int (oh), .int (dn), .int (an)]))) (.inl (some (.int (nI 0)))) (σ.set 22 (.inr (7, MoF (nI 3) vf wh wy hg dp md ov oh dn an)))
                  exact jr_iretE d_Mo_method_229 rfl (rfl) (rfl) (by decide) (by decide)
                · refine jr_aload_n d_Mo_method_212 rfl ?_
                  refine jr_getf d_Mo_method_213 f_Mo_method_32 hO rfl ?_
                  refine jr_iload d_Mo_method_216 rfl ?_
                  refine jr_ialdN d_Mo_method_218 h30 (by omega) (by omega) ?_
                  refine jr_iload d_Mo_method_219 rfl ?_
                  refine jr_icmp_eqN 230 d_Mo_method_221 (by decide) (by omega) (by omega) (fun c11 => ?_) (fun c11 => ?_)
                  · refine jr_iinc ((nI (i + 1))) d_Mo_method_230 (by decide) rfl (jl_inc _) ?_
                    show jl_W l G m_Mo_method (0, 0) 233 [some (.ref 22), some (.int (nI k)), some (.int (nI sl)), some (.int (en p)), some (.int (en q)), some (.int (nI r)), some (.int (nI 0)), some (.int (nI (4 * k + sl))), some (.int (nI (i + 1))), some (.int (nI (((4) * (i)) + (sl))))] [] (σ) (.inl (some (.int (nI 0)))) (σ.set 22 (.inr (7, MoF (nI 3) vf wh wy hg dp md ov oh dn an)))
                    refine jr_goto 131 d_Mo_method_233 (by decide) ?_
                    exact jr_weak (fun q v hv => by match q, hv with | 0, hv => exact hv | 1, hv => exact hv | 2, hv => exact hv | 3, hv => exact hv | 4, hv => exact hv | 5, hv => exact hv | 6, hv => exact hv | 7, hv => exact hv | 8, hv => exact hv | 9, hv => cases hv | q + 10, hv => cases hv) (ihn (i + 1) (by omega) (by omega) (by rw [show 6 - i = (6 - (i + 1)) + 1 by omega] at hcl; simp only [mcl] at hcl; refine (Bool.or_eq_true_iff.mp hcl).elim (fun z => ?_) id; exfalso; clear hcl ihn; simp_all [bi_0, en_inj (ob_w (hu1 _) (by decide)) (ob_w hp (by decide)), en_inj (ob_w (hu2 _) (by decide)) (ob_w hq (by decide))]))
                  · refine jr_aload_n d_Mo_method_224 rfl ?_
                    refine jr_iconst ((nI (3))) d_Mo_method_225 (by decide) ?_
                    refine jr_callV (As := [.int (nI 3)]) d_Mo_method_226 k_Mo_method_118 hO rfl rfl rfl (Nat.le_of_ble_eq_true rfl) (by decide) (by decide) (mo_fail hl hO hw) ?_
                    show jl_W l G m_Mo_method (0, 0) 229 [some (.ref 22), some (.int (nI k)), some (.int (nI sl)), some (.int (en p)), some (.int (en q)), some (.int (nI r)), some (.int (nI 0)), some (.int (nI (4 * k + sl))), some (.int (nI i)), some (.int (nI (((4) * (i)) + (sl))))] [.int (nI 0)] (σ.set (22) (.inr (7, [.int (nI 3), .ref 23, .ref 24, .ref 25, .ref 26, .ref 27, .ref 28, .ref 29, .ref 30, .ref 31, .ref 32, .ref 33, .ref 34, .ref 35, .ref 36, .ref 37, .int (vf), .int (wh), .int (wy), .ref 38, .ref 39, .ref 40, .ref 41, .int (hg), .ref 42, .ref 43, .ref 44, .ref 45, .ref 46, .ref 47, .ref 48, .ref 49, .int (dp), .ref 50, .ref 51, .ref 52, .int (md), .int (ov), .int (oh), .int (dn), .int (an)]))) (.inl (some (.int (nI 0)))) (σ.set 22 (.inr (7, MoF (nI 3) vf wh wy hg dp md ov oh dn an)))
                    exact jr_iretE d_Mo_method_229 rfl (rfl) (rfl) (by decide) (by decide)
            · refine jr_goto 230 d_Mo_method_186 (by decide) ?_
              refine jr_iinc ((nI (i + 1))) d_Mo_method_230 (by decide) rfl (jl_inc _) ?_
              show jl_W l G m_Mo_method (0, 0) 233 [some (.ref 22), some (.int (nI k)), some (.int (nI sl)), some (.int (en p)), some (.int (en q)), some (.int (nI r)), some (.int (nI 0)), some (.int (nI (4 * k + sl))), some (.int (nI (i + 1))), some (.int (nI (((4) * (i)) + (sl))))] [] (σ) (.inl (some (.int (nI 0)))) (σ.set 22 (.inr (7, MoF (nI 3) vf wh wy hg dp md ov oh dn an)))
              refine jr_goto 131 d_Mo_method_233 (by decide) ?_
              exact jr_weak (fun q v hv => by match q, hv with | 0, hv => exact hv | 1, hv => exact hv | 2, hv => exact hv | 3, hv => exact hv | 4, hv => exact hv | 5, hv => exact hv | 6, hv => exact hv | 7, hv => exact hv | 8, hv => exact hv | 9, hv => cases hv | q + 10, hv => cases hv) (ihn (i + 1) (by omega) (by omega) (by rw [show 6 - i = (6 - (i + 1)) + 1 by omega] at hcl; simp only [mcl] at hcl; refine (Bool.or_eq_true_iff.mp hcl).elim (fun z => ?_) id; exfalso; clear hcl ihn; simp_all [bi_0, en_inj (ob_w (hu1 _) (by decide)) (ob_w hp (by decide)), en_inj (ob_w (hu2 _) (by decide)) (ob_w hq (by decide))]))
theorem d_Mo_method_281 : decode m_Mo_method.2.1 281 = .ok (.iload 9, 2) := by decide +kernel
theorem d_Mo_method_283 : decode m_Mo_method.2.1 283 = .ok (.iconst 4, 1) := by decide +kernel
theorem d_Mo_method_284 : decode m_Mo_method.2.1 284 = .ok (.if_icmp .ge 33, 3) := by decide +kernel
theorem d_Mo_method_317 : decode m_Mo_method.2.1 317 = .ok (.iload 8, 2) := by decide +kernel
theorem d_Mo_method_319 : decode m_Mo_method.2.1 319 = .ok (.ireturn, 1) := by decide +kernel
theorem d_Mo_method_287 : decode m_Mo_method.2.1 287 = .ok (.iload 8, 2) := by decide +kernel
theorem d_Mo_method_289 : decode m_Mo_method.2.1 289 = .ok (.aload_n 0, 1) := by decide +kernel
theorem d_Mo_method_290 : decode m_Mo_method.2.1 290 = .ok (.getfield 23, 3) := by decide +kernel
theorem d_Mo_method_293 : decode m_Mo_method.2.1 293 = .ok (.iconst 4, 1) := by decide +kernel
theorem d_Mo_method_294 : decode m_Mo_method.2.1 294 = .ok (.iload_n 1, 1) := by decide +kernel
theorem d_Mo_method_295 : decode m_Mo_method.2.1 295 = .ok (.imul, 1) := by decide +kernel
theorem d_Mo_method_296 : decode m_Mo_method.2.1 296 = .ok (.iload 9, 2) := by decide +kernel
theorem d_Mo_method_298 : decode m_Mo_method.2.1 298 = .ok (.iadd, 1) := by decide +kernel
theorem d_Mo_method_299 : decode m_Mo_method.2.1 299 = .ok (.baload, 1) := by decide +kernel
theorem d_Mo_method_300 : decode m_Mo_method.2.1 300 = .ok (.ifCond .eq 7, 3) := by decide +kernel
theorem d_Mo_method_307 : decode m_Mo_method.2.1 307 = .ok (.iconst 0, 1) := by decide +kernel
theorem d_Mo_method_308 : decode m_Mo_method.2.1 308 = .ok (.iadd, 1) := by decide +kernel
theorem d_Mo_method_309 : decode m_Mo_method.2.1 309 = .ok (.istore 8, 2) := by decide +kernel
theorem d_Mo_method_311 : decode m_Mo_method.2.1 311 = .ok (.iinc 9 1, 3) := by decide +kernel
theorem d_Mo_method_314 : decode m_Mo_method.2.1 314 = .ok (.goto (-33), 3) := by decide +kernel
theorem d_Mo_method_303 : decode m_Mo_method.2.1 303 = .ok (.iconst 1, 1) := by decide +kernel
theorem d_Mo_method_304 : decode m_Mo_method.2.1 304 = .ok (.goto 4, 3) := by decide +kernel
theorem mo_mcnt (hl : l.stackTraces = false) {k : Nat} {v2 v3 v4 v5 v6 v7 : Int32} (hO : MoO σ fa vf wh wy hg dp md ov oh dn an) (hw : MoW σ tb pr ow ft hs) (hk : k < 6) : ∀ (nn : Nat) (i n : Nat), 4 - i < nn → i ≤ 4 → n + (4 - i) ≤ 4 → jl_W l G m_Mo_method (0, 0) 281 [some (.ref 22), some (.int (nI k)), some (.int (v2)), some (.int (v3)), some (.int (v4)), some (.int (v5)), some (.int (v6)), some (.int (v7)), some (.int (nI n)), some (.int (nI i))] [] σ (.inl (some (.int (nI (n + cnt (fun j => hs (4 * k + j)) (4 - i) i))))) (σ) := by
  obtain ⟨h23, h24, h25, h26, h27⟩ := id hw
  intro nn
  induction nn with
  | zero => intro i n hnn; exact absurd hnn (Nat.not_lt_zero _)
  | succ nn ihn =>
    intro i n hnn hi hn
    refine jr_iload d_Mo_method_281 rfl ?_
    refine jr_iconst ((nI (4))) d_Mo_method_283 (by decide) ?_
    refine jr_icmp_geN 317 d_Mo_method_284 (by decide) (by omega) (by omega) (fun c1 => ?_) (fun c1 => ?_)
    · refine jr_iload d_Mo_method_317 rfl ?_
      exact jr_iretE d_Mo_method_319 rfl (by rw [show 4 - i = 0 by omega]; rfl) (rfl) (by decide) (by decide)
    · refine jr_iload d_Mo_method_287 rfl ?_
      refine jr_aload_n d_Mo_method_289 rfl ?_
      refine jr_getf d_Mo_method_290 f_Mo_method_23 hO rfl ?_
      refine jr_iconst ((nI (4))) d_Mo_method_293 (by decide) ?_
      refine jr_iload_n d_Mo_method_294 rfl ?_
      refine jr_imulN d_Mo_method_295 ?_
      refine jr_iload d_Mo_method_296 rfl ?_
      refine jr_iaddN d_Mo_method_298 ?_
      refine jr_baldN d_Mo_method_299 h27 (by omega) (by omega) ?_
      refine jr_if_eq 307 d_Mo_method_300 (by decide) (fun c2 => ?_) (fun c2 => ?_)
      · refine jr_iconst ((nI (0))) d_Mo_method_307 (by decide) ?_
        refine jr_iaddN d_Mo_method_308 ?_
        refine jr_istore d_Mo_method_309 (by decide) ?_
        show jl_W l G m_Mo_method (0, 0) 311 [some (.ref 22), some (.int (nI k)), some (.int (v2)), some (.int (v3)), some (.int (v4)), some (.int (v5)), some (.int (v6)), some (.int (v7)), some (.int (nI ((n) + (0)))), some (.int (nI i))] [] (σ) (.inl (some (.int (nI (n + cnt (fun j => hs (4 * k + j)) (4 - i) i))))) (σ)
        refine jr_iinc ((nI (i + 1))) d_Mo_method_311 (by decide) rfl (jl_inc _) ?_
        show jl_W l G m_Mo_method (0, 0) 314 [some (.ref 22), some (.int (nI k)), some (.int (v2)), some (.int (v3)), some (.int (v4)), some (.int (v5)), some (.int (v6)), some (.int (v7)), some (.int (nI ((n) + (0)))), some (.int (nI (i + 1)))] [] (σ) (.inl (some (.int (nI (n + cnt (fun j => hs (4 * k + j)) (4 - i) i))))) (σ)
        refine jr_goto 281 d_Mo_method_314 (by decide) ?_
        exact jl_oeq (by rw [show 4 - i = (4 - (i + 1)) + 1 by omega]; simp only [cnt]; rw [if_neg (by rw [bi_0.mp c2]; decide), Nat.zero_add]; rfl) (ihn (i + 1) ((n) + (0)) (by omega) (by omega) (by omega))
      · refine jr_iconst ((nI (1))) d_Mo_method_303 (by decide) ?_
        refine jr_goto 308 d_Mo_method_304 (by decide) ?_
        refine jr_iaddN d_Mo_method_308 ?_
        refine jr_istore d_Mo_method_309 (by decide) ?_
        show jl_W l G m_Mo_method (0, 0) 311 [some (.ref 22), some (.int (nI k)), some (.int (v2)), some (.int (v3)), some (.int (v4)), some (.int (v5)), some (.int (v6)), some (.int (v7)), some (.int (nI ((n) + (1)))), some (.int (nI i))] [] (σ) (.inl (some (.int (nI (n + cnt (fun j => hs (4 * k + j)) (4 - i) i))))) (σ)
        refine jr_iinc ((nI (i + 1))) d_Mo_method_311 (by decide) rfl (jl_inc _) ?_
        show jl_W l G m_Mo_method (0, 0) 314 [some (.ref 22), some (.int (nI k)), some (.int (v2)), some (.int (v3)), some (.int (v4)), some (.int (v5)), some (.int (v6)), some (.int (v7)), some (.int (nI ((n) + (1)))), some (.int (nI (i + 1)))] [] (σ) (.inl (some (.int (nI (n + cnt (fun j => hs (4 * k + j)) (4 - i) i))))) (σ)
        refine jr_goto 281 d_Mo_method_314 (by decide) ?_
        exact jl_oeq (by rw [show 4 - i = (4 - (i + 1)) + 1 by omega]; simp only [cnt]; rw [if_pos (bi_nf c2), Nat.add_assoc]) (ihn (i + 1) ((n) + (1)) (by omega) (by omega) (by omega))
theorem d_Mo_method_90 : decode m_Mo_method.2.1 90 = .ok (.aload_n 0, 1) := by decide +kernel
theorem d_Mo_method_91 : decode m_Mo_method.2.1 91 = .ok (.getfield 7, 3) := by decide +kernel
theorem d_Mo_method_94 : decode m_Mo_method.2.1 94 = .ok (.iload_n 1, 1) := by decide +kernel
theorem d_Mo_method_95 : decode m_Mo_method.2.1 95 = .ok (.baload, 1) := by decide +kernel
theorem d_Mo_method_96 : decode m_Mo_method.2.1 96 = .ok (.ifCond .ne 9, 3) := by decide +kernel
theorem d_Mo_method_99 : decode m_Mo_method.2.1 99 = .ok (.aload_n 0, 1) := by decide +kernel
theorem d_Mo_method_100 : decode m_Mo_method.2.1 100 = .ok (.iconst 2, 1) := by decide +kernel
theorem d_Mo_method_101 : decode m_Mo_method.2.1 101 = .ok (.invokevirtual 118, 3) := by decide +kernel
theorem d_Mo_method_104 : decode m_Mo_method.2.1 104 = .ok (.ireturn, 1) := by decide +kernel
theorem mo_m60_N (hl : l.stackTraces = false) {k sl r : Nat} {p q : Option Nat} (hO : MoO σ fa vf wh wy hg dp md ov oh dn an) (hw : MoW σ tb pr ow ft hs) (hk : k < 6) (hs4 : sl < 4) (ht : tb k = false) : jl_W l G m_Mo_method (0, 0) 60 [some (.ref 22), some (.int (nI k)), some (.int (nI sl)), some (.int (en p)), some (.int (en q)), some (.int (nI r)), some (.int (nI 0)), none, none, none] [] σ (.inl (some (.int (nI 0)))) (σ.set 22 (.inr (7, MoF (nI 2) vf wh wy hg dp md ov oh dn an))) := by
  obtain ⟨h23, h24, h25, h26, h27⟩ := id hw
  refine jr_aload_n d_Mo_method_60 rfl ?_
  refine jr_iload_n d_Mo_method_61 rfl ?_
  refine jr_bipush ((nI (6))) d_Mo_method_62 (by decide) ?_
  refine jr_callV (As := [.int (nI k), .int (nI 6)]) d_Mo_method_64 k_Mo_method_114 hO rfl rfl rfl (Nat.le_of_ble_eq_true rfl) (by decide) (by decide) (mo_outN hl hO hw (by decide) (by omega)) ?_
  show jl_W l G m_Mo_method (0, 0) 67 [some (.ref 22), some (.int (nI k)), some (.int (nI sl)), some (.int (en p)), some (.int (en q)), some (.int (nI r)), some (.int (nI 0)), none, none, none] [.int (nI 0)] (σ) (.inl (some (.int (nI 0)))) (σ.set 22 (.inr (7, MoF (nI 2) vf wh wy hg dp md ov oh dn an)))
  refine jr_if_ne 84 d_Mo_method_67 (by decide) (fun z => absurd rfl z) (fun _ => ?_)
  refine jr_aload_n d_Mo_method_70 rfl ?_
  refine jr_iload_n d_Mo_method_71 rfl ?_
  refine jr_iconst ((nI (4))) d_Mo_method_72 (by decide) ?_
  refine jr_callV (As := [.int (nI sl), .int (nI 4)]) d_Mo_method_73 k_Mo_method_114 hO rfl rfl rfl (Nat.le_of_ble_eq_true rfl) (by decide) (by decide) (mo_outN hl hO hw (by decide) (by omega)) ?_
  show jl_W l G m_Mo_method (0, 0) 76 [some (.ref 22), some (.int (nI k)), some (.int (nI sl)), some (.int (en p)), some (.int (en q)), some (.int (nI r)), some (.int (nI 0)), none, none, none] [.int (nI 0)] (σ) (.inl (some (.int (nI 0)))) (σ.set 22 (.inr (7, MoF (nI 2) vf wh wy hg dp md ov oh dn an)))
  refine jr_if_ne 84 d_Mo_method_76 (by decide) (fun z => absurd rfl z) (fun _ => ?_)
  refine jr_iload d_Mo_method_79 rfl ?_
  refine jr_if_eq 90 d_Mo_method_81 (by decide) (fun _ => ?_) (fun z => absurd (by decide) z)
  refine jr_aload_n d_Mo_method_90 rfl ?_
  refine jr_getf d_Mo_method_91 f_Mo_method_7 hO rfl ?_
  refine jr_iload_n d_Mo_method_94 rfl ?_
  refine jr_baldN d_Mo_method_95 h23 (by omega) (by omega) ?_
  refine jr_if_ne 105 d_Mo_method_96 (by decide) (fun c1 => ?_) (fun c1 => ?_)
  · exact absurd (bi_nf c1) (by rw [ht]; decide)
  · refine jr_aload_n d_Mo_method_99 rfl ?_
    refine jr_iconst ((nI (2))) d_Mo_method_100 (by decide) ?_
    refine jr_callV (As := [.int (nI 2)]) d_Mo_method_101 k_Mo_method_118 hO rfl rfl rfl (Nat.le_of_ble_eq_true rfl) (by decide) (by decide) (mo_fail hl hO hw) ?_
    show jl_W l G m_Mo_method (0, 0) 104 [some (.ref 22), some (.int (nI k)), some (.int (nI sl)), some (.int (en p)), some (.int (en q)), some (.int (nI r)), some (.int (nI 0)), none, none, none] [.int (nI 0)] (σ.set (22) (.inr (7, [.int (nI 2), .ref 23, .ref 24, .ref 25, .ref 26, .ref 27, .ref 28, .ref 29, .ref 30, .ref 31, .ref 32, .ref 33, .ref 34, .ref 35, .ref 36, .ref 37, .int (vf), .int (wh), .int (wy), .ref 38, .ref 39, .ref 40, .ref 41, .int (hg), .ref 42, .ref 43, .ref 44, .ref 45, .ref 46, .ref 47, .ref 48, .ref 49, .int (dp), .ref 50, .ref 51, .ref 52, .int (md), .int (ov), .int (oh), .int (dn), .int (an)]))) (.inl (some (.int (nI 0)))) (σ.set 22 (.inr (7, MoF (nI 2) vf wh wy hg dp md ov oh dn an)))
    exact jr_iretE d_Mo_method_104 rfl (rfl) (rfl) (by decide) (by decide)
theorem d_Mo_method_105 : decode m_Mo_method.2.1 105 = .ok (.iconst 4, 1) := by decide +kernel
theorem d_Mo_method_106 : decode m_Mo_method.2.1 106 = .ok (.iload_n 1, 1) := by decide +kernel
theorem d_Mo_method_107 : decode m_Mo_method.2.1 107 = .ok (.imul, 1) := by decide +kernel
theorem d_Mo_method_108 : decode m_Mo_method.2.1 108 = .ok (.iload_n 2, 1) := by decide +kernel
theorem d_Mo_method_109 : decode m_Mo_method.2.1 109 = .ok (.iadd, 1) := by decide +kernel
theorem d_Mo_method_110 : decode m_Mo_method.2.1 110 = .ok (.istore 7, 2) := by decide +kernel
theorem d_Mo_method_112 : decode m_Mo_method.2.1 112 = .ok (.aload_n 0, 1) := by decide +kernel
theorem d_Mo_method_113 : decode m_Mo_method.2.1 113 = .ok (.getfield 23, 3) := by decide +kernel
theorem d_Mo_method_116 : decode m_Mo_method.2.1 116 = .ok (.iload 7, 2) := by decide +kernel
theorem d_Mo_method_118 : decode m_Mo_method.2.1 118 = .ok (.baload, 1) := by decide +kernel
theorem d_Mo_method_119 : decode m_Mo_method.2.1 119 = .ok (.ifCond .eq 9, 3) := by decide +kernel
theorem d_Mo_method_122 : decode m_Mo_method.2.1 122 = .ok (.aload_n 0, 1) := by decide +kernel
theorem d_Mo_method_123 : decode m_Mo_method.2.1 123 = .ok (.iconst 3, 1) := by decide +kernel
theorem d_Mo_method_124 : decode m_Mo_method.2.1 124 = .ok (.invokevirtual 118, 3) := by decide +kernel
theorem d_Mo_method_127 : decode m_Mo_method.2.1 127 = .ok (.ireturn, 1) := by decide +kernel
theorem mo_m60_S1 (hl : l.stackTraces = false) {k sl r : Nat} {p q : Option Nat} (hO : MoO σ fa vf wh wy hg dp md ov oh dn an) (hw : MoW σ tb pr ow ft hs) (hk : k < 6) (hs4 : sl < 4) (ht : tb k = true) (hm : hs (4 * k + sl) = true) : jl_W l G m_Mo_method (0, 0) 60 [some (.ref 22), some (.int (nI k)), some (.int (nI sl)), some (.int (en p)), some (.int (en q)), some (.int (nI r)), some (.int (nI 0)), none, none, none] [] σ (.inl (some (.int (nI 0)))) (σ.set 22 (.inr (7, MoF (nI 3) vf wh wy hg dp md ov oh dn an))) := by
  obtain ⟨h23, h24, h25, h26, h27⟩ := id hw
  refine jr_aload_n d_Mo_method_60 rfl ?_
  refine jr_iload_n d_Mo_method_61 rfl ?_
  refine jr_bipush ((nI (6))) d_Mo_method_62 (by decide) ?_
  refine jr_callV (As := [.int (nI k), .int (nI 6)]) d_Mo_method_64 k_Mo_method_114 hO rfl rfl rfl (Nat.le_of_ble_eq_true rfl) (by decide) (by decide) (mo_outN hl hO hw (by decide) (by omega)) ?_
  show jl_W l G m_Mo_method (0, 0) 67 [some (.ref 22), some (.int (nI k)), some (.int (nI sl)), some (.int (en p)), some (.int (en q)), some (.int (nI r)), some (.int (nI 0)), none, none, none] [.int (nI 0)] (σ) (.inl (some (.int (nI 0)))) (σ.set 22 (.inr (7, MoF (nI 3) vf wh wy hg dp md ov oh dn an)))
  refine jr_if_ne 84 d_Mo_method_67 (by decide) (fun z => absurd rfl z) (fun _ => ?_)
  refine jr_aload_n d_Mo_method_70 rfl ?_
  refine jr_iload_n d_Mo_method_71 rfl ?_
  refine jr_iconst ((nI (4))) d_Mo_method_72 (by decide) ?_
  refine jr_callV (As := [.int (nI sl), .int (nI 4)]) d_Mo_method_73 k_Mo_method_114 hO rfl rfl rfl (Nat.le_of_ble_eq_true rfl) (by decide) (by decide) (mo_outN hl hO hw (by decide) (by omega)) ?_
  show jl_W l G m_Mo_method (0, 0) 76 [some (.ref 22), some (.int (nI k)), some (.int (nI sl)), some (.int (en p)), some (.int (en q)), some (.int (nI r)), some (.int (nI 0)), none, none, none] [.int (nI 0)] (σ) (.inl (some (.int (nI 0)))) (σ.set 22 (.inr (7, MoF (nI 3) vf wh wy hg dp md ov oh dn an)))
  refine jr_if_ne 84 d_Mo_method_76 (by decide) (fun z => absurd rfl z) (fun _ => ?_)
  refine jr_iload d_Mo_method_79 rfl ?_
  refine jr_if_eq 90 d_Mo_method_81 (by decide) (fun _ => ?_) (fun z => absurd (by decide) z)
  refine jr_aload_n d_Mo_method_90 rfl ?_
  refine jr_getf d_Mo_method_91 f_Mo_method_7 hO rfl ?_
  refine jr_iload_n d_Mo_method_94 rfl ?_
  refine jr_baldN d_Mo_method_95 h23 (by omega) (by omega) ?_
  refine jr_if_ne 105 d_Mo_method_96 (by decide) (fun c1 => ?_) (fun c1 => ?_)
  · refine jr_iconst ((nI (4))) d_Mo_method_105 (by decide) ?_
    refine jr_iload_n d_Mo_method_106 rfl ?_
    refine jr_imulN d_Mo_method_107 ?_
    refine jr_iload_n d_Mo_method_108 rfl ?_
    refine jr_iaddN d_Mo_method_109 ?_
    refine jr_istore d_Mo_method_110 (by decide) ?_
    show jl_W l G m_Mo_method (0, 0) 112 [some (.ref 22), some (.int (nI k)), some (.int (nI sl)), some (.int (en p)), some (.int (en q)), some (.int (nI r)), some (.int (nI 0)), some (.int (nI (((4) * (k)) + (sl)))), none, none] [] (σ) (.inl (some (.int (nI 0)))) (σ.set 22 (.inr (7, MoF (nI 3) vf wh wy hg dp md ov oh dn an)))
    refine jr_aload_n d_Mo_method_112 rfl ?_
    refine jr_getf d_Mo_method_113 f_Mo_method_23 hO rfl ?_
    refine jr_iload d_Mo_method_116 rfl ?_
    refine jr_baldN d_Mo_method_118 h27 (by omega) (by omega) ?_
    refine jr_if_eq 128 d_Mo_method_119 (by decide) (fun c2 => ?_) (fun c2 => ?_)
    · exact absurd (bi_0.mp c2) (by rw [hm]; decide)
    · refine jr_aload_n d_Mo_method_122 rfl ?_
      refine jr_iconst ((nI (3))) d_Mo_method_123 (by decide) ?_
      refine jr_callV (As := [.int (nI 3)]) d_Mo_method_124 k_Mo_method_118 hO rfl rfl rfl (Nat.le_of_ble_eq_true rfl) (by decide) (by decide) (mo_fail hl hO hw) ?_
      show jl_W l G m_Mo_method (0, 0) 127 [some (.ref 22), some (.int (nI k)), some (.int (nI sl)), some (.int (en p)), some (.int (en q)), some (.int (nI r)), some (.int (nI 0)), some (.int (nI (((4) * (k)) + (sl)))), none, none] [.int (nI 0)] (σ.set (22) (.inr (7, [.int (nI 3), .ref 23, .ref 24, .ref 25, .ref 26, .ref 27, .ref 28, .ref 29, .ref 30, .ref 31, .ref 32, .ref 33, .ref 34, .ref 35, .ref 36, .ref 37, .int (vf), .int (wh), .int (wy), .ref 38, .ref 39, .ref 40, .ref 41, .int (hg), .ref 42, .ref 43, .ref 44, .ref 45, .ref 46, .ref 47, .ref 48, .ref 49, .int (dp), .ref 50, .ref 51, .ref 52, .int (md), .int (ov), .int (oh), .int (dn), .int (an)]))) (.inl (some (.int (nI 0)))) (σ.set 22 (.inr (7, MoF (nI 3) vf wh wy hg dp md ov oh dn an)))
      exact jr_iretE d_Mo_method_127 rfl (rfl) (rfl) (by decide) (by decide)
  · exact absurd (bi_0.mp c1) (by rw [ht]; decide)
theorem d_Mo_method_128 : decode m_Mo_method.2.1 128 = .ok (.iconst 0, 1) := by decide +kernel
theorem d_Mo_method_129 : decode m_Mo_method.2.1 129 = .ok (.istore 8, 2) := by decide +kernel
theorem mo_m60_S2 (hl : l.stackTraces = false) {k sl r : Nat} {p q : Option Nat} (hO : MoO σ fa vf wh wy hg dp md ov oh dn an) (hw : MoW σ tb pr ow ft hs) (hu : MoM σ u1 u2 ur ul uo ua uc us ut uk) (hk : k < 6) (hs4 : sl < 4) (hd : dsc pr) (hp : ob 16 p) (hq : ob 16 q) (hr : r < 16) (hu1 : ∀ j, ob 16 (u1 j)) (hu2 : ∀ j, ob 16 (u2 j)) (hur : ∀ j, ur j < 16) (ht : tb k = true) (hm : hs (4 * k + sl) = false) (hcl : mcl tb pr hs u1 u2 ur k sl p q r 6 0 = true) : jl_W l G m_Mo_method (0, 0) 60 [some (.ref 22), some (.int (nI k)), some (.int (nI sl)), some (.int (en p)), some (.int (en q)), some (.int (nI r)), some (.int (nI 0)), none, none, none] [] σ (.inl (some (.int (nI 0)))) (σ.set 22 (.inr (7, MoF (nI 3) vf wh wy hg dp md ov oh dn an))) := by
  obtain ⟨h23, h24, h25, h26, h27⟩ := id hw; obtain ⟨h28, h29, h30, h31, h32, h33, h34, h35, h36, h37⟩ := id hu
  refine jr_aload_n d_Mo_method_60 rfl ?_
  refine jr_iload_n d_Mo_method_61 rfl ?_
  refine jr_bipush ((nI (6))) d_Mo_method_62 (by decide) ?_
  refine jr_callV (As := [.int (nI k), .int (nI 6)]) d_Mo_method_64 k_Mo_method_114 hO rfl rfl rfl (Nat.le_of_ble_eq_true rfl) (by decide) (by decide) (mo_outN hl hO hw (by decide) (by omega)) ?_
  show jl_W l G m_Mo_method (0, 0) 67 [some (.ref 22), some (.int (nI k)), some (.int (nI sl)), some (.int (en p)), some (.int (en q)), some (.int (nI r)), some (.int (nI 0)), none, none, none] [.int (nI 0)] (σ) (.inl (some (.int (nI 0)))) (σ.set 22 (.inr (7, MoF (nI 3) vf wh wy hg dp md ov oh dn an)))
  refine jr_if_ne 84 d_Mo_method_67 (by decide) (fun z => absurd rfl z) (fun _ => ?_)
  refine jr_aload_n d_Mo_method_70 rfl ?_
  refine jr_iload_n d_Mo_method_71 rfl ?_
  refine jr_iconst ((nI (4))) d_Mo_method_72 (by decide) ?_
  refine jr_callV (As := [.int (nI sl), .int (nI 4)]) d_Mo_method_73 k_Mo_method_114 hO rfl rfl rfl (Nat.le_of_ble_eq_true rfl) (by decide) (by decide) (mo_outN hl hO hw (by decide) (by omega)) ?_
  show jl_W l G m_Mo_method (0, 0) 76 [some (.ref 22), some (.int (nI k)), some (.int (nI sl)), some (.int (en p)), some (.int (en q)), some (.int (nI r)), some (.int (nI 0)), none, none, none] [.int (nI 0)] (σ) (.inl (some (.int (nI 0)))) (σ.set 22 (.inr (7, MoF (nI 3) vf wh wy hg dp md ov oh dn an)))
  refine jr_if_ne 84 d_Mo_method_76 (by decide) (fun z => absurd rfl z) (fun _ => ?_)
  refine jr_iload d_Mo_method_79 rfl ?_
  refine jr_if_eq 90 d_Mo_method_81 (by decide) (fun _ => ?_) (fun z => absurd (by decide) z)
  refine jr_aload_n d_Mo_method_90 rfl ?_
  refine jr_getf d_Mo_method_91 f_Mo_method_7 hO rfl ?_
  refine jr_iload_n d_Mo_method_94 rfl ?_
  refine jr_baldN d_Mo_method_95 h23 (by omega) (by omega) ?_
  refine jr_if_ne 105 d_Mo_method_96 (by decide) (fun c1 => ?_) (fun c1 => ?_)
  · refine jr_iconst ((nI (4))) d_Mo_method_105 (by decide) ?_
    refine jr_iload_n d_Mo_method_106 rfl ?_
    refine jr_imulN d_Mo_method_107 ?_
    refine jr_iload_n d_Mo_method_108 rfl ?_
    refine jr_iaddN d_Mo_method_109 ?_
    refine jr_istore d_Mo_method_110 (by decide) ?_
    show jl_W l G m_Mo_method (0, 0) 112 [some (.ref 22), some (.int (nI k)), some (.int (nI sl)), some (.int (en p)), some (.int (en q)), some (.int (nI r)), some (.int (nI 0)), some (.int (nI (((4) * (k)) + (sl)))), none, none] [] (σ) (.inl (some (.int (nI 0)))) (σ.set 22 (.inr (7, MoF (nI 3) vf wh wy hg dp md ov oh dn an)))
    refine jr_aload_n d_Mo_method_112 rfl ?_
    refine jr_getf d_Mo_method_113 f_Mo_method_23 hO rfl ?_
    refine jr_iload d_Mo_method_116 rfl ?_
    refine jr_baldN d_Mo_method_118 h27 (by omega) (by omega) ?_
    refine jr_if_eq 128 d_Mo_method_119 (by decide) (fun c2 => ?_) (fun c2 => ?_)
    · refine jr_iconst ((nI (0))) d_Mo_method_128 (by decide) ?_
      refine jr_istore d_Mo_method_129 (by decide) ?_
      show jl_W l G m_Mo_method (0, 0) 131 [some (.ref 22), some (.int (nI k)), some (.int (nI sl)), some (.int (en p)), some (.int (en q)), some (.int (nI r)), some (.int (nI 0)), some (.int (nI (((4) * (k)) + (sl)))), some (.int (nI 0)), none] [] (σ) (.inl (some (.int (nI 0)))) (σ.set 22 (.inr (7, MoF (nI 3) vf wh wy hg dp md ov oh dn an)))
      exact mo_mcl_T hl hO hw hu hk hs4 hd hp hq hr hu1 hu2 hur 7 0 (by omega) (by omega) hcl
    · exact absurd (bi_nf c2) (by rw [hm]; decide)
  · exact absurd (bi_0.mp c1) (by rw [ht]; decide)
theorem d_Mo_method_236 : decode m_Mo_method.2.1 236 = .ok (.aload_n 0, 1) := by decide +kernel
theorem d_Mo_method_237 : decode m_Mo_method.2.1 237 = .ok (.getfield 23, 3) := by decide +kernel
theorem d_Mo_method_240 : decode m_Mo_method.2.1 240 = .ok (.iload 7, 2) := by decide +kernel
theorem d_Mo_method_242 : decode m_Mo_method.2.1 242 = .ok (.iconst 1, 1) := by decide +kernel
theorem d_Mo_method_243 : decode m_Mo_method.2.1 243 = .ok (.bastore, 1) := by decide +kernel
theorem d_Mo_method_244 : decode m_Mo_method.2.1 244 = .ok (.aload_n 0, 1) := by decide +kernel
theorem d_Mo_method_245 : decode m_Mo_method.2.1 245 = .ok (.getfield 26, 3) := by decide +kernel
theorem d_Mo_method_248 : decode m_Mo_method.2.1 248 = .ok (.iload 7, 2) := by decide +kernel
theorem d_Mo_method_250 : decode m_Mo_method.2.1 250 = .ok (.iload_n 3, 1) := by decide +kernel
theorem d_Mo_method_251 : decode m_Mo_method.2.1 251 = .ok (.iastore, 1) := by decide +kernel
theorem d_Mo_method_252 : decode m_Mo_method.2.1 252 = .ok (.aload_n 0, 1) := by decide +kernel
theorem d_Mo_method_253 : decode m_Mo_method.2.1 253 = .ok (.getfield 29, 3) := by decide +kernel
theorem d_Mo_method_256 : decode m_Mo_method.2.1 256 = .ok (.iload 7, 2) := by decide +kernel
theorem d_Mo_method_258 : decode m_Mo_method.2.1 258 = .ok (.iload 4, 2) := by decide +kernel
theorem d_Mo_method_260 : decode m_Mo_method.2.1 260 = .ok (.iastore, 1) := by decide +kernel
theorem d_Mo_method_261 : decode m_Mo_method.2.1 261 = .ok (.aload_n 0, 1) := by decide +kernel
theorem d_Mo_method_262 : decode m_Mo_method.2.1 262 = .ok (.getfield 32, 3) := by decide +kernel
theorem d_Mo_method_265 : decode m_Mo_method.2.1 265 = .ok (.iload 7, 2) := by decide +kernel
theorem d_Mo_method_267 : decode m_Mo_method.2.1 267 = .ok (.iload 5, 2) := by decide +kernel
theorem d_Mo_method_269 : decode m_Mo_method.2.1 269 = .ok (.iastore, 1) := by decide +kernel
theorem d_Mo_method_270 : decode m_Mo_method.2.1 270 = .ok (.aload_n 0, 1) := by decide +kernel
theorem d_Mo_method_271 : decode m_Mo_method.2.1 271 = .ok (.iconst 0, 1) := by decide +kernel
theorem p_Mo_method_122 : jl_fp m_Mo_method 122 7 16 = true := by decide +kernel
theorem d_Mo_method_272 : decode m_Mo_method.2.1 272 = .ok (.putfield 122, 3) := by decide +kernel
theorem d_Mo_method_275 : decode m_Mo_method.2.1 275 = .ok (.iconst 0, 1) := by decide +kernel
theorem d_Mo_method_276 : decode m_Mo_method.2.1 276 = .ok (.istore 8, 2) := by decide +kernel
theorem d_Mo_method_278 : decode m_Mo_method.2.1 278 = .ok (.iconst 0, 1) := by decide +kernel
theorem d_Mo_method_279 : decode m_Mo_method.2.1 279 = .ok (.istore 9, 2) := by decide +kernel
theorem mo_m60 (hl : l.stackTraces = false) {k sl r : Nat} {p q : Option Nat} (hO : MoO σ fa vf wh wy hg dp md ov oh dn an) (hw : MoW σ tb pr ow ft hs) (hu : MoM σ u1 u2 ur ul uo ua uc us ut uk) (hk : k < 6) (hs4 : sl < 4) (hd : dsc pr) (hp : ob 16 p) (hq : ob 16 q) (hr : r < 16) (hu1 : ∀ j, ob 16 (u1 j)) (hu2 : ∀ j, ob 16 (u2 j)) (hur : ∀ j, ur j < 16) (ht : tb k = true) (hm : hs (4 * k + sl) = false) (hcl : mcl tb pr hs u1 u2 ur k sl p q r 6 0 = false) : jl_W l G m_Mo_method (0, 0) 60 [some (.ref 22), some (.int (nI k)), some (.int (nI sl)), some (.int (en p)), some (.int (en q)), some (.int (nI r)), some (.int (nI 0)), none, none, none] [] σ (.inl (some (.int (nI (cnt (fun j => va_up hs (4 * k + sl) true (4 * k + j)) 4 0))))) (((((σ.set 27 (.inl (1, 24, .inl fun j => bi (va_up hs (4 * k + sl) true j)))).set 28 (.inl (0, 24, .inl fun j => en (va_up u1 (4 * k + sl) p j)))).set 29 (.inl (0, 24, .inl fun j => en (va_up u2 (4 * k + sl) q j)))).set 30 (.inl (0, 24, .inl fun j => nI (va_up ur (4 * k + sl) r j)))).set 22 (.inr (7, MoF fa (nI 0) wh wy hg dp md ov oh dn an))) := by
  obtain ⟨h23, h24, h25, h26, h27⟩ := id hw; obtain ⟨h28, h29, h30, h31, h32, h33, h34, h35, h36, h37⟩ := id hu
  refine jr_aload_n d_Mo_method_60 rfl ?_
  refine jr_iload_n d_Mo_method_61 rfl ?_
  refine jr_bipush ((nI (6))) d_Mo_method_62 (by decide) ?_
  refine jr_callV (As := [.int (nI k), .int (nI 6)]) d_Mo_method_64 k_Mo_method_114 hO rfl rfl rfl (Nat.le_of_ble_eq_true rfl) (by decide) (by decide) (mo_outN hl hO hw (by decide) (by omega)) ?_
  show jl_W l G m_Mo_method (0, 0) 67 [some (.ref 22), some (.int (nI k)), some (.int (nI sl)), some (.int (en p)), some (.int (en q)), some (.int (nI r)), some (.int (nI 0)), none, none, none] [.int (nI 0)] (σ) (.inl (some (.int (nI (cnt (fun j => va_up hs (4 * k + sl) true (4 * k + j)) 4 0))))) (((((σ.set 27 (.inl (1, 24, .inl fun j => bi (va_up hs (4 * k + sl) true j)))).set 28 (.inl (0, 24, .inl fun j => en (va_up u1 (4 * k + sl) p j)))).set 29 (.inl (0, 24, .inl fun j => en (va_up u2 (4 * k + sl) q j)))).set 30 (.inl (0, 24, .inl fun j => nI (va_up ur (4 * k + sl) r j)))).set 22 (.inr (7, MoF fa (nI 0) wh wy hg dp md ov oh dn an)))
  refine jr_if_ne 84 d_Mo_method_67 (by decide) (fun z => absurd rfl z) (fun _ => ?_)
  refine jr_aload_n d_Mo_method_70 rfl ?_
  refine jr_iload_n d_Mo_method_71 rfl ?_
  refine jr_iconst ((nI (4))) d_Mo_method_72 (by decide) ?_
  refine jr_callV (As := [.int (nI sl), .int (nI 4)]) d_Mo_method_73 k_Mo_method_114 hO rfl rfl rfl (Nat.le_of_ble_eq_true rfl) (by decide) (by decide) (mo_outN hl hO hw (by decide) (by omega)) ?_
  show jl_W l G m_Mo_method (0, 0) 76 [some (.ref 22), some (.int (nI k)), some (.int (nI sl)), some (.int (en p)), some (.int (en q)), some (.int (nI r)), some (.int (nI 0)), none, none, none] [.int (nI 0)] (σ) (.inl (some (.int (nI (cnt (fun j => va_up hs (4 * k + sl) true (4 * k + j)) 4 0))))) (((((σ.set 27 (.inl (1, 24, .inl fun j => bi (va_up hs (4 * k + sl) true j)))).set 28 (.inl (0, 24, .inl fun j => en (va_up u1 (4 * k + sl) p j)))).set 29 (.inl (0, 24, .inl fun j => en (va_up u2 (4 * k + sl) q j)))).set 30 (.inl (0, 24, .inl fun j => nI (va_up ur (4 * k + sl) r j)))).set 22 (.inr (7, MoF fa (nI 0) wh wy hg dp md ov oh dn an)))
  refine jr_if_ne 84 d_Mo_method_76 (by decide) (fun z => absurd rfl z) (fun _ => ?_)
  refine jr_iload d_Mo_method_79 rfl ?_
  refine jr_if_eq 90 d_Mo_method_81 (by decide) (fun _ => ?_) (fun z => absurd (by decide) z)
  refine jr_aload_n d_Mo_method_90 rfl ?_
  refine jr_getf d_Mo_method_91 f_Mo_method_7 hO rfl ?_
  refine jr_iload_n d_Mo_method_94 rfl ?_
  refine jr_baldN d_Mo_method_95 h23 (by omega) (by omega) ?_
  refine jr_if_ne 105 d_Mo_method_96 (by decide) (fun c1 => ?_) (fun c1 => ?_)
  · refine jr_iconst ((nI (4))) d_Mo_method_105 (by decide) ?_
    refine jr_iload_n d_Mo_method_106 rfl ?_
    refine jr_imulN d_Mo_method_107 ?_
    refine jr_iload_n d_Mo_method_108 rfl ?_
    refine jr_iaddN d_Mo_method_109 ?_
    refine jr_istore d_Mo_method_110 (by decide) ?_
    show jl_W l G m_Mo_method (0, 0) 112 [some (.ref 22), some (.int (nI k)), some (.int (nI sl)), some (.int (en p)), some (.int (en q)), some (.int (nI r)), some (.int (nI 0)), some (.int (nI (((4) * (k)) + (sl)))), none, none] [] (σ) (.inl (some (.int (nI (cnt (fun j => va_up hs (4 * k + sl) true (4 * k + j)) 4 0))))) (((((σ.set 27 (.inl (1, 24, .inl fun j => bi (va_up hs (4 * k + sl) true j)))).set 28 (.inl (0, 24, .inl fun j => en (va_up u1 (4 * k + sl) p j)))).set 29 (.inl (0, 24, .inl fun j => en (va_up u2 (4 * k + sl) q j)))).set 30 (.inl (0, 24, .inl fun j => nI (va_up ur (4 * k + sl) r j)))).set 22 (.inr (7, MoF fa (nI 0) wh wy hg dp md ov oh dn an)))
    refine jr_aload_n d_Mo_method_112 rfl ?_
    refine jr_getf d_Mo_method_113 f_Mo_method_23 hO rfl ?_
    refine jr_iload d_Mo_method_116 rfl ?_
    refine jr_baldN d_Mo_method_118 h27 (by omega) (by omega) ?_
    refine jr_if_eq 128 d_Mo_method_119 (by decide) (fun c2 => ?_) (fun c2 => ?_)
    · refine jr_iconst ((nI (0))) d_Mo_method_128 (by decide) ?_
      refine jr_istore d_Mo_method_129 (by decide) ?_
      show jl_W l G m_Mo_method (0, 0) 131 [some (.ref 22), some (.int (nI k)), some (.int (nI sl)), some (.int (en p)), some (.int (en q)), some (.int (nI r)), some (.int (nI 0)), some (.int (nI (((4) * (k)) + (sl)))), some (.int (nI 0)), none] [] (σ) (.inl (some (.int (nI (cnt (fun j => va_up hs (4 * k + sl) true (4 * k + j)) 4 0))))) (((((σ.set 27 (.inl (1, 24, .inl fun j => bi (va_up hs (4 * k + sl) true j)))).set 28 (.inl (0, 24, .inl fun j => en (va_up u1 (4 * k + sl) p j)))).set 29 (.inl (0, 24, .inl fun j => en (va_up u2 (4 * k + sl) q j)))).set 30 (.inl (0, 24, .inl fun j => nI (va_up ur (4 * k + sl) r j)))).set 22 (.inr (7, MoF fa (nI 0) wh wy hg dp md ov oh dn an)))
      refine mo_mcl_F hl hO hw hu hk hs4 hd hp hq hr hu1 hu2 hur ?_ 7 0 (by omega) (by omega) hcl
      show jl_W l G m_Mo_method (0, 0) 236 [some (.ref 22), some (.int (nI k)), some (.int (nI sl)), some (.int (en p)), some (.int (en q)), some (.int (nI r)), some (.int (nI 0)), some (.int (nI (((4) * (k)) + (sl)))), none, none] [] (σ) (.inl (some (.int (nI (cnt (fun j => va_up hs (4 * k + sl) true (4 * k + j)) 4 0))))) (((((σ.set 27 (.inl (1, 24, .inl fun j => bi (va_up hs (4 * k + sl) true j)))).set 28 (.inl (0, 24, .inl fun j => en (va_up u1 (4 * k + sl) p j)))).set 29 (.inl (0, 24, .inl fun j => en (va_up u2 (4 * k + sl) q j)))).set 30 (.inl (0, 24, .inl fun j => nI (va_up ur (4 * k + sl) r j)))).set 22 (.inr (7, MoF fa (nI 0) wh wy hg dp md ov oh dn an)))
      refine jr_aload_n d_Mo_method_236 rfl ?_
      refine jr_getf d_Mo_method_237 f_Mo_method_23 hO rfl ?_
      refine jr_iload d_Mo_method_240 rfl ?_
      refine jr_iconst ((nI (1))) d_Mo_method_242 (by decide) ?_
      refine jr_bastN d_Mo_method_243 h27 (by omega) (by omega) (by decide) ?_
      rw [show upd (fun j => bi (hs j)) (((4) * (k)) + (sl)) ((nI (1))) = (fun j => bi ((va_up hs (((4) * (k)) + (sl)) (true)) j)) from bi_up hs (((4) * (k)) + (sl)) (true)]
      show jl_W l G m_Mo_method (0, 0) 244 [some (.ref 22), some (.int (nI k)), some (.int (nI sl)), some (.int (en p)), some (.int (en q)), some (.int (nI r)), some (.int (nI 0)), some (.int (nI (((4) * (k)) + (sl)))), none, none] [] (σ.set (27) (.inl (1, 24, .inl (fun j => bi ((va_up hs (((4) * (k)) + (sl)) (true)) j))))) (.inl (some (.int (nI (cnt (fun j => va_up hs (4 * k + sl) true (4 * k + j)) 4 0))))) (((((σ.set 27 (.inl (1, 24, .inl fun j => bi (va_up hs (4 * k + sl) true j)))).set 28 (.inl (0, 24, .inl fun j => en (va_up u1 (4 * k + sl) p j)))).set 29 (.inl (0, 24, .inl fun j => en (va_up u2 (4 * k + sl) q j)))).set 30 (.inl (0, 24, .inl fun j => nI (va_up ur (4 * k + sl) r j)))).set 22 (.inr (7, MoF fa (nI 0) wh wy hg dp md ov oh dn an)))
      refine jr_aload_n d_Mo_method_244 rfl ?_
      refine jr_getf d_Mo_method_245 f_Mo_method_26 (jl_sn (by decide) hO) rfl ?_
      refine jr_iload d_Mo_method_248 rfl ?_
      refine jr_iload_n d_Mo_method_250 rfl ?_
      refine jr_iastN d_Mo_method_251 (jl_sn (by decide) h28) (by omega) (by omega) ?_
      rw [show upd (fun j => en (u1 j)) (((4) * (k)) + (sl)) ((en p)) = (fun j => en ((va_up u1 (((4) * (k)) + (sl)) (p)) j)) from en_up u1 (((4) * (k)) + (sl)) (p)]
      show jl_W l G m_Mo_method (0, 0) 252 [some (.ref 22), some (.int (nI k)), some (.int (nI sl)), some (.int (en p)), some (.int (en q)), some (.int (nI r)), some (.int (nI 0)), some (.int (nI (((4) * (k)) + (sl)))), none, none] [] ((σ.set (27) (.inl (1, 24, .inl (fun j => bi ((va_up hs (((4) * (k)) + (sl)) (true)) j))))).set (28) (.inl (0, 24, .inl (fun j => en ((va_up u1 (((4) * (k)) + (sl)) (p)) j))))) (.inl (some (.int (nI (cnt (fun j => va_up hs (4 * k + sl) true (4 * k + j)) 4 0))))) (((((σ.set 27 (.inl (1, 24, .inl fun j => bi (va_up hs (4 * k + sl) true j)))).set 28 (.inl (0, 24, .inl fun j => en (va_up u1 (4 * k + sl) p j)))).set 29 (.inl (0, 24, .inl fun j => en (va_up u2 (4 * k + sl) q j)))).set 30 (.inl (0, 24, .inl fun j => nI (va_up ur (4 * k + sl) r j)))).set 22 (.inr (7, MoF fa (nI 0) wh wy hg dp md ov oh dn an)))
      refine jr_aload_n d_Mo_method_252 rfl ?_
      refine jr_getf d_Mo_method_253 f_Mo_method_29 (jl_sn (by decide) (jl_sn (by decide) hO)) rfl ?_
      refine jr_iload d_Mo_method_256 rfl ?_
      refine jr_iload d_Mo_method_258 rfl ?_
      refine jr_iastN d_Mo_method_260 (jl_sn (by decide) (jl_sn (by decide) h29)) (by omega) (by omega) ?_
      rw [show upd (fun j => en (u2 j)) (((4) * (k)) + (sl)) ((en q)) = (fun j => en ((va_up u2 (((4) * (k)) + (sl)) (q)) j)) from en_up u2 (((4) * (k)) + (sl)) (q)]
      show jl_W l G m_Mo_method (0, 0) 261 [some (.ref 22), some (.int (nI k)), some (.int (nI sl)), some (.int (en p)), some (.int (en q)), some (.int (nI r)), some (.int (nI 0)), some (.int (nI (((4) * (k)) + (sl)))), none, none] [] (((σ.set (27) (.inl (1, 24, .inl (fun j => bi ((va_up hs (((4) * (k)) + (sl)) (true)) j))))).set (28) (.inl (0, 24, .inl (fun j => en ((va_up u1 (((4) * (k)) + (sl)) (p)) j))))).set (29) (.inl (0, 24, .inl (fun j => en ((va_up u2 (((4) * (k)) + (sl)) (q)) j))))) (.inl (some (.int (nI (cnt (fun j => va_up hs (4 * k + sl) true (4 * k + j)) 4 0))))) (((((σ.set 27 (.inl (1, 24, .inl fun j => bi (va_up hs (4 * k + sl) true j)))).set 28 (.inl (0, 24, .inl fun j => en (va_up u1 (4 * k + sl) p j)))).set 29 (.inl (0, 24, .inl fun j => en (va_up u2 (4 * k + sl) q j)))).set 30 (.inl (0, 24, .inl fun j => nI (va_up ur (4 * k + sl) r j)))).set 22 (.inr (7, MoF fa (nI 0) wh wy hg dp md ov oh dn an)))
      refine jr_aload_n d_Mo_method_261 rfl ?_
      refine jr_getf d_Mo_method_262 f_Mo_method_32 (jl_sn (by decide) (jl_sn (by decide) (jl_sn (by decide) hO))) rfl ?_
      refine jr_iload d_Mo_method_265 rfl ?_
      refine jr_iload d_Mo_method_267 rfl ?_
      refine jr_iastN d_Mo_method_269 (jl_sn (by decide) (jl_sn (by decide) (jl_sn (by decide) h30))) (by omega) (by omega) ?_
      rw [show upd (fun j => nI (ur j)) (((4) * (k)) + (sl)) ((nI (r))) = (fun j => nI ((va_up ur (((4) * (k)) + (sl)) (r)) j)) from nI_up ur (((4) * (k)) + (sl)) (r)]
      show jl_W l G m_Mo_method (0, 0) 270 [some (.ref 22), some (.int (nI k)), some (.int (nI sl)), some (.int (en p)), some (.int (en q)), some (.int (nI r)), some (.int (nI 0)), some (.int (nI (((4) * (k)) + (sl)))), none, none] [] ((((σ.set (27) (.inl (1, 24, .inl (fun j => bi ((va_up hs (((4) * (k)) + (sl)) (true)) j))))).set (28) (.inl (0, 24, .inl (fun j => en ((va_up u1 (((4) * (k)) + (sl)) (p)) j))))).set (29) (.inl (0, 24, .inl (fun j => en ((va_up u2 (((4) * (k)) + (sl)) (q)) j))))).set (30) (.inl (0, 24, .inl (fun j => nI ((va_up ur (((4) * (k)) + (sl)) (r)) j))))) (.inl (some (.int (nI (cnt (fun j => va_up hs (4 * k + sl) true (4 * k + j)) 4 0))))) (((((σ.set 27 (.inl (1, 24, .inl fun j => bi (va_up hs (4 * k + sl) true j)))).set 28 (.inl (0, 24, .inl fun j => en (va_up u1 (4 * k + sl) p j)))).set 29 (.inl (0, 24, .inl fun j => en (va_up u2 (4 * k + sl) q j)))).set 30 (.inl (0, 24, .inl fun j => nI (va_up ur (4 * k + sl) r j)))).set 22 (.inr (7, MoF fa (nI 0) wh wy hg dp md ov oh dn an)))
      refine jr_aload_n d_Mo_method_270 rfl ?_
      refine jr_iconst ((nI (0))) d_Mo_method_271 (by decide) ?_
      refine jr_putf d_Mo_method_272 p_Mo_method_122 (jl_sn (by decide) (jl_sn (by decide) (jl_sn (by decide) (jl_sn (by decide) hO)))) (Nat.le_of_ble_eq_true rfl) jl_fit_b0 ?_
      show jl_W l G m_Mo_method (0, 0) 275 [some (.ref 22), some (.int (nI k)), some (.int (nI sl)), some (.int (en p)), some (.int (en q)), some (.int (nI r)), some (.int (nI 0)), some (.int (nI (((4) * (k)) + (sl)))), none, none] [] (((((σ.set (27) (.inl (1, 24, .inl (fun j => bi ((va_up hs (((4) * (k)) + (sl)) (true)) j))))).set (28) (.inl (0, 24, .inl (fun j => en ((va_up u1 (((4) * (k)) + (sl)) (p)) j))))).set (29) (.inl (0, 24, .inl (fun j => en ((va_up u2 (((4) * (k)) + (sl)) (q)) j))))).set (30) (.inl (0, 24, .inl (fun j => nI ((va_up ur (((4) * (k)) + (sl)) (r)) j))))).set (22) (.inr (7, [.int (fa), .ref 23, .ref 24, .ref 25, .ref 26, .ref 27, .ref 28, .ref 29, .ref 30, .ref 31, .ref 32, .ref 33, .ref 34, .ref 35, .ref 36, .ref 37, .int (nI 0), .int (wh), .int (wy), .ref 38, .ref 39, .ref 40, .ref 41, .int (hg), .ref 42, .ref 43, .ref 44, .ref 45, .ref 46, .ref 47, .ref 48, .ref 49, .int (dp), .ref 50, .ref 51, .ref 52, .int (md), .int (ov), .int (oh), .int (dn), .int (an)]))) (.inl (some (.int (nI (cnt (fun j => va_up hs (4 * k + sl) true (4 * k + j)) 4 0))))) (((((σ.set 27 (.inl (1, 24, .inl fun j => bi (va_up hs (4 * k + sl) true j)))).set 28 (.inl (0, 24, .inl fun j => en (va_up u1 (4 * k + sl) p j)))).set 29 (.inl (0, 24, .inl fun j => en (va_up u2 (4 * k + sl) q j)))).set 30 (.inl (0, 24, .inl fun j => nI (va_up ur (4 * k + sl) r j)))).set 22 (.inr (7, MoF fa (nI 0) wh wy hg dp md ov oh dn an)))
      refine jr_iconst ((nI (0))) d_Mo_method_275 (by decide) ?_
      refine jr_istore d_Mo_method_276 (by decide) ?_
      show jl_W l G m_Mo_method (0, 0) 278 [some (.ref 22), some (.int (nI k)), some (.int (nI sl)), some (.int (en p)), some (.int (en q)), some (.int (nI r)), some (.int (nI 0)), some (.int (nI (((4) * (k)) + (sl)))), some (.int (nI 0)), none] [] (((((σ.set (27) (.inl (1, 24, .inl (fun j => bi ((va_up hs (((4) * (k)) + (sl)) (true)) j))))).set (28) (.inl (0, 24, .inl (fun j => en ((va_up u1 (((4) * (k)) + (sl)) (p)) j))))).set (29) (.inl (0, 24, .inl (fun j => en ((va_up u2 (((4) * (k)) + (sl)) (q)) j))))).set (30) (.inl (0, 24, .inl (fun j => nI ((va_up ur (((4) * (k)) + (sl)) (r)) j))))).set (22) (.inr (7, [.int (fa), .ref 23, .ref 24, .ref 25, .ref 26, .ref 27, .ref 28, .ref 29, .ref 30, .ref 31, .ref 32, .ref 33, .ref 34, .ref 35, .ref 36, .ref 37, .int (nI 0), .int (wh), .int (wy), .ref 38, .ref 39, .ref 40, .ref 41, .int (hg), .ref 42, .ref 43, .ref 44, .ref 45, .ref 46, .ref 47, .ref 48, .ref 49, .int (dp), .ref 50, .ref 51, .ref 52, .int (md), .int (ov), .int (oh), .int (dn), .int (an)]))) (.inl (some (.int (nI (cnt (fun j => va_up hs (4 * k + sl) true (4 * k + j)) 4 0))))) (((((σ.set 27 (.inl (1, 24, .inl fun j => bi (va_up hs (4 * k + sl) true j)))).set 28 (.inl (0, 24, .inl fun j => en (va_up u1 (4 * k + sl) p j)))).set 29 (.inl (0, 24, .inl fun j => en (va_up u2 (4 * k + sl) q j)))).set 30 (.inl (0, 24, .inl fun j => nI (va_up ur (4 * k + sl) r j)))).set 22 (.inr (7, MoF fa (nI 0) wh wy hg dp md ov oh dn an)))
      refine jr_iconst ((nI (0))) d_Mo_method_278 (by decide) ?_
      refine jr_istore d_Mo_method_279 (by decide) ?_
      show jl_W l G m_Mo_method (0, 0) 281 [some (.ref 22), some (.int (nI k)), some (.int (nI sl)), some (.int (en p)), some (.int (en q)), some (.int (nI r)), some (.int (nI 0)), some (.int (nI (((4) * (k)) + (sl)))), some (.int (nI 0)), some (.int (nI 0))] [] (((((σ.set (27) (.inl (1, 24, .inl (fun j => bi ((va_up hs (((4) * (k)) + (sl)) (true)) j))))).set (28) (.inl (0, 24, .inl (fun j => en ((va_up u1 (((4) * (k)) + (sl)) (p)) j))))).set (29) (.inl (0, 24, .inl (fun j => en ((va_up u2 (((4) * (k)) + (sl)) (q)) j))))).set (30) (.inl (0, 24, .inl (fun j => nI ((va_up ur (((4) * (k)) + (sl)) (r)) j))))).set (22) (.inr (7, [.int (fa), .ref 23, .ref 24, .ref 25, .ref 26, .ref 27, .ref 28, .ref 29, .ref 30, .ref 31, .ref 32, .ref 33, .ref 34, .ref 35, .ref 36, .ref 37, .int (nI 0), .int (wh), .int (wy), .ref 38, .ref 39, .ref 40, .ref 41, .int (hg), .ref 42, .ref 43, .ref 44, .ref 45, .ref 46, .ref 47, .ref 48, .ref 49, .int (dp), .ref 50, .ref 51, .ref 52, .int (md), .int (ov), .int (oh), .int (dn), .int (an)]))) (.inl (some (.int (nI (cnt (fun j => va_up hs (4 * k + sl) true (4 * k + j)) 4 0))))) (((((σ.set 27 (.inl (1, 24, .inl fun j => bi (va_up hs (4 * k + sl) true j)))).set 28 (.inl (0, 24, .inl fun j => en (va_up u1 (4 * k + sl) p j)))).set 29 (.inl (0, 24, .inl fun j => en (va_up u2 (4 * k + sl) q j)))).set 30 (.inl (0, 24, .inl fun j => nI (va_up ur (4 * k + sl) r j)))).set 22 (.inr (7, MoF fa (nI 0) wh wy hg dp md ov oh dn an)))
      exact jl_oeq (by rw [Nat.zero_add]) (mo_mcnt hl (jl_ss (jl_sn (by decide) (jl_sn (by decide) (jl_sn (by decide) (jl_sn (by decide) hO))))) (MoW.sx (MoW.sx (MoW.sx (MoW.sx (MoW.s27 hw) (Or.inr (by decide))) (Or.inr (by decide))) (Or.inr (by decide))) (Or.inl (by decide))) hk 5 0 0 (by omega) (by omega) (by omega))
    · exact absurd (bi_nf c2) (by rw [hm]; decide)
  · exact absurd (bi_0.mp c1) (by rw [ht]; decide)
theorem mo_m0 (hl : l.stackTraces = false) {k sl r : Nat} {p q : Option Nat} {o : jl_O} {σ' : jl_S} (hO : MoO σ fa vf wh wy hg dp md ov oh dn an) (hw : MoW σ tb pr ow ft hs) (hpq : prOk (en p) (en q) = true) (hrt : isTyp (nI r) = true) (k6 : jl_W l G m_Mo_method (0, 0) 60 [some (.ref 22), some (.int (nI k)), some (.int (nI sl)), some (.int (en p)), some (.int (en q)), some (.int (nI r)), some (.int (nI 0)), none, none, none] [] (σ.set 22 (.inr (7, MoF (nI 0) vf wh wy hg dp md ov oh dn an))) o σ') : jl_m l G m_Mo_method [.ref 22, .int (nI k), .int (nI sl), .int (en p), .int (en q), .int (nI r)] σ (o) (σ') := by
  obtain ⟨h23, h24, h25, h26, h27⟩ := id hw
  refine jl_of (as := [.ref 22, .int (nI k), .int (nI sl), .int (en p), .int (en q), .int (nI r)]) rfl (by decide) hl (jl_cc rfl (jl_cc rfl (jl_cc rfl (jl_cc rfl (jl_cc rfl (jl_cc rfl jl_ca)))))) (Nat.le_of_ble_eq_true rfl) ?_
  show jl_W l G m_Mo_method (0, 0) 0 [some (.ref 22), some (.int (nI k)), some (.int (nI sl)), some (.int (en p)), some (.int (en q)), some (.int (nI r)), none, none, none, none] [] (σ) (o) (σ')
  refine jr_aload_n d_Mo_method_0 rfl ?_
  refine jr_iconst ((nI (0))) d_Mo_method_1 (by decide) ?_
  refine jr_putf d_Mo_method_2 p_Mo_method_111 hO (Nat.le_of_ble_eq_true rfl) jl_fit_int ?_
  show jl_W l G m_Mo_method (0, 0) 5 [some (.ref 22), some (.int (nI k)), some (.int (nI sl)), some (.int (en p)), some (.int (en q)), some (.int (nI r)), none, none, none, none] [] (σ.set (22) (.inr (7, [.int (nI 0), .ref 23, .ref 24, .ref 25, .ref 26, .ref 27, .ref 28, .ref 29, .ref 30, .ref 31, .ref 32, .ref 33, .ref 34, .ref 35, .ref 36, .ref 37, .int (vf), .int (wh), .int (wy), .ref 38, .ref 39, .ref 40, .ref 41, .int (hg), .ref 42, .ref 43, .ref 44, .ref 45, .ref 46, .ref 47, .ref 48, .ref 49, .int (dp), .ref 50, .ref 51, .ref 52, .int (md), .int (ov), .int (oh), .int (dn), .int (an)]))) (o) (σ')
  refine jr_iload_n d_Mo_method_5 rfl ?_
  refine jr_iconst ((-1)) d_Mo_method_6 (by decide) ?_
  refine jr_icmp_eq 18 d_Mo_method_7 (by decide) (fun c1 => ?_) (fun c1 => ?_)
  · refine jr_iload d_Mo_method_18 rfl ?_
    refine jr_iconst ((-1)) d_Mo_method_20 (by decide) ?_
    refine jr_icmp_eq 33 d_Mo_method_21 (by decide) (fun c2 => ?_) (fun c2 => ?_)
    · refine jr_iload_n d_Mo_method_33 rfl ?_
      refine jr_iconst ((-1)) d_Mo_method_34 (by decide) ?_
      refine jr_icmp_ne 44 d_Mo_method_35 (by decide) (fun c3 => ?_) (fun c3 => ?_)
      · refine jr_aload_n d_Mo_method_44 rfl ?_
        refine jr_iload d_Mo_method_45 rfl ?_
        refine jr_callV (As := [.int (nI r)]) d_Mo_method_47 k_Mo_method_129 (jl_ss hO) rfl rfl rfl (Nat.le_of_ble_eq_true rfl) (by decide) (by decide) (mo_isTyp hl (jl_ss hO) (MoW.sx hw (Or.inl (by decide)))) ?_
        show jl_W l G m_Mo_method (0, 0) 50 [some (.ref 22), some (.int (nI k)), some (.int (nI sl)), some (.int (en p)), some (.int (en q)), some (.int (nI r)), none, none, none, none] [.int (bi (isTyp (nI (r))))] (σ.set (22) (.inr (7, [.int (nI 0), .ref 23, .ref 24, .ref 25, .ref 26, .ref 27, .ref 28, .ref 29, .ref 30, .ref 31, .ref 32, .ref 33, .ref 34, .ref 35, .ref 36, .ref 37, .int (vf), .int (wh), .int (wy), .ref 38, .ref 39, .ref 40, .ref 41, .int (hg), .ref 42, .ref 43, .ref 44, .ref 45, .ref 46, .ref 47, .ref 48, .ref 49, .int (dp), .ref 50, .ref 51, .ref 52, .int (md), .int (ov), .int (oh), .int (dn), .int (an)]))) (o) (σ')
        refine jr_if_ne 57 d_Mo_method_50 (by decide) (fun c4 => ?_) (fun c4 => ?_)
        · refine jr_iconst ((nI (0))) d_Mo_method_57 (by decide) ?_
          refine jr_istore d_Mo_method_58 (by decide) ?_
          show jl_W l G m_Mo_method (0, 0) 60 [some (.ref 22), some (.int (nI k)), some (.int (nI sl)), some (.int (en p)), some (.int (en q)), some (.int (nI r)), some (.int (nI 0)), none, none, none] [] (σ.set (22) (.inr (7, [.int (nI 0), .ref 23, .ref 24, .ref 25, .ref 26, .ref 27, .ref 28, .ref 29, .ref 30, .ref 31, .ref 32, .ref 33, .ref 34, .ref 35, .ref 36, .ref 37, .int (vf), .int (wh), .int (wy), .ref 38, .ref 39, .ref 40, .ref 41, .int (hg), .ref 42, .ref 43, .ref 44, .ref 45, .ref 46, .ref 47, .ref 48, .ref 49, .int (dp), .ref 50, .ref 51, .ref 52, .int (md), .int (ov), .int (oh), .int (dn), .int (an)]))) (o) (σ')
          exact k6
        · refine jr_iconst ((nI (1))) d_Mo_method_53 (by decide) ?_
          refine jr_goto 58 d_Mo_method_54 (by decide) ?_
          refine jr_istore d_Mo_method_58 (by decide) ?_
          show jl_W l G m_Mo_method (0, 0) 60 [some (.ref 22), some (.int (nI k)), some (.int (nI sl)), some (.int (en p)), some (.int (en q)), some (.int (nI r)), some (.int (nI 1)), none, none, none] [] (σ.set (22) (.inr (7, [.int (nI 0), .ref 23, .ref 24, .ref 25, .ref 26, .ref 27, .ref 28, .ref 29, .ref 30, .ref 31, .ref 32, .ref 33, .ref 34, .ref 35, .ref 36, .ref 37, .int (vf), .int (wh), .int (wy), .ref 38, .ref 39, .ref 40, .ref 41, .int (hg), .ref 42, .ref 43, .ref 44, .ref 45, .ref 46, .ref 47, .ref 48, .ref 49, .int (dp), .ref 50, .ref 51, .ref 52, .int (md), .int (ov), .int (oh), .int (dn), .int (an)]))) (o) (σ')
          exfalso; simp_all [prOk, bi_0]
      · refine jr_iload d_Mo_method_38 rfl ?_
        refine jr_iconst ((-1)) d_Mo_method_40 (by decide) ?_
        refine jr_icmp_ne 53 d_Mo_method_41 (by decide) (fun c5 => ?_) (fun c5 => ?_)
        · refine jr_iconst ((nI (1))) d_Mo_method_53 (by decide) ?_
          refine jr_goto 58 d_Mo_method_54 (by decide) ?_
          refine jr_istore d_Mo_method_58 (by decide) ?_
          show jl_W l G m_Mo_method (0, 0) 60 [some (.ref 22), some (.int (nI k)), some (.int (nI sl)), some (.int (en p)), some (.int (en q)), some (.int (nI r)), some (.int (nI 1)), none, none, none] [] (σ.set (22) (.inr (7, [.int (nI 0), .ref 23, .ref 24, .ref 25, .ref 26, .ref 27, .ref 28, .ref 29, .ref 30, .ref 31, .ref 32, .ref 33, .ref 34, .ref 35, .ref 36, .ref 37, .int (vf), .int (wh), .int (wy), .ref 38, .ref 39, .ref 40, .ref 41, .int (hg), .ref 42, .ref 43, .ref 44, .ref 45, .ref 46, .ref 47, .ref 48, .ref 49, .int (dp), .ref 50, .ref 51, .ref 52, .int (md), .int (ov), .int (oh), .int (dn), .int (an)]))) (o) (σ')
          exfalso; simp_all [prOk, bi_0]
        · refine jr_aload_n d_Mo_method_44 rfl ?_
          refine jr_iload d_Mo_method_45 rfl ?_
          refine jr_callV (As := [.int (nI r)]) d_Mo_method_47 k_Mo_method_129 (jl_ss hO) rfl rfl rfl (Nat.le_of_ble_eq_true rfl) (by decide) (by decide) (mo_isTyp hl (jl_ss hO) (MoW.sx hw (Or.inl (by decide)))) ?_
          show jl_W l G m_Mo_method (0, 0) 50 [some (.ref 22), some (.int (nI k)), some (.int (nI sl)), some (.int (en p)), some (.int (en q)), some (.int (nI r)), none, none, none, none] [.int (bi (isTyp (nI (r))))] (σ.set (22) (.inr (7, [.int (nI 0), .ref 23, .ref 24, .ref 25, .ref 26, .ref 27, .ref 28, .ref 29, .ref 30, .ref 31, .ref 32, .ref 33, .ref 34, .ref 35, .ref 36, .ref 37, .int (vf), .int (wh), .int (wy), .ref 38, .ref 39, .ref 40, .ref 41, .int (hg), .ref 42, .ref 43, .ref 44, .ref 45, .ref 46, .ref 47, .ref 48, .ref 49, .int (dp), .ref 50, .ref 51, .ref 52, .int (md), .int (ov), .int (oh), .int (dn), .int (an)]))) (o) (σ')
          refine jr_if_ne 57 d_Mo_method_50 (by decide) (fun c6 => ?_) (fun c6 => ?_)
          · refine jr_iconst ((nI (0))) d_Mo_method_57 (by decide) ?_
            refine jr_istore d_Mo_method_58 (by decide) ?_
            show jl_W l G m_Mo_method (0, 0) 60 [some (.ref 22), some (.int (nI k)), some (.int (nI sl)), some (.int (en p)), some (.int (en q)), some (.int (nI r)), some (.int (nI 0)), none, none, none] [] (σ.set (22) (.inr (7, [.int (nI 0), .ref 23, .ref 24, .ref 25, .ref 26, .ref 27, .ref 28, .ref 29, .ref 30, .ref 31, .ref 32, .ref 33, .ref 34, .ref 35, .ref 36, .ref 37, .int (vf), .int (wh), .int (wy), .ref 38, .ref 39, .ref 40, .ref 41, .int (hg), .ref 42, .ref 43, .ref 44, .ref 45, .ref 46, .ref 47, .ref 48, .ref 49, .int (dp), .ref 50, .ref 51, .ref 52, .int (md), .int (ov), .int (oh), .int (dn), .int (an)]))) (o) (σ')
            exact k6
          · refine jr_iconst ((nI (1))) d_Mo_method_53 (by decide) ?_
            refine jr_goto 58 d_Mo_method_54 (by decide) ?_
            refine jr_istore d_Mo_method_58 (by decide) ?_
            show jl_W l G m_Mo_method (0, 0) 60 [some (.ref 22), some (.int (nI k)), some (.int (nI sl)), some (.int (en p)), some (.int (en q)), some (.int (nI r)), some (.int (nI 1)), none, none, none] [] (σ.set (22) (.inr (7, [.int (nI 0), .ref 23, .ref 24, .ref 25, .ref 26, .ref 27, .ref 28, .ref 29, .ref 30, .ref 31, .ref 32, .ref 33, .ref 34, .ref 35, .ref 36, .ref 37, .int (vf), .int (wh), .int (wy), .ref 38, .ref 39, .ref 40, .ref 41, .int (hg), .ref 42, .ref 43, .ref 44, .ref 45, .ref 46, .ref 47, .ref 48, .ref 49, .int (dp), .ref 50, .ref 51, .ref 52, .int (md), .int (ov), .int (oh), .int (dn), .int (an)]))) (o) (σ')
            exfalso; simp_all [prOk, bi_0]
    · refine jr_aload_n d_Mo_method_24 rfl ?_
      refine jr_iload d_Mo_method_25 rfl ?_
      refine jr_callV (As := [.int (en q)]) d_Mo_method_27 k_Mo_method_129 (jl_ss hO) rfl rfl rfl (Nat.le_of_ble_eq_true rfl) (by decide) (by decide) (mo_isTyp hl (jl_ss hO) (MoW.sx hw (Or.inl (by decide)))) ?_
      show jl_W l G m_Mo_method (0, 0) 30 [some (.ref 22), some (.int (nI k)), some (.int (nI sl)), some (.int (en p)), some (.int (en q)), some (.int (nI r)), none, none, none, none] [.int (bi (isTyp (en q)))] (σ.set (22) (.inr (7, [.int (nI 0), .ref 23, .ref 24, .ref 25, .ref 26, .ref 27, .ref 28, .ref 29, .ref 30, .ref 31, .ref 32, .ref 33, .ref 34, .ref 35, .ref 36, .ref 37, .int (vf), .int (wh), .int (wy), .ref 38, .ref 39, .ref 40, .ref 41, .int (hg), .ref 42, .ref 43, .ref 44, .ref 45, .ref 46, .ref 47, .ref 48, .ref 49, .int (dp), .ref 50, .ref 51, .ref 52, .int (md), .int (ov), .int (oh), .int (dn), .int (an)]))) (o) (σ')
      refine jr_if_eq 53 d_Mo_method_30 (by decide) (fun c7 => ?_) (fun c7 => ?_)
      · refine jr_iconst ((nI (1))) d_Mo_method_53 (by decide) ?_
        refine jr_goto 58 d_Mo_method_54 (by decide) ?_
        refine jr_istore d_Mo_method_58 (by decide) ?_
        show jl_W l G m_Mo_method (0, 0) 60 [some (.ref 22), some (.int (nI k)), some (.int (nI sl)), some (.int (en p)), some (.int (en q)), some (.int (nI r)), some (.int (nI 1)), none, none, none] [] (σ.set (22) (.inr (7, [.int (nI 0), .ref 23, .ref 24, .ref 25, .ref 26, .ref 27, .ref 28, .ref 29, .ref 30, .ref 31, .ref 32, .ref 33, .ref 34, .ref 35, .ref 36, .ref 37, .int (vf), .int (wh), .int (wy), .ref 38, .ref 39, .ref 40, .ref 41, .int (hg), .ref 42, .ref 43, .ref 44, .ref 45, .ref 46, .ref 47, .ref 48, .ref 49, .int (dp), .ref 50, .ref 51, .ref 52, .int (md), .int (ov), .int (oh), .int (dn), .int (an)]))) (o) (σ')
        exfalso; simp_all [prOk, bi_0]
      · refine jr_iload_n d_Mo_method_33 rfl ?_
        refine jr_iconst ((-1)) d_Mo_method_34 (by decide) ?_
        refine jr_icmp_ne 44 d_Mo_method_35 (by decide) (fun c8 => ?_) (fun c8 => ?_)
        · refine jr_aload_n d_Mo_method_44 rfl ?_
          refine jr_iload d_Mo_method_45 rfl ?_
          refine jr_callV (As := [.int (nI r)]) d_Mo_method_47 k_Mo_method_129 (jl_ss hO) rfl rfl rfl (Nat.le_of_ble_eq_true rfl) (by decide) (by decide) (mo_isTyp hl (jl_ss hO) (MoW.sx hw (Or.inl (by decide)))) ?_
          show jl_W l G m_Mo_method (0, 0) 50 [some (.ref 22), some (.int (nI k)), some (.int (nI sl)), some (.int (en p)), some (.int (en q)), some (.int (nI r)), none, none, none, none] [.int (bi (isTyp (nI (r))))] (σ.set (22) (.inr (7, [.int (nI 0), .ref 23, .ref 24, .ref 25, .ref 26, .ref 27, .ref 28, .ref 29, .ref 30, .ref 31, .ref 32, .ref 33, .ref 34, .ref 35, .ref 36, .ref 37, .int (vf), .int (wh), .int (wy), .ref 38, .ref 39, .ref 40, .ref 41, .int (hg), .ref 42, .ref 43, .ref 44, .ref 45, .ref 46, .ref 47, .ref 48, .ref 49, .int (dp), .ref 50, .ref 51, .ref 52, .int (md), .int (ov), .int (oh), .int (dn), .int (an)]))) (o) (σ')
          refine jr_if_ne 57 d_Mo_method_50 (by decide) (fun c9 => ?_) (fun c9 => ?_)
          · refine jr_iconst ((nI (0))) d_Mo_method_57 (by decide) ?_
            refine jr_istore d_Mo_method_58 (by decide) ?_
            show jl_W l G m_Mo_method (0, 0) 60 [some (.ref 22), some (.int (nI k)), some (.int (nI sl)), some (.int (en p)), some (.int (en q)), some (.int (nI r)), some (.int (nI 0)), none, none, none] [] (σ.set (22) (.inr (7, [.int (nI 0), .ref 23, .ref 24, .ref 25, .ref 26, .ref 27, .ref 28, .ref 29, .ref 30, .ref 31, .ref 32, .ref 33, .ref 34, .ref 35, .ref 36, .ref 37, .int (vf), .int (wh), .int (wy), .ref 38, .ref 39, .ref 40, .ref 41, .int (hg), .ref 42, .ref 43, .ref 44, .ref 45, .ref 46, .ref 47, .ref 48, .ref 49, .int (dp), .ref 50, .ref 51, .ref 52, .int (md), .int (ov), .int (oh), .int (dn), .int (an)]))) (o) (σ')
            exact k6
          · refine jr_iconst ((nI (1))) d_Mo_method_53 (by decide) ?_
            refine jr_goto 58 d_Mo_method_54 (by decide) ?_
            refine jr_istore d_Mo_method_58 (by decide) ?_
            show jl_W l G m_Mo_method (0, 0) 60 [some (.ref 22), some (.int (nI k)), some (.int (nI sl)), some (.int (en p)), some (.int (en q)), some (.int (nI r)), some (.int (nI 1)), none, none, none] [] (σ.set (22) (.inr (7, [.int (nI 0), .ref 23, .ref 24, .ref 25, .ref 26, .ref 27, .ref 28, .ref 29, .ref 30, .ref 31, .ref 32, .ref 33, .ref 34, .ref 35, .ref 36, .ref 37, .int (vf), .int (wh), .int (wy), .ref 38, .ref 39, .ref 40, .ref 41, .int (hg), .ref 42, .ref 43, .ref 44, .ref 45, .ref 46, .ref 47, .ref 48, .ref 49, .int (dp), .ref 50, .ref 51, .ref 52, .int (md), .int (ov), .int (oh), .int (dn), .int (an)]))) (o) (σ')
            exfalso; simp_all [prOk, bi_0]
        · refine jr_iload d_Mo_method_38 rfl ?_
          refine jr_iconst ((-1)) d_Mo_method_40 (by decide) ?_
          refine jr_icmp_ne 53 d_Mo_method_41 (by decide) (fun c10 => ?_) (fun c10 => ?_)
          · refine jr_iconst ((nI (1))) d_Mo_method_53 (by decide) ?_
            refine jr_goto 58 d_Mo_method_54 (by decide) ?_
            refine jr_istore d_Mo_method_58 (by decide) ?_
            show jl_W l G m_Mo_method (0, 0) 60 [some (.ref 22), some (.int (nI k)), some (.int (nI sl)), some (.int (en p)), some (.int (en q)), some (.int (nI r)), some (.int (nI 1)), none, none, none] [] (σ.set (22) (.inr (7, [.int (nI 0), .ref 23, .ref 24, .ref 25, .ref 26, .ref 27, .ref 28, .ref 29, .ref 30, .ref 31, .ref 32, .ref 33, .ref 34, .ref 35, .ref 36, .ref 37, .int (vf), .int (wh), .int (wy), .ref 38, .ref 39, .ref 40, .ref 41, .int (hg), .ref 42, .ref 43, .ref 44, .ref 45, .ref 46, .ref 47, .ref 48, .ref 49, .int (dp), .ref 50, .ref 51, .ref 52, .int (md), .int (ov), .int (oh), .int (dn), .int (an)]))) (o) (σ')
            exfalso; simp_all [prOk, bi_0]
          · refine jr_aload_n d_Mo_method_44 rfl ?_
            refine jr_iload d_Mo_method_45 rfl ?_
            refine jr_callV (As := [.int (nI r)]) d_Mo_method_47 k_Mo_method_129 (jl_ss hO) rfl rfl rfl (Nat.le_of_ble_eq_true rfl) (by decide) (by decide) (mo_isTyp hl (jl_ss hO) (MoW.sx hw (Or.inl (by decide)))) ?_
            show jl_W l G m_Mo_method (0, 0) 50 [some (.ref 22), some (.int (nI k)), some (.int (nI sl)), some (.int (en p)), some (.int (en q)), some (.int (nI r)), none, none, none, none] [.int (bi (isTyp (nI (r))))] (σ.set (22) (.inr (7, [.int (nI 0), .ref 23, .ref 24, .ref 25, .ref 26, .ref 27, .ref 28, .ref 29, .ref 30, .ref 31, .ref 32, .ref 33, .ref 34, .ref 35, .ref 36, .ref 37, .int (vf), .int (wh), .int (wy), .ref 38, .ref 39, .ref 40, .ref 41, .int (hg), .ref 42, .ref 43, .ref 44, .ref 45, .ref 46, .ref 47, .ref 48, .ref 49, .int (dp), .ref 50, .ref 51, .ref 52, .int (md), .int (ov), .int (oh), .int (dn), .int (an)]))) (o) (σ')
            refine jr_if_ne 57 d_Mo_method_50 (by decide) (fun c11 => ?_) (fun c11 => ?_)
            · refine jr_iconst ((nI (0))) d_Mo_method_57 (by decide) ?_
              refine jr_istore d_Mo_method_58 (by decide) ?_
              show jl_W l G m_Mo_method (0, 0) 60 [some (.ref 22), some (.int (nI k)), some (.int (nI sl)), some (.int (en p)), some (.int (en q)), some (.int (nI r)), some (.int (nI 0)), none, none, none] [] (σ.set (22) (.inr (7, [.int (nI 0), .ref 23, .ref 24, .ref 25, .ref 26, .ref 27, .ref 28, .ref 29, .ref 30, .ref 31, .ref 32, .ref 33, .ref 34, .ref 35, .ref 36, .ref 37, .int (vf), .int (wh), .int (wy), .ref 38, .ref 39, .ref 40, .ref 41, .int (hg), .ref 42, .ref 43, .ref 44, .ref 45, .ref 46, .ref 47, .ref 48, .ref 49, .int (dp), .ref 50, .ref 51, .ref 52, .int (md), .int (ov), .int (oh), .int (dn), .int (an)]))) (o) (σ')
              exact k6
            · refine jr_iconst ((nI (1))) d_Mo_method_53 (by decide) ?_
              refine jr_goto 58 d_Mo_method_54 (by decide) ?_
              refine jr_istore d_Mo_method_58 (by decide) ?_
              show jl_W l G m_Mo_method (0, 0) 60 [some (.ref 22), some (.int (nI k)), some (.int (nI sl)), some (.int (en p)), some (.int (en q)), some (.int (nI r)), some (.int (nI 1)), none, none, none] [] (σ.set (22) (.inr (7, [.int (nI 0), .ref 23, .ref 24, .ref 25, .ref 26, .ref 27, .ref 28, .ref 29, .ref 30, .ref 31, .ref 32, .ref 33, .ref 34, .ref 35, .ref 36, .ref 37, .int (vf), .int (wh), .int (wy), .ref 38, .ref 39, .ref 40, .ref 41, .int (hg), .ref 42, .ref 43, .ref 44, .ref 45, .ref 46, .ref 47, .ref 48, .ref 49, .int (dp), .ref 50, .ref 51, .ref 52, .int (md), .int (ov), .int (oh), .int (dn), .int (an)]))) (o) (σ')
              exfalso; simp_all [prOk, bi_0]
  · refine jr_aload_n d_Mo_method_10 rfl ?_
    refine jr_iload_n d_Mo_method_11 rfl ?_
    refine jr_callV (As := [.int (en p)]) d_Mo_method_12 k_Mo_method_129 (jl_ss hO) rfl rfl rfl (Nat.le_of_ble_eq_true rfl) (by decide) (by decide) (mo_isTyp hl (jl_ss hO) (MoW.sx hw (Or.inl (by decide)))) ?_
    show jl_W l G m_Mo_method (0, 0) 15 [some (.ref 22), some (.int (nI k)), some (.int (nI sl)), some (.int (en p)), some (.int (en q)), some (.int (nI r)), none, none, none, none] [.int (bi (isTyp (en p)))] (σ.set (22) (.inr (7, [.int (nI 0), .ref 23, .ref 24, .ref 25, .ref 26, .ref 27, .ref 28, .ref 29, .ref 30, .ref 31, .ref 32, .ref 33, .ref 34, .ref 35, .ref 36, .ref 37, .int (vf), .int (wh), .int (wy), .ref 38, .ref 39, .ref 40, .ref 41, .int (hg), .ref 42, .ref 43, .ref 44, .ref 45, .ref 46, .ref 47, .ref 48, .ref 49, .int (dp), .ref 50, .ref 51, .ref 52, .int (md), .int (ov), .int (oh), .int (dn), .int (an)]))) (o) (σ')
    refine jr_if_eq 53 d_Mo_method_15 (by decide) (fun c12 => ?_) (fun c12 => ?_)
    · refine jr_iconst ((nI (1))) d_Mo_method_53 (by decide) ?_
      refine jr_goto 58 d_Mo_method_54 (by decide) ?_
      refine jr_istore d_Mo_method_58 (by decide) ?_
      show jl_W l G m_Mo_method (0, 0) 60 [some (.ref 22), some (.int (nI k)), some (.int (nI sl)), some (.int (en p)), some (.int (en q)), some (.int (nI r)), some (.int (nI 1)), none, none, none] [] (σ.set (22) (.inr (7, [.int (nI 0), .ref 23, .ref 24, .ref 25, .ref 26, .ref 27, .ref 28, .ref 29, .ref 30, .ref 31, .ref 32, .ref 33, .ref 34, .ref 35, .ref 36, .ref 37, .int (vf), .int (wh), .int (wy), .ref 38, .ref 39, .ref 40, .ref 41, .int (hg), .ref 42, .ref 43, .ref 44, .ref 45, .ref 46, .ref 47, .ref 48, .ref 49, .int (dp), .ref 50, .ref 51, .ref 52, .int (md), .int (ov), .int (oh), .int (dn), .int (an)]))) (o) (σ')
      exfalso; simp_all [prOk, bi_0]
    · refine jr_iload d_Mo_method_18 rfl ?_
      refine jr_iconst ((-1)) d_Mo_method_20 (by decide) ?_
      refine jr_icmp_eq 33 d_Mo_method_21 (by decide) (fun c13 => ?_) (fun c13 => ?_)
      · refine jr_iload_n d_Mo_method_33 rfl ?_
        refine jr_iconst ((-1)) d_Mo_method_34 (by decide) ?_
        refine jr_icmp_ne 44 d_Mo_method_35 (by decide) (fun c14 => ?_) (fun c14 => ?_)
        · refine jr_aload_n d_Mo_method_44 rfl ?_
          refine jr_iload d_Mo_method_45 rfl ?_
          refine jr_callV (As := [.int (nI r)]) d_Mo_method_47 k_Mo_method_129 (jl_ss hO) rfl rfl rfl (Nat.le_of_ble_eq_true rfl) (by decide) (by decide) (mo_isTyp hl (jl_ss hO) (MoW.sx hw (Or.inl (by decide)))) ?_
          show jl_W l G m_Mo_method (0, 0) 50 [some (.ref 22), some (.int (nI k)), some (.int (nI sl)), some (.int (en p)), some (.int (en q)), some (.int (nI r)), none, none, none, none] [.int (bi (isTyp (nI (r))))] (σ.set (22) (.inr (7, [.int (nI 0), .ref 23, .ref 24, .ref 25, .ref 26, .ref 27, .ref 28, .ref 29, .ref 30, .ref 31, .ref 32, .ref 33, .ref 34, .ref 35, .ref 36, .ref 37, .int (vf), .int (wh), .int (wy), .ref 38, .ref 39, .ref 40, .ref 41, .int (hg), .ref 42, .ref 43, .ref 44, .ref 45, .ref 46, .ref 47, .ref 48, .ref 49, .int (dp), .ref 50, .ref 51, .ref 52, .int (md), .int (ov), .int (oh), .int (dn), .int (an)]))) (o) (σ')
          refine jr_if_ne 57 d_Mo_method_50 (by decide) (fun c15 => ?_) (fun c15 => ?_)
          · refine jr_iconst ((nI (0))) d_Mo_method_57 (by decide) ?_
            refine jr_istore d_Mo_method_58 (by decide) ?_
            show jl_W l G m_Mo_method (0, 0) 60 [some (.ref 22), some (.int (nI k)), some (.int (nI sl)), some (.int (en p)), some (.int (en q)), some (.int (nI r)), some (.int (nI 0)), none, none, none] [] (σ.set (22) (.inr (7, [.int (nI 0), .ref 23, .ref 24, .ref 25, .ref 26, .ref 27, .ref 28, .ref 29, .ref 30, .ref 31, .ref 32, .ref 33, .ref 34, .ref 35, .ref 36, .ref 37, .int (vf), .int (wh), .int (wy), .ref 38, .ref 39, .ref 40, .ref 41, .int (hg), .ref 42, .ref 43, .ref 44, .ref 45, .ref 46, .ref 47, .ref 48, .ref 49, .int (dp), .ref 50, .ref 51, .ref 52, .int (md), .int (ov), .int (oh), .int (dn), .int (an)]))) (o) (σ')
            exact k6
          · refine jr_iconst ((nI (1))) d_Mo_method_53 (by decide) ?_
            refine jr_goto 58 d_Mo_method_54 (by decide) ?_
            refine jr_istore d_Mo_method_58 (by decide) ?_
            show jl_W l G m_Mo_method (0, 0) 60 [some (.ref 22), some (.int (nI k)), some (.int (nI sl)), some (.int (en p)), some (.int (en q)), some (.int (nI r)), some (.int (nI 1)), none, none, none] [] (σ.set (22) (.inr (7, [.int (nI 0), .ref 23, .ref 24, .ref 25, .ref 26, .ref 27, .ref 28, .ref 29, .ref 30, .ref 31, .ref 32, .ref 33, .ref 34, .ref 35, .ref 36, .ref 37, .int (vf), .int (wh), .int (wy), .ref 38, .ref 39, .ref 40, .ref 41, .int (hg), .ref 42, .ref 43, .ref 44, .ref 45, .ref 46, .ref 47, .ref 48, .ref 49, .int (dp), .ref 50, .ref 51, .ref 52, .int (md), .int (ov), .int (oh), .int (dn), .int (an)]))) (o) (σ')
            exfalso; simp_all [prOk, bi_0]
        · refine jr_iload d_Mo_method_38 rfl ?_
          refine jr_iconst ((-1)) d_Mo_method_40 (by decide) ?_
          refine jr_icmp_ne 53 d_Mo_method_41 (by decide) (fun c16 => ?_) (fun c16 => ?_)
          · refine jr_iconst ((nI (1))) d_Mo_method_53 (by decide) ?_
            refine jr_goto 58 d_Mo_method_54 (by decide) ?_
            refine jr_istore d_Mo_method_58 (by decide) ?_
            show jl_W l G m_Mo_method (0, 0) 60 [some (.ref 22), some (.int (nI k)), some (.int (nI sl)), some (.int (en p)), some (.int (en q)), some (.int (nI r)), some (.int (nI 1)), none, none, none] [] (σ.set (22) (.inr (7, [.int (nI 0), .ref 23, .ref 24, .ref 25, .ref 26, .ref 27, .ref 28, .ref 29, .ref 30, .ref 31, .ref 32, .ref 33, .ref 34, .ref 35, .ref 36, .ref 37, .int (vf), .int (wh), .int (wy), .ref 38, .ref 39, .ref 40, .ref 41, .int (hg), .ref 42, .ref 43, .ref 44, .ref 45, .ref 46, .ref 47, .ref 48, .ref 49, .int (dp), .ref 50, .ref 51, .ref 52, .int (md), .int (ov), .int (oh), .int (dn), .int (an)]))) (o) (σ')
            exfalso; simp_all [prOk, bi_0]
          · refine jr_aload_n d_Mo_method_44 rfl ?_
            refine jr_iload d_Mo_method_45 rfl ?_
            refine jr_callV (As := [.int (nI r)]) d_Mo_method_47 k_Mo_method_129 (jl_ss hO) rfl rfl rfl (Nat.le_of_ble_eq_true rfl) (by decide) (by decide) (mo_isTyp hl (jl_ss hO) (MoW.sx hw (Or.inl (by decide)))) ?_
            show jl_W l G m_Mo_method (0, 0) 50 [some (.ref 22), some (.int (nI k)), some (.int (nI sl)), some (.int (en p)), some (.int (en q)), some (.int (nI r)), none, none, none, none] [.int (bi (isTyp (nI (r))))] (σ.set (22) (.inr (7, [.int (nI 0), .ref 23, .ref 24, .ref 25, .ref 26, .ref 27, .ref 28, .ref 29, .ref 30, .ref 31, .ref 32, .ref 33, .ref 34, .ref 35, .ref 36, .ref 37, .int (vf), .int (wh), .int (wy), .ref 38, .ref 39, .ref 40, .ref 41, .int (hg), .ref 42, .ref 43, .ref 44, .ref 45, .ref 46, .ref 47, .ref 48, .ref 49, .int (dp), .ref 50, .ref 51, .ref 52, .int (md), .int (ov), .int (oh), .int (dn), .int (an)]))) (o) (σ')
            refine jr_if_ne 57 d_Mo_method_50 (by decide) (fun c17 => ?_) (fun c17 => ?_)
            · refine jr_iconst ((nI (0))) d_Mo_method_57 (by decide) ?_
              refine jr_istore d_Mo_method_58 (by decide) ?_
              show jl_W l G m_Mo_method (0, 0) 60 [some (.ref 22), some (.int (nI k)), some (.int (nI sl)), some (.int (en p)), some (.int (en q)), some (.int (nI r)), some (.int (nI 0)), none, none, none] [] (σ.set (22) (.inr (7, [.int (nI 0), .ref 23, .ref 24, .ref 25, .ref 26, .ref 27, .ref 28, .ref 29, .ref 30, .ref 31, .ref 32, .ref 33, .ref 34, .ref 35, .ref 36, .ref 37, .int (vf), .int (wh), .int (wy), .ref 38, .ref 39, .ref 40, .ref 41, .int (hg), .ref 42, .ref 43, .ref 44, .ref 45, .ref 46, .ref 47, .ref 48, .ref 49, .int (dp), .ref 50, .ref 51, .ref 52, .int (md), .int (ov), .int (oh), .int (dn), .int (an)]))) (o) (σ')
              exact k6
            · refine jr_iconst ((nI (1))) d_Mo_method_53 (by decide) ?_
              refine jr_goto 58 d_Mo_method_54 (by decide) ?_
              refine jr_istore d_Mo_method_58 (by decide) ?_
              show jl_W l G m_Mo_method (0, 0) 60 [some (.ref 22), some (.int (nI k)), some (.int (nI sl)), some (.int (en p)), some (.int (en q)), some (.int (nI r)), some (.int (nI 1)), none, none, none] [] (σ.set (22) (.inr (7, [.int (nI 0), .ref 23, .ref 24, .ref 25, .ref 26, .ref 27, .ref 28, .ref 29, .ref 30, .ref 31, .ref 32, .ref 33, .ref 34, .ref 35, .ref 36, .ref 37, .int (vf), .int (wh), .int (wy), .ref 38, .ref 39, .ref 40, .ref 41, .int (hg), .ref 42, .ref 43, .ref 44, .ref 45, .ref 46, .ref 47, .ref 48, .ref 49, .int (dp), .ref 50, .ref 51, .ref 52, .int (md), .int (ov), .int (oh), .int (dn), .int (an)]))) (o) (σ')
              exfalso; simp_all [prOk, bi_0]
      · refine jr_aload_n d_Mo_method_24 rfl ?_
        refine jr_iload d_Mo_method_25 rfl ?_
        refine jr_callV (As := [.int (en q)]) d_Mo_method_27 k_Mo_method_129 (jl_ss hO) rfl rfl rfl (Nat.le_of_ble_eq_true rfl) (by decide) (by decide) (mo_isTyp hl (jl_ss hO) (MoW.sx hw (Or.inl (by decide)))) ?_
        show jl_W l G m_Mo_method (0, 0) 30 [some (.ref 22), some (.int (nI k)), some (.int (nI sl)), some (.int (en p)), some (.int (en q)), some (.int (nI r)), none, none, none, none] [.int (bi (isTyp (en q)))] (σ.set (22) (.inr (7, [.int (nI 0), .ref 23, .ref 24, .ref 25, .ref 26, .ref 27, .ref 28, .ref 29, .ref 30, .ref 31, .ref 32, .ref 33, .ref 34, .ref 35, .ref 36, .ref 37, .int (vf), .int (wh), .int (wy), .ref 38, .ref 39, .ref 40, .ref 41, .int (hg), .ref 42, .ref 43, .ref 44, .ref 45, .ref 46, .ref 47, .ref 48, .ref 49, .int (dp), .ref 50, .ref 51, .ref 52, .int (md), .int (ov), .int (oh), .int (dn), .int (an)]))) (o) (σ')
        refine jr_if_eq 53 d_Mo_method_30 (by decide) (fun c18 => ?_) (fun c18 => ?_)
        · refine jr_iconst ((nI (1))) d_Mo_method_53 (by decide) ?_
          refine jr_goto 58 d_Mo_method_54 (by decide) ?_
          refine jr_istore d_Mo_method_58 (by decide) ?_
          show jl_W l G m_Mo_method (0, 0) 60 [some (.ref 22), some (.int (nI k)), some (.int (nI sl)), some (.int (en p)), some (.int (en q)), some (.int (nI r)), some (.int (nI 1)), none, none, none] [] (σ.set (22) (.inr (7, [.int (nI 0), .ref 23, .ref 24, .ref 25, .ref 26, .ref 27, .ref 28, .ref 29, .ref 30, .ref 31, .ref 32, .ref 33, .ref 34, .ref 35, .ref 36, .ref 37, .int (vf), .int (wh), .int (wy), .ref 38, .ref 39, .ref 40, .ref 41, .int (hg), .ref 42, .ref 43, .ref 44, .ref 45, .ref 46, .ref 47, .ref 48, .ref 49, .int (dp), .ref 50, .ref 51, .ref 52, .int (md), .int (ov), .int (oh), .int (dn), .int (an)]))) (o) (σ')
          exfalso; simp_all [prOk, bi_0]
        · refine jr_iload_n d_Mo_method_33 rfl ?_
          refine jr_iconst ((-1)) d_Mo_method_34 (by decide) ?_
          refine jr_icmp_ne 44 d_Mo_method_35 (by decide) (fun c19 => ?_) (fun c19 => ?_)
          · refine jr_aload_n d_Mo_method_44 rfl ?_
            refine jr_iload d_Mo_method_45 rfl ?_
            refine jr_callV (As := [.int (nI r)]) d_Mo_method_47 k_Mo_method_129 (jl_ss hO) rfl rfl rfl (Nat.le_of_ble_eq_true rfl) (by decide) (by decide) (mo_isTyp hl (jl_ss hO) (MoW.sx hw (Or.inl (by decide)))) ?_
            show jl_W l G m_Mo_method (0, 0) 50 [some (.ref 22), some (.int (nI k)), some (.int (nI sl)), some (.int (en p)), some (.int (en q)), some (.int (nI r)), none, none, none, none] [.int (bi (isTyp (nI (r))))] (σ.set (22) (.inr (7, [.int (nI 0), .ref 23, .ref 24, .ref 25, .ref 26, .ref 27, .ref 28, .ref 29, .ref 30, .ref 31, .ref 32, .ref 33, .ref 34, .ref 35, .ref 36, .ref 37, .int (vf), .int (wh), .int (wy), .ref 38, .ref 39, .ref 40, .ref 41, .int (hg), .ref 42, .ref 43, .ref 44, .ref 45, .ref 46, .ref 47, .ref 48, .ref 49, .int (dp), .ref 50, .ref 51, .ref 52, .int (md), .int (ov), .int (oh), .int (dn), .int (an)]))) (o) (σ')
            refine jr_if_ne 57 d_Mo_method_50 (by decide) (fun c20 => ?_) (fun c20 => ?_)
            · refine jr_iconst ((nI (0))) d_Mo_method_57 (by decide) ?_
              refine jr_istore d_Mo_method_58 (by decide) ?_
              show jl_W l G m_Mo_method (0, 0) 60 [some (.ref 22), some (.int (nI k)), some (.int (nI sl)), some (.int (en p)), some (.int (en q)), some (.int (nI r)), some (.int (nI 0)), none, none, none] [] (σ.set (22) (.inr (7, [.int (nI 0), .ref 23, .ref 24, .ref 25, .ref 26, .ref 27, .ref 28, .ref 29, .ref 30, .ref 31, .ref 32, .ref 33, .ref 34, .ref 35, .ref 36, .ref 37, .int (vf), .int (wh), .int (wy), .ref 38, .ref 39, .ref 40, .ref 41, .int (hg), .ref 42, .ref 43, .ref 44, .ref 45, .ref 46, .ref 47, .ref 48, .ref 49, .int (dp), .ref 50, .ref 51, .ref 52, .int (md), .int (ov), .int (oh), .int (dn), .int (an)]))) (o) (σ')
              exact k6
            · refine jr_iconst ((nI (1))) d_Mo_method_53 (by decide) ?_
              refine jr_goto 58 d_Mo_method_54 (by decide) ?_
              refine jr_istore d_Mo_method_58 (by decide) ?_
              show jl_W l G m_Mo_method (0, 0) 60 [some (.ref 22), some (.int (nI k)), some (.int (nI sl)), some (.int (en p)), some (.int (en q)), some (.int (nI r)), some (.int (nI 1)), none, none, none] [] (σ.set (22) (.inr (7, [.int (nI 0), .ref 23, .ref 24, .ref 25, .ref 26, .ref 27, .ref 28, .ref 29, .ref 30, .ref 31, .ref 32, .ref 33, .ref 34, .ref 35, .ref 36, .ref 37, .int (vf), .int (wh), .int (wy), .ref 38, .ref 39, .ref 40, .ref 41, .int (hg), .ref 42, .ref 43, .ref 44, .ref 45, .ref 46, .ref 47, .ref 48, .ref 49, .int (dp), .ref 50, .ref 51, .ref 52, .int (md), .int (ov), .int (oh), .int (dn), .int (an)]))) (o) (σ')
              exfalso; simp_all [prOk, bi_0]
          · refine jr_iload d_Mo_method_38 rfl ?_
            refine jr_iconst ((-1)) d_Mo_method_40 (by decide) ?_
            refine jr_icmp_ne 53 d_Mo_method_41 (by decide) (fun c21 => ?_) (fun c21 => ?_)
            · refine jr_iconst ((nI (1))) d_Mo_method_53 (by decide) ?_
              refine jr_goto 58 d_Mo_method_54 (by decide) ?_
              refine jr_istore d_Mo_method_58 (by decide) ?_
              show jl_W l G m_Mo_method (0, 0) 60 [some (.ref 22), some (.int (nI k)), some (.int (nI sl)), some (.int (en p)), some (.int (en q)), some (.int (nI r)), some (.int (nI 1)), none, none, none] [] (σ.set (22) (.inr (7, [.int (nI 0), .ref 23, .ref 24, .ref 25, .ref 26, .ref 27, .ref 28, .ref 29, .ref 30, .ref 31, .ref 32, .ref 33, .ref 34, .ref 35, .ref 36, .ref 37, .int (vf), .int (wh), .int (wy), .ref 38, .ref 39, .ref 40, .ref 41, .int (hg), .ref 42, .ref 43, .ref 44, .ref 45, .ref 46, .ref 47, .ref 48, .ref 49, .int (dp), .ref 50, .ref 51, .ref 52, .int (md), .int (ov), .int (oh), .int (dn), .int (an)]))) (o) (σ')
              exfalso; simp_all [prOk, bi_0]
            · refine jr_aload_n d_Mo_method_44 rfl ?_
              refine jr_iload d_Mo_method_45 rfl ?_
              refine jr_callV (As := [.int (nI r)]) d_Mo_method_47 k_Mo_method_129 (jl_ss hO) rfl rfl rfl (Nat.le_of_ble_eq_true rfl) (by decide) (by decide) (mo_isTyp hl (jl_ss hO) (MoW.sx hw (Or.inl (by decide)))) ?_
              show jl_W l G m_Mo_method (0, 0) 50 [some (.ref 22), some (.int (nI k)), some (.int (nI sl)), some (.int (en p)), some (.int (en q)), some (.int (nI r)), none, none, none, none] [.int (bi (isTyp (nI (r))))] (σ.set (22) (.inr (7, [.int (nI 0), .ref 23, .ref 24, .ref 25, .ref 26, .ref 27, .ref 28, .ref 29, .ref 30, .ref 31, .ref 32, .ref 33, .ref 34, .ref 35, .ref 36, .ref 37, .int (vf), .int (wh), .int (wy), .ref 38, .ref 39, .ref 40, .ref 41, .int (hg), .ref 42, .ref 43, .ref 44, .ref 45, .ref 46, .ref 47, .ref 48, .ref 49, .int (dp), .ref 50, .ref 51, .ref 52, .int (md), .int (ov), .int (oh), .int (dn), .int (an)]))) (o) (σ')
              refine jr_if_ne 57 d_Mo_method_50 (by decide) (fun c22 => ?_) (fun c22 => ?_)
              · refine jr_iconst ((nI (0))) d_Mo_method_57 (by decide) ?_
                refine jr_istore d_Mo_method_58 (by decide) ?_
                show jl_W l G m_Mo_method (0, 0) 60 [some (.ref 22), some (.int (nI k)), some (.int (nI sl)), some (.int (en p)), some (.int (en q)), some (.int (nI r)), some (.int (nI 0)), none, none, none] [] (σ.set (22) (.inr (7, [.int (nI 0), .ref 23, .ref 24, .ref 25, .ref 26, .ref 27, .ref 28, .ref 29, .ref 30, .ref 31, .ref 32, .ref 33, .ref 34, .ref 35, .ref 36, .ref 37, .int (vf), .int (wh), .int (wy), .ref 38, .ref 39, .ref 40, .ref 41, .int (hg), .ref 42, .ref 43, .ref 44, .ref 45, .ref 46, .ref 47, .ref 48, .ref 49, .int (dp), .ref 50, .ref 51, .ref 52, .int (md), .int (ov), .int (oh), .int (dn), .int (an)]))) (o) (σ')
                exact k6
              · refine jr_iconst ((nI (1))) d_Mo_method_53 (by decide) ?_
                refine jr_goto 58 d_Mo_method_54 (by decide) ?_
                refine jr_istore d_Mo_method_58 (by decide) ?_
                show jl_W l G m_Mo_method (0, 0) 60 [some (.ref 22), some (.int (nI k)), some (.int (nI sl)), some (.int (en p)), some (.int (en q)), some (.int (nI r)), some (.int (nI 1)), none, none, none] [] (σ.set (22) (.inr (7, [.int (nI 0), .ref 23, .ref 24, .ref 25, .ref 26, .ref 27, .ref 28, .ref 29, .ref 30, .ref 31, .ref 32, .ref 33, .ref 34, .ref 35, .ref 36, .ref 37, .int (vf), .int (wh), .int (wy), .ref 38, .ref 39, .ref 40, .ref 41, .int (hg), .ref 42, .ref 43, .ref 44, .ref 45, .ref 46, .ref 47, .ref 48, .ref 49, .int (dp), .ref 50, .ref 51, .ref 52, .int (md), .int (ov), .int (oh), .int (dn), .int (an)]))) (o) (σ')
                exfalso; simp_all [prOk, bi_0]
end JMu
