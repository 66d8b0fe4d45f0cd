/-! the model, on (wip/gen/p33.py) -/
section JMr
variable {l : Launch} {G : jl_G} {σ : jl_S} {tb : Nat → Bool} {pr : Nat → Option Nat} {ow fi ft : Nat → Nat} {hs : Nat → Bool} {fa vf wh wy hg dp md ov oh dn an : Int32}
theorem d_Mo_fail_0 : decode m_Mo_fail.2.1 0 = .ok (.aload_n 0, 1) := by decide +kernel
theorem d_Mo_fail_1 : decode m_Mo_fail.2.1 1 = .ok (.iload_n 1, 1) := by decide +kernel
theorem p_Mo_fail_111 : jl_fp m_Mo_fail 111 7 0 = true := by decide +kernel
theorem d_Mo_fail_2 : decode m_Mo_fail.2.1 2 = .ok (.putfield 111, 3) := by decide +kernel
theorem d_Mo_fail_5 : decode m_Mo_fail.2.1 5 = .ok (.iconst 0, 1) := by decide +kernel
theorem d_Mo_fail_6 : decode m_Mo_fail.2.1 6 = .ok (.ireturn, 1) := by decide +kernel
theorem mo_fail (hl : l.stackTraces = false) {c : Int32} (hO : MoO σ fa vf wh wy hg dp md ov oh dn an) (hw : MoW σ tb pr ow ft hs)  : jl_m l G m_Mo_fail [.ref 22, .int (c)] σ (.inl (some (.int (nI 0)))) (σ.set 22 (.inr (7, MoF c vf wh wy hg dp md ov oh dn an))) := by
  obtain ⟨h23, h24, h25, h26, h27⟩ := id hw
  refine jl_of (as := [.ref 22, .int (c)]) rfl (by decide) hl (jl_cc rfl (jl_cc rfl jl_ca)) (Nat.le_of_ble_eq_true rfl) ?_
  show jl_W l G m_Mo_fail (0, 0) 0 [some (.ref 22), some (.int (c))] [] (σ) (.inl (some (.int (nI 0)))) (σ.set 22 (.inr (7, MoF c vf wh wy hg dp md ov oh dn an)))
  refine jr_aload_n d_Mo_fail_0 rfl ?_
  refine jr_iload_n d_Mo_fail_1 rfl ?_
  refine jr_putf d_Mo_fail_2 p_Mo_fail_111 hO (Nat.le_of_ble_eq_true rfl) jl_fit_int ?_
  show jl_W l G m_Mo_fail (0, 0) 5 [some (.ref 22), some (.int (c))] [] (σ.set (22) (.inr (7, [.int (c), .ref 23, .ref 24, .ref 25, .ref 26, .ref 27, .ref 28, .ref 29, .ref 30, .ref 31, .ref 32, .ref 33, .ref 34, .ref 35, .ref 36, .ref 37, .int (vf), .int (wh), .int (wy), .ref 38, .ref 39, .ref 40, .ref 41, .int (hg), .ref 42, .ref 43, .ref 44, .ref 45, .ref 46, .ref 47, .ref 48, .ref 49, .int (dp), .ref 50, .ref 51, .ref 52, .int (md), .int (ov), .int (oh), .int (dn), .int (an)]))) (.inl (some (.int (nI 0)))) (σ.set 22 (.inr (7, MoF c vf wh wy hg dp md ov oh dn an)))
  refine jr_iconst ((nI (0))) d_Mo_fail_5 (by decide) ?_
  exact jr_iretE d_Mo_fail_6 rfl (rfl) (rfl) (by decide) (by decide)
theorem d_Mo_thrown_0 : decode m_Mo_thrown.2.1 0 = .ok (.aload_n 0, 1) := by decide +kernel
theorem f_Mo_thrown_111 : jl_fd m_Mo_thrown 111 7 0 = true := by decide +kernel
theorem d_Mo_thrown_1 : decode m_Mo_thrown.2.1 1 = .ok (.getfield 111, 3) := by decide +kernel
theorem d_Mo_thrown_4 : decode m_Mo_thrown.2.1 4 = .ok (.ireturn, 1) := by decide +kernel
theorem mo_thrown (hl : l.stackTraces = false)  (hO : MoO σ fa vf wh wy hg dp md ov oh dn an) (hw : MoW σ tb pr ow ft hs)  : jl_m l G m_Mo_thrown [.ref 22] σ (.inl (some (.int (fa)))) (σ) := by
  obtain ⟨h23, h24, h25, h26, h27⟩ := id hw
  refine jl_of (as := [.ref 22]) rfl (by decide) hl (jl_cc rfl jl_ca) (Nat.le_of_ble_eq_true rfl) ?_
  show jl_W l G m_Mo_thrown (0, 0) 0 [some (.ref 22)] [] (σ) (.inl (some (.int (fa)))) (σ)
  refine jr_aload_n d_Mo_thrown_0 rfl ?_
  refine jr_getf d_Mo_thrown_1 f_Mo_thrown_111 hO rfl ?_
  exact jr_iretE d_Mo_thrown_4 rfl (rfl) (rfl) (by decide) (by decide)
theorem d_Mo_define_88 : decode m_Mo_define.2.1 88 = .ok (.iload 4, 2) := by decide +kernel
theorem d_Mo_define_90 : decode m_Mo_define.2.1 90 = .ok (.bipush 6, 2) := by decide +kernel
theorem d_Mo_define_92 : decode m_Mo_define.2.1 92 = .ok (.if_icmp .ge 27, 3) := by decide +kernel
theorem d_Mo_define_119 : decode m_Mo_define.2.1 119 = .ok (.iload_n 3, 1) := by decide +kernel
theorem d_Mo_define_120 : decode m_Mo_define.2.1 120 = .ok (.ireturn, 1) := by decide +kernel
theorem d_Mo_define_95 : decode m_Mo_define.2.1 95 = .ok (.iload_n 3, 1) := by decide +kernel
theorem d_Mo_define_96 : decode m_Mo_define.2.1 96 = .ok (.aload_n 0, 1) := by decide +kernel
theorem f_Mo_define_7 : jl_fd m_Mo_define 7 7 1 = true := by decide +kernel
theorem d_Mo_define_97 : decode m_Mo_define.2.1 97 = .ok (.getfield 7, 3) := by decide +kernel
theorem d_Mo_define_100 : decode m_Mo_define.2.1 100 = .ok (.iload 4, 2) := by decide +kernel
theorem d_Mo_define_102 : decode m_Mo_define.2.1 102 = .ok (.baload, 1) := by decide +kernel
theorem d_Mo_define_103 : decode m_Mo_define.2.1 103 = .ok (.ifCond .eq 7, 3) := by decide +kernel
theorem d_Mo_define_110 : decode m_Mo_define.2.1 110 = .ok (.iconst 0, 1) := by decide +kernel
theorem d_Mo_define_111 : decode m_Mo_define.2.1 111 = .ok (.iadd, 1) := by decide +kernel
theorem d_Mo_define_112 : decode m_Mo_define.2.1 112 = .ok (.istore_n 3, 1) := by decide +kernel
theorem d_Mo_define_113 : decode m_Mo_define.2.1 113 = .ok (.iinc 4 1, 3) := by decide +kernel
theorem d_Mo_define_116 : decode m_Mo_define.2.1 116 = .ok (.goto (-28), 3) := by decide +kernel
theorem d_Mo_define_106 : decode m_Mo_define.2.1 106 = .ok (.iconst 1, 1) := by decide +kernel
theorem d_Mo_define_107 : decode m_Mo_define.2.1 107 = .ok (.goto 4, 3) := by decide +kernel
theorem mo_def_loop (hl : l.stackTraces = false) {k : Nat} {b : Int32} (hO : MoO σ fa vf wh wy hg dp md ov oh dn an) (hw : MoW σ tb pr ow ft hs)  : ∀ (nn : Nat) (i n : Nat), 6 - i < nn → i ≤ 6 → n + (6 - i) ≤ 6 → jl_W l G m_Mo_define (0, 0) 88 [some (.ref 22), some (.int (nI k)), some (.int (b)), some (.int (nI n)), some (.int (nI i))] [] σ (.inl (some (.int (nI (n + cnt tb (6 - i) i))))) (σ) := by
  obtain ⟨h23, h24, h25, h26, h27⟩ := id hw
  intro nn
  induction nn with
  | zero => intro i n hnn; exact absurd hnn (Nat.not_lt_zero _)
  | succ nn ihn =>
    intro i n hnn hi hn
    refine jr_iload d_Mo_define_88 rfl ?_
    refine jr_bipush ((nI (6))) d_Mo_define_90 (by decide) ?_
    refine jr_icmp_geN 119 d_Mo_define_92 (by decide) (by omega) (by omega) (fun c1 => ?_) (fun c1 => ?_)
    · refine jr_iload_n d_Mo_define_119 rfl ?_
      exact jr_iretE d_Mo_define_120 rfl (by rw [show 6 - i = 0 by omega]; rfl) (rfl) (by decide) (by decide)
    · refine jr_iload_n d_Mo_define_95 rfl ?_
      refine jr_aload_n d_Mo_define_96 rfl ?_
      refine jr_getf d_Mo_define_97 f_Mo_define_7 hO rfl ?_
      refine jr_iload d_Mo_define_100 rfl ?_
      refine jr_baldN d_Mo_define_102 h23 (by omega) (by omega) ?_
      refine jr_if_eq 110 d_Mo_define_103 (by decide) (fun c2 => ?_) (fun c2 => ?_)
      · refine jr_iconst ((nI (0))) d_Mo_define_110 (by decide) ?_
        refine jr_iaddN d_Mo_define_111 ?_
        refine jr_istore_n d_Mo_define_112 (by decide) ?_
        show jl_W l G m_Mo_define (0, 0) 113 [some (.ref 22), some (.int (nI k)), some (.int (b)), some (.int (nI ((n) + (0)))), some (.int (nI i))] [] (σ) (.inl (some (.int (nI (n + cnt tb (6 - i) i))))) (σ)
        refine jr_iinc ((nI (i + 1))) d_Mo_define_113 (by decide) rfl (jl_inc _) ?_
        show jl_W l G m_Mo_define (0, 0) 116 [some (.ref 22), some (.int (nI k)), some (.int (b)), some (.int (nI ((n) + (0)))), some (.int (nI (i + 1)))] [] (σ) (.inl (some (.int (nI (n + cnt tb (6 - i) i))))) (σ)
        refine jr_goto 88 d_Mo_define_116 (by decide) ?_
        exact jl_oeq (by rw [show 6 - i = (6 - (i + 1)) + 1 by omega]; simp only [cnt]; rw [bi_0.mp c2]; simp) (ihn (i + 1) ((n) + (0)) (by omega) (by omega) (by omega))
      · refine jr_iconst ((nI (1))) d_Mo_define_106 (by decide) ?_
        refine jr_goto 111 d_Mo_define_107 (by decide) ?_
        refine jr_iaddN d_Mo_define_111 ?_
        refine jr_istore_n d_Mo_define_112 (by decide) ?_
        show jl_W l G m_Mo_define (0, 0) 113 [some (.ref 22), some (.int (nI k)), some (.int (b)), some (.int (nI ((n) + (1)))), some (.int (nI i))] [] (σ) (.inl (some (.int (nI (n + cnt tb (6 - i) i))))) (σ)
        refine jr_iinc ((nI (i + 1))) d_Mo_define_113 (by decide) rfl (jl_inc _) ?_
        show jl_W l G m_Mo_define (0, 0) 116 [some (.ref 22), some (.int (nI k)), some (.int (b)), some (.int (nI ((n) + (1)))), some (.int (nI (i + 1)))] [] (σ) (.inl (some (.int (nI (n + cnt tb (6 - i) i))))) (σ)
        refine jr_goto 88 d_Mo_define_116 (by decide) ?_
        exact jl_oeq (by rw [show 6 - i = (6 - (i + 1)) + 1 by omega]; simp only [cnt]; rw [bi_nf c2]; simp [Nat.add_assoc]) (ihn (i + 1) ((n) + (1)) (by omega) (by omega) (by omega))
theorem d_Mo_define_0 : decode m_Mo_define.2.1 0 = .ok (.aload_n 0, 1) := by decide +kernel
theorem d_Mo_define_1 : decode m_Mo_define.2.1 1 = .ok (.iconst 0, 1) := by decide +kernel
theorem p_Mo_define_111 : jl_fp m_Mo_define 111 7 0 = true := by decide +kernel
theorem d_Mo_define_2 : decode m_Mo_define.2.1 2 = .ok (.putfield 111, 3) := by decide +kernel
theorem d_Mo_define_5 : decode m_Mo_define.2.1 5 = .ok (.aload_n 0, 1) := by decide +kernel
theorem d_Mo_define_6 : decode m_Mo_define.2.1 6 = .ok (.iload_n 1, 1) := by decide +kernel
theorem d_Mo_define_7 : decode m_Mo_define.2.1 7 = .ok (.bipush 6, 2) := by decide +kernel
theorem k_Mo_define_114 : jl_cv m_Mo_define m_Mo_out 114 2 = true := by decide +kernel
theorem d_Mo_define_9 : decode m_Mo_define.2.1 9 = .ok (.invokevirtual 114, 3) := by decide +kernel
theorem d_Mo_define_12 : decode m_Mo_define.2.1 12 = .ok (.ifCond .ne 13, 3) := by decide +kernel
theorem d_Mo_define_25 : decode m_Mo_define.2.1 25 = .ok (.aload_n 0, 1) := by decide +kernel
theorem d_Mo_define_26 : decode m_Mo_define.2.1 26 = .ok (.iconst 1, 1) := by decide +kernel
theorem k_Mo_define_118 : jl_cv m_Mo_define m_Mo_fail 118 1 = true := by decide +kernel
theorem d_Mo_define_27 : decode m_Mo_define.2.1 27 = .ok (.invokevirtual 118, 3) := by decide +kernel
theorem d_Mo_define_30 : decode m_Mo_define.2.1 30 = .ok (.ireturn, 1) := by decide +kernel
theorem d_Mo_define_15 : decode m_Mo_define.2.1 15 = .ok (.iload_n 2, 1) := by decide +kernel
theorem d_Mo_define_16 : decode m_Mo_define.2.1 16 = .ok (.iconst (-1), 1) := by decide +kernel
theorem d_Mo_define_17 : decode m_Mo_define.2.1 17 = .ok (.if_icmp .lt 8, 3) := by decide +kernel
theorem d_Mo_define_20 : decode m_Mo_define.2.1 20 = .ok (.iload_n 2, 1) := by decide +kernel
theorem d_Mo_define_21 : decode m_Mo_define.2.1 21 = .ok (.iconst 5, 1) := by decide +kernel
theorem d_Mo_define_22 : decode m_Mo_define.2.1 22 = .ok (.if_icmp .le 9, 3) := by decide +kernel
theorem mo_define_A (hl : l.stackTraces = false) {k b : Int32} (hO : MoO σ fa vf wh wy hg dp md ov oh dn an) (hw : MoW σ tb pr ow ft hs) (h : outB k (nI 6) = true ∨ b < -1 ∨ nI 5 < b) : jl_m l G m_Mo_define [.ref 22, .int (k), .int (b)] σ (.inl (some (.int (nI 0)))) (σ.set 22 (.inr (7, MoF (nI 1) vf wh wy hg dp md ov oh dn an))) := by
  obtain ⟨h23, h24, h25, h26, h27⟩ := id hw
  refine jl_of (as := [.ref 22, .int (k), .int (b)]) rfl (by decide) hl (jl_cc rfl (jl_cc rfl (jl_cc rfl jl_ca))) (Nat.le_of_ble_eq_true rfl) ?_
  show jl_W l G m_Mo_define (0, 0) 0 [some (.ref 22), some (.int (k)), some (.int (b)), none, none] [] (σ) (.inl (some (.int (nI 0)))) (σ.set 22 (.inr (7, MoF (nI 1) vf wh wy hg dp md ov oh dn an)))
  refine jr_aload_n d_Mo_define_0 rfl ?_
  refine jr_iconst ((nI (0))) d_Mo_define_1 (by decide) ?_
  refine jr_putf d_Mo_define_2 p_Mo_define_111 hO (Nat.le_of_ble_eq_true rfl) jl_fit_int ?_
  show jl_W l G m_Mo_define (0, 0) 5 [some (.ref 22), some (.int (k)), some (.int (b)), none, none] [] (σ.set (22) (.inr (7, [.int (nI 0), .ref 23, .ref 24, .ref 25, .ref 26, .ref 27, .ref 28, .ref 29, .ref 30, .ref 31, .ref 32, .ref 33, .ref 34, .ref 35, .ref 36, .ref 37, .int (vf), .int (wh), .int (wy), .ref 38, .ref 39, .ref 40, .ref 41, .int (hg), .ref 42, .ref 43, .ref 44, .ref 45, .ref 46, .ref 47, .ref 48, .ref 49, .int (dp), .ref 50, .ref 51, .ref 52, .int (md), .int (ov), .int (oh), .int (dn), .int (an)]))) (.inl (some (.int (nI 0)))) (σ.set 22 (.inr (7, MoF (nI 1) vf wh wy hg dp md ov oh dn an)))
  refine jr_aload_n d_Mo_define_5 rfl ?_
  refine jr_iload_n d_Mo_define_6 rfl ?_
  refine jr_bipush ((nI (6))) d_Mo_define_7 (by decide) ?_
  refine jr_callV (As := [.int (k), .int (nI 6)]) d_Mo_define_9 k_Mo_define_114 (jl_ss hO) rfl rfl rfl (Nat.le_of_ble_eq_true rfl) (by decide) (by decide) (mo_out hl (jl_ss hO) (MoW.sx hw (Or.inl (by decide)))) ?_
  show jl_W l G m_Mo_define (0, 0) 12 [some (.ref 22), some (.int (k)), some (.int (b)), none, none] [.int (bi (outB k (nI 6)))] (σ.set (22) (.inr (7, [.int (nI 0), .ref 23, .ref 24, .ref 25, .ref 26, .ref 27, .ref 28, .ref 29, .ref 30, .ref 31, .ref 32, .ref 33, .ref 34, .ref 35, .ref 36, .ref 37, .int (vf), .int (wh), .int (wy), .ref 38, .ref 39, .ref 40, .ref 41, .int (hg), .ref 42, .ref 43, .ref 44, .ref 45, .ref 46, .ref 47, .ref 48, .ref 49, .int (dp), .ref 50, .ref 51, .ref 52, .int (md), .int (ov), .int (oh), .int (dn), .int (an)]))) (.inl (some (.int (nI 0)))) (σ.set 22 (.inr (7, MoF (nI 1) vf wh wy hg dp md ov oh dn an)))
  refine jr_if_ne 25 d_Mo_define_12 (by decide) (fun c1 => ?_) (fun c1 => ?_)
  · refine jr_aload_n d_Mo_define_25 rfl ?_
    refine jr_iconst ((nI (1))) d_Mo_define_26 (by decide) ?_
    refine jr_callV (As := [.int (nI 1)]) d_Mo_define_27 k_Mo_define_118 (jl_ss hO) rfl rfl rfl (Nat.le_of_ble_eq_true rfl) (by decide) (by decide) (mo_fail hl (jl_ss hO) (MoW.sx hw (Or.inl (by decide)))) ?_
    show jl_W l G m_Mo_define (0, 0) 30 [some (.ref 22), some (.int (k)), some (.int (b)), none, none] [.int (nI 0)] ((σ.set (22) (.inr (7, [.int (nI 0), .ref 23, .ref 24, .ref 25, .ref 26, .ref 27, .ref 28, .ref 29, .ref 30, .ref 31, .ref 32, .ref 33, .ref 34, .ref 35, .ref 36, .ref 37, .int (vf), .int (wh), .int (wy), .ref 38, .ref 39, .ref 40, .ref 41, .int (hg), .ref 42, .ref 43, .ref 44, .ref 45, .ref 46, .ref 47, .ref 48, .ref 49, .int (dp), .ref 50, .ref 51, .ref 52, .int (md), .int (ov), .int (oh), .int (dn), .int (an)]))).set (22) (.inr (7, [.int (nI 1), .ref 23, .ref 24, .ref 25, .ref 26, .ref 27, .ref 28, .ref 29, .ref 30, .ref 31, .ref 32, .ref 33, .ref 34, .ref 35, .ref 36, .ref 37, .int (vf), .int (wh), .int (wy), .ref 38, .ref 39, .ref 40, .ref 41, .int (hg), .ref 42, .ref 43, .ref 44, .ref 45, .ref 46, .ref 47, .ref 48, .ref 49, .int (dp), .ref 50, .ref 51, .ref 52, .int (md), .int (ov), .int (oh), .int (dn), .int (an)]))) (.inl (some (.int (nI 0)))) (σ.set 22 (.inr (7, MoF (nI 1) vf wh wy hg dp md ov oh dn an)))
    exact jr_iretE d_Mo_define_30 rfl (rfl) ((List.set_set ..).symm) (by decide) (by decide)
  · refine jr_iload_n d_Mo_define_15 rfl ?_
    refine jr_iconst ((-1)) d_Mo_define_16 (by decide) ?_
    refine jr_icmp_lt 25 d_Mo_define_17 (by decide) (fun c2 => ?_) (fun c2 => ?_)
    · refine jr_aload_n d_Mo_define_25 rfl ?_
      refine jr_iconst ((nI (1))) d_Mo_define_26 (by decide) ?_
      refine jr_callV (As := [.int (nI 1)]) d_Mo_define_27 k_Mo_define_118 (jl_ss hO) rfl rfl rfl (Nat.le_of_ble_eq_true rfl) (by decide) (by decide) (mo_fail hl (jl_ss hO) (MoW.sx hw (Or.inl (by decide)))) ?_
      show jl_W l G m_Mo_define (0, 0) 30 [some (.ref 22), some (.int (k)), some (.int (b)), none, none] [.int (nI 0)] ((σ.set (22) (.inr (7, [.int (nI 0), .ref 23, .ref 24, .ref 25, .ref 26, .ref 27, .ref 28, .ref 29, .ref 30, .ref 31, .ref 32, .ref 33, .ref 34, .ref 35, .ref 36, .ref 37, .int (vf), .int (wh), .int (wy), .ref 38, .ref 39, .ref 40, .ref 41, .int (hg), .ref 42, .ref 43, .ref 44, .ref 45, .ref 46, .ref 47, .ref 48, .ref 49, .int (dp), .ref 50, .ref 51, .ref 52, .int (md), .int (ov), .int (oh), .int (dn), .int (an)]))).set (22) (.inr (7, [.int (nI 1), .ref 23, .ref 24, .ref 25, .ref 26, .ref 27, .ref 28, .ref 29, .ref 30, .ref 31, .ref 32, .ref 33, .ref 34, .ref 35, .ref 36, .ref 37, .int (vf), .int (wh), .int (wy), .ref 38, .ref 39, .ref 40, .ref 41, .int (hg), .ref 42, .ref 43, .ref 44, .ref 45, .ref 46, .ref 47, .ref 48, .ref 49, .int (dp), .ref 50, .ref 51, .ref 52, .int (md), .int (ov), .int (oh), .int (dn), .int (an)]))) (.inl (some (.int (nI 0)))) (σ.set 22 (.inr (7, MoF (nI 1) vf wh wy hg dp md ov oh dn an)))
      exact jr_iretE d_Mo_define_30 rfl (rfl) ((List.set_set ..).symm) (by decide) (by decide)
    · refine jr_iload_n d_Mo_define_20 rfl ?_
      refine jr_iconst ((nI (5))) d_Mo_define_21 (by decide) ?_
      refine jr_icmp_le 31 d_Mo_define_22 (by decide) (fun c3 => ?_) (fun c3 => ?_)
      · exact False.elim (h.elim (fun q => by rw [bi_0.mp c1] at q; cases q) (fun q => q.elim c2 (fun q => absurd q (Int32.not_lt.mpr c3))))
      · refine jr_aload_n d_Mo_define_25 rfl ?_
        refine jr_iconst ((nI (1))) d_Mo_define_26 (by decide) ?_
        refine jr_callV (As := [.int (nI 1)]) d_Mo_define_27 k_Mo_define_118 (jl_ss hO) rfl rfl rfl (Nat.le_of_ble_eq_true rfl) (by decide) (by decide) (mo_fail hl (jl_ss hO) (MoW.sx hw (Or.inl (by decide)))) ?_
        show jl_W l G m_Mo_define (0, 0) 30 [some (.ref 22), some (.int (k)), some (.int (b)), none, none] [.int (nI 0)] ((σ.set (22) (.inr (7, [.int (nI 0), .ref 23, .ref 24, .ref 25, .ref 26, .ref 27, .ref 28, .ref 29, .ref 30, .ref 31, .ref 32, .ref 33, .ref 34, .ref 35, .ref 36, .ref 37, .int (vf), .int (wh), .int (wy), .ref 38, .ref 39, .ref 40, .ref 41, .int (hg), .ref 42, .ref 43, .ref 44, .ref 45, .ref 46, .ref 47, .ref 48, .ref 49, .int (dp), .ref 50, .ref 51, .ref 52, .int (md), .int (ov), .int (oh), .int (dn), .int (an)]))).set (22) (.inr (7, [.int (nI 1), .ref 23, .ref 24, .ref 25, .ref 26, .ref 27, .ref 28, .ref 29, .ref 30, .ref 31, .ref 32, .ref 33, .ref 34, .ref 35, .ref 36, .ref 37, .int (vf), .int (wh), .int (wy), .ref 38, .ref 39, .ref 40, .ref 41, .int (hg), .ref 42, .ref 43, .ref 44, .ref 45, .ref 46, .ref 47, .ref 48, .ref 49, .int (dp), .ref 50, .ref 51, .ref 52, .int (md), .int (ov), .int (oh), .int (dn), .int (an)]))) (.inl (some (.int (nI 0)))) (σ.set 22 (.inr (7, MoF (nI 1) vf wh wy hg dp md ov oh dn an)))
        exact jr_iretE d_Mo_define_30 rfl (rfl) ((List.set_set ..).symm) (by decide) (by decide)
theorem mo_outN (hl : l.stackTraces = false) {j n : Nat} (hO : MoO σ fa vf wh wy hg dp md ov oh dn an) (hw : MoW σ tb pr ow ft hs) (hn : n < 2 ^ 31) (hj : j < n) : jl_m l G m_Mo_out [.ref 22, .int (nI j), .int (nI n)] σ (.inl (some (.int (nI 0)))) σ := by
  have q := mo_out (G := G) (v := nI j) (n := nI n) hl hO hw
  rw [outB_n hn hj] at q
  exact q
theorem d_Mo_define_31 : decode m_Mo_define.2.1 31 = .ok (.aload_n 0, 1) := by decide +kernel
theorem d_Mo_define_32 : decode m_Mo_define.2.1 32 = .ok (.getfield 7, 3) := by decide +kernel
theorem d_Mo_define_35 : decode m_Mo_define.2.1 35 = .ok (.iload_n 1, 1) := by decide +kernel
theorem d_Mo_define_36 : decode m_Mo_define.2.1 36 = .ok (.baload, 1) := by decide +kernel
theorem d_Mo_define_37 : decode m_Mo_define.2.1 37 = .ok (.ifCond .ne 21, 3) := by decide +kernel
theorem d_Mo_define_58 : decode m_Mo_define.2.1 58 = .ok (.aload_n 0, 1) := by decide +kernel
theorem d_Mo_define_59 : decode m_Mo_define.2.1 59 = .ok (.iconst 2, 1) := by decide +kernel
theorem d_Mo_define_60 : decode m_Mo_define.2.1 60 = .ok (.invokevirtual 118, 3) := by decide +kernel
theorem d_Mo_define_63 : decode m_Mo_define.2.1 63 = .ok (.ireturn, 1) := by decide +kernel
theorem d_Mo_define_40 : decode m_Mo_define.2.1 40 = .ok (.iload_n 2, 1) := by decide +kernel
theorem d_Mo_define_41 : decode m_Mo_define.2.1 41 = .ok (.iload_n 1, 1) := by decide +kernel
theorem d_Mo_define_42 : decode m_Mo_define.2.1 42 = .ok (.if_icmp .ge 16, 3) := by decide +kernel
theorem d_Mo_define_45 : decode m_Mo_define.2.1 45 = .ok (.iload_n 2, 1) := by decide +kernel
theorem d_Mo_define_46 : decode m_Mo_define.2.1 46 = .ok (.ifCond .lt 18, 3) := by decide +kernel
theorem d_Mo_define_64 : decode m_Mo_define.2.1 64 = .ok (.aload_n 0, 1) := by decide +kernel
theorem d_Mo_define_65 : decode m_Mo_define.2.1 65 = .ok (.getfield 7, 3) := by decide +kernel
theorem d_Mo_define_68 : decode m_Mo_define.2.1 68 = .ok (.iload_n 1, 1) := by decide +kernel
theorem d_Mo_define_69 : decode m_Mo_define.2.1 69 = .ok (.iconst 1, 1) := by decide +kernel
theorem d_Mo_define_70 : decode m_Mo_define.2.1 70 = .ok (.bastore, 1) := by decide +kernel
theorem d_Mo_define_71 : decode m_Mo_define.2.1 71 = .ok (.aload_n 0, 1) := by decide +kernel
theorem f_Mo_define_13 : jl_fd m_Mo_define 13 7 2 = true := by decide +kernel
theorem d_Mo_define_72 : decode m_Mo_define.2.1 72 = .ok (.getfield 13, 3) := by decide +kernel
theorem d_Mo_define_75 : decode m_Mo_define.2.1 75 = .ok (.iload_n 1, 1) := by decide +kernel
theorem d_Mo_define_76 : decode m_Mo_define.2.1 76 = .ok (.iload_n 2, 1) := by decide +kernel
theorem d_Mo_define_77 : decode m_Mo_define.2.1 77 = .ok (.iastore, 1) := by decide +kernel
theorem d_Mo_define_78 : decode m_Mo_define.2.1 78 = .ok (.aload_n 0, 1) := by decide +kernel
theorem d_Mo_define_79 : decode m_Mo_define.2.1 79 = .ok (.iconst 0, 1) := by decide +kernel
theorem p_Mo_define_122 : jl_fp m_Mo_define 122 7 16 = true := by decide +kernel
theorem d_Mo_define_80 : decode m_Mo_define.2.1 80 = .ok (.putfield 122, 3) := by decide +kernel
theorem d_Mo_define_83 : decode m_Mo_define.2.1 83 = .ok (.iconst 0, 1) := by decide +kernel
theorem d_Mo_define_84 : decode m_Mo_define.2.1 84 = .ok (.istore_n 3, 1) := by decide +kernel
theorem d_Mo_define_85 : decode m_Mo_define.2.1 85 = .ok (.iconst 0, 1) := by decide +kernel
theorem d_Mo_define_86 : decode m_Mo_define.2.1 86 = .ok (.istore 4, 2) := by decide +kernel
theorem d_Mo_define_49 : decode m_Mo_define.2.1 49 = .ok (.aload_n 0, 1) := by decide +kernel
theorem d_Mo_define_50 : decode m_Mo_define.2.1 50 = .ok (.getfield 7, 3) := by decide +kernel
theorem d_Mo_define_53 : decode m_Mo_define.2.1 53 = .ok (.iload_n 2, 1) := by decide +kernel
theorem d_Mo_define_54 : decode m_Mo_define.2.1 54 = .ok (.baload, 1) := by decide +kernel
theorem d_Mo_define_55 : decode m_Mo_define.2.1 55 = .ok (.ifCond .ne 9, 3) := by decide +kernel
theorem mo_define (hl : l.stackTraces = false) {k : Nat} {b : Option Nat} (hO : MoO σ fa vf wh wy hg dp md ov oh dn an) (hw : MoW σ tb pr ow ft hs) (hk : k < 6) (hb : ob 6 b) : jl_m l G m_Mo_define [.ref 22, .int (nI k), .int (en b)] σ (if dfOk tb k b = true then .inl (some (.int (nI (cnt (va_up tb k true) 6 0)))) else .inl (some (.int (nI 0)))) (if dfOk tb k b = true then (((σ.set 22 (.inr (7, MoF (nI 0) vf wh wy hg dp md ov oh dn an))).set 23 (.inl (1, 6, .inl fun j => bi (va_up tb k true j)))).set 24 (.inl (0, 6, .inl fun j => en (va_up pr k b j)))).set 22 (.inr (7, MoF (nI 0) (nI 0) wh wy hg dp md ov oh dn an)) else σ.set 22 (.inr (7, MoF (nI 2) vf wh wy hg dp md ov oh dn an))) := by
  obtain ⟨h23, h24, h25, h26, h27⟩ := id hw
  refine jl_of (as := [.ref 22, .int (nI k), .int (en b)]) rfl (by decide) hl (jl_cc rfl (jl_cc rfl (jl_cc rfl jl_ca))) (Nat.le_of_ble_eq_true rfl) ?_
  show jl_W l G m_Mo_define (0, 0) 0 [some (.ref 22), some (.int (nI k)), some (.int (en b)), none, none] [] (σ) (if dfOk tb k b = true then .inl (some (.int (nI (cnt (va_up tb k true) 6 0)))) else .inl (some (.int (nI 0)))) (if dfOk tb k b = true then (((σ.set 22 (.inr (7, MoF (nI 0) vf wh wy hg dp md ov oh dn an))).set 23 (.inl (1, 6, .inl fun j => bi (va_up tb k true j)))).set 24 (.inl (0, 6, .inl fun j => en (va_up pr k b j)))).set 22 (.inr (7, MoF (nI 0) (nI 0) wh wy hg dp md ov oh dn an)) else σ.set 22 (.inr (7, MoF (nI 2) vf wh wy hg dp md ov oh dn an)))
  refine jr_aload_n d_Mo_define_0 rfl ?_
  refine jr_iconst ((nI (0))) d_Mo_define_1 (by decide) ?_
  refine jr_putf d_Mo_define_2 p_Mo_define_111 hO (Nat.le_of_ble_eq_true rfl) jl_fit_int ?_
  show jl_W l G m_Mo_define (0, 0) 5 [some (.ref 22), some (.int (nI k)), some (.int (en b)), none, none] [] (σ.set (22) (.inr (7, [.int (nI 0), .ref 23, .ref 24, .ref 25, .ref 26, .ref 27, .ref 28, .ref 29, .ref 30, .ref 31, .ref 32, .ref 33, .ref 34, .ref 35, .ref 36, .ref 37, .int (vf), .int (wh), .int (wy), .ref 38, .ref 39, .ref 40, .ref 41, .int (hg), .ref 42, .ref 43, .ref 44, .ref 45, .ref 46, .ref 47, .ref 48, .ref 49, .int (dp), .ref 50, .ref 51, .ref 52, .int (md), .int (ov), .int (oh), .int (dn), .int (an)]))) (if dfOk tb k b = true then .inl (some (.int (nI (cnt (va_up tb k true) 6 0)))) else .inl (some (.int (nI 0)))) (if dfOk tb k b = true then (((σ.set 22 (.inr (7, MoF (nI 0) vf wh wy hg dp md ov oh dn an))).set 23 (.inl (1, 6, .inl fun j => bi (va_up tb k true j)))).set 24 (.inl (0, 6, .inl fun j => en (va_up pr k b j)))).set 22 (.inr (7, MoF (nI 0) (nI 0) wh wy hg dp md ov oh dn an)) else σ.set 22 (.inr (7, MoF (nI 2) vf wh wy hg dp md ov oh dn an)))
  refine jr_aload_n d_Mo_define_5 rfl ?_
  refine jr_iload_n d_Mo_define_6 rfl ?_
  refine jr_bipush ((nI (6))) d_Mo_define_7 (by decide) ?_
  refine jr_callV (As := [.int (nI k), .int (nI 6)]) d_Mo_define_9 k_Mo_define_114 (jl_ss hO) rfl rfl rfl (Nat.le_of_ble_eq_true rfl) (by decide) (by decide) (mo_outN hl (jl_ss hO) (MoW.sx hw (Or.inl (by decide))) (by decide) (by omega)) ?_
  show jl_W l G m_Mo_define (0, 0) 12 [some (.ref 22), some (.int (nI k)), some (.int (en b)), none, none] [.int (nI 0)] (σ.set (22) (.inr (7, [.int (nI 0), .ref 23, .ref 24, .ref 25, .ref 26, .ref 27, .ref 28, .ref 29, .ref 30, .ref 31, .ref 32, .ref 33, .ref 34, .ref 35, .ref 36, .ref 37, .int (vf), .int (wh), .int (wy), .ref 38, .ref 39, .ref 40, .ref 41, .int (hg), .ref 42, .ref 43, .ref 44, .ref 45, .ref 46, .ref 47, .ref 48, .ref 49, .int (dp), .ref 50, .ref 51, .ref 52, .int (md), .int (ov), .int (oh), .int (dn), .int (an)]))) (if dfOk tb k b = true then .inl (some (.int (nI (cnt (va_up tb k true) 6 0)))) else .inl (some (.int (nI 0)))) (if dfOk tb k b = true then (((σ.set 22 (.inr (7, MoF (nI 0) vf wh wy hg dp md ov oh dn an))).set 23 (.inl (1, 6, .inl fun j => bi (va_up tb k true j)))).set 24 (.inl (0, 6, .inl fun j => en (va_up pr k b j)))).set 22 (.inr (7, MoF (nI 0) (nI 0) wh wy hg dp md ov oh dn an)) else σ.set 22 (.inr (7, MoF (nI 2) vf wh wy hg dp md ov oh dn an)))
  refine jr_if_ne 25 d_Mo_define_12 (by decide) (fun z => absurd rfl z) (fun _ => ?_)
  cases b with
  | none =>
    show jl_W l G m_Mo_define (0, 0) 15 [some (.ref 22), some (.int (nI k)), some (.int (-1)), none, none] [] (σ.set (22) (.inr (7, [.int (nI 0), .ref 23, .ref 24, .ref 25, .ref 26, .ref 27, .ref 28, .ref 29, .ref 30, .ref 31, .ref 32, .ref 33, .ref 34, .ref 35, .ref 36, .ref 37, .int (vf), .int (wh), .int (wy), .ref 38, .ref 39, .ref 40, .ref 41, .int (hg), .ref 42, .ref 43, .ref 44, .ref 45, .ref 46, .ref 47, .ref 48, .ref 49, .int (dp), .ref 50, .ref 51, .ref 52, .int (md), .int (ov), .int (oh), .int (dn), .int (an)]))) (if dfOk tb k none = true then .inl (some (.int (nI (cnt (va_up tb k true) 6 0)))) else .inl (some (.int (nI 0)))) (if dfOk tb k none = true then (((σ.set 22 (.inr (7, MoF (nI 0) vf wh wy hg dp md ov oh dn an))).set 23 (.inl (1, 6, .inl fun j => bi (va_up tb k true j)))).set 24 (.inl (0, 6, .inl fun j => en (va_up pr k none j)))).set 22 (.inr (7, MoF (nI 0) (nI 0) wh wy hg dp md ov oh dn an)) else σ.set 22 (.inr (7, MoF (nI 2) vf wh wy hg dp md ov oh dn an)))
    refine jr_iload_n d_Mo_define_15 rfl ?_
    refine jr_iconst ((-1)) d_Mo_define_16 (by decide) ?_
    refine jr_icmp_lt 25 d_Mo_define_17 (by decide) (fun z => absurd z (by decide)) (fun _ => ?_)
    refine jr_iload_n d_Mo_define_20 rfl ?_
    refine jr_iconst ((nI (5))) d_Mo_define_21 (by decide) ?_
    refine jr_icmp_le 31 d_Mo_define_22 (by decide) (fun _ => ?_) (fun z => absurd (en_m1le (by omega)) z)
    refine jr_aload_n d_Mo_define_31 rfl ?_
    refine jr_getf d_Mo_define_32 f_Mo_define_7 (jl_ss hO) rfl ?_
    refine jr_iload_n d_Mo_define_35 rfl ?_
    refine jr_baldN d_Mo_define_36 (jl_sn (by decide) h23) (by omega) (by omega) ?_
    refine jr_if_ne 58 d_Mo_define_37 (by decide) (fun c1 => ?_) (fun c1 => ?_)
    · refine jr_aload_n d_Mo_define_58 rfl ?_
      refine jr_iconst ((nI (2))) d_Mo_define_59 (by decide) ?_
      refine jr_callV (As := [.int (nI 2)]) d_Mo_define_60 k_Mo_define_118 (jl_ss hO) rfl rfl rfl (Nat.le_of_ble_eq_true rfl) (by decide) (by decide) (mo_fail hl (jl_ss hO) (MoW.sx hw (Or.inl (by decide)))) ?_
      show jl_W l G m_Mo_define (0, 0) 63 [some (.ref 22), some (.int (nI k)), some (.int (-1)), none, none] [.int (nI 0)] ((σ.set (22) (.inr (7, [.int (nI 0), .ref 23, .ref 24, .ref 25, .ref 26, .ref 27, .ref 28, .ref 29, .ref 30, .ref 31, .ref 32, .ref 33, .ref 34, .ref 35, .ref 36, .ref 37, .int (vf), .int (wh), .int (wy), .ref 38, .ref 39, .ref 40, .ref 41, .int (hg), .ref 42, .ref 43, .ref 44, .ref 45, .ref 46, .ref 47, .ref 48, .ref 49, .int (dp), .ref 50, .ref 51, .ref 52, .int (md), .int (ov), .int (oh), .int (dn), .int (an)]))).set (22) (.inr (7, [.int (nI 2), .ref 23, .ref 24, .ref 25, .ref 26, .ref 27, .ref 28, .ref 29, .ref 30, .ref 31, .ref 32, .ref 33, .ref 34, .ref 35, .ref 36, .ref 37, .int (vf), .int (wh), .int (wy), .ref 38, .ref 39, .ref 40, .ref 41, .int (hg), .ref 42, .ref 43, .ref 44, .ref 45, .ref 46, .ref 47, .ref 48, .ref 49, .int (dp), .ref 50, .ref 51, .ref 52, .int (md), .int (ov), .int (oh), .int (dn), .int (an)]))) (if dfOk tb k none = true then .inl (some (.int (nI (cnt (va_up tb k true) 6 0)))) else .inl (some (.int (nI 0)))) (if dfOk tb k none = true then (((σ.set 22 (.inr (7, MoF (nI 0) vf wh wy hg dp md ov oh dn an))).set 23 (.inl (1, 6, .inl fun j => bi (va_up tb k true j)))).set 24 (.inl (0, 6, .inl fun j => en (va_up pr k none j)))).set 22 (.inr (7, MoF (nI 0) (nI 0) wh wy hg dp md ov oh dn an)) else σ.set 22 (.inr (7, MoF (nI 2) vf wh wy hg dp md ov oh dn an)))
      exact jr_iretE d_Mo_define_63 rfl (by rw [if_neg (show ¬ dfOk tb k none = true by simp [dfOk, bi_nf c1])]) (by rw [if_neg (show ¬ dfOk tb k none = true by simp [dfOk, bi_nf c1])]; exact (List.set_set ..).symm) (by decide) (by decide)
    · refine jr_iload_n d_Mo_define_40 rfl ?_
      refine jr_iload_n d_Mo_define_41 rfl ?_
      refine jr_icmp_ge 58 d_Mo_define_42 (by decide) (fun z => absurd z (Int32.not_le.mpr (en_m1lt (by omega)))) (fun _ => ?_)
      refine jr_iload_n d_Mo_define_45 rfl ?_
      refine jr_if_lt 64 d_Mo_define_46 (by decide) (fun _ => ?_) (fun z => absurd (by decide) z)
      refine jr_aload_n d_Mo_define_64 rfl ?_
      refine jr_getf d_Mo_define_65 f_Mo_define_7 (jl_ss hO) rfl ?_
      refine jr_iload_n d_Mo_define_68 rfl ?_
      refine jr_iconst ((nI (1))) d_Mo_define_69 (by decide) ?_
      refine jr_bastN d_Mo_define_70 (jl_sn (by decide) h23) (by omega) (by omega) (by decide) ?_
      rw [show upd (fun j => bi (tb j)) (k) ((nI (1))) = (fun j => bi ((va_up tb (k) (true)) j)) from bi_up tb (k) (true)]
      show jl_W l G m_Mo_define (0, 0) 71 [some (.ref 22), some (.int (nI k)), some (.int (-1)), none, none] [] ((σ.set (22) (.inr (7, [.int (nI 0), .ref 23, .ref 24, .ref 25, .ref 26, .ref 27, .ref 28, .ref 29, .ref 30, .ref 31, .ref 32, .ref 33, .ref 34, .ref 35, .ref 36, .ref 37, .int (vf), .int (wh), .int (wy), .ref 38, .ref 39, .ref 40, .ref 41, .int (hg), .ref 42, .ref 43, .ref 44, .ref 45, .ref 46, .ref 47, .ref 48, .ref 49, .int (dp), .ref 50, .ref 51, .ref 52, .int (md), .int (ov), .int (oh), .int (dn), .int (an)]))).set (23) (.inl (1, 6, .inl (fun j => bi ((va_up tb (k) (true)) j))))) (if dfOk tb k none = true then .inl (some (.int (nI (cnt (va_up tb k true) 6 0)))) else .inl (some (.int (nI 0)))) (if dfOk tb k none = true then (((σ.set 22 (.inr (7, MoF (nI 0) vf wh wy hg dp md ov oh dn an))).set 23 (.inl (1, 6, .inl fun j => bi (va_up tb k true j)))).set 24 (.inl (0, 6, .inl fun j => en (va_up pr k none j)))).set 22 (.inr (7, MoF (nI 0) (nI 0) wh wy hg dp md ov oh dn an)) else σ.set 22 (.inr (7, MoF (nI 2) vf wh wy hg dp md ov oh dn an)))
      refine jr_aload_n d_Mo_define_71 rfl ?_
      refine jr_getf d_Mo_define_72 f_Mo_define_13 (jl_sn (by decide) (jl_ss hO)) rfl ?_
      refine jr_iload_n d_Mo_define_75 rfl ?_
      refine jr_iload_n d_Mo_define_76 rfl ?_
      refine jr_iastN d_Mo_define_77 (jl_sn (by decide) (jl_sn (by decide) h24)) (by omega) (by omega) ?_
      rw [show upd (fun j => en (pr j)) (k) ((-1)) = (fun j => en ((va_up pr (k) (none)) j)) from en_up pr (k) (none)]
      show jl_W l G m_Mo_define (0, 0) 78 [some (.ref 22), some (.int (nI k)), some (.int (-1)), none, none] [] (((σ.set (22) (.inr (7, [.int (nI 0), .ref 23, .ref 24, .ref 25, .ref 26, .ref 27, .ref 28, .ref 29, .ref 30, .ref 31, .ref 32, .ref 33, .ref 34, .ref 35, .ref 36, .ref 37, .int (vf), .int (wh), .int (wy), .ref 38, .ref 39, .ref 40, .ref 41, .int (hg), .ref 42, .ref 43, .ref 44, .ref 45, .ref 46, .ref 47, .ref 48, .ref 49, .int (dp), .ref 50, .ref 51, .ref 52, .int (md), .int (ov), .int (oh), .int (dn), .int (an)]))).set (23) (.inl (1, 6, .inl (fun j => bi ((va_up tb (k) (true)) j))))).set (24) (.inl (0, 6, .inl (fun j => en ((va_up pr (k) (none)) j))))) (if dfOk tb k none = true then .inl (some (.int (nI (cnt (va_up tb k true) 6 0)))) else .inl (some (.int (nI 0)))) (if dfOk tb k none = true then (((σ.set 22 (.inr (7, MoF (nI 0) vf wh wy hg dp md ov oh dn an))).set 23 (.inl (1, 6, .inl fun j => bi (va_up tb k true j)))).set 24 (.inl (0, 6, .inl fun j => en (va_up pr k none j)))).set 22 (.inr (7, MoF (nI 0) (nI 0) wh wy hg dp md ov oh dn an)) else σ.set 22 (.inr (7, MoF (nI 2) vf wh wy hg dp md ov oh dn an)))
      refine jr_aload_n d_Mo_define_78 rfl ?_
      refine jr_iconst ((nI (0))) d_Mo_define_79 (by decide) ?_
      refine jr_putf d_Mo_define_80 p_Mo_define_122 (jl_sn (by decide) (jl_sn (by decide) (jl_ss hO))) (Nat.le_of_ble_eq_true rfl) jl_fit_b0 ?_
      show jl_W l G m_Mo_define (0, 0) 83 [some (.ref 22), some (.int (nI k)), some (.int (-1)), none, none] [] ((((σ.set (22) (.inr (7, [.int (nI 0), .ref 23, .ref 24, .ref 25, .ref 26, .ref 27, .ref 28, .ref 29, .ref 30, .ref 31, .ref 32, .ref 33, .ref 34, .ref 35, .ref 36, .ref 37, .int (vf), .int (wh), .int (wy), .ref 38, .ref 39, .ref 40, .ref 41, .int (hg), .ref 42, .ref 43, .ref 44, .ref 45, .ref 46, .ref 47, .ref 48, .ref 49, .int (dp), .ref 50, .ref 51, .ref 52, .int (md), .int (ov), .int (oh), .int (dn), .int (an)]))).set (23) (.inl (1, 6, .inl (fun j => bi ((va_up tb (k) (true)) j))))).set (24) (.inl (0, 6, .inl (fun j => en ((va_up pr (k) (none)) j))))).set (22) (.inr (7, [.int (nI 0), .ref 23, .ref 24, .ref 25, .ref 26, .ref 27, .ref 28, .ref 29, .ref 30, .ref 31, .ref 32, .ref 33, .ref 34, .ref 35, .ref 36, .ref 37, .int (nI 0), .int (wh), .int (wy), .ref 38, .ref 39, .ref 40, .ref 41, .int (hg), .ref 42, .ref 43, .ref 44, .ref 45, .ref 46, .ref 47, .ref 48, .ref 49, .int (dp), .ref 50, .ref 51, .ref 52, .int (md), .int (ov), .int (oh), .int (dn), .int (an)]))) (if dfOk tb k none = true then .inl (some (.int (nI (cnt (va_up tb k true) 6 0)))) else .inl (some (.int (nI 0)))) (if dfOk tb k none = true then (((σ.set 22 (.inr (7, MoF (nI 0) vf wh wy hg dp md ov oh dn an))).set 23 (.inl (1, 6, .inl fun j => bi (va_up tb k true j)))).set 24 (.inl (0, 6, .inl fun j => en (va_up pr k none j)))).set 22 (.inr (7, MoF (nI 0) (nI 0) wh wy hg dp md ov oh dn an)) else σ.set 22 (.inr (7, MoF (nI 2) vf wh wy hg dp md ov oh dn an)))
      refine jr_iconst ((nI (0))) d_Mo_define_83 (by decide) ?_
      refine jr_istore_n d_Mo_define_84 (by decide) ?_
      show jl_W l G m_Mo_define (0, 0) 85 [some (.ref 22), some (.int (nI k)), some (.int (-1)), some (.int (nI 0)), none] [] ((((σ.set (22) (.inr (7, [.int (nI 0), .ref 23, .ref 24, .ref 25, .ref 26, .ref 27, .ref 28, .ref 29, .ref 30, .ref 31, .ref 32, .ref 33, .ref 34, .ref 35, .ref 36, .ref 37, .int (vf), .int (wh), .int (wy), .ref 38, .ref 39, .ref 40, .ref 41, .int (hg), .ref 42, .ref 43, .ref 44, .ref 45, .ref 46, .ref 47, .ref 48, .ref 49, .int (dp), .ref 50, .ref 51, .ref 52, .int (md), .int (ov), .int (oh), .int (dn), .int (an)]))).set (23) (.inl (1, 6, .inl (fun j => bi ((va_up tb (k) (true)) j))))).set (24) (.inl (0, 6, .inl (fun j => en ((va_up pr (k) (none)) j))))).set (22) (.inr (7, [.int (nI 0), .ref 23, .ref 24, .ref 25, .ref 26, .ref 27, .ref 28, .ref 29, .ref 30, .ref 31, .ref 32, .ref 33, .ref 34, .ref 35, .ref 36, .ref 37, .int (nI 0), .int (wh), .int (wy), .ref 38, .ref 39, .ref 40, .ref 41, .int (hg), .ref 42, .ref 43, .ref 44, .ref 45, .ref 46, .ref 47, .ref 48, .ref 49, .int (dp), .ref 50, .ref 51, .ref 52, .int (md), .int (ov), .int (oh), .int (dn), .int (an)]))) (if dfOk tb k none = true then .inl (some (.int (nI (cnt (va_up tb k true) 6 0)))) else .inl (some (.int (nI 0)))) (if dfOk tb k none = true then (((σ.set 22 (.inr (7, MoF (nI 0) vf wh wy hg dp md ov oh dn an))).set 23 (.inl (1, 6, .inl fun j => bi (va_up tb k true j)))).set 24 (.inl (0, 6, .inl fun j => en (va_up pr k none j)))).set 22 (.inr (7, MoF (nI 0) (nI 0) wh wy hg dp md ov oh dn an)) else σ.set 22 (.inr (7, MoF (nI 2) vf wh wy hg dp md ov oh dn an)))
      refine jr_iconst ((nI (0))) d_Mo_define_85 (by decide) ?_
      refine jr_istore d_Mo_define_86 (by decide) ?_
      show jl_W l G m_Mo_define (0, 0) 88 [some (.ref 22), some (.int (nI k)), some (.int (-1)), some (.int (nI 0)), some (.int (nI 0))] [] ((((σ.set (22) (.inr (7, [.int (nI 0), .ref 23, .ref 24, .ref 25, .ref 26, .ref 27, .ref 28, .ref 29, .ref 30, .ref 31, .ref 32, .ref 33, .ref 34, .ref 35, .ref 36, .ref 37, .int (vf), .int (wh), .int (wy), .ref 38, .ref 39, .ref 40, .ref 41, .int (hg), .ref 42, .ref 43, .ref 44, .ref 45, .ref 46, .ref 47, .ref 48, .ref 49, .int (dp), .ref 50, .ref 51, .ref 52, .int (md), .int (ov), .int (oh), .int (dn), .int (an)]))).set (23) (.inl (1, 6, .inl (fun j => bi ((va_up tb (k) (true)) j))))).set (24) (.inl (0, 6, .inl (fun j => en ((va_up pr (k) (none)) j))))).set (22) (.inr (7, [.int (nI 0), .ref 23, .ref 24, .ref 25, .ref 26, .ref 27, .ref 28, .ref 29, .ref 30, .ref 31, .ref 32, .ref 33, .ref 34, .ref 35, .ref 36, .ref 37, .int (nI 0), .int (wh), .int (wy), .ref 38, .ref 39, .ref 40, .ref 41, .int (hg), .ref 42, .ref 43, .ref 44, .ref 45, .ref 46, .ref 47, .ref 48, .ref 49, .int (dp), .ref 50, .ref 51, .ref 52, .int (md), .int (ov), .int (oh), .int (dn), .int (an)]))) (if dfOk tb k none = true then .inl (some (.int (nI (cnt (va_up tb k true) 6 0)))) else .inl (some (.int (nI 0)))) (if dfOk tb k none = true then (((σ.set 22 (.inr (7, MoF (nI 0) vf wh wy hg dp md ov oh dn an))).set 23 (.inl (1, 6, .inl fun j => bi (va_up tb k true j)))).set 24 (.inl (0, 6, .inl fun j => en (va_up pr k none j)))).set 22 (.inr (7, MoF (nI 0) (nI 0) wh wy hg dp md ov oh dn an)) else σ.set 22 (.inr (7, MoF (nI 2) vf wh wy hg dp md ov oh dn an)))
      exact jl_oeq (by rw [if_pos (show dfOk tb k none = true by simp [dfOk, bi_0.mp c1]), Nat.zero_add]) (jl_seq (by rw [if_pos (show dfOk tb k none = true by simp [dfOk, bi_0.mp c1])]) (mo_def_loop hl (jl_ss (jl_sn (by decide) (jl_sn (by decide) (jl_ss hO)))) (MoW.sx (MoW.s24 (MoW.s23 (MoW.sx hw (Or.inl (by decide))))) (Or.inl (by decide))) 7 0 0 (by omega) (by omega) (by omega)))
  | some q =>
    have hq := hb q rfl
    show jl_W l G m_Mo_define (0, 0) 15 [some (.ref 22), some (.int (nI k)), some (.int (nI q)), none, none] [] (σ.set (22) (.inr (7, [.int (nI 0), .ref 23, .ref 24, .ref 25, .ref 26, .ref 27, .ref 28, .ref 29, .ref 30, .ref 31, .ref 32, .ref 33, .ref 34, .ref 35, .ref 36, .ref 37, .int (vf), .int (wh), .int (wy), .ref 38, .ref 39, .ref 40, .ref 41, .int (hg), .ref 42, .ref 43, .ref 44, .ref 45, .ref 46, .ref 47, .ref 48, .ref 49, .int (dp), .ref 50, .ref 51, .ref 52, .int (md), .int (ov), .int (oh), .int (dn), .int (an)]))) (if dfOk tb k (some q) = true then .inl (some (.int (nI (cnt (va_up tb k true) 6 0)))) else .inl (some (.int (nI 0)))) (if dfOk tb k (some q) = true then (((σ.set 22 (.inr (7, MoF (nI 0) vf wh wy hg dp md ov oh dn an))).set 23 (.inl (1, 6, .inl fun j => bi (va_up tb k true j)))).set 24 (.inl (0, 6, .inl fun j => en (va_up pr k (some q) j)))).set 22 (.inr (7, MoF (nI 0) (nI 0) wh wy hg dp md ov oh dn an)) else σ.set 22 (.inr (7, MoF (nI 2) vf wh wy hg dp md ov oh dn an)))
    refine jr_iload_n d_Mo_define_15 rfl ?_
    refine jr_iconst ((-1)) d_Mo_define_16 (by decide) ?_
    refine jr_icmp_lt 25 d_Mo_define_17 (by decide) (fun z => absurd z (Int32.not_lt.mpr (en_m1le (by omega)))) (fun _ => ?_)
    refine jr_iload_n d_Mo_define_20 rfl ?_
    refine jr_iconst ((nI (5))) d_Mo_define_21 (by decide) ?_
    refine jr_icmp_leN 31 d_Mo_define_22 (by decide) (by omega) (by omega) (fun c2 => ?_) (fun c2 => ?_)
    · refine jr_aload_n d_Mo_define_31 rfl ?_
      refine jr_getf d_Mo_define_32 f_Mo_define_7 (jl_ss hO) rfl ?_
      refine jr_iload_n d_Mo_define_35 rfl ?_
      refine jr_baldN d_Mo_define_36 (jl_sn (by decide) h23) (by omega) (by omega) ?_
      refine jr_if_ne 58 d_Mo_define_37 (by decide) (fun c3 => ?_) (fun c3 => ?_)
      · refine jr_aload_n d_Mo_define_58 rfl ?_
        refine jr_iconst ((nI (2))) d_Mo_define_59 (by decide) ?_
        refine jr_callV (As := [.int (nI 2)]) d_Mo_define_60 k_Mo_define_118 (jl_ss hO) rfl rfl rfl (Nat.le_of_ble_eq_true rfl) (by decide) (by decide) (mo_fail hl (jl_ss hO) (MoW.sx hw (Or.inl (by decide)))) ?_
        show jl_W l G m_Mo_define (0, 0) 63 [some (.ref 22), some (.int (nI k)), some (.int (nI q)), none, none] [.int (nI 0)] ((σ.set (22) (.inr (7, [.int (nI 0), .ref 23, .ref 24, .ref 25, .ref 26, .ref 27, .ref 28, .ref 29, .ref 30, .ref 31, .ref 32, .ref 33, .ref 34, .ref 35, .ref 36, .ref 37, .int (vf), .int (wh), .int (wy), .ref 38, .ref 39, .ref 40, .ref 41, .int (hg), .ref 42, .ref 43, .ref 44, .ref 45, .ref 46, .ref 47, .ref 48, .ref 49, .int (dp), .ref 50, .ref 51, .ref 52, .int (md), .int (ov), .int (oh), .int (dn), .int (an)]))).set (22) (.inr (7, [.int (nI 2), .ref 23, .ref 24, .ref 25, .ref 26, .ref 27, .ref 28, .ref 29, .ref 30, .ref 31, .ref 32, .ref 33, .ref 34, .ref 35, .ref 36, .ref 37, .int (vf), .int (wh), .int (wy), .ref 38, .ref 39, .ref 40, .ref 41, .int (hg), .ref 42, .ref 43, .ref 44, .ref 45, .ref 46, .ref 47, .ref 48, .ref 49, .int (dp), .ref 50, .ref 51, .ref 52, .int (md), .int (ov), .int (oh), .int (dn), .int (an)]))) (if dfOk tb k (some q) = true then .inl (some (.int (nI (cnt (va_up tb k true) 6 0)))) else .inl (some (.int (nI 0)))) (if dfOk tb k (some q) = true then (((σ.set 22 (.inr (7, MoF (nI 0) vf wh wy hg dp md ov oh dn an))).set 23 (.inl (1, 6, .inl fun j => bi (va_up tb k true j)))).set 24 (.inl (0, 6, .inl fun j => en (va_up pr k (some q) j)))).set 22 (.inr (7, MoF (nI 0) (nI 0) wh wy hg dp md ov oh dn an)) else σ.set 22 (.inr (7, MoF (nI 2) vf wh wy hg dp md ov oh dn an)))
        exact jr_iretE d_Mo_define_63 rfl (by rw [if_neg (show ¬ dfOk tb k (some q) = true by simp [dfOk, bi_nf c3])]) (by rw [if_neg (show ¬ dfOk tb k (some q) = true by simp [dfOk, bi_nf c3])]; exact (List.set_set ..).symm) (by decide) (by decide)
      · refine jr_iload_n d_Mo_define_40 rfl ?_
        refine jr_iload_n d_Mo_define_41 rfl ?_
        refine jr_icmp_geN 58 d_Mo_define_42 (by decide) (by omega) (by omega) (fun c4 => ?_) (fun c4 => ?_)
        · refine jr_aload_n d_Mo_define_58 rfl ?_
          refine jr_iconst ((nI (2))) d_Mo_define_59 (by decide) ?_
          refine jr_callV (As := [.int (nI 2)]) d_Mo_define_60 k_Mo_define_118 (jl_ss hO) rfl rfl rfl (Nat.le_of_ble_eq_true rfl) (by decide) (by decide) (mo_fail hl (jl_ss hO) (MoW.sx hw (Or.inl (by decide)))) ?_
          show jl_W l G m_Mo_define (0, 0) 63 [some (.ref 22), some (.int (nI k)), some (.int (nI q)), none, none] [.int (nI 0)] ((σ.set (22) (.inr (7, [.int (nI 0), .ref 23, .ref 24, .ref 25, .ref 26, .ref 27, .ref 28, .ref 29, .ref 30, .ref 31, .ref 32, .ref 33, .ref 34, .ref 35, .ref 36, .ref 37, .int (vf), .int (wh), .int (wy), .ref 38, .ref 39, .ref 40, .ref 41, .int (hg), .ref 42, .ref 43, .ref 44, .ref 45, .ref 46, .ref 47, .ref 48, .ref 49, .int (dp), .ref 50, .ref 51, .ref 52, .int (md), .int (ov), .int (oh), .int (dn), .int (an)]))).set (22) (.inr (7, [.int (nI 2), .ref 23, .ref 24, .ref 25, .ref 26, .ref 27, .ref 28, .ref 29, .ref 30, .ref 31, .ref 32, .ref 33, .ref 34, .ref 35, .ref 36, .ref 37, .int (vf), .int (wh), .int (wy), .ref 38, .ref 39, .ref 40, .ref 41, .int (hg), .ref 42, .ref 43, .ref 44, .ref 45, .ref 46, .ref 47, .ref 48, .ref 49, .int (dp), .ref 50, .ref 51, .ref 52, .int (md), .int (ov), .int (oh), .int (dn), .int (an)]))) (if dfOk tb k (some q) = true then .inl (some (.int (nI (cnt (va_up tb k true) 6 0)))) else .inl (some (.int (nI 0)))) (if dfOk tb k (some q) = true then (((σ.set 22 (.inr (7, MoF (nI 0) vf wh wy hg dp md ov oh dn an))).set 23 (.inl (1, 6, .inl fun j => bi (va_up tb k true j)))).set 24 (.inl (0, 6, .inl fun j => en (va_up pr k (some q) j)))).set 22 (.inr (7, MoF (nI 0) (nI 0) wh wy hg dp md ov oh dn an)) else σ.set 22 (.inr (7, MoF (nI 2) vf wh wy hg dp md ov oh dn an)))
          exact jr_iretE d_Mo_define_63 rfl (by rw [if_neg (show ¬ dfOk tb k (some q) = true by simp [dfOk, bi_0.mp c3, show ¬ q < k by omega])]) (by rw [if_neg (show ¬ dfOk tb k (some q) = true by simp [dfOk, bi_0.mp c3, show ¬ q < k by omega])]; exact (List.set_set ..).symm) (by decide) (by decide)
        · refine jr_iload_n d_Mo_define_45 rfl ?_
          refine jr_if_lt 64 d_Mo_define_46 (by decide) (fun z => absurd z (nI_pos (by omega))) (fun _ => ?_)
          refine jr_aload_n d_Mo_define_49 rfl ?_
          refine jr_getf d_Mo_define_50 f_Mo_define_7 (jl_ss hO) rfl ?_
          refine jr_iload_n d_Mo_define_53 rfl ?_
          refine jr_baldN d_Mo_define_54 (jl_sn (by decide) h23) (by omega) (by omega) ?_
          refine jr_if_ne 64 d_Mo_define_55 (by decide) (fun c5 => ?_) (fun c5 => ?_)
          · refine jr_aload_n d_Mo_define_64 rfl ?_
            refine jr_getf d_Mo_define_65 f_Mo_define_7 (jl_ss hO) rfl ?_
            refine jr_iload_n d_Mo_define_68 rfl ?_
            refine jr_iconst ((nI (1))) d_Mo_define_69 (by decide) ?_
            refine jr_bastN d_Mo_define_70 (jl_sn (by decide) h23) (by omega) (by omega) (by decide) ?_
            rw [show upd (fun j => bi (tb j)) (k) ((nI (1))) = (fun j => bi ((va_up tb (k) (true)) j)) from bi_up tb (k) (true)]
            show jl_W l G m_Mo_define (0, 0) 71 [some (.ref 22), some (.int (nI k)), some (.int (nI q)), none, none] [] ((σ.set (22) (.inr (7, [.int (nI 0), .ref 23, .ref 24, .ref 25, .ref 26, .ref 27, .ref 28, .ref 29, .ref 30, .ref 31, .ref 32, .ref 33, .ref 34, .ref 35, .ref 36, .ref 37, .int (vf), .int (wh), .int (wy), .ref 38, .ref 39, .ref 40, .ref 41, .int (hg), .ref 42, .ref 43, .ref 44, .ref 45, .ref 46, .ref 47, .ref 48, .ref 49, .int (dp), .ref 50, .ref 51, .ref 52, .int (md), .int (ov), .int (oh), .int (dn), .int (an)]))).set (23) (.inl (1, 6, .inl (fun j => bi ((va_up tb (k) (true)) j))))) (if dfOk tb k (some q) = true then .inl (some (.int (nI (cnt (va_up tb k true) 6 0)))) else .inl (some (.int (nI 0)))) (if dfOk tb k (some q) = true then (((σ.set 22 (.inr (7, MoF (nI 0) vf wh wy hg dp md ov oh dn an))).set 23 (.inl (1, 6, .inl fun j => bi (va_up tb k true j)))).set 24 (.inl (0, 6, .inl fun j => en (va_up pr k (some q) j)))).set 22 (.inr (7, MoF (nI 0) (nI 0) wh wy hg dp md ov oh dn an)) else σ.set 22 (.inr (7, MoF (nI 2) vf wh wy hg dp md ov oh dn an)))
            refine jr_aload_n d_Mo_define_71 rfl ?_
            refine jr_getf d_Mo_define_72 f_Mo_define_13 (jl_sn (by decide) (jl_ss hO)) rfl ?_
            refine jr_iload_n d_Mo_define_75 rfl ?_
            refine jr_iload_n d_Mo_define_76 rfl ?_
            refine jr_iastN d_Mo_define_77 (jl_sn (by decide) (jl_sn (by decide) h24)) (by omega) (by omega) ?_
            rw [show upd (fun j => en (pr j)) (k) ((nI (q))) = (fun j => en ((va_up pr (k) ((some (q)))) j)) from en_up pr (k) ((some (q)))]
            show jl_W l G m_Mo_define (0, 0) 78 [some (.ref 22), some (.int (nI k)), some (.int (nI q)), none, none] [] (((σ.set (22) (.inr (7, [.int (nI 0), .ref 23, .ref 24, .ref 25, .ref 26, .ref 27, .ref 28, .ref 29, .ref 30, .ref 31, .ref 32, .ref 33, .ref 34, .ref 35, .ref 36, .ref 37, .int (vf), .int (wh), .int (wy), .ref 38, .ref 39, .ref 40, .ref 41, .int (hg), .ref 42, .ref 43, .ref 44, .ref 45, .ref 46, .ref 47, .ref 48, .ref 49, .int (dp), .ref 50, .ref 51, .ref 52, .int (md), .int (ov), .int (oh), .int (dn), .int (an)]))).set (23) (.inl (1, 6, .inl (fun j => bi ((va_up tb (k) (true)) j))))).set (24) (.inl (0, 6, .inl (fun j => en ((va_up pr (k) ((some (q)))) j))))) (if dfOk tb k (some q) = true then .inl (some (.int (nI (cnt (va_up tb k true) 6 0)))) else .inl (some (.int (nI 0)))) (if dfOk tb k (some q) = true then (((σ.set 22 (.inr (7, MoF (nI 0) vf wh wy hg dp md ov oh dn an))).set 23 (.inl (1, 6, .inl fun j => bi (va_up tb k true j)))).set 24 (.inl (0, 6, .inl fun j => en (va_up pr k (some q) j)))).set 22 (.inr (7, MoF (nI 0) (nI 0) wh wy hg dp md ov oh dn an)) else σ.set 22 (.inr (7, MoF (nI 2) vf wh wy hg dp md ov oh dn an)))
            refine jr_aload_n d_Mo_define_78 rfl ?_
            refine jr_iconst ((nI (0))) d_Mo_define_79 (by decide) ?_
            refine jr_putf d_Mo_define_80 p_Mo_define_122 (jl_sn (by decide) (jl_sn (by decide) (jl_ss hO))) (Nat.le_of_ble_eq_true rfl) jl_fit_b0 ?_
            show jl_W l G m_Mo_define (0, 0) 83 [some (.ref 22), some (.int (nI k)), some (.int (nI q)), none, none] [] ((((σ.set (22) (.inr (7, [.int (nI 0), .ref 23, .ref 24, .ref 25, .ref 26, .ref 27, .ref 28, .ref 29, .ref 30, .ref 31, .ref 32, .ref 33, .ref 34, .ref 35, .ref 36, .ref 37, .int (vf), .int (wh), .int (wy), .ref 38, .ref 39, .ref 40, .ref 41, .int (hg), .ref 42, .ref 43, .ref 44, .ref 45, .ref 46, .ref 47, .ref 48, .ref 49, .int (dp), .ref 50, .ref 51, .ref 52, .int (md), .int (ov), .int (oh), .int (dn), .int (an)]))).set (23) (.inl (1, 6, .inl (fun j => bi ((va_up tb (k) (true)) j))))).set (24) (.inl (0, 6, .inl (fun j => en ((va_up pr (k) ((some (q)))) j))))).set (22) (.inr (7, [.int (nI 0), .ref 23, .ref 24, .ref 25, .ref 26, .ref 27, .ref 28, .ref 29, .ref 30, .ref 31, .ref 32, .ref 33, .ref 34, .ref 35, .ref 36, .ref 37, .int (nI 0), .int (wh), .int (wy), .ref 38, .ref 39, .ref 40, .ref 41, .int (hg), .ref 42, .ref 43, .ref 44, .ref 45, .ref 46, .ref 47, .ref 48, .ref 49, .int (dp), .ref 50, .ref 51, .ref 52, .int (md), .int (ov), .int (oh), .int (dn), .int (an)]))) (if dfOk tb k (some q) = true then .inl (some (.int (nI (cnt (va_up tb k true) 6 0)))) else .inl (some (.int (nI 0)))) (if dfOk tb k (some q) = true then (((σ.set 22 (.inr (7, MoF (nI 0) vf wh wy hg dp md ov oh dn an))).set 23 (.inl (1, 6, .inl fun j => bi (va_up tb k true j)))).set 24 (.inl (0, 6, .inl fun j => en (va_up pr k (some q) j)))).set 22 (.inr (7, MoF (nI 0) (nI 0) wh wy hg dp md ov oh dn an)) else σ.set 22 (.inr (7, MoF (nI 2) vf wh wy hg dp md ov oh dn an)))
            refine jr_iconst ((nI (0))) d_Mo_define_83 (by decide) ?_
            refine jr_istore_n d_Mo_define_84 (by decide) ?_
            show jl_W l G m_Mo_define (0, 0) 85 [some (.ref 22), some (.int (nI k)), some (.int (nI q)), some (.int (nI 0)), none] [] ((((σ.set (22) (.inr (7, [.int (nI 0), .ref 23, .ref 24, .ref 25, .ref 26, .ref 27, .ref 28, .ref 29, .ref 30, .ref 31, .ref 32, .ref 33, .ref 34, .ref 35, .ref 36, .ref 37, .int (vf), .int (wh), .int (wy), .ref 38, .ref 39, .ref 40, .ref 41, .int (hg), .ref 42, .ref 43, .ref 44, .ref 45, .ref 46, .ref 47, .ref 48, .ref 49, .int (dp), .ref 50, .ref 51, .ref 52, .int (md), .int (ov), .int (oh), .int (dn), .int (an)]))).set (23) (.inl (1, 6, .inl (fun j => bi ((va_up tb (k) (true)) j))))).set (24) (.inl (0, 6, .inl (fun j => en ((va_up pr (k) ((some (q)))) j))))).set (22) (.inr (7, [.int (nI 0), .ref 23, .ref 24, .ref 25, .ref 26, .ref 27, .ref 28, .ref 29, .ref 30, .ref 31, .ref 32, .ref 33, .ref 34, .ref 35, .ref 36, .ref 37, .int (nI 0), .int (wh), .int (wy), .ref 38, .ref 39, .ref 40, .ref 41, .int (hg), .ref 42, .ref 43, .ref 44, .ref 45, .ref 46, .ref 47, .ref 48, .ref 49, .int (dp), .ref 50, .ref 51, .ref 52, .int (md), .int (ov), .int (oh), .int (dn), .int (an)]))) (if dfOk tb k (some q) = true then .inl (some (.int (nI (cnt (va_up tb k true) 6 0)))) else .inl (some (.int (nI 0)))) (if dfOk tb k (some q) = true then (((σ.set 22 (.inr (7, MoF (nI 0) vf wh wy hg dp md ov oh dn an))).set 23 (.inl (1, 6, .inl fun j => bi (va_up tb k true j)))).set 24 (.inl (0, 6, .inl fun j => en (va_up pr k (some q) j)))).set 22 (.inr (7, MoF (nI 0) (nI 0) wh wy hg dp md ov oh dn an)) else σ.set 22 (.inr (7, MoF (nI 2) vf wh wy hg dp md ov oh dn an)))
            refine jr_iconst ((nI (0))) d_Mo_define_85 (by decide) ?_
            refine jr_istore d_Mo_define_86 (by decide) ?_
            show jl_W l G m_Mo_define (0, 0) 88 [some (.ref 22), some (.int (nI k)), some (.int (nI q)), some (.int (nI 0)), some (.int (nI 0))] [] ((((σ.set (22) (.inr (7, [.int (nI 0), .ref 23, .ref 24, .ref 25, .ref 26, .ref 27, .ref 28, .ref 29, .ref 30, .ref 31, .ref 32, .ref 33, .ref 34, .ref 35, .ref 36, .ref 37, .int (vf), .int (wh), .int (wy), .ref 38, .ref 39, .ref 40, .ref 41, .int (hg), .ref 42, .ref 43, .ref 44, .ref 45, .ref 46, .ref 47, .ref 48, .ref 49, .int (dp), .ref 50, .ref 51, .ref 52, .int (md), .int (ov), .int (oh), .int (dn), .int (an)]))).set (23) (.inl (1, 6, .inl (fun j => bi ((va_up tb (k) (true)) j))))).set (24) (.inl (0, 6, .inl (fun j => en ((va_up pr (k) ((some (q)))) j))))).set (22) (.inr (7, [.int (nI 0), .ref 23, .ref 24, .ref 25, .ref 26, .ref 27, .ref 28, .ref 29, .ref 30, .ref 31, .ref 32, .ref 33, .ref 34, .ref 35, .ref 36, .ref 37, .int (nI 0), .int (wh), .int (wy), .ref 38, .ref 39, .ref 40, .ref 41, .int (hg), .ref 42, .ref 43, .ref 44, .ref 45, .ref 46, .ref 47, .ref 48, .ref 49, .int (dp), .ref 50, .ref 51, .ref 52, .int (md), .int (ov), .int (oh), .int (dn), .int (an)]))) (if dfOk tb k (some q) = true then .inl (some (.int (nI (cnt (va_up tb k true) 6 0)))) else .inl (some (.int (nI 0)))) (if dfOk tb k (some q) = true then (((σ.set 22 (.inr (7, MoF (nI 0) vf wh wy hg dp md ov oh dn an))).set 23 (.inl (1, 6, .inl fun j => bi (va_up tb k true j)))).set 24 (.inl (0, 6, .inl fun j => en (va_up pr k (some q) j)))).set 22 (.inr (7, MoF (nI 0) (nI 0) wh wy hg dp md ov oh dn an)) else σ.set 22 (.inr (7, MoF (nI 2) vf wh wy hg dp md ov oh dn an)))
            exact jl_oeq (by rw [if_pos (show dfOk tb k (some q) = true by simp [dfOk, bi_0.mp c3, show q < k by omega, bi_nf c5]), Nat.zero_add]) (jl_seq (by rw [if_pos (show dfOk tb k (some q) = true by simp [dfOk, bi_0.mp c3, show q < k by omega, bi_nf c5])]) (mo_def_loop hl (jl_ss (jl_sn (by decide) (jl_sn (by decide) (jl_ss hO)))) (MoW.sx (MoW.s24 (MoW.s23 (MoW.sx hw (Or.inl (by decide))))) (Or.inl (by decide))) 7 0 0 (by omega) (by omega) (by omega)))
          · refine jr_aload_n d_Mo_define_58 rfl ?_
            refine jr_iconst ((nI (2))) d_Mo_define_59 (by decide) ?_
            refine jr_callV (As := [.int (nI 2)]) d_Mo_define_60 k_Mo_define_118 (jl_ss hO) rfl rfl rfl (Nat.le_of_ble_eq_true rfl) (by decide) (by decide) (mo_fail hl (jl_ss hO) (MoW.sx hw (Or.inl (by decide)))) ?_
            show jl_W l G m_Mo_define (0, 0) 63 [some (.ref 22), some (.int (nI k)), some (.int (nI q)), none, none] [.int (nI 0)] ((σ.set (22) (.inr (7, [.int (nI 0), .ref 23, .ref 24, .ref 25, .ref 26, .ref 27, .ref 28, .ref 29, .ref 30, .ref 31, .ref 32, .ref 33, .ref 34, .ref 35, .ref 36, .ref 37, .int (vf), .int (wh), .int (wy), .ref 38, .ref 39, .ref 40, .ref 41, .int (hg), .ref 42, .ref 43, .ref 44, .ref 45, .ref 46, .ref 47, .ref 48, .ref 49, .int (dp), .ref 50, .ref 51, .ref 52, .int (md), .int (ov), .int (oh), .int (dn), .int (an)]))).set (22) (.inr (7, [.int (nI 2), .ref 23, .ref 24, .ref 25, .ref 26, .ref 27, .ref 28, .ref 29, .ref 30, .ref 31, .ref 32, .ref 33, .ref 34, .ref 35, .ref 36, .ref 37, .int (vf), .int (wh), .int (wy), .ref 38, .ref 39, .ref 40, .ref 41, .int (hg), .ref 42, .ref 43, .ref 44, .ref 45, .ref 46, .ref 47, .ref 48, .ref 49, .int (dp), .ref 50, .ref 51, .ref 52, .int (md), .int (ov), .int (oh), .int (dn), .int (an)]))) (if dfOk tb k (some q) = true then .inl (some (.int (nI (cnt (va_up tb k true) 6 0)))) else .inl (some (.int (nI 0)))) (if dfOk tb k (some q) = true then (((σ.set 22 (.inr (7, MoF (nI 0) vf wh wy hg dp md ov oh dn an))).set 23 (.inl (1, 6, .inl fun j => bi (va_up tb k true j)))).set 24 (.inl (0, 6, .inl fun j => en (va_up pr k (some q) j)))).set 22 (.inr (7, MoF (nI 0) (nI 0) wh wy hg dp md ov oh dn an)) else σ.set 22 (.inr (7, MoF (nI 2) vf wh wy hg dp md ov oh dn an)))
            exact jr_iretE d_Mo_define_63 rfl (by rw [if_neg (show ¬ dfOk tb k (some q) = true by simp [dfOk, bi_0.mp c3, show q < k by omega, bi_0.mp c5])]) (by rw [if_neg (show ¬ dfOk tb k (some q) = true by simp [dfOk, bi_0.mp c3, show q < k by omega, bi_0.mp c5])]; exact (List.set_set ..).symm) (by decide) (by decide)
    · exfalso; omega
end JMr
