/-! the model's run: what is refused (wip/gen/p97zi.py) -/
section JNzi
variable {l : Launch} {G : jl_G} {σ : jl_S}
variable {tb : Nat → Bool} {pr : Nat → Option Nat} {ow fi ft : Nat → Nat} {hs : Nat → Bool} {fa vf wh wy hg dp md ov oh dn an : Int32}
variable {u1 u2 : Nat → Option Nat} {ur ul uo : Nat → Nat} {ua : Nat → Int32} {uc us ut uk : Nat → Nat}
variable {σ0 : jl_S} {N t m p h b n : Nat} {R : Rw} {V : Nat → Int32} {fs : List Fm} {H : Hp} {fa vf wh wy hg ov oh dn an x a v : Int32} {y : Option Nat}
variable {k : Nat} {xa xb ki fu g : Int32} {dp md : Int32}
theorem mo_methodOfN {sl : Nat} (hl : l.stackTraces = false) (hO : MoO σ fa vf wh wy hg dp md ov oh dn an) (hw : MoW σ tb pr ow ft hs) (hsl : sl < 4) (hd : dsc pr) (hk : k < 6) (e : mmo pr hs sl 6 (some k) = none) : jl_m l G m_Mo_methodOf [.ref 22, .int (nI k), .int (nI sl)] σ (.inl (some (.int (-1)))) σ := by
  have z := mo_methodOf (G := G) (x := some k) hl hO hw hsl hd (ob_s hk)
  rw [e] at z
  exact z
theorem d_Mo_run_0 : decode m_Mo_run.2.1 0 = .ok (.aload_n 0, 1) := by decide +kernel
theorem d_Mo_run_1 : decode m_Mo_run.2.1 1 = .ok (.iconst 0, 1) := by decide +kernel
theorem p_Mo_run_111 : jl_fp m_Mo_run 111 7 0 = true := by decide +kernel
theorem d_Mo_run_2 : decode m_Mo_run.2.1 2 = .ok (.putfield 111, 3) := by decide +kernel
theorem d_Mo_run_5 : decode m_Mo_run.2.1 5 = .ok (.aload_n 0, 1) := by decide +kernel
theorem d_Mo_run_6 : decode m_Mo_run.2.1 6 = .ok (.iload_n 1, 1) := by decide +kernel
theorem d_Mo_run_7 : decode m_Mo_run.2.1 7 = .ok (.bipush 6, 2) := by decide +kernel
theorem k_Mo_run_114 : jl_cv m_Mo_run m_Mo_out 114 2 = true := by decide +kernel
theorem d_Mo_run_9 : decode m_Mo_run.2.1 9 = .ok (.invokevirtual 114, 3) := by decide +kernel
theorem d_Mo_run_12 : decode m_Mo_run.2.1 12 = .ok (.ifCond .ne 17, 3) := by decide +kernel
theorem d_Mo_run_29 : decode m_Mo_run.2.1 29 = .ok (.aload_n 0, 1) := by decide +kernel
theorem d_Mo_run_30 : decode m_Mo_run.2.1 30 = .ok (.iconst 1, 1) := by decide +kernel
theorem k_Mo_run_118 : jl_cv m_Mo_run m_Mo_fail 118 1 = true := by decide +kernel
theorem d_Mo_run_31 : decode m_Mo_run.2.1 31 = .ok (.invokevirtual 118, 3) := by decide +kernel
theorem d_Mo_run_34 : decode m_Mo_run.2.1 34 = .ok (.ireturn, 1) := by decide +kernel
theorem mo_run_A1 (hl : l.stackTraces = false)  (hO : MoO σ fa vf wh wy hg dp md ov oh dn an) (hw : MoW σ tb pr ow ft hs) (h : outB ki (nI 6) = true) : jl_m l G m_Mo_run [.ref 22, .int (ki), .int (xa), .int (xb), .int (fu), .int (g)] σ (.inl (some (.int (nI 0)))) (σ.set 22 (.inr (7, MoF (nI 1) vf wh wy hg dp md ov oh dn an))) := by
  obtain ⟨h23, h24, h25, h26, h27⟩ := id hw
  refine jl_of (as := [.ref 22, .int (ki), .int (xa), .int (xb), .int (fu), .int (g)]) rfl (by decide) hl (jl_cc rfl (jl_cc rfl (jl_cc rfl (jl_cc rfl (jl_cc rfl (jl_cc rfl jl_ca)))))) (Nat.le_of_ble_eq_true rfl) ?_
  show jl_W l G m_Mo_run (0, 0) 0 [some (.ref 22), some (.int (ki)), some (.int (xa)), some (.int (xb)), some (.int (fu)), some (.int (g)), none, none, none, none] [] (σ) (.inl (some (.int (nI 0)))) (σ.set 22 (.inr (7, MoF (nI 1) vf wh wy hg dp md ov oh dn an)))
  refine jr_aload_n d_Mo_run_0 rfl ?_
  refine jr_iconst ((nI (0))) d_Mo_run_1 (by decide) ?_
  refine jr_putf d_Mo_run_2 p_Mo_run_111 hO (Nat.le_of_ble_eq_true rfl) jl_fit_int ?_
  show jl_W l G m_Mo_run (0, 0) 5 [some (.ref 22), some (.int (ki)), some (.int (xa)), some (.int (xb)), some (.int (fu)), some (.int (g)), none, none, none, none] [] (σ.set (22) (.inr (7, [.int (nI 0), .ref 23, .ref 24, .ref 25, .ref 26, .ref 27, .ref 28, .ref 29, .ref 30, .ref 31, .ref 32, .ref 33, .ref 34, .ref 35, .ref 36, .ref 37, .int (vf), .int (wh), .int (wy), .ref 38, .ref 39, .ref 40, .ref 41, .int (hg), .ref 42, .ref 43, .ref 44, .ref 45, .ref 46, .ref 47, .ref 48, .ref 49, .int (dp), .ref 50, .ref 51, .ref 52, .int (md), .int (ov), .int (oh), .int (dn), .int (an)]))) (.inl (some (.int (nI 0)))) (σ.set 22 (.inr (7, MoF (nI 1) vf wh wy hg dp md ov oh dn an)))
  refine jr_aload_n d_Mo_run_5 rfl ?_
  refine jr_iload_n d_Mo_run_6 rfl ?_
  refine jr_bipush ((nI (6))) d_Mo_run_7 (by decide) ?_
  refine jr_callV (As := [.int (ki), .int (nI 6)]) d_Mo_run_9 k_Mo_run_114 (jl_ss hO) rfl rfl rfl (Nat.le_of_ble_eq_true rfl) (by decide) (by decide) (mo_out1 hl (jl_ss hO) (MoW.sx hw (Or.inl (by decide))) h) ?_
  show jl_W l G m_Mo_run (0, 0) 12 [some (.ref 22), some (.int (ki)), some (.int (xa)), some (.int (xb)), some (.int (fu)), some (.int (g)), none, none, none, none] [.int (nI 1)] (σ.set (22) (.inr (7, [.int (nI 0), .ref 23, .ref 24, .ref 25, .ref 26, .ref 27, .ref 28, .ref 29, .ref 30, .ref 31, .ref 32, .ref 33, .ref 34, .ref 35, .ref 36, .ref 37, .int (vf), .int (wh), .int (wy), .ref 38, .ref 39, .ref 40, .ref 41, .int (hg), .ref 42, .ref 43, .ref 44, .ref 45, .ref 46, .ref 47, .ref 48, .ref 49, .int (dp), .ref 50, .ref 51, .ref 52, .int (md), .int (ov), .int (oh), .int (dn), .int (an)]))) (.inl (some (.int (nI 0)))) (σ.set 22 (.inr (7, MoF (nI 1) vf wh wy hg dp md ov oh dn an)))
  refine jr_if_ne 29 d_Mo_run_12 (by decide) (fun _ => ?_) (fun z => absurd z (by decide))
  refine jr_aload_n d_Mo_run_29 rfl ?_
  refine jr_iconst ((nI (1))) d_Mo_run_30 (by decide) ?_
  refine jr_callV (As := [.int (nI 1)]) d_Mo_run_31 k_Mo_run_118 (jl_ss hO) rfl rfl rfl (Nat.le_of_ble_eq_true rfl) (by decide) (by decide) (mo_fail hl (jl_ss hO) (MoW.sx hw (Or.inl (by decide)))) ?_
  show jl_W l G m_Mo_run (0, 0) 34 [some (.ref 22), some (.int (ki)), some (.int (xa)), some (.int (xb)), some (.int (fu)), some (.int (g)), none, none, none, none] [.int (nI 0)] ((σ.set (22) (.inr (7, [.int (nI 0), .ref 23, .ref 24, .ref 25, .ref 26, .ref 27, .ref 28, .ref 29, .ref 30, .ref 31, .ref 32, .ref 33, .ref 34, .ref 35, .ref 36, .ref 37, .int (vf), .int (wh), .int (wy), .ref 38, .ref 39, .ref 40, .ref 41, .int (hg), .ref 42, .ref 43, .ref 44, .ref 45, .ref 46, .ref 47, .ref 48, .ref 49, .int (dp), .ref 50, .ref 51, .ref 52, .int (md), .int (ov), .int (oh), .int (dn), .int (an)]))).set (22) (.inr (7, [.int (nI 1), .ref 23, .ref 24, .ref 25, .ref 26, .ref 27, .ref 28, .ref 29, .ref 30, .ref 31, .ref 32, .ref 33, .ref 34, .ref 35, .ref 36, .ref 37, .int (vf), .int (wh), .int (wy), .ref 38, .ref 39, .ref 40, .ref 41, .int (hg), .ref 42, .ref 43, .ref 44, .ref 45, .ref 46, .ref 47, .ref 48, .ref 49, .int (dp), .ref 50, .ref 51, .ref 52, .int (md), .int (ov), .int (oh), .int (dn), .int (an)]))) (.inl (some (.int (nI 0)))) (σ.set 22 (.inr (7, MoF (nI 1) vf wh wy hg dp md ov oh dn an)))
  exact jr_iretE d_Mo_run_34 rfl (rfl) ((List.set_set ..).symm) (by decide) (by decide)
theorem d_Mo_run_15 : decode m_Mo_run.2.1 15 = .ok (.iload 4, 2) := by decide +kernel
theorem d_Mo_run_17 : decode m_Mo_run.2.1 17 = .ok (.iconst 1, 1) := by decide +kernel
theorem d_Mo_run_18 : decode m_Mo_run.2.1 18 = .ok (.if_icmp .lt 11, 3) := by decide +kernel
theorem d_Mo_run_21 : decode m_Mo_run.2.1 21 = .ok (.iload 4, 2) := by decide +kernel
theorem d_Mo_run_23 : decode m_Mo_run.2.1 23 = .ok (.sipush 400, 3) := by decide +kernel
theorem d_Mo_run_26 : decode m_Mo_run.2.1 26 = .ok (.if_icmp .le 9, 3) := by decide +kernel
theorem mo_run_A2 (hl : l.stackTraces = false)  (hO : MoO σ fa vf wh wy hg dp md ov oh dn an) (hw : MoW σ tb pr ow ft hs) (hk : k < 6) (h : fu < nI 1 ∨ nI 400 < fu) : jl_m l G m_Mo_run [.ref 22, .int (nI k), .int (xa), .int (xb), .int (fu), .int (g)] σ (.inl (some (.int (nI 0)))) (σ.set 22 (.inr (7, MoF (nI 1) vf wh wy hg dp md ov oh dn an))) := by
  obtain ⟨h23, h24, h25, h26, h27⟩ := id hw
  refine jl_of (as := [.ref 22, .int (nI k), .int (xa), .int (xb), .int (fu), .int (g)]) rfl (by decide) hl (jl_cc rfl (jl_cc rfl (jl_cc rfl (jl_cc rfl (jl_cc rfl (jl_cc rfl jl_ca)))))) (Nat.le_of_ble_eq_true rfl) ?_
  show jl_W l G m_Mo_run (0, 0) 0 [some (.ref 22), some (.int (nI k)), some (.int (xa)), some (.int (xb)), some (.int (fu)), some (.int (g)), none, none, none, none] [] (σ) (.inl (some (.int (nI 0)))) (σ.set 22 (.inr (7, MoF (nI 1) vf wh wy hg dp md ov oh dn an)))
  refine jr_aload_n d_Mo_run_0 rfl ?_
  refine jr_iconst ((nI (0))) d_Mo_run_1 (by decide) ?_
  refine jr_putf d_Mo_run_2 p_Mo_run_111 hO (Nat.le_of_ble_eq_true rfl) jl_fit_int ?_
  show jl_W l G m_Mo_run (0, 0) 5 [some (.ref 22), some (.int (nI k)), some (.int (xa)), some (.int (xb)), some (.int (fu)), some (.int (g)), none, none, none, none] [] (σ.set (22) (.inr (7, [.int (nI 0), .ref 23, .ref 24, .ref 25, .ref 26, .ref 27, .ref 28, .ref 29, .ref 30, .ref 31, .ref 32, .ref 33, .ref 34, .ref 35, .ref 36, .ref 37, .int (vf), .int (wh), .int (wy), .ref 38, .ref 39, .ref 40, .ref 41, .int (hg), .ref 42, .ref 43, .ref 44, .ref 45, .ref 46, .ref 47, .ref 48, .ref 49, .int (dp), .ref 50, .ref 51, .ref 52, .int (md), .int (ov), .int (oh), .int (dn), .int (an)]))) (.inl (some (.int (nI 0)))) (σ.set 22 (.inr (7, MoF (nI 1) vf wh wy hg dp md ov oh dn an)))
  refine jr_aload_n d_Mo_run_5 rfl ?_
  refine jr_iload_n d_Mo_run_6 rfl ?_
  refine jr_bipush ((nI (6))) d_Mo_run_7 (by decide) ?_
  refine jr_callV (As := [.int (nI k), .int (nI 6)]) d_Mo_run_9 k_Mo_run_114 (jl_ss hO) rfl rfl rfl (Nat.le_of_ble_eq_true rfl) (by decide) (by decide) (mo_outN (j := k) (n := 6) hl (jl_ss hO) (MoW.sx hw (Or.inl (by decide))) (by decide) hk) ?_
  show jl_W l G m_Mo_run (0, 0) 12 [some (.ref 22), some (.int (nI k)), some (.int (xa)), some (.int (xb)), some (.int (fu)), some (.int (g)), none, none, none, none] [.int (nI 0)] (σ.set (22) (.inr (7, [.int (nI 0), .ref 23, .ref 24, .ref 25, .ref 26, .ref 27, .ref 28, .ref 29, .ref 30, .ref 31, .ref 32, .ref 33, .ref 34, .ref 35, .ref 36, .ref 37, .int (vf), .int (wh), .int (wy), .ref 38, .ref 39, .ref 40, .ref 41, .int (hg), .ref 42, .ref 43, .ref 44, .ref 45, .ref 46, .ref 47, .ref 48, .ref 49, .int (dp), .ref 50, .ref 51, .ref 52, .int (md), .int (ov), .int (oh), .int (dn), .int (an)]))) (.inl (some (.int (nI 0)))) (σ.set 22 (.inr (7, MoF (nI 1) vf wh wy hg dp md ov oh dn an)))
  refine jr_if_ne 29 d_Mo_run_12 (by decide) (fun z => absurd rfl z) (fun _ => ?_)
  refine jr_iload d_Mo_run_15 rfl ?_
  refine jr_iconst ((nI (1))) d_Mo_run_17 (by decide) ?_
  refine jr_icmp_lt 29 d_Mo_run_18 (by decide) (fun c1 => ?_) (fun c1 => ?_)
  · refine jr_aload_n d_Mo_run_29 rfl ?_
    refine jr_iconst ((nI (1))) d_Mo_run_30 (by decide) ?_
    refine jr_callV (As := [.int (nI 1)]) d_Mo_run_31 k_Mo_run_118 (jl_ss hO) rfl rfl rfl (Nat.le_of_ble_eq_true rfl) (by decide) (by decide) (mo_fail hl (jl_ss hO) (MoW.sx hw (Or.inl (by decide)))) ?_
    show jl_W l G m_Mo_run (0, 0) 34 [some (.ref 22), some (.int (nI k)), some (.int (xa)), some (.int (xb)), some (.int (fu)), some (.int (g)), none, none, none, none] [.int (nI 0)] ((σ.set (22) (.inr (7, [.int (nI 0), .ref 23, .ref 24, .ref 25, .ref 26, .ref 27, .ref 28, .ref 29, .ref 30, .ref 31, .ref 32, .ref 33, .ref 34, .ref 35, .ref 36, .ref 37, .int (vf), .int (wh), .int (wy), .ref 38, .ref 39, .ref 40, .ref 41, .int (hg), .ref 42, .ref 43, .ref 44, .ref 45, .ref 46, .ref 47, .ref 48, .ref 49, .int (dp), .ref 50, .ref 51, .ref 52, .int (md), .int (ov), .int (oh), .int (dn), .int (an)]))).set (22) (.inr (7, [.int (nI 1), .ref 23, .ref 24, .ref 25, .ref 26, .ref 27, .ref 28, .ref 29, .ref 30, .ref 31, .ref 32, .ref 33, .ref 34, .ref 35, .ref 36, .ref 37, .int (vf), .int (wh), .int (wy), .ref 38, .ref 39, .ref 40, .ref 41, .int (hg), .ref 42, .ref 43, .ref 44, .ref 45, .ref 46, .ref 47, .ref 48, .ref 49, .int (dp), .ref 50, .ref 51, .ref 52, .int (md), .int (ov), .int (oh), .int (dn), .int (an)]))) (.inl (some (.int (nI 0)))) (σ.set 22 (.inr (7, MoF (nI 1) vf wh wy hg dp md ov oh dn an)))
    exact jr_iretE d_Mo_run_34 rfl (rfl) ((List.set_set ..).symm) (by decide) (by decide)
  · refine jr_iload d_Mo_run_21 rfl ?_
    refine jr_sipush ((nI (400))) d_Mo_run_23 (by decide) ?_
    refine jr_icmp_le 35 d_Mo_run_26 (by decide) (fun c2 => ?_) (fun c2 => ?_)
    · exact False.elim (h.elim (fun q => c1 q) (fun q => Int32.not_lt.mpr c2 q))
    · refine jr_aload_n d_Mo_run_29 rfl ?_
      refine jr_iconst ((nI (1))) d_Mo_run_30 (by decide) ?_
      refine jr_callV (As := [.int (nI 1)]) d_Mo_run_31 k_Mo_run_118 (jl_ss hO) rfl rfl rfl (Nat.le_of_ble_eq_true rfl) (by decide) (by decide) (mo_fail hl (jl_ss hO) (MoW.sx hw (Or.inl (by decide)))) ?_
      show jl_W l G m_Mo_run (0, 0) 34 [some (.ref 22), some (.int (nI k)), some (.int (xa)), some (.int (xb)), some (.int (fu)), some (.int (g)), none, none, none, none] [.int (nI 0)] ((σ.set (22) (.inr (7, [.int (nI 0), .ref 23, .ref 24, .ref 25, .ref 26, .ref 27, .ref 28, .ref 29, .ref 30, .ref 31, .ref 32, .ref 33, .ref 34, .ref 35, .ref 36, .ref 37, .int (vf), .int (wh), .int (wy), .ref 38, .ref 39, .ref 40, .ref 41, .int (hg), .ref 42, .ref 43, .ref 44, .ref 45, .ref 46, .ref 47, .ref 48, .ref 49, .int (dp), .ref 50, .ref 51, .ref 52, .int (md), .int (ov), .int (oh), .int (dn), .int (an)]))).set (22) (.inr (7, [.int (nI 1), .ref 23, .ref 24, .ref 25, .ref 26, .ref 27, .ref 28, .ref 29, .ref 30, .ref 31, .ref 32, .ref 33, .ref 34, .ref 35, .ref 36, .ref 37, .int (vf), .int (wh), .int (wy), .ref 38, .ref 39, .ref 40, .ref 41, .int (hg), .ref 42, .ref 43, .ref 44, .ref 45, .ref 46, .ref 47, .ref 48, .ref 49, .int (dp), .ref 50, .ref 51, .ref 52, .int (md), .int (ov), .int (oh), .int (dn), .int (an)]))) (.inl (some (.int (nI 0)))) (σ.set 22 (.inr (7, MoF (nI 1) vf wh wy hg dp md ov oh dn an)))
      exact jr_iretE d_Mo_run_34 rfl (rfl) ((List.set_set ..).symm) (by decide) (by decide)
theorem d_Mo_run_35 : decode m_Mo_run.2.1 35 = .ok (.aload_n 0, 1) := by decide +kernel
theorem f_Mo_run_7 : jl_fd m_Mo_run 7 7 1 = true := by decide +kernel
theorem d_Mo_run_36 : decode m_Mo_run.2.1 36 = .ok (.getfield 7, 3) := by decide +kernel
theorem d_Mo_run_39 : decode m_Mo_run.2.1 39 = .ok (.iload_n 1, 1) := by decide +kernel
theorem d_Mo_run_40 : decode m_Mo_run.2.1 40 = .ok (.baload, 1) := by decide +kernel
theorem d_Mo_run_41 : decode m_Mo_run.2.1 41 = .ok (.ifCond .ne 9, 3) := by decide +kernel
theorem d_Mo_run_44 : decode m_Mo_run.2.1 44 = .ok (.aload_n 0, 1) := by decide +kernel
theorem d_Mo_run_45 : decode m_Mo_run.2.1 45 = .ok (.iconst 2, 1) := by decide +kernel
theorem d_Mo_run_46 : decode m_Mo_run.2.1 46 = .ok (.invokevirtual 118, 3) := by decide +kernel
theorem d_Mo_run_49 : decode m_Mo_run.2.1 49 = .ok (.ireturn, 1) := by decide +kernel
theorem mo_run_N (hl : l.stackTraces = false)  (hO : MoO σ fa vf wh wy hg dp md ov oh dn an) (hw : MoW σ tb pr ow ft hs) (hk : k < 6) (hn1 : 1 ≤ n) (hn4 : n ≤ 400) (htb : tb k = false) : jl_m l G m_Mo_run [.ref 22, .int (nI k), .int (xa), .int (xb), .int (nI n), .int (g)] σ (.inl (some (.int (nI 0)))) (σ.set 22 (.inr (7, MoF (nI 2) vf wh wy hg dp md ov oh dn an))) := by
  obtain ⟨h23, h24, h25, h26, h27⟩ := id hw
  refine jl_of (as := [.ref 22, .int (nI k), .int (xa), .int (xb), .int (nI n), .int (g)]) rfl (by decide) hl (jl_cc rfl (jl_cc rfl (jl_cc rfl (jl_cc rfl (jl_cc rfl (jl_cc rfl jl_ca)))))) (Nat.le_of_ble_eq_true rfl) ?_
  show jl_W l G m_Mo_run (0, 0) 0 [some (.ref 22), some (.int (nI k)), some (.int (xa)), some (.int (xb)), some (.int (nI n)), some (.int (g)), none, none, none, none] [] (σ) (.inl (some (.int (nI 0)))) (σ.set 22 (.inr (7, MoF (nI 2) vf wh wy hg dp md ov oh dn an)))
  refine jr_aload_n d_Mo_run_0 rfl ?_
  refine jr_iconst ((nI (0))) d_Mo_run_1 (by decide) ?_
  refine jr_putf d_Mo_run_2 p_Mo_run_111 hO (Nat.le_of_ble_eq_true rfl) jl_fit_int ?_
  show jl_W l G m_Mo_run (0, 0) 5 [some (.ref 22), some (.int (nI k)), some (.int (xa)), some (.int (xb)), some (.int (nI n)), some (.int (g)), none, none, none, none] [] (σ.set (22) (.inr (7, [.int (nI 0), .ref 23, .ref 24, .ref 25, .ref 26, .ref 27, .ref 28, .ref 29, .ref 30, .ref 31, .ref 32, .ref 33, .ref 34, .ref 35, .ref 36, .ref 37, .int (vf), .int (wh), .int (wy), .ref 38, .ref 39, .ref 40, .ref 41, .int (hg), .ref 42, .ref 43, .ref 44, .ref 45, .ref 46, .ref 47, .ref 48, .ref 49, .int (dp), .ref 50, .ref 51, .ref 52, .int (md), .int (ov), .int (oh), .int (dn), .int (an)]))) (.inl (some (.int (nI 0)))) (σ.set 22 (.inr (7, MoF (nI 2) vf wh wy hg dp md ov oh dn an)))
  refine jr_aload_n d_Mo_run_5 rfl ?_
  refine jr_iload_n d_Mo_run_6 rfl ?_
  refine jr_bipush ((nI (6))) d_Mo_run_7 (by decide) ?_
  refine jr_callV (As := [.int (nI k), .int (nI 6)]) d_Mo_run_9 k_Mo_run_114 (jl_ss hO) rfl rfl rfl (Nat.le_of_ble_eq_true rfl) (by decide) (by decide) (mo_outN (j := k) (n := 6) hl (jl_ss hO) (MoW.sx hw (Or.inl (by decide))) (by decide) hk) ?_
  show jl_W l G m_Mo_run (0, 0) 12 [some (.ref 22), some (.int (nI k)), some (.int (xa)), some (.int (xb)), some (.int (nI n)), some (.int (g)), none, none, none, none] [.int (nI 0)] (σ.set (22) (.inr (7, [.int (nI 0), .ref 23, .ref 24, .ref 25, .ref 26, .ref 27, .ref 28, .ref 29, .ref 30, .ref 31, .ref 32, .ref 33, .ref 34, .ref 35, .ref 36, .ref 37, .int (vf), .int (wh), .int (wy), .ref 38, .ref 39, .ref 40, .ref 41, .int (hg), .ref 42, .ref 43, .ref 44, .ref 45, .ref 46, .ref 47, .ref 48, .ref 49, .int (dp), .ref 50, .ref 51, .ref 52, .int (md), .int (ov), .int (oh), .int (dn), .int (an)]))) (.inl (some (.int (nI 0)))) (σ.set 22 (.inr (7, MoF (nI 2) vf wh wy hg dp md ov oh dn an)))
  refine jr_if_ne 29 d_Mo_run_12 (by decide) (fun z => absurd rfl z) (fun _ => ?_)
  refine jr_iload d_Mo_run_15 rfl ?_
  refine jr_iconst ((nI (1))) d_Mo_run_17 (by decide) ?_
  refine jr_icmp_lt 29 d_Mo_run_18 (by decide) (fun z => absurd z (fun z => by rw [nI_ltI (by omega) (by omega)] at z; omega)) (fun _ => ?_)
  refine jr_iload d_Mo_run_21 rfl ?_
  refine jr_sipush ((nI (400))) d_Mo_run_23 (by decide) ?_
  refine jr_icmp_le 35 d_Mo_run_26 (by decide) (fun _ => ?_) (fun z => absurd ((nI_leI (by omega) (by omega)).mpr hn4) z)
  refine jr_aload_n d_Mo_run_35 rfl ?_
  refine jr_getf d_Mo_run_36 f_Mo_run_7 (jl_ss hO) rfl ?_
  refine jr_iload_n d_Mo_run_39 rfl ?_
  refine jr_baldQ (v := (nI (0))) d_Mo_run_40 (jl_sn (by decide) h23) (by omega) (by omega) ((congrArg bi htb).trans bi_f0) ?_
  refine jr_if_ne 50 d_Mo_run_41 (by decide) (fun z => absurd rfl z) (fun _ => ?_)
  refine jr_aload_n d_Mo_run_44 rfl ?_
  refine jr_iconst ((nI (2))) d_Mo_run_45 (by decide) ?_
  refine jr_callV (As := [.int (nI 2)]) d_Mo_run_46 k_Mo_run_118 (jl_ss hO) rfl rfl rfl (Nat.le_of_ble_eq_true rfl) (by decide) (by decide) (mo_fail hl (jl_ss hO) (MoW.sx hw (Or.inl (by decide)))) ?_
  show jl_W l G m_Mo_run (0, 0) 49 [some (.ref 22), some (.int (nI k)), some (.int (xa)), some (.int (xb)), some (.int (nI n)), some (.int (g)), none, none, none, none] [.int (nI 0)] ((σ.set (22) (.inr (7, [.int (nI 0), .ref 23, .ref 24, .ref 25, .ref 26, .ref 27, .ref 28, .ref 29, .ref 30, .ref 31, .ref 32, .ref 33, .ref 34, .ref 35, .ref 36, .ref 37, .int (vf), .int (wh), .int (wy), .ref 38, .ref 39, .ref 40, .ref 41, .int (hg), .ref 42, .ref 43, .ref 44, .ref 45, .ref 46, .ref 47, .ref 48, .ref 49, .int (dp), .ref 50, .ref 51, .ref 52, .int (md), .int (ov), .int (oh), .int (dn), .int (an)]))).set (22) (.inr (7, [.int (nI 2), .ref 23, .ref 24, .ref 25, .ref 26, .ref 27, .ref 28, .ref 29, .ref 30, .ref 31, .ref 32, .ref 33, .ref 34, .ref 35, .ref 36, .ref 37, .int (vf), .int (wh), .int (wy), .ref 38, .ref 39, .ref 40, .ref 41, .int (hg), .ref 42, .ref 43, .ref 44, .ref 45, .ref 46, .ref 47, .ref 48, .ref 49, .int (dp), .ref 50, .ref 51, .ref 52, .int (md), .int (ov), .int (oh), .int (dn), .int (an)]))) (.inl (some (.int (nI 0)))) (σ.set 22 (.inr (7, MoF (nI 2) vf wh wy hg dp md ov oh dn an)))
  exact jr_iretE d_Mo_run_49 rfl (rfl) ((List.set_set ..).symm) (by decide) (by decide)
variable {gd : Bool}
theorem d_Mo_run_50 : decode m_Mo_run.2.1 50 = .ok (.iload 5, 2) := by decide +kernel
theorem d_Mo_run_52 : decode m_Mo_run.2.1 52 = .ok (.ifCond .ne 16, 3) := by decide +kernel
theorem d_Mo_run_55 : decode m_Mo_run.2.1 55 = .ok (.aload_n 0, 1) := by decide +kernel
theorem f_Mo_run_122 : jl_fd m_Mo_run 122 7 16 = true := by decide +kernel
theorem d_Mo_run_56 : decode m_Mo_run.2.1 56 = .ok (.getfield 122, 3) := by decide +kernel
theorem d_Mo_run_59 : decode m_Mo_run.2.1 59 = .ok (.ifCond .ne 9, 3) := by decide +kernel
theorem d_Mo_run_62 : decode m_Mo_run.2.1 62 = .ok (.aload_n 0, 1) := by decide +kernel
theorem d_Mo_run_63 : decode m_Mo_run.2.1 63 = .ok (.iconst 4, 1) := by decide +kernel
theorem d_Mo_run_64 : decode m_Mo_run.2.1 64 = .ok (.invokevirtual 118, 3) := by decide +kernel
theorem d_Mo_run_67 : decode m_Mo_run.2.1 67 = .ok (.ireturn, 1) := by decide +kernel
theorem mo_run_U (hl : l.stackTraces = false)  (hO : MoO σ fa (nI (0)) wh wy hg dp md ov oh dn an) (hw : MoW σ tb pr ow ft hs) (hk : k < 6) (hn1 : 1 ≤ n) (hn4 : n ≤ 400) (htb : tb k = true) (hgd : gd = false) : jl_m l G m_Mo_run [.ref 22, .int (nI k), .int (xa), .int (xb), .int (nI n), .int (bi gd)] σ (.inl (some (.int (nI 0)))) (σ.set 22 (.inr (7, MoF (nI 4) (nI 0) wh wy hg dp md ov oh dn an))) := by
  obtain ⟨h23, h24, h25, h26, h27⟩ := id hw
  refine jl_of (as := [.ref 22, .int (nI k), .int (xa), .int (xb), .int (nI n), .int (bi gd)]) rfl (by decide) hl (jl_cc rfl (jl_cc rfl (jl_cc rfl (jl_cc rfl (jl_cc rfl (jl_cc rfl jl_ca)))))) (Nat.le_of_ble_eq_true rfl) ?_
  show jl_W l G m_Mo_run (0, 0) 0 [some (.ref 22), some (.int (nI k)), some (.int (xa)), some (.int (xb)), some (.int (nI n)), some (.int (bi gd)), none, none, none, none] [] (σ) (.inl (some (.int (nI 0)))) (σ.set 22 (.inr (7, MoF (nI 4) (nI 0) wh wy hg dp md ov oh dn an)))
  refine jr_aload_n d_Mo_run_0 rfl ?_
  refine jr_iconst ((nI (0))) d_Mo_run_1 (by decide) ?_
  refine jr_putf d_Mo_run_2 p_Mo_run_111 hO (Nat.le_of_ble_eq_true rfl) jl_fit_int ?_
  show jl_W l G m_Mo_run (0, 0) 5 [some (.ref 22), some (.int (nI k)), some (.int (xa)), some (.int (xb)), some (.int (nI n)), some (.int (bi gd)), none, none, none, none] [] (σ.set (22) (.inr (7, [.int (nI 0), .ref 23, .ref 24, .ref 25, .ref 26, .ref 27, .ref 28, .ref 29, .ref 30, .ref 31, .ref 32, .ref 33, .ref 34, .ref 35, .ref 36, .ref 37, .int (nI 0), .int (wh), .int (wy), .ref 38, .ref 39, .ref 40, .ref 41, .int (hg), .ref 42, .ref 43, .ref 44, .ref 45, .ref 46, .ref 47, .ref 48, .ref 49, .int (dp), .ref 50, .ref 51, .ref 52, .int (md), .int (ov), .int (oh), .int (dn), .int (an)]))) (.inl (some (.int (nI 0)))) (σ.set 22 (.inr (7, MoF (nI 4) (nI 0) wh wy hg dp md ov oh dn an)))
  refine jr_aload_n d_Mo_run_5 rfl ?_
  refine jr_iload_n d_Mo_run_6 rfl ?_
  refine jr_bipush ((nI (6))) d_Mo_run_7 (by decide) ?_
  refine jr_callV (As := [.int (nI k), .int (nI 6)]) d_Mo_run_9 k_Mo_run_114 (jl_ss hO) rfl rfl rfl (Nat.le_of_ble_eq_true rfl) (by decide) (by decide) (mo_outN (j := k) (n := 6) hl (jl_ss hO) (MoW.sx hw (Or.inl (by decide))) (by decide) hk) ?_
  show jl_W l G m_Mo_run (0, 0) 12 [some (.ref 22), some (.int (nI k)), some (.int (xa)), some (.int (xb)), some (.int (nI n)), some (.int (bi gd)), none, none, none, none] [.int (nI 0)] (σ.set (22) (.inr (7, [.int (nI 0), .ref 23, .ref 24, .ref 25, .ref 26, .ref 27, .ref 28, .ref 29, .ref 30, .ref 31, .ref 32, .ref 33, .ref 34, .ref 35, .ref 36, .ref 37, .int (nI 0), .int (wh), .int (wy), .ref 38, .ref 39, .ref 40, .ref 41, .int (hg), .ref 42, .ref 43, .ref 44, .ref 45, .ref 46, .ref 47, .ref 48, .ref 49, .int (dp), .ref 50, .ref 51, .ref 52, .int (md), .int (ov), .int (oh), .int (dn), .int (an)]))) (.inl (some (.int (nI 0)))) (σ.set 22 (.inr (7, MoF (nI 4) (nI 0) wh wy hg dp md ov oh dn an)))
  refine jr_if_ne 29 d_Mo_run_12 (by decide) (fun z => absurd rfl z) (fun _ => ?_)
  refine jr_iload d_Mo_run_15 rfl ?_
  refine jr_iconst ((nI (1))) d_Mo_run_17 (by decide) ?_
  refine jr_icmp_lt 29 d_Mo_run_18 (by decide) (fun z => absurd z (fun z => by rw [nI_ltI (by omega) (by omega)] at z; omega)) (fun _ => ?_)
  refine jr_iload d_Mo_run_21 rfl ?_
  refine jr_sipush ((nI (400))) d_Mo_run_23 (by decide) ?_
  refine jr_icmp_le 35 d_Mo_run_26 (by decide) (fun _ => ?_) (fun z => absurd ((nI_leI (by omega) (by omega)).mpr hn4) z)
  refine jr_aload_n d_Mo_run_35 rfl ?_
  refine jr_getf d_Mo_run_36 f_Mo_run_7 (jl_ss hO) rfl ?_
  refine jr_iload_n d_Mo_run_39 rfl ?_
  refine jr_baldQ (v := (nI (1))) d_Mo_run_40 (jl_sn (by decide) h23) (by omega) (by omega) ((congrArg bi htb).trans bi_t1) ?_
  refine jr_if_ne 50 d_Mo_run_41 (by decide) (fun _ => ?_) (fun z => absurd z (by decide))
  refine jr_iload d_Mo_run_50 rfl ?_
  refine jr_if_ne 68 d_Mo_run_52 (by decide) (fun z => absurd (by rw [hgd]; rfl) z) (fun _ => ?_)
  refine jr_aload_n d_Mo_run_55 rfl ?_
  refine jr_getf d_Mo_run_56 f_Mo_run_122 (jl_ss hO) rfl ?_
  refine jr_if_ne 68 d_Mo_run_59 (by decide) (fun z => absurd rfl z) (fun _ => ?_)
  refine jr_aload_n d_Mo_run_62 rfl ?_
  refine jr_iconst ((nI (4))) d_Mo_run_63 (by decide) ?_
  refine jr_callV (As := [.int (nI 4)]) d_Mo_run_64 k_Mo_run_118 (jl_ss hO) rfl rfl rfl (Nat.le_of_ble_eq_true rfl) (by decide) (by decide) (mo_fail hl (jl_ss hO) (MoW.sx hw (Or.inl (by decide)))) ?_
  show jl_W l G m_Mo_run (0, 0) 67 [some (.ref 22), some (.int (nI k)), some (.int (xa)), some (.int (xb)), some (.int (nI n)), some (.int (bi gd)), none, none, none, none] [.int (nI 0)] ((σ.set (22) (.inr (7, [.int (nI 0), .ref 23, .ref 24, .ref 25, .ref 26, .ref 27, .ref 28, .ref 29, .ref 30, .ref 31, .ref 32, .ref 33, .ref 34, .ref 35, .ref 36, .ref 37, .int (nI 0), .int (wh), .int (wy), .ref 38, .ref 39, .ref 40, .ref 41, .int (hg), .ref 42, .ref 43, .ref 44, .ref 45, .ref 46, .ref 47, .ref 48, .ref 49, .int (dp), .ref 50, .ref 51, .ref 52, .int (md), .int (ov), .int (oh), .int (dn), .int (an)]))).set (22) (.inr (7, [.int (nI 4), .ref 23, .ref 24, .ref 25, .ref 26, .ref 27, .ref 28, .ref 29, .ref 30, .ref 31, .ref 32, .ref 33, .ref 34, .ref 35, .ref 36, .ref 37, .int (nI 0), .int (wh), .int (wy), .ref 38, .ref 39, .ref 40, .ref 41, .int (hg), .ref 42, .ref 43, .ref 44, .ref 45, .ref 46, .ref 47, .ref 48, .ref 49, .int (dp), .ref 50, .ref 51, .ref 52, .int (md), .int (ov), .int (oh), .int (dn), .int (an)]))) (.inl (some (.int (nI 0)))) (σ.set 22 (.inr (7, MoF (nI 4) (nI 0) wh wy hg dp md ov oh dn an)))
  exact jr_iretE d_Mo_run_67 rfl (rfl) ((List.set_set ..).symm) (by decide) (by decide)
theorem d_Mo_run_68 : decode m_Mo_run.2.1 68 = .ok (.aload_n 0, 1) := by decide +kernel
theorem d_Mo_run_69 : decode m_Mo_run.2.1 69 = .ok (.iload_n 1, 1) := by decide +kernel
theorem d_Mo_run_70 : decode m_Mo_run.2.1 70 = .ok (.iconst 0, 1) := by decide +kernel
theorem k_Mo_run_157 : jl_cv m_Mo_run m_Mo_methodOf 157 2 = true := by decide +kernel
theorem d_Mo_run_71 : decode m_Mo_run.2.1 71 = .ok (.invokevirtual 157, 3) := by decide +kernel
theorem d_Mo_run_74 : decode m_Mo_run.2.1 74 = .ok (.istore 6, 2) := by decide +kernel
theorem d_Mo_run_76 : decode m_Mo_run.2.1 76 = .ok (.iload 6, 2) := by decide +kernel
theorem d_Mo_run_78 : decode m_Mo_run.2.1 78 = .ok (.ifCond .ge 9, 3) := by decide +kernel
theorem d_Mo_run_81 : decode m_Mo_run.2.1 81 = .ok (.aload_n 0, 1) := by decide +kernel
theorem d_Mo_run_82 : decode m_Mo_run.2.1 82 = .ok (.iconst 5, 1) := by decide +kernel
theorem d_Mo_run_83 : decode m_Mo_run.2.1 83 = .ok (.invokevirtual 118, 3) := by decide +kernel
theorem d_Mo_run_86 : decode m_Mo_run.2.1 86 = .ok (.ireturn, 1) := by decide +kernel
theorem mo_run_X0 (hl : l.stackTraces = false)  (hO : MoO σ fa (nI (1)) wh wy hg dp md ov oh dn an) (hw : MoW σ tb pr ow ft hs) (hk : k < 6) (hn1 : 1 ≤ n) (hn4 : n ≤ 400) (htb : tb k = true) (hgd : gd = false) (hd : dsc pr) (hmm : mmo pr hs 0 6 (some k) = none) : jl_m l G m_Mo_run [.ref 22, .int (nI k), .int (xa), .int (xb), .int (nI n), .int (bi gd)] σ (.inl (some (.int (nI 0)))) (σ.set 22 (.inr (7, MoF (nI 5) (nI 1) wh wy hg dp md ov oh dn an))) := by
  obtain ⟨h23, h24, h25, h26, h27⟩ := id hw
  refine jl_of (as := [.ref 22, .int (nI k), .int (xa), .int (xb), .int (nI n), .int (bi gd)]) rfl (by decide) hl (jl_cc rfl (jl_cc rfl (jl_cc rfl (jl_cc rfl (jl_cc rfl (jl_cc rfl jl_ca)))))) (Nat.le_of_ble_eq_true rfl) ?_
  show jl_W l G m_Mo_run (0, 0) 0 [some (.ref 22), some (.int (nI k)), some (.int (xa)), some (.int (xb)), some (.int (nI n)), some (.int (bi gd)), none, none, none, none] [] (σ) (.inl (some (.int (nI 0)))) (σ.set 22 (.inr (7, MoF (nI 5) (nI 1) wh wy hg dp md ov oh dn an)))
  refine jr_aload_n d_Mo_run_0 rfl ?_
  refine jr_iconst ((nI (0))) d_Mo_run_1 (by decide) ?_
  refine jr_putf d_Mo_run_2 p_Mo_run_111 hO (Nat.le_of_ble_eq_true rfl) jl_fit_int ?_
  show jl_W l G m_Mo_run (0, 0) 5 [some (.ref 22), some (.int (nI k)), some (.int (xa)), some (.int (xb)), some (.int (nI n)), some (.int (bi gd)), none, none, none, none] [] (σ.set (22) (.inr (7, [.int (nI 0), .ref 23, .ref 24, .ref 25, .ref 26, .ref 27, .ref 28, .ref 29, .ref 30, .ref 31, .ref 32, .ref 33, .ref 34, .ref 35, .ref 36, .ref 37, .int (nI 1), .int (wh), .int (wy), .ref 38, .ref 39, .ref 40, .ref 41, .int (hg), .ref 42, .ref 43, .ref 44, .ref 45, .ref 46, .ref 47, .ref 48, .ref 49, .int (dp), .ref 50, .ref 51, .ref 52, .int (md), .int (ov), .int (oh), .int (dn), .int (an)]))) (.inl (some (.int (nI 0)))) (σ.set 22 (.inr (7, MoF (nI 5) (nI 1) wh wy hg dp md ov oh dn an)))
  refine jr_aload_n d_Mo_run_5 rfl ?_
  refine jr_iload_n d_Mo_run_6 rfl ?_
  refine jr_bipush ((nI (6))) d_Mo_run_7 (by decide) ?_
  refine jr_callV (As := [.int (nI k), .int (nI 6)]) d_Mo_run_9 k_Mo_run_114 (jl_ss hO) rfl rfl rfl (Nat.le_of_ble_eq_true rfl) (by decide) (by decide) (mo_outN (j := k) (n := 6) hl (jl_ss hO) (MoW.sx hw (Or.inl (by decide))) (by decide) hk) ?_
  show jl_W l G m_Mo_run (0, 0) 12 [some (.ref 22), some (.int (nI k)), some (.int (xa)), some (.int (xb)), some (.int (nI n)), some (.int (bi gd)), none, none, none, none] [.int (nI 0)] (σ.set (22) (.inr (7, [.int (nI 0), .ref 23, .ref 24, .ref 25, .ref 26, .ref 27, .ref 28, .ref 29, .ref 30, .ref 31, .ref 32, .ref 33, .ref 34, .ref 35, .ref 36, .ref 37, .int (nI 1), .int (wh), .int (wy), .ref 38, .ref 39, .ref 40, .ref 41, .int (hg), .ref 42, .ref 43, .ref 44, .ref 45, .ref 46, .ref 47, .ref 48, .ref 49, .int (dp), .ref 50, .ref 51, .ref 52, .int (md), .int (ov), .int (oh), .int (dn), .int (an)]))) (.inl (some (.int (nI 0)))) (σ.set 22 (.inr (7, MoF (nI 5) (nI 1) wh wy hg dp md ov oh dn an)))
  refine jr_if_ne 29 d_Mo_run_12 (by decide) (fun z => absurd rfl z) (fun _ => ?_)
  refine jr_iload d_Mo_run_15 rfl ?_
  refine jr_iconst ((nI (1))) d_Mo_run_17 (by decide) ?_
  refine jr_icmp_lt 29 d_Mo_run_18 (by decide) (fun z => absurd z (fun z => by rw [nI_ltI (by omega) (by omega)] at z; omega)) (fun _ => ?_)
  refine jr_iload d_Mo_run_21 rfl ?_
  refine jr_sipush ((nI (400))) d_Mo_run_23 (by decide) ?_
  refine jr_icmp_le 35 d_Mo_run_26 (by decide) (fun _ => ?_) (fun z => absurd ((nI_leI (by omega) (by omega)).mpr hn4) z)
  refine jr_aload_n d_Mo_run_35 rfl ?_
  refine jr_getf d_Mo_run_36 f_Mo_run_7 (jl_ss hO) rfl ?_
  refine jr_iload_n d_Mo_run_39 rfl ?_
  refine jr_baldQ (v := (nI (1))) d_Mo_run_40 (jl_sn (by decide) h23) (by omega) (by omega) ((congrArg bi htb).trans bi_t1) ?_
  refine jr_if_ne 50 d_Mo_run_41 (by decide) (fun _ => ?_) (fun z => absurd z (by decide))
  refine jr_iload d_Mo_run_50 rfl ?_
  refine jr_if_ne 68 d_Mo_run_52 (by decide) (fun z => absurd (by rw [hgd]; rfl) z) (fun _ => ?_)
  refine jr_aload_n d_Mo_run_55 rfl ?_
  refine jr_getf d_Mo_run_56 f_Mo_run_122 (jl_ss hO) rfl ?_
  refine jr_if_ne 68 d_Mo_run_59 (by decide) (fun _ => ?_) (fun z => absurd z (by decide))
  refine jr_aload_n d_Mo_run_68 rfl ?_
  refine jr_iload_n d_Mo_run_69 rfl ?_
  refine jr_iconst ((nI (0))) d_Mo_run_70 (by decide) ?_
  refine jr_callV (As := [.int (nI k), .int (nI 0)]) d_Mo_run_71 k_Mo_run_157 (jl_ss hO) rfl rfl rfl (Nat.le_of_ble_eq_true rfl) (by decide) (by decide) (mo_methodOfN (sl := 0) hl (jl_ss hO) (MoW.sx hw (Or.inl (by decide))) (by decide) hd hk hmm) ?_
  show jl_W l G m_Mo_run (0, 0) 74 [some (.ref 22), some (.int (nI k)), some (.int (xa)), some (.int (xb)), some (.int (nI n)), some (.int (bi gd)), none, none, none, none] [.int (-1)] (σ.set (22) (.inr (7, [.int (nI 0), .ref 23, .ref 24, .ref 25, .ref 26, .ref 27, .ref 28, .ref 29, .ref 30, .ref 31, .ref 32, .ref 33, .ref 34, .ref 35, .ref 36, .ref 37, .int (nI 1), .int (wh), .int (wy), .ref 38, .ref 39, .ref 40, .ref 41, .int (hg), .ref 42, .ref 43, .ref 44, .ref 45, .ref 46, .ref 47, .ref 48, .ref 49, .int (dp), .ref 50, .ref 51, .ref 52, .int (md), .int (ov), .int (oh), .int (dn), .int (an)]))) (.inl (some (.int (nI 0)))) (σ.set 22 (.inr (7, MoF (nI 5) (nI 1) wh wy hg dp md ov oh dn an)))
  refine jr_istore d_Mo_run_74 (by decide) ?_
  show jl_W l G m_Mo_run (0, 0) 76 [some (.ref 22), some (.int (nI k)), some (.int (xa)), some (.int (xb)), some (.int (nI n)), some (.int (bi gd)), some (.int (-1)), none, none, none] [] (σ.set (22) (.inr (7, [.int (nI 0), .ref 23, .ref 24, .ref 25, .ref 26, .ref 27, .ref 28, .ref 29, .ref 30, .ref 31, .ref 32, .ref 33, .ref 34, .ref 35, .ref 36, .ref 37, .int (nI 1), .int (wh), .int (wy), .ref 38, .ref 39, .ref 40, .ref 41, .int (hg), .ref 42, .ref 43, .ref 44, .ref 45, .ref 46, .ref 47, .ref 48, .ref 49, .int (dp), .ref 50, .ref 51, .ref 52, .int (md), .int (ov), .int (oh), .int (dn), .int (an)]))) (.inl (some (.int (nI 0)))) (σ.set 22 (.inr (7, MoF (nI 5) (nI 1) wh wy hg dp md ov oh dn an)))
  refine jr_iload d_Mo_run_76 rfl ?_
  refine jr_if_ge 87 d_Mo_run_78 (by decide) (fun z => absurd z (by decide)) (fun _ => ?_)
  refine jr_aload_n d_Mo_run_81 rfl ?_
  refine jr_iconst ((nI (5))) d_Mo_run_82 (by decide) ?_
  refine jr_callV (As := [.int (nI 5)]) d_Mo_run_83 k_Mo_run_118 (jl_ss hO) rfl rfl rfl (Nat.le_of_ble_eq_true rfl) (by decide) (by decide) (mo_fail hl (jl_ss hO) (MoW.sx hw (Or.inl (by decide)))) ?_
  show jl_W l G m_Mo_run (0, 0) 86 [some (.ref 22), some (.int (nI k)), some (.int (xa)), some (.int (xb)), some (.int (nI n)), some (.int (bi gd)), some (.int (-1)), none, none, none] [.int (nI 0)] ((σ.set (22) (.inr (7, [.int (nI 0), .ref 23, .ref 24, .ref 25, .ref 26, .ref 27, .ref 28, .ref 29, .ref 30, .ref 31, .ref 32, .ref 33, .ref 34, .ref 35, .ref 36, .ref 37, .int (nI 1), .int (wh), .int (wy), .ref 38, .ref 39, .ref 40, .ref 41, .int (hg), .ref 42, .ref 43, .ref 44, .ref 45, .ref 46, .ref 47, .ref 48, .ref 49, .int (dp), .ref 50, .ref 51, .ref 52, .int (md), .int (ov), .int (oh), .int (dn), .int (an)]))).set (22) (.inr (7, [.int (nI 5), .ref 23, .ref 24, .ref 25, .ref 26, .ref 27, .ref 28, .ref 29, .ref 30, .ref 31, .ref 32, .ref 33, .ref 34, .ref 35, .ref 36, .ref 37, .int (nI 1), .int (wh), .int (wy), .ref 38, .ref 39, .ref 40, .ref 41, .int (hg), .ref 42, .ref 43, .ref 44, .ref 45, .ref 46, .ref 47, .ref 48, .ref 49, .int (dp), .ref 50, .ref 51, .ref 52, .int (md), .int (ov), .int (oh), .int (dn), .int (an)]))) (.inl (some (.int (nI 0)))) (σ.set 22 (.inr (7, MoF (nI 5) (nI 1) wh wy hg dp md ov oh dn an)))
  exact jr_iretE d_Mo_run_86 rfl (rfl) ((List.set_set ..).symm) (by decide) (by decide)
theorem mo_run_X1 (hl : l.stackTraces = false)  (hO : MoO σ fa vf wh wy hg dp md ov oh dn an) (hw : MoW σ tb pr ow ft hs) (hk : k < 6) (hn1 : 1 ≤ n) (hn4 : n ≤ 400) (htb : tb k = true) (hgd : gd = true) (hd : dsc pr) (hmm : mmo pr hs 0 6 (some k) = none) : jl_m l G m_Mo_run [.ref 22, .int (nI k), .int (xa), .int (xb), .int (nI n), .int (bi gd)] σ (.inl (some (.int (nI 0)))) (σ.set 22 (.inr (7, MoF (nI 5) vf wh wy hg dp md ov oh dn an))) := by
  obtain ⟨h23, h24, h25, h26, h27⟩ := id hw
  refine jl_of (as := [.ref 22, .int (nI k), .int (xa), .int (xb), .int (nI n), .int (bi gd)]) rfl (by decide) hl (jl_cc rfl (jl_cc rfl (jl_cc rfl (jl_cc rfl (jl_cc rfl (jl_cc rfl jl_ca)))))) (Nat.le_of_ble_eq_true rfl) ?_
  show jl_W l G m_Mo_run (0, 0) 0 [some (.ref 22), some (.int (nI k)), some (.int (xa)), some (.int (xb)), some (.int (nI n)), some (.int (bi gd)), none, none, none, none] [] (σ) (.inl (some (.int (nI 0)))) (σ.set 22 (.inr (7, MoF (nI 5) vf wh wy hg dp md ov oh dn an)))
  refine jr_aload_n d_Mo_run_0 rfl ?_
  refine jr_iconst ((nI (0))) d_Mo_run_1 (by decide) ?_
  refine jr_putf d_Mo_run_2 p_Mo_run_111 hO (Nat.le_of_ble_eq_true rfl) jl_fit_int ?_
  show jl_W l G m_Mo_run (0, 0) 5 [some (.ref 22), some (.int (nI k)), some (.int (xa)), some (.int (xb)), some (.int (nI n)), some (.int (bi gd)), none, none, none, none] [] (σ.set (22) (.inr (7, [.int (nI 0), .ref 23, .ref 24, .ref 25, .ref 26, .ref 27, .ref 28, .ref 29, .ref 30, .ref 31, .ref 32, .ref 33, .ref 34, .ref 35, .ref 36, .ref 37, .int (vf), .int (wh), .int (wy), .ref 38, .ref 39, .ref 40, .ref 41, .int (hg), .ref 42, .ref 43, .ref 44, .ref 45, .ref 46, .ref 47, .ref 48, .ref 49, .int (dp), .ref 50, .ref 51, .ref 52, .int (md), .int (ov), .int (oh), .int (dn), .int (an)]))) (.inl (some (.int (nI 0)))) (σ.set 22 (.inr (7, MoF (nI 5) vf wh wy hg dp md ov oh dn an)))
  refine jr_aload_n d_Mo_run_5 rfl ?_
  refine jr_iload_n d_Mo_run_6 rfl ?_
  refine jr_bipush ((nI (6))) d_Mo_run_7 (by decide) ?_
  refine jr_callV (As := [.int (nI k), .int (nI 6)]) d_Mo_run_9 k_Mo_run_114 (jl_ss hO) rfl rfl rfl (Nat.le_of_ble_eq_true rfl) (by decide) (by decide) (mo_outN (j := k) (n := 6) hl (jl_ss hO) (MoW.sx hw (Or.inl (by decide))) (by decide) hk) ?_
  show jl_W l G m_Mo_run (0, 0) 12 [some (.ref 22), some (.int (nI k)), some (.int (xa)), some (.int (xb)), some (.int (nI n)), some (.int (bi gd)), none, none, none, none] [.int (nI 0)] (σ.set (22) (.inr (7, [.int (nI 0), .ref 23, .ref 24, .ref 25, .ref 26, .ref 27, .ref 28, .ref 29, .ref 30, .ref 31, .ref 32, .ref 33, .ref 34, .ref 35, .ref 36, .ref 37, .int (vf), .int (wh), .int (wy), .ref 38, .ref 39, .ref 40, .ref 41, .int (hg), .ref 42, .ref 43, .ref 44, .ref 45, .ref 46, .ref 47, .ref 48, .ref 49, .int (dp), .ref 50, .ref 51, .ref 52, .int (md), .int (ov), .int (oh), .int (dn), .int (an)]))) (.inl (some (.int (nI 0)))) (σ.set 22 (.inr (7, MoF (nI 5) vf wh wy hg dp md ov oh dn an)))
  refine jr_if_ne 29 d_Mo_run_12 (by decide) (fun z => absurd rfl z) (fun _ => ?_)
  refine jr_iload d_Mo_run_15 rfl ?_
  refine jr_iconst ((nI (1))) d_Mo_run_17 (by decide) ?_
  refine jr_icmp_lt 29 d_Mo_run_18 (by decide) (fun z => absurd z (fun z => by rw [nI_ltI (by omega) (by omega)] at z; omega)) (fun _ => ?_)
  refine jr_iload d_Mo_run_21 rfl ?_
  refine jr_sipush ((nI (400))) d_Mo_run_23 (by decide) ?_
  refine jr_icmp_le 35 d_Mo_run_26 (by decide) (fun _ => ?_) (fun z => absurd ((nI_leI (by omega) (by omega)).mpr hn4) z)
  refine jr_aload_n d_Mo_run_35 rfl ?_
  refine jr_getf d_Mo_run_36 f_Mo_run_7 (jl_ss hO) rfl ?_
  refine jr_iload_n d_Mo_run_39 rfl ?_
  refine jr_baldQ (v := (nI (1))) d_Mo_run_40 (jl_sn (by decide) h23) (by omega) (by omega) ((congrArg bi htb).trans bi_t1) ?_
  refine jr_if_ne 50 d_Mo_run_41 (by decide) (fun _ => ?_) (fun z => absurd z (by decide))
  refine jr_iload d_Mo_run_50 rfl ?_
  refine jr_if_ne 68 d_Mo_run_52 (by decide) (fun _ => ?_) (fun z => absurd z (by rw [hgd]; decide))
  refine jr_aload_n d_Mo_run_68 rfl ?_
  refine jr_iload_n d_Mo_run_69 rfl ?_
  refine jr_iconst ((nI (0))) d_Mo_run_70 (by decide) ?_
  refine jr_callV (As := [.int (nI k), .int (nI 0)]) d_Mo_run_71 k_Mo_run_157 (jl_ss hO) rfl rfl rfl (Nat.le_of_ble_eq_true rfl) (by decide) (by decide) (mo_methodOfN (sl := 0) hl (jl_ss hO) (MoW.sx hw (Or.inl (by decide))) (by decide) hd hk hmm) ?_
  show jl_W l G m_Mo_run (0, 0) 74 [some (.ref 22), some (.int (nI k)), some (.int (xa)), some (.int (xb)), some (.int (nI n)), some (.int (bi gd)), none, none, none, none] [.int (-1)] (σ.set (22) (.inr (7, [.int (nI 0), .ref 23, .ref 24, .ref 25, .ref 26, .ref 27, .ref 28, .ref 29, .ref 30, .ref 31, .ref 32, .ref 33, .ref 34, .ref 35, .ref 36, .ref 37, .int (vf), .int (wh), .int (wy), .ref 38, .ref 39, .ref 40, .ref 41, .int (hg), .ref 42, .ref 43, .ref 44, .ref 45, .ref 46, .ref 47, .ref 48, .ref 49, .int (dp), .ref 50, .ref 51, .ref 52, .int (md), .int (ov), .int (oh), .int (dn), .int (an)]))) (.inl (some (.int (nI 0)))) (σ.set 22 (.inr (7, MoF (nI 5) vf wh wy hg dp md ov oh dn an)))
  refine jr_istore d_Mo_run_74 (by decide) ?_
  show jl_W l G m_Mo_run (0, 0) 76 [some (.ref 22), some (.int (nI k)), some (.int (xa)), some (.int (xb)), some (.int (nI n)), some (.int (bi gd)), some (.int (-1)), none, none, none] [] (σ.set (22) (.inr (7, [.int (nI 0), .ref 23, .ref 24, .ref 25, .ref 26, .ref 27, .ref 28, .ref 29, .ref 30, .ref 31, .ref 32, .ref 33, .ref 34, .ref 35, .ref 36, .ref 37, .int (vf), .int (wh), .int (wy), .ref 38, .ref 39, .ref 40, .ref 41, .int (hg), .ref 42, .ref 43, .ref 44, .ref 45, .ref 46, .ref 47, .ref 48, .ref 49, .int (dp), .ref 50, .ref 51, .ref 52, .int (md), .int (ov), .int (oh), .int (dn), .int (an)]))) (.inl (some (.int (nI 0)))) (σ.set 22 (.inr (7, MoF (nI 5) vf wh wy hg dp md ov oh dn an)))
  refine jr_iload d_Mo_run_76 rfl ?_
  refine jr_if_ge 87 d_Mo_run_78 (by decide) (fun z => absurd z (by decide)) (fun _ => ?_)
  refine jr_aload_n d_Mo_run_81 rfl ?_
  refine jr_iconst ((nI (5))) d_Mo_run_82 (by decide) ?_
  refine jr_callV (As := [.int (nI 5)]) d_Mo_run_83 k_Mo_run_118 (jl_ss hO) rfl rfl rfl (Nat.le_of_ble_eq_true rfl) (by decide) (by decide) (mo_fail hl (jl_ss hO) (MoW.sx hw (Or.inl (by decide)))) ?_
  show jl_W l G m_Mo_run (0, 0) 86 [some (.ref 22), some (.int (nI k)), some (.int (xa)), some (.int (xb)), some (.int (nI n)), some (.int (bi gd)), some (.int (-1)), none, none, none] [.int (nI 0)] ((σ.set (22) (.inr (7, [.int (nI 0), .ref 23, .ref 24, .ref 25, .ref 26, .ref 27, .ref 28, .ref 29, .ref 30, .ref 31, .ref 32, .ref 33, .ref 34, .ref 35, .ref 36, .ref 37, .int (vf), .int (wh), .int (wy), .ref 38, .ref 39, .ref 40, .ref 41, .int (hg), .ref 42, .ref 43, .ref 44, .ref 45, .ref 46, .ref 47, .ref 48, .ref 49, .int (dp), .ref 50, .ref 51, .ref 52, .int (md), .int (ov), .int (oh), .int (dn), .int (an)]))).set (22) (.inr (7, [.int (nI 5), .ref 23, .ref 24, .ref 25, .ref 26, .ref 27, .ref 28, .ref 29, .ref 30, .ref 31, .ref 32, .ref 33, .ref 34, .ref 35, .ref 36, .ref 37, .int (vf), .int (wh), .int (wy), .ref 38, .ref 39, .ref 40, .ref 41, .int (hg), .ref 42, .ref 43, .ref 44, .ref 45, .ref 46, .ref 47, .ref 48, .ref 49, .int (dp), .ref 50, .ref 51, .ref 52, .int (md), .int (ov), .int (oh), .int (dn), .int (an)]))) (.inl (some (.int (nI 0)))) (σ.set 22 (.inr (7, MoF (nI 5) vf wh wy hg dp md ov oh dn an)))
  exact jr_iretE d_Mo_run_86 rfl (rfl) ((List.set_set ..).symm) (by decide) (by decide)
variable {how : Nat}
theorem d_Mo_run_293 : decode m_Mo_run.2.1 293 = .ok (.aload_n 0, 1) := by decide +kernel
theorem f_Mo_run_108 : jl_fd m_Mo_run 108 7 37 = true := by decide +kernel
theorem d_Mo_run_294 : decode m_Mo_run.2.1 294 = .ok (.getfield 108, 3) := by decide +kernel
theorem d_Mo_run_297 : decode m_Mo_run.2.1 297 = .ok (.ifCond .ne 10, 3) := by decide +kernel
theorem d_Mo_run_300 : decode m_Mo_run.2.1 300 = .ok (.aload_n 0, 1) := by decide +kernel
theorem f_Mo_run_258 : jl_fd m_Mo_run 258 7 40 = true := by decide +kernel
theorem d_Mo_run_301 : decode m_Mo_run.2.1 301 = .ok (.getfield 258, 3) := by decide +kernel
theorem d_Mo_run_304 : decode m_Mo_run.2.1 304 = .ok (.goto 8, 3) := by decide +kernel
theorem d_Mo_run_312 : decode m_Mo_run.2.1 312 = .ok (.ireturn, 1) := by decide +kernel
theorem mo_run_e0 (hl : l.stackTraces = false) {P : jl_O → jl_S → Prop}  (hn : NQ σ0 σ [] (H) fa vf wh wy hg (nI how) oh dn an) (hw0 : MoW σ0 tb pr ow ft hs) (h0 : how = 0) (hP : P (.inl (some (.int an))) σ) : jl_E l G m_Mo_run (0, 0) 293 [some (.ref 22), none, none, none, none, none, none, none, none, none] [] σ P := by
  obtain ⟨fx, fp, fh, lw, lk, vl, vk, ks, kc, kv, lo, sk, hO, f1, f2, f3, f4, f5, f6, f7, hH, hB, hy1, hR1, hF⟩ := id hn
  obtain ⟨k1, k2, k3⟩ := id hH
  obtain ⟨⟨r1, r2⟩, hlo, hsk⟩ := id hR1
  have hw := hw0.fn hF
  refine er_aload_n d_Mo_run_293 rfl ?_
  refine er_getf d_Mo_run_294 f_Mo_run_108 hO rfl ?_
  refine er_if_ne 307 d_Mo_run_297 (by decide) (fun z => absurd ((show nI how = 0 by rw [h0]; decide +kernel)) z) (fun _ => ?_)
  refine er_aload_n d_Mo_run_300 rfl ?_
  refine er_getf d_Mo_run_301 f_Mo_run_258 hO rfl ?_
  refine er_goto 312 d_Mo_run_304 (by decide) ?_
  exact er_iret d_Mo_run_312 rfl (hP) (by decide) (by decide)
theorem d_Mo_run_307 : decode m_Mo_run.2.1 307 = .ok (.aload_n 0, 1) := by decide +kernel
theorem d_Mo_run_308 : decode m_Mo_run.2.1 308 = .ok (.iconst 3, 1) := by decide +kernel
theorem d_Mo_run_309 : decode m_Mo_run.2.1 309 = .ok (.invokevirtual 118, 3) := by decide +kernel
theorem mo_run_e1 (hl : l.stackTraces = false) {P : jl_O → jl_S → Prop}  (hn : NQ σ0 σ [] (H) fa vf wh wy hg (nI how) oh dn an) (hw0 : MoW σ0 tb pr ow ft hs) (h0 : how ≠ 0) (hh : how < 2 ^ 31) (hT : ∀ σ', NQ σ0 σ' [] (H) (nI 3) vf wh wy hg (nI how) oh dn an → P (.inl (some (.int (nI 0)))) σ') : jl_E l G m_Mo_run (0, 0) 293 [some (.ref 22), none, none, none, none, none, none, none, none, none] [] σ P := by
  obtain ⟨fx, fp, fh, lw, lk, vl, vk, ks, kc, kv, lo, sk, hO, f1, f2, f3, f4, f5, f6, f7, hH, hB, hy1, hR1, hF⟩ := id hn
  obtain ⟨k1, k2, k3⟩ := id hH
  obtain ⟨⟨r1, r2⟩, hlo, hsk⟩ := id hR1
  have hw := hw0.fn hF
  refine er_aload_n d_Mo_run_293 rfl ?_
  refine er_getf d_Mo_run_294 f_Mo_run_108 hO rfl ?_
  refine er_if_ne 307 d_Mo_run_297 (by decide) (fun _ => ?_) (fun z => absurd z (fun z => by have z2 : nI how = nI 0 := z.trans (by decide +kernel); rw [nI_eq (by omega) (by omega)] at z2; omega))
  refine er_aload_n d_Mo_run_307 rfl ?_
  refine er_iconst ((nI (3))) d_Mo_run_308 (by decide) ?_
  refine er_callV (As := [.int (nI 3)]) d_Mo_run_309 k_Mo_run_118 hO rfl rfl rfl (Nat.le_of_ble_eq_true rfl) (by decide) (by decide) (mo_fail hl hO hw) ?_
  show jl_E l G m_Mo_run (0, 0) 312 [some (.ref 22), none, none, none, none, none, none, none, none, none] [.int (nI 0)] (σ.set (22) (.inr (7, [.int (nI 3), .ref 23, .ref 24, .ref 25, .ref 26, .ref 27, .ref 28, .ref 29, .ref 30, .ref 31, .ref 32, .ref 33, .ref 34, .ref 35, .ref 36, .ref 37, .int (vf), .int (wh), .int (wy), .ref 38, .ref 39, .ref 40, .ref 41, .int (hg), .ref 42, .ref 43, .ref 44, .ref 45, .ref 46, .ref 47, .ref 48, .ref 49, .int (nI 0), .ref 50, .ref 51, .ref 52, .int (nI (H.n)), .int (nI how), .int (oh), .int (dn), .int (an)]))) P
  exact er_iret d_Mo_run_312 rfl (hT _ ⟨_, _, _, _, _, _, _, _, _, _, _, _, (jl_ss hO), (jl_sn (by decide) f1), (jl_sn (by decide) f2), (jl_sn (by decide) f3), (jl_sn (by decide) f4), (jl_sn (by decide) f5), (jl_sn (by decide) f6), (jl_sn (by decide) f7), ⟨(jl_sn (by decide) k1), (jl_sn (by decide) k2), (jl_sn (by decide) k3)⟩, hB, trivial, ⟨⟨(jl_sn (by decide) r1), (jl_sn (by decide) r2)⟩, hlo, hsk⟩, (hF.set (by omega))⟩) (by decide) (by decide)
theorem d_Mo_run_226 : decode m_Mo_run.2.1 226 = .ok (.aload_n 0, 1) := by decide +kernel
theorem f_Mo_run_224 : jl_fd m_Mo_run 224 7 32 = true := by decide +kernel
theorem d_Mo_run_227 : decode m_Mo_run.2.1 227 = .ok (.getfield 224, 3) := by decide +kernel
theorem d_Mo_run_230 : decode m_Mo_run.2.1 230 = .ok (.ifCond .le 63, 3) := by decide +kernel
theorem mo_run_x (hl : l.stackTraces = false) {P : jl_O → jl_S → Prop}  (hn : NQ σ0 σ [] (H) fa vf wh wy hg ov oh dn an) (hw0 : MoW σ0 tb pr ow ft hs) (hN : jl_E l G m_Mo_run (0, 0) 293 [some (.ref 22), none, none, none, none, none, none, none, none, none] [] σ P) : jl_E l G m_Mo_run (0, 0) 226 [some (.ref 22), none, none, none, none, none, none, none, none, none] [] σ P := by
  obtain ⟨fx, fp, fh, lw, lk, vl, vk, ks, kc, kv, lo, sk, hO, f1, f2, f3, f4, f5, f6, f7, hH, hB, hy1, hR1, hF⟩ := id hn
  obtain ⟨k1, k2, k3⟩ := id hH
  obtain ⟨⟨r1, r2⟩, hlo, hsk⟩ := id hR1
  have hw := hw0.fn hF
  refine er_aload_n d_Mo_run_226 rfl ?_
  refine er_getf d_Mo_run_227 f_Mo_run_224 hO rfl ?_
  refine er_if_le 293 d_Mo_run_230 (by decide) (fun _ => ?_) (fun z => absurd (by decide) z)
  exact hN
end JNzi
