/-! about (wip/gen/p39.py) -/
section JAb
variable {l : Launch} {G : jl_G} {σ : jl_S} {tb : Nat → Bool} {pr : Nat → Option Nat} {ow fi ft : Nat → Nat} {mt : Nat → Option Nat} {vf : Bool} {a : Nat} {q1 q2 : Option Nat} {rs : Nat} {op : Nat → Nat} {ag : Nat → Int32} {sz : Nat} {fr tt tg kd : Nat → Nat} {nc : Nat} {mp : Nat → Int32} {fh : Nat → Bool}
theorem d_JC_about_0 : decode m_JC_about.2.1 0 = .ok (.iload_n 1, 1) := by decide +kernel
theorem d_JC_about_1 : decode m_JC_about.2.1 1 = .ok (.iconst 0, 1) := by decide +kernel
theorem d_JC_about_2 : decode m_JC_about.2.1 2 = .ok (.iconst 5, 1) := by decide +kernel
theorem k_JC_about_41 : jl_cz m_JC_about m_JC_needRange 41 3 = true := by decide +kernel
theorem d_JC_about_3 : decode m_JC_about.2.1 3 = .ok (.invokestatic 41, 3) := by decide +kernel
theorem jc_about_A1 (hl : l.stackTraces = false) {k w : Int32} (hj : JcAt σ vf) (hw : WoAt σ tb pr ow fi ft mt) (h : k < nI 0 ∨ nI 5 < k) : jl_m l G m_JC_about [.ref 0, .int (k), .int (w)] σ (.inr xA) (σ) := by
  obtain ⟨hW, h2, h3, h4, h5, h6, h7⟩ := id hw; have h0 := hj
  refine jl_of (as := [.ref 0, .int (k), .int (w)]) rfl (by decide) hl (jl_cc rfl (jl_cc rfl (jl_cc rfl jl_ca))) (Nat.le_of_ble_eq_true rfl) ?_
  show jl_W l G m_JC_about (0, 0) 0 [some (.ref 0), some (.int (k)), some (.int (w)), none] [] (σ) (.inr xA) (σ)
  refine jr_iload_n d_JC_about_0 rfl ?_
  refine jr_iconst ((nI (0))) d_JC_about_1 (by decide) ?_
  refine jr_iconst ((nI (5))) d_JC_about_2 (by decide) ?_
  exact jl_oeq (rfl) (jl_seq (rfl) (jr_callSX (As := [.int (k), .int (nI 0), .int (nI 5)]) d_JC_about_3 k_JC_about_41 rfl rfl (Nat.le_of_ble_eq_true rfl) (by decide) (by decide) (jc_rangeX hl h)))
theorem d_JC_about_6 : decode m_JC_about.2.1 6 = .ok (.iload_n 2, 1) := by decide +kernel
theorem d_JC_about_7 : decode m_JC_about.2.1 7 = .ok (.iconst 0, 1) := by decide +kernel
theorem d_JC_about_8 : decode m_JC_about.2.1 8 = .ok (.bipush 6, 2) := by decide +kernel
theorem d_JC_about_10 : decode m_JC_about.2.1 10 = .ok (.invokestatic 41, 3) := by decide +kernel
theorem jc_about_A2 (hl : l.stackTraces = false) {k : Nat} {w : Int32} (hj : JcAt σ vf) (hw : WoAt σ tb pr ow fi ft mt) (hk : k < 6) (h : w < nI 0 ∨ nI 6 < w) : jl_m l G m_JC_about [.ref 0, .int (nI k), .int (w)] σ (.inr xA) (σ) := by
  obtain ⟨hW, h2, h3, h4, h5, h6, h7⟩ := id hw; have h0 := hj
  refine jl_of (as := [.ref 0, .int (nI k), .int (w)]) rfl (by decide) hl (jl_cc rfl (jl_cc rfl (jl_cc rfl jl_ca))) (Nat.le_of_ble_eq_true rfl) ?_
  show jl_W l G m_JC_about (0, 0) 0 [some (.ref 0), some (.int (nI k)), some (.int (w)), none] [] (σ) (.inr xA) (σ)
  refine jr_iload_n d_JC_about_0 rfl ?_
  refine jr_iconst ((nI (0))) d_JC_about_1 (by decide) ?_
  refine jr_iconst ((nI (5))) d_JC_about_2 (by decide) ?_
  refine jr_callS (As := [.int (nI k), .int (nI 0), .int (nI 5)]) d_JC_about_3 k_JC_about_41 rfl (Nat.le_of_ble_eq_true rfl) (by decide) (by decide) (jc_range hl (rg_ok (by omega) (by decide))) ?_
  show jl_W l G m_JC_about (1, 6) 6 [some (.ref 0), some (.int (nI k)), some (.int (w)), none] [] (σ) (.inr xA) (σ)
  refine jr_iload_n d_JC_about_6 rfl ?_
  refine jr_iconst ((nI (0))) d_JC_about_7 (by decide) ?_
  refine jr_bipush ((nI (6))) d_JC_about_8 (by decide) ?_
  exact jl_oeq (rfl) (jl_seq (rfl) (jr_callSX (As := [.int (w), .int (nI 0), .int (nI 6)]) d_JC_about_10 k_JC_about_41 rfl rfl (Nat.le_of_ble_eq_true rfl) (by decide) (by decide) (jc_rangeX hl h)))
theorem d_JC_about_13 : decode m_JC_about.2.1 13 = .ok (.iload_n 2, 1) := by decide +kernel
theorem d_JC_about_14 : decode m_JC_about.2.1 14 = .ok (.ifCond .ne 20, 3) := by decide +kernel
theorem d_JC_about_17 : decode m_JC_about.2.1 17 = .ok (.aload_n 0, 1) := by decide +kernel
theorem f_JC_about_12 : jl_fd m_JC_about 12 6 0 = true := by decide +kernel
theorem d_JC_about_18 : decode m_JC_about.2.1 18 = .ok (.getfield 12, 3) := by decide +kernel
theorem d_JC_about_21 : decode m_JC_about.2.1 21 = .ok (.iload_n 1, 1) := by decide +kernel
theorem k_JC_about_45 : jl_cv m_JC_about m_Wo_has 45 1 = true := by decide +kernel
theorem d_JC_about_22 : decode m_JC_about.2.1 22 = .ok (.invokevirtual 45, 3) := by decide +kernel
theorem d_JC_about_25 : decode m_JC_about.2.1 25 = .ok (.ifCond .eq 7, 3) := by decide +kernel
theorem d_JC_about_32 : decode m_JC_about.2.1 32 = .ok (.iconst 0, 1) := by decide +kernel
theorem d_JC_about_33 : decode m_JC_about.2.1 33 = .ok (.ireturn, 1) := by decide +kernel
theorem d_JC_about_28 : decode m_JC_about.2.1 28 = .ok (.iconst 1, 1) := by decide +kernel
theorem d_JC_about_29 : decode m_JC_about.2.1 29 = .ok (.goto 4, 3) := by decide +kernel
theorem jc_about_0 (hl : l.stackTraces = false) {k : Nat} (hj : JcAt σ vf) (hw : WoAt σ tb pr ow fi ft mt) (hk : k < 6) : jl_m l G m_JC_about [.ref 0, .int (nI k), .int (nI 0)] σ (.inl (some (.int (bi (tb k))))) (σ) := by
  obtain ⟨hW, h2, h3, h4, h5, h6, h7⟩ := id hw; have h0 := hj
  refine jl_of (as := [.ref 0, .int (nI k), .int (nI 0)]) rfl (by decide) hl (jl_cc rfl (jl_cc rfl (jl_cc rfl jl_ca))) (Nat.le_of_ble_eq_true rfl) ?_
  show jl_W l G m_JC_about (0, 0) 0 [some (.ref 0), some (.int (nI k)), some (.int (nI 0)), none] [] (σ) (.inl (some (.int (bi (tb k))))) (σ)
  refine jr_iload_n d_JC_about_0 rfl ?_
  refine jr_iconst ((nI (0))) d_JC_about_1 (by decide) ?_
  refine jr_iconst ((nI (5))) d_JC_about_2 (by decide) ?_
  refine jr_callS (As := [.int (nI k), .int (nI 0), .int (nI 5)]) d_JC_about_3 k_JC_about_41 rfl (Nat.le_of_ble_eq_true rfl) (by decide) (by decide) (jc_range hl (rg_ok (by omega) (by decide))) ?_
  show jl_W l G m_JC_about (1, 6) 6 [some (.ref 0), some (.int (nI k)), some (.int (nI 0)), none] [] (σ) (.inl (some (.int (bi (tb k))))) (σ)
  refine jr_iload_n d_JC_about_6 rfl ?_
  refine jr_iconst ((nI (0))) d_JC_about_7 (by decide) ?_
  refine jr_bipush ((nI (6))) d_JC_about_8 (by decide) ?_
  refine jr_callS (As := [.int (nI 0), .int (nI 0), .int (nI 6)]) d_JC_about_10 k_JC_about_41 rfl (Nat.le_of_ble_eq_true rfl) (by decide) (by decide) (jc_range hl (rg_ok (by omega) (by decide))) ?_
  show jl_W l G m_JC_about (2, 12) 13 [some (.ref 0), some (.int (nI k)), some (.int (nI 0)), none] [] (σ) (.inl (some (.int (bi (tb k))))) (σ)
  refine jr_iload_n d_JC_about_13 rfl ?_
  refine jr_if_ne 34 d_JC_about_14 (by decide) (fun z => absurd rfl z) (fun _ => ?_)
  refine jr_aload_n d_JC_about_17 rfl ?_
  refine jr_getf d_JC_about_18 f_JC_about_12 h0 rfl ?_
  refine jr_iload_n d_JC_about_21 rfl ?_
  refine jr_callV (As := [.int (nI k)]) d_JC_about_22 k_JC_about_45 hW rfl rfl rfl (Nat.le_of_ble_eq_true rfl) (by decide) (by decide) (wo_hasN hl hw hk) ?_
  show jl_W l G m_JC_about (2, 12) 25 [some (.ref 0), some (.int (nI k)), some (.int (nI 0)), none] [.int (bi (tb k))] (σ) (.inl (some (.int (bi (tb k))))) (σ)
  refine jr_if_eq 32 d_JC_about_25 (by decide) (fun c1 => ?_) (fun c1 => ?_)
  · refine jr_iconst ((nI (0))) d_JC_about_32 (by decide) ?_
    exact jr_iretE d_JC_about_33 rfl (by rw [bi_0.mp c1]; rfl) (rfl) (by decide) (by decide)
  · refine jr_iconst ((nI (1))) d_JC_about_28 (by decide) ?_
    refine jr_goto 33 d_JC_about_29 (by decide) ?_
    exact jr_iretE d_JC_about_33 rfl (by rw [bi_nf c1]; rfl) (rfl) (by decide) (by decide)
theorem d_JC_about_34 : decode m_JC_about.2.1 34 = .ok (.aload_n 0, 1) := by decide +kernel
theorem d_JC_about_35 : decode m_JC_about.2.1 35 = .ok (.getfield 12, 3) := by decide +kernel
theorem d_JC_about_38 : decode m_JC_about.2.1 38 = .ok (.iload_n 1, 1) := by decide +kernel
theorem d_JC_about_39 : decode m_JC_about.2.1 39 = .ok (.invokevirtual 45, 3) := by decide +kernel
theorem d_JC_about_42 : decode m_JC_about.2.1 42 = .ok (.ifCond .ne 5, 3) := by decide +kernel
theorem d_JC_about_45 : decode m_JC_about.2.1 45 = .ok (.iconst (-1), 1) := by decide +kernel
theorem d_JC_about_46 : decode m_JC_about.2.1 46 = .ok (.ireturn, 1) := by decide +kernel
theorem jc_about_F (hl : l.stackTraces = false) {k w : Nat} (hj : JcAt σ vf) (hw : WoAt σ tb pr ow fi ft mt) (hk : k < 6) (hw6 : w < 6) (ht : tb k = false) : jl_m l G m_JC_about [.ref 0, .int (nI k), .int (nI (w + 1))] σ (.inl (some (.int (-1)))) (σ) := by
  obtain ⟨hW, h2, h3, h4, h5, h6, h7⟩ := id hw; have h0 := hj
  refine jl_of (as := [.ref 0, .int (nI k), .int (nI (w + 1))]) rfl (by decide) hl (jl_cc rfl (jl_cc rfl (jl_cc rfl jl_ca))) (Nat.le_of_ble_eq_true rfl) ?_
  show jl_W l G m_JC_about (0, 0) 0 [some (.ref 0), some (.int (nI k)), some (.int (nI (w + 1))), none] [] (σ) (.inl (some (.int (-1)))) (σ)
  refine jr_iload_n d_JC_about_0 rfl ?_
  refine jr_iconst ((nI (0))) d_JC_about_1 (by decide) ?_
  refine jr_iconst ((nI (5))) d_JC_about_2 (by decide) ?_
  refine jr_callS (As := [.int (nI k), .int (nI 0), .int (nI 5)]) d_JC_about_3 k_JC_about_41 rfl (Nat.le_of_ble_eq_true rfl) (by decide) (by decide) (jc_range hl (rg_ok (by omega) (by decide))) ?_
  show jl_W l G m_JC_about (1, 6) 6 [some (.ref 0), some (.int (nI k)), some (.int (nI (w + 1))), none] [] (σ) (.inl (some (.int (-1)))) (σ)
  refine jr_iload_n d_JC_about_6 rfl ?_
  refine jr_iconst ((nI (0))) d_JC_about_7 (by decide) ?_
  refine jr_bipush ((nI (6))) d_JC_about_8 (by decide) ?_
  refine jr_callS (As := [.int (nI (w + 1)), .int (nI 0), .int (nI 6)]) d_JC_about_10 k_JC_about_41 rfl (Nat.le_of_ble_eq_true rfl) (by decide) (by decide) (jc_range hl (rg_ok (by omega) (by decide))) ?_
  show jl_W l G m_JC_about (2, 12) 13 [some (.ref 0), some (.int (nI k)), some (.int (nI (w + 1))), none] [] (σ) (.inl (some (.int (-1)))) (σ)
  refine jr_iload_n d_JC_about_13 rfl ?_
  refine jr_if_neN 34 d_JC_about_14 (by decide) (by omega) (fun c1 => ?_) (fun c1 => ?_)
  · refine jr_aload_n d_JC_about_34 rfl ?_
    refine jr_getf d_JC_about_35 f_JC_about_12 h0 rfl ?_
    refine jr_iload_n d_JC_about_38 rfl ?_
    refine jr_callV (As := [.int (nI k)]) d_JC_about_39 k_JC_about_45 hW rfl rfl rfl (Nat.le_of_ble_eq_true rfl) (by decide) (by decide) (wo_hasF hl hw hk ht) ?_
    show jl_W l G m_JC_about (2, 12) 42 [some (.ref 0), some (.int (nI k)), some (.int (nI (w + 1))), none] [.int (nI 0)] (σ) (.inl (some (.int (-1)))) (σ)
    refine jr_if_ne 47 d_JC_about_42 (by decide) (fun z => absurd rfl z) (fun _ => ?_)
    refine jr_iconst ((-1)) d_JC_about_45 (by decide) ?_
    exact jr_iretE d_JC_about_46 rfl (rfl) (rfl) (by decide) (by decide)
  · exfalso; omega
theorem d_JC_about_47 : decode m_JC_about.2.1 47 = .ok (.iload_n 2, 1) := by decide +kernel
theorem d_JC_about_48 : decode m_JC_about.2.1 48 = .ok (.iconst 1, 1) := by decide +kernel
theorem d_JC_about_49 : decode m_JC_about.2.1 49 = .ok (.if_icmp .ne 13, 3) := by decide +kernel
theorem d_JC_about_52 : decode m_JC_about.2.1 52 = .ok (.aload_n 0, 1) := by decide +kernel
theorem d_JC_about_53 : decode m_JC_about.2.1 53 = .ok (.getfield 12, 3) := by decide +kernel
theorem f_JC_about_185 : jl_fd m_JC_about 185 5 1 = true := by decide +kernel
theorem d_JC_about_56 : decode m_JC_about.2.1 56 = .ok (.getfield 185, 3) := by decide +kernel
theorem d_JC_about_59 : decode m_JC_about.2.1 59 = .ok (.iload_n 1, 1) := by decide +kernel
theorem d_JC_about_60 : decode m_JC_about.2.1 60 = .ok (.iaload, 1) := by decide +kernel
theorem d_JC_about_61 : decode m_JC_about.2.1 61 = .ok (.ireturn, 1) := by decide +kernel
theorem jc_about_1 (hl : l.stackTraces = false) {k : Nat} (hj : JcAt σ vf) (hw : WoAt σ tb pr ow fi ft mt) (hk : k < 6) (ht : tb k = true) : jl_m l G m_JC_about [.ref 0, .int (nI k), .int (nI 1)] σ (.inl (some (.int (en (pr k))))) (σ) := by
  obtain ⟨hW, h2, h3, h4, h5, h6, h7⟩ := id hw; have h0 := hj
  refine jl_of (as := [.ref 0, .int (nI k), .int (nI 1)]) rfl (by decide) hl (jl_cc rfl (jl_cc rfl (jl_cc rfl jl_ca))) (Nat.le_of_ble_eq_true rfl) ?_
  show jl_W l G m_JC_about (0, 0) 0 [some (.ref 0), some (.int (nI k)), some (.int (nI 1)), none] [] (σ) (.inl (some (.int (en (pr k))))) (σ)
  refine jr_iload_n d_JC_about_0 rfl ?_
  refine jr_iconst ((nI (0))) d_JC_about_1 (by decide) ?_
  refine jr_iconst ((nI (5))) d_JC_about_2 (by decide) ?_
  refine jr_callS (As := [.int (nI k), .int (nI 0), .int (nI 5)]) d_JC_about_3 k_JC_about_41 rfl (Nat.le_of_ble_eq_true rfl) (by decide) (by decide) (jc_range hl (rg_ok (by omega) (by decide))) ?_
  show jl_W l G m_JC_about (1, 6) 6 [some (.ref 0), some (.int (nI k)), some (.int (nI 1)), none] [] (σ) (.inl (some (.int (en (pr k))))) (σ)
  refine jr_iload_n d_JC_about_6 rfl ?_
  refine jr_iconst ((nI (0))) d_JC_about_7 (by decide) ?_
  refine jr_bipush ((nI (6))) d_JC_about_8 (by decide) ?_
  refine jr_callS (As := [.int (nI 1), .int (nI 0), .int (nI 6)]) d_JC_about_10 k_JC_about_41 rfl (Nat.le_of_ble_eq_true rfl) (by decide) (by decide) (jc_range hl (rg_ok (by omega) (by decide))) ?_
  show jl_W l G m_JC_about (2, 12) 13 [some (.ref 0), some (.int (nI k)), some (.int (nI 1)), none] [] (σ) (.inl (some (.int (en (pr k))))) (σ)
  refine jr_iload_n d_JC_about_13 rfl ?_
  refine jr_if_ne 34 d_JC_about_14 (by decide) (fun _ => ?_) (fun z => absurd z (by decide))
  refine jr_aload_n d_JC_about_34 rfl ?_
  refine jr_getf d_JC_about_35 f_JC_about_12 h0 rfl ?_
  refine jr_iload_n d_JC_about_38 rfl ?_
  refine jr_callV (As := [.int (nI k)]) d_JC_about_39 k_JC_about_45 hW rfl rfl rfl (Nat.le_of_ble_eq_true rfl) (by decide) (by decide) (wo_hasT hl hw hk ht) ?_
  show jl_W l G m_JC_about (2, 12) 42 [some (.ref 0), some (.int (nI k)), some (.int (nI 1)), none] [.int (nI 1)] (σ) (.inl (some (.int (en (pr k))))) (σ)
  refine jr_if_ne 47 d_JC_about_42 (by decide) (fun _ => ?_) (fun z => absurd z (by decide))
  refine jr_iload_n d_JC_about_47 rfl ?_
  refine jr_iconst ((nI (1))) d_JC_about_48 (by decide) ?_
  refine jr_icmp_ne 62 d_JC_about_49 (by decide) (fun z => absurd rfl z) (fun _ => ?_)
  refine jr_aload_n d_JC_about_52 rfl ?_
  refine jr_getf d_JC_about_53 f_JC_about_12 h0 rfl ?_
  refine jr_getf d_JC_about_56 f_JC_about_185 hW rfl ?_
  refine jr_iload_n d_JC_about_59 rfl ?_
  refine jr_ialdN d_JC_about_60 h3 (by omega) (by omega) ?_
  exact jr_iretE d_JC_about_61 rfl (rfl) (rfl) (by decide) (by decide)
theorem d_JC_about_62 : decode m_JC_about.2.1 62 = .ok (.iload_n 2, 1) := by decide +kernel
theorem d_JC_about_63 : decode m_JC_about.2.1 63 = .ok (.iconst 2, 1) := by decide +kernel
theorem d_JC_about_64 : decode m_JC_about.2.1 64 = .ok (.if_icmp .ne 12, 3) := by decide +kernel
theorem d_JC_about_67 : decode m_JC_about.2.1 67 = .ok (.aload_n 0, 1) := by decide +kernel
theorem d_JC_about_68 : decode m_JC_about.2.1 68 = .ok (.getfield 12, 3) := by decide +kernel
theorem d_JC_about_71 : decode m_JC_about.2.1 71 = .ok (.iload_n 1, 1) := by decide +kernel
theorem k_JC_about_188 : jl_cv m_JC_about m_Wo_fieldCount 188 1 = true := by decide +kernel
theorem d_JC_about_72 : decode m_JC_about.2.1 72 = .ok (.invokevirtual 188, 3) := by decide +kernel
theorem d_JC_about_75 : decode m_JC_about.2.1 75 = .ok (.ireturn, 1) := by decide +kernel
theorem jc_about_2 (hl : l.stackTraces = false) {k : Nat} (hj : JcAt σ vf) (hw : WoAt σ tb pr ow fi ft mt) (hk : k < 6) (ht : tb k = true) : jl_m l G m_JC_about [.ref 0, .int (nI k), .int (nI 2)] σ (.inl (some (.int (nI (fi k + ow k))))) (σ) := by
  obtain ⟨hW, h2, h3, h4, h5, h6, h7⟩ := id hw; have h0 := hj
  refine jl_of (as := [.ref 0, .int (nI k), .int (nI 2)]) rfl (by decide) hl (jl_cc rfl (jl_cc rfl (jl_cc rfl jl_ca))) (Nat.le_of_ble_eq_true rfl) ?_
  show jl_W l G m_JC_about (0, 0) 0 [some (.ref 0), some (.int (nI k)), some (.int (nI 2)), none] [] (σ) (.inl (some (.int (nI (fi k + ow k))))) (σ)
  refine jr_iload_n d_JC_about_0 rfl ?_
  refine jr_iconst ((nI (0))) d_JC_about_1 (by decide) ?_
  refine jr_iconst ((nI (5))) d_JC_about_2 (by decide) ?_
  refine jr_callS (As := [.int (nI k), .int (nI 0), .int (nI 5)]) d_JC_about_3 k_JC_about_41 rfl (Nat.le_of_ble_eq_true rfl) (by decide) (by decide) (jc_range hl (rg_ok (by omega) (by decide))) ?_
  show jl_W l G m_JC_about (1, 6) 6 [some (.ref 0), some (.int (nI k)), some (.int (nI 2)), none] [] (σ) (.inl (some (.int (nI (fi k + ow k))))) (σ)
  refine jr_iload_n d_JC_about_6 rfl ?_
  refine jr_iconst ((nI (0))) d_JC_about_7 (by decide) ?_
  refine jr_bipush ((nI (6))) d_JC_about_8 (by decide) ?_
  refine jr_callS (As := [.int (nI 2), .int (nI 0), .int (nI 6)]) d_JC_about_10 k_JC_about_41 rfl (Nat.le_of_ble_eq_true rfl) (by decide) (by decide) (jc_range hl (rg_ok (by omega) (by decide))) ?_
  show jl_W l G m_JC_about (2, 12) 13 [some (.ref 0), some (.int (nI k)), some (.int (nI 2)), none] [] (σ) (.inl (some (.int (nI (fi k + ow k))))) (σ)
  refine jr_iload_n d_JC_about_13 rfl ?_
  refine jr_if_ne 34 d_JC_about_14 (by decide) (fun _ => ?_) (fun z => absurd z (by decide))
  refine jr_aload_n d_JC_about_34 rfl ?_
  refine jr_getf d_JC_about_35 f_JC_about_12 h0 rfl ?_
  refine jr_iload_n d_JC_about_38 rfl ?_
  refine jr_callV (As := [.int (nI k)]) d_JC_about_39 k_JC_about_45 hW rfl rfl rfl (Nat.le_of_ble_eq_true rfl) (by decide) (by decide) (wo_hasT hl hw hk ht) ?_
  show jl_W l G m_JC_about (2, 12) 42 [some (.ref 0), some (.int (nI k)), some (.int (nI 2)), none] [.int (nI 1)] (σ) (.inl (some (.int (nI (fi k + ow k))))) (σ)
  refine jr_if_ne 47 d_JC_about_42 (by decide) (fun _ => ?_) (fun z => absurd z (by decide))
  refine jr_iload_n d_JC_about_47 rfl ?_
  refine jr_iconst ((nI (1))) d_JC_about_48 (by decide) ?_
  refine jr_icmp_ne 62 d_JC_about_49 (by decide) (fun _ => ?_) (fun z => absurd z (by decide))
  refine jr_iload_n d_JC_about_62 rfl ?_
  refine jr_iconst ((nI (2))) d_JC_about_63 (by decide) ?_
  refine jr_icmp_ne 76 d_JC_about_64 (by decide) (fun z => absurd rfl z) (fun _ => ?_)
  refine jr_aload_n d_JC_about_67 rfl ?_
  refine jr_getf d_JC_about_68 f_JC_about_12 h0 rfl ?_
  refine jr_iload_n d_JC_about_71 rfl ?_
  refine jr_callV (As := [.int (nI k)]) d_JC_about_72 k_JC_about_188 hW rfl rfl rfl (Nat.le_of_ble_eq_true rfl) (by decide) (by decide) (wo_fc hl hw hk) ?_
  show jl_W l G m_JC_about (2, 12) 75 [some (.ref 0), some (.int (nI k)), some (.int (nI 2)), none] [.int (nI (fi k + ow k))] (σ) (.inl (some (.int (nI (fi k + ow k))))) (σ)
  exact jr_iretE d_JC_about_75 rfl (rfl) (rfl) (by decide) (by decide)
theorem d_JC_about_76 : decode m_JC_about.2.1 76 = .ok (.aload_n 0, 1) := by decide +kernel
theorem d_JC_about_77 : decode m_JC_about.2.1 77 = .ok (.getfield 12, 3) := by decide +kernel
theorem d_JC_about_80 : decode m_JC_about.2.1 80 = .ok (.iload_n 1, 1) := by decide +kernel
theorem d_JC_about_81 : decode m_JC_about.2.1 81 = .ok (.iload_n 2, 1) := by decide +kernel
theorem d_JC_about_82 : decode m_JC_about.2.1 82 = .ok (.iconst 3, 1) := by decide +kernel
theorem d_JC_about_83 : decode m_JC_about.2.1 83 = .ok (.isub, 1) := by decide +kernel
theorem k_JC_about_82 : jl_cv m_JC_about m_Wo_own 82 2 = true := by decide +kernel
theorem d_JC_about_84 : decode m_JC_about.2.1 84 = .ok (.invokevirtual 82, 3) := by decide +kernel
theorem d_JC_about_87 : decode m_JC_about.2.1 87 = .ok (.astore_n 3, 1) := by decide +kernel
theorem d_JC_about_88 : decode m_JC_about.2.1 88 = .ok (.aload_n 3, 1) := by decide +kernel
theorem d_JC_about_89 : decode m_JC_about.2.1 89 = .ok (.ifnonnull 7, 3) := by decide +kernel
theorem d_JC_about_92 : decode m_JC_about.2.1 92 = .ok (.iconst (-1), 1) := by decide +kernel
theorem d_JC_about_93 : decode m_JC_about.2.1 93 = .ok (.goto 7, 3) := by decide +kernel
theorem d_JC_about_100 : decode m_JC_about.2.1 100 = .ok (.ireturn, 1) := by decide +kernel
theorem jc_about_N (hl : l.stackTraces = false) {k w : Nat} (hj : JcAt σ vf) (hw : WoAt σ tb pr ow fi ft mt) (hk : k < 6) (hw4 : w < 4) (ht : tb k = true) (hq : mt (k * 4 + w) = none) : jl_m l G m_JC_about [.ref 0, .int (nI k), .int (nI (w + 3))] σ (.inl (some (.int (-1)))) (σ) := by
  obtain ⟨hW, h2, h3, h4, h5, h6, h7⟩ := id hw; have h0 := hj
  refine jl_of (as := [.ref 0, .int (nI k), .int (nI (w + 3))]) rfl (by decide) hl (jl_cc rfl (jl_cc rfl (jl_cc rfl jl_ca))) (Nat.le_of_ble_eq_true rfl) ?_
  show jl_W l G m_JC_about (0, 0) 0 [some (.ref 0), some (.int (nI k)), some (.int (nI (w + 3))), none] [] (σ) (.inl (some (.int (-1)))) (σ)
  refine jr_iload_n d_JC_about_0 rfl ?_
  refine jr_iconst ((nI (0))) d_JC_about_1 (by decide) ?_
  refine jr_iconst ((nI (5))) d_JC_about_2 (by decide) ?_
  refine jr_callS (As := [.int (nI k), .int (nI 0), .int (nI 5)]) d_JC_about_3 k_JC_about_41 rfl (Nat.le_of_ble_eq_true rfl) (by decide) (by decide) (jc_range hl (rg_ok (by omega) (by decide))) ?_
  show jl_W l G m_JC_about (1, 6) 6 [some (.ref 0), some (.int (nI k)), some (.int (nI (w + 3))), none] [] (σ) (.inl (some (.int (-1)))) (σ)
  refine jr_iload_n d_JC_about_6 rfl ?_
  refine jr_iconst ((nI (0))) d_JC_about_7 (by decide) ?_
  refine jr_bipush ((nI (6))) d_JC_about_8 (by decide) ?_
  refine jr_callS (As := [.int (nI (w + 3)), .int (nI 0), .int (nI 6)]) d_JC_about_10 k_JC_about_41 rfl (Nat.le_of_ble_eq_true rfl) (by decide) (by decide) (jc_range hl (rg_ok (by omega) (by decide))) ?_
  show jl_W l G m_JC_about (2, 12) 13 [some (.ref 0), some (.int (nI k)), some (.int (nI (w + 3))), none] [] (σ) (.inl (some (.int (-1)))) (σ)
  refine jr_iload_n d_JC_about_13 rfl ?_
  refine jr_if_neN 34 d_JC_about_14 (by decide) (by omega) (fun c1 => ?_) (fun c1 => ?_)
  · refine jr_aload_n d_JC_about_34 rfl ?_
    refine jr_getf d_JC_about_35 f_JC_about_12 h0 rfl ?_
    refine jr_iload_n d_JC_about_38 rfl ?_
    refine jr_callV (As := [.int (nI k)]) d_JC_about_39 k_JC_about_45 hW rfl rfl rfl (Nat.le_of_ble_eq_true rfl) (by decide) (by decide) (wo_hasT hl hw hk ht) ?_
    show jl_W l G m_JC_about (2, 12) 42 [some (.ref 0), some (.int (nI k)), some (.int (nI (w + 3))), none] [.int (nI 1)] (σ) (.inl (some (.int (-1)))) (σ)
    refine jr_if_ne 47 d_JC_about_42 (by decide) (fun _ => ?_) (fun z => absurd z (by decide))
    refine jr_iload_n d_JC_about_47 rfl ?_
    refine jr_iconst ((nI (1))) d_JC_about_48 (by decide) ?_
    refine jr_icmp_neN 62 d_JC_about_49 (by decide) (by omega) (by omega) (fun c2 => ?_) (fun c2 => ?_)
    · refine jr_iload_n d_JC_about_62 rfl ?_
      refine jr_iconst ((nI (2))) d_JC_about_63 (by decide) ?_
      refine jr_icmp_neN 76 d_JC_about_64 (by decide) (by omega) (by omega) (fun c3 => ?_) (fun c3 => ?_)
      · refine jr_aload_n d_JC_about_76 rfl ?_
        refine jr_getf d_JC_about_77 f_JC_about_12 h0 rfl ?_
        refine jr_iload_n d_JC_about_80 rfl ?_
        refine jr_iload_n d_JC_about_81 rfl ?_
        refine jr_iconst ((nI (3))) d_JC_about_82 (by decide) ?_
        refine jr_isubN d_JC_about_83 (by omega) ?_
        refine jr_callV (As := [.int (nI k), .int (nI ((w + 3) - (3)))]) d_JC_about_84 k_JC_about_82 hW rfl rfl rfl (Nat.le_of_ble_eq_true rfl) (by decide) (by decide) (wo_ownT hl hw hk (by omega) hq) ?_
        show jl_W l G m_JC_about (2, 12) 87 [some (.ref 0), some (.int (nI k)), some (.int (nI (w + 3))), none] [.null] (σ) (.inl (some (.int (-1)))) (σ)
        refine jr_astore_nN d_JC_about_87 (by decide) ?_
        show jl_W l G m_JC_about (2, 12) 88 [some (.ref 0), some (.int (nI k)), some (.int (nI (w + 3))), some (.null)] [] (σ) (.inl (some (.int (-1)))) (σ)
        refine jr_aload_nN d_JC_about_88 rfl ?_
        refine jr_ifnonnullN d_JC_about_89 ?_
        refine jr_iconst ((-1)) d_JC_about_92 (by decide) ?_
        refine jr_goto 100 d_JC_about_93 (by decide) ?_
        exact jr_iretE d_JC_about_100 rfl (rfl) (rfl) (by decide) (by decide)
      · exfalso; omega
    · exfalso; omega
  · exfalso; omega
theorem d_JC_about_96 : decode m_JC_about.2.1 96 = .ok (.aload_n 3, 1) := by decide +kernel
theorem f_JC_about_105 : jl_fd m_JC_about 105 2 5 = true := by decide +kernel
theorem d_JC_about_97 : decode m_JC_about.2.1 97 = .ok (.getfield 105, 3) := by decide +kernel
theorem jc_about_M (hl : l.stackTraces = false) {k w : Nat} (hj : JcAt σ vf) (hw : WoAt σ tb pr ow fi ft mt) (hm : MeAt σ a q1 q2 rs op ag sz fr tt tg kd nc mp fh) (hk : k < 6) (hw4 : w < 4) (ht : tb k = true) (hq : mt (k * 4 + w) = some a) : jl_m l G m_JC_about [.ref 0, .int (nI k), .int (nI (w + 3))] σ (.inl (some (.int (nI sz)))) (σ) := by
  obtain ⟨hW, h2, h3, h4, h5, h6, h7⟩ := id hw; have h0 := hj; obtain ⟨hM, g1, g2, g3, g4, g5, g6, g7, g8⟩ := id hm
  refine jl_of (as := [.ref 0, .int (nI k), .int (nI (w + 3))]) rfl (by decide) hl (jl_cc rfl (jl_cc rfl (jl_cc rfl jl_ca))) (Nat.le_of_ble_eq_true rfl) ?_
  show jl_W l G m_JC_about (0, 0) 0 [some (.ref 0), some (.int (nI k)), some (.int (nI (w + 3))), none] [] (σ) (.inl (some (.int (nI sz)))) (σ)
  refine jr_iload_n d_JC_about_0 rfl ?_
  refine jr_iconst ((nI (0))) d_JC_about_1 (by decide) ?_
  refine jr_iconst ((nI (5))) d_JC_about_2 (by decide) ?_
  refine jr_callS (As := [.int (nI k), .int (nI 0), .int (nI 5)]) d_JC_about_3 k_JC_about_41 rfl (Nat.le_of_ble_eq_true rfl) (by decide) (by decide) (jc_range hl (rg_ok (by omega) (by decide))) ?_
  show jl_W l G m_JC_about (1, 6) 6 [some (.ref 0), some (.int (nI k)), some (.int (nI (w + 3))), none] [] (σ) (.inl (some (.int (nI sz)))) (σ)
  refine jr_iload_n d_JC_about_6 rfl ?_
  refine jr_iconst ((nI (0))) d_JC_about_7 (by decide) ?_
  refine jr_bipush ((nI (6))) d_JC_about_8 (by decide) ?_
  refine jr_callS (As := [.int (nI (w + 3)), .int (nI 0), .int (nI 6)]) d_JC_about_10 k_JC_about_41 rfl (Nat.le_of_ble_eq_true rfl) (by decide) (by decide) (jc_range hl (rg_ok (by omega) (by decide))) ?_
  show jl_W l G m_JC_about (2, 12) 13 [some (.ref 0), some (.int (nI k)), some (.int (nI (w + 3))), none] [] (σ) (.inl (some (.int (nI sz)))) (σ)
  refine jr_iload_n d_JC_about_13 rfl ?_
  refine jr_if_neN 34 d_JC_about_14 (by decide) (by omega) (fun c1 => ?_) (fun c1 => ?_)
  · refine jr_aload_n d_JC_about_34 rfl ?_
    refine jr_getf d_JC_about_35 f_JC_about_12 h0 rfl ?_
    refine jr_iload_n d_JC_about_38 rfl ?_
    refine jr_callV (As := [.int (nI k)]) d_JC_about_39 k_JC_about_45 hW rfl rfl rfl (Nat.le_of_ble_eq_true rfl) (by decide) (by decide) (wo_hasT hl hw hk ht) ?_
    show jl_W l G m_JC_about (2, 12) 42 [some (.ref 0), some (.int (nI k)), some (.int (nI (w + 3))), none] [.int (nI 1)] (σ) (.inl (some (.int (nI sz)))) (σ)
    refine jr_if_ne 47 d_JC_about_42 (by decide) (fun _ => ?_) (fun z => absurd z (by decide))
    refine jr_iload_n d_JC_about_47 rfl ?_
    refine jr_iconst ((nI (1))) d_JC_about_48 (by decide) ?_
    refine jr_icmp_neN 62 d_JC_about_49 (by decide) (by omega) (by omega) (fun c2 => ?_) (fun c2 => ?_)
    · refine jr_iload_n d_JC_about_62 rfl ?_
      refine jr_iconst ((nI (2))) d_JC_about_63 (by decide) ?_
      refine jr_icmp_neN 76 d_JC_about_64 (by decide) (by omega) (by omega) (fun c3 => ?_) (fun c3 => ?_)
      · refine jr_aload_n d_JC_about_76 rfl ?_
        refine jr_getf d_JC_about_77 f_JC_about_12 h0 rfl ?_
        refine jr_iload_n d_JC_about_80 rfl ?_
        refine jr_iload_n d_JC_about_81 rfl ?_
        refine jr_iconst ((nI (3))) d_JC_about_82 (by decide) ?_
        refine jr_isubN d_JC_about_83 (by omega) ?_
        refine jr_callV (As := [.int (nI k), .int (nI ((w + 3) - (3)))]) d_JC_about_84 k_JC_about_82 hW rfl rfl rfl (Nat.le_of_ble_eq_true rfl) (by decide) (by decide) (wo_ownT hl hw hk (by omega) hq) ?_
        show jl_W l G m_JC_about (2, 12) 87 [some (.ref 0), some (.int (nI k)), some (.int (nI (w + 3))), none] [.ref a] (σ) (.inl (some (.int (nI sz)))) (σ)
        refine jr_astore_n d_JC_about_87 (by decide) ?_
        show jl_W l G m_JC_about (2, 12) 88 [some (.ref 0), some (.int (nI k)), some (.int (nI (w + 3))), some (.ref a)] [] (σ) (.inl (some (.int (nI sz)))) (σ)
        refine jr_aload_n d_JC_about_88 rfl ?_
        refine jr_ifnonnull 96 d_JC_about_89 (by decide) ?_
        refine jr_aload_n d_JC_about_96 rfl ?_
        refine jr_getf d_JC_about_97 f_JC_about_105 hM rfl ?_
        exact jr_iretE d_JC_about_100 rfl (rfl) (rfl) (by decide) (by decide)
      · exfalso; omega
    · exfalso; omega
  · exfalso; omega
end JAb
/-! about (wip/gen/p39.py) -/
section JAc
variable {l : Launch} {G : jl_G} {σ : jl_S} {tb : Nat → Bool} {pr : Nat → Option Nat} {ow fi ft : Nat → Nat} {hs : Nat → Bool} {fa vf wh wy hg dp md ov oh dn an : Int32} {u1 u2 : Nat → Option Nat} {ur ul uo : Nat → Nat} {ua : Nat → Int32} {uc us ut uk : Nat → Nat}
theorem d_Mo_about_0 : decode m_Mo_about.2.1 0 = .ok (.aload_n 0, 1) := by decide +kernel
theorem d_Mo_about_1 : decode m_Mo_about.2.1 1 = .ok (.iconst 0, 1) := by decide +kernel
theorem p_Mo_about_111 : jl_fp m_Mo_about 111 7 0 = true := by decide +kernel
theorem d_Mo_about_2 : decode m_Mo_about.2.1 2 = .ok (.putfield 111, 3) := by decide +kernel
theorem d_Mo_about_5 : decode m_Mo_about.2.1 5 = .ok (.aload_n 0, 1) := by decide +kernel
theorem d_Mo_about_6 : decode m_Mo_about.2.1 6 = .ok (.iload_n 1, 1) := by decide +kernel
theorem d_Mo_about_7 : decode m_Mo_about.2.1 7 = .ok (.bipush 6, 2) := by decide +kernel
theorem k_Mo_about_114 : jl_cv m_Mo_about m_Mo_out 114 2 = true := by decide +kernel
theorem d_Mo_about_9 : decode m_Mo_about.2.1 9 = .ok (.invokevirtual 114, 3) := by decide +kernel
theorem d_Mo_about_12 : decode m_Mo_about.2.1 12 = .ok (.ifCond .ne 13, 3) := by decide +kernel
theorem d_Mo_about_25 : decode m_Mo_about.2.1 25 = .ok (.aload_n 0, 1) := by decide +kernel
theorem d_Mo_about_26 : decode m_Mo_about.2.1 26 = .ok (.iconst 1, 1) := by decide +kernel
theorem k_Mo_about_118 : jl_cv m_Mo_about m_Mo_fail 118 1 = true := by decide +kernel
theorem d_Mo_about_27 : decode m_Mo_about.2.1 27 = .ok (.invokevirtual 118, 3) := by decide +kernel
theorem d_Mo_about_30 : decode m_Mo_about.2.1 30 = .ok (.ireturn, 1) := by decide +kernel
theorem d_Mo_about_15 : decode m_Mo_about.2.1 15 = .ok (.aload_n 0, 1) := by decide +kernel
theorem d_Mo_about_16 : decode m_Mo_about.2.1 16 = .ok (.iload_n 2, 1) := by decide +kernel
theorem d_Mo_about_17 : decode m_Mo_about.2.1 17 = .ok (.bipush 7, 2) := by decide +kernel
theorem d_Mo_about_19 : decode m_Mo_about.2.1 19 = .ok (.invokevirtual 114, 3) := by decide +kernel
theorem d_Mo_about_22 : decode m_Mo_about.2.1 22 = .ok (.ifCond .eq 9, 3) := by decide +kernel
theorem mo_about_A (hl : l.stackTraces = false) {k w : Int32} (hO : MoO σ fa vf wh wy hg dp md ov oh dn an) (hw : MoW σ tb pr ow ft hs) (hu : MoM σ u1 u2 ur ul uo ua uc us ut uk) (h : outB k (nI 6) = true ∨ outB w (nI 7) = true) : jl_m l G m_Mo_about [.ref 22, .int (k), .int (w)] σ (.inl (some (.int (nI 0)))) (σ.set 22 (.inr (7, MoF (nI 1) vf wh wy hg dp md ov oh dn an))) := by
  obtain ⟨h23, h24, h25, h26, h27⟩ := id hw; obtain ⟨h28, h29, h30, h31, h32, h33, h34, h35, h36, h37⟩ := id hu
  refine jl_of (as := [.ref 22, .int (k), .int (w)]) rfl (by decide) hl (jl_cc rfl (jl_cc rfl (jl_cc rfl jl_ca))) (Nat.le_of_ble_eq_true rfl) ?_
  show jl_W l G m_Mo_about (0, 0) 0 [some (.ref 22), some (.int (k)), some (.int (w))] [] (σ) (.inl (some (.int (nI 0)))) (σ.set 22 (.inr (7, MoF (nI 1) vf wh wy hg dp md ov oh dn an)))
  refine jr_aload_n d_Mo_about_0 rfl ?_
  refine jr_iconst ((nI (0))) d_Mo_about_1 (by decide) ?_
  refine jr_putf d_Mo_about_2 p_Mo_about_111 hO (Nat.le_of_ble_eq_true rfl) jl_fit_int ?_
  show jl_W l G m_Mo_about (0, 0) 5 [some (.ref 22), some (.int (k)), some (.int (w))] [] (σ.set (22) (.inr (7, [.int (nI 0), .ref 23, .ref 24, .ref 25, .ref 26, .ref 27, .ref 28, .ref 29, .ref 30, .ref 31, .ref 32, .ref 33, .ref 34, .ref 35, .ref 36, .ref 37, .int (vf), .int (wh), .int (wy), .ref 38, .ref 39, .ref 40, .ref 41, .int (hg), .ref 42, .ref 43, .ref 44, .ref 45, .ref 46, .ref 47, .ref 48, .ref 49, .int (dp), .ref 50, .ref 51, .ref 52, .int (md), .int (ov), .int (oh), .int (dn), .int (an)]))) (.inl (some (.int (nI 0)))) (σ.set 22 (.inr (7, MoF (nI 1) vf wh wy hg dp md ov oh dn an)))
  refine jr_aload_n d_Mo_about_5 rfl ?_
  refine jr_iload_n d_Mo_about_6 rfl ?_
  refine jr_bipush ((nI (6))) d_Mo_about_7 (by decide) ?_
  refine jr_callV (As := [.int (k), .int (nI 6)]) d_Mo_about_9 k_Mo_about_114 (jl_ss hO) rfl rfl rfl (Nat.le_of_ble_eq_true rfl) (by decide) (by decide) (mo_out hl (jl_ss hO) (MoW.sx hw (Or.inl (by decide)))) ?_
  show jl_W l G m_Mo_about (0, 0) 12 [some (.ref 22), some (.int (k)), some (.int (w))] [.int (bi (outB (k) (nI 6)))] (σ.set (22) (.inr (7, [.int (nI 0), .ref 23, .ref 24, .ref 25, .ref 26, .ref 27, .ref 28, .ref 29, .ref 30, .ref 31, .ref 32, .ref 33, .ref 34, .ref 35, .ref 36, .ref 37, .int (vf), .int (wh), .int (wy), .ref 38, .ref 39, .ref 40, .ref 41, .int (hg), .ref 42, .ref 43, .ref 44, .ref 45, .ref 46, .ref 47, .ref 48, .ref 49, .int (dp), .ref 50, .ref 51, .ref 52, .int (md), .int (ov), .int (oh), .int (dn), .int (an)]))) (.inl (some (.int (nI 0)))) (σ.set 22 (.inr (7, MoF (nI 1) vf wh wy hg dp md ov oh dn an)))
  refine jr_if_ne 25 d_Mo_about_12 (by decide) (fun c1 => ?_) (fun c1 => ?_)
  · refine jr_aload_n d_Mo_about_25 rfl ?_
    refine jr_iconst ((nI (1))) d_Mo_about_26 (by decide) ?_
    refine jr_callV (As := [.int (nI 1)]) d_Mo_about_27 k_Mo_about_118 (jl_ss hO) rfl rfl rfl (Nat.le_of_ble_eq_true rfl) (by decide) (by decide) (mo_fail hl (jl_ss hO) (MoW.sx hw (Or.inl (by decide)))) ?_
    show jl_W l G m_Mo_about (0, 0) 30 [some (.ref 22), some (.int (k)), some (.int (w))] [.int (nI 0)] ((σ.set (22) (.inr (7, [.int (nI 0), .ref 23, .ref 24, .ref 25, .ref 26, .ref 27, .ref 28, .ref 29, .ref 30, .ref 31, .ref 32, .ref 33, .ref 34, .ref 35, .ref 36, .ref 37, .int (vf), .int (wh), .int (wy), .ref 38, .ref 39, .ref 40, .ref 41, .int (hg), .ref 42, .ref 43, .ref 44, .ref 45, .ref 46, .ref 47, .ref 48, .ref 49, .int (dp), .ref 50, .ref 51, .ref 52, .int (md), .int (ov), .int (oh), .int (dn), .int (an)]))).set (22) (.inr (7, [.int (nI 1), .ref 23, .ref 24, .ref 25, .ref 26, .ref 27, .ref 28, .ref 29, .ref 30, .ref 31, .ref 32, .ref 33, .ref 34, .ref 35, .ref 36, .ref 37, .int (vf), .int (wh), .int (wy), .ref 38, .ref 39, .ref 40, .ref 41, .int (hg), .ref 42, .ref 43, .ref 44, .ref 45, .ref 46, .ref 47, .ref 48, .ref 49, .int (dp), .ref 50, .ref 51, .ref 52, .int (md), .int (ov), .int (oh), .int (dn), .int (an)]))) (.inl (some (.int (nI 0)))) (σ.set 22 (.inr (7, MoF (nI 1) vf wh wy hg dp md ov oh dn an)))
    exact jr_iretE d_Mo_about_30 rfl (rfl) ((List.set_set ..).symm) (by decide) (by decide)
  · refine jr_aload_n d_Mo_about_15 rfl ?_
    refine jr_iload_n d_Mo_about_16 rfl ?_
    refine jr_bipush ((nI (7))) d_Mo_about_17 (by decide) ?_
    refine jr_callV (As := [.int (w), .int (nI 7)]) d_Mo_about_19 k_Mo_about_114 (jl_ss hO) rfl rfl rfl (Nat.le_of_ble_eq_true rfl) (by decide) (by decide) (mo_out hl (jl_ss hO) (MoW.sx hw (Or.inl (by decide)))) ?_
    show jl_W l G m_Mo_about (0, 0) 22 [some (.ref 22), some (.int (k)), some (.int (w))] [.int (bi (outB (w) (nI 7)))] (σ.set (22) (.inr (7, [.int (nI 0), .ref 23, .ref 24, .ref 25, .ref 26, .ref 27, .ref 28, .ref 29, .ref 30, .ref 31, .ref 32, .ref 33, .ref 34, .ref 35, .ref 36, .ref 37, .int (vf), .int (wh), .int (wy), .ref 38, .ref 39, .ref 40, .ref 41, .int (hg), .ref 42, .ref 43, .ref 44, .ref 45, .ref 46, .ref 47, .ref 48, .ref 49, .int (dp), .ref 50, .ref 51, .ref 52, .int (md), .int (ov), .int (oh), .int (dn), .int (an)]))) (.inl (some (.int (nI 0)))) (σ.set 22 (.inr (7, MoF (nI 1) vf wh wy hg dp md ov oh dn an)))
    refine jr_if_eq 31 d_Mo_about_22 (by decide) (fun c2 => ?_) (fun c2 => ?_)
    · exact False.elim (h.elim (fun q => by rw [bi_0.mp c1] at q; cases q) (fun q => by rw [bi_0.mp c2] at q; cases q))
    · refine jr_aload_n d_Mo_about_25 rfl ?_
      refine jr_iconst ((nI (1))) d_Mo_about_26 (by decide) ?_
      refine jr_callV (As := [.int (nI 1)]) d_Mo_about_27 k_Mo_about_118 (jl_ss hO) rfl rfl rfl (Nat.le_of_ble_eq_true rfl) (by decide) (by decide) (mo_fail hl (jl_ss hO) (MoW.sx hw (Or.inl (by decide)))) ?_
      show jl_W l G m_Mo_about (0, 0) 30 [some (.ref 22), some (.int (k)), some (.int (w))] [.int (nI 0)] ((σ.set (22) (.inr (7, [.int (nI 0), .ref 23, .ref 24, .ref 25, .ref 26, .ref 27, .ref 28, .ref 29, .ref 30, .ref 31, .ref 32, .ref 33, .ref 34, .ref 35, .ref 36, .ref 37, .int (vf), .int (wh), .int (wy), .ref 38, .ref 39, .ref 40, .ref 41, .int (hg), .ref 42, .ref 43, .ref 44, .ref 45, .ref 46, .ref 47, .ref 48, .ref 49, .int (dp), .ref 50, .ref 51, .ref 52, .int (md), .int (ov), .int (oh), .int (dn), .int (an)]))).set (22) (.inr (7, [.int (nI 1), .ref 23, .ref 24, .ref 25, .ref 26, .ref 27, .ref 28, .ref 29, .ref 30, .ref 31, .ref 32, .ref 33, .ref 34, .ref 35, .ref 36, .ref 37, .int (vf), .int (wh), .int (wy), .ref 38, .ref 39, .ref 40, .ref 41, .int (hg), .ref 42, .ref 43, .ref 44, .ref 45, .ref 46, .ref 47, .ref 48, .ref 49, .int (dp), .ref 50, .ref 51, .ref 52, .int (md), .int (ov), .int (oh), .int (dn), .int (an)]))) (.inl (some (.int (nI 0)))) (σ.set 22 (.inr (7, MoF (nI 1) vf wh wy hg dp md ov oh dn an)))
      exact jr_iretE d_Mo_about_30 rfl (rfl) ((List.set_set ..).symm) (by decide) (by decide)
theorem d_Mo_about_31 : decode m_Mo_about.2.1 31 = .ok (.iload_n 2, 1) := by decide +kernel
theorem d_Mo_about_32 : decode m_Mo_about.2.1 32 = .ok (.ifCond .ne 18, 3) := by decide +kernel
theorem d_Mo_about_35 : decode m_Mo_about.2.1 35 = .ok (.aload_n 0, 1) := by decide +kernel
theorem f_Mo_about_7 : jl_fd m_Mo_about 7 7 1 = true := by decide +kernel
theorem d_Mo_about_36 : decode m_Mo_about.2.1 36 = .ok (.getfield 7, 3) := by decide +kernel
theorem d_Mo_about_39 : decode m_Mo_about.2.1 39 = .ok (.iload_n 1, 1) := by decide +kernel
theorem d_Mo_about_40 : decode m_Mo_about.2.1 40 = .ok (.baload, 1) := by decide +kernel
theorem d_Mo_about_41 : decode m_Mo_about.2.1 41 = .ok (.ifCond .eq 7, 3) := by decide +kernel
theorem d_Mo_about_48 : decode m_Mo_about.2.1 48 = .ok (.iconst 0, 1) := by decide +kernel
theorem d_Mo_about_49 : decode m_Mo_about.2.1 49 = .ok (.ireturn, 1) := by decide +kernel
theorem d_Mo_about_44 : decode m_Mo_about.2.1 44 = .ok (.iconst 1, 1) := by decide +kernel
theorem d_Mo_about_45 : decode m_Mo_about.2.1 45 = .ok (.goto 4, 3) := by decide +kernel
theorem mo_about_0 (hl : l.stackTraces = false) {k : Nat} (hO : MoO σ fa vf wh wy hg dp md ov oh dn an) (hw : MoW σ tb pr ow ft hs) (hu : MoM σ u1 u2 ur ul uo ua uc us ut uk) (hk : k < 6) : jl_m l G m_Mo_about [.ref 22, .int (nI k), .int (nI 0)] σ (.inl (some (.int (bi (tb k))))) (σ.set 22 (.inr (7, MoF (nI 0) vf wh wy hg dp md ov oh dn an))) := by
  obtain ⟨h23, h24, h25, h26, h27⟩ := id hw; obtain ⟨h28, h29, h30, h31, h32, h33, h34, h35, h36, h37⟩ := id hu
  refine jl_of (as := [.ref 22, .int (nI k), .int (nI 0)]) rfl (by decide) hl (jl_cc rfl (jl_cc rfl (jl_cc rfl jl_ca))) (Nat.le_of_ble_eq_true rfl) ?_
  show jl_W l G m_Mo_about (0, 0) 0 [some (.ref 22), some (.int (nI k)), some (.int (nI 0))] [] (σ) (.inl (some (.int (bi (tb k))))) (σ.set 22 (.inr (7, MoF (nI 0) vf wh wy hg dp md ov oh dn an)))
  refine jr_aload_n d_Mo_about_0 rfl ?_
  refine jr_iconst ((nI (0))) d_Mo_about_1 (by decide) ?_
  refine jr_putf d_Mo_about_2 p_Mo_about_111 hO (Nat.le_of_ble_eq_true rfl) jl_fit_int ?_
  show jl_W l G m_Mo_about (0, 0) 5 [some (.ref 22), some (.int (nI k)), some (.int (nI 0))] [] (σ.set (22) (.inr (7, [.int (nI 0), .ref 23, .ref 24, .ref 25, .ref 26, .ref 27, .ref 28, .ref 29, .ref 30, .ref 31, .ref 32, .ref 33, .ref 34, .ref 35, .ref 36, .ref 37, .int (vf), .int (wh), .int (wy), .ref 38, .ref 39, .ref 40, .ref 41, .int (hg), .ref 42, .ref 43, .ref 44, .ref 45, .ref 46, .ref 47, .ref 48, .ref 49, .int (dp), .ref 50, .ref 51, .ref 52, .int (md), .int (ov), .int (oh), .int (dn), .int (an)]))) (.inl (some (.int (bi (tb k))))) (σ.set 22 (.inr (7, MoF (nI 0) vf wh wy hg dp md ov oh dn an)))
  refine jr_aload_n d_Mo_about_5 rfl ?_
  refine jr_iload_n d_Mo_about_6 rfl ?_
  refine jr_bipush ((nI (6))) d_Mo_about_7 (by decide) ?_
  refine jr_callV (As := [.int (nI k), .int (nI 6)]) d_Mo_about_9 k_Mo_about_114 (jl_ss hO) rfl rfl rfl (Nat.le_of_ble_eq_true rfl) (by decide) (by decide) (mo_outN hl (jl_ss hO) (MoW.sx hw (Or.inl (by decide))) (by decide) (by omega)) ?_
  show jl_W l G m_Mo_about (0, 0) 12 [some (.ref 22), some (.int (nI k)), some (.int (nI 0))] [.int (nI 0)] (σ.set (22) (.inr (7, [.int (nI 0), .ref 23, .ref 24, .ref 25, .ref 26, .ref 27, .ref 28, .ref 29, .ref 30, .ref 31, .ref 32, .ref 33, .ref 34, .ref 35, .ref 36, .ref 37, .int (vf), .int (wh), .int (wy), .ref 38, .ref 39, .ref 40, .ref 41, .int (hg), .ref 42, .ref 43, .ref 44, .ref 45, .ref 46, .ref 47, .ref 48, .ref 49, .int (dp), .ref 50, .ref 51, .ref 52, .int (md), .int (ov), .int (oh), .int (dn), .int (an)]))) (.inl (some (.int (bi (tb k))))) (σ.set 22 (.inr (7, MoF (nI 0) vf wh wy hg dp md ov oh dn an)))
  refine jr_if_ne 25 d_Mo_about_12 (by decide) (fun z => absurd rfl z) (fun _ => ?_)
  refine jr_aload_n d_Mo_about_15 rfl ?_
  refine jr_iload_n d_Mo_about_16 rfl ?_
  refine jr_bipush ((nI (7))) d_Mo_about_17 (by decide) ?_
  refine jr_callV (As := [.int (nI 0), .int (nI 7)]) d_Mo_about_19 k_Mo_about_114 (jl_ss hO) rfl rfl rfl (Nat.le_of_ble_eq_true rfl) (by decide) (by decide) (mo_outN hl (jl_ss hO) (MoW.sx hw (Or.inl (by decide))) (by decide) (by omega)) ?_
  show jl_W l G m_Mo_about (0, 0) 22 [some (.ref 22), some (.int (nI k)), some (.int (nI 0))] [.int (nI 0)] (σ.set (22) (.inr (7, [.int (nI 0), .ref 23, .ref 24, .ref 25, .ref 26, .ref 27, .ref 28, .ref 29, .ref 30, .ref 31, .ref 32, .ref 33, .ref 34, .ref 35, .ref 36, .ref 37, .int (vf), .int (wh), .int (wy), .ref 38, .ref 39, .ref 40, .ref 41, .int (hg), .ref 42, .ref 43, .ref 44, .ref 45, .ref 46, .ref 47, .ref 48, .ref 49, .int (dp), .ref 50, .ref 51, .ref 52, .int (md), .int (ov), .int (oh), .int (dn), .int (an)]))) (.inl (some (.int (bi (tb k))))) (σ.set 22 (.inr (7, MoF (nI 0) vf wh wy hg dp md ov oh dn an)))
  refine jr_if_eq 31 d_Mo_about_22 (by decide) (fun _ => ?_) (fun z => absurd (by decide) z)
  refine jr_iload_n d_Mo_about_31 rfl ?_
  refine jr_if_ne 50 d_Mo_about_32 (by decide) (fun z => absurd rfl z) (fun _ => ?_)
  refine jr_aload_n d_Mo_about_35 rfl ?_
  refine jr_getf d_Mo_about_36 f_Mo_about_7 (jl_ss hO) rfl ?_
  refine jr_iload_n d_Mo_about_39 rfl ?_
  refine jr_baldN d_Mo_about_40 (jl_sn (by decide) h23) (by omega) (by omega) ?_
  refine jr_if_eq 48 d_Mo_about_41 (by decide) (fun c1 => ?_) (fun c1 => ?_)
  · refine jr_iconst ((nI (0))) d_Mo_about_48 (by decide) ?_
    exact jr_iretE d_Mo_about_49 rfl (by rw [bi_0.mp c1]; rfl) (rfl) (by decide) (by decide)
  · refine jr_iconst ((nI (1))) d_Mo_about_44 (by decide) ?_
    refine jr_goto 49 d_Mo_about_45 (by decide) ?_
    exact jr_iretE d_Mo_about_49 rfl (by rw [bi_nf c1]; rfl) (rfl) (by decide) (by decide)
theorem d_Mo_about_50 : decode m_Mo_about.2.1 50 = .ok (.aload_n 0, 1) := by decide +kernel
theorem d_Mo_about_51 : decode m_Mo_about.2.1 51 = .ok (.getfield 7, 3) := by decide +kernel
theorem d_Mo_about_54 : decode m_Mo_about.2.1 54 = .ok (.iload_n 1, 1) := by decide +kernel
theorem d_Mo_about_55 : decode m_Mo_about.2.1 55 = .ok (.baload, 1) := by decide +kernel
theorem d_Mo_about_56 : decode m_Mo_about.2.1 56 = .ok (.ifCond .ne 5, 3) := by decide +kernel
theorem d_Mo_about_59 : decode m_Mo_about.2.1 59 = .ok (.iconst (-1), 1) := by decide +kernel
theorem d_Mo_about_60 : decode m_Mo_about.2.1 60 = .ok (.ireturn, 1) := by decide +kernel
theorem mo_about_F (hl : l.stackTraces = false) {k w : Nat} (hO : MoO σ fa vf wh wy hg dp md ov oh dn an) (hw : MoW σ tb pr ow ft hs) (hu : MoM σ u1 u2 ur ul uo ua uc us ut uk) (hk : k < 6) (hw6 : w < 6) (ht : tb k = false) : jl_m l G m_Mo_about [.ref 22, .int (nI k), .int (nI (w + 1))] σ (.inl (some (.int (-1)))) (σ.set 22 (.inr (7, MoF (nI 0) vf wh wy hg dp md ov oh dn an))) := by
  obtain ⟨h23, h24, h25, h26, h27⟩ := id hw; obtain ⟨h28, h29, h30, h31, h32, h33, h34, h35, h36, h37⟩ := id hu
  refine jl_of (as := [.ref 22, .int (nI k), .int (nI (w + 1))]) rfl (by decide) hl (jl_cc rfl (jl_cc rfl (jl_cc rfl jl_ca))) (Nat.le_of_ble_eq_true rfl) ?_
  show jl_W l G m_Mo_about (0, 0) 0 [some (.ref 22), some (.int (nI k)), some (.int (nI (w + 1)))] [] (σ) (.inl (some (.int (-1)))) (σ.set 22 (.inr (7, MoF (nI 0) vf wh wy hg dp md ov oh dn an)))
  refine jr_aload_n d_Mo_about_0 rfl ?_
  refine jr_iconst ((nI (0))) d_Mo_about_1 (by decide) ?_
  refine jr_putf d_Mo_about_2 p_Mo_about_111 hO (Nat.le_of_ble_eq_true rfl) jl_fit_int ?_
  show jl_W l G m_Mo_about (0, 0) 5 [some (.ref 22), some (.int (nI k)), some (.int (nI (w + 1)))] [] (σ.set (22) (.inr (7, [.int (nI 0), .ref 23, .ref 24, .ref 25, .ref 26, .ref 27, .ref 28, .ref 29, .ref 30, .ref 31, .ref 32, .ref 33, .ref 34, .ref 35, .ref 36, .ref 37, .int (vf), .int (wh), .int (wy), .ref 38, .ref 39, .ref 40, .ref 41, .int (hg), .ref 42, .ref 43, .ref 44, .ref 45, .ref 46, .ref 47, .ref 48, .ref 49, .int (dp), .ref 50, .ref 51, .ref 52, .int (md), .int (ov), .int (oh), .int (dn), .int (an)]))) (.inl (some (.int (-1)))) (σ.set 22 (.inr (7, MoF (nI 0) vf wh wy hg dp md ov oh dn an)))
  refine jr_aload_n d_Mo_about_5 rfl ?_
  refine jr_iload_n d_Mo_about_6 rfl ?_
  refine jr_bipush ((nI (6))) d_Mo_about_7 (by decide) ?_
  refine jr_callV (As := [.int (nI k), .int (nI 6)]) d_Mo_about_9 k_Mo_about_114 (jl_ss hO) rfl rfl rfl (Nat.le_of_ble_eq_true rfl) (by decide) (by decide) (mo_outN hl (jl_ss hO) (MoW.sx hw (Or.inl (by decide))) (by decide) (by omega)) ?_
  show jl_W l G m_Mo_about (0, 0) 12 [some (.ref 22), some (.int (nI k)), some (.int (nI (w + 1)))] [.int (nI 0)] (σ.set (22) (.inr (7, [.int (nI 0), .ref 23, .ref 24, .ref 25, .ref 26, .ref 27, .ref 28, .ref 29, .ref 30, .ref 31, .ref 32, .ref 33, .ref 34, .ref 35, .ref 36, .ref 37, .int (vf), .int (wh), .int (wy), .ref 38, .ref 39, .ref 40, .ref 41, .int (hg), .ref 42, .ref 43, .ref 44, .ref 45, .ref 46, .ref 47, .ref 48, .ref 49, .int (dp), .ref 50, .ref 51, .ref 52, .int (md), .int (ov), .int (oh), .int (dn), .int (an)]))) (.inl (some (.int (-1)))) (σ.set 22 (.inr (7, MoF (nI 0) vf wh wy hg dp md ov oh dn an)))
  refine jr_if_ne 25 d_Mo_about_12 (by decide) (fun z => absurd rfl z) (fun _ => ?_)
  refine jr_aload_n d_Mo_about_15 rfl ?_
  refine jr_iload_n d_Mo_about_16 rfl ?_
  refine jr_bipush ((nI (7))) d_Mo_about_17 (by decide) ?_
  refine jr_callV (As := [.int (nI (w + 1)), .int (nI 7)]) d_Mo_about_19 k_Mo_about_114 (jl_ss hO) rfl rfl rfl (Nat.le_of_ble_eq_true rfl) (by decide) (by decide) (mo_outN hl (jl_ss hO) (MoW.sx hw (Or.inl (by decide))) (by decide) (by omega)) ?_
  show jl_W l G m_Mo_about (0, 0) 22 [some (.ref 22), some (.int (nI k)), some (.int (nI (w + 1)))] [.int (nI 0)] (σ.set (22) (.inr (7, [.int (nI 0), .ref 23, .ref 24, .ref 25, .ref 26, .ref 27, .ref 28, .ref 29, .ref 30, .ref 31, .ref 32, .ref 33, .ref 34, .ref 35, .ref 36, .ref 37, .int (vf), .int (wh), .int (wy), .ref 38, .ref 39, .ref 40, .ref 41, .int (hg), .ref 42, .ref 43, .ref 44, .ref 45, .ref 46, .ref 47, .ref 48, .ref 49, .int (dp), .ref 50, .ref 51, .ref 52, .int (md), .int (ov), .int (oh), .int (dn), .int (an)]))) (.inl (some (.int (-1)))) (σ.set 22 (.inr (7, MoF (nI 0) vf wh wy hg dp md ov oh dn an)))
  refine jr_if_eq 31 d_Mo_about_22 (by decide) (fun _ => ?_) (fun z => absurd (by decide) z)
  refine jr_iload_n d_Mo_about_31 rfl ?_
  refine jr_if_neN 50 d_Mo_about_32 (by decide) (by omega) (fun c1 => ?_) (fun c1 => ?_)
  · refine jr_aload_n d_Mo_about_50 rfl ?_
    refine jr_getf d_Mo_about_51 f_Mo_about_7 (jl_ss hO) rfl ?_
    refine jr_iload_n d_Mo_about_54 rfl ?_
    refine jr_baldN d_Mo_about_55 (jl_sn (by decide) h23) (by omega) (by omega) ?_
    refine jr_if_ne 61 d_Mo_about_56 (by decide) (fun c2 => ?_) (fun c2 => ?_)
    · exact absurd ht (by rw [bi_nf c2]; decide)
    · refine jr_iconst ((-1)) d_Mo_about_59 (by decide) ?_
      exact jr_iretE d_Mo_about_60 rfl (rfl) (rfl) (by decide) (by decide)
  · exfalso; omega
theorem d_Mo_about_61 : decode m_Mo_about.2.1 61 = .ok (.iload_n 2, 1) := by decide +kernel
theorem d_Mo_about_62 : decode m_Mo_about.2.1 62 = .ok (.iconst 1, 1) := by decide +kernel
theorem d_Mo_about_63 : decode m_Mo_about.2.1 63 = .ok (.if_icmp .ne 10, 3) := by decide +kernel
theorem d_Mo_about_66 : decode m_Mo_about.2.1 66 = .ok (.aload_n 0, 1) := by decide +kernel
theorem f_Mo_about_13 : jl_fd m_Mo_about 13 7 2 = true := by decide +kernel
theorem d_Mo_about_67 : decode m_Mo_about.2.1 67 = .ok (.getfield 13, 3) := by decide +kernel
theorem d_Mo_about_70 : decode m_Mo_about.2.1 70 = .ok (.iload_n 1, 1) := by decide +kernel
theorem d_Mo_about_71 : decode m_Mo_about.2.1 71 = .ok (.iaload, 1) := by decide +kernel
theorem d_Mo_about_72 : decode m_Mo_about.2.1 72 = .ok (.ireturn, 1) := by decide +kernel
theorem mo_about_1 (hl : l.stackTraces = false) {k : Nat} (hO : MoO σ fa vf wh wy hg dp md ov oh dn an) (hw : MoW σ tb pr ow ft hs) (hu : MoM σ u1 u2 ur ul uo ua uc us ut uk) (hk : k < 6) (ht : tb k = true) : jl_m l G m_Mo_about [.ref 22, .int (nI k), .int (nI 1)] σ (.inl (some (.int (en (pr k))))) (σ.set 22 (.inr (7, MoF (nI 0) vf wh wy hg dp md ov oh dn an))) := by
  obtain ⟨h23, h24, h25, h26, h27⟩ := id hw; obtain ⟨h28, h29, h30, h31, h32, h33, h34, h35, h36, h37⟩ := id hu
  refine jl_of (as := [.ref 22, .int (nI k), .int (nI 1)]) rfl (by decide) hl (jl_cc rfl (jl_cc rfl (jl_cc rfl jl_ca))) (Nat.le_of_ble_eq_true rfl) ?_
  show jl_W l G m_Mo_about (0, 0) 0 [some (.ref 22), some (.int (nI k)), some (.int (nI 1))] [] (σ) (.inl (some (.int (en (pr k))))) (σ.set 22 (.inr (7, MoF (nI 0) vf wh wy hg dp md ov oh dn an)))
  refine jr_aload_n d_Mo_about_0 rfl ?_
  refine jr_iconst ((nI (0))) d_Mo_about_1 (by decide) ?_
  refine jr_putf d_Mo_about_2 p_Mo_about_111 hO (Nat.le_of_ble_eq_true rfl) jl_fit_int ?_
  show jl_W l G m_Mo_about (0, 0) 5 [some (.ref 22), some (.int (nI k)), some (.int (nI 1))] [] (σ.set (22) (.inr (7, [.int (nI 0), .ref 23, .ref 24, .ref 25, .ref 26, .ref 27, .ref 28, .ref 29, .ref 30, .ref 31, .ref 32, .ref 33, .ref 34, .ref 35, .ref 36, .ref 37, .int (vf), .int (wh), .int (wy), .ref 38, .ref 39, .ref 40, .ref 41, .int (hg), .ref 42, .ref 43, .ref 44, .ref 45, .ref 46, .ref 47, .ref 48, .ref 49, .int (dp), .ref 50, .ref 51, .ref 52, .int (md), .int (ov), .int (oh), .int (dn), .int (an)]))) (.inl (some (.int (en (pr k))))) (σ.set 22 (.inr (7, MoF (nI 0) vf wh wy hg dp md ov oh dn an)))
  refine jr_aload_n d_Mo_about_5 rfl ?_
  refine jr_iload_n d_Mo_about_6 rfl ?_
  refine jr_bipush ((nI (6))) d_Mo_about_7 (by decide) ?_
  refine jr_callV (As := [.int (nI k), .int (nI 6)]) d_Mo_about_9 k_Mo_about_114 (jl_ss hO) rfl rfl rfl (Nat.le_of_ble_eq_true rfl) (by decide) (by decide) (mo_outN hl (jl_ss hO) (MoW.sx hw (Or.inl (by decide))) (by decide) (by omega)) ?_
  show jl_W l G m_Mo_about (0, 0) 12 [some (.ref 22), some (.int (nI k)), some (.int (nI 1))] [.int (nI 0)] (σ.set (22) (.inr (7, [.int (nI 0), .ref 23, .ref 24, .ref 25, .ref 26, .ref 27, .ref 28, .ref 29, .ref 30, .ref 31, .ref 32, .ref 33, .ref 34, .ref 35, .ref 36, .ref 37, .int (vf), .int (wh), .int (wy), .ref 38, .ref 39, .ref 40, .ref 41, .int (hg), .ref 42, .ref 43, .ref 44, .ref 45, .ref 46, .ref 47, .ref 48, .ref 49, .int (dp), .ref 50, .ref 51, .ref 52, .int (md), .int (ov), .int (oh), .int (dn), .int (an)]))) (.inl (some (.int (en (pr k))))) (σ.set 22 (.inr (7, MoF (nI 0) vf wh wy hg dp md ov oh dn an)))
  refine jr_if_ne 25 d_Mo_about_12 (by decide) (fun z => absurd rfl z) (fun _ => ?_)
  refine jr_aload_n d_Mo_about_15 rfl ?_
  refine jr_iload_n d_Mo_about_16 rfl ?_
  refine jr_bipush ((nI (7))) d_Mo_about_17 (by decide) ?_
  refine jr_callV (As := [.int (nI 1), .int (nI 7)]) d_Mo_about_19 k_Mo_about_114 (jl_ss hO) rfl rfl rfl (Nat.le_of_ble_eq_true rfl) (by decide) (by decide) (mo_outN hl (jl_ss hO) (MoW.sx hw (Or.inl (by decide))) (by decide) (by omega)) ?_
  show jl_W l G m_Mo_about (0, 0) 22 [some (.ref 22), some (.int (nI k)), some (.int (nI 1))] [.int (nI 0)] (σ.set (22) (.inr (7, [.int (nI 0), .ref 23, .ref 24, .ref 25, .ref 26, .ref 27, .ref 28, .ref 29, .ref 30, .ref 31, .ref 32, .ref 33, .ref 34, .ref 35, .ref 36, .ref 37, .int (vf), .int (wh), .int (wy), .ref 38, .ref 39, .ref 40, .ref 41, .int (hg), .ref 42, .ref 43, .ref 44, .ref 45, .ref 46, .ref 47, .ref 48, .ref 49, .int (dp), .ref 50, .ref 51, .ref 52, .int (md), .int (ov), .int (oh), .int (dn), .int (an)]))) (.inl (some (.int (en (pr k))))) (σ.set 22 (.inr (7, MoF (nI 0) vf wh wy hg dp md ov oh dn an)))
  refine jr_if_eq 31 d_Mo_about_22 (by decide) (fun _ => ?_) (fun z => absurd (by decide) z)
  refine jr_iload_n d_Mo_about_31 rfl ?_
  refine jr_if_ne 50 d_Mo_about_32 (by decide) (fun _ => ?_) (fun z => absurd z (by decide))
  refine jr_aload_n d_Mo_about_50 rfl ?_
  refine jr_getf d_Mo_about_51 f_Mo_about_7 (jl_ss hO) rfl ?_
  refine jr_iload_n d_Mo_about_54 rfl ?_
  refine jr_baldN d_Mo_about_55 (jl_sn (by decide) h23) (by omega) (by omega) ?_
  refine jr_if_ne 61 d_Mo_about_56 (by decide) (fun c1 => ?_) (fun c1 => ?_)
  · refine jr_iload_n d_Mo_about_61 rfl ?_
    refine jr_iconst ((nI (1))) d_Mo_about_62 (by decide) ?_
    refine jr_icmp_ne 73 d_Mo_about_63 (by decide) (fun z => absurd rfl z) (fun _ => ?_)
    refine jr_aload_n d_Mo_about_66 rfl ?_
    refine jr_getf d_Mo_about_67 f_Mo_about_13 (jl_ss hO) rfl ?_
    refine jr_iload_n d_Mo_about_70 rfl ?_
    refine jr_ialdN d_Mo_about_71 (jl_sn (by decide) h24) (by omega) (by omega) ?_
    exact jr_iretE d_Mo_about_72 rfl (rfl) (rfl) (by decide) (by decide)
  · exact absurd ht (by rw [bi_0.mp c1]; decide)
theorem d_Mo_about_73 : decode m_Mo_about.2.1 73 = .ok (.iload_n 2, 1) := by decide +kernel
theorem d_Mo_about_74 : decode m_Mo_about.2.1 74 = .ok (.iconst 2, 1) := by decide +kernel
theorem d_Mo_about_75 : decode m_Mo_about.2.1 75 = .ok (.if_icmp .ne 9, 3) := by decide +kernel
theorem d_Mo_about_78 : decode m_Mo_about.2.1 78 = .ok (.aload_n 0, 1) := by decide +kernel
theorem d_Mo_about_79 : decode m_Mo_about.2.1 79 = .ok (.iload_n 1, 1) := by decide +kernel
theorem k_Mo_about_126 : jl_cv m_Mo_about m_Mo_fieldsOf 126 1 = true := by decide +kernel
theorem d_Mo_about_80 : decode m_Mo_about.2.1 80 = .ok (.invokevirtual 126, 3) := by decide +kernel
theorem d_Mo_about_83 : decode m_Mo_about.2.1 83 = .ok (.ireturn, 1) := by decide +kernel
theorem mo_about_2 (hl : l.stackTraces = false) {k : Nat} (hO : MoO σ fa vf wh wy hg dp md ov oh dn an) (hw : MoW σ tb pr ow ft hs) (hu : MoM σ u1 u2 ur ul uo ua uc us ut uk) (hk : k < 6) (ht : tb k = true) (hok : WoOk tb pr ow fi) : jl_m l G m_Mo_about [.ref 22, .int (nI k), .int (nI 2)] σ (.inl (some (.int (nI (fi k + ow k))))) (σ.set 22 (.inr (7, MoF (nI 0) vf wh wy hg dp md ov oh dn an))) := by
  obtain ⟨h23, h24, h25, h26, h27⟩ := id hw; obtain ⟨h28, h29, h30, h31, h32, h33, h34, h35, h36, h37⟩ := id hu
  refine jl_of (as := [.ref 22, .int (nI k), .int (nI 2)]) rfl (by decide) hl (jl_cc rfl (jl_cc rfl (jl_cc rfl jl_ca))) (Nat.le_of_ble_eq_true rfl) ?_
  show jl_W l G m_Mo_about (0, 0) 0 [some (.ref 22), some (.int (nI k)), some (.int (nI 2))] [] (σ) (.inl (some (.int (nI (fi k + ow k))))) (σ.set 22 (.inr (7, MoF (nI 0) vf wh wy hg dp md ov oh dn an)))
  refine jr_aload_n d_Mo_about_0 rfl ?_
  refine jr_iconst ((nI (0))) d_Mo_about_1 (by decide) ?_
  refine jr_putf d_Mo_about_2 p_Mo_about_111 hO (Nat.le_of_ble_eq_true rfl) jl_fit_int ?_
  show jl_W l G m_Mo_about (0, 0) 5 [some (.ref 22), some (.int (nI k)), some (.int (nI 2))] [] (σ.set (22) (.inr (7, [.int (nI 0), .ref 23, .ref 24, .ref 25, .ref 26, .ref 27, .ref 28, .ref 29, .ref 30, .ref 31, .ref 32, .ref 33, .ref 34, .ref 35, .ref 36, .ref 37, .int (vf), .int (wh), .int (wy), .ref 38, .ref 39, .ref 40, .ref 41, .int (hg), .ref 42, .ref 43, .ref 44, .ref 45, .ref 46, .ref 47, .ref 48, .ref 49, .int (dp), .ref 50, .ref 51, .ref 52, .int (md), .int (ov), .int (oh), .int (dn), .int (an)]))) (.inl (some (.int (nI (fi k + ow k))))) (σ.set 22 (.inr (7, MoF (nI 0) vf wh wy hg dp md ov oh dn an)))
  refine jr_aload_n d_Mo_about_5 rfl ?_
  refine jr_iload_n d_Mo_about_6 rfl ?_
  refine jr_bipush ((nI (6))) d_Mo_about_7 (by decide) ?_
  refine jr_callV (As := [.int (nI k), .int (nI 6)]) d_Mo_about_9 k_Mo_about_114 (jl_ss hO) rfl rfl rfl (Nat.le_of_ble_eq_true rfl) (by decide) (by decide) (mo_outN hl (jl_ss hO) (MoW.sx hw (Or.inl (by decide))) (by decide) (by omega)) ?_
  show jl_W l G m_Mo_about (0, 0) 12 [some (.ref 22), some (.int (nI k)), some (.int (nI 2))] [.int (nI 0)] (σ.set (22) (.inr (7, [.int (nI 0), .ref 23, .ref 24, .ref 25, .ref 26, .ref 27, .ref 28, .ref 29, .ref 30, .ref 31, .ref 32, .ref 33, .ref 34, .ref 35, .ref 36, .ref 37, .int (vf), .int (wh), .int (wy), .ref 38, .ref 39, .ref 40, .ref 41, .int (hg), .ref 42, .ref 43, .ref 44, .ref 45, .ref 46, .ref 47, .ref 48, .ref 49, .int (dp), .ref 50, .ref 51, .ref 52, .int (md), .int (ov), .int (oh), .int (dn), .int (an)]))) (.inl (some (.int (nI (fi k + ow k))))) (σ.set 22 (.inr (7, MoF (nI 0) vf wh wy hg dp md ov oh dn an)))
  refine jr_if_ne 25 d_Mo_about_12 (by decide) (fun z => absurd rfl z) (fun _ => ?_)
  refine jr_aload_n d_Mo_about_15 rfl ?_
  refine jr_iload_n d_Mo_about_16 rfl ?_
  refine jr_bipush ((nI (7))) d_Mo_about_17 (by decide) ?_
  refine jr_callV (As := [.int (nI 2), .int (nI 7)]) d_Mo_about_19 k_Mo_about_114 (jl_ss hO) rfl rfl rfl (Nat.le_of_ble_eq_true rfl) (by decide) (by decide) (mo_outN hl (jl_ss hO) (MoW.sx hw (Or.inl (by decide))) (by decide) (by omega)) ?_
  show jl_W l G m_Mo_about (0, 0) 22 [some (.ref 22), some (.int (nI k)), some (.int (nI 2))] [.int (nI 0)] (σ.set (22) (.inr (7, [.int (nI 0), .ref 23, .ref 24, .ref 25, .ref 26, .ref 27, .ref 28, .ref 29, .ref 30, .ref 31, .ref 32, .ref 33, .ref 34, .ref 35, .ref 36, .ref 37, .int (vf), .int (wh), .int (wy), .ref 38, .ref 39, .ref 40, .ref 41, .int (hg), .ref 42, .ref 43, .ref 44, .ref 45, .ref 46, .ref 47, .ref 48, .ref 49, .int (dp), .ref 50, .ref 51, .ref 52, .int (md), .int (ov), .int (oh), .int (dn), .int (an)]))) (.inl (some (.int (nI (fi k + ow k))))) (σ.set 22 (.inr (7, MoF (nI 0) vf wh wy hg dp md ov oh dn an)))
  refine jr_if_eq 31 d_Mo_about_22 (by decide) (fun _ => ?_) (fun z => absurd (by decide) z)
  refine jr_iload_n d_Mo_about_31 rfl ?_
  refine jr_if_ne 50 d_Mo_about_32 (by decide) (fun _ => ?_) (fun z => absurd z (by decide))
  refine jr_aload_n d_Mo_about_50 rfl ?_
  refine jr_getf d_Mo_about_51 f_Mo_about_7 (jl_ss hO) rfl ?_
  refine jr_iload_n d_Mo_about_54 rfl ?_
  refine jr_baldN d_Mo_about_55 (jl_sn (by decide) h23) (by omega) (by omega) ?_
  refine jr_if_ne 61 d_Mo_about_56 (by decide) (fun c1 => ?_) (fun c1 => ?_)
  · refine jr_iload_n d_Mo_about_61 rfl ?_
    refine jr_iconst ((nI (1))) d_Mo_about_62 (by decide) ?_
    refine jr_icmp_ne 73 d_Mo_about_63 (by decide) (fun _ => ?_) (fun z => absurd z (by decide))
    refine jr_iload_n d_Mo_about_73 rfl ?_
    refine jr_iconst ((nI (2))) d_Mo_about_74 (by decide) ?_
    refine jr_icmp_ne 84 d_Mo_about_75 (by decide) (fun z => absurd rfl z) (fun _ => ?_)
    refine jr_aload_n d_Mo_about_78 rfl ?_
    refine jr_iload_n d_Mo_about_79 rfl ?_
    refine jr_callV (As := [.int (nI k)]) d_Mo_about_80 k_Mo_about_126 (jl_ss hO) rfl rfl rfl (Nat.le_of_ble_eq_true rfl) (by decide) (by decide) (mo_fields (x := some k) hl (jl_ss hO) (MoW.sx hw (Or.inl (by decide))) hok (fun z hz => by cases hz; exact hk)) ?_
    show jl_W l G m_Mo_about (0, 0) 83 [some (.ref 22), some (.int (nI k)), some (.int (nI 2))] [.int (nI (fi k + ow k))] (σ.set (22) (.inr (7, [.int (nI 0), .ref 23, .ref 24, .ref 25, .ref 26, .ref 27, .ref 28, .ref 29, .ref 30, .ref 31, .ref 32, .ref 33, .ref 34, .ref 35, .ref 36, .ref 37, .int (vf), .int (wh), .int (wy), .ref 38, .ref 39, .ref 40, .ref 41, .int (hg), .ref 42, .ref 43, .ref 44, .ref 45, .ref 46, .ref 47, .ref 48, .ref 49, .int (dp), .ref 50, .ref 51, .ref 52, .int (md), .int (ov), .int (oh), .int (dn), .int (an)]))) (.inl (some (.int (nI (fi k + ow k))))) (σ.set 22 (.inr (7, MoF (nI 0) vf wh wy hg dp md ov oh dn an)))
    exact jr_iretE d_Mo_about_83 rfl (rfl) (rfl) (by decide) (by decide)
  · exact absurd ht (by rw [bi_0.mp c1]; decide)
theorem d_Mo_about_84 : decode m_Mo_about.2.1 84 = .ok (.aload_n 0, 1) := by decide +kernel
theorem f_Mo_about_23 : jl_fd m_Mo_about 23 7 5 = true := by decide +kernel
theorem d_Mo_about_85 : decode m_Mo_about.2.1 85 = .ok (.getfield 23, 3) := by decide +kernel
theorem d_Mo_about_88 : decode m_Mo_about.2.1 88 = .ok (.iconst 4, 1) := by decide +kernel
theorem d_Mo_about_89 : decode m_Mo_about.2.1 89 = .ok (.iload_n 1, 1) := by decide +kernel
theorem d_Mo_about_90 : decode m_Mo_about.2.1 90 = .ok (.imul, 1) := by decide +kernel
theorem d_Mo_about_91 : decode m_Mo_about.2.1 91 = .ok (.iload_n 2, 1) := by decide +kernel
theorem d_Mo_about_92 : decode m_Mo_about.2.1 92 = .ok (.iadd, 1) := by decide +kernel
theorem d_Mo_about_93 : decode m_Mo_about.2.1 93 = .ok (.iconst 3, 1) := by decide +kernel
theorem d_Mo_about_94 : decode m_Mo_about.2.1 94 = .ok (.isub, 1) := by decide +kernel
theorem d_Mo_about_95 : decode m_Mo_about.2.1 95 = .ok (.baload, 1) := by decide +kernel
theorem d_Mo_about_96 : decode m_Mo_about.2.1 96 = .ok (.ifCond .eq 18, 3) := by decide +kernel
theorem d_Mo_about_114 : decode m_Mo_about.2.1 114 = .ok (.iconst (-1), 1) := by decide +kernel
theorem d_Mo_about_115 : decode m_Mo_about.2.1 115 = .ok (.ireturn, 1) := by decide +kernel
theorem mo_about_N (hl : l.stackTraces = false) {k w : Nat} (hO : MoO σ fa vf wh wy hg dp md ov oh dn an) (hw : MoW σ tb pr ow ft hs) (hu : MoM σ u1 u2 ur ul uo ua uc us ut uk) (hk : k < 6) (hw4 : w < 4) (ht : tb k = true) (hq : hs (4 * k + w) = false) : jl_m l G m_Mo_about [.ref 22, .int (nI k), .int (nI (w + 3))] σ (.inl (some (.int (-1)))) (σ.set 22 (.inr (7, MoF (nI 0) vf wh wy hg dp md ov oh dn an))) := by
  obtain ⟨h23, h24, h25, h26, h27⟩ := id hw; obtain ⟨h28, h29, h30, h31, h32, h33, h34, h35, h36, h37⟩ := id hu
  have ix : 4 * k + (w + 3) - 3 = 4 * k + w := by omega
  refine jl_of (as := [.ref 22, .int (nI k), .int (nI (w + 3))]) rfl (by decide) hl (jl_cc rfl (jl_cc rfl (jl_cc rfl jl_ca))) (Nat.le_of_ble_eq_true rfl) ?_
  show jl_W l G m_Mo_about (0, 0) 0 [some (.ref 22), some (.int (nI k)), some (.int (nI (w + 3)))] [] (σ) (.inl (some (.int (-1)))) (σ.set 22 (.inr (7, MoF (nI 0) vf wh wy hg dp md ov oh dn an)))
  refine jr_aload_n d_Mo_about_0 rfl ?_
  refine jr_iconst ((nI (0))) d_Mo_about_1 (by decide) ?_
  refine jr_putf d_Mo_about_2 p_Mo_about_111 hO (Nat.le_of_ble_eq_true rfl) jl_fit_int ?_
  show jl_W l G m_Mo_about (0, 0) 5 [some (.ref 22), some (.int (nI k)), some (.int (nI (w + 3)))] [] (σ.set (22) (.inr (7, [.int (nI 0), .ref 23, .ref 24, .ref 25, .ref 26, .ref 27, .ref 28, .ref 29, .ref 30, .ref 31, .ref 32, .ref 33, .ref 34, .ref 35, .ref 36, .ref 37, .int (vf), .int (wh), .int (wy), .ref 38, .ref 39, .ref 40, .ref 41, .int (hg), .ref 42, .ref 43, .ref 44, .ref 45, .ref 46, .ref 47, .ref 48, .ref 49, .int (dp), .ref 50, .ref 51, .ref 52, .int (md), .int (ov), .int (oh), .int (dn), .int (an)]))) (.inl (some (.int (-1)))) (σ.set 22 (.inr (7, MoF (nI 0) vf wh wy hg dp md ov oh dn an)))
  refine jr_aload_n d_Mo_about_5 rfl ?_
  refine jr_iload_n d_Mo_about_6 rfl ?_
  refine jr_bipush ((nI (6))) d_Mo_about_7 (by decide) ?_
  refine jr_callV (As := [.int (nI k), .int (nI 6)]) d_Mo_about_9 k_Mo_about_114 (jl_ss hO) rfl rfl rfl (Nat.le_of_ble_eq_true rfl) (by decide) (by decide) (mo_outN hl (jl_ss hO) (MoW.sx hw (Or.inl (by decide))) (by decide) (by omega)) ?_
  show jl_W l G m_Mo_about (0, 0) 12 [some (.ref 22), some (.int (nI k)), some (.int (nI (w + 3)))] [.int (nI 0)] (σ.set (22) (.inr (7, [.int (nI 0), .ref 23, .ref 24, .ref 25, .ref 26, .ref 27, .ref 28, .ref 29, .ref 30, .ref 31, .ref 32, .ref 33, .ref 34, .ref 35, .ref 36, .ref 37, .int (vf), .int (wh), .int (wy), .ref 38, .ref 39, .ref 40, .ref 41, .int (hg), .ref 42, .ref 43, .ref 44, .ref 45, .ref 46, .ref 47, .ref 48, .ref 49, .int (dp), .ref 50, .ref 51, .ref 52, .int (md), .int (ov), .int (oh), .int (dn), .int (an)]))) (.inl (some (.int (-1)))) (σ.set 22 (.inr (7, MoF (nI 0) vf wh wy hg dp md ov oh dn an)))
  refine jr_if_ne 25 d_Mo_about_12 (by decide) (fun z => absurd rfl z) (fun _ => ?_)
  refine jr_aload_n d_Mo_about_15 rfl ?_
  refine jr_iload_n d_Mo_about_16 rfl ?_
  refine jr_bipush ((nI (7))) d_Mo_about_17 (by decide) ?_
  refine jr_callV (As := [.int (nI (w + 3)), .int (nI 7)]) d_Mo_about_19 k_Mo_about_114 (jl_ss hO) rfl rfl rfl (Nat.le_of_ble_eq_true rfl) (by decide) (by decide) (mo_outN hl (jl_ss hO) (MoW.sx hw (Or.inl (by decide))) (by decide) (by omega)) ?_
  show jl_W l G m_Mo_about (0, 0) 22 [some (.ref 22), some (.int (nI k)), some (.int (nI (w + 3)))] [.int (nI 0)] (σ.set (22) (.inr (7, [.int (nI 0), .ref 23, .ref 24, .ref 25, .ref 26, .ref 27, .ref 28, .ref 29, .ref 30, .ref 31, .ref 32, .ref 33, .ref 34, .ref 35, .ref 36, .ref 37, .int (vf), .int (wh), .int (wy), .ref 38, .ref 39, .ref 40, .ref 41, .int (hg), .ref 42, .ref 43, .ref 44, .ref 45, .ref 46, .ref 47, .ref 48, .ref 49, .int (dp), .ref 50, .ref 51, .ref 52, .int (md), .int (ov), .int (oh), .int (dn), .int (an)]))) (.inl (some (.int (-1)))) (σ.set 22 (.inr (7, MoF (nI 0) vf wh wy hg dp md ov oh dn an)))
  refine jr_if_eq 31 d_Mo_about_22 (by decide) (fun _ => ?_) (fun z => absurd (by decide) z)
  refine jr_iload_n d_Mo_about_31 rfl ?_
  refine jr_if_neN 50 d_Mo_about_32 (by decide) (by omega) (fun c1 => ?_) (fun c1 => ?_)
  · refine jr_aload_n d_Mo_about_50 rfl ?_
    refine jr_getf d_Mo_about_51 f_Mo_about_7 (jl_ss hO) rfl ?_
    refine jr_iload_n d_Mo_about_54 rfl ?_
    refine jr_baldN d_Mo_about_55 (jl_sn (by decide) h23) (by omega) (by omega) ?_
    refine jr_if_ne 61 d_Mo_about_56 (by decide) (fun c2 => ?_) (fun c2 => ?_)
    · refine jr_iload_n d_Mo_about_61 rfl ?_
      refine jr_iconst ((nI (1))) d_Mo_about_62 (by decide) ?_
      refine jr_icmp_neN 73 d_Mo_about_63 (by decide) (by omega) (by omega) (fun c3 => ?_) (fun c3 => ?_)
      · refine jr_iload_n d_Mo_about_73 rfl ?_
        refine jr_iconst ((nI (2))) d_Mo_about_74 (by decide) ?_
        refine jr_icmp_neN 84 d_Mo_about_75 (by decide) (by omega) (by omega) (fun c4 => ?_) (fun c4 => ?_)
        · refine jr_aload_n d_Mo_about_84 rfl ?_
          refine jr_getf d_Mo_about_85 f_Mo_about_23 (jl_ss hO) rfl ?_
          refine jr_iconst ((nI (4))) d_Mo_about_88 (by decide) ?_
          refine jr_iload_n d_Mo_about_89 rfl ?_
          refine jr_imulN d_Mo_about_90 ?_
          refine jr_iload_n d_Mo_about_91 rfl ?_
          refine jr_iaddN d_Mo_about_92 ?_
          refine jr_iconst ((nI (3))) d_Mo_about_93 (by decide) ?_
          refine jr_isubN d_Mo_about_94 (by omega) ?_
          refine jr_baldN d_Mo_about_95 (jl_sn (by decide) h27) (by omega) (by omega) ?_
          refine jr_if_eq 114 d_Mo_about_96 (by decide) (fun c5 => ?_) (fun c5 => ?_)
          · refine jr_iconst ((-1)) d_Mo_about_114 (by decide) ?_
            exact jr_iretE d_Mo_about_115 rfl (rfl) (rfl) (by decide) (by decide)
          · exact absurd (bi_nf c5) (by rw [ix, hq]; decide)
        · exfalso; omega
      · exfalso; omega
    · exact absurd ht (by rw [bi_0.mp c2]; decide)
  · exfalso; omega
theorem d_Mo_about_99 : decode m_Mo_about.2.1 99 = .ok (.aload_n 0, 1) := by decide +kernel
theorem f_Mo_about_35 : jl_fd m_Mo_about 35 7 9 = true := by decide +kernel
theorem d_Mo_about_100 : decode m_Mo_about.2.1 100 = .ok (.getfield 35, 3) := by decide +kernel
theorem d_Mo_about_103 : decode m_Mo_about.2.1 103 = .ok (.iconst 4, 1) := by decide +kernel
theorem d_Mo_about_104 : decode m_Mo_about.2.1 104 = .ok (.iload_n 1, 1) := by decide +kernel
theorem d_Mo_about_105 : decode m_Mo_about.2.1 105 = .ok (.imul, 1) := by decide +kernel
theorem d_Mo_about_106 : decode m_Mo_about.2.1 106 = .ok (.iload_n 2, 1) := by decide +kernel
theorem d_Mo_about_107 : decode m_Mo_about.2.1 107 = .ok (.iadd, 1) := by decide +kernel
theorem d_Mo_about_108 : decode m_Mo_about.2.1 108 = .ok (.iconst 3, 1) := by decide +kernel
theorem d_Mo_about_109 : decode m_Mo_about.2.1 109 = .ok (.isub, 1) := by decide +kernel
theorem d_Mo_about_110 : decode m_Mo_about.2.1 110 = .ok (.iaload, 1) := by decide +kernel
theorem d_Mo_about_111 : decode m_Mo_about.2.1 111 = .ok (.goto 4, 3) := by decide +kernel
theorem mo_about_M (hl : l.stackTraces = false) {k w : Nat} (hO : MoO σ fa vf wh wy hg dp md ov oh dn an) (hw : MoW σ tb pr ow ft hs) (hu : MoM σ u1 u2 ur ul uo ua uc us ut uk) (hk : k < 6) (hw4 : w < 4) (ht : tb k = true) (hq : hs (4 * k + w) = true) : jl_m l G m_Mo_about [.ref 22, .int (nI k), .int (nI (w + 3))] σ (.inl (some (.int (nI (ul (4 * k + w)))))) (σ.set 22 (.inr (7, MoF (nI 0) vf wh wy hg dp md ov oh dn an))) := by
  obtain ⟨h23, h24, h25, h26, h27⟩ := id hw; obtain ⟨h28, h29, h30, h31, h32, h33, h34, h35, h36, h37⟩ := id hu
  have ix : 4 * k + (w + 3) - 3 = 4 * k + w := by omega
  refine jl_of (as := [.ref 22, .int (nI k), .int (nI (w + 3))]) rfl (by decide) hl (jl_cc rfl (jl_cc rfl (jl_cc rfl jl_ca))) (Nat.le_of_ble_eq_true rfl) ?_
  show jl_W l G m_Mo_about (0, 0) 0 [some (.ref 22), some (.int (nI k)), some (.int (nI (w + 3)))] [] (σ) (.inl (some (.int (nI (ul (4 * k + w)))))) (σ.set 22 (.inr (7, MoF (nI 0) vf wh wy hg dp md ov oh dn an)))
  refine jr_aload_n d_Mo_about_0 rfl ?_
  refine jr_iconst ((nI (0))) d_Mo_about_1 (by decide) ?_
  refine jr_putf d_Mo_about_2 p_Mo_about_111 hO (Nat.le_of_ble_eq_true rfl) jl_fit_int ?_
  show jl_W l G m_Mo_about (0, 0) 5 [some (.ref 22), some (.int (nI k)), some (.int (nI (w + 3)))] [] (σ.set (22) (.inr (7, [.int (nI 0), .ref 23, .ref 24, .ref 25, .ref 26, .ref 27, .ref 28, .ref 29, .ref 30, .ref 31, .ref 32, .ref 33, .ref 34, .ref 35, .ref 36, .ref 37, .int (vf), .int (wh), .int (wy), .ref 38, .ref 39, .ref 40, .ref 41, .int (hg), .ref 42, .ref 43, .ref 44, .ref 45, .ref 46, .ref 47, .ref 48, .ref 49, .int (dp), .ref 50, .ref 51, .ref 52, .int (md), .int (ov), .int (oh), .int (dn), .int (an)]))) (.inl (some (.int (nI (ul (4 * k + w)))))) (σ.set 22 (.inr (7, MoF (nI 0) vf wh wy hg dp md ov oh dn an)))
  refine jr_aload_n d_Mo_about_5 rfl ?_
  refine jr_iload_n d_Mo_about_6 rfl ?_
  refine jr_bipush ((nI (6))) d_Mo_about_7 (by decide) ?_
  refine jr_callV (As := [.int (nI k), .int (nI 6)]) d_Mo_about_9 k_Mo_about_114 (jl_ss hO) rfl rfl rfl (Nat.le_of_ble_eq_true rfl) (by decide) (by decide) (mo_outN hl (jl_ss hO) (MoW.sx hw (Or.inl (by decide))) (by decide) (by omega)) ?_
  show jl_W l G m_Mo_about (0, 0) 12 [some (.ref 22), some (.int (nI k)), some (.int (nI (w + 3)))] [.int (nI 0)] (σ.set (22) (.inr (7, [.int (nI 0), .ref 23, .ref 24, .ref 25, .ref 26, .ref 27, .ref 28, .ref 29, .ref 30, .ref 31, .ref 32, .ref 33, .ref 34, .ref 35, .ref 36, .ref 37, .int (vf), .int (wh), .int (wy), .ref 38, .ref 39, .ref 40, .ref 41, .int (hg), .ref 42, .ref 43, .ref 44, .ref 45, .ref 46, .ref 47, .ref 48, .ref 49, .int (dp), .ref 50, .ref 51, .ref 52, .int (md), .int (ov), .int (oh), .int (dn), .int (an)]))) (.inl (some (.int (nI (ul (4 * k + w)))))) (σ.set 22 (.inr (7, MoF (nI 0) vf wh wy hg dp md ov oh dn an)))
  refine jr_if_ne 25 d_Mo_about_12 (by decide) (fun z => absurd rfl z) (fun _ => ?_)
  refine jr_aload_n d_Mo_about_15 rfl ?_
  refine jr_iload_n d_Mo_about_16 rfl ?_
  refine jr_bipush ((nI (7))) d_Mo_about_17 (by decide) ?_
  refine jr_callV (As := [.int (nI (w + 3)), .int (nI 7)]) d_Mo_about_19 k_Mo_about_114 (jl_ss hO) rfl rfl rfl (Nat.le_of_ble_eq_true rfl) (by decide) (by decide) (mo_outN hl (jl_ss hO) (MoW.sx hw (Or.inl (by decide))) (by decide) (by omega)) ?_
  show jl_W l G m_Mo_about (0, 0) 22 [some (.ref 22), some (.int (nI k)), some (.int (nI (w + 3)))] [.int (nI 0)] (σ.set (22) (.inr (7, [.int (nI 0), .ref 23, .ref 24, .ref 25, .ref 26, .ref 27, .ref 28, .ref 29, .ref 30, .ref 31, .ref 32, .ref 33, .ref 34, .ref 35, .ref 36, .ref 37, .int (vf), .int (wh), .int (wy), .ref 38, .ref 39, .ref 40, .ref 41, .int (hg), .ref 42, .ref 43, .ref 44, .ref 45, .ref 46, .ref 47, .ref 48, .ref 49, .int (dp), .ref 50, .ref 51, .ref 52, .int (md), .int (ov), .int (oh), .int (dn), .int (an)]))) (.inl (some (.int (nI (ul (4 * k + w)))))) (σ.set 22 (.inr (7, MoF (nI 0) vf wh wy hg dp md ov oh dn an)))
  refine jr_if_eq 31 d_Mo_about_22 (by decide) (fun _ => ?_) (fun z => absurd (by decide) z)
  refine jr_iload_n d_Mo_about_31 rfl ?_
  refine jr_if_neN 50 d_Mo_about_32 (by decide) (by omega) (fun c1 => ?_) (fun c1 => ?_)
  · refine jr_aload_n d_Mo_about_50 rfl ?_
    refine jr_getf d_Mo_about_51 f_Mo_about_7 (jl_ss hO) rfl ?_
    refine jr_iload_n d_Mo_about_54 rfl ?_
    refine jr_baldN d_Mo_about_55 (jl_sn (by decide) h23) (by omega) (by omega) ?_
    refine jr_if_ne 61 d_Mo_about_56 (by decide) (fun c2 => ?_) (fun c2 => ?_)
    · refine jr_iload_n d_Mo_about_61 rfl ?_
      refine jr_iconst ((nI (1))) d_Mo_about_62 (by decide) ?_
      refine jr_icmp_neN 73 d_Mo_about_63 (by decide) (by omega) (by omega) (fun c3 => ?_) (fun c3 => ?_)
      · refine jr_iload_n d_Mo_about_73 rfl ?_
        refine jr_iconst ((nI (2))) d_Mo_about_74 (by decide) ?_
        refine jr_icmp_neN 84 d_Mo_about_75 (by decide) (by omega) (by omega) (fun c4 => ?_) (fun c4 => ?_)
        · refine jr_aload_n d_Mo_about_84 rfl ?_
          refine jr_getf d_Mo_about_85 f_Mo_about_23 (jl_ss hO) rfl ?_
          refine jr_iconst ((nI (4))) d_Mo_about_88 (by decide) ?_
          refine jr_iload_n d_Mo_about_89 rfl ?_
          refine jr_imulN d_Mo_about_90 ?_
          refine jr_iload_n d_Mo_about_91 rfl ?_
          refine jr_iaddN d_Mo_about_92 ?_
          refine jr_iconst ((nI (3))) d_Mo_about_93 (by decide) ?_
          refine jr_isubN d_Mo_about_94 (by omega) ?_
          refine jr_baldN d_Mo_about_95 (jl_sn (by decide) h27) (by omega) (by omega) ?_
          refine jr_if_eq 114 d_Mo_about_96 (by decide) (fun c5 => ?_) (fun c5 => ?_)
          · exact absurd (bi_0.mp c5) (by rw [ix, hq]; decide)
          · refine jr_aload_n d_Mo_about_99 rfl ?_
            refine jr_getf d_Mo_about_100 f_Mo_about_35 (jl_ss hO) rfl ?_
            refine jr_iconst ((nI (4))) d_Mo_about_103 (by decide) ?_
            refine jr_iload_n d_Mo_about_104 rfl ?_
            refine jr_imulN d_Mo_about_105 ?_
            refine jr_iload_n d_Mo_about_106 rfl ?_
            refine jr_iaddN d_Mo_about_107 ?_
            refine jr_iconst ((nI (3))) d_Mo_about_108 (by decide) ?_
            refine jr_isubN d_Mo_about_109 (by omega) ?_
            refine jr_ialdN d_Mo_about_110 (jl_sn (by decide) h31) (by omega) (by omega) ?_
            refine jr_goto 115 d_Mo_about_111 (by decide) ?_
            exact jr_iretE d_Mo_about_115 rfl (by rw [ix]) (rfl) (by decide) (by decide)
        · exfalso; omega
      · exfalso; omega
    · exact absurd ht (by rw [bi_0.mp c2]; decide)
  · exfalso; omega
end JAc
