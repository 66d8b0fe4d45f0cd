/-! JavaChain: field (wip/gen/p34.py) -/
section JFl
variable {l : Launch} {G : jl_G} {σ : jl_S} {tb : Nat → Bool} {pr : Nat → Option Nat} {ow fi ft : Nat → Nat} {mt : Nat → Option Nat} {vf : Bool}
theorem d_JC_field_0 : decode m_JC_field.2.1 0 = .ok (.iload_n 1, 1) := by decide +kernel
theorem d_JC_field_1 : decode m_JC_field.2.1 1 = .ok (.iconst 0, 1) := by decide +kernel
theorem d_JC_field_2 : decode m_JC_field.2.1 2 = .ok (.iconst 5, 1) := by decide +kernel
theorem k_JC_field_41 : jl_cz m_JC_field m_JC_needRange 41 3 = true := by decide +kernel
theorem d_JC_field_3 : decode m_JC_field.2.1 3 = .ok (.invokestatic 41, 3) := by decide +kernel
theorem jc_field_A (hl : l.stackTraces = false) {k t : Int32} (hj : JcAt σ vf) (hw : WoAt σ tb pr ow fi ft mt) (h : k < nI 0 ∨ nI 5 < k) : jl_m l G m_JC_field [.ref 0, .int (k), .int (t)] σ (.inr xA) (σ) := by
  obtain ⟨hW, h2, h3, h4, h5, h6, h7⟩ := id hw; have h0 := hj
  refine jl_of (as := [.ref 0, .int (k), .int (t)]) rfl (by decide) hl (jl_cc rfl (jl_cc rfl (jl_cc rfl jl_ca))) (Nat.le_of_ble_eq_true rfl) ?_
  show jl_W l G m_JC_field (0, 0) 0 [some (.ref 0), some (.int (k)), some (.int (t))] [] (σ) (.inr xA) (σ)
  refine jr_iload_n d_JC_field_0 rfl ?_
  refine jr_iconst ((nI (0))) d_JC_field_1 (by decide) ?_
  refine jr_iconst ((nI (5))) d_JC_field_2 (by decide) ?_
  exact jl_oeq (rfl) (jl_seq (rfl) (jr_callSX (As := [.int (k), .int (nI 0), .int (nI 5)]) d_JC_field_3 k_JC_field_41 rfl rfl (Nat.le_of_ble_eq_true rfl) (by decide) (by decide) (jc_rangeX hl h)))
theorem d_JC_field_6 : decode m_JC_field.2.1 6 = .ok (.iload_n 2, 1) := by decide +kernel
theorem k_JC_field_61 : jl_cz m_JC_field m_JC_needType 61 1 = true := by decide +kernel
theorem d_JC_field_7 : decode m_JC_field.2.1 7 = .ok (.invokestatic 61, 3) := by decide +kernel
theorem jc_field_B (hl : l.stackTraces = false) {k : Nat} {t : Int32} (hj : JcAt σ vf) (hw : WoAt σ tb pr ow fi ft mt) (hk : k < 6) (h : isTyp t = false) : jl_m l G m_JC_field [.ref 0, .int (nI k), .int (t)] σ (.inr xA) (σ) := by
  obtain ⟨hW, h2, h3, h4, h5, h6, h7⟩ := id hw; have h0 := hj
  refine jl_of (as := [.ref 0, .int (nI k), .int (t)]) rfl (by decide) hl (jl_cc rfl (jl_cc rfl (jl_cc rfl jl_ca))) (Nat.le_of_ble_eq_true rfl) ?_
  show jl_W l G m_JC_field (0, 0) 0 [some (.ref 0), some (.int (nI k)), some (.int (t))] [] (σ) (.inr xA) (σ)
  refine jr_iload_n d_JC_field_0 rfl ?_
  refine jr_iconst ((nI (0))) d_JC_field_1 (by decide) ?_
  refine jr_iconst ((nI (5))) d_JC_field_2 (by decide) ?_
  refine jr_callS (As := [.int (nI k), .int (nI 0), .int (nI 5)]) d_JC_field_3 k_JC_field_41 rfl (Nat.le_of_ble_eq_true rfl) (by decide) (by decide) (jc_range hl (rg_ok (by omega) (by decide))) ?_
  show jl_W l G m_JC_field (1, 6) 6 [some (.ref 0), some (.int (nI k)), some (.int (t))] [] (σ) (.inr xA) (σ)
  refine jr_iload_n d_JC_field_6 rfl ?_
  exact jl_oeq (rfl) (jl_seq (rfl) (jr_callSX (As := [.int (t)]) d_JC_field_7 k_JC_field_61 rfl rfl (Nat.le_of_ble_eq_true rfl) (by decide) (by decide) (jc_typeX hl h)))
theorem d_JC_field_10 : decode m_JC_field.2.1 10 = .ok (.aload_n 0, 1) := by decide +kernel
theorem f_JC_field_12 : jl_fd m_JC_field 12 6 0 = true := by decide +kernel
theorem d_JC_field_11 : decode m_JC_field.2.1 11 = .ok (.getfield 12, 3) := by decide +kernel
theorem d_JC_field_14 : decode m_JC_field.2.1 14 = .ok (.iload_n 1, 1) := by decide +kernel
theorem k_JC_field_45 : jl_cv m_JC_field m_Wo_has 45 1 = true := by decide +kernel
theorem d_JC_field_15 : decode m_JC_field.2.1 15 = .ok (.invokevirtual 45, 3) := by decide +kernel
theorem k_JC_field_65 : jl_cz m_JC_field m_JC_needThere 65 1 = true := by decide +kernel
theorem d_JC_field_18 : decode m_JC_field.2.1 18 = .ok (.invokestatic 65, 3) := by decide +kernel
theorem jc_field_C (hl : l.stackTraces = false) {k : Nat} {t : Int32} (hj : JcAt σ vf) (hw : WoAt σ tb pr ow fi ft mt) (hk : k < 6) (h : isTyp t = true) (ht : tb k = false) : jl_m l G m_JC_field [.ref 0, .int (nI k), .int (t)] σ (.inr xN) (σ) := by
  obtain ⟨hW, h2, h3, h4, h5, h6, h7⟩ := id hw; have h0 := hj
  refine jl_of (as := [.ref 0, .int (nI k), .int (t)]) rfl (by decide) hl (jl_cc rfl (jl_cc rfl (jl_cc rfl jl_ca))) (Nat.le_of_ble_eq_true rfl) ?_
  show jl_W l G m_JC_field (0, 0) 0 [some (.ref 0), some (.int (nI k)), some (.int (t))] [] (σ) (.inr xN) (σ)
  refine jr_iload_n d_JC_field_0 rfl ?_
  refine jr_iconst ((nI (0))) d_JC_field_1 (by decide) ?_
  refine jr_iconst ((nI (5))) d_JC_field_2 (by decide) ?_
  refine jr_callS (As := [.int (nI k), .int (nI 0), .int (nI 5)]) d_JC_field_3 k_JC_field_41 rfl (Nat.le_of_ble_eq_true rfl) (by decide) (by decide) (jc_range hl (rg_ok (by omega) (by decide))) ?_
  show jl_W l G m_JC_field (1, 6) 6 [some (.ref 0), some (.int (nI k)), some (.int (t))] [] (σ) (.inr xN) (σ)
  refine jr_iload_n d_JC_field_6 rfl ?_
  refine jr_callS (As := [.int (t)]) d_JC_field_7 k_JC_field_61 rfl (Nat.le_of_ble_eq_true rfl) (by decide) (by decide) (jc_typeT hl h) ?_
  show jl_W l G m_JC_field (2, 12) 10 [some (.ref 0), some (.int (nI k)), some (.int (t))] [] (σ) (.inr xN) (σ)
  refine jr_aload_n d_JC_field_10 rfl ?_
  refine jr_getf d_JC_field_11 f_JC_field_12 h0 rfl ?_
  refine jr_iload_n d_JC_field_14 rfl ?_
  refine jr_callV (As := [.int (nI k)]) d_JC_field_15 k_JC_field_45 hW rfl rfl rfl (Nat.le_of_ble_eq_true rfl) (by decide) (by decide) (wo_hasN hl hw hk) ?_
  show jl_W l G m_JC_field (2, 12) 18 [some (.ref 0), some (.int (nI k)), some (.int (t))] [.int (bi (tb k))] (σ) (.inr xN) (σ)
  exact jl_oeq (rfl) (jl_seq (rfl) (jr_callSX (As := [.int (bi (tb k))]) d_JC_field_18 k_JC_field_65 rfl rfl (Nat.le_of_ble_eq_true rfl) (by decide) (by decide) (jc_thereX hl ht)))
theorem d_JC_field_21 : decode m_JC_field.2.1 21 = .ok (.aload_n 0, 1) := by decide +kernel
theorem d_JC_field_22 : decode m_JC_field.2.1 22 = .ok (.getfield 12, 3) := by decide +kernel
theorem f_JC_field_68 : jl_fd m_JC_field 68 5 2 = true := by decide +kernel
theorem d_JC_field_25 : decode m_JC_field.2.1 25 = .ok (.getfield 68, 3) := by decide +kernel
theorem d_JC_field_28 : decode m_JC_field.2.1 28 = .ok (.iload_n 1, 1) := by decide +kernel
theorem d_JC_field_29 : decode m_JC_field.2.1 29 = .ok (.iaload, 1) := by decide +kernel
theorem d_JC_field_30 : decode m_JC_field.2.1 30 = .ok (.iconst 3, 1) := by decide +kernel
theorem d_JC_field_31 : decode m_JC_field.2.1 31 = .ok (.if_icmp .ge 18, 3) := by decide +kernel
theorem d_JC_field_49 : decode m_JC_field.2.1 49 = .ok (.iconst 0, 1) := by decide +kernel
theorem k_JC_field_49 : jl_cz m_JC_field m_JC_needState 49 1 = true := by decide +kernel
theorem d_JC_field_50 : decode m_JC_field.2.1 50 = .ok (.invokestatic 49, 3) := by decide +kernel
theorem d_JC_field_34 : decode m_JC_field.2.1 34 = .ok (.aload_n 0, 1) := by decide +kernel
theorem d_JC_field_35 : decode m_JC_field.2.1 35 = .ok (.getfield 12, 3) := by decide +kernel
theorem d_JC_field_38 : decode m_JC_field.2.1 38 = .ok (.iload_n 1, 1) := by decide +kernel
theorem k_JC_field_72 : jl_cv m_JC_field m_Wo_isSuper 72 1 = true := by decide +kernel
theorem d_JC_field_39 : decode m_JC_field.2.1 39 = .ok (.invokevirtual 72, 3) := by decide +kernel
theorem d_JC_field_42 : decode m_JC_field.2.1 42 = .ok (.ifCond .ne 7, 3) := by decide +kernel
theorem d_JC_field_45 : decode m_JC_field.2.1 45 = .ok (.iconst 1, 1) := by decide +kernel
theorem d_JC_field_46 : decode m_JC_field.2.1 46 = .ok (.goto 4, 3) := by decide +kernel
theorem d_JC_field_53 : decode m_JC_field.2.1 53 = .ok (.aload_n 0, 1) := by decide +kernel
theorem d_JC_field_54 : decode m_JC_field.2.1 54 = .ok (.iconst 0, 1) := by decide +kernel
theorem p_JC_field_37 : jl_fp m_JC_field 37 6 3 = true := by decide +kernel
theorem d_JC_field_55 : decode m_JC_field.2.1 55 = .ok (.putfield 37, 3) := by decide +kernel
theorem d_JC_field_58 : decode m_JC_field.2.1 58 = .ok (.aload_n 0, 1) := by decide +kernel
theorem d_JC_field_59 : decode m_JC_field.2.1 59 = .ok (.getfield 12, 3) := by decide +kernel
theorem d_JC_field_62 : decode m_JC_field.2.1 62 = .ok (.iload_n 1, 1) := by decide +kernel
theorem d_JC_field_63 : decode m_JC_field.2.1 63 = .ok (.iload_n 2, 1) := by decide +kernel
theorem k_JC_field_75 : jl_cv m_JC_field m_Wo_putField 75 2 = true := by decide +kernel
theorem d_JC_field_64 : decode m_JC_field.2.1 64 = .ok (.invokevirtual 75, 3) := by decide +kernel
theorem d_JC_field_67 : decode m_JC_field.2.1 67 = .ok (.ireturn, 1) := by decide +kernel
theorem jc_field (hl : l.stackTraces = false) {k t : Nat} (hj : JcAt σ vf) (hw : WoAt σ tb pr ow fi ft mt) (hk : k < 6) (h : isTyp (nI t) = true) (ht : tb k = true) (hok : ∀ j, ob 6 (pr j)) (hfi : fi k ≤ 18) (how : ow k ≤ 3) : jl_m l G m_JC_field [.ref 0, .int (nI k), .int (nI t)] σ (if flOk pr ow k = true then .inl (some (.int (nI (fi k + ow k)))) else .inr xS) (if flOk pr ow k = true then ((σ.set 0 (.inr (6, [.ref 1, .ref 9, .ref 13, .int (nI 0)]))).set 6 (.inl (0, 18, .inl fun j => nI (va_up ft (k * 3 + ow k) t j)))).set 4 (.inl (0, 6, .inl fun j => nI (va_up ow k (ow k + 1) j))) else σ) := by
  obtain ⟨hW, h2, h3, h4, h5, h6, h7⟩ := id hw; have h0 := hj
  refine jl_of (as := [.ref 0, .int (nI k), .int (nI t)]) rfl (by decide) hl (jl_cc rfl (jl_cc rfl (jl_cc rfl jl_ca))) (Nat.le_of_ble_eq_true rfl) ?_
  show jl_W l G m_JC_field (0, 0) 0 [some (.ref 0), some (.int (nI k)), some (.int (nI t))] [] (σ) (if flOk pr ow k = true then .inl (some (.int (nI (fi k + ow k)))) else .inr xS) (if flOk pr ow k = true then ((σ.set 0 (.inr (6, [.ref 1, .ref 9, .ref 13, .int (nI 0)]))).set 6 (.inl (0, 18, .inl fun j => nI (va_up ft (k * 3 + ow k) t j)))).set 4 (.inl (0, 6, .inl fun j => nI (va_up ow k (ow k + 1) j))) else σ)
  refine jr_iload_n d_JC_field_0 rfl ?_
  refine jr_iconst ((nI (0))) d_JC_field_1 (by decide) ?_
  refine jr_iconst ((nI (5))) d_JC_field_2 (by decide) ?_
  refine jr_callS (As := [.int (nI k), .int (nI 0), .int (nI 5)]) d_JC_field_3 k_JC_field_41 rfl (Nat.le_of_ble_eq_true rfl) (by decide) (by decide) (jc_range hl (rg_ok (by omega) (by decide))) ?_
  show jl_W l G m_JC_field (1, 6) 6 [some (.ref 0), some (.int (nI k)), some (.int (nI t))] [] (σ) (if flOk pr ow k = true then .inl (some (.int (nI (fi k + ow k)))) else .inr xS) (if flOk pr ow k = true then ((σ.set 0 (.inr (6, [.ref 1, .ref 9, .ref 13, .int (nI 0)]))).set 6 (.inl (0, 18, .inl fun j => nI (va_up ft (k * 3 + ow k) t j)))).set 4 (.inl (0, 6, .inl fun j => nI (va_up ow k (ow k + 1) j))) else σ)
  refine jr_iload_n d_JC_field_6 rfl ?_
  refine jr_callS (As := [.int (nI t)]) d_JC_field_7 k_JC_field_61 rfl (Nat.le_of_ble_eq_true rfl) (by decide) (by decide) (jc_typeT hl h) ?_
  show jl_W l G m_JC_field (2, 12) 10 [some (.ref 0), some (.int (nI k)), some (.int (nI t))] [] (σ) (if flOk pr ow k = true then .inl (some (.int (nI (fi k + ow k)))) else .inr xS) (if flOk pr ow k = true then ((σ.set 0 (.inr (6, [.ref 1, .ref 9, .ref 13, .int (nI 0)]))).set 6 (.inl (0, 18, .inl fun j => nI (va_up ft (k * 3 + ow k) t j)))).set 4 (.inl (0, 6, .inl fun j => nI (va_up ow k (ow k + 1) j))) else σ)
  refine jr_aload_n d_JC_field_10 rfl ?_
  refine jr_getf d_JC_field_11 f_JC_field_12 h0 rfl ?_
  refine jr_iload_n d_JC_field_14 rfl ?_
  refine jr_callV (As := [.int (nI k)]) d_JC_field_15 k_JC_field_45 hW rfl rfl rfl (Nat.le_of_ble_eq_true rfl) (by decide) (by decide) (wo_hasN hl hw hk) ?_
  show jl_W l G m_JC_field (2, 12) 18 [some (.ref 0), some (.int (nI k)), some (.int (nI t))] [.int (bi (tb k))] (σ) (if flOk pr ow k = true then .inl (some (.int (nI (fi k + ow k)))) else .inr xS) (if flOk pr ow k = true then ((σ.set 0 (.inr (6, [.ref 1, .ref 9, .ref 13, .int (nI 0)]))).set 6 (.inl (0, 18, .inl fun j => nI (va_up ft (k * 3 + ow k) t j)))).set 4 (.inl (0, 6, .inl fun j => nI (va_up ow k (ow k + 1) j))) else σ)
  refine jr_callS (As := [.int (bi (tb k))]) d_JC_field_18 k_JC_field_65 rfl (Nat.le_of_ble_eq_true rfl) (by decide) (by decide) (jc_thereT hl ht) ?_
  show jl_W l G m_JC_field (3, 18) 21 [some (.ref 0), some (.int (nI k)), some (.int (nI t))] [] (σ) (if flOk pr ow k = true then .inl (some (.int (nI (fi k + ow k)))) else .inr xS) (if flOk pr ow k = true then ((σ.set 0 (.inr (6, [.ref 1, .ref 9, .ref 13, .int (nI 0)]))).set 6 (.inl (0, 18, .inl fun j => nI (va_up ft (k * 3 + ow k) t j)))).set 4 (.inl (0, 6, .inl fun j => nI (va_up ow k (ow k + 1) j))) else σ)
  refine jr_aload_n d_JC_field_21 rfl ?_
  refine jr_getf d_JC_field_22 f_JC_field_12 h0 rfl ?_
  refine jr_getf d_JC_field_25 f_JC_field_68 hW rfl ?_
  refine jr_iload_n d_JC_field_28 rfl ?_
  refine jr_ialdN d_JC_field_29 h4 (by omega) (by omega) ?_
  refine jr_iconst ((nI (3))) d_JC_field_30 (by decide) ?_
  refine jr_icmp_geN 49 d_JC_field_31 (by decide) (by omega) (by omega) (fun c1 => ?_) (fun c1 => ?_)
  · refine jr_iconst ((nI (0))) d_JC_field_49 (by decide) ?_
    exact jl_oeq (by rw [if_neg (show ¬ flOk pr ow k = true by unfold flOk; simp [show ¬ ow k < 3 by omega])]) (jl_seq (by rw [if_neg (show ¬ flOk pr ow k = true by unfold flOk; simp [show ¬ ow k < 3 by omega])]) (jr_callSX (As := [.int (nI 0)]) d_JC_field_50 k_JC_field_49 rfl rfl (Nat.le_of_ble_eq_true rfl) (by decide) (by decide) (jc_state0 hl)))
  · refine jr_aload_n d_JC_field_34 rfl ?_
    refine jr_getf d_JC_field_35 f_JC_field_12 h0 rfl ?_
    refine jr_iload_n d_JC_field_38 rfl ?_
    refine jr_callV (As := [.int (nI k)]) d_JC_field_39 k_JC_field_72 hW rfl rfl rfl (Nat.le_of_ble_eq_true rfl) (by decide) (by decide) (wo_super hl hw hk hok) ?_
    show jl_W l G m_JC_field (3, 18) 42 [some (.ref 0), some (.int (nI k)), some (.int (nI t))] [.int (bi (sup pr k (6 - (k + 1)) (k + 1)))] (σ) (if flOk pr ow k = true then .inl (some (.int (nI (fi k + ow k)))) else .inr xS) (if flOk pr ow k = true then ((σ.set 0 (.inr (6, [.ref 1, .ref 9, .ref 13, .int (nI 0)]))).set 6 (.inl (0, 18, .inl fun j => nI (va_up ft (k * 3 + ow k) t j)))).set 4 (.inl (0, 6, .inl fun j => nI (va_up ow k (ow k + 1) j))) else σ)
    refine jr_if_ne 49 d_JC_field_42 (by decide) (fun c2 => ?_) (fun c2 => ?_)
    · refine jr_iconst ((nI (0))) d_JC_field_49 (by decide) ?_
      exact jl_oeq (by rw [if_neg (show ¬ flOk pr ow k = true by unfold flOk; rw [bi_nf c2]; simp [show ow k < 3 by omega])]) (jl_seq (by rw [if_neg (show ¬ flOk pr ow k = true by unfold flOk; rw [bi_nf c2]; simp [show ow k < 3 by omega])]) (jr_callSX (As := [.int (nI 0)]) d_JC_field_50 k_JC_field_49 rfl rfl (Nat.le_of_ble_eq_true rfl) (by decide) (by decide) (jc_state0 hl)))
    · refine jr_iconst ((nI (1))) d_JC_field_45 (by decide) ?_
      refine jr_goto 50 d_JC_field_46 (by decide) ?_
      refine jr_callS (As := [.int (nI 1)]) d_JC_field_50 k_JC_field_49 rfl (Nat.le_of_ble_eq_true rfl) (by decide) (by decide) (jc_state1 hl) ?_
      show jl_W l G m_JC_field (4, 24) 53 [some (.ref 0), some (.int (nI k)), some (.int (nI t))] [] (σ) (if flOk pr ow k = true then .inl (some (.int (nI (fi k + ow k)))) else .inr xS) (if flOk pr ow k = true then ((σ.set 0 (.inr (6, [.ref 1, .ref 9, .ref 13, .int (nI 0)]))).set 6 (.inl (0, 18, .inl fun j => nI (va_up ft (k * 3 + ow k) t j)))).set 4 (.inl (0, 6, .inl fun j => nI (va_up ow k (ow k + 1) j))) else σ)
      refine jr_aload_n d_JC_field_53 rfl ?_
      refine jr_iconst ((nI (0))) d_JC_field_54 (by decide) ?_
      refine jr_putf d_JC_field_55 p_JC_field_37 h0 (Nat.le_of_ble_eq_true rfl) jl_fit_b0 ?_
      show jl_W l G m_JC_field (4, 24) 58 [some (.ref 0), some (.int (nI k)), some (.int (nI t))] [] (σ.set (0) (.inr (6, [.ref 1, .ref 9, .ref 13, .int (nI 0)]))) (if flOk pr ow k = true then .inl (some (.int (nI (fi k + ow k)))) else .inr xS) (if flOk pr ow k = true then ((σ.set 0 (.inr (6, [.ref 1, .ref 9, .ref 13, .int (nI 0)]))).set 6 (.inl (0, 18, .inl fun j => nI (va_up ft (k * 3 + ow k) t j)))).set 4 (.inl (0, 6, .inl fun j => nI (va_up ow k (ow k + 1) j))) else σ)
      refine jr_aload_n d_JC_field_58 rfl ?_
      refine jr_getf d_JC_field_59 f_JC_field_12 (jl_ss h0) rfl ?_
      refine jr_iload_n d_JC_field_62 rfl ?_
      refine jr_iload_n d_JC_field_63 rfl ?_
      refine jr_callV (As := [.int (nI k), .int (nI t)]) d_JC_field_64 k_JC_field_75 (jl_sn (by decide) hW) rfl rfl rfl (Nat.le_of_ble_eq_true rfl) (by decide) (by decide) (wo_putField hl (WoAt.s0 hw) hk (by omega) hfi) ?_
      show jl_W l G m_JC_field (4, 24) 67 [some (.ref 0), some (.int (nI k)), some (.int (nI t))] [.int (nI (fi k + ow k))] (((σ.set (0) (.inr (6, [.ref 1, .ref 9, .ref 13, .int (nI 0)]))).set (6) (.inl (0, 18, .inl (fun j => nI ((va_up ft (k * 3 + ow k) t) j))))).set (4) (.inl (0, 6, .inl (fun j => nI ((va_up ow k (ow k + 1)) j))))) (if flOk pr ow k = true then .inl (some (.int (nI (fi k + ow k)))) else .inr xS) (if flOk pr ow k = true then ((σ.set 0 (.inr (6, [.ref 1, .ref 9, .ref 13, .int (nI 0)]))).set 6 (.inl (0, 18, .inl fun j => nI (va_up ft (k * 3 + ow k) t j)))).set 4 (.inl (0, 6, .inl fun j => nI (va_up ow k (ow k + 1) j))) else σ)
      exact jr_iretE d_JC_field_67 rfl (by rw [if_pos (show flOk pr ow k = true by unfold flOk; rw [bi_0.mp c2]; simp [show ow k < 3 by omega])]) (by rw [if_pos (show flOk pr ow k = true by unfold flOk; rw [bi_0.mp c2]; simp [show ow k < 3 by omega])]) (by decide) (by decide)
end JFl
