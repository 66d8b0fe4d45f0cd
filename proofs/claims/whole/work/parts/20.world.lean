/-! World (wip/gen/p20.py) -/
section JWo
variable {l : Launch} {G : jl_G} {σ : jl_S} {tb : Nat → Bool} {pr : Nat → Option Nat} {ow fi ft : Nat → Nat} {mt : Nat → Option Nat}
theorem d_Wo_has_0 : decode m_Wo_has.2.1 0 = .ok (.iload_n 1, 1) := by decide +kernel
theorem d_Wo_has_1 : decode m_Wo_has.2.1 1 = .ok (.ifCond .lt 22, 3) := by decide +kernel
theorem d_Wo_has_23 : decode m_Wo_has.2.1 23 = .ok (.iconst 0, 1) := by decide +kernel
theorem d_Wo_has_24 : decode m_Wo_has.2.1 24 = .ok (.ireturn, 1) := by decide +kernel
theorem d_Wo_has_4 : decode m_Wo_has.2.1 4 = .ok (.iload_n 1, 1) := by decide +kernel
theorem d_Wo_has_5 : decode m_Wo_has.2.1 5 = .ok (.bipush 6, 2) := by decide +kernel
theorem d_Wo_has_7 : decode m_Wo_has.2.1 7 = .ok (.if_icmp .ge 16, 3) := by decide +kernel
theorem d_Wo_has_10 : decode m_Wo_has.2.1 10 = .ok (.aload_n 0, 1) := by decide +kernel
theorem f_Wo_has_9 : jl_fd m_Wo_has 9 5 0 = true := by decide +kernel
theorem d_Wo_has_11 : decode m_Wo_has.2.1 11 = .ok (.getfield 9, 3) := by decide +kernel
theorem d_Wo_has_14 : decode m_Wo_has.2.1 14 = .ok (.iload_n 1, 1) := by decide +kernel
theorem d_Wo_has_15 : decode m_Wo_has.2.1 15 = .ok (.baload, 1) := by decide +kernel
theorem d_Wo_has_16 : decode m_Wo_has.2.1 16 = .ok (.ifCond .eq 7, 3) := by decide +kernel
theorem d_Wo_has_19 : decode m_Wo_has.2.1 19 = .ok (.iconst 1, 1) := by decide +kernel
theorem d_Wo_has_20 : decode m_Wo_has.2.1 20 = .ok (.goto 4, 3) := by decide +kernel
theorem wo_has (hl : l.stackTraces = false) {k : Int32} (hw : WoAt σ tb pr ow fi ft mt)  : jl_m l G m_Wo_has [.ref 1, .int (k)] σ (.inl (some (.int (bi (hasI tb k))))) (σ) := by
  obtain ⟨hW, h2, h3, h4, h5, h6, h7⟩ := id hw
  refine jl_of (as := [.ref 1, .int (k)]) rfl (by decide) hl (jl_cc rfl (jl_cc rfl jl_ca)) (Nat.le_of_ble_eq_true rfl) ?_
  show jl_W l G m_Wo_has (0, 0) 0 [some (.ref 1), some (.int (k))] [] (σ) (.inl (some (.int (bi (hasI tb k))))) (σ)
  refine jr_iload_n d_Wo_has_0 rfl ?_
  refine jr_if_lt 23 d_Wo_has_1 (by decide) (fun c1 => ?_) (fun c1 => ?_)
  · refine jr_iconst ((nI (0))) d_Wo_has_23 (by decide) ?_
    exact jr_zretE d_Wo_has_24 rfl (by decide) (by unfold hasI; rw [if_pos c1]; rfl) (rfl) (by decide) (by decide)
  · refine jr_iload_n d_Wo_has_4 rfl ?_
    refine jr_bipush ((nI (6))) d_Wo_has_5 (by decide) ?_
    refine jr_icmp_ge 23 d_Wo_has_7 (by decide) (fun c2 => ?_) (fun c2 => ?_)
    · refine jr_iconst ((nI (0))) d_Wo_has_23 (by decide) ?_
      exact jr_zretE d_Wo_has_24 rfl (by decide) (by unfold hasI; rw [if_neg c1, if_pos c2]; rfl) (rfl) (by decide) (by decide)
    · refine jr_aload_n d_Wo_has_10 rfl ?_
      refine jr_getf d_Wo_has_11 f_Wo_has_9 hW rfl ?_
      refine jr_iload_n d_Wo_has_14 rfl ?_
      refine jr_bald d_Wo_has_15 h2 (jl_vin c1 c2 (by decide)) ?_
      refine jr_if_eq 23 d_Wo_has_16 (by decide) (fun c3 => ?_) (fun c3 => ?_)
      · refine jr_iconst ((nI (0))) d_Wo_has_23 (by decide) ?_
        exact jr_zretE d_Wo_has_24 rfl (by decide) (by unfold hasI; rw [if_neg c1, if_neg c2]; rw [bi_0.mp c3]; rfl) (rfl) (by decide) (by decide)
      · refine jr_iconst ((nI (1))) d_Wo_has_19 (by decide) ?_
        refine jr_goto 24 d_Wo_has_20 (by decide) ?_
        exact jr_zretE d_Wo_has_24 rfl (by decide) (by unfold hasI; rw [if_neg c1, if_neg c2]; cases htb : tb k.toNatClampNeg with | true => rfl | false => exact absurd (bi_f htb) c3) (rfl) (by decide) (by decide)
theorem d_Wo_classCount_4 : decode m_Wo_classCount.2.1 4 = .ok (.iload_n 2, 1) := by decide +kernel
theorem d_Wo_classCount_5 : decode m_Wo_classCount.2.1 5 = .ok (.bipush 6, 2) := by decide +kernel
theorem d_Wo_classCount_7 : decode m_Wo_classCount.2.1 7 = .ok (.if_icmp .ge 21, 3) := by decide +kernel
theorem d_Wo_classCount_28 : decode m_Wo_classCount.2.1 28 = .ok (.iload_n 1, 1) := by decide +kernel
theorem d_Wo_classCount_29 : decode m_Wo_classCount.2.1 29 = .ok (.ireturn, 1) := by decide +kernel
theorem d_Wo_classCount_10 : decode m_Wo_classCount.2.1 10 = .ok (.aload_n 0, 1) := by decide +kernel
theorem f_Wo_classCount_9 : jl_fd m_Wo_classCount 9 5 0 = true := by decide +kernel
theorem d_Wo_classCount_11 : decode m_Wo_classCount.2.1 11 = .ok (.getfield 9, 3) := by decide +kernel
theorem d_Wo_classCount_14 : decode m_Wo_classCount.2.1 14 = .ok (.iload_n 2, 1) := by decide +kernel
theorem d_Wo_classCount_15 : decode m_Wo_classCount.2.1 15 = .ok (.baload, 1) := by decide +kernel
theorem d_Wo_classCount_16 : decode m_Wo_classCount.2.1 16 = .ok (.ifCond .eq 6, 3) := by decide +kernel
theorem d_Wo_classCount_22 : decode m_Wo_classCount.2.1 22 = .ok (.iinc 2 1, 3) := by decide +kernel
theorem d_Wo_classCount_25 : decode m_Wo_classCount.2.1 25 = .ok (.goto (-21), 3) := by decide +kernel
theorem d_Wo_classCount_19 : decode m_Wo_classCount.2.1 19 = .ok (.iinc 1 1, 3) := by decide +kernel
theorem wo_count_loop (hl : l.stackTraces = false)  (hw : WoAt σ tb pr ow fi ft mt)  : ∀ (nn : Nat) (i n : Nat), 6 - i < nn → i ≤ 6 → n + (6 - i) ≤ 6 → jl_W l G m_Wo_classCount (0, 0) 4 [some (.ref 1), some (.int (nI n)), some (.int (nI i))] [] σ (.inl (some (.int (nI (n + cnt tb (6 - i) i))))) (σ) := by
  obtain ⟨hW, h2, h3, h4, h5, h6, h7⟩ := id hw
  intro nn
  induction nn with
  | zero => intro i n hnn; exact absurd hnn (Nat.not_lt_zero _)
  | succ nn ihn =>
    intro i n hnn hi hn
    refine jr_iload_n d_Wo_classCount_4 rfl ?_
    refine jr_bipush ((nI (6))) d_Wo_classCount_5 (by decide) ?_
    refine jr_icmp_geN 28 d_Wo_classCount_7 (by decide) (by omega) (by omega) (fun c1 => ?_) (fun c1 => ?_)
    · refine jr_iload_n d_Wo_classCount_28 rfl ?_
      exact jr_iretE d_Wo_classCount_29 rfl (by rw [show 6 - i = 0 by omega]; rfl) (rfl) (by decide) (by decide)
    · refine jr_aload_n d_Wo_classCount_10 rfl ?_
      refine jr_getf d_Wo_classCount_11 f_Wo_classCount_9 hW rfl ?_
      refine jr_iload_n d_Wo_classCount_14 rfl ?_
      refine jr_baldN d_Wo_classCount_15 h2 (by omega) (by omega) ?_
      refine jr_if_eq 22 d_Wo_classCount_16 (by decide) (fun c2 => ?_) (fun c2 => ?_)
      · refine jr_iinc ((nI (i + 1))) d_Wo_classCount_22 (by decide) rfl (jl_inc _) ?_
        show jl_W l G m_Wo_classCount (0, 0) 25 [some (.ref 1), some (.int (nI n)), some (.int (nI (i + 1)))] [] (σ) (.inl (some (.int (nI (n + cnt tb (6 - i) i))))) (σ)
        refine jr_goto 4 d_Wo_classCount_25 (by decide) ?_
        exact jl_oeq (by rw [show 6 - i = (6 - (i + 1)) + 1 by omega]; simp only [cnt]; rw [bi_0.mp c2]; simp) (ihn (i + 1) (n) (by omega) (by omega) (by omega))
      · refine jr_iinc ((nI (n + 1))) d_Wo_classCount_19 (by decide) rfl (jl_inc _) ?_
        show jl_W l G m_Wo_classCount (0, 0) 22 [some (.ref 1), some (.int (nI (n + 1))), some (.int (nI i))] [] (σ) (.inl (some (.int (nI (n + cnt tb (6 - i) i))))) (σ)
        refine jr_iinc ((nI (i + 1))) d_Wo_classCount_22 (by decide) rfl (jl_inc _) ?_
        show jl_W l G m_Wo_classCount (0, 0) 25 [some (.ref 1), some (.int (nI (n + 1))), some (.int (nI (i + 1)))] [] (σ) (.inl (some (.int (nI (n + cnt tb (6 - i) i))))) (σ)
        refine jr_goto 4 d_Wo_classCount_25 (by decide) ?_
        exact jl_oeq (by rw [show 6 - i = (6 - (i + 1)) + 1 by omega]; simp only [cnt]; rw [show tb i = true from by cases htb : tb i with | true => rfl | false => exact absurd (bi_f htb) c2]; simp [Nat.add_assoc]) (ihn (i + 1) (n + 1) (by omega) (by omega) (by omega))
theorem d_Wo_classCount_0 : decode m_Wo_classCount.2.1 0 = .ok (.iconst 0, 1) := by decide +kernel
theorem d_Wo_classCount_1 : decode m_Wo_classCount.2.1 1 = .ok (.istore_n 1, 1) := by decide +kernel
theorem d_Wo_classCount_2 : decode m_Wo_classCount.2.1 2 = .ok (.iconst 0, 1) := by decide +kernel
theorem d_Wo_classCount_3 : decode m_Wo_classCount.2.1 3 = .ok (.istore_n 2, 1) := by decide +kernel
theorem wo_count (hl : l.stackTraces = false)  (hw : WoAt σ tb pr ow fi ft mt)  : jl_m l G m_Wo_classCount [.ref 1] σ (.inl (some (.int (nI (cnt tb 6 0))))) (σ) := by
  obtain ⟨hW, h2, h3, h4, h5, h6, h7⟩ := id hw
  refine jl_of (as := [.ref 1]) rfl (by decide) hl (jl_cc rfl jl_ca) (Nat.le_of_ble_eq_true rfl) ?_
  show jl_W l G m_Wo_classCount (0, 0) 0 [some (.ref 1), none, none] [] (σ) (.inl (some (.int (nI (cnt tb 6 0))))) (σ)
  refine jr_iconst ((nI (0))) d_Wo_classCount_0 (by decide) ?_
  refine jr_istore_n d_Wo_classCount_1 (by decide) ?_
  show jl_W l G m_Wo_classCount (0, 0) 2 [some (.ref 1), some (.int (nI 0)), none] [] (σ) (.inl (some (.int (nI (cnt tb 6 0))))) (σ)
  refine jr_iconst ((nI (0))) d_Wo_classCount_2 (by decide) ?_
  refine jr_istore_n d_Wo_classCount_3 (by decide) ?_
  show jl_W l G m_Wo_classCount (0, 0) 4 [some (.ref 1), some (.int (nI 0)), some (.int (nI 0))] [] (σ) (.inl (some (.int (nI (cnt tb 6 0))))) (σ)
  exact jl_oeq (by rw [Nat.zero_add]) (wo_count_loop hl hw 7 0 0 (by omega) (by omega) (by omega))
theorem d_Wo_fieldCount_0 : decode m_Wo_fieldCount.2.1 0 = .ok (.aload_n 0, 1) := by decide +kernel
theorem f_Wo_fieldCount_22 : jl_fd m_Wo_fieldCount 22 5 3 = true := by decide +kernel
theorem d_Wo_fieldCount_1 : decode m_Wo_fieldCount.2.1 1 = .ok (.getfield 22, 3) := by decide +kernel
theorem d_Wo_fieldCount_4 : decode m_Wo_fieldCount.2.1 4 = .ok (.iload_n 1, 1) := by decide +kernel
theorem d_Wo_fieldCount_5 : decode m_Wo_fieldCount.2.1 5 = .ok (.iaload, 1) := by decide +kernel
theorem d_Wo_fieldCount_6 : decode m_Wo_fieldCount.2.1 6 = .ok (.aload_n 0, 1) := by decide +kernel
theorem f_Wo_fieldCount_19 : jl_fd m_Wo_fieldCount 19 5 2 = true := by decide +kernel
theorem d_Wo_fieldCount_7 : decode m_Wo_fieldCount.2.1 7 = .ok (.getfield 19, 3) := by decide +kernel
theorem d_Wo_fieldCount_10 : decode m_Wo_fieldCount.2.1 10 = .ok (.iload_n 1, 1) := by decide +kernel
theorem d_Wo_fieldCount_11 : decode m_Wo_fieldCount.2.1 11 = .ok (.iaload, 1) := by decide +kernel
theorem d_Wo_fieldCount_12 : decode m_Wo_fieldCount.2.1 12 = .ok (.iadd, 1) := by decide +kernel
theorem d_Wo_fieldCount_13 : decode m_Wo_fieldCount.2.1 13 = .ok (.ireturn, 1) := by decide +kernel
theorem wo_fc (hl : l.stackTraces = false) {k : Nat} (hw : WoAt σ tb pr ow fi ft mt) (hk : k < 6) : jl_m l G m_Wo_fieldCount [.ref 1, .int (nI k)] σ (.inl (some (.int (nI (fi k + ow k))))) (σ) := by
  obtain ⟨hW, h2, h3, h4, h5, h6, h7⟩ := id hw
  refine jl_of (as := [.ref 1, .int (nI k)]) rfl (by decide) hl (jl_cc rfl (jl_cc rfl jl_ca)) (Nat.le_of_ble_eq_true rfl) ?_
  show jl_W l G m_Wo_fieldCount (0, 0) 0 [some (.ref 1), some (.int (nI k))] [] (σ) (.inl (some (.int (nI (fi k + ow k))))) (σ)
  refine jr_aload_n d_Wo_fieldCount_0 rfl ?_
  refine jr_getf d_Wo_fieldCount_1 f_Wo_fieldCount_22 hW rfl ?_
  refine jr_iload_n d_Wo_fieldCount_4 rfl ?_
  refine jr_ialdN d_Wo_fieldCount_5 h5 (by omega) (by omega) ?_
  refine jr_aload_n d_Wo_fieldCount_6 rfl ?_
  refine jr_getf d_Wo_fieldCount_7 f_Wo_fieldCount_19 hW rfl ?_
  refine jr_iload_n d_Wo_fieldCount_10 rfl ?_
  refine jr_ialdN d_Wo_fieldCount_11 h4 (by omega) (by omega) ?_
  refine jr_iaddN d_Wo_fieldCount_12 ?_
  exact jr_iretE d_Wo_fieldCount_13 rfl (rfl) (rfl) (by decide) (by decide)
theorem d_Wo_own_0 : decode m_Wo_own.2.1 0 = .ok (.aload_n 0, 1) := by decide +kernel
theorem f_Wo_own_30 : jl_fd m_Wo_own 30 5 5 = true := by decide +kernel
theorem d_Wo_own_1 : decode m_Wo_own.2.1 1 = .ok (.getfield 30, 3) := by decide +kernel
theorem d_Wo_own_4 : decode m_Wo_own.2.1 4 = .ok (.iload_n 1, 1) := by decide +kernel
theorem d_Wo_own_5 : decode m_Wo_own.2.1 5 = .ok (.iconst 4, 1) := by decide +kernel
theorem d_Wo_own_6 : decode m_Wo_own.2.1 6 = .ok (.imul, 1) := by decide +kernel
theorem d_Wo_own_7 : decode m_Wo_own.2.1 7 = .ok (.iload_n 2, 1) := by decide +kernel
theorem d_Wo_own_8 : decode m_Wo_own.2.1 8 = .ok (.iadd, 1) := by decide +kernel
theorem d_Wo_own_9 : decode m_Wo_own.2.1 9 = .ok (.aaload, 1) := by decide +kernel
theorem d_Wo_own_10 : decode m_Wo_own.2.1 10 = .ok (.areturn, 1) := by decide +kernel
theorem wo_own (hl : l.stackTraces = false) {k sl : Nat} (hw : WoAt σ tb pr ow fi ft mt) (hk : k < 6) (hs : sl < 4) : jl_m l G m_Wo_own [.ref 1, .int (nI k), .int (nI sl)] σ (.inl (some (va_rf (mt (k * 4 + sl))))) (σ) := by
  obtain ⟨hW, h2, h3, h4, h5, h6, h7⟩ := id hw
  refine jl_of (as := [.ref 1, .int (nI k), .int (nI sl)]) rfl (by decide) hl (jl_cc rfl (jl_cc rfl (jl_cc rfl jl_ca))) (Nat.le_of_ble_eq_true rfl) ?_
  show jl_W l G m_Wo_own (0, 0) 0 [some (.ref 1), some (.int (nI k)), some (.int (nI sl))] [] (σ) (.inl (some (va_rf (mt (k * 4 + sl))))) (σ)
  refine jr_aload_n d_Wo_own_0 rfl ?_
  refine jr_getf d_Wo_own_1 f_Wo_own_30 hW rfl ?_
  refine jr_iload_n d_Wo_own_4 rfl ?_
  refine jr_iconst ((nI (4))) d_Wo_own_5 (by decide) ?_
  refine jr_imulN d_Wo_own_6 ?_
  refine jr_iload_n d_Wo_own_7 rfl ?_
  refine jr_iaddN d_Wo_own_8 ?_
  refine jr_aaldN d_Wo_own_9 h7 (by omega) (by omega) ?_
  exact jr_aretE (r := mt (((k) * (4)) + (sl))) d_Wo_own_10 rfl (rfl) (rfl) (by decide) (by decide)
theorem d_Wo_isSuper_4 : decode m_Wo_isSuper.2.1 4 = .ok (.iload_n 2, 1) := by decide +kernel
theorem d_Wo_isSuper_5 : decode m_Wo_isSuper.2.1 5 = .ok (.bipush 6, 2) := by decide +kernel
theorem d_Wo_isSuper_7 : decode m_Wo_isSuper.2.1 7 = .ok (.if_icmp .ge 21, 3) := by decide +kernel
theorem d_Wo_isSuper_28 : decode m_Wo_isSuper.2.1 28 = .ok (.iconst 0, 1) := by decide +kernel
theorem d_Wo_isSuper_29 : decode m_Wo_isSuper.2.1 29 = .ok (.ireturn, 1) := by decide +kernel
theorem d_Wo_isSuper_10 : decode m_Wo_isSuper.2.1 10 = .ok (.aload_n 0, 1) := by decide +kernel
theorem f_Wo_isSuper_15 : jl_fd m_Wo_isSuper 15 5 1 = true := by decide +kernel
theorem d_Wo_isSuper_11 : decode m_Wo_isSuper.2.1 11 = .ok (.getfield 15, 3) := by decide +kernel
theorem d_Wo_isSuper_14 : decode m_Wo_isSuper.2.1 14 = .ok (.iload_n 2, 1) := by decide +kernel
theorem d_Wo_isSuper_15 : decode m_Wo_isSuper.2.1 15 = .ok (.iaload, 1) := by decide +kernel
theorem d_Wo_isSuper_16 : decode m_Wo_isSuper.2.1 16 = .ok (.iload_n 1, 1) := by decide +kernel
theorem d_Wo_isSuper_17 : decode m_Wo_isSuper.2.1 17 = .ok (.if_icmp .ne 5, 3) := by decide +kernel
theorem d_Wo_isSuper_22 : decode m_Wo_isSuper.2.1 22 = .ok (.iinc 2 1, 3) := by decide +kernel
theorem d_Wo_isSuper_25 : decode m_Wo_isSuper.2.1 25 = .ok (.goto (-21), 3) := by decide +kernel
theorem d_Wo_isSuper_20 : decode m_Wo_isSuper.2.1 20 = .ok (.iconst 1, 1) := by decide +kernel
theorem d_Wo_isSuper_21 : decode m_Wo_isSuper.2.1 21 = .ok (.ireturn, 1) := by decide +kernel
theorem wo_super_loop (hl : l.stackTraces = false) {k : Nat} (hw : WoAt σ tb pr ow fi ft mt) (hk : k < 6) (hok : ∀ j, ob 6 (pr j)) : ∀ (nn : Nat) (i : Nat), 6 - i < nn → i ≤ 6 → jl_W l G m_Wo_isSuper (0, 0) 4 [some (.ref 1), some (.int (nI k)), some (.int (nI i))] [] σ (.inl (some (.int (bi (sup pr k (6 - i) i))))) (σ) := by
  obtain ⟨hW, h2, h3, h4, h5, h6, h7⟩ := id hw
  intro nn
  induction nn with
  | zero => intro i hnn; exact absurd hnn (Nat.not_lt_zero _)
  | succ nn ihn =>
    intro i hnn hi
    refine jr_iload_n d_Wo_isSuper_4 rfl ?_
    refine jr_bipush ((nI (6))) d_Wo_isSuper_5 (by decide) ?_
    refine jr_icmp_geN 28 d_Wo_isSuper_7 (by decide) (by omega) (by omega) (fun c1 => ?_) (fun c1 => ?_)
    · refine jr_iconst ((nI (0))) d_Wo_isSuper_28 (by decide) ?_
      exact jr_zretE d_Wo_isSuper_29 rfl (by decide) (by rw [show 6 - i = 0 by omega]; rfl) (rfl) (by decide) (by decide)
    · refine jr_aload_n d_Wo_isSuper_10 rfl ?_
      refine jr_getf d_Wo_isSuper_11 f_Wo_isSuper_15 hW rfl ?_
      refine jr_iload_n d_Wo_isSuper_14 rfl ?_
      refine jr_ialdN d_Wo_isSuper_15 h3 (by omega) (by omega) ?_
      refine jr_iload_n d_Wo_isSuper_16 rfl ?_
      refine jr_icmp_ne 22 d_Wo_isSuper_17 (by decide) (fun c2 => ?_) (fun c2 => ?_)
      · refine jr_iinc ((nI (i + 1))) d_Wo_isSuper_22 (by decide) rfl (jl_inc _) ?_
        show jl_W l G m_Wo_isSuper (0, 0) 25 [some (.ref 1), some (.int (nI k)), some (.int (nI (i + 1)))] [] (σ) (.inl (some (.int (bi (sup pr k (6 - i) i))))) (σ)
        refine jr_goto 4 d_Wo_isSuper_25 (by decide) ?_
        exact jl_oeq (by rw [show 6 - i = (6 - (i + 1)) + 1 by omega]; simp only [sup]; rw [beq_f (fun q => c2 (by rw [q]; rfl)), Bool.false_or]) (ihn (i + 1) (by omega) (by omega))
      · refine jr_iconst ((nI (1))) d_Wo_isSuper_20 (by decide) ?_
        exact jr_zretE d_Wo_isSuper_21 rfl (by decide) (by rw [show 6 - i = (6 - (i + 1)) + 1 by omega]; simp only [sup]; rw [beq_t ((en_inj (y := some k) (fun a ha => Nat.lt_trans (hok i a ha) (by decide)) (fun a ha => by cases ha; omega)).mp c2), Bool.true_or]; rfl) (rfl) (by decide) (by decide)
theorem d_Wo_isSuper_0 : decode m_Wo_isSuper.2.1 0 = .ok (.iload_n 1, 1) := by decide +kernel
theorem d_Wo_isSuper_1 : decode m_Wo_isSuper.2.1 1 = .ok (.iconst 1, 1) := by decide +kernel
theorem d_Wo_isSuper_2 : decode m_Wo_isSuper.2.1 2 = .ok (.iadd, 1) := by decide +kernel
theorem d_Wo_isSuper_3 : decode m_Wo_isSuper.2.1 3 = .ok (.istore_n 2, 1) := by decide +kernel
theorem wo_super (hl : l.stackTraces = false) {k : Nat} (hw : WoAt σ tb pr ow fi ft mt) (hk : k < 6) (hok : ∀ j, ob 6 (pr j)) : jl_m l G m_Wo_isSuper [.ref 1, .int (nI k)] σ (.inl (some (.int (bi (sup pr k (6 - (k + 1)) (k + 1)))))) (σ) := by
  obtain ⟨hW, h2, h3, h4, h5, h6, h7⟩ := id hw
  refine jl_of (as := [.ref 1, .int (nI k)]) rfl (by decide) hl (jl_cc rfl (jl_cc rfl jl_ca)) (Nat.le_of_ble_eq_true rfl) ?_
  show jl_W l G m_Wo_isSuper (0, 0) 0 [some (.ref 1), some (.int (nI k)), none] [] (σ) (.inl (some (.int (bi (sup pr k (6 - (k + 1)) (k + 1)))))) (σ)
  refine jr_iload_n d_Wo_isSuper_0 rfl ?_
  refine jr_iconst ((nI (1))) d_Wo_isSuper_1 (by decide) ?_
  refine jr_iaddN d_Wo_isSuper_2 ?_
  refine jr_istore_n d_Wo_isSuper_3 (by decide) ?_
  show jl_W l G m_Wo_isSuper (0, 0) 4 [some (.ref 1), some (.int (nI k)), some (.int (nI ((k) + (1))))] [] (σ) (.inl (some (.int (bi (sup pr k (6 - (k + 1)) (k + 1)))))) (σ)
  exact wo_super_loop hl hw hk hok 7 (k + 1) (by omega) (by omega)
theorem d_Wo_isOrIsAbove_30 : decode m_Wo_isOrIsAbove.2.1 30 = .ok (.iload_n 3, 1) := by decide +kernel
theorem d_Wo_isOrIsAbove_31 : decode m_Wo_isOrIsAbove.2.1 31 = .ok (.iload_n 1, 1) := by decide +kernel
theorem d_Wo_isOrIsAbove_32 : decode m_Wo_isOrIsAbove.2.1 32 = .ok (.if_icmp .ne 7, 3) := by decide +kernel
theorem d_Wo_isOrIsAbove_35 : decode m_Wo_isOrIsAbove.2.1 35 = .ok (.iconst 1, 1) := by decide +kernel
theorem d_Wo_isOrIsAbove_36 : decode m_Wo_isOrIsAbove.2.1 36 = .ok (.goto 4, 3) := by decide +kernel
theorem d_Wo_isOrIsAbove_39 : decode m_Wo_isOrIsAbove.2.1 39 = .ok (.iconst 0, 1) := by decide +kernel
theorem d_Wo_isOrIsAbove_40 : decode m_Wo_isOrIsAbove.2.1 40 = .ok (.ireturn, 1) := by decide +kernel
theorem wo_up_tail (hl : l.stackTraces = false) {h : Nat} {x0 : Option Nat} (hh : h < 2 ^ 31) (hw : WoAt σ tb pr ow fi ft mt) (y x : Option Nat) (i : Nat) (hx : ob 6 x) (hy : y = x) : jl_W l G m_Wo_isOrIsAbove (0, 0) 30 [some (.ref 1), some (.int (nI h)), some (.int (en x0)), some (.int (en x)), some (.int (nI i))] [] σ (.inl (some (.int (bi (y == some h))))) σ := by
  subst hy
  have hin : en y = nI h ↔ y = some h := en_inj (y := some h) (fun a ha => Nat.lt_trans (hx a ha) (by decide)) (fun a ha => by cases ha; exact hh)
  refine jr_iload_n d_Wo_isOrIsAbove_30 rfl ?_
  refine jr_iload_n d_Wo_isOrIsAbove_31 rfl ?_
  refine jr_icmp_ne 39 d_Wo_isOrIsAbove_32 (by decide) (fun c9 => ?_) (fun c9 => ?_)
  · refine jr_iconst (nI 0) d_Wo_isOrIsAbove_39 (by decide) ?_
    exact jr_zretE d_Wo_isOrIsAbove_40 rfl (by decide) (by rw [bi_f (beq_f (fun q => c9 (hin.mpr q)))]; rfl) rfl (by decide) (by decide)
  · refine jr_iconst (nI 1) d_Wo_isOrIsAbove_35 (by decide) ?_
    refine jr_goto 40 d_Wo_isOrIsAbove_36 (by decide) ?_
    exact jr_zretE d_Wo_isOrIsAbove_40 rfl (by decide) (by rw [bi_t (beq_t (hin.mp c9))]; rfl) rfl (by decide) (by decide)
theorem d_Wo_isOrIsAbove_5 : decode m_Wo_isOrIsAbove.2.1 5 = .ok (.iload 4, 2) := by decide +kernel
theorem d_Wo_isOrIsAbove_7 : decode m_Wo_isOrIsAbove.2.1 7 = .ok (.bipush 6, 2) := by decide +kernel
theorem d_Wo_isOrIsAbove_9 : decode m_Wo_isOrIsAbove.2.1 9 = .ok (.if_icmp .ge 21, 3) := by decide +kernel
theorem d_Wo_isOrIsAbove_12 : decode m_Wo_isOrIsAbove.2.1 12 = .ok (.iload_n 3, 1) := by decide +kernel
theorem d_Wo_isOrIsAbove_13 : decode m_Wo_isOrIsAbove.2.1 13 = .ok (.iload_n 1, 1) := by decide +kernel
theorem d_Wo_isOrIsAbove_14 : decode m_Wo_isOrIsAbove.2.1 14 = .ok (.if_icmp .le 16, 3) := by decide +kernel
theorem d_Wo_isOrIsAbove_17 : decode m_Wo_isOrIsAbove.2.1 17 = .ok (.aload_n 0, 1) := by decide +kernel
theorem f_Wo_isOrIsAbove_15 : jl_fd m_Wo_isOrIsAbove 15 5 1 = true := by decide +kernel
theorem d_Wo_isOrIsAbove_18 : decode m_Wo_isOrIsAbove.2.1 18 = .ok (.getfield 15, 3) := by decide +kernel
theorem d_Wo_isOrIsAbove_21 : decode m_Wo_isOrIsAbove.2.1 21 = .ok (.iload_n 3, 1) := by decide +kernel
theorem d_Wo_isOrIsAbove_22 : decode m_Wo_isOrIsAbove.2.1 22 = .ok (.iaload, 1) := by decide +kernel
theorem d_Wo_isOrIsAbove_23 : decode m_Wo_isOrIsAbove.2.1 23 = .ok (.istore_n 3, 1) := by decide +kernel
theorem d_Wo_isOrIsAbove_24 : decode m_Wo_isOrIsAbove.2.1 24 = .ok (.iinc 4 1, 3) := by decide +kernel
theorem d_Wo_isOrIsAbove_27 : decode m_Wo_isOrIsAbove.2.1 27 = .ok (.goto (-22), 3) := by decide +kernel
theorem wo_up_loop (hl : l.stackTraces = false) {h : Nat} {x0 : Option Nat} (hw : WoAt σ tb pr ow fi ft mt) (hh : h < 2 ^ 31) (hok : ∀ j, ob 6 (pr j)) : ∀ (nn : Nat) (i : Nat) (x : Option Nat), 6 - i < nn → i ≤ 6 → ob 6 x → jl_W l G m_Wo_isOrIsAbove (0, 0) 5 [some (.ref 1), some (.int (nI h)), some (.int (en x0)), some (.int (en x)), some (.int (nI i))] [] σ (.inl (some (.int (bi (up pr h (6 - i) x == some h))))) (σ) := by
  obtain ⟨hW, h2, h3, h4, h5, h6, h7⟩ := id hw
  intro nn
  induction nn with
  | zero => intro i x hnn; exact absurd hnn (Nat.not_lt_zero _)
  | succ nn ihn =>
    intro i x hnn hi hx
    refine jr_iload d_Wo_isOrIsAbove_5 rfl ?_
    refine jr_bipush ((nI (6))) d_Wo_isOrIsAbove_7 (by decide) ?_
    refine jr_icmp_geN 30 d_Wo_isOrIsAbove_9 (by decide) (by omega) (by omega) (fun c1 => ?_) (fun c1 => ?_)
    · exact jl_oeq (by rw [show 6 - i = 0 by omega]; rfl) (wo_up_tail hl hh hw x x i hx rfl)
    · cases x with
      | none =>
        show jl_W l G m_Wo_isOrIsAbove (0, 0) 12 [some (.ref 1), some (.int (nI h)), some (.int (en x0)), some (.int (-1)), some (.int (nI i))] [] (σ) (.inl (some (.int (bi (up pr h (6 - i) none == some h))))) (σ)
        refine jr_iload_n d_Wo_isOrIsAbove_12 rfl ?_
        refine jr_iload_n d_Wo_isOrIsAbove_13 rfl ?_
        refine jr_icmp_le 30 d_Wo_isOrIsAbove_14 (by decide) (fun _ => ?_) (fun z => absurd (en_m1le (by omega)) z)
        exact jl_oeq (by rw [show 6 - i = (6 - (i + 1)) + 1 by omega]; rfl) (wo_up_tail hl hh hw none none i hx rfl)
      | some j =>
        have hj := hx j rfl
        show jl_W l G m_Wo_isOrIsAbove (0, 0) 12 [some (.ref 1), some (.int (nI h)), some (.int (en x0)), some (.int (nI j)), some (.int (nI i))] [] (σ) (.inl (some (.int (bi (up pr h (6 - i) (some j) == some h))))) (σ)
        refine jr_iload_n d_Wo_isOrIsAbove_12 rfl ?_
        refine jr_iload_n d_Wo_isOrIsAbove_13 rfl ?_
        refine jr_icmp_leN 30 d_Wo_isOrIsAbove_14 (by decide) (by omega) (by omega) (fun c2 => ?_) (fun c2 => ?_)
        · exact jl_oeq (by rw [show 6 - i = (6 - (i + 1)) + 1 by omega]; simp only [up]; rw [if_pos c2]) (wo_up_tail hl hh hw (some j) (some j) i hx rfl)
        · refine jr_aload_n d_Wo_isOrIsAbove_17 rfl ?_
          refine jr_getf d_Wo_isOrIsAbove_18 f_Wo_isOrIsAbove_15 hW rfl ?_
          refine jr_iload_n d_Wo_isOrIsAbove_21 rfl ?_
          refine jr_ialdN d_Wo_isOrIsAbove_22 h3 (by omega) (by omega) ?_
          refine jr_istore_n d_Wo_isOrIsAbove_23 (by decide) ?_
          show jl_W l G m_Wo_isOrIsAbove (0, 0) 24 [some (.ref 1), some (.int (nI h)), some (.int (en x0)), some (.int (en (pr (j)))), some (.int (nI i))] [] (σ) (.inl (some (.int (bi (up pr h (6 - i) (some j) == some h))))) (σ)
          refine jr_iinc ((nI (i + 1))) d_Wo_isOrIsAbove_24 (by decide) rfl (jl_inc _) ?_
          show jl_W l G m_Wo_isOrIsAbove (0, 0) 27 [some (.ref 1), some (.int (nI h)), some (.int (en x0)), some (.int (en (pr (j)))), some (.int (nI (i + 1)))] [] (σ) (.inl (some (.int (bi (up pr h (6 - i) (some j) == some h))))) (σ)
          refine jr_goto 5 d_Wo_isOrIsAbove_27 (by decide) ?_
          exact jl_oeq (by rw [show 6 - i = (6 - (i + 1)) + 1 by omega]; simp only [up]; rw [if_neg (by omega)]) (ihn (i + 1) (pr j) (by omega) (by omega) (hok j))
theorem d_Wo_isOrIsAbove_0 : decode m_Wo_isOrIsAbove.2.1 0 = .ok (.iload_n 2, 1) := by decide +kernel
theorem d_Wo_isOrIsAbove_1 : decode m_Wo_isOrIsAbove.2.1 1 = .ok (.istore_n 3, 1) := by decide +kernel
theorem d_Wo_isOrIsAbove_2 : decode m_Wo_isOrIsAbove.2.1 2 = .ok (.iconst 0, 1) := by decide +kernel
theorem d_Wo_isOrIsAbove_3 : decode m_Wo_isOrIsAbove.2.1 3 = .ok (.istore 4, 2) := by decide +kernel
theorem wo_above (hl : l.stackTraces = false) {h : Nat} {x : Option Nat} (hw : WoAt σ tb pr ow fi ft mt) (hh : h < 2 ^ 31) (hok : ∀ j, ob 6 (pr j)) (hx : ob 6 x) : jl_m l G m_Wo_isOrIsAbove [.ref 1, .int (nI h), .int (en x)] σ (.inl (some (.int (bi (ab pr h x))))) (σ) := by
  obtain ⟨hW, h2, h3, h4, h5, h6, h7⟩ := id hw
  refine jl_of (as := [.ref 1, .int (nI h), .int (en x)]) rfl (by decide) hl (jl_cc rfl (jl_cc rfl (jl_cc rfl jl_ca))) (Nat.le_of_ble_eq_true rfl) ?_
  show jl_W l G m_Wo_isOrIsAbove (0, 0) 0 [some (.ref 1), some (.int (nI h)), some (.int (en x)), none, none] [] (σ) (.inl (some (.int (bi (ab pr h x))))) (σ)
  refine jr_iload_n d_Wo_isOrIsAbove_0 rfl ?_
  refine jr_istore_n d_Wo_isOrIsAbove_1 (by decide) ?_
  show jl_W l G m_Wo_isOrIsAbove (0, 0) 2 [some (.ref 1), some (.int (nI h)), some (.int (en x)), some (.int (en x)), none] [] (σ) (.inl (some (.int (bi (ab pr h x))))) (σ)
  refine jr_iconst ((nI (0))) d_Wo_isOrIsAbove_2 (by decide) ?_
  refine jr_istore d_Wo_isOrIsAbove_3 (by decide) ?_
  show jl_W l G m_Wo_isOrIsAbove (0, 0) 5 [some (.ref 1), some (.int (nI h)), some (.int (en x)), some (.int (en x)), some (.int (nI 0))] [] (σ) (.inl (some (.int (bi (ab pr h x))))) (σ)
  exact wo_up_loop hl hw hh hok 7 0 x (by omega) (by omega) hx
theorem d_Wo_hasTypesClass_0 : decode m_Wo_hasTypesClass.2.1 0 = .ok (.iload_n 1, 1) := by decide +kernel
theorem d_Wo_hasTypesClass_1 : decode m_Wo_hasTypesClass.2.1 1 = .ok (.bipush 10, 2) := by decide +kernel
theorem d_Wo_hasTypesClass_3 : decode m_Wo_hasTypesClass.2.1 3 = .ok (.if_icmp .lt 14, 3) := by decide +kernel
theorem d_Wo_hasTypesClass_17 : decode m_Wo_hasTypesClass.2.1 17 = .ok (.iconst 1, 1) := by decide +kernel
theorem d_Wo_hasTypesClass_18 : decode m_Wo_hasTypesClass.2.1 18 = .ok (.goto 4, 3) := by decide +kernel
theorem d_Wo_hasTypesClass_22 : decode m_Wo_hasTypesClass.2.1 22 = .ok (.ireturn, 1) := by decide +kernel
theorem d_Wo_hasTypesClass_6 : decode m_Wo_hasTypesClass.2.1 6 = .ok (.aload_n 0, 1) := by decide +kernel
theorem d_Wo_hasTypesClass_7 : decode m_Wo_hasTypesClass.2.1 7 = .ok (.iload_n 1, 1) := by decide +kernel
theorem d_Wo_hasTypesClass_8 : decode m_Wo_hasTypesClass.2.1 8 = .ok (.bipush 10, 2) := by decide +kernel
theorem d_Wo_hasTypesClass_10 : decode m_Wo_hasTypesClass.2.1 10 = .ok (.isub, 1) := by decide +kernel
theorem k_Wo_hasTypesClass_34 : jl_cv m_Wo_hasTypesClass m_Wo_has 34 1 = true := by decide +kernel
theorem d_Wo_hasTypesClass_11 : decode m_Wo_hasTypesClass.2.1 11 = .ok (.invokevirtual 34, 3) := by decide +kernel
theorem d_Wo_hasTypesClass_14 : decode m_Wo_hasTypesClass.2.1 14 = .ok (.ifCond .eq 7, 3) := by decide +kernel
theorem d_Wo_hasTypesClass_21 : decode m_Wo_hasTypesClass.2.1 21 = .ok (.iconst 0, 1) := by decide +kernel
theorem wo_tyok (hl : l.stackTraces = false) {x : Option Nat} (hw : WoAt σ tb pr ow fi ft mt) (hx : ob 16 x) : jl_m l G m_Wo_hasTypesClass [.ref 1, .int (en x)] σ (.inl (some (.int (bi (tyOk tb x))))) (σ) := by
  obtain ⟨hW, h2, h3, h4, h5, h6, h7⟩ := id hw
  refine jl_of (as := [.ref 1, .int (en x)]) rfl (by decide) hl (jl_cc rfl (jl_cc rfl jl_ca)) (Nat.le_of_ble_eq_true rfl) ?_
  show jl_W l G m_Wo_hasTypesClass (0, 0) 0 [some (.ref 1), some (.int (en x))] [] (σ) (.inl (some (.int (bi (tyOk tb x))))) (σ)
  cases x with
  | none =>
    show jl_W l G m_Wo_hasTypesClass (0, 0) 0 [some (.ref 1), some (.int (-1))] [] (σ) (.inl (some (.int (bi (tyOk tb none))))) (σ)
    refine jr_iload_n d_Wo_hasTypesClass_0 rfl ?_
    refine jr_bipush ((nI (10))) d_Wo_hasTypesClass_1 (by decide) ?_
    refine jr_icmp_lt 17 d_Wo_hasTypesClass_3 (by decide) (fun _ => ?_) (fun z => absurd (en_m1lt (by omega)) z)
    refine jr_iconst ((nI (1))) d_Wo_hasTypesClass_17 (by decide) ?_
    refine jr_goto 22 d_Wo_hasTypesClass_18 (by decide) ?_
    exact jr_zretE d_Wo_hasTypesClass_22 rfl (by decide) (rfl) (rfl) (by decide) (by decide)
  | some t =>
    have ht := hx t rfl
    show jl_W l G m_Wo_hasTypesClass (0, 0) 0 [some (.ref 1), some (.int (nI t))] [] (σ) (.inl (some (.int (bi (tyOk tb (some t)))))) (σ)
    refine jr_iload_n d_Wo_hasTypesClass_0 rfl ?_
    refine jr_bipush ((nI (10))) d_Wo_hasTypesClass_1 (by decide) ?_
    refine jr_icmp_ltN 17 d_Wo_hasTypesClass_3 (by decide) (by omega) (by omega) (fun c1 => ?_) (fun c1 => ?_)
    · refine jr_iconst ((nI (1))) d_Wo_hasTypesClass_17 (by decide) ?_
      refine jr_goto 22 d_Wo_hasTypesClass_18 (by decide) ?_
      exact jr_zretE d_Wo_hasTypesClass_22 rfl (by decide) (by simp [tyOk, bi, nI_one, show t < 10 by omega]) (rfl) (by decide) (by decide)
    · refine jr_aload_n d_Wo_hasTypesClass_6 rfl ?_
      refine jr_iload_n d_Wo_hasTypesClass_7 rfl ?_
      refine jr_bipush ((nI (10))) d_Wo_hasTypesClass_8 (by decide) ?_
      refine jr_isubN d_Wo_hasTypesClass_10 (by omega) ?_
      refine jr_callV (As := [.int (nI ((t) - (10)))]) d_Wo_hasTypesClass_11 k_Wo_hasTypesClass_34 hW rfl rfl rfl (Nat.le_of_ble_eq_true rfl) (by decide) (by decide) (wo_has hl hw) ?_
      show jl_W l G m_Wo_hasTypesClass (0, 0) 14 [some (.ref 1), some (.int (nI t))] [.int (bi (hasI tb (nI (t - 10))))] (σ) (.inl (some (.int (bi (tyOk tb (some t)))))) (σ)
      refine jr_if_eq 21 d_Wo_hasTypesClass_14 (by decide) (fun c2 => ?_) (fun c2 => ?_)
      · refine jr_iconst ((nI (0))) d_Wo_hasTypesClass_21 (by decide) ?_
        exact jr_zretE d_Wo_hasTypesClass_22 rfl (by decide) (by have q := bi_0.mp c2; rw [hasI_n (by omega)] at q; simp [tyOk, bi, nI_0, q, show ¬ t < 10 by omega]) (rfl) (by decide) (by decide)
      · refine jr_iconst ((nI (1))) d_Wo_hasTypesClass_17 (by decide) ?_
        refine jr_goto 22 d_Wo_hasTypesClass_18 (by decide) ?_
        exact jr_zretE d_Wo_hasTypesClass_22 rfl (by decide) (by have q := bi_nf c2; rw [hasI_n (by omega)] at q; simp [tyOk, bi, nI_one, q]) (rfl) (by decide) (by decide)
theorem d_Wo_isPart_0 : decode m_Wo_isPart.2.1 0 = .ok (.iload_n 1, 1) := by decide +kernel
theorem d_Wo_isPart_1 : decode m_Wo_isPart.2.1 1 = .ok (.iload_n 2, 1) := by decide +kernel
theorem d_Wo_isPart_2 : decode m_Wo_isPart.2.1 2 = .ok (.if_icmp .ne 5, 3) := by decide +kernel
theorem d_Wo_isPart_7 : decode m_Wo_isPart.2.1 7 = .ok (.iload_n 1, 1) := by decide +kernel
theorem d_Wo_isPart_8 : decode m_Wo_isPart.2.1 8 = .ok (.iconst 2, 1) := by decide +kernel
theorem d_Wo_isPart_9 : decode m_Wo_isPart.2.1 9 = .ok (.if_icmp .ne 20, 3) := by decide +kernel
theorem d_Wo_isPart_29 : decode m_Wo_isPart.2.1 29 = .ok (.iload_n 1, 1) := by decide +kernel
theorem d_Wo_isPart_30 : decode m_Wo_isPart.2.1 30 = .ok (.bipush 10, 2) := by decide +kernel
theorem d_Wo_isPart_32 : decode m_Wo_isPart.2.1 32 = .ok (.if_icmp .lt 28, 3) := by decide +kernel
theorem d_Wo_isPart_60 : decode m_Wo_isPart.2.1 60 = .ok (.iconst 0, 1) := by decide +kernel
theorem d_Wo_isPart_61 : decode m_Wo_isPart.2.1 61 = .ok (.ireturn, 1) := by decide +kernel
theorem d_Wo_isPart_35 : decode m_Wo_isPart.2.1 35 = .ok (.iload_n 2, 1) := by decide +kernel
theorem d_Wo_isPart_36 : decode m_Wo_isPart.2.1 36 = .ok (.bipush 10, 2) := by decide +kernel
theorem d_Wo_isPart_38 : decode m_Wo_isPart.2.1 38 = .ok (.if_icmp .lt 22, 3) := by decide +kernel
theorem d_Wo_isPart_41 : decode m_Wo_isPart.2.1 41 = .ok (.aload_n 0, 1) := by decide +kernel
theorem d_Wo_isPart_42 : decode m_Wo_isPart.2.1 42 = .ok (.iload_n 2, 1) := by decide +kernel
theorem d_Wo_isPart_43 : decode m_Wo_isPart.2.1 43 = .ok (.bipush 10, 2) := by decide +kernel
theorem d_Wo_isPart_45 : decode m_Wo_isPart.2.1 45 = .ok (.isub, 1) := by decide +kernel
theorem d_Wo_isPart_46 : decode m_Wo_isPart.2.1 46 = .ok (.iload_n 1, 1) := by decide +kernel
theorem d_Wo_isPart_47 : decode m_Wo_isPart.2.1 47 = .ok (.bipush 10, 2) := by decide +kernel
theorem d_Wo_isPart_49 : decode m_Wo_isPart.2.1 49 = .ok (.isub, 1) := by decide +kernel
theorem k_Wo_isPart_49 : jl_cv m_Wo_isPart m_Wo_isOrIsAbove 49 2 = true := by decide +kernel
theorem d_Wo_isPart_50 : decode m_Wo_isPart.2.1 50 = .ok (.invokevirtual 49, 3) := by decide +kernel
theorem d_Wo_isPart_53 : decode m_Wo_isPart.2.1 53 = .ok (.ifCond .eq 7, 3) := by decide +kernel
theorem d_Wo_isPart_56 : decode m_Wo_isPart.2.1 56 = .ok (.iconst 1, 1) := by decide +kernel
theorem d_Wo_isPart_57 : decode m_Wo_isPart.2.1 57 = .ok (.goto 4, 3) := by decide +kernel
theorem d_Wo_isPart_12 : decode m_Wo_isPart.2.1 12 = .ok (.iload_n 2, 1) := by decide +kernel
theorem d_Wo_isPart_13 : decode m_Wo_isPart.2.1 13 = .ok (.iconst 1, 1) := by decide +kernel
theorem d_Wo_isPart_14 : decode m_Wo_isPart.2.1 14 = .ok (.if_icmp .eq 9, 3) := by decide +kernel
theorem d_Wo_isPart_17 : decode m_Wo_isPart.2.1 17 = .ok (.iload_n 2, 1) := by decide +kernel
theorem d_Wo_isPart_18 : decode m_Wo_isPart.2.1 18 = .ok (.bipush 10, 2) := by decide +kernel
theorem d_Wo_isPart_20 : decode m_Wo_isPart.2.1 20 = .ok (.if_icmp .lt 7, 3) := by decide +kernel
theorem d_Wo_isPart_27 : decode m_Wo_isPart.2.1 27 = .ok (.iconst 0, 1) := by decide +kernel
theorem d_Wo_isPart_28 : decode m_Wo_isPart.2.1 28 = .ok (.ireturn, 1) := by decide +kernel
theorem d_Wo_isPart_23 : decode m_Wo_isPart.2.1 23 = .ok (.iconst 1, 1) := by decide +kernel
theorem d_Wo_isPart_24 : decode m_Wo_isPart.2.1 24 = .ok (.goto 4, 3) := by decide +kernel
theorem d_Wo_isPart_5 : decode m_Wo_isPart.2.1 5 = .ok (.iconst 1, 1) := by decide +kernel
theorem d_Wo_isPart_6 : decode m_Wo_isPart.2.1 6 = .ok (.ireturn, 1) := by decide +kernel
theorem wo_part (hl : l.stackTraces = false) {x y : Option Nat} (hw : WoAt σ tb pr ow fi ft mt) (hok : ∀ j, ob 6 (pr j)) (hx : ob 16 x) (hy : ob 16 y) : jl_m l G m_Wo_isPart [.ref 1, .int (en x), .int (en y)] σ (.inl (some (.int (bi (part pr x y))))) (σ) := by
  obtain ⟨hW, h2, h3, h4, h5, h6, h7⟩ := id hw
  refine jl_of (as := [.ref 1, .int (en x), .int (en y)]) rfl (by decide) hl (jl_cc rfl (jl_cc rfl (jl_cc rfl jl_ca))) (Nat.le_of_ble_eq_true rfl) ?_
  show jl_W l G m_Wo_isPart (0, 0) 0 [some (.ref 1), some (.int (en x)), some (.int (en y))] [] (σ) (.inl (some (.int (bi (part pr x y))))) (σ)
  refine jr_iload_n d_Wo_isPart_0 rfl ?_
  refine jr_iload_n d_Wo_isPart_1 rfl ?_
  refine jr_icmp_ne 7 d_Wo_isPart_2 (by decide) (fun c1 => ?_) (fun c1 => ?_)
  · cases x with
    | none =>
      show jl_W l G m_Wo_isPart (0, 0) 7 [some (.ref 1), some (.int (-1)), some (.int (en y))] [] (σ) (.inl (some (.int (bi (part pr none y))))) (σ)
      refine jr_iload_n d_Wo_isPart_7 rfl ?_
      refine jr_iconst ((nI (2))) d_Wo_isPart_8 (by decide) ?_
      refine jr_icmp_ne 29 d_Wo_isPart_9 (by decide) (fun _ => ?_) (fun z => absurd z (fun q => en_m1ne (by omega) q.symm))
      refine jr_iload_n d_Wo_isPart_29 rfl ?_
      refine jr_bipush ((nI (10))) d_Wo_isPart_30 (by decide) ?_
      refine jr_icmp_lt 60 d_Wo_isPart_32 (by decide) (fun _ => ?_) (fun z => absurd (en_m1lt (by omega)) z)
      refine jr_iconst ((nI (0))) d_Wo_isPart_60 (by decide) ?_
      exact jr_zretE d_Wo_isPart_61 rfl (by decide) (by unfold part; rw [if_neg (fun q => c1 (by rw [q]))]; rfl) (rfl) (by decide) (by decide)
    | some a =>
      have ha := hx a rfl
      show jl_W l G m_Wo_isPart (0, 0) 7 [some (.ref 1), some (.int (nI a)), some (.int (en y))] [] (σ) (.inl (some (.int (bi (part pr (some a) y))))) (σ)
      refine jr_iload_n d_Wo_isPart_7 rfl ?_
      refine jr_iconst ((nI (2))) d_Wo_isPart_8 (by decide) ?_
      refine jr_icmp_neN 29 d_Wo_isPart_9 (by decide) (by omega) (by omega) (fun c2 => ?_) (fun c2 => ?_)
      · refine jr_iload_n d_Wo_isPart_29 rfl ?_
        refine jr_bipush ((nI (10))) d_Wo_isPart_30 (by decide) ?_
        refine jr_icmp_ltN 60 d_Wo_isPart_32 (by decide) (by omega) (by omega) (fun c3 => ?_) (fun c3 => ?_)
        · refine jr_iconst ((nI (0))) d_Wo_isPart_60 (by decide) ?_
          exact jr_zretE d_Wo_isPart_61 rfl (by decide) (by unfold part; rw [if_neg (fun q => c1 (by rw [q]))]; cases y with | none => rfl | some b => simp [bi, nI_0, c2, show ¬ 10 ≤ a by omega]) (rfl) (by decide) (by decide)
        · cases y with
          | none =>
            show jl_W l G m_Wo_isPart (0, 0) 35 [some (.ref 1), some (.int (nI a)), some (.int (-1))] [] (σ) (.inl (some (.int (bi (part pr (some a) none))))) (σ)
            refine jr_iload_n d_Wo_isPart_35 rfl ?_
            refine jr_bipush ((nI (10))) d_Wo_isPart_36 (by decide) ?_
            refine jr_icmp_lt 60 d_Wo_isPart_38 (by decide) (fun _ => ?_) (fun z => absurd (en_m1lt (by omega)) z)
            refine jr_iconst ((nI (0))) d_Wo_isPart_60 (by decide) ?_
            exact jr_zretE d_Wo_isPart_61 rfl (by decide) (by unfold part; rw [if_neg (fun q => c1 (by rw [q]))]; rfl) (rfl) (by decide) (by decide)
          | some b =>
            have hb := hy b rfl
            show jl_W l G m_Wo_isPart (0, 0) 35 [some (.ref 1), some (.int (nI a)), some (.int (nI b))] [] (σ) (.inl (some (.int (bi (part pr (some a) (some b)))))) (σ)
            refine jr_iload_n d_Wo_isPart_35 rfl ?_
            refine jr_bipush ((nI (10))) d_Wo_isPart_36 (by decide) ?_
            refine jr_icmp_ltN 60 d_Wo_isPart_38 (by decide) (by omega) (by omega) (fun c4 => ?_) (fun c4 => ?_)
            · refine jr_iconst ((nI (0))) d_Wo_isPart_60 (by decide) ?_
              exact jr_zretE d_Wo_isPart_61 rfl (by decide) (by unfold part; rw [if_neg (fun q => c1 (by rw [q]))]; simp [bi, nI_0, nI_one, show a ≠ 2 by omega, show 10 ≤ a by omega, show ¬ 10 ≤ b by omega]) (rfl) (by decide) (by decide)
            · refine jr_aload_n d_Wo_isPart_41 rfl ?_
              refine jr_iload_n d_Wo_isPart_42 rfl ?_
              refine jr_bipush ((nI (10))) d_Wo_isPart_43 (by decide) ?_
              refine jr_isubN d_Wo_isPart_45 (by omega) ?_
              refine jr_iload_n d_Wo_isPart_46 rfl ?_
              refine jr_bipush ((nI (10))) d_Wo_isPart_47 (by decide) ?_
              refine jr_isubN d_Wo_isPart_49 (by omega) ?_
              refine jr_callV (As := [.int (nI ((b) - (10))), .int (nI ((a) - (10)))]) d_Wo_isPart_50 k_Wo_isPart_49 hW rfl rfl rfl (Nat.le_of_ble_eq_true rfl) (by decide) (by decide) (wo_above (x := some (a - 10)) hl hw (by omega) hok (fun z hz => by cases hz; omega)) ?_
              show jl_W l G m_Wo_isPart (0, 0) 53 [some (.ref 1), some (.int (nI a)), some (.int (nI b))] [.int (bi (ab pr (b - 10) (some (a - 10))))] (σ) (.inl (some (.int (bi (part pr (some a) (some b)))))) (σ)
              refine jr_if_eq 60 d_Wo_isPart_53 (by decide) (fun c5 => ?_) (fun c5 => ?_)
              · refine jr_iconst ((nI (0))) d_Wo_isPart_60 (by decide) ?_
                exact jr_zretE d_Wo_isPart_61 rfl (by decide) (by unfold part; rw [if_neg (fun q => c1 (by rw [q]))]; simp [bi, nI_0, nI_one, show a ≠ 2 by omega, show 10 ≤ a by omega, show 10 ≤ b by omega, bi_0.mp c5]) (rfl) (by decide) (by decide)
              · refine jr_iconst ((nI (1))) d_Wo_isPart_56 (by decide) ?_
                refine jr_goto 61 d_Wo_isPart_57 (by decide) ?_
                exact jr_zretE d_Wo_isPart_61 rfl (by decide) (by unfold part; rw [if_neg (fun q => c1 (by rw [q]))]; simp [bi, nI_0, nI_one, show a ≠ 2 by omega, show 10 ≤ a by omega, show 10 ≤ b by omega, bi_nf c5]) (rfl) (by decide) (by decide)
      · cases y with
        | none =>
          show jl_W l G m_Wo_isPart (0, 0) 12 [some (.ref 1), some (.int (nI a)), some (.int (-1))] [] (σ) (.inl (some (.int (bi (part pr (some a) none))))) (σ)
          refine jr_iload_n d_Wo_isPart_12 rfl ?_
          refine jr_iconst ((nI (1))) d_Wo_isPart_13 (by decide) ?_
          refine jr_icmp_eq 23 d_Wo_isPart_14 (by decide) (fun z => absurd z (fun q => en_m1ne (by omega) q.symm)) (fun _ => ?_)
          refine jr_iload_n d_Wo_isPart_17 rfl ?_
          refine jr_bipush ((nI (10))) d_Wo_isPart_18 (by decide) ?_
          refine jr_icmp_lt 27 d_Wo_isPart_20 (by decide) (fun _ => ?_) (fun z => absurd (en_m1lt (by omega)) z)
          refine jr_iconst ((nI (0))) d_Wo_isPart_27 (by decide) ?_
          exact jr_zretE d_Wo_isPart_28 rfl (by decide) (by unfold part; rw [if_neg (fun q => c1 (by rw [q]))]; rfl) (rfl) (by decide) (by decide)
        | some b =>
          have hb := hy b rfl
          show jl_W l G m_Wo_isPart (0, 0) 12 [some (.ref 1), some (.int (nI a)), some (.int (nI b))] [] (σ) (.inl (some (.int (bi (part pr (some a) (some b)))))) (σ)
          refine jr_iload_n d_Wo_isPart_12 rfl ?_
          refine jr_iconst ((nI (1))) d_Wo_isPart_13 (by decide) ?_
          refine jr_icmp_eqN 23 d_Wo_isPart_14 (by decide) (by omega) (by omega) (fun c6 => ?_) (fun c6 => ?_)
          · refine jr_iconst ((nI (1))) d_Wo_isPart_23 (by decide) ?_
            refine jr_goto 28 d_Wo_isPart_24 (by decide) ?_
            exact jr_zretE d_Wo_isPart_28 rfl (by decide) (by unfold part; rw [if_neg (fun q => c1 (by rw [q]))]; simp [bi, nI_0, nI_one, show a = 2 by omega, show b = 1 by omega]) (rfl) (by decide) (by decide)
          · refine jr_iload_n d_Wo_isPart_17 rfl ?_
            refine jr_bipush ((nI (10))) d_Wo_isPart_18 (by decide) ?_
            refine jr_icmp_ltN 27 d_Wo_isPart_20 (by decide) (by omega) (by omega) (fun c7 => ?_) (fun c7 => ?_)
            · refine jr_iconst ((nI (0))) d_Wo_isPart_27 (by decide) ?_
              exact jr_zretE d_Wo_isPart_28 rfl (by decide) (by unfold part; rw [if_neg (fun q => c1 (by rw [q]))]; simp [bi, nI_0, nI_one, show a = 2 by omega, show b ≠ 1 by omega, show ¬ 10 ≤ b by omega]) (rfl) (by decide) (by decide)
            · refine jr_iconst ((nI (1))) d_Wo_isPart_23 (by decide) ?_
              refine jr_goto 28 d_Wo_isPart_24 (by decide) ?_
              exact jr_zretE d_Wo_isPart_28 rfl (by decide) (by unfold part; rw [if_neg (fun q => c1 (by rw [q]))]; simp [bi, nI_0, nI_one, show a = 2 by omega, show b ≠ 1 by omega, show 10 ≤ b by omega]) (rfl) (by decide) (by decide)
  · refine jr_iconst ((nI (1))) d_Wo_isPart_5 (by decide) ?_
    exact jr_zretE d_Wo_isPart_6 rfl (by decide) (by unfold part; rw [if_pos ((en_inj (ob_w hx (by decide)) (ob_w hy (by decide))).mp c1)]; rfl) (rfl) (by decide) (by decide)
end JWo
