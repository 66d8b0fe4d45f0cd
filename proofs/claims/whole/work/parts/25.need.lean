/-! JavaChain: what throws (wip/gen/p25.py) -/
section JSt
variable {l : Launch} {G : jl_G} {σ : jl_S}
theorem d_JC_needRange_0 : decode m_JC_needRange.2.1 0 = .ok (.iload_n 0, 1) := by decide +kernel
theorem d_JC_needRange_1 : decode m_JC_needRange.2.1 1 = .ok (.iload_n 1, 1) := by decide +kernel
theorem d_JC_needRange_2 : decode m_JC_needRange.2.1 2 = .ok (.if_icmp .lt 8, 3) := by decide +kernel
theorem t_JC_needRange_10 : jl_tw m_JC_needRange 191 193 "java/lang/IllegalArgumentException" = true := by decide +kernel
theorem d_JC_needRange_10 : decode m_JC_needRange.2.1 10 = .ok (.new 191, 3) := by decide +kernel
theorem d_JC_needRange_13 : decode m_JC_needRange.2.1 13 = .ok (.dup, 1) := by decide +kernel
theorem d_JC_needRange_14 : decode m_JC_needRange.2.1 14 = .ok (.invokespecial 193, 3) := by decide +kernel
theorem d_JC_needRange_17 : decode m_JC_needRange.2.1 17 = .ok (.athrow, 1) := by decide +kernel
theorem d_JC_needRange_5 : decode m_JC_needRange.2.1 5 = .ok (.iload_n 0, 1) := by decide +kernel
theorem d_JC_needRange_6 : decode m_JC_needRange.2.1 6 = .ok (.iload_n 2, 1) := by decide +kernel
theorem d_JC_needRange_7 : decode m_JC_needRange.2.1 7 = .ok (.if_icmp .le 11, 3) := by decide +kernel
theorem d_JC_needRange_18 : decode m_JC_needRange.2.1 18 = .ok (.return_, 1) := by decide +kernel
theorem jc_range0 (hl : l.stackTraces = false) {n lo hi : Int32}  : jl_m l G m_JC_needRange [.int (n), .int (lo), .int (hi)] σ (if n < lo then .inr xA else if hi < n then .inr xA else .inl none) (σ) := by
  refine jl_of (as := [.int (n), .int (lo), .int (hi)]) rfl (by decide) hl (jl_cc rfl (jl_cc rfl (jl_cc rfl jl_ca))) (Nat.le_of_ble_eq_true rfl) ?_
  show jl_W l G m_JC_needRange (0, 0) 0 [some (.int (n)), some (.int (lo)), some (.int (hi))] [] (σ) (if n < lo then .inr xA else if hi < n then .inr xA else .inl none) (σ)
  refine jr_iload_n d_JC_needRange_0 rfl ?_
  refine jr_iload_n d_JC_needRange_1 rfl ?_
  refine jr_icmp_lt 10 d_JC_needRange_2 (by decide) (fun c1 => ?_) (fun c1 => ?_)
  · exact jr_throwE d_JC_needRange_10 d_JC_needRange_13 d_JC_needRange_14 d_JC_needRange_17 t_JC_needRange_10 (by rw [if_pos c1]) rfl (by decide) (by decide)
  · refine jr_iload_n d_JC_needRange_5 rfl ?_
    refine jr_iload_n d_JC_needRange_6 rfl ?_
    refine jr_icmp_le 18 d_JC_needRange_7 (by decide) (fun c2 => ?_) (fun c2 => ?_)
    · exact jr_vretE d_JC_needRange_18 rfl (by rw [if_neg c1, if_neg (Int32.not_lt.mpr c2)]) (rfl) (by decide) (by decide)
    · exact jr_throwE d_JC_needRange_10 d_JC_needRange_13 d_JC_needRange_14 d_JC_needRange_17 t_JC_needRange_10 (by rw [if_neg c1, if_pos (Int32.not_le.mp c2)]) rfl (by decide) (by decide)
theorem d_JC_needThere_0 : decode m_JC_needThere.2.1 0 = .ok (.iload_n 0, 1) := by decide +kernel
theorem d_JC_needThere_1 : decode m_JC_needThere.2.1 1 = .ok (.ifCond .ne 11, 3) := by decide +kernel
theorem d_JC_needThere_12 : decode m_JC_needThere.2.1 12 = .ok (.return_, 1) := by decide +kernel
theorem t_JC_needThere_4 : jl_tw m_JC_needThere 197 199 "java/util/NoSuchElementException" = true := by decide +kernel
theorem d_JC_needThere_4 : decode m_JC_needThere.2.1 4 = .ok (.new 197, 3) := by decide +kernel
theorem d_JC_needThere_7 : decode m_JC_needThere.2.1 7 = .ok (.dup, 1) := by decide +kernel
theorem d_JC_needThere_8 : decode m_JC_needThere.2.1 8 = .ok (.invokespecial 199, 3) := by decide +kernel
theorem d_JC_needThere_11 : decode m_JC_needThere.2.1 11 = .ok (.athrow, 1) := by decide +kernel
theorem jc_there (hl : l.stackTraces = false) {b : Bool}  : jl_m l G m_JC_needThere [.int (bi b)] σ (if b then .inl none else .inr xN) (σ) := by
  refine jl_of (as := [.int (bi b)]) rfl (by decide) hl (jl_cc rfl jl_ca) (Nat.le_of_ble_eq_true rfl) ?_
  show jl_W l G m_JC_needThere (0, 0) 0 [some (.int (bi b))] [] (σ) (if b then .inl none else .inr xN) (σ)
  refine jr_iload_n d_JC_needThere_0 rfl ?_
  refine jr_if_ne 12 d_JC_needThere_1 (by decide) (fun c1 => ?_) (fun c1 => ?_)
  · exact jr_vretE d_JC_needThere_12 rfl (by rw [bi_nf c1]; rfl) (rfl) (by decide) (by decide)
  · exact jr_throwE d_JC_needThere_4 d_JC_needThere_7 d_JC_needThere_8 d_JC_needThere_11 t_JC_needThere_4 (by rw [bi_0.mp c1]; rfl) rfl (by decide) (by decide)
theorem d_JC_needState_0 : decode m_JC_needState.2.1 0 = .ok (.iload_n 0, 1) := by decide +kernel
theorem d_JC_needState_1 : decode m_JC_needState.2.1 1 = .ok (.ifCond .ne 11, 3) := by decide +kernel
theorem d_JC_needState_12 : decode m_JC_needState.2.1 12 = .ok (.return_, 1) := by decide +kernel
theorem t_JC_needState_4 : jl_tw m_JC_needState 200 202 "java/lang/IllegalStateException" = true := by decide +kernel
theorem d_JC_needState_4 : decode m_JC_needState.2.1 4 = .ok (.new 200, 3) := by decide +kernel
theorem d_JC_needState_7 : decode m_JC_needState.2.1 7 = .ok (.dup, 1) := by decide +kernel
theorem d_JC_needState_8 : decode m_JC_needState.2.1 8 = .ok (.invokespecial 202, 3) := by decide +kernel
theorem d_JC_needState_11 : decode m_JC_needState.2.1 11 = .ok (.athrow, 1) := by decide +kernel
theorem jc_state (hl : l.stackTraces = false) {b : Bool}  : jl_m l G m_JC_needState [.int (bi b)] σ (if b then .inl none else .inr xS) (σ) := by
  refine jl_of (as := [.int (bi b)]) rfl (by decide) hl (jl_cc rfl jl_ca) (Nat.le_of_ble_eq_true rfl) ?_
  show jl_W l G m_JC_needState (0, 0) 0 [some (.int (bi b))] [] (σ) (if b then .inl none else .inr xS) (σ)
  refine jr_iload_n d_JC_needState_0 rfl ?_
  refine jr_if_ne 12 d_JC_needState_1 (by decide) (fun c1 => ?_) (fun c1 => ?_)
  · exact jr_vretE d_JC_needState_12 rfl (by rw [bi_nf c1]; rfl) (rfl) (by decide) (by decide)
  · exact jr_throwE d_JC_needState_4 d_JC_needState_7 d_JC_needState_8 d_JC_needState_11 t_JC_needState_4 (by rw [bi_0.mp c1]; rfl) rfl (by decide) (by decide)
theorem d_JC_needSupport_0 : decode m_JC_needSupport.2.1 0 = .ok (.iload_n 0, 1) := by decide +kernel
theorem d_JC_needSupport_1 : decode m_JC_needSupport.2.1 1 = .ok (.ifCond .ne 11, 3) := by decide +kernel
theorem d_JC_needSupport_12 : decode m_JC_needSupport.2.1 12 = .ok (.return_, 1) := by decide +kernel
theorem t_JC_needSupport_4 : jl_tw m_JC_needSupport 203 205 "java/lang/UnsupportedOperationException" = true := by decide +kernel
theorem d_JC_needSupport_4 : decode m_JC_needSupport.2.1 4 = .ok (.new 203, 3) := by decide +kernel
theorem d_JC_needSupport_7 : decode m_JC_needSupport.2.1 7 = .ok (.dup, 1) := by decide +kernel
theorem d_JC_needSupport_8 : decode m_JC_needSupport.2.1 8 = .ok (.invokespecial 205, 3) := by decide +kernel
theorem d_JC_needSupport_11 : decode m_JC_needSupport.2.1 11 = .ok (.athrow, 1) := by decide +kernel
theorem jc_support (hl : l.stackTraces = false) {b : Bool}  : jl_m l G m_JC_needSupport [.int (bi b)] σ (if b then .inl none else .inr xU) (σ) := by
  refine jl_of (as := [.int (bi b)]) rfl (by decide) hl (jl_cc rfl jl_ca) (Nat.le_of_ble_eq_true rfl) ?_
  show jl_W l G m_JC_needSupport (0, 0) 0 [some (.int (bi b))] [] (σ) (if b then .inl none else .inr xU) (σ)
  refine jr_iload_n d_JC_needSupport_0 rfl ?_
  refine jr_if_ne 12 d_JC_needSupport_1 (by decide) (fun c1 => ?_) (fun c1 => ?_)
  · exact jr_vretE d_JC_needSupport_12 rfl (by rw [bi_nf c1]; rfl) (rfl) (by decide) (by decide)
  · exact jr_throwE d_JC_needSupport_4 d_JC_needSupport_7 d_JC_needSupport_8 d_JC_needSupport_11 t_JC_needSupport_4 (by rw [bi_0.mp c1]; rfl) rfl (by decide) (by decide)
theorem d_JC_needIndex_0 : decode m_JC_needIndex.2.1 0 = .ok (.iload_n 0, 1) := by decide +kernel
theorem d_JC_needIndex_1 : decode m_JC_needIndex.2.1 1 = .ok (.ifCond .ne 11, 3) := by decide +kernel
theorem d_JC_needIndex_12 : decode m_JC_needIndex.2.1 12 = .ok (.return_, 1) := by decide +kernel
theorem t_JC_needIndex_4 : jl_tw m_JC_needIndex 206 208 "java/lang/IndexOutOfBoundsException" = true := by decide +kernel
theorem d_JC_needIndex_4 : decode m_JC_needIndex.2.1 4 = .ok (.new 206, 3) := by decide +kernel
theorem d_JC_needIndex_7 : decode m_JC_needIndex.2.1 7 = .ok (.dup, 1) := by decide +kernel
theorem d_JC_needIndex_8 : decode m_JC_needIndex.2.1 8 = .ok (.invokespecial 208, 3) := by decide +kernel
theorem d_JC_needIndex_11 : decode m_JC_needIndex.2.1 11 = .ok (.athrow, 1) := by decide +kernel
theorem jc_index (hl : l.stackTraces = false) {b : Bool}  : jl_m l G m_JC_needIndex [.int (bi b)] σ (if b then .inl none else .inr xB) (σ) := by
  refine jl_of (as := [.int (bi b)]) rfl (by decide) hl (jl_cc rfl jl_ca) (Nat.le_of_ble_eq_true rfl) ?_
  show jl_W l G m_JC_needIndex (0, 0) 0 [some (.int (bi b))] [] (σ) (if b then .inl none else .inr xB) (σ)
  refine jr_iload_n d_JC_needIndex_0 rfl ?_
  refine jr_if_ne 12 d_JC_needIndex_1 (by decide) (fun c1 => ?_) (fun c1 => ?_)
  · exact jr_vretE d_JC_needIndex_12 rfl (by rw [bi_nf c1]; rfl) (rfl) (by decide) (by decide)
  · exact jr_throwE d_JC_needIndex_4 d_JC_needIndex_7 d_JC_needIndex_8 d_JC_needIndex_11 t_JC_needIndex_4 (by rw [bi_0.mp c1]; rfl) rfl (by decide) (by decide)
theorem d_JC_isDeclarable_0 : decode m_JC_isDeclarable.2.1 0 = .ok (.iload_n 0, 1) := by decide +kernel
theorem d_JC_isDeclarable_1 : decode m_JC_isDeclarable.2.1 1 = .ok (.ifCond .eq 20, 3) := by decide +kernel
theorem d_JC_isDeclarable_21 : decode m_JC_isDeclarable.2.1 21 = .ok (.iconst 1, 1) := by decide +kernel
theorem d_JC_isDeclarable_22 : decode m_JC_isDeclarable.2.1 22 = .ok (.goto 4, 3) := by decide +kernel
theorem d_JC_isDeclarable_26 : decode m_JC_isDeclarable.2.1 26 = .ok (.ireturn, 1) := by decide +kernel
theorem d_JC_isDeclarable_4 : decode m_JC_isDeclarable.2.1 4 = .ok (.iload_n 0, 1) := by decide +kernel
theorem d_JC_isDeclarable_5 : decode m_JC_isDeclarable.2.1 5 = .ok (.iconst 1, 1) := by decide +kernel
theorem d_JC_isDeclarable_6 : decode m_JC_isDeclarable.2.1 6 = .ok (.if_icmp .eq 15, 3) := by decide +kernel
theorem d_JC_isDeclarable_9 : decode m_JC_isDeclarable.2.1 9 = .ok (.iload_n 0, 1) := by decide +kernel
theorem d_JC_isDeclarable_10 : decode m_JC_isDeclarable.2.1 10 = .ok (.bipush 10, 2) := by decide +kernel
theorem d_JC_isDeclarable_12 : decode m_JC_isDeclarable.2.1 12 = .ok (.if_icmp .lt 13, 3) := by decide +kernel
theorem d_JC_isDeclarable_25 : decode m_JC_isDeclarable.2.1 25 = .ok (.iconst 0, 1) := by decide +kernel
theorem d_JC_isDeclarable_15 : decode m_JC_isDeclarable.2.1 15 = .ok (.iload_n 0, 1) := by decide +kernel
theorem d_JC_isDeclarable_16 : decode m_JC_isDeclarable.2.1 16 = .ok (.bipush 16, 2) := by decide +kernel
theorem d_JC_isDeclarable_18 : decode m_JC_isDeclarable.2.1 18 = .ok (.if_icmp .ge 7, 3) := by decide +kernel
theorem jc_decl (hl : l.stackTraces = false) {t : Int32}  : jl_m l G m_JC_isDeclarable [.int (t)] σ (.inl (some (.int (bi (isTyp t))))) (σ) := by
  refine jl_of (as := [.int (t)]) rfl (by decide) hl (jl_cc rfl jl_ca) (Nat.le_of_ble_eq_true rfl) ?_
  show jl_W l G m_JC_isDeclarable (0, 0) 0 [some (.int (t))] [] (σ) (.inl (some (.int (bi (isTyp t))))) (σ)
  refine jr_iload_n d_JC_isDeclarable_0 rfl ?_
  refine jr_if_eq 21 d_JC_isDeclarable_1 (by decide) (fun c1 => ?_) (fun c1 => ?_)
  · refine jr_iconst ((nI (1))) d_JC_isDeclarable_21 (by decide) ?_
    refine jr_goto 26 d_JC_isDeclarable_22 (by decide) ?_
    exact jr_zretE d_JC_isDeclarable_26 rfl (by decide) (by unfold isTyp; simp only [if_pos c1]; rfl) (rfl) (by decide) (by decide)
  · refine jr_iload_n d_JC_isDeclarable_4 rfl ?_
    refine jr_iconst ((nI (1))) d_JC_isDeclarable_5 (by decide) ?_
    refine jr_icmp_eq 21 d_JC_isDeclarable_6 (by decide) (fun c2 => ?_) (fun c2 => ?_)
    · refine jr_iconst ((nI (1))) d_JC_isDeclarable_21 (by decide) ?_
      refine jr_goto 26 d_JC_isDeclarable_22 (by decide) ?_
      exact jr_zretE d_JC_isDeclarable_26 rfl (by decide) (by unfold isTyp; simp only [if_neg c1, if_pos c2]; rfl) (rfl) (by decide) (by decide)
    · refine jr_iload_n d_JC_isDeclarable_9 rfl ?_
      refine jr_bipush ((nI (10))) d_JC_isDeclarable_10 (by decide) ?_
      refine jr_icmp_lt 25 d_JC_isDeclarable_12 (by decide) (fun c3 => ?_) (fun c3 => ?_)
      · refine jr_iconst ((nI (0))) d_JC_isDeclarable_25 (by decide) ?_
        exact jr_zretE d_JC_isDeclarable_26 rfl (by decide) (by unfold isTyp; simp only [if_neg c1, if_neg c2, if_pos c3]; rfl) (rfl) (by decide) (by decide)
      · refine jr_iload_n d_JC_isDeclarable_15 rfl ?_
        refine jr_bipush ((nI (16))) d_JC_isDeclarable_16 (by decide) ?_
        refine jr_icmp_ge 25 d_JC_isDeclarable_18 (by decide) (fun c4 => ?_) (fun c4 => ?_)
        · refine jr_iconst ((nI (0))) d_JC_isDeclarable_25 (by decide) ?_
          exact jr_zretE d_JC_isDeclarable_26 rfl (by decide) (by unfold isTyp; simp only [if_neg c1, if_neg c2, if_neg c3, if_pos c4]; rfl) (rfl) (by decide) (by decide)
        · refine jr_iconst ((nI (1))) d_JC_isDeclarable_21 (by decide) ?_
          refine jr_goto 26 d_JC_isDeclarable_22 (by decide) ?_
          exact jr_zretE d_JC_isDeclarable_26 rfl (by decide) (by unfold isTyp; simp only [if_neg c1, if_neg c2, if_neg c3, if_neg c4]; rfl) (rfl) (by decide) (by decide)
theorem d_JC_needType_0 : decode m_JC_needType.2.1 0 = .ok (.iload_n 0, 1) := by decide +kernel
theorem k_JC_needType_194 : jl_cz m_JC_needType m_JC_isDeclarable 194 1 = true := by decide +kernel
theorem d_JC_needType_1 : decode m_JC_needType.2.1 1 = .ok (.invokestatic 194, 3) := by decide +kernel
theorem d_JC_needType_4 : decode m_JC_needType.2.1 4 = .ok (.ifCond .ne 11, 3) := by decide +kernel
theorem d_JC_needType_15 : decode m_JC_needType.2.1 15 = .ok (.return_, 1) := by decide +kernel
theorem t_JC_needType_7 : jl_tw m_JC_needType 191 193 "java/lang/IllegalArgumentException" = true := by decide +kernel
theorem d_JC_needType_7 : decode m_JC_needType.2.1 7 = .ok (.new 191, 3) := by decide +kernel
theorem d_JC_needType_10 : decode m_JC_needType.2.1 10 = .ok (.dup, 1) := by decide +kernel
theorem d_JC_needType_11 : decode m_JC_needType.2.1 11 = .ok (.invokespecial 193, 3) := by decide +kernel
theorem d_JC_needType_14 : decode m_JC_needType.2.1 14 = .ok (.athrow, 1) := by decide +kernel
theorem jc_type (hl : l.stackTraces = false) {t : Int32}  : jl_m l G m_JC_needType [.int (t)] σ (if isTyp t then .inl none else .inr xA) (σ) := by
  refine jl_of (as := [.int (t)]) rfl (by decide) hl (jl_cc rfl jl_ca) (Nat.le_of_ble_eq_true rfl) ?_
  show jl_W l G m_JC_needType (0, 0) 0 [some (.int (t))] [] (σ) (if isTyp t then .inl none else .inr xA) (σ)
  refine jr_iload_n d_JC_needType_0 rfl ?_
  refine jr_callS (As := [.int (t)]) d_JC_needType_1 k_JC_needType_194 rfl (Nat.le_of_ble_eq_true rfl) (by decide) (by decide) (jc_decl hl) ?_
  show jl_W l G m_JC_needType (0, 0) 4 [some (.int (t))] [.int (bi (isTyp t))] (σ) (if isTyp t then .inl none else .inr xA) (σ)
  refine jr_if_ne 15 d_JC_needType_4 (by decide) (fun c1 => ?_) (fun c1 => ?_)
  · exact jr_vretE d_JC_needType_15 rfl (by rw [bi_nf c1]; rfl) (rfl) (by decide) (by decide)
  · exact jr_throwE d_JC_needType_7 d_JC_needType_10 d_JC_needType_11 d_JC_needType_14 t_JC_needType_7 (by rw [bi_0.mp c1]; rfl) rfl (by decide) (by decide)
theorem jc_rangeX (hl : l.stackTraces = false) {n lo hi : Int32} (h : n < lo ∨ hi < n) : jl_m l G m_JC_needRange [.int n, .int lo, .int hi] σ (.inr xA) σ := by
  have q := jc_range0 (G := G) (σ := σ) hl (n := n) (lo := lo) (hi := hi)
  by_cases h1 : n < lo
  · rw [if_pos h1] at q; exact q
  · rcases h with h | h
    · exact absurd h h1
    · rw [if_neg h1, if_pos h] at q; exact q
theorem jc_range (hl : l.stackTraces = false) {n lo hi : Int32} (h : ¬ (n < lo ∨ hi < n)) : jl_m l G m_JC_needRange [.int n, .int lo, .int hi] σ (.inl none) σ := by
  have q := jc_range0 (G := G) (σ := σ) hl (n := n) (lo := lo) (hi := hi)
  rw [if_neg (fun z => h (Or.inl z)), if_neg (fun z => h (Or.inr z))] at q
  exact q
end JSt
