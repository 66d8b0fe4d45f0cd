/-! needParameters, clashes (wip/gen/p40.py) -/
section JCl
variable {l : Launch} {G : jl_G} {σ : jl_S} {tb : Nat → Bool} {pr : Nat → Option Nat} {ow fi ft : Nat → Nat} {mt : Nat → Option Nat} {vf : Bool} {a : Nat} {q1 q2 : Option Nat} {rs : Nat} {op : Nat → Nat} {ag : Nat → Int32} {sz : Nat} {fr tt tg kd : Nat → Nat} {nc : Nat} {mp : Nat → Int32} {fh : Nat → Bool}
theorem d_JC_needParameters_0 : decode m_JC_needParameters.2.1 0 = .ok (.iload_n 0, 1) := by decide +kernel
theorem d_JC_needParameters_1 : decode m_JC_needParameters.2.1 1 = .ok (.iconst (-1), 1) := by decide +kernel
theorem d_JC_needParameters_2 : decode m_JC_needParameters.2.1 2 = .ok (.if_icmp .eq 10, 3) := by decide +kernel
theorem d_JC_needParameters_12 : decode m_JC_needParameters.2.1 12 = .ok (.iconst 1, 1) := by decide +kernel
theorem d_JC_needParameters_13 : decode m_JC_needParameters.2.1 13 = .ok (.goto 4, 3) := by decide +kernel
theorem d_JC_needParameters_17 : decode m_JC_needParameters.2.1 17 = .ok (.istore_n 2, 1) := by decide +kernel
theorem d_JC_needParameters_18 : decode m_JC_needParameters.2.1 18 = .ok (.iload_n 1, 1) := by decide +kernel
theorem d_JC_needParameters_19 : decode m_JC_needParameters.2.1 19 = .ok (.iconst (-1), 1) := by decide +kernel
theorem d_JC_needParameters_20 : decode m_JC_needParameters.2.1 20 = .ok (.if_icmp .eq 15, 3) := by decide +kernel
theorem d_JC_needParameters_35 : decode m_JC_needParameters.2.1 35 = .ok (.iconst 1, 1) := by decide +kernel
theorem d_JC_needParameters_36 : decode m_JC_needParameters.2.1 36 = .ok (.goto 4, 3) := by decide +kernel
theorem d_JC_needParameters_40 : decode m_JC_needParameters.2.1 40 = .ok (.istore_n 3, 1) := by decide +kernel
theorem d_JC_needParameters_41 : decode m_JC_needParameters.2.1 41 = .ok (.iload_n 2, 1) := by decide +kernel
theorem d_JC_needParameters_42 : decode m_JC_needParameters.2.1 42 = .ok (.ifCond .eq 7, 3) := by decide +kernel
theorem d_JC_needParameters_45 : decode m_JC_needParameters.2.1 45 = .ok (.iload_n 3, 1) := by decide +kernel
theorem d_JC_needParameters_46 : decode m_JC_needParameters.2.1 46 = .ok (.ifCond .ne 11, 3) := by decide +kernel
theorem d_JC_needParameters_57 : decode m_JC_needParameters.2.1 57 = .ok (.return_, 1) := by decide +kernel
theorem d_JC_needParameters_23 : decode m_JC_needParameters.2.1 23 = .ok (.iload_n 0, 1) := by decide +kernel
theorem d_JC_needParameters_24 : decode m_JC_needParameters.2.1 24 = .ok (.iconst (-1), 1) := by decide +kernel
theorem d_JC_needParameters_25 : decode m_JC_needParameters.2.1 25 = .ok (.if_icmp .eq 14, 3) := by decide +kernel
theorem d_JC_needParameters_39 : decode m_JC_needParameters.2.1 39 = .ok (.iconst 0, 1) := by decide +kernel
theorem t_JC_needParameters_49 : jl_tw m_JC_needParameters 191 193 "java/lang/IllegalArgumentException" = true := by decide +kernel
theorem d_JC_needParameters_49 : decode m_JC_needParameters.2.1 49 = .ok (.new 191, 3) := by decide +kernel
theorem d_JC_needParameters_52 : decode m_JC_needParameters.2.1 52 = .ok (.dup, 1) := by decide +kernel
theorem d_JC_needParameters_53 : decode m_JC_needParameters.2.1 53 = .ok (.invokespecial 193, 3) := by decide +kernel
theorem d_JC_needParameters_56 : decode m_JC_needParameters.2.1 56 = .ok (.athrow, 1) := by decide +kernel
theorem d_JC_needParameters_28 : decode m_JC_needParameters.2.1 28 = .ok (.iload_n 1, 1) := by decide +kernel
theorem k_JC_needParameters_194 : jl_cz m_JC_needParameters m_JC_isDeclarable 194 1 = true := by decide +kernel
theorem d_JC_needParameters_29 : decode m_JC_needParameters.2.1 29 = .ok (.invokestatic 194, 3) := by decide +kernel
theorem d_JC_needParameters_32 : decode m_JC_needParameters.2.1 32 = .ok (.ifCond .eq 7, 3) := by decide +kernel
theorem d_JC_needParameters_5 : decode m_JC_needParameters.2.1 5 = .ok (.iload_n 0, 1) := by decide +kernel
theorem d_JC_needParameters_6 : decode m_JC_needParameters.2.1 6 = .ok (.invokestatic 194, 3) := by decide +kernel
theorem d_JC_needParameters_9 : decode m_JC_needParameters.2.1 9 = .ok (.ifCond .eq 7, 3) := by decide +kernel
theorem d_JC_needParameters_16 : decode m_JC_needParameters.2.1 16 = .ok (.iconst 0, 1) := by decide +kernel
theorem jc_params (hl : l.stackTraces = false) {p q : Int32}   : jl_m l G m_JC_needParameters [.int (p), .int (q)] σ (if prOk p q = true then .inl none else .inr xA) (σ) := by
  skip
  refine jl_of (as := [.int (p), .int (q)]) rfl (by decide) hl (jl_cc rfl (jl_cc rfl jl_ca)) (Nat.le_of_ble_eq_true rfl) ?_
  show jl_W l G m_JC_needParameters (0, 0) 0 [some (.int (p)), some (.int (q)), none, none] [] (σ) (if prOk p q = true then .inl none else .inr xA) (σ)
  refine jr_iload_n d_JC_needParameters_0 rfl ?_
  refine jr_iconst ((-1)) d_JC_needParameters_1 (by decide) ?_
  refine jr_icmp_eq 12 d_JC_needParameters_2 (by decide) (fun c1 => ?_) (fun c1 => ?_)
  · refine jr_iconst ((nI (1))) d_JC_needParameters_12 (by decide) ?_
    refine jr_goto 17 d_JC_needParameters_13 (by decide) ?_
    refine jr_istore_n d_JC_needParameters_17 (by decide) ?_
    show jl_W l G m_JC_needParameters (0, 0) 18 [some (.int (p)), some (.int (q)), some (.int (nI 1)), none] [] (σ) (if prOk p q = true then .inl none else .inr xA) (σ)
    refine jr_iload_n d_JC_needParameters_18 rfl ?_
    refine jr_iconst ((-1)) d_JC_needParameters_19 (by decide) ?_
    refine jr_icmp_eq 35 d_JC_needParameters_20 (by decide) (fun c2 => ?_) (fun c2 => ?_)
    · refine jr_iconst ((nI (1))) d_JC_needParameters_35 (by decide) ?_
      refine jr_goto 40 d_JC_needParameters_36 (by decide) ?_
      refine jr_istore_n d_JC_needParameters_40 (by decide) ?_
      show jl_W l G m_JC_needParameters (0, 0) 41 [some (.int (p)), some (.int (q)), some (.int (nI 1)), some (.int (nI 1))] [] (σ) (if prOk p q = true then .inl none else .inr xA) (σ)
      refine jr_iload_n d_JC_needParameters_41 rfl ?_
      refine jr_if_eq 49 d_JC_needParameters_42 (by decide) (fun z => absurd z (by decide)) (fun _ => ?_)
      refine jr_iload_n d_JC_needParameters_45 rfl ?_
      refine jr_if_ne 57 d_JC_needParameters_46 (by decide) (fun _ => ?_) (fun z => absurd z (by decide))
      exact jr_vretE d_JC_needParameters_57 rfl (by simp_all [prOk, bi_0]) (rfl) (by decide) (by decide)
    · refine jr_iload_n d_JC_needParameters_23 rfl ?_
      refine jr_iconst ((-1)) d_JC_needParameters_24 (by decide) ?_
      refine jr_icmp_eq 39 d_JC_needParameters_25 (by decide) (fun c3 => ?_) (fun c3 => ?_)
      · refine jr_iconst ((nI (0))) d_JC_needParameters_39 (by decide) ?_
        refine jr_istore_n d_JC_needParameters_40 (by decide) ?_
        show jl_W l G m_JC_needParameters (0, 0) 41 [some (.int (p)), some (.int (q)), some (.int (nI 1)), some (.int (nI 0))] [] (σ) (if prOk p q = true then .inl none else .inr xA) (σ)
        refine jr_iload_n d_JC_needParameters_41 rfl ?_
        refine jr_if_eq 49 d_JC_needParameters_42 (by decide) (fun z => absurd z (by decide)) (fun _ => ?_)
        refine jr_iload_n d_JC_needParameters_45 rfl ?_
        refine jr_if_ne 57 d_JC_needParameters_46 (by decide) (fun z => absurd rfl z) (fun _ => ?_)
        exact jr_throwE d_JC_needParameters_49 d_JC_needParameters_52 d_JC_needParameters_53 d_JC_needParameters_56 t_JC_needParameters_49 (by simp_all [prOk, bi_0]) rfl (by decide) (by decide)
      · refine jr_iload_n d_JC_needParameters_28 rfl ?_
        refine jr_callS (As := [.int (q)]) d_JC_needParameters_29 k_JC_needParameters_194 rfl (Nat.le_of_ble_eq_true rfl) (by decide) (by decide) (jc_decl hl) ?_
        show jl_W l G m_JC_needParameters (0, 0) 32 [some (.int (p)), some (.int (q)), some (.int (nI 1)), none] [.int (bi (isTyp q))] (σ) (if prOk p q = true then .inl none else .inr xA) (σ)
        refine jr_if_eq 39 d_JC_needParameters_32 (by decide) (fun c4 => ?_) (fun c4 => ?_)
        · refine jr_iconst ((nI (0))) d_JC_needParameters_39 (by decide) ?_
          refine jr_istore_n d_JC_needParameters_40 (by decide) ?_
          show jl_W l G m_JC_needParameters (0, 0) 41 [some (.int (p)), some (.int (q)), some (.int (nI 1)), some (.int (nI 0))] [] (σ) (if prOk p q = true then .inl none else .inr xA) (σ)
          refine jr_iload_n d_JC_needParameters_41 rfl ?_
          refine jr_if_eq 49 d_JC_needParameters_42 (by decide) (fun z => absurd z (by decide)) (fun _ => ?_)
          refine jr_iload_n d_JC_needParameters_45 rfl ?_
          refine jr_if_ne 57 d_JC_needParameters_46 (by decide) (fun z => absurd rfl z) (fun _ => ?_)
          exact jr_throwE d_JC_needParameters_49 d_JC_needParameters_52 d_JC_needParameters_53 d_JC_needParameters_56 t_JC_needParameters_49 (by simp_all [prOk, bi_0]) rfl (by decide) (by decide)
        · refine jr_iconst ((nI (1))) d_JC_needParameters_35 (by decide) ?_
          refine jr_goto 40 d_JC_needParameters_36 (by decide) ?_
          refine jr_istore_n d_JC_needParameters_40 (by decide) ?_
          show jl_W l G m_JC_needParameters (0, 0) 41 [some (.int (p)), some (.int (q)), some (.int (nI 1)), some (.int (nI 1))] [] (σ) (if prOk p q = true then .inl none else .inr xA) (σ)
          refine jr_iload_n d_JC_needParameters_41 rfl ?_
          refine jr_if_eq 49 d_JC_needParameters_42 (by decide) (fun z => absurd z (by decide)) (fun _ => ?_)
          refine jr_iload_n d_JC_needParameters_45 rfl ?_
          refine jr_if_ne 57 d_JC_needParameters_46 (by decide) (fun _ => ?_) (fun z => absurd z (by decide))
          exact jr_vretE d_JC_needParameters_57 rfl (by simp_all [prOk, bi_0]) (rfl) (by decide) (by decide)
  · refine jr_iload_n d_JC_needParameters_5 rfl ?_
    refine jr_callS (As := [.int (p)]) d_JC_needParameters_6 k_JC_needParameters_194 rfl (Nat.le_of_ble_eq_true rfl) (by decide) (by decide) (jc_decl hl) ?_
    show jl_W l G m_JC_needParameters (0, 0) 9 [some (.int (p)), some (.int (q)), none, none] [.int (bi (isTyp p))] (σ) (if prOk p q = true then .inl none else .inr xA) (σ)
    refine jr_if_eq 16 d_JC_needParameters_9 (by decide) (fun c5 => ?_) (fun c5 => ?_)
    · refine jr_iconst ((nI (0))) d_JC_needParameters_16 (by decide) ?_
      refine jr_istore_n d_JC_needParameters_17 (by decide) ?_
      show jl_W l G m_JC_needParameters (0, 0) 18 [some (.int (p)), some (.int (q)), some (.int (nI 0)), none] [] (σ) (if prOk p q = true then .inl none else .inr xA) (σ)
      refine jr_iload_n d_JC_needParameters_18 rfl ?_
      refine jr_iconst ((-1)) d_JC_needParameters_19 (by decide) ?_
      refine jr_icmp_eq 35 d_JC_needParameters_20 (by decide) (fun c6 => ?_) (fun c6 => ?_)
      · refine jr_iconst ((nI (1))) d_JC_needParameters_35 (by decide) ?_
        refine jr_goto 40 d_JC_needParameters_36 (by decide) ?_
        refine jr_istore_n d_JC_needParameters_40 (by decide) ?_
        show jl_W l G m_JC_needParameters (0, 0) 41 [some (.int (p)), some (.int (q)), some (.int (nI 0)), some (.int (nI 1))] [] (σ) (if prOk p q = true then .inl none else .inr xA) (σ)
        refine jr_iload_n d_JC_needParameters_41 rfl ?_
        refine jr_if_eq 49 d_JC_needParameters_42 (by decide) (fun _ => ?_) (fun z => absurd (by decide) z)
        exact jr_throwE d_JC_needParameters_49 d_JC_needParameters_52 d_JC_needParameters_53 d_JC_needParameters_56 t_JC_needParameters_49 (by simp_all [prOk, bi_0]) rfl (by decide) (by decide)
      · refine jr_iload_n d_JC_needParameters_23 rfl ?_
        refine jr_iconst ((-1)) d_JC_needParameters_24 (by decide) ?_
        refine jr_icmp_eq 39 d_JC_needParameters_25 (by decide) (fun c7 => ?_) (fun c7 => ?_)
        · refine jr_iconst ((nI (0))) d_JC_needParameters_39 (by decide) ?_
          refine jr_istore_n d_JC_needParameters_40 (by decide) ?_
          show jl_W l G m_JC_needParameters (0, 0) 41 [some (.int (p)), some (.int (q)), some (.int (nI 0)), some (.int (nI 0))] [] (σ) (if prOk p q = true then .inl none else .inr xA) (σ)
          refine jr_iload_n d_JC_needParameters_41 rfl ?_
          refine jr_if_eq 49 d_JC_needParameters_42 (by decide) (fun _ => ?_) (fun z => absurd (by decide) z)
          exact jr_throwE d_JC_needParameters_49 d_JC_needParameters_52 d_JC_needParameters_53 d_JC_needParameters_56 t_JC_needParameters_49 (by simp_all [prOk, bi_0]) rfl (by decide) (by decide)
        · refine jr_iload_n d_JC_needParameters_28 rfl ?_
          refine jr_callS (As := [.int (q)]) d_JC_needParameters_29 k_JC_needParameters_194 rfl (Nat.le_of_ble_eq_true rfl) (by decide) (by decide) (jc_decl hl) ?_
          show jl_W l G m_JC_needParameters (0, 0) 32 [some (.int (p)), some (.int (q)), some (.int (nI 0)), none] [.int (bi (isTyp q))] (σ) (if prOk p q = true then .inl none else .inr xA) (σ)
          refine jr_if_eq 39 d_JC_needParameters_32 (by decide) (fun c8 => ?_) (fun c8 => ?_)
          · refine jr_iconst ((nI (0))) d_JC_needParameters_39 (by decide) ?_
            refine jr_istore_n d_JC_needParameters_40 (by decide) ?_
            show jl_W l G m_JC_needParameters (0, 0) 41 [some (.int (p)), some (.int (q)), some (.int (nI 0)), some (.int (nI 0))] [] (σ) (if prOk p q = true then .inl none else .inr xA) (σ)
            refine jr_iload_n d_JC_needParameters_41 rfl ?_
            refine jr_if_eq 49 d_JC_needParameters_42 (by decide) (fun _ => ?_) (fun z => absurd (by decide) z)
            exact jr_throwE d_JC_needParameters_49 d_JC_needParameters_52 d_JC_needParameters_53 d_JC_needParameters_56 t_JC_needParameters_49 (by simp_all [prOk, bi_0]) rfl (by decide) (by decide)
          · refine jr_iconst ((nI (1))) d_JC_needParameters_35 (by decide) ?_
            refine jr_goto 40 d_JC_needParameters_36 (by decide) ?_
            refine jr_istore_n d_JC_needParameters_40 (by decide) ?_
            show jl_W l G m_JC_needParameters (0, 0) 41 [some (.int (p)), some (.int (q)), some (.int (nI 0)), some (.int (nI 1))] [] (σ) (if prOk p q = true then .inl none else .inr xA) (σ)
            refine jr_iload_n d_JC_needParameters_41 rfl ?_
            refine jr_if_eq 49 d_JC_needParameters_42 (by decide) (fun _ => ?_) (fun z => absurd (by decide) z)
            exact jr_throwE d_JC_needParameters_49 d_JC_needParameters_52 d_JC_needParameters_53 d_JC_needParameters_56 t_JC_needParameters_49 (by simp_all [prOk, bi_0]) rfl (by decide) (by decide)
    · refine jr_iconst ((nI (1))) d_JC_needParameters_12 (by decide) ?_
      refine jr_goto 17 d_JC_needParameters_13 (by decide) ?_
      refine jr_istore_n d_JC_needParameters_17 (by decide) ?_
      show jl_W l G m_JC_needParameters (0, 0) 18 [some (.int (p)), some (.int (q)), some (.int (nI 1)), none] [] (σ) (if prOk p q = true then .inl none else .inr xA) (σ)
      refine jr_iload_n d_JC_needParameters_18 rfl ?_
      refine jr_iconst ((-1)) d_JC_needParameters_19 (by decide) ?_
      refine jr_icmp_eq 35 d_JC_needParameters_20 (by decide) (fun c9 => ?_) (fun c9 => ?_)
      · refine jr_iconst ((nI (1))) d_JC_needParameters_35 (by decide) ?_
        refine jr_goto 40 d_JC_needParameters_36 (by decide) ?_
        refine jr_istore_n d_JC_needParameters_40 (by decide) ?_
        show jl_W l G m_JC_needParameters (0, 0) 41 [some (.int (p)), some (.int (q)), some (.int (nI 1)), some (.int (nI 1))] [] (σ) (if prOk p q = true then .inl none else .inr xA) (σ)
        refine jr_iload_n d_JC_needParameters_41 rfl ?_
        refine jr_if_eq 49 d_JC_needParameters_42 (by decide) (fun z => absurd z (by decide)) (fun _ => ?_)
        refine jr_iload_n d_JC_needParameters_45 rfl ?_
        refine jr_if_ne 57 d_JC_needParameters_46 (by decide) (fun _ => ?_) (fun z => absurd z (by decide))
        exact jr_vretE d_JC_needParameters_57 rfl (by simp_all [prOk, bi_0]) (rfl) (by decide) (by decide)
      · refine jr_iload_n d_JC_needParameters_23 rfl ?_
        refine jr_iconst ((-1)) d_JC_needParameters_24 (by decide) ?_
        refine jr_icmp_eq 39 d_JC_needParameters_25 (by decide) (fun c10 => ?_) (fun c10 => ?_)
        · refine jr_iconst ((nI (0))) d_JC_needParameters_39 (by decide) ?_
          refine jr_istore_n d_JC_needParameters_40 (by decide) ?_
          show jl_W l G m_JC_needParameters (0, 0) 41 [some (.int (p)), some (.int (q)), some (.int (nI 1)), some (.int (nI 0))] [] (σ) (if prOk p q = true then .inl none else .inr xA) (σ)
          refine jr_iload_n d_JC_needParameters_41 rfl ?_
          refine jr_if_eq 49 d_JC_needParameters_42 (by decide) (fun z => absurd z (by decide)) (fun _ => ?_)
          refine jr_iload_n d_JC_needParameters_45 rfl ?_
          refine jr_if_ne 57 d_JC_needParameters_46 (by decide) (fun z => absurd rfl z) (fun _ => ?_)
          exact jr_throwE d_JC_needParameters_49 d_JC_needParameters_52 d_JC_needParameters_53 d_JC_needParameters_56 t_JC_needParameters_49 (by simp_all [prOk, bi_0]) rfl (by decide) (by decide)
        · refine jr_iload_n d_JC_needParameters_28 rfl ?_
          refine jr_callS (As := [.int (q)]) d_JC_needParameters_29 k_JC_needParameters_194 rfl (Nat.le_of_ble_eq_true rfl) (by decide) (by decide) (jc_decl hl) ?_
          show jl_W l G m_JC_needParameters (0, 0) 32 [some (.int (p)), some (.int (q)), some (.int (nI 1)), none] [.int (bi (isTyp q))] (σ) (if prOk p q = true then .inl none else .inr xA) (σ)
          refine jr_if_eq 39 d_JC_needParameters_32 (by decide) (fun c11 => ?_) (fun c11 => ?_)
          · refine jr_iconst ((nI (0))) d_JC_needParameters_39 (by decide) ?_
            refine jr_istore_n d_JC_needParameters_40 (by decide) ?_
            show jl_W l G m_JC_needParameters (0, 0) 41 [some (.int (p)), some (.int (q)), some (.int (nI 1)), some (.int (nI 0))] [] (σ) (if prOk p q = true then .inl none else .inr xA) (σ)
            refine jr_iload_n d_JC_needParameters_41 rfl ?_
            refine jr_if_eq 49 d_JC_needParameters_42 (by decide) (fun z => absurd z (by decide)) (fun _ => ?_)
            refine jr_iload_n d_JC_needParameters_45 rfl ?_
            refine jr_if_ne 57 d_JC_needParameters_46 (by decide) (fun z => absurd rfl z) (fun _ => ?_)
            exact jr_throwE d_JC_needParameters_49 d_JC_needParameters_52 d_JC_needParameters_53 d_JC_needParameters_56 t_JC_needParameters_49 (by simp_all [prOk, bi_0]) rfl (by decide) (by decide)
          · refine jr_iconst ((nI (1))) d_JC_needParameters_35 (by decide) ?_
            refine jr_goto 40 d_JC_needParameters_36 (by decide) ?_
            refine jr_istore_n d_JC_needParameters_40 (by decide) ?_
            show jl_W l G m_JC_needParameters (0, 0) 41 [some (.int (p)), some (.int (q)), some (.int (nI 1)), some (.int (nI 1))] [] (σ) (if prOk p q = true then .inl none else .inr xA) (σ)
            refine jr_iload_n d_JC_needParameters_41 rfl ?_
            refine jr_if_eq 49 d_JC_needParameters_42 (by decide) (fun z => absurd z (by decide)) (fun _ => ?_)
            refine jr_iload_n d_JC_needParameters_45 rfl ?_
            refine jr_if_ne 57 d_JC_needParameters_46 (by decide) (fun _ => ?_) (fun z => absurd z (by decide))
            exact jr_vretE d_JC_needParameters_57 rfl (by simp_all [prOk, bi_0]) (rfl) (by decide) (by decide)
theorem jc_paramsT (hl : l.stackTraces = false) {p q : Int32} (h : prOk p q = true) : jl_m l G m_JC_needParameters [.int p, .int q] σ (.inl none) σ := by
  have z := jc_params (G := G) (σ := σ) hl (p := p) (q := q)
  rw [if_pos h] at z
  exact z
theorem jc_paramsX (hl : l.stackTraces = false) {p q : Int32} (h : prOk p q = false) : jl_m l G m_JC_needParameters [.int p, .int q] σ (.inr xA) σ := by
  have z := jc_params (G := G) (σ := σ) hl (p := p) (q := q)
  rw [if_neg (by rw [h]; decide)] at z
  exact z
/-- another METHOD of this SLOT, above or below, of other PARAMETERS or RESULT -/
def clash (pr : Nat → Option Nat) (mt : Nat → Option Nat) (Q1 Q2 : Nat → Option Nat) (RS : Nat → Nat) (k sl : Nat) (p q : Option Nat) (r : Nat) : Nat → Nat → Bool
  | 0, _ => false
  | n + 1, i => ((mt (i * 4 + sl)).isSome && (ab pr i (some k) || ab pr k (some i)) && !(decide (Q1 (i * 4 + sl) = p) && decide (Q2 (i * 4 + sl) = q) && decide (RS (i * 4 + sl) = r))) || clash pr mt Q1 Q2 RS k sl p q r n (i + 1)
/-- where METHODS lie, and their heads -/
def MhAt (σ : jl_S) (mt : Nat → Option Nat) (Q1 Q2 : Nat → Option Nat) (RS : Nat → Nat) : Prop := ∀ m a, mt m = some a → ∃ v3 v4 v5 v6 v7 v8 v9 v10 v11 v12, σ[a]? = some (.inr (2, [.int (en (Q1 m)), .int (en (Q2 m)), .int (nI (RS m)), v3, v4, v5, v6, v7, v8, v9, v10, v11, v12])) ∧ ob 16 (Q1 m) ∧ ob 16 (Q2 m) ∧ RS m < 16
theorem d_Wo_clashes_3 : decode m_Wo_clashes.2.1 3 = .ok (.iload 6, 2) := by decide +kernel
theorem d_Wo_clashes_5 : decode m_Wo_clashes.2.1 5 = .ok (.bipush 6, 2) := by decide +kernel
theorem d_Wo_clashes_7 : decode m_Wo_clashes.2.1 7 = .ok (.if_icmp .ge 86, 3) := by decide +kernel
theorem d_Wo_clashes_93 : decode m_Wo_clashes.2.1 93 = .ok (.iconst 0, 1) := by decide +kernel
theorem d_Wo_clashes_94 : decode m_Wo_clashes.2.1 94 = .ok (.ireturn, 1) := by decide +kernel
theorem d_Wo_clashes_10 : decode m_Wo_clashes.2.1 10 = .ok (.aload_n 0, 1) := by decide +kernel
theorem d_Wo_clashes_11 : decode m_Wo_clashes.2.1 11 = .ok (.iload 6, 2) := by decide +kernel
theorem d_Wo_clashes_13 : decode m_Wo_clashes.2.1 13 = .ok (.iload_n 2, 1) := by decide +kernel
theorem k_Wo_clashes_42 : jl_cv m_Wo_clashes m_Wo_own 42 2 = true := by decide +kernel
theorem d_Wo_clashes_14 : decode m_Wo_clashes.2.1 14 = .ok (.invokevirtual 42, 3) := by decide +kernel
theorem d_Wo_clashes_17 : decode m_Wo_clashes.2.1 17 = .ok (.astore 7, 2) := by decide +kernel
theorem d_Wo_clashes_19 : decode m_Wo_clashes.2.1 19 = .ok (.aload_n 0, 1) := by decide +kernel
theorem d_Wo_clashes_20 : decode m_Wo_clashes.2.1 20 = .ok (.iload 6, 2) := by decide +kernel
theorem d_Wo_clashes_22 : decode m_Wo_clashes.2.1 22 = .ok (.iload_n 1, 1) := by decide +kernel
theorem k_Wo_clashes_49 : jl_cv m_Wo_clashes m_Wo_isOrIsAbove 49 2 = true := by decide +kernel
theorem d_Wo_clashes_23 : decode m_Wo_clashes.2.1 23 = .ok (.invokevirtual 49, 3) := by decide +kernel
theorem d_Wo_clashes_26 : decode m_Wo_clashes.2.1 26 = .ok (.ifCond .ne 13, 3) := by decide +kernel
theorem d_Wo_clashes_39 : decode m_Wo_clashes.2.1 39 = .ok (.iconst 1, 1) := by decide +kernel
theorem d_Wo_clashes_40 : decode m_Wo_clashes.2.1 40 = .ok (.goto 4, 3) := by decide +kernel
theorem d_Wo_clashes_44 : decode m_Wo_clashes.2.1 44 = .ok (.istore 8, 2) := by decide +kernel
theorem d_Wo_clashes_46 : decode m_Wo_clashes.2.1 46 = .ok (.aload 7, 2) := by decide +kernel
theorem d_Wo_clashes_48 : decode m_Wo_clashes.2.1 48 = .ok (.ifnull 39, 3) := by decide +kernel
theorem d_Wo_clashes_87 : decode m_Wo_clashes.2.1 87 = .ok (.iinc 6 1, 3) := by decide +kernel
theorem d_Wo_clashes_90 : decode m_Wo_clashes.2.1 90 = .ok (.goto (-87), 3) := by decide +kernel
theorem d_Wo_clashes_51 : decode m_Wo_clashes.2.1 51 = .ok (.iload 8, 2) := by decide +kernel
theorem d_Wo_clashes_53 : decode m_Wo_clashes.2.1 53 = .ok (.ifCond .eq 34, 3) := by decide +kernel
theorem d_Wo_clashes_56 : decode m_Wo_clashes.2.1 56 = .ok (.aload 7, 2) := by decide +kernel
theorem f_Wo_clashes_53 : jl_fd m_Wo_clashes 53 2 0 = true := by decide +kernel
theorem d_Wo_clashes_58 : decode m_Wo_clashes.2.1 58 = .ok (.getfield 53, 3) := by decide +kernel
theorem d_Wo_clashes_61 : decode m_Wo_clashes.2.1 61 = .ok (.iload_n 3, 1) := by decide +kernel
theorem d_Wo_clashes_62 : decode m_Wo_clashes.2.1 62 = .ok (.if_icmp .ne 23, 3) := by decide +kernel
theorem d_Wo_clashes_85 : decode m_Wo_clashes.2.1 85 = .ok (.iconst 1, 1) := by decide +kernel
theorem d_Wo_clashes_86 : decode m_Wo_clashes.2.1 86 = .ok (.ireturn, 1) := by decide +kernel
theorem d_Wo_clashes_65 : decode m_Wo_clashes.2.1 65 = .ok (.aload 7, 2) := by decide +kernel
theorem f_Wo_clashes_57 : jl_fd m_Wo_clashes 57 2 1 = true := by decide +kernel
theorem d_Wo_clashes_67 : decode m_Wo_clashes.2.1 67 = .ok (.getfield 57, 3) := by decide +kernel
theorem d_Wo_clashes_70 : decode m_Wo_clashes.2.1 70 = .ok (.iload 4, 2) := by decide +kernel
theorem d_Wo_clashes_72 : decode m_Wo_clashes.2.1 72 = .ok (.if_icmp .ne 13, 3) := by decide +kernel
theorem d_Wo_clashes_75 : decode m_Wo_clashes.2.1 75 = .ok (.aload 7, 2) := by decide +kernel
theorem f_Wo_clashes_60 : jl_fd m_Wo_clashes 60 2 2 = true := by decide +kernel
theorem d_Wo_clashes_77 : decode m_Wo_clashes.2.1 77 = .ok (.getfield 60, 3) := by decide +kernel
theorem d_Wo_clashes_80 : decode m_Wo_clashes.2.1 80 = .ok (.iload 5, 2) := by decide +kernel
theorem d_Wo_clashes_82 : decode m_Wo_clashes.2.1 82 = .ok (.if_icmp .eq 5, 3) := by decide +kernel
theorem d_Wo_clashes_29 : decode m_Wo_clashes.2.1 29 = .ok (.aload_n 0, 1) := by decide +kernel
theorem d_Wo_clashes_30 : decode m_Wo_clashes.2.1 30 = .ok (.iload_n 1, 1) := by decide +kernel
theorem d_Wo_clashes_31 : decode m_Wo_clashes.2.1 31 = .ok (.iload 6, 2) := by decide +kernel
theorem d_Wo_clashes_33 : decode m_Wo_clashes.2.1 33 = .ok (.invokevirtual 49, 3) := by decide +kernel
theorem d_Wo_clashes_36 : decode m_Wo_clashes.2.1 36 = .ok (.ifCond .eq 7, 3) := by decide +kernel
theorem d_Wo_clashes_43 : decode m_Wo_clashes.2.1 43 = .ok (.iconst 0, 1) := by decide +kernel
theorem wo_clash_loop (hl : l.stackTraces = false) {k sl r : Nat} {p q : Option Nat} {Q1 Q2 : Nat → Option Nat} {RS : Nat → Nat} (hw : WoAt σ tb pr ow fi ft mt) (hk : k < 6) (hs : sl < 4) (hok : ∀ j, ob 6 (pr j)) (hp : ob 16 p) (hq : ob 16 q) (hr : r < 16) (hmh : MhAt σ mt Q1 Q2 RS) : ∀ (nn : Nat) (i : Nat), 6 - i < nn → i ≤ 6 → jl_W l G m_Wo_clashes (0, 0) 3 [some (.ref 1), some (.int (nI k)), some (.int (nI sl)), some (.int (en p)), some (.int (en q)), some (.int (nI r)), some (.int (nI i)), none, none] [] σ (.inl (some (.int (bi (clash pr mt Q1 Q2 RS k sl p q r (6 - i) i))))) (σ) := by
  obtain ⟨hW, h2, h3, h4, h5, h6, h7⟩ := id hw
  intro nn
  induction nn with
  | zero => intro i hnn; exact absurd hnn (Nat.not_lt_zero _)
  | succ nn ihn =>
    intro i hnn hi
    refine jr_iload d_Wo_clashes_3 rfl ?_
    refine jr_bipush ((nI (6))) d_Wo_clashes_5 (by decide) ?_
    refine jr_icmp_geN 93 d_Wo_clashes_7 (by decide) (by omega) (by omega) (fun c1 => ?_) (fun c1 => ?_)
    · refine jr_iconst ((nI (0))) d_Wo_clashes_93 (by decide) ?_
      exact jr_zretE d_Wo_clashes_94 rfl (by decide) (by rw [show 6 - i = 0 by omega]; rfl) (rfl) (by decide) (by decide)
    · refine jr_aload_n d_Wo_clashes_10 rfl ?_
      refine jr_iload d_Wo_clashes_11 rfl ?_
      refine jr_iload_n d_Wo_clashes_13 rfl ?_
      refine jr_callV (As := [.int (nI i), .int (nI sl)]) d_Wo_clashes_14 k_Wo_clashes_42 hW rfl rfl rfl (Nat.le_of_ble_eq_true rfl) (by decide) (by decide) (wo_own hl hw (by omega) hs) ?_
      show jl_W l G m_Wo_clashes (0, 0) 17 [some (.ref 1), some (.int (nI k)), some (.int (nI sl)), some (.int (en p)), some (.int (en q)), some (.int (nI r)), some (.int (nI i)), none, none] [va_rf (mt (i * 4 + sl))] (σ) (.inl (some (.int (bi (clash pr mt Q1 Q2 RS k sl p q r (6 - i) i))))) (σ)
      refine jr_astoreO d_Wo_clashes_17 (by decide) ?_
      show jl_W l G m_Wo_clashes (0, 0) 19 [some (.ref 1), some (.int (nI k)), some (.int (nI sl)), some (.int (en p)), some (.int (en q)), some (.int (nI r)), some (.int (nI i)), some (va_rf (mt (i * 4 + sl))), none] [] (σ) (.inl (some (.int (bi (clash pr mt Q1 Q2 RS k sl p q r (6 - i) i))))) (σ)
      refine jr_aload_n d_Wo_clashes_19 rfl ?_
      refine jr_iload d_Wo_clashes_20 rfl ?_
      refine jr_iload_n d_Wo_clashes_22 rfl ?_
      refine jr_callV (As := [.int (nI i), .int (nI k)]) d_Wo_clashes_23 k_Wo_clashes_49 hW rfl rfl rfl (Nat.le_of_ble_eq_true rfl) (by decide) (by decide) (wo_above (x := some k) hl hw (by omega) hok (fun z hz => by cases hz; omega)) ?_
      show jl_W l G m_Wo_clashes (0, 0) 26 [some (.ref 1), some (.int (nI k)), some (.int (nI sl)), some (.int (en p)), some (.int (en q)), some (.int (nI r)), some (.int (nI i)), some (va_rf (mt (i * 4 + sl))), none] [.int (bi (ab pr i (some k)))] (σ) (.inl (some (.int (bi (clash pr mt Q1 Q2 RS k sl p q r (6 - i) i))))) (σ)
      refine jr_if_ne 39 d_Wo_clashes_26 (by decide) (fun c2 => ?_) (fun c2 => ?_)
      · refine jr_iconst ((nI (1))) d_Wo_clashes_39 (by decide) ?_
        refine jr_goto 44 d_Wo_clashes_40 (by decide) ?_
        refine jr_istore d_Wo_clashes_44 (by decide) ?_
        show jl_W l G m_Wo_clashes (0, 0) 46 [some (.ref 1), some (.int (nI k)), some (.int (nI sl)), some (.int (en p)), some (.int (en q)), some (.int (nI r)), some (.int (nI i)), some (va_rf (mt (i * 4 + sl))), some (.int (nI 1))] [] (σ) (.inl (some (.int (bi (clash pr mt Q1 Q2 RS k sl p q r (6 - i) i))))) (σ)
        refine jr_aloadO d_Wo_clashes_46 rfl ?_
        cases c3 : mt (i * 4 + sl) with
        | none =>
          show jl_W l G m_Wo_clashes (0, 0) 48 [some (.ref 1), some (.int (nI k)), some (.int (nI sl)), some (.int (en p)), some (.int (en q)), some (.int (nI r)), some (.int (nI i)), some (.null), some (.int (nI 1))] [.null] (σ) (.inl (some (.int (bi (clash pr mt Q1 Q2 RS k sl p q r (6 - i) i))))) (σ)
          refine jr_ifnullN 87 d_Wo_clashes_48 (by decide) ?_
          refine jr_iinc ((nI (i + 1))) d_Wo_clashes_87 (by decide) rfl (jl_inc _) ?_
          show jl_W l G m_Wo_clashes (0, 0) 90 [some (.ref 1), some (.int (nI k)), some (.int (nI sl)), some (.int (en p)), some (.int (en q)), some (.int (nI r)), some (.int (nI (i + 1))), some (.null), some (.int (nI 1))] [] (σ) (.inl (some (.int (bi (clash pr mt Q1 Q2 RS k sl p q r (6 - i) i))))) (σ)
          refine jr_goto 3 d_Wo_clashes_90 (by decide) ?_
          exact jr_weak (fun q v hv => by match q, hv with | 0, hv => exact hv | 1, hv => exact hv | 2, hv => exact hv | 3, hv => exact hv | 4, hv => exact hv | 5, hv => exact hv | 6, hv => exact hv | 7, hv => cases hv | 8, hv => cases hv | q + 9, hv => cases hv) (jl_oeq (by rw [show 6 - i = (6 - (i + 1)) + 1 by omega]; simp only [clash]; simp_all [bi_0]) (ihn (i + 1) (by omega) (by omega)))
        | some ac3 =>
          obtain ⟨v3, v4, v5, v6, v7, v8, v9, v10, v11, v12, hM, o1, o2, o3⟩ := hmh _ _ c3
          show jl_W l G m_Wo_clashes (0, 0) 48 [some (.ref 1), some (.int (nI k)), some (.int (nI sl)), some (.int (en p)), some (.int (en q)), some (.int (nI r)), some (.int (nI i)), some (.ref ac3), some (.int (nI 1))] [.ref ac3] (σ) (.inl (some (.int (bi (clash pr mt Q1 Q2 RS k sl p q r (6 - i) i))))) (σ)
          refine jr_ifnull d_Wo_clashes_48 ?_
          refine jr_iload d_Wo_clashes_51 rfl ?_
          refine jr_if_eqN 87 d_Wo_clashes_53 (by decide) (by omega) (fun c4 => ?_) (fun c4 => ?_)
          · refine jr_iinc ((nI (i + 1))) d_Wo_clashes_87 (by decide) rfl (jl_inc _) ?_
            show jl_W l G m_Wo_clashes (0, 0) 90 [some (.ref 1), some (.int (nI k)), some (.int (nI sl)), some (.int (en p)), some (.int (en q)), some (.int (nI r)), some (.int (nI (i + 1))), some (.ref ac3), some (.int (nI 1))] [] (σ) (.inl (some (.int (bi (clash pr mt Q1 Q2 RS k sl p q r (6 - i) i))))) (σ)
            refine jr_goto 3 d_Wo_clashes_90 (by decide) ?_
            exact jr_weak (fun q v hv => by match q, hv with | 0, hv => exact hv | 1, hv => exact hv | 2, hv => exact hv | 3, hv => exact hv | 4, hv => exact hv | 5, hv => exact hv | 6, hv => exact hv | 7, hv => cases hv | 8, hv => cases hv | q + 9, hv => cases hv) (jl_oeq (by rw [show 6 - i = (6 - (i + 1)) + 1 by omega]; simp only [clash]; simp_all [bi_0, en_inj (ob_w o1 (by decide)) (ob_w hp (by decide)), en_inj (ob_w o2 (by decide)) (ob_w hq (by decide))]) (ihn (i + 1) (by omega) (by omega)))
          · refine jr_aload d_Wo_clashes_56 rfl ?_
            refine jr_getf d_Wo_clashes_58 f_Wo_clashes_53 hM rfl ?_
            refine jr_iload_n d_Wo_clashes_61 rfl ?_
            refine jr_icmp_ne 85 d_Wo_clashes_62 (by decide) (fun c5 => ?_) (fun c5 => ?_)
            · refine jr_iconst ((nI (1))) d_Wo_clashes_85 (by decide) ?_
              exact jr_zretE d_Wo_clashes_86 rfl (by decide) (by rw [show 6 - i = (6 - (i + 1)) + 1 by omega]; simp only [clash]; simp_all [bi_0, en_inj (ob_w o1 (by decide)) (ob_w hp (by decide)), en_inj (ob_w o2 (by decide)) (ob_w hq (by decide))]; try rfl) (rfl) (by decide) (by decide)
            · refine jr_aload d_Wo_clashes_65 rfl ?_
              refine jr_getf d_Wo_clashes_67 f_Wo_clashes_57 hM rfl ?_
              refine jr_iload d_Wo_clashes_70 rfl ?_
              refine jr_icmp_ne 85 d_Wo_clashes_72 (by decide) (fun c6 => ?_) (fun c6 => ?_)
              · refine jr_iconst ((nI (1))) d_Wo_clashes_85 (by decide) ?_
                exact jr_zretE d_Wo_clashes_86 rfl (by decide) (by rw [show 6 - i = (6 - (i + 1)) + 1 by omega]; simp only [clash]; simp_all [bi_0, en_inj (ob_w o1 (by decide)) (ob_w hp (by decide)), en_inj (ob_w o2 (by decide)) (ob_w hq (by decide))]; try rfl) (rfl) (by decide) (by decide)
              · refine jr_aload d_Wo_clashes_75 rfl ?_
                refine jr_getf d_Wo_clashes_77 f_Wo_clashes_60 hM rfl ?_
                refine jr_iload d_Wo_clashes_80 rfl ?_
                refine jr_icmp_eqN 87 d_Wo_clashes_82 (by decide) (by omega) (by omega) (fun c7 => ?_) (fun c7 => ?_)
                · refine jr_iinc ((nI (i + 1))) d_Wo_clashes_87 (by decide) rfl (jl_inc _) ?_
                  show jl_W l G m_Wo_clashes (0, 0) 90 [some (.ref 1), some (.int (nI k)), some (.int (nI sl)), some (.int (en p)), some (.int (en q)), some (.int (nI r)), some (.int (nI (i + 1))), some (.ref ac3), some (.int (nI 1))] [] (σ) (.inl (some (.int (bi (clash pr mt Q1 Q2 RS k sl p q r (6 - i) i))))) (σ)
                  refine jr_goto 3 d_Wo_clashes_90 (by decide) ?_
                  exact jr_weak (fun q v hv => by match q, hv with | 0, hv => exact hv | 1, hv => exact hv | 2, hv => exact hv | 3, hv => exact hv | 4, hv => exact hv | 5, hv => exact hv | 6, hv => exact hv | 7, hv => cases hv | 8, hv => cases hv | q + 9, hv => cases hv) (jl_oeq (by rw [show 6 - i = (6 - (i + 1)) + 1 by omega]; simp only [clash]; simp_all [bi_0, en_inj (ob_w o1 (by decide)) (ob_w hp (by decide)), en_inj (ob_w o2 (by decide)) (ob_w hq (by decide))]) (ihn (i + 1) (by omega) (by omega)))
                · refine jr_iconst ((nI (1))) d_Wo_clashes_85 (by decide) ?_
                  exact jr_zretE d_Wo_clashes_86 rfl (by decide) (by rw [show 6 - i = (6 - (i + 1)) + 1 by omega]; simp only [clash]; simp_all [bi_0, en_inj (ob_w o1 (by decide)) (ob_w hp (by decide)), en_inj (ob_w o2 (by decide)) (ob_w hq (by decide))]; try rfl) (rfl) (by decide) (by decide)
      · refine jr_aload_n d_Wo_clashes_29 rfl ?_
        refine jr_iload_n d_Wo_clashes_30 rfl ?_
        refine jr_iload d_Wo_clashes_31 rfl ?_
        refine jr_callV (As := [.int (nI k), .int (nI i)]) d_Wo_clashes_33 k_Wo_clashes_49 hW rfl rfl rfl (Nat.le_of_ble_eq_true rfl) (by decide) (by decide) (wo_above (x := some i) hl hw (by omega) hok (fun z hz => by cases hz; omega)) ?_
        show jl_W l G m_Wo_clashes (0, 0) 36 [some (.ref 1), some (.int (nI k)), some (.int (nI sl)), some (.int (en p)), some (.int (en q)), some (.int (nI r)), some (.int (nI i)), some (va_rf (mt (i * 4 + sl))), none] [.int (bi (ab pr k (some i)))] (σ) (.inl (some (.int (bi (clash pr mt Q1 Q2 RS k sl p q r (6 - i) i))))) (σ)
        refine jr_if_eq 43 d_Wo_clashes_36 (by decide) (fun c8 => ?_) (fun c8 => ?_)
        · refine jr_iconst ((nI (0))) d_Wo_clashes_43 (by decide) ?_
          refine jr_istore d_Wo_clashes_44 (by decide) ?_
          show jl_W l G m_Wo_clashes (0, 0) 46 [some (.ref 1), some (.int (nI k)), some (.int (nI sl)), some (.int (en p)), some (.int (en q)), some (.int (nI r)), some (.int (nI i)), some (va_rf (mt (i * 4 + sl))), some (.int (nI 0))] [] (σ) (.inl (some (.int (bi (clash pr mt Q1 Q2 RS k sl p q r (6 - i) i))))) (σ)
          refine jr_aloadO d_Wo_clashes_46 rfl ?_
          cases c9 : mt (i * 4 + sl) with
          | none =>
            show jl_W l G m_Wo_clashes (0, 0) 48 [some (.ref 1), some (.int (nI k)), some (.int (nI sl)), some (.int (en p)), some (.int (en q)), some (.int (nI r)), some (.int (nI i)), some (.null), some (.int (nI 0))] [.null] (σ) (.inl (some (.int (bi (clash pr mt Q1 Q2 RS k sl p q r (6 - i) i))))) (σ)
            refine jr_ifnullN 87 d_Wo_clashes_48 (by decide) ?_
            refine jr_iinc ((nI (i + 1))) d_Wo_clashes_87 (by decide) rfl (jl_inc _) ?_
            show jl_W l G m_Wo_clashes (0, 0) 90 [some (.ref 1), some (.int (nI k)), some (.int (nI sl)), some (.int (en p)), some (.int (en q)), some (.int (nI r)), some (.int (nI (i + 1))), some (.null), some (.int (nI 0))] [] (σ) (.inl (some (.int (bi (clash pr mt Q1 Q2 RS k sl p q r (6 - i) i))))) (σ)
            refine jr_goto 3 d_Wo_clashes_90 (by decide) ?_
            exact jr_weak (fun q v hv => by match q, hv with | 0, hv => exact hv | 1, hv => exact hv | 2, hv => exact hv | 3, hv => exact hv | 4, hv => exact hv | 5, hv => exact hv | 6, hv => exact hv | 7, hv => cases hv | 8, hv => cases hv | q + 9, hv => cases hv) (jl_oeq (by rw [show 6 - i = (6 - (i + 1)) + 1 by omega]; simp only [clash]; simp_all [bi_0]) (ihn (i + 1) (by omega) (by omega)))
          | some ac9 =>
            obtain ⟨v3, v4, v5, v6, v7, v8, v9, v10, v11, v12, hM, o1, o2, o3⟩ := hmh _ _ c9
            show jl_W l G m_Wo_clashes (0, 0) 48 [some (.ref 1), some (.int (nI k)), some (.int (nI sl)), some (.int (en p)), some (.int (en q)), some (.int (nI r)), some (.int (nI i)), some (.ref ac9), some (.int (nI 0))] [.ref ac9] (σ) (.inl (some (.int (bi (clash pr mt Q1 Q2 RS k sl p q r (6 - i) i))))) (σ)
            refine jr_ifnull d_Wo_clashes_48 ?_
            refine jr_iload d_Wo_clashes_51 rfl ?_
            refine jr_if_eqN 87 d_Wo_clashes_53 (by decide) (by omega) (fun c10 => ?_) (fun c10 => ?_)
            · refine jr_iinc ((nI (i + 1))) d_Wo_clashes_87 (by decide) rfl (jl_inc _) ?_
              show jl_W l G m_Wo_clashes (0, 0) 90 [some (.ref 1), some (.int (nI k)), some (.int (nI sl)), some (.int (en p)), some (.int (en q)), some (.int (nI r)), some (.int (nI (i + 1))), some (.ref ac9), some (.int (nI 0))] [] (σ) (.inl (some (.int (bi (clash pr mt Q1 Q2 RS k sl p q r (6 - i) i))))) (σ)
              refine jr_goto 3 d_Wo_clashes_90 (by decide) ?_
              exact jr_weak (fun q v hv => by match q, hv with | 0, hv => exact hv | 1, hv => exact hv | 2, hv => exact hv | 3, hv => exact hv | 4, hv => exact hv | 5, hv => exact hv | 6, hv => exact hv | 7, hv => cases hv | 8, hv => cases hv | q + 9, hv => cases hv) (jl_oeq (by rw [show 6 - i = (6 - (i + 1)) + 1 by omega]; simp only [clash]; simp_all [bi_0, en_inj (ob_w o1 (by decide)) (ob_w hp (by decide)), en_inj (ob_w o2 (by decide)) (ob_w hq (by decide))]) (ihn (i + 1) (by omega) (by omega)))
            · refine jr_aload d_Wo_clashes_56 rfl ?_
              refine jr_getf d_Wo_clashes_58 f_Wo_clashes_53 hM rfl ?_
              refine jr_iload_n d_Wo_clashes_61 rfl ?_
              refine jr_icmp_ne 85 d_Wo_clashes_62 (by decide) (fun c11 => ?_) (fun c11 => ?_)
              · refine jr_iconst ((nI (1))) d_Wo_clashes_85 (by decide) ?_
                exact jr_zretE d_Wo_clashes_86 rfl (by decide) (by rw [show 6 - i = (6 - (i + 1)) + 1 by omega]; simp only [clash]; simp_all [bi_0, en_inj (ob_w o1 (by decide)) (ob_w hp (by decide)), en_inj (ob_w o2 (by decide)) (ob_w hq (by decide))]; try rfl) (rfl) (by decide) (by decide)
              · refine jr_aload d_Wo_clashes_65 rfl ?_
                refine jr_getf d_Wo_clashes_67 f_Wo_clashes_57 hM rfl ?_
                refine jr_iload d_Wo_clashes_70 rfl ?_
                refine jr_icmp_ne 85 d_Wo_clashes_72 (by decide) (fun c12 => ?_) (fun c12 => ?_)
                · refine jr_iconst ((nI (1))) d_Wo_clashes_85 (by decide) ?_
                  exact jr_zretE d_Wo_clashes_86 rfl (by decide) (by rw [show 6 - i = (6 - (i + 1)) + 1 by omega]; simp only [clash]; simp_all [bi_0, en_inj (ob_w o1 (by decide)) (ob_w hp (by decide)), en_inj (ob_w o2 (by decide)) (ob_w hq (by decide))]; try rfl) (rfl) (by decide) (by decide)
                · refine jr_aload d_Wo_clashes_75 rfl ?_
                  refine jr_getf d_Wo_clashes_77 f_Wo_clashes_60 hM rfl ?_
                  refine jr_iload d_Wo_clashes_80 rfl ?_
                  refine jr_icmp_eqN 87 d_Wo_clashes_82 (by decide) (by omega) (by omega) (fun c13 => ?_) (fun c13 => ?_)
                  · refine jr_iinc ((nI (i + 1))) d_Wo_clashes_87 (by decide) rfl (jl_inc _) ?_
                    show jl_W l G m_Wo_clashes (0, 0) 90 [some (.ref 1), some (.int (nI k)), some (.int (nI sl)), some (.int (en p)), some (.int (en q)), some (.int (nI r)), some (.int (nI (i + 1))), some (.ref ac9), some (.int (nI 0))] [] (σ) (.inl (some (.int (bi (clash pr mt Q1 Q2 RS k sl p q r (6 - i) i))))) (σ)
                    refine jr_goto 3 d_Wo_clashes_90 (by decide) ?_
                    exact jr_weak (fun q v hv => by match q, hv with | 0, hv => exact hv | 1, hv => exact hv | 2, hv => exact hv | 3, hv => exact hv | 4, hv => exact hv | 5, hv => exact hv | 6, hv => exact hv | 7, hv => cases hv | 8, hv => cases hv | q + 9, hv => cases hv) (jl_oeq (by rw [show 6 - i = (6 - (i + 1)) + 1 by omega]; simp only [clash]; simp_all [bi_0, en_inj (ob_w o1 (by decide)) (ob_w hp (by decide)), en_inj (ob_w o2 (by decide)) (ob_w hq (by decide))]) (ihn (i + 1) (by omega) (by omega)))
                  · refine jr_iconst ((nI (1))) d_Wo_clashes_85 (by decide) ?_
                    exact jr_zretE d_Wo_clashes_86 rfl (by decide) (by rw [show 6 - i = (6 - (i + 1)) + 1 by omega]; simp only [clash]; simp_all [bi_0, en_inj (ob_w o1 (by decide)) (ob_w hp (by decide)), en_inj (ob_w o2 (by decide)) (ob_w hq (by decide))]; try rfl) (rfl) (by decide) (by decide)
        · refine jr_iconst ((nI (1))) d_Wo_clashes_39 (by decide) ?_
          refine jr_goto 44 d_Wo_clashes_40 (by decide) ?_
          refine jr_istore d_Wo_clashes_44 (by decide) ?_
          show jl_W l G m_Wo_clashes (0, 0) 46 [some (.ref 1), some (.int (nI k)), some (.int (nI sl)), some (.int (en p)), some (.int (en q)), some (.int (nI r)), some (.int (nI i)), some (va_rf (mt (i * 4 + sl))), some (.int (nI 1))] [] (σ) (.inl (some (.int (bi (clash pr mt Q1 Q2 RS k sl p q r (6 - i) i))))) (σ)
          refine jr_aloadO d_Wo_clashes_46 rfl ?_
          cases c14 : mt (i * 4 + sl) with
          | none =>
            show jl_W l G m_Wo_clashes (0, 0) 48 [some (.ref 1), some (.int (nI k)), some (.int (nI sl)), some (.int (en p)), some (.int (en q)), some (.int (nI r)), some (.int (nI i)), some (.null), some (.int (nI 1))] [.null] (σ) (.inl (some (.int (bi (clash pr mt Q1 Q2 RS k sl p q r (6 - i) i))))) (σ)
            refine jr_ifnullN 87 d_Wo_clashes_48 (by decide) ?_
            refine jr_iinc ((nI (i + 1))) d_Wo_clashes_87 (by decide) rfl (jl_inc _) ?_
            show jl_W l G m_Wo_clashes (0, 0) 90 [some (.ref 1), some (.int (nI k)), some (.int (nI sl)), some (.int (en p)), some (.int (en q)), some (.int (nI r)), some (.int (nI (i + 1))), some (.null), some (.int (nI 1))] [] (σ) (.inl (some (.int (bi (clash pr mt Q1 Q2 RS k sl p q r (6 - i) i))))) (σ)
            refine jr_goto 3 d_Wo_clashes_90 (by decide) ?_
            exact jr_weak (fun q v hv => by match q, hv with | 0, hv => exact hv | 1, hv => exact hv | 2, hv => exact hv | 3, hv => exact hv | 4, hv => exact hv | 5, hv => exact hv | 6, hv => exact hv | 7, hv => cases hv | 8, hv => cases hv | q + 9, hv => cases hv) (jl_oeq (by rw [show 6 - i = (6 - (i + 1)) + 1 by omega]; simp only [clash]; simp_all [bi_0]) (ihn (i + 1) (by omega) (by omega)))
          | some ac14 =>
            obtain ⟨v3, v4, v5, v6, v7, v8, v9, v10, v11, v12, hM, o1, o2, o3⟩ := hmh _ _ c14
            show jl_W l G m_Wo_clashes (0, 0) 48 [some (.ref 1), some (.int (nI k)), some (.int (nI sl)), some (.int (en p)), some (.int (en q)), some (.int (nI r)), some (.int (nI i)), some (.ref ac14), some (.int (nI 1))] [.ref ac14] (σ) (.inl (some (.int (bi (clash pr mt Q1 Q2 RS k sl p q r (6 - i) i))))) (σ)
            refine jr_ifnull d_Wo_clashes_48 ?_
            refine jr_iload d_Wo_clashes_51 rfl ?_
            refine jr_if_eqN 87 d_Wo_clashes_53 (by decide) (by omega) (fun c15 => ?_) (fun c15 => ?_)
            · refine jr_iinc ((nI (i + 1))) d_Wo_clashes_87 (by decide) rfl (jl_inc _) ?_
              show jl_W l G m_Wo_clashes (0, 0) 90 [some (.ref 1), some (.int (nI k)), some (.int (nI sl)), some (.int (en p)), some (.int (en q)), some (.int (nI r)), some (.int (nI (i + 1))), some (.ref ac14), some (.int (nI 1))] [] (σ) (.inl (some (.int (bi (clash pr mt Q1 Q2 RS k sl p q r (6 - i) i))))) (σ)
              refine jr_goto 3 d_Wo_clashes_90 (by decide) ?_
              exact jr_weak (fun q v hv => by match q, hv with | 0, hv => exact hv | 1, hv => exact hv | 2, hv => exact hv | 3, hv => exact hv | 4, hv => exact hv | 5, hv => exact hv | 6, hv => exact hv | 7, hv => cases hv | 8, hv => cases hv | q + 9, hv => cases hv) (jl_oeq (by rw [show 6 - i = (6 - (i + 1)) + 1 by omega]; simp only [clash]; simp_all [bi_0, en_inj (ob_w o1 (by decide)) (ob_w hp (by decide)), en_inj (ob_w o2 (by decide)) (ob_w hq (by decide))]) (ihn (i + 1) (by omega) (by omega)))
            · refine jr_aload d_Wo_clashes_56 rfl ?_
              refine jr_getf d_Wo_clashes_58 f_Wo_clashes_53 hM rfl ?_
              refine jr_iload_n d_Wo_clashes_61 rfl ?_
              refine jr_icmp_ne 85 d_Wo_clashes_62 (by decide) (fun c16 => ?_) (fun c16 => ?_)
              · refine jr_iconst ((nI (1))) d_Wo_clashes_85 (by decide) ?_
                exact jr_zretE d_Wo_clashes_86 rfl (by decide) (by rw [show 6 - i = (6 - (i + 1)) + 1 by omega]; simp only [clash]; simp_all [bi_0, en_inj (ob_w o1 (by decide)) (ob_w hp (by decide)), en_inj (ob_w o2 (by decide)) (ob_w hq (by decide))]; try rfl) (rfl) (by decide) (by decide)
              · refine jr_aload d_Wo_clashes_65 rfl ?_
                refine jr_getf d_Wo_clashes_67 f_Wo_clashes_57 hM rfl ?_
                refine jr_iload d_Wo_clashes_70 rfl ?_
                refine jr_icmp_ne 85 d_Wo_clashes_72 (by decide) (fun c17 => ?_) (fun c17 => ?_)
                · refine jr_iconst ((nI (1))) d_Wo_clashes_85 (by decide) ?_
                  exact jr_zretE d_Wo_clashes_86 rfl (by decide) (by rw [show 6 - i = (6 - (i + 1)) + 1 by omega]; simp only [clash]; simp_all [bi_0, en_inj (ob_w o1 (by decide)) (ob_w hp (by decide)), en_inj (ob_w o2 (by decide)) (ob_w hq (by decide))]; try rfl) (rfl) (by decide) (by decide)
                · refine jr_aload d_Wo_clashes_75 rfl ?_
                  refine jr_getf d_Wo_clashes_77 f_Wo_clashes_60 hM rfl ?_
                  refine jr_iload d_Wo_clashes_80 rfl ?_
                  refine jr_icmp_eqN 87 d_Wo_clashes_82 (by decide) (by omega) (by omega) (fun c18 => ?_) (fun c18 => ?_)
                  · refine jr_iinc ((nI (i + 1))) d_Wo_clashes_87 (by decide) rfl (jl_inc _) ?_
                    show jl_W l G m_Wo_clashes (0, 0) 90 [some (.ref 1), some (.int (nI k)), some (.int (nI sl)), some (.int (en p)), some (.int (en q)), some (.int (nI r)), some (.int (nI (i + 1))), some (.ref ac14), some (.int (nI 1))] [] (σ) (.inl (some (.int (bi (clash pr mt Q1 Q2 RS k sl p q r (6 - i) i))))) (σ)
                    refine jr_goto 3 d_Wo_clashes_90 (by decide) ?_
                    exact jr_weak (fun q v hv => by match q, hv with | 0, hv => exact hv | 1, hv => exact hv | 2, hv => exact hv | 3, hv => exact hv | 4, hv => exact hv | 5, hv => exact hv | 6, hv => exact hv | 7, hv => cases hv | 8, hv => cases hv | q + 9, hv => cases hv) (jl_oeq (by rw [show 6 - i = (6 - (i + 1)) + 1 by omega]; simp only [clash]; simp_all [bi_0, en_inj (ob_w o1 (by decide)) (ob_w hp (by decide)), en_inj (ob_w o2 (by decide)) (ob_w hq (by decide))]) (ihn (i + 1) (by omega) (by omega)))
                  · refine jr_iconst ((nI (1))) d_Wo_clashes_85 (by decide) ?_
                    exact jr_zretE d_Wo_clashes_86 rfl (by decide) (by rw [show 6 - i = (6 - (i + 1)) + 1 by omega]; simp only [clash]; simp_all [bi_0, en_inj (ob_w o1 (by decide)) (ob_w hp (by decide)), en_inj (ob_w o2 (by decide)) (ob_w hq (by decide))]; try rfl) (rfl) (by decide) (by decide)
theorem d_Wo_clashes_0 : decode m_Wo_clashes.2.1 0 = .ok (.iconst 0, 1) := by decide +kernel
theorem d_Wo_clashes_1 : decode m_Wo_clashes.2.1 1 = .ok (.istore 6, 2) := by decide +kernel
theorem wo_clash (hl : l.stackTraces = false) {k sl r : Nat} {p q : Option Nat} {Q1 Q2 : Nat → Option Nat} {RS : Nat → Nat} (hw : WoAt σ tb pr ow fi ft mt) (hk : k < 6) (hs : sl < 4) (hok : ∀ j, ob 6 (pr j)) (hp : ob 16 p) (hq : ob 16 q) (hr : r < 16) (hmh : MhAt σ mt Q1 Q2 RS) : jl_m l G m_Wo_clashes [.ref 1, .int (nI k), .int (nI sl), .int (en p), .int (en q), .int (nI r)] σ (.inl (some (.int (bi (clash pr mt Q1 Q2 RS k sl p q r 6 0))))) (σ) := by
  obtain ⟨hW, h2, h3, h4, h5, h6, h7⟩ := id hw
  refine jl_of (as := [.ref 1, .int (nI k), .int (nI sl), .int (en p), .int (en q), .int (nI r)]) rfl (by decide) hl (jl_cc rfl (jl_cc rfl (jl_cc rfl (jl_cc rfl (jl_cc rfl (jl_cc rfl jl_ca)))))) (Nat.le_of_ble_eq_true rfl) ?_
  show jl_W l G m_Wo_clashes (0, 0) 0 [some (.ref 1), some (.int (nI k)), some (.int (nI sl)), some (.int (en p)), some (.int (en q)), some (.int (nI r)), none, none, none] [] (σ) (.inl (some (.int (bi (clash pr mt Q1 Q2 RS k sl p q r 6 0))))) (σ)
  refine jr_iconst ((nI (0))) d_Wo_clashes_0 (by decide) ?_
  refine jr_istore d_Wo_clashes_1 (by decide) ?_
  show jl_W l G m_Wo_clashes (0, 0) 3 [some (.ref 1), some (.int (nI k)), some (.int (nI sl)), some (.int (en p)), some (.int (en q)), some (.int (nI r)), some (.int (nI 0)), none, none] [] (σ) (.inl (some (.int (bi (clash pr mt Q1 Q2 RS k sl p q r 6 0))))) (σ)
  exact wo_clash_loop hl hw hk hs hok hp hq hr hmh 7 0 (by omega) (by omega)
end JCl
