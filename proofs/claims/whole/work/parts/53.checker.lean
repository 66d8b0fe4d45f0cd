/-! the class Checker (wip/gen/p53.py) -/
section JCk
variable {l : Launch} {G : jl_G} {σ : jl_S}
variable {tb : Nat → Bool} {pr : Nat → Option Nat} {ow fi ft : Nat → Nat} {mt : Nat → Option Nat}
variable {a : Nat} {q1 q2 : Option Nat} {rs : Nat} {op : Nat → Nat} {ag : Nat → Int32} {sz : Nat} {fr tt tg kd : Nat → Nat} {nc : Nat} {mp : Nat → Int32} {fh : Nat → Bool}
variable {sg : Int32 → Option Sg}
theorem d_Ck_jumps_0 : decode m_Ck_jumps.2.1 0 = .ok (.iload_n 1, 1) := by decide +kernel
theorem d_Ck_jumps_1 : decode m_Ck_jumps.2.1 1 = .ok (.bipush 7, 2) := by decide +kernel
theorem d_Ck_jumps_3 : decode m_Ck_jumps.2.1 3 = .ok (.if_icmp .eq 21, 3) := by decide +kernel
theorem d_Ck_jumps_24 : decode m_Ck_jumps.2.1 24 = .ok (.iconst 1, 1) := by decide +kernel
theorem d_Ck_jumps_25 : decode m_Ck_jumps.2.1 25 = .ok (.goto 4, 3) := by decide +kernel
theorem d_Ck_jumps_29 : decode m_Ck_jumps.2.1 29 = .ok (.ireturn, 1) := by decide +kernel
theorem d_Ck_jumps_6 : decode m_Ck_jumps.2.1 6 = .ok (.iload_n 1, 1) := by decide +kernel
theorem d_Ck_jumps_7 : decode m_Ck_jumps.2.1 7 = .ok (.bipush 8, 2) := by decide +kernel
theorem d_Ck_jumps_9 : decode m_Ck_jumps.2.1 9 = .ok (.if_icmp .eq 15, 3) := by decide +kernel
theorem d_Ck_jumps_12 : decode m_Ck_jumps.2.1 12 = .ok (.iload_n 1, 1) := by decide +kernel
theorem d_Ck_jumps_13 : decode m_Ck_jumps.2.1 13 = .ok (.bipush 9, 2) := by decide +kernel
theorem d_Ck_jumps_15 : decode m_Ck_jumps.2.1 15 = .ok (.if_icmp .eq 9, 3) := by decide +kernel
theorem d_Ck_jumps_18 : decode m_Ck_jumps.2.1 18 = .ok (.iload_n 1, 1) := by decide +kernel
theorem d_Ck_jumps_19 : decode m_Ck_jumps.2.1 19 = .ok (.bipush 16, 2) := by decide +kernel
theorem d_Ck_jumps_21 : decode m_Ck_jumps.2.1 21 = .ok (.if_icmp .ne 7, 3) := by decide +kernel
theorem d_Ck_jumps_28 : decode m_Ck_jumps.2.1 28 = .ok (.iconst 0, 1) := by decide +kernel
theorem ck_jumps (hl : l.stackTraces = false) {o : Nat} (hc : CkAt σ) (ho : o < 26) : jl_m l G m_Ck_jumps [.ref 8, .int (nI o)] σ (.inl (some (.int (bi (jmp o))))) (σ) := by
  refine jl_of (as := [.ref 8, .int (nI o)]) rfl (by decide) hl (jl_cc rfl (jl_cc rfl jl_ca)) (Nat.le_of_ble_eq_true rfl) ?_
  show jl_W l G m_Ck_jumps (0, 0) 0 [some (.ref 8), some (.int (nI o))] [] (σ) (.inl (some (.int (bi (jmp o))))) (σ)
  refine jr_iload_n d_Ck_jumps_0 rfl ?_
  refine jr_bipush ((nI (7))) d_Ck_jumps_1 (by decide) ?_
  refine jr_icmp_eqN 24 d_Ck_jumps_3 (by decide) (by omega) (by omega) (fun c1 => ?_) (fun c1 => ?_)
  · refine jr_iconst ((nI (1))) d_Ck_jumps_24 (by decide) ?_
    refine jr_goto 29 d_Ck_jumps_25 (by decide) ?_
    exact jr_zretE d_Ck_jumps_29 rfl (by decide) (by unfold jmp; rw [decide_eq_true (by omega)]; rfl) (rfl) (by decide) (by decide)
  · refine jr_iload_n d_Ck_jumps_6 rfl ?_
    refine jr_bipush ((nI (8))) d_Ck_jumps_7 (by decide) ?_
    refine jr_icmp_eqN 24 d_Ck_jumps_9 (by decide) (by omega) (by omega) (fun c2 => ?_) (fun c2 => ?_)
    · refine jr_iconst ((nI (1))) d_Ck_jumps_24 (by decide) ?_
      refine jr_goto 29 d_Ck_jumps_25 (by decide) ?_
      exact jr_zretE d_Ck_jumps_29 rfl (by decide) (by unfold jmp; rw [decide_eq_true (by omega)]; rfl) (rfl) (by decide) (by decide)
    · refine jr_iload_n d_Ck_jumps_12 rfl ?_
      refine jr_bipush ((nI (9))) d_Ck_jumps_13 (by decide) ?_
      refine jr_icmp_eqN 24 d_Ck_jumps_15 (by decide) (by omega) (by omega) (fun c3 => ?_) (fun c3 => ?_)
      · refine jr_iconst ((nI (1))) d_Ck_jumps_24 (by decide) ?_
        refine jr_goto 29 d_Ck_jumps_25 (by decide) ?_
        exact jr_zretE d_Ck_jumps_29 rfl (by decide) (by unfold jmp; rw [decide_eq_true (by omega)]; rfl) (rfl) (by decide) (by decide)
      · refine jr_iload_n d_Ck_jumps_18 rfl ?_
        refine jr_bipush ((nI (16))) d_Ck_jumps_19 (by decide) ?_
        refine jr_icmp_neN 28 d_Ck_jumps_21 (by decide) (by omega) (by omega) (fun c4 => ?_) (fun c4 => ?_)
        · refine jr_iconst ((nI (0))) d_Ck_jumps_28 (by decide) ?_
          exact jr_zretE d_Ck_jumps_29 rfl (by decide) (by unfold jmp; rw [decide_eq_false (by omega)]; rfl) (rfl) (by decide) (by decide)
        · refine jr_iconst ((nI (1))) d_Ck_jumps_24 (by decide) ?_
          refine jr_goto 29 d_Ck_jumps_25 (by decide) ?_
          exact jr_zretE d_Ck_jumps_29 rfl (by decide) (by unfold jmp; rw [decide_eq_true (by omega)]; rfl) (rfl) (by decide) (by decide)
theorem d_Ck_goesOn_0 : decode m_Ck_goesOn.2.1 0 = .ok (.iload_n 1, 1) := by decide +kernel
theorem d_Ck_goesOn_1 : decode m_Ck_goesOn.2.1 1 = .ok (.bipush 7, 2) := by decide +kernel
theorem d_Ck_goesOn_3 : decode m_Ck_goesOn.2.1 3 = .ok (.if_icmp .eq 19, 3) := by decide +kernel
theorem d_Ck_goesOn_22 : decode m_Ck_goesOn.2.1 22 = .ok (.iconst 0, 1) := by decide +kernel
theorem d_Ck_goesOn_23 : decode m_Ck_goesOn.2.1 23 = .ok (.ireturn, 1) := by decide +kernel
theorem d_Ck_goesOn_6 : decode m_Ck_goesOn.2.1 6 = .ok (.iload_n 1, 1) := by decide +kernel
theorem d_Ck_goesOn_7 : decode m_Ck_goesOn.2.1 7 = .ok (.bipush 17, 2) := by decide +kernel
theorem d_Ck_goesOn_9 : decode m_Ck_goesOn.2.1 9 = .ok (.if_icmp .eq 13, 3) := by decide +kernel
theorem d_Ck_goesOn_12 : decode m_Ck_goesOn.2.1 12 = .ok (.iload_n 1, 1) := by decide +kernel
theorem d_Ck_goesOn_13 : decode m_Ck_goesOn.2.1 13 = .ok (.bipush 18, 2) := by decide +kernel
theorem d_Ck_goesOn_15 : decode m_Ck_goesOn.2.1 15 = .ok (.if_icmp .eq 7, 3) := by decide +kernel
theorem d_Ck_goesOn_18 : decode m_Ck_goesOn.2.1 18 = .ok (.iconst 1, 1) := by decide +kernel
theorem d_Ck_goesOn_19 : decode m_Ck_goesOn.2.1 19 = .ok (.goto 4, 3) := by decide +kernel
theorem ck_goesOn (hl : l.stackTraces = false) {o : Nat} (hc : CkAt σ) (ho : o < 26) : jl_m l G m_Ck_goesOn [.ref 8, .int (nI o)] σ (.inl (some (.int (bi (fal o))))) (σ) := by
  refine jl_of (as := [.ref 8, .int (nI o)]) rfl (by decide) hl (jl_cc rfl (jl_cc rfl jl_ca)) (Nat.le_of_ble_eq_true rfl) ?_
  show jl_W l G m_Ck_goesOn (0, 0) 0 [some (.ref 8), some (.int (nI o))] [] (σ) (.inl (some (.int (bi (fal o))))) (σ)
  refine jr_iload_n d_Ck_goesOn_0 rfl ?_
  refine jr_bipush ((nI (7))) d_Ck_goesOn_1 (by decide) ?_
  refine jr_icmp_eqN 22 d_Ck_goesOn_3 (by decide) (by omega) (by omega) (fun c1 => ?_) (fun c1 => ?_)
  · refine jr_iconst ((nI (0))) d_Ck_goesOn_22 (by decide) ?_
    exact jr_zretE d_Ck_goesOn_23 rfl (by decide) (by unfold fal; rw [decide_eq_false (by omega)]; rfl) (rfl) (by decide) (by decide)
  · refine jr_iload_n d_Ck_goesOn_6 rfl ?_
    refine jr_bipush ((nI (17))) d_Ck_goesOn_7 (by decide) ?_
    refine jr_icmp_eqN 22 d_Ck_goesOn_9 (by decide) (by omega) (by omega) (fun c2 => ?_) (fun c2 => ?_)
    · refine jr_iconst ((nI (0))) d_Ck_goesOn_22 (by decide) ?_
      exact jr_zretE d_Ck_goesOn_23 rfl (by decide) (by unfold fal; rw [decide_eq_false (by omega)]; rfl) (rfl) (by decide) (by decide)
    · refine jr_iload_n d_Ck_goesOn_12 rfl ?_
      refine jr_bipush ((nI (18))) d_Ck_goesOn_13 (by decide) ?_
      refine jr_icmp_eqN 22 d_Ck_goesOn_15 (by decide) (by omega) (by omega) (fun c3 => ?_) (fun c3 => ?_)
      · refine jr_iconst ((nI (0))) d_Ck_goesOn_22 (by decide) ?_
        exact jr_zretE d_Ck_goesOn_23 rfl (by decide) (by unfold fal; rw [decide_eq_false (by omega)]; rfl) (rfl) (by decide) (by decide)
      · refine jr_iconst ((nI (1))) d_Ck_goesOn_18 (by decide) ?_
        refine jr_goto 23 d_Ck_goesOn_19 (by decide) ?_
        exact jr_zretE d_Ck_goesOn_23 rfl (by decide) (by unfold fal; rw [decide_eq_true (by omega)]; rfl) (rfl) (by decide) (by decide)
theorem me_paramsH (hl : l.stackTraces = false) {fs : List Value} (hM : σ[a]? = some (.inr (2, .int (en q1) :: .int (en q2) :: .int (nI rs) :: fs))) (h1 : ob 16 q1) (h2 : ob 16 q2) : jl_m l G m_Me_parameters [.ref a] σ (.inl (some (.int (nI (prm q1 q2))))) (σ) := by
  refine jl_of (as := [.ref a]) rfl (by decide) hl (jl_cc rfl jl_ca) (Nat.le_of_ble_eq_true rfl) ?_
  show jl_W l G m_Me_parameters (0, 0) 0 [some (.ref a)] [] (σ) (.inl (some (.int (nI (prm q1 q2))))) (σ)
  refine jr_aload_n d_Me_parameters_0 rfl ?_
  refine jr_getf d_Me_parameters_1 f_Me_parameters_44 hM rfl ?_
  refine jr_iconst ((-1)) d_Me_parameters_4 (by decide) ?_
  cases q1 with
  | none =>
    show jl_W l G m_Me_parameters (0, 0) 5 [some (.ref a)] [.int (-1), .int (-1)] (σ) (.inl (some (.int (nI (prm none q2))))) (σ)
    refine jr_icmp_ne 10 d_Me_parameters_5 (by decide) (fun z => absurd rfl z) (fun _ => ?_)
    refine jr_iconst ((nI (0))) d_Me_parameters_8 (by decide) ?_
    exact jr_iretE d_Me_parameters_9 rfl (by simp [prm]) (rfl) (by decide) (by decide)
  | some pa =>
    have hpa := h1 pa rfl
    show jl_W l G m_Me_parameters (0, 0) 5 [some (.ref a)] [.int (-1), .int (nI pa)] (σ) (.inl (some (.int (nI (prm (some pa) q2))))) (σ)
    refine jr_icmp_ne 10 d_Me_parameters_5 (by decide) (fun _ => ?_) (fun z => absurd z (en_m1ne (by omega)))
    refine jr_aload_n d_Me_parameters_10 rfl ?_
    refine jr_getf d_Me_parameters_11 f_Me_parameters_47 hM rfl ?_
    refine jr_iconst ((-1)) d_Me_parameters_14 (by decide) ?_
    cases q2 with
    | none =>
      show jl_W l G m_Me_parameters (0, 0) 15 [some (.ref a)] [.int (-1), .int (-1)] (σ) (.inl (some (.int (nI (prm (some pa) none))))) (σ)
      refine jr_icmp_ne 22 d_Me_parameters_15 (by decide) (fun z => absurd rfl z) (fun _ => ?_)
      refine jr_iconst ((nI (1))) d_Me_parameters_18 (by decide) ?_
      refine jr_goto 23 d_Me_parameters_19 (by decide) ?_
      exact jr_iretE d_Me_parameters_23 rfl (by simp [prm]) (rfl) (by decide) (by decide)
    | some qa =>
      have hqa := h2 qa rfl
      show jl_W l G m_Me_parameters (0, 0) 15 [some (.ref a)] [.int (-1), .int (nI qa)] (σ) (.inl (some (.int (nI (prm (some pa) (some qa)))))) (σ)
      refine jr_icmp_ne 22 d_Me_parameters_15 (by decide) (fun _ => ?_) (fun z => absurd z (en_m1ne (by omega)))
      refine jr_iconst ((nI (2))) d_Me_parameters_22 (by decide) ?_
      exact jr_iretE d_Me_parameters_23 rfl (by simp [prm]) (rfl) (by decide) (by decide)
theorem me_paramH0 (hl : l.stackTraces = false) {fs : List Value} (hM : σ[a]? = some (.inr (2, .int (en q1) :: .int (en q2) :: .int (nI rs) :: fs)))  : jl_m l G m_Me_parameter [.ref a, .int (nI 0)] σ (.inl (some (.int (en q1)))) (σ) := by
  refine jl_of (as := [.ref a, .int (nI 0)]) rfl (by decide) hl (jl_cc rfl (jl_cc rfl jl_ca)) (Nat.le_of_ble_eq_true rfl) ?_
  show jl_W l G m_Me_parameter (0, 0) 0 [some (.ref a), some (.int (nI 0))] [] (σ) (.inl (some (.int (en q1)))) (σ)
  refine jr_iload_n d_Me_parameter_0 rfl ?_
  refine jr_if_ne 11 d_Me_parameter_1 (by decide) (fun z => absurd rfl z) (fun _ => ?_)
  refine jr_aload_n d_Me_parameter_4 rfl ?_
  refine jr_getf d_Me_parameter_5 f_Me_parameter_44 hM rfl ?_
  refine jr_goto 15 d_Me_parameter_8 (by decide) ?_
  exact jr_iretE d_Me_parameter_15 rfl (rfl) (rfl) (by decide) (by decide)
theorem me_paramH1 (hl : l.stackTraces = false) {fs : List Value} (hM : σ[a]? = some (.inr (2, .int (en q1) :: .int (en q2) :: .int (nI rs) :: fs)))  : jl_m l G m_Me_parameter [.ref a, .int (nI 1)] σ (.inl (some (.int (en q2)))) (σ) := by
  refine jl_of (as := [.ref a, .int (nI 1)]) rfl (by decide) hl (jl_cc rfl (jl_cc rfl jl_ca)) (Nat.le_of_ble_eq_true rfl) ?_
  show jl_W l G m_Me_parameter (0, 0) 0 [some (.ref a), some (.int (nI 1))] [] (σ) (.inl (some (.int (en q2)))) (σ)
  refine jr_iload_n d_Me_parameter_0 rfl ?_
  refine jr_if_ne 11 d_Me_parameter_1 (by decide) (fun _ => ?_) (fun z => absurd z (by decide))
  refine jr_aload_n d_Me_parameter_11 rfl ?_
  refine jr_getf d_Me_parameter_12 f_Me_parameter_47 hM rfl ?_
  exact jr_iretE d_Me_parameter_15 rfl (rfl) (rfl) (by decide) (by decide)
theorem d_Ck_takes_0 : decode m_Ck_takes.2.1 0 = .ok (.iload_n 1, 1) := by decide +kernel
theorem d_Ck_takes_1 : decode m_Ck_takes.2.1 1 = .ok (.bipush 14, 2) := by decide +kernel
theorem d_Ck_takes_3 : decode m_Ck_takes.2.1 3 = .ok (.if_icmp .eq 9, 3) := by decide +kernel
theorem d_Ck_takes_12 : decode m_Ck_takes.2.1 12 = .ok (.aload_n 0, 1) := by decide +kernel
theorem f_Ck_takes_9 : jl_fd m_Ck_takes 9 0 0 = true := by decide +kernel
theorem d_Ck_takes_13 : decode m_Ck_takes.2.1 13 = .ok (.getfield 9, 3) := by decide +kernel
theorem d_Ck_takes_16 : decode m_Ck_takes.2.1 16 = .ok (.iload_n 2, 1) := by decide +kernel
theorem d_Ck_takes_17 : decode m_Ck_takes.2.1 17 = .ok (.iconst 4, 1) := by decide +kernel
theorem d_Ck_takes_18 : decode m_Ck_takes.2.1 18 = .ok (.idiv, 1) := by decide +kernel
theorem d_Ck_takes_19 : decode m_Ck_takes.2.1 19 = .ok (.iload_n 2, 1) := by decide +kernel
theorem d_Ck_takes_20 : decode m_Ck_takes.2.1 20 = .ok (.iconst 4, 1) := by decide +kernel
theorem d_Ck_takes_21 : decode m_Ck_takes.2.1 21 = .ok (.irem, 1) := by decide +kernel
theorem k_Ck_takes_42 : jl_cv m_Ck_takes m_Wo_found 42 2 = true := by decide +kernel
theorem d_Ck_takes_22 : decode m_Ck_takes.2.1 22 = .ok (.invokevirtual 42, 3) := by decide +kernel
theorem d_Ck_takes_25 : decode m_Ck_takes.2.1 25 = .ok (.astore_n 3, 1) := by decide +kernel
theorem d_Ck_takes_26 : decode m_Ck_takes.2.1 26 = .ok (.getstatic 39, 3) := by decide +kernel
theorem d_Ck_takes_29 : decode m_Ck_takes.2.1 29 = .ok (.bipush 14, 2) := by decide +kernel
theorem d_Ck_takes_31 : decode m_Ck_takes.2.1 31 = .ok (.iaload, 1) := by decide +kernel
theorem d_Ck_takes_32 : decode m_Ck_takes.2.1 32 = .ok (.aload_n 3, 1) := by decide +kernel
theorem d_Ck_takes_33 : decode m_Ck_takes.2.1 33 = .ok (.ifnonnull 7, 3) := by decide +kernel
theorem d_Ck_takes_36 : decode m_Ck_takes.2.1 36 = .ok (.iconst 0, 1) := by decide +kernel
theorem d_Ck_takes_37 : decode m_Ck_takes.2.1 37 = .ok (.goto 7, 3) := by decide +kernel
theorem d_Ck_takes_44 : decode m_Ck_takes.2.1 44 = .ok (.iadd, 1) := by decide +kernel
theorem d_Ck_takes_45 : decode m_Ck_takes.2.1 45 = .ok (.ireturn, 1) := by decide +kernel
theorem d_Ck_takes_40 : decode m_Ck_takes.2.1 40 = .ok (.aload_n 3, 1) := by decide +kernel
theorem k_Ck_takes_48 : jl_cv m_Ck_takes m_Me_parameters 48 0 = true := by decide +kernel
theorem d_Ck_takes_41 : decode m_Ck_takes.2.1 41 = .ok (.invokevirtual 48, 3) := by decide +kernel
theorem d_Ck_takes_6 : decode m_Ck_takes.2.1 6 = .ok (.getstatic 39, 3) := by decide +kernel
theorem d_Ck_takes_9 : decode m_Ck_takes.2.1 9 = .ok (.iload_n 1, 1) := by decide +kernel
theorem d_Ck_takes_10 : decode m_Ck_takes.2.1 10 = .ok (.iaload, 1) := by decide +kernel
theorem d_Ck_takes_11 : decode m_Ck_takes.2.1 11 = .ok (.ireturn, 1) := by decide +kernel
theorem ck_takes (hl : l.stackTraces = false) {o : Nat} {x : Int32} (hc : CkAt σ) (hw : WoAt σ tb pr ow fi ft mt) (hok : WoOk tb pr ow fi) (hsg : SgC σ tb pr mt sg) (ho : o < 26) : jl_m l G m_Ck_takes [.ref 8, .int (nI o), .int (x)] σ (.inl (some (.int (nI (tks sg o x))))) (σ) := by
  obtain ⟨hW, h2, h3, h4, h5, h6, h7⟩ := id hw
  refine jl_of (as := [.ref 8, .int (nI o), .int (x)]) rfl (by decide) hl (jl_cc rfl (jl_cc rfl (jl_cc rfl jl_ca))) (Nat.le_of_ble_eq_true rfl) ?_
  show jl_W l G m_Ck_takes (0, 0) 0 [some (.ref 8), some (.int (nI o)), some (.int (x)), none] [] (σ) (.inl (some (.int (nI (tks sg o x))))) (σ)
  refine jr_iload_n d_Ck_takes_0 rfl ?_
  refine jr_bipush ((nI (14))) d_Ck_takes_1 (by decide) ?_
  refine jr_icmp_eqN 12 d_Ck_takes_3 (by decide) (by omega) (by omega) (fun c1 => ?_) (fun c1 => ?_)
  · refine jr_aload_n d_Ck_takes_12 rfl ?_
    refine jr_getf d_Ck_takes_13 f_Ck_takes_9 hc rfl ?_
    refine jr_iload_n d_Ck_takes_16 rfl ?_
    refine jr_iconst ((nI (4))) d_Ck_takes_17 (by decide) ?_
    refine jr_idiv d_Ck_takes_18 (by decide) ?_
    refine jr_iload_n d_Ck_takes_19 rfl ?_
    refine jr_iconst ((nI (4))) d_Ck_takes_20 (by decide) ?_
    refine jr_irem d_Ck_takes_21 (by decide) ?_
    refine jr_callV (As := [.int ((x) / (nI (4))), .int ((x) - (x) / (nI (4)) * (nI (4)))]) d_Ck_takes_22 k_Ck_takes_42 hW rfl rfl rfl (Nat.le_of_ble_eq_true rfl) (by decide) (by decide) (wo_found hl hw hok.1) ?_
    show jl_W l G m_Ck_takes (0, 0) 25 [some (.ref 8), some (.int (nI o)), some (.int (x)), none] [va_rf (found tb pr mt (x / nI 4) (x - x / nI 4 * nI 4))] (σ) (.inl (some (.int (nI (tks sg o x))))) (σ)
    refine jr_astore_nO d_Ck_takes_25 (by decide) ?_
    show jl_W l G m_Ck_takes (0, 0) 26 [some (.ref 8), some (.int (nI o)), some (.int (x)), some (va_rf (found tb pr mt (x / nI 4) (x - x / nI 4 * nI 4)))] [] (σ) (.inl (some (.int (nI (tks sg o x))))) (σ)
    refine jr_gets (ci := 0) (G.2.2.2.1) d_Ck_takes_26 rfl List.mem_cons_self ?_
    refine jr_bipush ((nI (14))) d_Ck_takes_29 (by decide) ?_
    refine jr_tkldN d_Ck_takes_31 (by omega) ?_
    show jl_W l G m_Ck_takes (0, 0) 32 [some (.ref 8), some (.int (nI o)), some (.int (x)), some (va_rf (found tb pr mt (x / nI 4) (x - x / nI 4 * nI 4)))] [.int (nI 1)] (σ) (.inl (some (.int (nI (tks sg o x))))) (σ)
    refine jr_aload_nO d_Ck_takes_32 rfl ?_
    cases c2 : found tb pr mt (x / nI 4) (x - x / nI 4 * nI 4) with
    | none =>
      show jl_W l G m_Ck_takes (0, 0) 33 [some (.ref 8), some (.int (nI o)), some (.int (x)), some (.null)] [.null, .int (nI 1)] (σ) (.inl (some (.int (nI (tks sg o x))))) (σ)
      refine jr_ifnonnullN d_Ck_takes_33 ?_
      refine jr_iconst ((nI (0))) d_Ck_takes_36 (by decide) ?_
      refine jr_goto 44 d_Ck_takes_37 (by decide) ?_
      refine jr_iaddN d_Ck_takes_44 ?_
      exact jr_iretE d_Ck_takes_45 rfl (by unfold tks; rw [if_pos (by omega), (hsg x).1 ‹_›]; rfl) (rfl) (by decide) (by decide)
    | some ac2 =>
      obtain ⟨q1, q2, rs, fs, hM, hsx, hq1, hq2, hrs, hqq⟩ := (hsg x).2 _ c2
      show jl_W l G m_Ck_takes (0, 0) 33 [some (.ref 8), some (.int (nI o)), some (.int (x)), some (.ref ac2)] [.ref ac2, .int (nI 1)] (σ) (.inl (some (.int (nI (tks sg o x))))) (σ)
      refine jr_ifnonnull 40 d_Ck_takes_33 (by decide) ?_
      refine jr_aload_n d_Ck_takes_40 rfl ?_
      refine jr_callV (As := []) d_Ck_takes_41 k_Ck_takes_48 hM rfl rfl rfl (Nat.le_of_ble_eq_true rfl) (by decide) (by decide) (me_paramsH hl hM hq1 hq2) ?_
      show jl_W l G m_Ck_takes (0, 0) 44 [some (.ref 8), some (.int (nI o)), some (.int (x)), some (.ref ac2)] [.int (nI (prm q1 q2)), .int (nI 1)] (σ) (.inl (some (.int (nI (tks sg o x))))) (σ)
      have hpl := prm_le q1 q2
      refine jr_iaddN d_Ck_takes_44 ?_
      exact jr_iretE d_Ck_takes_45 rfl (by unfold tks; rw [if_pos (by omega), hsx]; rfl) (rfl) (by decide) (by decide)
  · refine jr_gets (ci := 0) (G.2.2.2.1) d_Ck_takes_6 rfl List.mem_cons_self ?_
    refine jr_iload_n d_Ck_takes_9 rfl ?_
    refine jr_tkldN d_Ck_takes_10 (by omega) ?_
    exact jr_iretE d_Ck_takes_11 rfl (by unfold tks; rw [if_neg (by omega)]) (rfl) (by decide) (by decide)
theorem bo0 {b : Bool} (h : b = false) : (Sum.inl (some (Value.int (bi b))) : jl_O) = .inl (some (.int (nI 0))) := by rw [h]; rfl
theorem bo1 {b : Bool} (h : b = true) : (Sum.inl (some (Value.int (bi b))) : jl_O) = .inl (some (.int (nI 1))) := by rw [h]; rfl
theorem bov {b c : Bool} (h : b = c) : (Sum.inl (some (Value.int (bi b))) : jl_O) = .inl (some (.int (bi c))) := by rw [h]
theorem d_Ck_placesAreThere_50 : decode m_Ck_placesAreThere.2.1 50 = .ok (.aload_n 1, 1) := by decide +kernel
theorem f_Ck_placesAreThere_28 : jl_fd m_Ck_placesAreThere 28 2 4 = true := by decide +kernel
theorem d_Ck_placesAreThere_51 : decode m_Ck_placesAreThere.2.1 51 = .ok (.getfield 28, 3) := by decide +kernel
theorem d_Ck_placesAreThere_54 : decode m_Ck_placesAreThere.2.1 54 = .ok (.iload_n 2, 1) := by decide +kernel
theorem d_Ck_placesAreThere_55 : decode m_Ck_placesAreThere.2.1 55 = .ok (.iaload, 1) := by decide +kernel
theorem d_Ck_placesAreThere_56 : decode m_Ck_placesAreThere.2.1 56 = .ok (.istore_n 3, 1) := by decide +kernel
theorem d_Ck_placesAreThere_57 : decode m_Ck_placesAreThere.2.1 57 = .ok (.aload_n 0, 1) := by decide +kernel
theorem d_Ck_placesAreThere_58 : decode m_Ck_placesAreThere.2.1 58 = .ok (.aload_n 1, 1) := by decide +kernel
theorem f_Ck_placesAreThere_22 : jl_fd m_Ck_placesAreThere 22 2 3 = true := by decide +kernel
theorem d_Ck_placesAreThere_59 : decode m_Ck_placesAreThere.2.1 59 = .ok (.getfield 22, 3) := by decide +kernel
theorem d_Ck_placesAreThere_62 : decode m_Ck_placesAreThere.2.1 62 = .ok (.iload_n 2, 1) := by decide +kernel
theorem d_Ck_placesAreThere_63 : decode m_Ck_placesAreThere.2.1 63 = .ok (.iaload, 1) := by decide +kernel
theorem k_Ck_placesAreThere_66 : jl_cv m_Ck_placesAreThere m_Ck_jumps 66 1 = true := by decide +kernel
theorem d_Ck_placesAreThere_64 : decode m_Ck_placesAreThere.2.1 64 = .ok (.invokevirtual 66, 3) := by decide +kernel
theorem d_Ck_placesAreThere_67 : decode m_Ck_placesAreThere.2.1 67 = .ok (.ifCond .eq 17, 3) := by decide +kernel
theorem d_Ck_placesAreThere_84 : decode m_Ck_placesAreThere.2.1 84 = .ok (.aload_n 0, 1) := by decide +kernel
theorem d_Ck_placesAreThere_85 : decode m_Ck_placesAreThere.2.1 85 = .ok (.aload_n 1, 1) := by decide +kernel
theorem d_Ck_placesAreThere_86 : decode m_Ck_placesAreThere.2.1 86 = .ok (.getfield 22, 3) := by decide +kernel
theorem d_Ck_placesAreThere_89 : decode m_Ck_placesAreThere.2.1 89 = .ok (.iload_n 2, 1) := by decide +kernel
theorem d_Ck_placesAreThere_90 : decode m_Ck_placesAreThere.2.1 90 = .ok (.iaload, 1) := by decide +kernel
theorem k_Ck_placesAreThere_70 : jl_cv m_Ck_placesAreThere m_Ck_goesOn 70 1 = true := by decide +kernel
theorem d_Ck_placesAreThere_91 : decode m_Ck_placesAreThere.2.1 91 = .ok (.invokevirtual 70, 3) := by decide +kernel
theorem d_Ck_placesAreThere_94 : decode m_Ck_placesAreThere.2.1 94 = .ok (.ifCond .eq 13, 3) := by decide +kernel
theorem d_Ck_placesAreThere_107 : decode m_Ck_placesAreThere.2.1 107 = .ok (.iconst 1, 1) := by decide +kernel
theorem d_Ck_placesAreThere_108 : decode m_Ck_placesAreThere.2.1 108 = .ok (.goto 4, 3) := by decide +kernel
theorem d_Ck_placesAreThere_112 : decode m_Ck_placesAreThere.2.1 112 = .ok (.ireturn, 1) := by decide +kernel
theorem d_Ck_placesAreThere_97 : decode m_Ck_placesAreThere.2.1 97 = .ok (.iload_n 2, 1) := by decide +kernel
theorem d_Ck_placesAreThere_98 : decode m_Ck_placesAreThere.2.1 98 = .ok (.iconst 1, 1) := by decide +kernel
theorem d_Ck_placesAreThere_99 : decode m_Ck_placesAreThere.2.1 99 = .ok (.iadd, 1) := by decide +kernel
theorem d_Ck_placesAreThere_100 : decode m_Ck_placesAreThere.2.1 100 = .ok (.aload_n 1, 1) := by decide +kernel
theorem f_Ck_placesAreThere_52 : jl_fd m_Ck_placesAreThere 52 2 5 = true := by decide +kernel
theorem d_Ck_placesAreThere_101 : decode m_Ck_placesAreThere.2.1 101 = .ok (.getfield 52, 3) := by decide +kernel
theorem d_Ck_placesAreThere_104 : decode m_Ck_placesAreThere.2.1 104 = .ok (.if_icmp .ge 7, 3) := by decide +kernel
theorem d_Ck_placesAreThere_111 : decode m_Ck_placesAreThere.2.1 111 = .ok (.iconst 0, 1) := by decide +kernel
theorem d_Ck_placesAreThere_70 : decode m_Ck_placesAreThere.2.1 70 = .ok (.iload_n 3, 1) := by decide +kernel
theorem d_Ck_placesAreThere_71 : decode m_Ck_placesAreThere.2.1 71 = .ok (.ifCond .lt 11, 3) := by decide +kernel
theorem d_Ck_placesAreThere_82 : decode m_Ck_placesAreThere.2.1 82 = .ok (.iconst 0, 1) := by decide +kernel
theorem d_Ck_placesAreThere_83 : decode m_Ck_placesAreThere.2.1 83 = .ok (.ireturn, 1) := by decide +kernel
theorem d_Ck_placesAreThere_74 : decode m_Ck_placesAreThere.2.1 74 = .ok (.iload_n 3, 1) := by decide +kernel
theorem d_Ck_placesAreThere_75 : decode m_Ck_placesAreThere.2.1 75 = .ok (.aload_n 1, 1) := by decide +kernel
theorem d_Ck_placesAreThere_76 : decode m_Ck_placesAreThere.2.1 76 = .ok (.getfield 52, 3) := by decide +kernel
theorem d_Ck_placesAreThere_79 : decode m_Ck_placesAreThere.2.1 79 = .ok (.if_icmp .lt 5, 3) := by decide +kernel
theorem ck_pl_t (hl : l.stackTraces = false) {pc : Nat} {v : Int32} (hc : CkAt σ) (hm : MeAt σ a q1 q2 rs op ag sz fr tt tg kd nc mp fh) (hop : op pc < 26) (hpc : pc < 24) (hsz : sz ≤ 24) (hnc : nc ≤ 2) (hcf : ∀ i, i < 2 → fr i < 100 ∧ tt i < 100 ∧ tg i < 24 ∧ kd i < 7) (hp : pc < sz) : jl_W l G m_Ck_placesAreThere (0, 0) 50 [some (.ref 8), some (.ref a), some (.int (nI pc)), some (.int (v))] [] σ (.inl (some (.int (bi (!f4r (op pc) (ag pc) sz pc))))) (σ) := by
  obtain ⟨hM, g1, g2, g3, g4, g5, g6, g7, g8⟩ := id hm
  refine jr_aload_n d_Ck_placesAreThere_50 rfl ?_
  refine jr_getf d_Ck_placesAreThere_51 f_Ck_placesAreThere_28 hM rfl ?_
  refine jr_iload_n d_Ck_placesAreThere_54 rfl ?_
  refine jr_ialdN d_Ck_placesAreThere_55 g2 (by omega) (by omega) ?_
  refine jr_istore_n d_Ck_placesAreThere_56 (by decide) ?_
  show jl_W l G m_Ck_placesAreThere (0, 0) 57 [some (.ref 8), some (.ref a), some (.int (nI pc)), some (.int (ag (pc)))] [] (σ) (.inl (some (.int (bi (!f4r (op pc) (ag pc) sz pc))))) (σ)
  refine jr_aload_n d_Ck_placesAreThere_57 rfl ?_
  refine jr_aload_n d_Ck_placesAreThere_58 rfl ?_
  refine jr_getf d_Ck_placesAreThere_59 f_Ck_placesAreThere_22 hM rfl ?_
  refine jr_iload_n d_Ck_placesAreThere_62 rfl ?_
  refine jr_ialdN d_Ck_placesAreThere_63 g1 (by omega) (by omega) ?_
  refine jr_callV (As := [.int (nI (op (pc)))]) d_Ck_placesAreThere_64 k_Ck_placesAreThere_66 hc rfl rfl rfl (Nat.le_of_ble_eq_true rfl) (by decide) (by decide) (ck_jumps hl hc (by omega)) ?_
  show jl_W l G m_Ck_placesAreThere (0, 0) 67 [some (.ref 8), some (.ref a), some (.int (nI pc)), some (.int (ag (pc)))] [.int (bi (jmp (op (pc))))] (σ) (.inl (some (.int (bi (!f4r (op pc) (ag pc) sz pc))))) (σ)
  refine jr_if_eq 84 d_Ck_placesAreThere_67 (by decide) (fun c1 => ?_) (fun c1 => ?_)
  · refine jr_aload_n d_Ck_placesAreThere_84 rfl ?_
    refine jr_aload_n d_Ck_placesAreThere_85 rfl ?_
    refine jr_getf d_Ck_placesAreThere_86 f_Ck_placesAreThere_22 hM rfl ?_
    refine jr_iload_n d_Ck_placesAreThere_89 rfl ?_
    refine jr_ialdN d_Ck_placesAreThere_90 g1 (by omega) (by omega) ?_
    refine jr_callV (As := [.int (nI (op (pc)))]) d_Ck_placesAreThere_91 k_Ck_placesAreThere_70 hc rfl rfl rfl (Nat.le_of_ble_eq_true rfl) (by decide) (by decide) (ck_goesOn hl hc (by omega)) ?_
    show jl_W l G m_Ck_placesAreThere (0, 0) 94 [some (.ref 8), some (.ref a), some (.int (nI pc)), some (.int (ag (pc)))] [.int (bi (fal (op (pc))))] (σ) (.inl (some (.int (bi (!f4r (op pc) (ag pc) sz pc))))) (σ)
    refine jr_if_eq 107 d_Ck_placesAreThere_94 (by decide) (fun c2 => ?_) (fun c2 => ?_)
    · refine jr_iconst ((nI (1))) d_Ck_placesAreThere_107 (by decide) ?_
      refine jr_goto 112 d_Ck_placesAreThere_108 (by decide) ?_
      exact jr_zretE d_Ck_placesAreThere_112 rfl (by decide) (bo1 (by first | (simp [f4r, outB, bi_0.mp c1, bi_0.mp c2]; done) | (simp [f4r, outB, bi_0.mp c1, bi_0.mp c2]; omega))) (rfl) (by decide) (by decide)
    · refine jr_iload_n d_Ck_placesAreThere_97 rfl ?_
      refine jr_iconst ((nI (1))) d_Ck_placesAreThere_98 (by decide) ?_
      refine jr_iaddN d_Ck_placesAreThere_99 ?_
      refine jr_aload_n d_Ck_placesAreThere_100 rfl ?_
      refine jr_getf d_Ck_placesAreThere_101 f_Ck_placesAreThere_52 hM rfl ?_
      refine jr_icmp_geN 111 d_Ck_placesAreThere_104 (by decide) (by omega) (by omega) (fun c3 => ?_) (fun c3 => ?_)
      · refine jr_iconst ((nI (0))) d_Ck_placesAreThere_111 (by decide) ?_
        exact jr_zretE d_Ck_placesAreThere_112 rfl (by decide) (bo0 (by first | (simp [f4r, outB, bi_0.mp c1, bi_nf c2, c3, Nat.not_lt.mpr c3]; done) | (simp [f4r, outB, bi_0.mp c1, bi_nf c2, c3, Nat.not_lt.mpr c3]; omega))) (rfl) (by decide) (by decide)
      · refine jr_iconst ((nI (1))) d_Ck_placesAreThere_107 (by decide) ?_
        refine jr_goto 112 d_Ck_placesAreThere_108 (by decide) ?_
        exact jr_zretE d_Ck_placesAreThere_112 rfl (by decide) (bo1 (by first | (simp [f4r, outB, bi_0.mp c1, bi_nf c2, c3, Nat.not_le.mpr c3]; done) | (simp [f4r, outB, bi_0.mp c1, bi_nf c2, c3, Nat.not_le.mpr c3]; omega))) (rfl) (by decide) (by decide)
  · refine jr_iload_n d_Ck_placesAreThere_70 rfl ?_
    refine jr_if_lt 82 d_Ck_placesAreThere_71 (by decide) (fun c4 => ?_) (fun c4 => ?_)
    · refine jr_iconst ((nI (0))) d_Ck_placesAreThere_82 (by decide) ?_
      exact jr_zretE d_Ck_placesAreThere_83 rfl (by decide) (bo0 (by first | (simp [f4r, outB, bi_nf c1, c4]; done) | (simp [f4r, outB, bi_nf c1, c4]; omega))) (rfl) (by decide) (by decide)
    · refine jr_iload_n d_Ck_placesAreThere_74 rfl ?_
      refine jr_aload_n d_Ck_placesAreThere_75 rfl ?_
      refine jr_getf d_Ck_placesAreThere_76 f_Ck_placesAreThere_52 hM rfl ?_
      refine jr_icmp_lt 84 d_Ck_placesAreThere_79 (by decide) (fun c5 => ?_) (fun c5 => ?_)
      · refine jr_aload_n d_Ck_placesAreThere_84 rfl ?_
        refine jr_aload_n d_Ck_placesAreThere_85 rfl ?_
        refine jr_getf d_Ck_placesAreThere_86 f_Ck_placesAreThere_22 hM rfl ?_
        refine jr_iload_n d_Ck_placesAreThere_89 rfl ?_
        refine jr_ialdN d_Ck_placesAreThere_90 g1 (by omega) (by omega) ?_
        refine jr_callV (As := [.int (nI (op (pc)))]) d_Ck_placesAreThere_91 k_Ck_placesAreThere_70 hc rfl rfl rfl (Nat.le_of_ble_eq_true rfl) (by decide) (by decide) (ck_goesOn hl hc (by omega)) ?_
        show jl_W l G m_Ck_placesAreThere (0, 0) 94 [some (.ref 8), some (.ref a), some (.int (nI pc)), some (.int (ag (pc)))] [.int (bi (fal (op (pc))))] (σ) (.inl (some (.int (bi (!f4r (op pc) (ag pc) sz pc))))) (σ)
        refine jr_if_eq 107 d_Ck_placesAreThere_94 (by decide) (fun c6 => ?_) (fun c6 => ?_)
        · refine jr_iconst ((nI (1))) d_Ck_placesAreThere_107 (by decide) ?_
          refine jr_goto 112 d_Ck_placesAreThere_108 (by decide) ?_
          exact jr_zretE d_Ck_placesAreThere_112 rfl (by decide) (bo1 (by first | (simp [f4r, outB, bi_nf c1, c4, c5, bi_0.mp c6]; done) | (simp [f4r, outB, bi_nf c1, c4, c5, bi_0.mp c6]; omega))) (rfl) (by decide) (by decide)
        · refine jr_iload_n d_Ck_placesAreThere_97 rfl ?_
          refine jr_iconst ((nI (1))) d_Ck_placesAreThere_98 (by decide) ?_
          refine jr_iaddN d_Ck_placesAreThere_99 ?_
          refine jr_aload_n d_Ck_placesAreThere_100 rfl ?_
          refine jr_getf d_Ck_placesAreThere_101 f_Ck_placesAreThere_52 hM rfl ?_
          refine jr_icmp_geN 111 d_Ck_placesAreThere_104 (by decide) (by omega) (by omega) (fun c7 => ?_) (fun c7 => ?_)
          · refine jr_iconst ((nI (0))) d_Ck_placesAreThere_111 (by decide) ?_
            exact jr_zretE d_Ck_placesAreThere_112 rfl (by decide) (bo0 (by first | (simp [f4r, outB, bi_nf c1, c4, c5, bi_nf c6, c7, Nat.not_lt.mpr c7]; done) | (simp [f4r, outB, bi_nf c1, c4, c5, bi_nf c6, c7, Nat.not_lt.mpr c7]; omega))) (rfl) (by decide) (by decide)
          · refine jr_iconst ((nI (1))) d_Ck_placesAreThere_107 (by decide) ?_
            refine jr_goto 112 d_Ck_placesAreThere_108 (by decide) ?_
            exact jr_zretE d_Ck_placesAreThere_112 rfl (by decide) (bo1 (by first | (simp [f4r, outB, bi_nf c1, c4, c5, bi_nf c6, c7, Nat.not_le.mpr c7]; done) | (simp [f4r, outB, bi_nf c1, c4, c5, bi_nf c6, c7, Nat.not_le.mpr c7]; omega))) (rfl) (by decide) (by decide)
      · refine jr_iconst ((nI (0))) d_Ck_placesAreThere_82 (by decide) ?_
        exact jr_zretE d_Ck_placesAreThere_83 rfl (by decide) (bo0 (by first | (simp [f4r, outB, bi_nf c1, c4, c5]; done) | (simp [f4r, outB, bi_nf c1, c4, c5]; omega))) (rfl) (by decide) (by decide)
theorem d_Ck_placesAreThere_12 : decode m_Ck_placesAreThere.2.1 12 = .ok (.iload_n 3, 1) := by decide +kernel
theorem d_Ck_placesAreThere_13 : decode m_Ck_placesAreThere.2.1 13 = .ok (.aload_n 1, 1) := by decide +kernel
theorem f_Ck_placesAreThere_56 : jl_fd m_Ck_placesAreThere 56 2 10 = true := by decide +kernel
theorem d_Ck_placesAreThere_14 : decode m_Ck_placesAreThere.2.1 14 = .ok (.getfield 56, 3) := by decide +kernel
theorem d_Ck_placesAreThere_17 : decode m_Ck_placesAreThere.2.1 17 = .ok (.if_icmp .ge 33, 3) := by decide +kernel
theorem d_Ck_placesAreThere_20 : decode m_Ck_placesAreThere.2.1 20 = .ok (.aload_n 1, 1) := by decide +kernel
theorem d_Ck_placesAreThere_21 : decode m_Ck_placesAreThere.2.1 21 = .ok (.iload_n 3, 1) := by decide +kernel
theorem d_Ck_placesAreThere_22 : decode m_Ck_placesAreThere.2.1 22 = .ok (.iload_n 2, 1) := by decide +kernel
theorem k_Ck_placesAreThere_59 : jl_cv m_Ck_placesAreThere m_Me_isAround 59 2 = true := by decide +kernel
theorem d_Ck_placesAreThere_23 : decode m_Ck_placesAreThere.2.1 23 = .ok (.invokevirtual 59, 3) := by decide +kernel
theorem d_Ck_placesAreThere_26 : decode m_Ck_placesAreThere.2.1 26 = .ok (.ifCond .eq 18, 3) := by decide +kernel
theorem d_Ck_placesAreThere_44 : decode m_Ck_placesAreThere.2.1 44 = .ok (.iinc 3 1, 3) := by decide +kernel
theorem d_Ck_placesAreThere_47 : decode m_Ck_placesAreThere.2.1 47 = .ok (.goto (-35), 3) := by decide +kernel
theorem d_Ck_placesAreThere_29 : decode m_Ck_placesAreThere.2.1 29 = .ok (.aload_n 1, 1) := by decide +kernel
theorem f_Ck_placesAreThere_63 : jl_fd m_Ck_placesAreThere 63 2 8 = true := by decide +kernel
theorem d_Ck_placesAreThere_30 : decode m_Ck_placesAreThere.2.1 30 = .ok (.getfield 63, 3) := by decide +kernel
theorem d_Ck_placesAreThere_33 : decode m_Ck_placesAreThere.2.1 33 = .ok (.iload_n 3, 1) := by decide +kernel
theorem d_Ck_placesAreThere_34 : decode m_Ck_placesAreThere.2.1 34 = .ok (.iaload, 1) := by decide +kernel
theorem d_Ck_placesAreThere_35 : decode m_Ck_placesAreThere.2.1 35 = .ok (.aload_n 1, 1) := by decide +kernel
theorem d_Ck_placesAreThere_36 : decode m_Ck_placesAreThere.2.1 36 = .ok (.getfield 52, 3) := by decide +kernel
theorem d_Ck_placesAreThere_39 : decode m_Ck_placesAreThere.2.1 39 = .ok (.if_icmp .lt 5, 3) := by decide +kernel
theorem d_Ck_placesAreThere_42 : decode m_Ck_placesAreThere.2.1 42 = .ok (.iconst 0, 1) := by decide +kernel
theorem d_Ck_placesAreThere_43 : decode m_Ck_placesAreThere.2.1 43 = .ok (.ireturn, 1) := by decide +kernel
theorem ck_pl_loop (hl : l.stackTraces = false) {pc : Nat} (hc : CkAt σ) (hm : MeAt σ a q1 q2 rs op ag sz fr tt tg kd nc mp fh) (hop : op pc < 26) (hpc : pc < 24) (hsz : sz ≤ 24) (hnc : nc ≤ 2) (hcf : ∀ i, i < 2 → fr i < 100 ∧ tt i < 100 ∧ tg i < 24 ∧ kd i < 7) (hp : pc < sz) : ∀ (nn : Nat) (i : Nat), nc - i < nn → i ≤ nc → jl_W l G m_Ck_placesAreThere (0, 0) 12 [some (.ref 8), some (.ref a), some (.int (nI pc)), some (.int (nI i))] [] σ (.inl (some (.int (bi (!(anyC (fun i => aro fr tt i pc && decide (sz ≤ tg i)) (nc - i) i || f4r (op pc) (ag pc) sz pc)))))) (σ) := by
  obtain ⟨hM, g1, g2, g3, g4, g5, g6, g7, g8⟩ := id hm
  intro nn
  induction nn with
  | zero => intro i hnn; exact absurd hnn (Nat.not_lt_zero _)
  | succ nn ihn =>
    intro i hnn hi
    refine jr_iload_n d_Ck_placesAreThere_12 rfl ?_
    refine jr_aload_n d_Ck_placesAreThere_13 rfl ?_
    refine jr_getf d_Ck_placesAreThere_14 f_Ck_placesAreThere_56 hM rfl ?_
    refine jr_icmp_geN 50 d_Ck_placesAreThere_17 (by decide) (by omega) (by omega) (fun c1 => ?_) (fun c1 => ?_)
    · exact jl_oeq (by rw [show nc - i = 0 by omega]; simp [anyC]) (ck_pl_t hl hc hm hop hpc hsz hnc hcf hp)
    · refine jr_aload_n d_Ck_placesAreThere_20 rfl ?_
      refine jr_iload_n d_Ck_placesAreThere_21 rfl ?_
      refine jr_iload_n d_Ck_placesAreThere_22 rfl ?_
      refine jr_callV (As := [.int (nI i), .int (nI pc)]) d_Ck_placesAreThere_23 k_Ck_placesAreThere_59 hM rfl rfl rfl (Nat.le_of_ble_eq_true rfl) (by decide) (by decide) (me_around hl hm (by omega) (by omega) (hcf _ (by omega)).1 (hcf _ (by omega)).2.1) ?_
      show jl_W l G m_Ck_placesAreThere (0, 0) 26 [some (.ref 8), some (.ref a), some (.int (nI pc)), some (.int (nI i))] [.int (bi (aro fr tt (i) (pc)))] (σ) (.inl (some (.int (bi (!(anyC (fun i => aro fr tt i pc && decide (sz ≤ tg i)) (nc - i) i || f4r (op pc) (ag pc) sz pc)))))) (σ)
      refine jr_if_eq 44 d_Ck_placesAreThere_26 (by decide) (fun c2 => ?_) (fun c2 => ?_)
      · refine jr_iinc ((nI (i + 1))) d_Ck_placesAreThere_44 (by decide) rfl (jl_inc _) ?_
        show jl_W l G m_Ck_placesAreThere (0, 0) 47 [some (.ref 8), some (.ref a), some (.int (nI pc)), some (.int (nI (i + 1)))] [] (σ) (.inl (some (.int (bi (!(anyC (fun i => aro fr tt i pc && decide (sz ≤ tg i)) (nc - i) i || f4r (op pc) (ag pc) sz pc)))))) (σ)
        refine jr_goto 12 d_Ck_placesAreThere_47 (by decide) ?_
        exact jl_oeq (by rw [show nc - i = (nc - (i + 1)) + 1 by omega]; simp [anyC, c1, Nat.not_le.mpr c1, bi_0.mp c2]) (ihn (i + 1) (by omega) (by omega))
      · have htg := (hcf i (by omega)).2.2.1
        refine jr_aload_n d_Ck_placesAreThere_29 rfl ?_
        refine jr_getf d_Ck_placesAreThere_30 f_Ck_placesAreThere_63 hM rfl ?_
        refine jr_iload_n d_Ck_placesAreThere_33 rfl ?_
        refine jr_ialdN d_Ck_placesAreThere_34 g5 (by omega) (by omega) ?_
        refine jr_aload_n d_Ck_placesAreThere_35 rfl ?_
        refine jr_getf d_Ck_placesAreThere_36 f_Ck_placesAreThere_52 hM rfl ?_
        refine jr_icmp_ltN 44 d_Ck_placesAreThere_39 (by decide) (by omega) (by omega) (fun c3 => ?_) (fun c3 => ?_)
        · refine jr_iinc ((nI (i + 1))) d_Ck_placesAreThere_44 (by decide) rfl (jl_inc _) ?_
          show jl_W l G m_Ck_placesAreThere (0, 0) 47 [some (.ref 8), some (.ref a), some (.int (nI pc)), some (.int (nI (i + 1)))] [] (σ) (.inl (some (.int (bi (!(anyC (fun i => aro fr tt i pc && decide (sz ≤ tg i)) (nc - i) i || f4r (op pc) (ag pc) sz pc)))))) (σ)
          refine jr_goto 12 d_Ck_placesAreThere_47 (by decide) ?_
          exact jl_oeq (by rw [show nc - i = (nc - (i + 1)) + 1 by omega]; simp [anyC, c1, Nat.not_le.mpr c1, bi_nf c2, c3, Nat.not_le.mpr c3]) (ihn (i + 1) (by omega) (by omega))
        · refine jr_iconst ((nI (0))) d_Ck_placesAreThere_42 (by decide) ?_
          exact jr_zretE d_Ck_placesAreThere_43 rfl (by decide) (by rw [show nc - i = (nc - (i + 1)) + 1 by omega]; exact bo0 (by simp [anyC, c1, Nat.not_le.mpr c1, bi_nf c2, c3, Nat.not_lt.mpr c3])) (rfl) (by decide) (by decide)
theorem d_Ck_placesAreThere_0 : decode m_Ck_placesAreThere.2.1 0 = .ok (.iload_n 2, 1) := by decide +kernel
theorem d_Ck_placesAreThere_1 : decode m_Ck_placesAreThere.2.1 1 = .ok (.aload_n 1, 1) := by decide +kernel
theorem d_Ck_placesAreThere_2 : decode m_Ck_placesAreThere.2.1 2 = .ok (.getfield 52, 3) := by decide +kernel
theorem d_Ck_placesAreThere_5 : decode m_Ck_placesAreThere.2.1 5 = .ok (.if_icmp .lt 5, 3) := by decide +kernel
theorem d_Ck_placesAreThere_10 : decode m_Ck_placesAreThere.2.1 10 = .ok (.iconst 0, 1) := by decide +kernel
theorem d_Ck_placesAreThere_11 : decode m_Ck_placesAreThere.2.1 11 = .ok (.istore_n 3, 1) := by decide +kernel
theorem d_Ck_placesAreThere_8 : decode m_Ck_placesAreThere.2.1 8 = .ok (.iconst 0, 1) := by decide +kernel
theorem d_Ck_placesAreThere_9 : decode m_Ck_placesAreThere.2.1 9 = .ok (.ireturn, 1) := by decide +kernel
theorem ck_places (hl : l.stackTraces = false) {pc : Nat} (hc : CkAt σ) (hm : MeAt σ a q1 q2 rs op ag sz fr tt tg kd nc mp fh) (hop : op pc < 26) (hpc : pc < 24) (hsz : sz ≤ 24) (hnc : nc ≤ 2) (hcf : ∀ i, i < 2 → fr i < 100 ∧ tt i < 100 ∧ tg i < 24 ∧ kd i < 7) : jl_m l G m_Ck_placesAreThere [.ref 8, .ref a, .int (nI pc)] σ (.inl (some (.int (bi (!f4 (op pc) (ag pc) sz fr tt tg nc pc))))) (σ) := by
  obtain ⟨hM, g1, g2, g3, g4, g5, g6, g7, g8⟩ := id hm
  refine jl_of (as := [.ref 8, .ref a, .int (nI pc)]) rfl (by decide) hl (jl_cc rfl (jl_cc rfl (jl_cc rfl jl_ca))) (Nat.le_of_ble_eq_true rfl) ?_
  show jl_W l G m_Ck_placesAreThere (0, 0) 0 [some (.ref 8), some (.ref a), some (.int (nI pc)), none] [] (σ) (.inl (some (.int (bi (!f4 (op pc) (ag pc) sz fr tt tg nc pc))))) (σ)
  refine jr_iload_n d_Ck_placesAreThere_0 rfl ?_
  refine jr_aload_n d_Ck_placesAreThere_1 rfl ?_
  refine jr_getf d_Ck_placesAreThere_2 f_Ck_placesAreThere_52 hM rfl ?_
  refine jr_icmp_ltN 10 d_Ck_placesAreThere_5 (by decide) (by omega) (by omega) (fun c1 => ?_) (fun c1 => ?_)
  · refine jr_iconst ((nI (0))) d_Ck_placesAreThere_10 (by decide) ?_
    refine jr_istore_n d_Ck_placesAreThere_11 (by decide) ?_
    show jl_W l G m_Ck_placesAreThere (0, 0) 12 [some (.ref 8), some (.ref a), some (.int (nI pc)), some (.int (nI 0))] [] (σ) (.inl (some (.int (bi (!f4 (op pc) (ag pc) sz fr tt tg nc pc))))) (σ)
    exact jl_oeq (by simp [f4, Nat.not_le.mpr c1]) (ck_pl_loop hl hc hm hop hpc hsz hnc hcf c1 (nc + 1) 0 (by omega) (by omega))
  · refine jr_iconst ((nI (0))) d_Ck_placesAreThere_8 (by decide) ?_
    exact jr_zretE d_Ck_placesAreThere_9 rfl (by decide) (bo0 (by first | (simp [f4, c1, Nat.not_lt.mpr c1]; done) | (simp [f4, c1, Nat.not_lt.mpr c1]; omega))) (rfl) (by decide) (by decide)
theorem d_Ck_namesAreThere_54 : decode m_Ck_namesAreThere.2.1 54 = .ok (.aload_n 1, 1) := by decide +kernel
theorem f_Ck_namesAreThere_28 : jl_fd m_Ck_namesAreThere 28 2 4 = true := by decide +kernel
theorem d_Ck_namesAreThere_55 : decode m_Ck_namesAreThere.2.1 55 = .ok (.getfield 28, 3) := by decide +kernel
theorem d_Ck_namesAreThere_58 : decode m_Ck_namesAreThere.2.1 58 = .ok (.iload_n 2, 1) := by decide +kernel
theorem d_Ck_namesAreThere_59 : decode m_Ck_namesAreThere.2.1 59 = .ok (.iaload, 1) := by decide +kernel
theorem d_Ck_namesAreThere_60 : decode m_Ck_namesAreThere.2.1 60 = .ok (.istore_n 3, 1) := by decide +kernel
theorem d_Ck_namesAreThere_61 : decode m_Ck_namesAreThere.2.1 61 = .ok (.aload_n 1, 1) := by decide +kernel
theorem f_Ck_namesAreThere_22 : jl_fd m_Ck_namesAreThere 22 2 3 = true := by decide +kernel
theorem d_Ck_namesAreThere_62 : decode m_Ck_namesAreThere.2.1 62 = .ok (.getfield 22, 3) := by decide +kernel
theorem d_Ck_namesAreThere_65 : decode m_Ck_namesAreThere.2.1 65 = .ok (.iload_n 2, 1) := by decide +kernel
theorem d_Ck_namesAreThere_66 : decode m_Ck_namesAreThere.2.1 66 = .ok (.iaload, 1) := by decide +kernel
theorem d_Ck_namesAreThere_67 : decode m_Ck_namesAreThere.2.1 67 = .ok (.tableswitch 136 1 15 #[73, 73, 136, 136, 136, 136, 136, 136, 136, 136, 89, 98, 98, 114, 89], 73) := by decide +kernel
theorem d_Ck_namesAreThere_203 : decode m_Ck_namesAreThere.2.1 203 = .ok (.iconst 1, 1) := by decide +kernel
theorem d_Ck_namesAreThere_204 : decode m_Ck_namesAreThere.2.1 204 = .ok (.ireturn, 1) := by decide +kernel
theorem ck_nm_t0 (hl : l.stackTraces = false) {pc : Nat} {v : Int32} (hc : CkAt σ) (hw : WoAt σ tb pr ow fi ft mt) (hm : MeAt σ a q1 q2 rs op ag sz fr tt tg kd nc mp fh) (hok : WoOk tb pr ow fi) (hsg : SgC σ tb pr mt sg) (hop : op pc < 26) (hpc : pc < 24) (hsz : sz ≤ 24) (hnc : nc ≤ 2) (hcf : ∀ i, i < 2 → fr i < 100 ∧ tt i < 100 ∧ tg i < 24 ∧ kd i < 7) (ho : op pc = 0) : jl_W l G m_Ck_namesAreThere (0, 0) 54 [some (.ref 8), some (.ref a), some (.int (nI pc)), some (.int (v))] [] σ (.inl (some (.int (bi (!f5o tb ow fi sg 0 (ag pc)))))) (σ) := by
  obtain ⟨hW, h2, h3, h4, h5, h6, h7⟩ := id hw
  obtain ⟨hM, g1, g2, g3, g4, g5, g6, g7, g8⟩ := id hm
  refine jr_aload_n d_Ck_namesAreThere_54 rfl ?_
  refine jr_getf d_Ck_namesAreThere_55 f_Ck_namesAreThere_28 hM rfl ?_
  refine jr_iload_n d_Ck_namesAreThere_58 rfl ?_
  refine jr_ialdN d_Ck_namesAreThere_59 g2 (by omega) (by omega) ?_
  refine jr_istore_n d_Ck_namesAreThere_60 (by decide) ?_
  show jl_W l G m_Ck_namesAreThere (0, 0) 61 [some (.ref 8), some (.ref a), some (.int (nI pc)), some (.int (ag (pc)))] [] (σ) (.inl (some (.int (bi (!f5o tb ow fi sg 0 (ag pc)))))) (σ)
  refine jr_aload_n d_Ck_namesAreThere_61 rfl ?_
  refine jr_getf d_Ck_namesAreThere_62 f_Ck_namesAreThere_22 hM rfl ?_
  refine jr_iload_n d_Ck_namesAreThere_65 rfl ?_
  refine jr_ialdQ (v := (nI (0))) d_Ck_namesAreThere_66 g1 (by omega) (by omega) (congrArg nI ho) ?_
  refine jr_tableOut 203 d_Ck_namesAreThere_67 (by decide +kernel) (by decide) ?_
  refine jr_iconst ((nI (1))) d_Ck_namesAreThere_203 (by decide) ?_
  exact jr_zretE d_Ck_namesAreThere_204 rfl (by decide) (bo1 (by first | (simp [f5o, lt6]; done) | (simp [f5o, lt6]; omega))) (rfl) (by decide) (by decide)
theorem d_Ck_namesAreThere_140 : decode m_Ck_namesAreThere.2.1 140 = .ok (.iload_n 3, 1) := by decide +kernel
theorem d_Ck_namesAreThere_141 : decode m_Ck_namesAreThere.2.1 141 = .ok (.ifCond .lt 13, 3) := by decide +kernel
theorem d_Ck_namesAreThere_154 : decode m_Ck_namesAreThere.2.1 154 = .ok (.iconst 0, 1) := by decide +kernel
theorem d_Ck_namesAreThere_155 : decode m_Ck_namesAreThere.2.1 155 = .ok (.ireturn, 1) := by decide +kernel
theorem d_Ck_namesAreThere_144 : decode m_Ck_namesAreThere.2.1 144 = .ok (.iload_n 3, 1) := by decide +kernel
theorem d_Ck_namesAreThere_145 : decode m_Ck_namesAreThere.2.1 145 = .ok (.bipush 6, 2) := by decide +kernel
theorem d_Ck_namesAreThere_147 : decode m_Ck_namesAreThere.2.1 147 = .ok (.if_icmp .ge 7, 3) := by decide +kernel
theorem d_Ck_namesAreThere_150 : decode m_Ck_namesAreThere.2.1 150 = .ok (.iconst 1, 1) := by decide +kernel
theorem d_Ck_namesAreThere_151 : decode m_Ck_namesAreThere.2.1 151 = .ok (.goto 4, 3) := by decide +kernel
theorem ck_nm_t1 (hl : l.stackTraces = false) {pc : Nat} {v : Int32} (hc : CkAt σ) (hw : WoAt σ tb pr ow fi ft mt) (hm : MeAt σ a q1 q2 rs op ag sz fr tt tg kd nc mp fh) (hok : WoOk tb pr ow fi) (hsg : SgC σ tb pr mt sg) (hop : op pc < 26) (hpc : pc < 24) (hsz : sz ≤ 24) (hnc : nc ≤ 2) (hcf : ∀ i, i < 2 → fr i < 100 ∧ tt i < 100 ∧ tg i < 24 ∧ kd i < 7) (ho : op pc = 1) : jl_W l G m_Ck_namesAreThere (0, 0) 54 [some (.ref 8), some (.ref a), some (.int (nI pc)), some (.int (v))] [] σ (.inl (some (.int (bi (!f5o tb ow fi sg 1 (ag pc)))))) (σ) := by
  obtain ⟨hW, h2, h3, h4, h5, h6, h7⟩ := id hw
  obtain ⟨hM, g1, g2, g3, g4, g5, g6, g7, g8⟩ := id hm
  refine jr_aload_n d_Ck_namesAreThere_54 rfl ?_
  refine jr_getf d_Ck_namesAreThere_55 f_Ck_namesAreThere_28 hM rfl ?_
  refine jr_iload_n d_Ck_namesAreThere_58 rfl ?_
  refine jr_ialdN d_Ck_namesAreThere_59 g2 (by omega) (by omega) ?_
  refine jr_istore_n d_Ck_namesAreThere_60 (by decide) ?_
  show jl_W l G m_Ck_namesAreThere (0, 0) 61 [some (.ref 8), some (.ref a), some (.int (nI pc)), some (.int (ag (pc)))] [] (σ) (.inl (some (.int (bi (!f5o tb ow fi sg 1 (ag pc)))))) (σ)
  refine jr_aload_n d_Ck_namesAreThere_61 rfl ?_
  refine jr_getf d_Ck_namesAreThere_62 f_Ck_namesAreThere_22 hM rfl ?_
  refine jr_iload_n d_Ck_namesAreThere_65 rfl ?_
  refine jr_ialdQ (v := (nI (1))) d_Ck_namesAreThere_66 g1 (by omega) (by omega) (congrArg nI ho) ?_
  refine jr_tableIn (off := 73) 140 d_Ck_namesAreThere_67 (by decide +kernel) (by decide +kernel) (by decide +kernel) (by decide) ?_
  refine jr_iload_n d_Ck_namesAreThere_140 rfl ?_
  refine jr_if_lt 154 d_Ck_namesAreThere_141 (by decide) (fun c1 => ?_) (fun c1 => ?_)
  · refine jr_iconst ((nI (0))) d_Ck_namesAreThere_154 (by decide) ?_
    exact jr_zretE d_Ck_namesAreThere_155 rfl (by decide) (bo0 (by first | (simp [f5o, lt6, c1]; done) | (simp [f5o, lt6, c1]; omega))) (rfl) (by decide) (by decide)
  · refine jr_iload_n d_Ck_namesAreThere_144 rfl ?_
    refine jr_bipush ((nI (6))) d_Ck_namesAreThere_145 (by decide) ?_
    refine jr_icmp_ge 154 d_Ck_namesAreThere_147 (by decide) (fun c2 => ?_) (fun c2 => ?_)
    · refine jr_iconst ((nI (0))) d_Ck_namesAreThere_154 (by decide) ?_
      exact jr_zretE d_Ck_namesAreThere_155 rfl (by decide) (bo0 (by first | (simp [f5o, lt6, c1, c2]; done) | (simp [f5o, lt6, c1, c2]; omega))) (rfl) (by decide) (by decide)
    · refine jr_iconst ((nI (1))) d_Ck_namesAreThere_150 (by decide) ?_
      refine jr_goto 155 d_Ck_namesAreThere_151 (by decide) ?_
      exact jr_zretE d_Ck_namesAreThere_155 rfl (by decide) (bo1 (by first | (simp [f5o, lt6, c1, c2]; done) | (simp [f5o, lt6, c1, c2]; omega))) (rfl) (by decide) (by decide)
theorem ck_nm_t2 (hl : l.stackTraces = false) {pc : Nat} {v : Int32} (hc : CkAt σ) (hw : WoAt σ tb pr ow fi ft mt) (hm : MeAt σ a q1 q2 rs op ag sz fr tt tg kd nc mp fh) (hok : WoOk tb pr ow fi) (hsg : SgC σ tb pr mt sg) (hop : op pc < 26) (hpc : pc < 24) (hsz : sz ≤ 24) (hnc : nc ≤ 2) (hcf : ∀ i, i < 2 → fr i < 100 ∧ tt i < 100 ∧ tg i < 24 ∧ kd i < 7) (ho : op pc = 2) : jl_W l G m_Ck_namesAreThere (0, 0) 54 [some (.ref 8), some (.ref a), some (.int (nI pc)), some (.int (v))] [] σ (.inl (some (.int (bi (!f5o tb ow fi sg 2 (ag pc)))))) (σ) := by
  obtain ⟨hW, h2, h3, h4, h5, h6, h7⟩ := id hw
  obtain ⟨hM, g1, g2, g3, g4, g5, g6, g7, g8⟩ := id hm
  refine jr_aload_n d_Ck_namesAreThere_54 rfl ?_
  refine jr_getf d_Ck_namesAreThere_55 f_Ck_namesAreThere_28 hM rfl ?_
  refine jr_iload_n d_Ck_namesAreThere_58 rfl ?_
  refine jr_ialdN d_Ck_namesAreThere_59 g2 (by omega) (by omega) ?_
  refine jr_istore_n d_Ck_namesAreThere_60 (by decide) ?_
  show jl_W l G m_Ck_namesAreThere (0, 0) 61 [some (.ref 8), some (.ref a), some (.int (nI pc)), some (.int (ag (pc)))] [] (σ) (.inl (some (.int (bi (!f5o tb ow fi sg 2 (ag pc)))))) (σ)
  refine jr_aload_n d_Ck_namesAreThere_61 rfl ?_
  refine jr_getf d_Ck_namesAreThere_62 f_Ck_namesAreThere_22 hM rfl ?_
  refine jr_iload_n d_Ck_namesAreThere_65 rfl ?_
  refine jr_ialdQ (v := (nI (2))) d_Ck_namesAreThere_66 g1 (by omega) (by omega) (congrArg nI ho) ?_
  refine jr_tableIn (off := 73) 140 d_Ck_namesAreThere_67 (by decide +kernel) (by decide +kernel) (by decide +kernel) (by decide) ?_
  refine jr_iload_n d_Ck_namesAreThere_140 rfl ?_
  refine jr_if_lt 154 d_Ck_namesAreThere_141 (by decide) (fun c1 => ?_) (fun c1 => ?_)
  · refine jr_iconst ((nI (0))) d_Ck_namesAreThere_154 (by decide) ?_
    exact jr_zretE d_Ck_namesAreThere_155 rfl (by decide) (bo0 (by first | (simp [f5o, lt6, c1]; done) | (simp [f5o, lt6, c1]; omega))) (rfl) (by decide) (by decide)
  · refine jr_iload_n d_Ck_namesAreThere_144 rfl ?_
    refine jr_bipush ((nI (6))) d_Ck_namesAreThere_145 (by decide) ?_
    refine jr_icmp_ge 154 d_Ck_namesAreThere_147 (by decide) (fun c2 => ?_) (fun c2 => ?_)
    · refine jr_iconst ((nI (0))) d_Ck_namesAreThere_154 (by decide) ?_
      exact jr_zretE d_Ck_namesAreThere_155 rfl (by decide) (bo0 (by first | (simp [f5o, lt6, c1, c2]; done) | (simp [f5o, lt6, c1, c2]; omega))) (rfl) (by decide) (by decide)
    · refine jr_iconst ((nI (1))) d_Ck_namesAreThere_150 (by decide) ?_
      refine jr_goto 155 d_Ck_namesAreThere_151 (by decide) ?_
      exact jr_zretE d_Ck_namesAreThere_155 rfl (by decide) (bo1 (by first | (simp [f5o, lt6, c1, c2]; done) | (simp [f5o, lt6, c1, c2]; omega))) (rfl) (by decide) (by decide)
theorem ck_nm_t3 (hl : l.stackTraces = false) {pc : Nat} {v : Int32} (hc : CkAt σ) (hw : WoAt σ tb pr ow fi ft mt) (hm : MeAt σ a q1 q2 rs op ag sz fr tt tg kd nc mp fh) (hok : WoOk tb pr ow fi) (hsg : SgC σ tb pr mt sg) (hop : op pc < 26) (hpc : pc < 24) (hsz : sz ≤ 24) (hnc : nc ≤ 2) (hcf : ∀ i, i < 2 → fr i < 100 ∧ tt i < 100 ∧ tg i < 24 ∧ kd i < 7) (ho : op pc = 3) : jl_W l G m_Ck_namesAreThere (0, 0) 54 [some (.ref 8), some (.ref a), some (.int (nI pc)), some (.int (v))] [] σ (.inl (some (.int (bi (!f5o tb ow fi sg 3 (ag pc)))))) (σ) := by
  obtain ⟨hW, h2, h3, h4, h5, h6, h7⟩ := id hw
  obtain ⟨hM, g1, g2, g3, g4, g5, g6, g7, g8⟩ := id hm
  refine jr_aload_n d_Ck_namesAreThere_54 rfl ?_
  refine jr_getf d_Ck_namesAreThere_55 f_Ck_namesAreThere_28 hM rfl ?_
  refine jr_iload_n d_Ck_namesAreThere_58 rfl ?_
  refine jr_ialdN d_Ck_namesAreThere_59 g2 (by omega) (by omega) ?_
  refine jr_istore_n d_Ck_namesAreThere_60 (by decide) ?_
  show jl_W l G m_Ck_namesAreThere (0, 0) 61 [some (.ref 8), some (.ref a), some (.int (nI pc)), some (.int (ag (pc)))] [] (σ) (.inl (some (.int (bi (!f5o tb ow fi sg 3 (ag pc)))))) (σ)
  refine jr_aload_n d_Ck_namesAreThere_61 rfl ?_
  refine jr_getf d_Ck_namesAreThere_62 f_Ck_namesAreThere_22 hM rfl ?_
  refine jr_iload_n d_Ck_namesAreThere_65 rfl ?_
  refine jr_ialdQ (v := (nI (3))) d_Ck_namesAreThere_66 g1 (by omega) (by omega) (congrArg nI ho) ?_
  refine jr_tableIn (off := 136) 203 d_Ck_namesAreThere_67 (by decide +kernel) (by decide +kernel) (by decide +kernel) (by decide) ?_
  refine jr_iconst ((nI (1))) d_Ck_namesAreThere_203 (by decide) ?_
  exact jr_zretE d_Ck_namesAreThere_204 rfl (by decide) (bo1 (by first | (simp [f5o, lt6]; done) | (simp [f5o, lt6]; omega))) (rfl) (by decide) (by decide)
theorem ck_nm_t4 (hl : l.stackTraces = false) {pc : Nat} {v : Int32} (hc : CkAt σ) (hw : WoAt σ tb pr ow fi ft mt) (hm : MeAt σ a q1 q2 rs op ag sz fr tt tg kd nc mp fh) (hok : WoOk tb pr ow fi) (hsg : SgC σ tb pr mt sg) (hop : op pc < 26) (hpc : pc < 24) (hsz : sz ≤ 24) (hnc : nc ≤ 2) (hcf : ∀ i, i < 2 → fr i < 100 ∧ tt i < 100 ∧ tg i < 24 ∧ kd i < 7) (ho : op pc = 4) : jl_W l G m_Ck_namesAreThere (0, 0) 54 [some (.ref 8), some (.ref a), some (.int (nI pc)), some (.int (v))] [] σ (.inl (some (.int (bi (!f5o tb ow fi sg 4 (ag pc)))))) (σ) := by
  obtain ⟨hW, h2, h3, h4, h5, h6, h7⟩ := id hw
  obtain ⟨hM, g1, g2, g3, g4, g5, g6, g7, g8⟩ := id hm
  refine jr_aload_n d_Ck_namesAreThere_54 rfl ?_
  refine jr_getf d_Ck_namesAreThere_55 f_Ck_namesAreThere_28 hM rfl ?_
  refine jr_iload_n d_Ck_namesAreThere_58 rfl ?_
  refine jr_ialdN d_Ck_namesAreThere_59 g2 (by omega) (by omega) ?_
  refine jr_istore_n d_Ck_namesAreThere_60 (by decide) ?_
  show jl_W l G m_Ck_namesAreThere (0, 0) 61 [some (.ref 8), some (.ref a), some (.int (nI pc)), some (.int (ag (pc)))] [] (σ) (.inl (some (.int (bi (!f5o tb ow fi sg 4 (ag pc)))))) (σ)
  refine jr_aload_n d_Ck_namesAreThere_61 rfl ?_
  refine jr_getf d_Ck_namesAreThere_62 f_Ck_namesAreThere_22 hM rfl ?_
  refine jr_iload_n d_Ck_namesAreThere_65 rfl ?_
  refine jr_ialdQ (v := (nI (4))) d_Ck_namesAreThere_66 g1 (by omega) (by omega) (congrArg nI ho) ?_
  refine jr_tableIn (off := 136) 203 d_Ck_namesAreThere_67 (by decide +kernel) (by decide +kernel) (by decide +kernel) (by decide) ?_
  refine jr_iconst ((nI (1))) d_Ck_namesAreThere_203 (by decide) ?_
  exact jr_zretE d_Ck_namesAreThere_204 rfl (by decide) (bo1 (by first | (simp [f5o, lt6]; done) | (simp [f5o, lt6]; omega))) (rfl) (by decide) (by decide)
theorem ck_nm_t5 (hl : l.stackTraces = false) {pc : Nat} {v : Int32} (hc : CkAt σ) (hw : WoAt σ tb pr ow fi ft mt) (hm : MeAt σ a q1 q2 rs op ag sz fr tt tg kd nc mp fh) (hok : WoOk tb pr ow fi) (hsg : SgC σ tb pr mt sg) (hop : op pc < 26) (hpc : pc < 24) (hsz : sz ≤ 24) (hnc : nc ≤ 2) (hcf : ∀ i, i < 2 → fr i < 100 ∧ tt i < 100 ∧ tg i < 24 ∧ kd i < 7) (ho : op pc = 5) : jl_W l G m_Ck_namesAreThere (0, 0) 54 [some (.ref 8), some (.ref a), some (.int (nI pc)), some (.int (v))] [] σ (.inl (some (.int (bi (!f5o tb ow fi sg 5 (ag pc)))))) (σ) := by
  obtain ⟨hW, h2, h3, h4, h5, h6, h7⟩ := id hw
  obtain ⟨hM, g1, g2, g3, g4, g5, g6, g7, g8⟩ := id hm
  refine jr_aload_n d_Ck_namesAreThere_54 rfl ?_
  refine jr_getf d_Ck_namesAreThere_55 f_Ck_namesAreThere_28 hM rfl ?_
  refine jr_iload_n d_Ck_namesAreThere_58 rfl ?_
  refine jr_ialdN d_Ck_namesAreThere_59 g2 (by omega) (by omega) ?_
  refine jr_istore_n d_Ck_namesAreThere_60 (by decide) ?_
  show jl_W l G m_Ck_namesAreThere (0, 0) 61 [some (.ref 8), some (.ref a), some (.int (nI pc)), some (.int (ag (pc)))] [] (σ) (.inl (some (.int (bi (!f5o tb ow fi sg 5 (ag pc)))))) (σ)
  refine jr_aload_n d_Ck_namesAreThere_61 rfl ?_
  refine jr_getf d_Ck_namesAreThere_62 f_Ck_namesAreThere_22 hM rfl ?_
  refine jr_iload_n d_Ck_namesAreThere_65 rfl ?_
  refine jr_ialdQ (v := (nI (5))) d_Ck_namesAreThere_66 g1 (by omega) (by omega) (congrArg nI ho) ?_
  refine jr_tableIn (off := 136) 203 d_Ck_namesAreThere_67 (by decide +kernel) (by decide +kernel) (by decide +kernel) (by decide) ?_
  refine jr_iconst ((nI (1))) d_Ck_namesAreThere_203 (by decide) ?_
  exact jr_zretE d_Ck_namesAreThere_204 rfl (by decide) (bo1 (by first | (simp [f5o, lt6]; done) | (simp [f5o, lt6]; omega))) (rfl) (by decide) (by decide)
theorem ck_nm_t6 (hl : l.stackTraces = false) {pc : Nat} {v : Int32} (hc : CkAt σ) (hw : WoAt σ tb pr ow fi ft mt) (hm : MeAt σ a q1 q2 rs op ag sz fr tt tg kd nc mp fh) (hok : WoOk tb pr ow fi) (hsg : SgC σ tb pr mt sg) (hop : op pc < 26) (hpc : pc < 24) (hsz : sz ≤ 24) (hnc : nc ≤ 2) (hcf : ∀ i, i < 2 → fr i < 100 ∧ tt i < 100 ∧ tg i < 24 ∧ kd i < 7) (ho : op pc = 6) : jl_W l G m_Ck_namesAreThere (0, 0) 54 [some (.ref 8), some (.ref a), some (.int (nI pc)), some (.int (v))] [] σ (.inl (some (.int (bi (!f5o tb ow fi sg 6 (ag pc)))))) (σ) := by
  obtain ⟨hW, h2, h3, h4, h5, h6, h7⟩ := id hw
  obtain ⟨hM, g1, g2, g3, g4, g5, g6, g7, g8⟩ := id hm
  refine jr_aload_n d_Ck_namesAreThere_54 rfl ?_
  refine jr_getf d_Ck_namesAreThere_55 f_Ck_namesAreThere_28 hM rfl ?_
  refine jr_iload_n d_Ck_namesAreThere_58 rfl ?_
  refine jr_ialdN d_Ck_namesAreThere_59 g2 (by omega) (by omega) ?_
  refine jr_istore_n d_Ck_namesAreThere_60 (by decide) ?_
  show jl_W l G m_Ck_namesAreThere (0, 0) 61 [some (.ref 8), some (.ref a), some (.int (nI pc)), some (.int (ag (pc)))] [] (σ) (.inl (some (.int (bi (!f5o tb ow fi sg 6 (ag pc)))))) (σ)
  refine jr_aload_n d_Ck_namesAreThere_61 rfl ?_
  refine jr_getf d_Ck_namesAreThere_62 f_Ck_namesAreThere_22 hM rfl ?_
  refine jr_iload_n d_Ck_namesAreThere_65 rfl ?_
  refine jr_ialdQ (v := (nI (6))) d_Ck_namesAreThere_66 g1 (by omega) (by omega) (congrArg nI ho) ?_
  refine jr_tableIn (off := 136) 203 d_Ck_namesAreThere_67 (by decide +kernel) (by decide +kernel) (by decide +kernel) (by decide) ?_
  refine jr_iconst ((nI (1))) d_Ck_namesAreThere_203 (by decide) ?_
  exact jr_zretE d_Ck_namesAreThere_204 rfl (by decide) (bo1 (by first | (simp [f5o, lt6]; done) | (simp [f5o, lt6]; omega))) (rfl) (by decide) (by decide)
theorem ck_nm_t7 (hl : l.stackTraces = false) {pc : Nat} {v : Int32} (hc : CkAt σ) (hw : WoAt σ tb pr ow fi ft mt) (hm : MeAt σ a q1 q2 rs op ag sz fr tt tg kd nc mp fh) (hok : WoOk tb pr ow fi) (hsg : SgC σ tb pr mt sg) (hop : op pc < 26) (hpc : pc < 24) (hsz : sz ≤ 24) (hnc : nc ≤ 2) (hcf : ∀ i, i < 2 → fr i < 100 ∧ tt i < 100 ∧ tg i < 24 ∧ kd i < 7) (ho : op pc = 7) : jl_W l G m_Ck_namesAreThere (0, 0) 54 [some (.ref 8), some (.ref a), some (.int (nI pc)), some (.int (v))] [] σ (.inl (some (.int (bi (!f5o tb ow fi sg 7 (ag pc)))))) (σ) := by
  obtain ⟨hW, h2, h3, h4, h5, h6, h7⟩ := id hw
  obtain ⟨hM, g1, g2, g3, g4, g5, g6, g7, g8⟩ := id hm
  refine jr_aload_n d_Ck_namesAreThere_54 rfl ?_
  refine jr_getf d_Ck_namesAreThere_55 f_Ck_namesAreThere_28 hM rfl ?_
  refine jr_iload_n d_Ck_namesAreThere_58 rfl ?_
  refine jr_ialdN d_Ck_namesAreThere_59 g2 (by omega) (by omega) ?_
  refine jr_istore_n d_Ck_namesAreThere_60 (by decide) ?_
  show jl_W l G m_Ck_namesAreThere (0, 0) 61 [some (.ref 8), some (.ref a), some (.int (nI pc)), some (.int (ag (pc)))] [] (σ) (.inl (some (.int (bi (!f5o tb ow fi sg 7 (ag pc)))))) (σ)
  refine jr_aload_n d_Ck_namesAreThere_61 rfl ?_
  refine jr_getf d_Ck_namesAreThere_62 f_Ck_namesAreThere_22 hM rfl ?_
  refine jr_iload_n d_Ck_namesAreThere_65 rfl ?_
  refine jr_ialdQ (v := (nI (7))) d_Ck_namesAreThere_66 g1 (by omega) (by omega) (congrArg nI ho) ?_
  refine jr_tableIn (off := 136) 203 d_Ck_namesAreThere_67 (by decide +kernel) (by decide +kernel) (by decide +kernel) (by decide) ?_
  refine jr_iconst ((nI (1))) d_Ck_namesAreThere_203 (by decide) ?_
  exact jr_zretE d_Ck_namesAreThere_204 rfl (by decide) (bo1 (by first | (simp [f5o, lt6]; done) | (simp [f5o, lt6]; omega))) (rfl) (by decide) (by decide)
theorem ck_nm_t8 (hl : l.stackTraces = false) {pc : Nat} {v : Int32} (hc : CkAt σ) (hw : WoAt σ tb pr ow fi ft mt) (hm : MeAt σ a q1 q2 rs op ag sz fr tt tg kd nc mp fh) (hok : WoOk tb pr ow fi) (hsg : SgC σ tb pr mt sg) (hop : op pc < 26) (hpc : pc < 24) (hsz : sz ≤ 24) (hnc : nc ≤ 2) (hcf : ∀ i, i < 2 → fr i < 100 ∧ tt i < 100 ∧ tg i < 24 ∧ kd i < 7) (ho : op pc = 8) : jl_W l G m_Ck_namesAreThere (0, 0) 54 [some (.ref 8), some (.ref a), some (.int (nI pc)), some (.int (v))] [] σ (.inl (some (.int (bi (!f5o tb ow fi sg 8 (ag pc)))))) (σ) := by
  obtain ⟨hW, h2, h3, h4, h5, h6, h7⟩ := id hw
  obtain ⟨hM, g1, g2, g3, g4, g5, g6, g7, g8⟩ := id hm
  refine jr_aload_n d_Ck_namesAreThere_54 rfl ?_
  refine jr_getf d_Ck_namesAreThere_55 f_Ck_namesAreThere_28 hM rfl ?_
  refine jr_iload_n d_Ck_namesAreThere_58 rfl ?_
  refine jr_ialdN d_Ck_namesAreThere_59 g2 (by omega) (by omega) ?_
  refine jr_istore_n d_Ck_namesAreThere_60 (by decide) ?_
  show jl_W l G m_Ck_namesAreThere (0, 0) 61 [some (.ref 8), some (.ref a), some (.int (nI pc)), some (.int (ag (pc)))] [] (σ) (.inl (some (.int (bi (!f5o tb ow fi sg 8 (ag pc)))))) (σ)
  refine jr_aload_n d_Ck_namesAreThere_61 rfl ?_
  refine jr_getf d_Ck_namesAreThere_62 f_Ck_namesAreThere_22 hM rfl ?_
  refine jr_iload_n d_Ck_namesAreThere_65 rfl ?_
  refine jr_ialdQ (v := (nI (8))) d_Ck_namesAreThere_66 g1 (by omega) (by omega) (congrArg nI ho) ?_
  refine jr_tableIn (off := 136) 203 d_Ck_namesAreThere_67 (by decide +kernel) (by decide +kernel) (by decide +kernel) (by decide) ?_
  refine jr_iconst ((nI (1))) d_Ck_namesAreThere_203 (by decide) ?_
  exact jr_zretE d_Ck_namesAreThere_204 rfl (by decide) (bo1 (by first | (simp [f5o, lt6]; done) | (simp [f5o, lt6]; omega))) (rfl) (by decide) (by decide)
theorem ck_nm_t9 (hl : l.stackTraces = false) {pc : Nat} {v : Int32} (hc : CkAt σ) (hw : WoAt σ tb pr ow fi ft mt) (hm : MeAt σ a q1 q2 rs op ag sz fr tt tg kd nc mp fh) (hok : WoOk tb pr ow fi) (hsg : SgC σ tb pr mt sg) (hop : op pc < 26) (hpc : pc < 24) (hsz : sz ≤ 24) (hnc : nc ≤ 2) (hcf : ∀ i, i < 2 → fr i < 100 ∧ tt i < 100 ∧ tg i < 24 ∧ kd i < 7) (ho : op pc = 9) : jl_W l G m_Ck_namesAreThere (0, 0) 54 [some (.ref 8), some (.ref a), some (.int (nI pc)), some (.int (v))] [] σ (.inl (some (.int (bi (!f5o tb ow fi sg 9 (ag pc)))))) (σ) := by
  obtain ⟨hW, h2, h3, h4, h5, h6, h7⟩ := id hw
  obtain ⟨hM, g1, g2, g3, g4, g5, g6, g7, g8⟩ := id hm
  refine jr_aload_n d_Ck_namesAreThere_54 rfl ?_
  refine jr_getf d_Ck_namesAreThere_55 f_Ck_namesAreThere_28 hM rfl ?_
  refine jr_iload_n d_Ck_namesAreThere_58 rfl ?_
  refine jr_ialdN d_Ck_namesAreThere_59 g2 (by omega) (by omega) ?_
  refine jr_istore_n d_Ck_namesAreThere_60 (by decide) ?_
  show jl_W l G m_Ck_namesAreThere (0, 0) 61 [some (.ref 8), some (.ref a), some (.int (nI pc)), some (.int (ag (pc)))] [] (σ) (.inl (some (.int (bi (!f5o tb ow fi sg 9 (ag pc)))))) (σ)
  refine jr_aload_n d_Ck_namesAreThere_61 rfl ?_
  refine jr_getf d_Ck_namesAreThere_62 f_Ck_namesAreThere_22 hM rfl ?_
  refine jr_iload_n d_Ck_namesAreThere_65 rfl ?_
  refine jr_ialdQ (v := (nI (9))) d_Ck_namesAreThere_66 g1 (by omega) (by omega) (congrArg nI ho) ?_
  refine jr_tableIn (off := 136) 203 d_Ck_namesAreThere_67 (by decide +kernel) (by decide +kernel) (by decide +kernel) (by decide) ?_
  refine jr_iconst ((nI (1))) d_Ck_namesAreThere_203 (by decide) ?_
  exact jr_zretE d_Ck_namesAreThere_204 rfl (by decide) (bo1 (by first | (simp [f5o, lt6]; done) | (simp [f5o, lt6]; omega))) (rfl) (by decide) (by decide)
theorem ck_nm_t10 (hl : l.stackTraces = false) {pc : Nat} {v : Int32} (hc : CkAt σ) (hw : WoAt σ tb pr ow fi ft mt) (hm : MeAt σ a q1 q2 rs op ag sz fr tt tg kd nc mp fh) (hok : WoOk tb pr ow fi) (hsg : SgC σ tb pr mt sg) (hop : op pc < 26) (hpc : pc < 24) (hsz : sz ≤ 24) (hnc : nc ≤ 2) (hcf : ∀ i, i < 2 → fr i < 100 ∧ tt i < 100 ∧ tg i < 24 ∧ kd i < 7) (ho : op pc = 10) : jl_W l G m_Ck_namesAreThere (0, 0) 54 [some (.ref 8), some (.ref a), some (.int (nI pc)), some (.int (v))] [] σ (.inl (some (.int (bi (!f5o tb ow fi sg 10 (ag pc)))))) (σ) := by
  obtain ⟨hW, h2, h3, h4, h5, h6, h7⟩ := id hw
  obtain ⟨hM, g1, g2, g3, g4, g5, g6, g7, g8⟩ := id hm
  refine jr_aload_n d_Ck_namesAreThere_54 rfl ?_
  refine jr_getf d_Ck_namesAreThere_55 f_Ck_namesAreThere_28 hM rfl ?_
  refine jr_iload_n d_Ck_namesAreThere_58 rfl ?_
  refine jr_ialdN d_Ck_namesAreThere_59 g2 (by omega) (by omega) ?_
  refine jr_istore_n d_Ck_namesAreThere_60 (by decide) ?_
  show jl_W l G m_Ck_namesAreThere (0, 0) 61 [some (.ref 8), some (.ref a), some (.int (nI pc)), some (.int (ag (pc)))] [] (σ) (.inl (some (.int (bi (!f5o tb ow fi sg 10 (ag pc)))))) (σ)
  refine jr_aload_n d_Ck_namesAreThere_61 rfl ?_
  refine jr_getf d_Ck_namesAreThere_62 f_Ck_namesAreThere_22 hM rfl ?_
  refine jr_iload_n d_Ck_namesAreThere_65 rfl ?_
  refine jr_ialdQ (v := (nI (10))) d_Ck_namesAreThere_66 g1 (by omega) (by omega) (congrArg nI ho) ?_
  refine jr_tableIn (off := 136) 203 d_Ck_namesAreThere_67 (by decide +kernel) (by decide +kernel) (by decide +kernel) (by decide) ?_
  refine jr_iconst ((nI (1))) d_Ck_namesAreThere_203 (by decide) ?_
  exact jr_zretE d_Ck_namesAreThere_204 rfl (by decide) (bo1 (by first | (simp [f5o, lt6]; done) | (simp [f5o, lt6]; omega))) (rfl) (by decide) (by decide)
theorem d_Ck_namesAreThere_156 : decode m_Ck_namesAreThere.2.1 156 = .ok (.aload_n 0, 1) := by decide +kernel
theorem f_Ck_namesAreThere_9 : jl_fd m_Ck_namesAreThere 9 0 0 = true := by decide +kernel
theorem d_Ck_namesAreThere_157 : decode m_Ck_namesAreThere.2.1 157 = .ok (.getfield 9, 3) := by decide +kernel
theorem d_Ck_namesAreThere_160 : decode m_Ck_namesAreThere.2.1 160 = .ok (.iload_n 3, 1) := by decide +kernel
theorem k_Ck_namesAreThere_76 : jl_cv m_Ck_namesAreThere m_Wo_has 76 1 = true := by decide +kernel
theorem d_Ck_namesAreThere_161 : decode m_Ck_namesAreThere.2.1 161 = .ok (.invokevirtual 76, 3) := by decide +kernel
theorem d_Ck_namesAreThere_164 : decode m_Ck_namesAreThere.2.1 164 = .ok (.ireturn, 1) := by decide +kernel
theorem ck_nm_t11 (hl : l.stackTraces = false) {pc : Nat} {v : Int32} (hc : CkAt σ) (hw : WoAt σ tb pr ow fi ft mt) (hm : MeAt σ a q1 q2 rs op ag sz fr tt tg kd nc mp fh) (hok : WoOk tb pr ow fi) (hsg : SgC σ tb pr mt sg) (hop : op pc < 26) (hpc : pc < 24) (hsz : sz ≤ 24) (hnc : nc ≤ 2) (hcf : ∀ i, i < 2 → fr i < 100 ∧ tt i < 100 ∧ tg i < 24 ∧ kd i < 7) (ho : op pc = 11) : jl_W l G m_Ck_namesAreThere (0, 0) 54 [some (.ref 8), some (.ref a), some (.int (nI pc)), some (.int (v))] [] σ (.inl (some (.int (bi (!f5o tb ow fi sg 11 (ag pc)))))) (σ) := by
  obtain ⟨hW, h2, h3, h4, h5, h6, h7⟩ := id hw
  obtain ⟨hM, g1, g2, g3, g4, g5, g6, g7, g8⟩ := id hm
  refine jr_aload_n d_Ck_namesAreThere_54 rfl ?_
  refine jr_getf d_Ck_namesAreThere_55 f_Ck_namesAreThere_28 hM rfl ?_
  refine jr_iload_n d_Ck_namesAreThere_58 rfl ?_
  refine jr_ialdN d_Ck_namesAreThere_59 g2 (by omega) (by omega) ?_
  refine jr_istore_n d_Ck_namesAreThere_60 (by decide) ?_
  show jl_W l G m_Ck_namesAreThere (0, 0) 61 [some (.ref 8), some (.ref a), some (.int (nI pc)), some (.int (ag (pc)))] [] (σ) (.inl (some (.int (bi (!f5o tb ow fi sg 11 (ag pc)))))) (σ)
  refine jr_aload_n d_Ck_namesAreThere_61 rfl ?_
  refine jr_getf d_Ck_namesAreThere_62 f_Ck_namesAreThere_22 hM rfl ?_
  refine jr_iload_n d_Ck_namesAreThere_65 rfl ?_
  refine jr_ialdQ (v := (nI (11))) d_Ck_namesAreThere_66 g1 (by omega) (by omega) (congrArg nI ho) ?_
  refine jr_tableIn (off := 89) 156 d_Ck_namesAreThere_67 (by decide +kernel) (by decide +kernel) (by decide +kernel) (by decide) ?_
  refine jr_aload_n d_Ck_namesAreThere_156 rfl ?_
  refine jr_getf d_Ck_namesAreThere_157 f_Ck_namesAreThere_9 hc rfl ?_
  refine jr_iload_n d_Ck_namesAreThere_160 rfl ?_
  refine jr_callV (As := [.int (ag (pc))]) d_Ck_namesAreThere_161 k_Ck_namesAreThere_76 hW rfl rfl rfl (Nat.le_of_ble_eq_true rfl) (by decide) (by decide) (wo_has hl hw) ?_
  show jl_W l G m_Ck_namesAreThere (0, 0) 164 [some (.ref 8), some (.ref a), some (.int (nI pc)), some (.int (ag (pc)))] [.int (bi (hasI tb (ag (pc))))] (σ) (.inl (some (.int (bi (!f5o tb ow fi sg 11 (ag pc)))))) (σ)
  exact jr_zretE d_Ck_namesAreThere_164 rfl (bi_01 _) (bov (by first | (simp [f5o, lt6]; done) | (simp [f5o, lt6]; omega))) (rfl) (by decide) (by decide)
theorem d_Ck_namesAreThere_165 : decode m_Ck_namesAreThere.2.1 165 = .ok (.aload_n 0, 1) := by decide +kernel
theorem d_Ck_namesAreThere_166 : decode m_Ck_namesAreThere.2.1 166 = .ok (.getfield 9, 3) := by decide +kernel
theorem d_Ck_namesAreThere_169 : decode m_Ck_namesAreThere.2.1 169 = .ok (.iload_n 3, 1) := by decide +kernel
theorem d_Ck_namesAreThere_170 : decode m_Ck_namesAreThere.2.1 170 = .ok (.bipush 32, 2) := by decide +kernel
theorem d_Ck_namesAreThere_172 : decode m_Ck_namesAreThere.2.1 172 = .ok (.idiv, 1) := by decide +kernel
theorem d_Ck_namesAreThere_173 : decode m_Ck_namesAreThere.2.1 173 = .ok (.iload_n 3, 1) := by decide +kernel
theorem d_Ck_namesAreThere_174 : decode m_Ck_namesAreThere.2.1 174 = .ok (.bipush 32, 2) := by decide +kernel
theorem d_Ck_namesAreThere_176 : decode m_Ck_namesAreThere.2.1 176 = .ok (.irem, 1) := by decide +kernel
theorem k_Ck_namesAreThere_79 : jl_cv m_Ck_namesAreThere m_Wo_hasField 79 2 = true := by decide +kernel
theorem d_Ck_namesAreThere_177 : decode m_Ck_namesAreThere.2.1 177 = .ok (.invokevirtual 79, 3) := by decide +kernel
theorem d_Ck_namesAreThere_180 : decode m_Ck_namesAreThere.2.1 180 = .ok (.ireturn, 1) := by decide +kernel
theorem ck_nm_t12 (hl : l.stackTraces = false) {pc : Nat} {v : Int32} (hc : CkAt σ) (hw : WoAt σ tb pr ow fi ft mt) (hm : MeAt σ a q1 q2 rs op ag sz fr tt tg kd nc mp fh) (hok : WoOk tb pr ow fi) (hsg : SgC σ tb pr mt sg) (hop : op pc < 26) (hpc : pc < 24) (hsz : sz ≤ 24) (hnc : nc ≤ 2) (hcf : ∀ i, i < 2 → fr i < 100 ∧ tt i < 100 ∧ tg i < 24 ∧ kd i < 7) (ho : op pc = 12) : jl_W l G m_Ck_namesAreThere (0, 0) 54 [some (.ref 8), some (.ref a), some (.int (nI pc)), some (.int (v))] [] σ (.inl (some (.int (bi (!f5o tb ow fi sg 12 (ag pc)))))) (σ) := by
  obtain ⟨hW, h2, h3, h4, h5, h6, h7⟩ := id hw
  obtain ⟨hM, g1, g2, g3, g4, g5, g6, g7, g8⟩ := id hm
  refine jr_aload_n d_Ck_namesAreThere_54 rfl ?_
  refine jr_getf d_Ck_namesAreThere_55 f_Ck_namesAreThere_28 hM rfl ?_
  refine jr_iload_n d_Ck_namesAreThere_58 rfl ?_
  refine jr_ialdN d_Ck_namesAreThere_59 g2 (by omega) (by omega) ?_
  refine jr_istore_n d_Ck_namesAreThere_60 (by decide) ?_
  show jl_W l G m_Ck_namesAreThere (0, 0) 61 [some (.ref 8), some (.ref a), some (.int (nI pc)), some (.int (ag (pc)))] [] (σ) (.inl (some (.int (bi (!f5o tb ow fi sg 12 (ag pc)))))) (σ)
  refine jr_aload_n d_Ck_namesAreThere_61 rfl ?_
  refine jr_getf d_Ck_namesAreThere_62 f_Ck_namesAreThere_22 hM rfl ?_
  refine jr_iload_n d_Ck_namesAreThere_65 rfl ?_
  refine jr_ialdQ (v := (nI (12))) d_Ck_namesAreThere_66 g1 (by omega) (by omega) (congrArg nI ho) ?_
  refine jr_tableIn (off := 98) 165 d_Ck_namesAreThere_67 (by decide +kernel) (by decide +kernel) (by decide +kernel) (by decide) ?_
  refine jr_aload_n d_Ck_namesAreThere_165 rfl ?_
  refine jr_getf d_Ck_namesAreThere_166 f_Ck_namesAreThere_9 hc rfl ?_
  refine jr_iload_n d_Ck_namesAreThere_169 rfl ?_
  refine jr_bipush ((nI (32))) d_Ck_namesAreThere_170 (by decide) ?_
  refine jr_idiv d_Ck_namesAreThere_172 (by decide) ?_
  refine jr_iload_n d_Ck_namesAreThere_173 rfl ?_
  refine jr_bipush ((nI (32))) d_Ck_namesAreThere_174 (by decide) ?_
  refine jr_irem d_Ck_namesAreThere_176 (by decide) ?_
  refine jr_callV (As := [.int ((ag (pc)) / (nI (32))), .int ((ag (pc)) - (ag (pc)) / (nI (32)) * (nI (32)))]) d_Ck_namesAreThere_177 k_Ck_namesAreThere_79 hW rfl rfl rfl (Nat.le_of_ble_eq_true rfl) (by decide) (by decide) (wo_hasField hl hw hok) ?_
  show jl_W l G m_Ck_namesAreThere (0, 0) 180 [some (.ref 8), some (.ref a), some (.int (nI pc)), some (.int (ag (pc)))] [.int (bi (hasF tb ow fi (ag pc / nI 32) (ag pc - ag pc / nI 32 * nI 32)))] (σ) (.inl (some (.int (bi (!f5o tb ow fi sg 12 (ag pc)))))) (σ)
  exact jr_zretE d_Ck_namesAreThere_180 rfl (bi_01 _) (bov (by first | (simp [f5o, lt6]; done) | (simp [f5o, lt6]; omega))) (rfl) (by decide) (by decide)
theorem ck_nm_t13 (hl : l.stackTraces = false) {pc : Nat} {v : Int32} (hc : CkAt σ) (hw : WoAt σ tb pr ow fi ft mt) (hm : MeAt σ a q1 q2 rs op ag sz fr tt tg kd nc mp fh) (hok : WoOk tb pr ow fi) (hsg : SgC σ tb pr mt sg) (hop : op pc < 26) (hpc : pc < 24) (hsz : sz ≤ 24) (hnc : nc ≤ 2) (hcf : ∀ i, i < 2 → fr i < 100 ∧ tt i < 100 ∧ tg i < 24 ∧ kd i < 7) (ho : op pc = 13) : jl_W l G m_Ck_namesAreThere (0, 0) 54 [some (.ref 8), some (.ref a), some (.int (nI pc)), some (.int (v))] [] σ (.inl (some (.int (bi (!f5o tb ow fi sg 13 (ag pc)))))) (σ) := by
  obtain ⟨hW, h2, h3, h4, h5, h6, h7⟩ := id hw
  obtain ⟨hM, g1, g2, g3, g4, g5, g6, g7, g8⟩ := id hm
  refine jr_aload_n d_Ck_namesAreThere_54 rfl ?_
  refine jr_getf d_Ck_namesAreThere_55 f_Ck_namesAreThere_28 hM rfl ?_
  refine jr_iload_n d_Ck_namesAreThere_58 rfl ?_
  refine jr_ialdN d_Ck_namesAreThere_59 g2 (by omega) (by omega) ?_
  refine jr_istore_n d_Ck_namesAreThere_60 (by decide) ?_
  show jl_W l G m_Ck_namesAreThere (0, 0) 61 [some (.ref 8), some (.ref a), some (.int (nI pc)), some (.int (ag (pc)))] [] (σ) (.inl (some (.int (bi (!f5o tb ow fi sg 13 (ag pc)))))) (σ)
  refine jr_aload_n d_Ck_namesAreThere_61 rfl ?_
  refine jr_getf d_Ck_namesAreThere_62 f_Ck_namesAreThere_22 hM rfl ?_
  refine jr_iload_n d_Ck_namesAreThere_65 rfl ?_
  refine jr_ialdQ (v := (nI (13))) d_Ck_namesAreThere_66 g1 (by omega) (by omega) (congrArg nI ho) ?_
  refine jr_tableIn (off := 98) 165 d_Ck_namesAreThere_67 (by decide +kernel) (by decide +kernel) (by decide +kernel) (by decide) ?_
  refine jr_aload_n d_Ck_namesAreThere_165 rfl ?_
  refine jr_getf d_Ck_namesAreThere_166 f_Ck_namesAreThere_9 hc rfl ?_
  refine jr_iload_n d_Ck_namesAreThere_169 rfl ?_
  refine jr_bipush ((nI (32))) d_Ck_namesAreThere_170 (by decide) ?_
  refine jr_idiv d_Ck_namesAreThere_172 (by decide) ?_
  refine jr_iload_n d_Ck_namesAreThere_173 rfl ?_
  refine jr_bipush ((nI (32))) d_Ck_namesAreThere_174 (by decide) ?_
  refine jr_irem d_Ck_namesAreThere_176 (by decide) ?_
  refine jr_callV (As := [.int ((ag (pc)) / (nI (32))), .int ((ag (pc)) - (ag (pc)) / (nI (32)) * (nI (32)))]) d_Ck_namesAreThere_177 k_Ck_namesAreThere_79 hW rfl rfl rfl (Nat.le_of_ble_eq_true rfl) (by decide) (by decide) (wo_hasField hl hw hok) ?_
  show jl_W l G m_Ck_namesAreThere (0, 0) 180 [some (.ref 8), some (.ref a), some (.int (nI pc)), some (.int (ag (pc)))] [.int (bi (hasF tb ow fi (ag pc / nI 32) (ag pc - ag pc / nI 32 * nI 32)))] (σ) (.inl (some (.int (bi (!f5o tb ow fi sg 13 (ag pc)))))) (σ)
  exact jr_zretE d_Ck_namesAreThere_180 rfl (bi_01 _) (bov (by first | (simp [f5o, lt6]; done) | (simp [f5o, lt6]; omega))) (rfl) (by decide) (by decide)
theorem d_Ck_namesAreThere_181 : decode m_Ck_namesAreThere.2.1 181 = .ok (.aload_n 0, 1) := by decide +kernel
theorem d_Ck_namesAreThere_182 : decode m_Ck_namesAreThere.2.1 182 = .ok (.getfield 9, 3) := by decide +kernel
theorem d_Ck_namesAreThere_185 : decode m_Ck_namesAreThere.2.1 185 = .ok (.iload_n 3, 1) := by decide +kernel
theorem d_Ck_namesAreThere_186 : decode m_Ck_namesAreThere.2.1 186 = .ok (.iconst 4, 1) := by decide +kernel
theorem d_Ck_namesAreThere_187 : decode m_Ck_namesAreThere.2.1 187 = .ok (.idiv, 1) := by decide +kernel
theorem d_Ck_namesAreThere_188 : decode m_Ck_namesAreThere.2.1 188 = .ok (.iload_n 3, 1) := by decide +kernel
theorem d_Ck_namesAreThere_189 : decode m_Ck_namesAreThere.2.1 189 = .ok (.iconst 4, 1) := by decide +kernel
theorem d_Ck_namesAreThere_190 : decode m_Ck_namesAreThere.2.1 190 = .ok (.irem, 1) := by decide +kernel
theorem k_Ck_namesAreThere_42 : jl_cv m_Ck_namesAreThere m_Wo_found 42 2 = true := by decide +kernel
theorem d_Ck_namesAreThere_191 : decode m_Ck_namesAreThere.2.1 191 = .ok (.invokevirtual 42, 3) := by decide +kernel
theorem d_Ck_namesAreThere_194 : decode m_Ck_namesAreThere.2.1 194 = .ok (.ifnull 7, 3) := by decide +kernel
theorem d_Ck_namesAreThere_201 : decode m_Ck_namesAreThere.2.1 201 = .ok (.iconst 0, 1) := by decide +kernel
theorem d_Ck_namesAreThere_202 : decode m_Ck_namesAreThere.2.1 202 = .ok (.ireturn, 1) := by decide +kernel
theorem d_Ck_namesAreThere_197 : decode m_Ck_namesAreThere.2.1 197 = .ok (.iconst 1, 1) := by decide +kernel
theorem d_Ck_namesAreThere_198 : decode m_Ck_namesAreThere.2.1 198 = .ok (.goto 4, 3) := by decide +kernel
theorem ck_nm_t14 (hl : l.stackTraces = false) {pc : Nat} {v : Int32} (hc : CkAt σ) (hw : WoAt σ tb pr ow fi ft mt) (hm : MeAt σ a q1 q2 rs op ag sz fr tt tg kd nc mp fh) (hok : WoOk tb pr ow fi) (hsg : SgC σ tb pr mt sg) (hop : op pc < 26) (hpc : pc < 24) (hsz : sz ≤ 24) (hnc : nc ≤ 2) (hcf : ∀ i, i < 2 → fr i < 100 ∧ tt i < 100 ∧ tg i < 24 ∧ kd i < 7) (ho : op pc = 14) : jl_W l G m_Ck_namesAreThere (0, 0) 54 [some (.ref 8), some (.ref a), some (.int (nI pc)), some (.int (v))] [] σ (.inl (some (.int (bi (!f5o tb ow fi sg 14 (ag pc)))))) (σ) := by
  obtain ⟨hW, h2, h3, h4, h5, h6, h7⟩ := id hw
  obtain ⟨hM, g1, g2, g3, g4, g5, g6, g7, g8⟩ := id hm
  refine jr_aload_n d_Ck_namesAreThere_54 rfl ?_
  refine jr_getf d_Ck_namesAreThere_55 f_Ck_namesAreThere_28 hM rfl ?_
  refine jr_iload_n d_Ck_namesAreThere_58 rfl ?_
  refine jr_ialdN d_Ck_namesAreThere_59 g2 (by omega) (by omega) ?_
  refine jr_istore_n d_Ck_namesAreThere_60 (by decide) ?_
  show jl_W l G m_Ck_namesAreThere (0, 0) 61 [some (.ref 8), some (.ref a), some (.int (nI pc)), some (.int (ag (pc)))] [] (σ) (.inl (some (.int (bi (!f5o tb ow fi sg 14 (ag pc)))))) (σ)
  refine jr_aload_n d_Ck_namesAreThere_61 rfl ?_
  refine jr_getf d_Ck_namesAreThere_62 f_Ck_namesAreThere_22 hM rfl ?_
  refine jr_iload_n d_Ck_namesAreThere_65 rfl ?_
  refine jr_ialdQ (v := (nI (14))) d_Ck_namesAreThere_66 g1 (by omega) (by omega) (congrArg nI ho) ?_
  refine jr_tableIn (off := 114) 181 d_Ck_namesAreThere_67 (by decide +kernel) (by decide +kernel) (by decide +kernel) (by decide) ?_
  refine jr_aload_n d_Ck_namesAreThere_181 rfl ?_
  refine jr_getf d_Ck_namesAreThere_182 f_Ck_namesAreThere_9 hc rfl ?_
  refine jr_iload_n d_Ck_namesAreThere_185 rfl ?_
  refine jr_iconst ((nI (4))) d_Ck_namesAreThere_186 (by decide) ?_
  refine jr_idiv d_Ck_namesAreThere_187 (by decide) ?_
  refine jr_iload_n d_Ck_namesAreThere_188 rfl ?_
  refine jr_iconst ((nI (4))) d_Ck_namesAreThere_189 (by decide) ?_
  refine jr_irem d_Ck_namesAreThere_190 (by decide) ?_
  refine jr_callV (As := [.int ((ag (pc)) / (nI (4))), .int ((ag (pc)) - (ag (pc)) / (nI (4)) * (nI (4)))]) d_Ck_namesAreThere_191 k_Ck_namesAreThere_42 hW rfl rfl rfl (Nat.le_of_ble_eq_true rfl) (by decide) (by decide) (wo_found hl hw hok.1) ?_
  show jl_W l G m_Ck_namesAreThere (0, 0) 194 [some (.ref 8), some (.ref a), some (.int (nI pc)), some (.int (ag (pc)))] [va_rf (found tb pr mt (ag pc / nI 4) (ag pc - ag pc / nI 4 * nI 4))] (σ) (.inl (some (.int (bi (!f5o tb ow fi sg 14 (ag pc)))))) (σ)
  cases c1 : found tb pr mt (ag pc / nI 4) (ag pc - ag pc / nI 4 * nI 4) with
  | none =>
    show jl_W l G m_Ck_namesAreThere (0, 0) 194 [some (.ref 8), some (.ref a), some (.int (nI pc)), some (.int (ag (pc)))] [.null] (σ) (.inl (some (.int (bi (!f5o tb ow fi sg 14 (ag pc)))))) (σ)
    refine jr_ifnullN 201 d_Ck_namesAreThere_194 (by decide) ?_
    refine jr_iconst ((nI (0))) d_Ck_namesAreThere_201 (by decide) ?_
    exact jr_zretE d_Ck_namesAreThere_202 rfl (by decide) (bo0 (by simp [f5o, (hsg _).1 ‹_›])) (rfl) (by decide) (by decide)
  | some ac1 =>
    obtain ⟨p1, p2, p3, -, -, hsx, -⟩ := (hsg _).2 _ c1
    show jl_W l G m_Ck_namesAreThere (0, 0) 194 [some (.ref 8), some (.ref a), some (.int (nI pc)), some (.int (ag (pc)))] [.ref ac1] (σ) (.inl (some (.int (bi (!f5o tb ow fi sg 14 (ag pc)))))) (σ)
    refine jr_ifnull d_Ck_namesAreThere_194 ?_
    refine jr_iconst ((nI (1))) d_Ck_namesAreThere_197 (by decide) ?_
    refine jr_goto 202 d_Ck_namesAreThere_198 (by decide) ?_
    exact jr_zretE d_Ck_namesAreThere_202 rfl (by decide) (bo1 (by simp [f5o, hsx])) (rfl) (by decide) (by decide)
theorem ck_nm_t15 (hl : l.stackTraces = false) {pc : Nat} {v : Int32} (hc : CkAt σ) (hw : WoAt σ tb pr ow fi ft mt) (hm : MeAt σ a q1 q2 rs op ag sz fr tt tg kd nc mp fh) (hok : WoOk tb pr ow fi) (hsg : SgC σ tb pr mt sg) (hop : op pc < 26) (hpc : pc < 24) (hsz : sz ≤ 24) (hnc : nc ≤ 2) (hcf : ∀ i, i < 2 → fr i < 100 ∧ tt i < 100 ∧ tg i < 24 ∧ kd i < 7) (ho : op pc = 15) : jl_W l G m_Ck_namesAreThere (0, 0) 54 [some (.ref 8), some (.ref a), some (.int (nI pc)), some (.int (v))] [] σ (.inl (some (.int (bi (!f5o tb ow fi sg 15 (ag pc)))))) (σ) := by
  obtain ⟨hW, h2, h3, h4, h5, h6, h7⟩ := id hw
  obtain ⟨hM, g1, g2, g3, g4, g5, g6, g7, g8⟩ := id hm
  refine jr_aload_n d_Ck_namesAreThere_54 rfl ?_
  refine jr_getf d_Ck_namesAreThere_55 f_Ck_namesAreThere_28 hM rfl ?_
  refine jr_iload_n d_Ck_namesAreThere_58 rfl ?_
  refine jr_ialdN d_Ck_namesAreThere_59 g2 (by omega) (by omega) ?_
  refine jr_istore_n d_Ck_namesAreThere_60 (by decide) ?_
  show jl_W l G m_Ck_namesAreThere (0, 0) 61 [some (.ref 8), some (.ref a), some (.int (nI pc)), some (.int (ag (pc)))] [] (σ) (.inl (some (.int (bi (!f5o tb ow fi sg 15 (ag pc)))))) (σ)
  refine jr_aload_n d_Ck_namesAreThere_61 rfl ?_
  refine jr_getf d_Ck_namesAreThere_62 f_Ck_namesAreThere_22 hM rfl ?_
  refine jr_iload_n d_Ck_namesAreThere_65 rfl ?_
  refine jr_ialdQ (v := (nI (15))) d_Ck_namesAreThere_66 g1 (by omega) (by omega) (congrArg nI ho) ?_
  refine jr_tableIn (off := 89) 156 d_Ck_namesAreThere_67 (by decide +kernel) (by decide +kernel) (by decide +kernel) (by decide) ?_
  refine jr_aload_n d_Ck_namesAreThere_156 rfl ?_
  refine jr_getf d_Ck_namesAreThere_157 f_Ck_namesAreThere_9 hc rfl ?_
  refine jr_iload_n d_Ck_namesAreThere_160 rfl ?_
  refine jr_callV (As := [.int (ag (pc))]) d_Ck_namesAreThere_161 k_Ck_namesAreThere_76 hW rfl rfl rfl (Nat.le_of_ble_eq_true rfl) (by decide) (by decide) (wo_has hl hw) ?_
  show jl_W l G m_Ck_namesAreThere (0, 0) 164 [some (.ref 8), some (.ref a), some (.int (nI pc)), some (.int (ag (pc)))] [.int (bi (hasI tb (ag (pc))))] (σ) (.inl (some (.int (bi (!f5o tb ow fi sg 15 (ag pc)))))) (σ)
  exact jr_zretE d_Ck_namesAreThere_164 rfl (bi_01 _) (bov (by first | (simp [f5o, lt6]; done) | (simp [f5o, lt6]; omega))) (rfl) (by decide) (by decide)
theorem ck_nm_t16 (hl : l.stackTraces = false) {pc : Nat} {v : Int32} (hc : CkAt σ) (hw : WoAt σ tb pr ow fi ft mt) (hm : MeAt σ a q1 q2 rs op ag sz fr tt tg kd nc mp fh) (hok : WoOk tb pr ow fi) (hsg : SgC σ tb pr mt sg) (hop : op pc < 26) (hpc : pc < 24) (hsz : sz ≤ 24) (hnc : nc ≤ 2) (hcf : ∀ i, i < 2 → fr i < 100 ∧ tt i < 100 ∧ tg i < 24 ∧ kd i < 7) (ho : op pc = 16) : jl_W l G m_Ck_namesAreThere (0, 0) 54 [some (.ref 8), some (.ref a), some (.int (nI pc)), some (.int (v))] [] σ (.inl (some (.int (bi (!f5o tb ow fi sg 16 (ag pc)))))) (σ) := by
  obtain ⟨hW, h2, h3, h4, h5, h6, h7⟩ := id hw
  obtain ⟨hM, g1, g2, g3, g4, g5, g6, g7, g8⟩ := id hm
  refine jr_aload_n d_Ck_namesAreThere_54 rfl ?_
  refine jr_getf d_Ck_namesAreThere_55 f_Ck_namesAreThere_28 hM rfl ?_
  refine jr_iload_n d_Ck_namesAreThere_58 rfl ?_
  refine jr_ialdN d_Ck_namesAreThere_59 g2 (by omega) (by omega) ?_
  refine jr_istore_n d_Ck_namesAreThere_60 (by decide) ?_
  show jl_W l G m_Ck_namesAreThere (0, 0) 61 [some (.ref 8), some (.ref a), some (.int (nI pc)), some (.int (ag (pc)))] [] (σ) (.inl (some (.int (bi (!f5o tb ow fi sg 16 (ag pc)))))) (σ)
  refine jr_aload_n d_Ck_namesAreThere_61 rfl ?_
  refine jr_getf d_Ck_namesAreThere_62 f_Ck_namesAreThere_22 hM rfl ?_
  refine jr_iload_n d_Ck_namesAreThere_65 rfl ?_
  refine jr_ialdQ (v := (nI (16))) d_Ck_namesAreThere_66 g1 (by omega) (by omega) (congrArg nI ho) ?_
  refine jr_tableOut 203 d_Ck_namesAreThere_67 (by decide +kernel) (by decide) ?_
  refine jr_iconst ((nI (1))) d_Ck_namesAreThere_203 (by decide) ?_
  exact jr_zretE d_Ck_namesAreThere_204 rfl (by decide) (bo1 (by first | (simp [f5o, lt6]; done) | (simp [f5o, lt6]; omega))) (rfl) (by decide) (by decide)
theorem ck_nm_t17 (hl : l.stackTraces = false) {pc : Nat} {v : Int32} (hc : CkAt σ) (hw : WoAt σ tb pr ow fi ft mt) (hm : MeAt σ a q1 q2 rs op ag sz fr tt tg kd nc mp fh) (hok : WoOk tb pr ow fi) (hsg : SgC σ tb pr mt sg) (hop : op pc < 26) (hpc : pc < 24) (hsz : sz ≤ 24) (hnc : nc ≤ 2) (hcf : ∀ i, i < 2 → fr i < 100 ∧ tt i < 100 ∧ tg i < 24 ∧ kd i < 7) (ho : op pc = 17) : jl_W l G m_Ck_namesAreThere (0, 0) 54 [some (.ref 8), some (.ref a), some (.int (nI pc)), some (.int (v))] [] σ (.inl (some (.int (bi (!f5o tb ow fi sg 17 (ag pc)))))) (σ) := by
  obtain ⟨hW, h2, h3, h4, h5, h6, h7⟩ := id hw
  obtain ⟨hM, g1, g2, g3, g4, g5, g6, g7, g8⟩ := id hm
  refine jr_aload_n d_Ck_namesAreThere_54 rfl ?_
  refine jr_getf d_Ck_namesAreThere_55 f_Ck_namesAreThere_28 hM rfl ?_
  refine jr_iload_n d_Ck_namesAreThere_58 rfl ?_
  refine jr_ialdN d_Ck_namesAreThere_59 g2 (by omega) (by omega) ?_
  refine jr_istore_n d_Ck_namesAreThere_60 (by decide) ?_
  show jl_W l G m_Ck_namesAreThere (0, 0) 61 [some (.ref 8), some (.ref a), some (.int (nI pc)), some (.int (ag (pc)))] [] (σ) (.inl (some (.int (bi (!f5o tb ow fi sg 17 (ag pc)))))) (σ)
  refine jr_aload_n d_Ck_namesAreThere_61 rfl ?_
  refine jr_getf d_Ck_namesAreThere_62 f_Ck_namesAreThere_22 hM rfl ?_
  refine jr_iload_n d_Ck_namesAreThere_65 rfl ?_
  refine jr_ialdQ (v := (nI (17))) d_Ck_namesAreThere_66 g1 (by omega) (by omega) (congrArg nI ho) ?_
  refine jr_tableOut 203 d_Ck_namesAreThere_67 (by decide +kernel) (by decide) ?_
  refine jr_iconst ((nI (1))) d_Ck_namesAreThere_203 (by decide) ?_
  exact jr_zretE d_Ck_namesAreThere_204 rfl (by decide) (bo1 (by first | (simp [f5o, lt6]; done) | (simp [f5o, lt6]; omega))) (rfl) (by decide) (by decide)
theorem ck_nm_t18 (hl : l.stackTraces = false) {pc : Nat} {v : Int32} (hc : CkAt σ) (hw : WoAt σ tb pr ow fi ft mt) (hm : MeAt σ a q1 q2 rs op ag sz fr tt tg kd nc mp fh) (hok : WoOk tb pr ow fi) (hsg : SgC σ tb pr mt sg) (hop : op pc < 26) (hpc : pc < 24) (hsz : sz ≤ 24) (hnc : nc ≤ 2) (hcf : ∀ i, i < 2 → fr i < 100 ∧ tt i < 100 ∧ tg i < 24 ∧ kd i < 7) (ho : op pc = 18) : jl_W l G m_Ck_namesAreThere (0, 0) 54 [some (.ref 8), some (.ref a), some (.int (nI pc)), some (.int (v))] [] σ (.inl (some (.int (bi (!f5o tb ow fi sg 18 (ag pc)))))) (σ) := by
  obtain ⟨hW, h2, h3, h4, h5, h6, h7⟩ := id hw
  obtain ⟨hM, g1, g2, g3, g4, g5, g6, g7, g8⟩ := id hm
  refine jr_aload_n d_Ck_namesAreThere_54 rfl ?_
  refine jr_getf d_Ck_namesAreThere_55 f_Ck_namesAreThere_28 hM rfl ?_
  refine jr_iload_n d_Ck_namesAreThere_58 rfl ?_
  refine jr_ialdN d_Ck_namesAreThere_59 g2 (by omega) (by omega) ?_
  refine jr_istore_n d_Ck_namesAreThere_60 (by decide) ?_
  show jl_W l G m_Ck_namesAreThere (0, 0) 61 [some (.ref 8), some (.ref a), some (.int (nI pc)), some (.int (ag (pc)))] [] (σ) (.inl (some (.int (bi (!f5o tb ow fi sg 18 (ag pc)))))) (σ)
  refine jr_aload_n d_Ck_namesAreThere_61 rfl ?_
  refine jr_getf d_Ck_namesAreThere_62 f_Ck_namesAreThere_22 hM rfl ?_
  refine jr_iload_n d_Ck_namesAreThere_65 rfl ?_
  refine jr_ialdQ (v := (nI (18))) d_Ck_namesAreThere_66 g1 (by omega) (by omega) (congrArg nI ho) ?_
  refine jr_tableOut 203 d_Ck_namesAreThere_67 (by decide +kernel) (by decide) ?_
  refine jr_iconst ((nI (1))) d_Ck_namesAreThere_203 (by decide) ?_
  exact jr_zretE d_Ck_namesAreThere_204 rfl (by decide) (bo1 (by first | (simp [f5o, lt6]; done) | (simp [f5o, lt6]; omega))) (rfl) (by decide) (by decide)
theorem ck_nm_t19 (hl : l.stackTraces = false) {pc : Nat} {v : Int32} (hc : CkAt σ) (hw : WoAt σ tb pr ow fi ft mt) (hm : MeAt σ a q1 q2 rs op ag sz fr tt tg kd nc mp fh) (hok : WoOk tb pr ow fi) (hsg : SgC σ tb pr mt sg) (hop : op pc < 26) (hpc : pc < 24) (hsz : sz ≤ 24) (hnc : nc ≤ 2) (hcf : ∀ i, i < 2 → fr i < 100 ∧ tt i < 100 ∧ tg i < 24 ∧ kd i < 7) (ho : op pc = 19) : jl_W l G m_Ck_namesAreThere (0, 0) 54 [some (.ref 8), some (.ref a), some (.int (nI pc)), some (.int (v))] [] σ (.inl (some (.int (bi (!f5o tb ow fi sg 19 (ag pc)))))) (σ) := by
  obtain ⟨hW, h2, h3, h4, h5, h6, h7⟩ := id hw
  obtain ⟨hM, g1, g2, g3, g4, g5, g6, g7, g8⟩ := id hm
  refine jr_aload_n d_Ck_namesAreThere_54 rfl ?_
  refine jr_getf d_Ck_namesAreThere_55 f_Ck_namesAreThere_28 hM rfl ?_
  refine jr_iload_n d_Ck_namesAreThere_58 rfl ?_
  refine jr_ialdN d_Ck_namesAreThere_59 g2 (by omega) (by omega) ?_
  refine jr_istore_n d_Ck_namesAreThere_60 (by decide) ?_
  show jl_W l G m_Ck_namesAreThere (0, 0) 61 [some (.ref 8), some (.ref a), some (.int (nI pc)), some (.int (ag (pc)))] [] (σ) (.inl (some (.int (bi (!f5o tb ow fi sg 19 (ag pc)))))) (σ)
  refine jr_aload_n d_Ck_namesAreThere_61 rfl ?_
  refine jr_getf d_Ck_namesAreThere_62 f_Ck_namesAreThere_22 hM rfl ?_
  refine jr_iload_n d_Ck_namesAreThere_65 rfl ?_
  refine jr_ialdQ (v := (nI (19))) d_Ck_namesAreThere_66 g1 (by omega) (by omega) (congrArg nI ho) ?_
  refine jr_tableOut 203 d_Ck_namesAreThere_67 (by decide +kernel) (by decide) ?_
  refine jr_iconst ((nI (1))) d_Ck_namesAreThere_203 (by decide) ?_
  exact jr_zretE d_Ck_namesAreThere_204 rfl (by decide) (bo1 (by first | (simp [f5o, lt6]; done) | (simp [f5o, lt6]; omega))) (rfl) (by decide) (by decide)
theorem ck_nm_t20 (hl : l.stackTraces = false) {pc : Nat} {v : Int32} (hc : CkAt σ) (hw : WoAt σ tb pr ow fi ft mt) (hm : MeAt σ a q1 q2 rs op ag sz fr tt tg kd nc mp fh) (hok : WoOk tb pr ow fi) (hsg : SgC σ tb pr mt sg) (hop : op pc < 26) (hpc : pc < 24) (hsz : sz ≤ 24) (hnc : nc ≤ 2) (hcf : ∀ i, i < 2 → fr i < 100 ∧ tt i < 100 ∧ tg i < 24 ∧ kd i < 7) (ho : op pc = 20) : jl_W l G m_Ck_namesAreThere (0, 0) 54 [some (.ref 8), some (.ref a), some (.int (nI pc)), some (.int (v))] [] σ (.inl (some (.int (bi (!f5o tb ow fi sg 20 (ag pc)))))) (σ) := by
  obtain ⟨hW, h2, h3, h4, h5, h6, h7⟩ := id hw
  obtain ⟨hM, g1, g2, g3, g4, g5, g6, g7, g8⟩ := id hm
  refine jr_aload_n d_Ck_namesAreThere_54 rfl ?_
  refine jr_getf d_Ck_namesAreThere_55 f_Ck_namesAreThere_28 hM rfl ?_
  refine jr_iload_n d_Ck_namesAreThere_58 rfl ?_
  refine jr_ialdN d_Ck_namesAreThere_59 g2 (by omega) (by omega) ?_
  refine jr_istore_n d_Ck_namesAreThere_60 (by decide) ?_
  show jl_W l G m_Ck_namesAreThere (0, 0) 61 [some (.ref 8), some (.ref a), some (.int (nI pc)), some (.int (ag (pc)))] [] (σ) (.inl (some (.int (bi (!f5o tb ow fi sg 20 (ag pc)))))) (σ)
  refine jr_aload_n d_Ck_namesAreThere_61 rfl ?_
  refine jr_getf d_Ck_namesAreThere_62 f_Ck_namesAreThere_22 hM rfl ?_
  refine jr_iload_n d_Ck_namesAreThere_65 rfl ?_
  refine jr_ialdQ (v := (nI (20))) d_Ck_namesAreThere_66 g1 (by omega) (by omega) (congrArg nI ho) ?_
  refine jr_tableOut 203 d_Ck_namesAreThere_67 (by decide +kernel) (by decide) ?_
  refine jr_iconst ((nI (1))) d_Ck_namesAreThere_203 (by decide) ?_
  exact jr_zretE d_Ck_namesAreThere_204 rfl (by decide) (bo1 (by first | (simp [f5o, lt6]; done) | (simp [f5o, lt6]; omega))) (rfl) (by decide) (by decide)
theorem ck_nm_t21 (hl : l.stackTraces = false) {pc : Nat} {v : Int32} (hc : CkAt σ) (hw : WoAt σ tb pr ow fi ft mt) (hm : MeAt σ a q1 q2 rs op ag sz fr tt tg kd nc mp fh) (hok : WoOk tb pr ow fi) (hsg : SgC σ tb pr mt sg) (hop : op pc < 26) (hpc : pc < 24) (hsz : sz ≤ 24) (hnc : nc ≤ 2) (hcf : ∀ i, i < 2 → fr i < 100 ∧ tt i < 100 ∧ tg i < 24 ∧ kd i < 7) (ho : op pc = 21) : jl_W l G m_Ck_namesAreThere (0, 0) 54 [some (.ref 8), some (.ref a), some (.int (nI pc)), some (.int (v))] [] σ (.inl (some (.int (bi (!f5o tb ow fi sg 21 (ag pc)))))) (σ) := by
  obtain ⟨hW, h2, h3, h4, h5, h6, h7⟩ := id hw
  obtain ⟨hM, g1, g2, g3, g4, g5, g6, g7, g8⟩ := id hm
  refine jr_aload_n d_Ck_namesAreThere_54 rfl ?_
  refine jr_getf d_Ck_namesAreThere_55 f_Ck_namesAreThere_28 hM rfl ?_
  refine jr_iload_n d_Ck_namesAreThere_58 rfl ?_
  refine jr_ialdN d_Ck_namesAreThere_59 g2 (by omega) (by omega) ?_
  refine jr_istore_n d_Ck_namesAreThere_60 (by decide) ?_
  show jl_W l G m_Ck_namesAreThere (0, 0) 61 [some (.ref 8), some (.ref a), some (.int (nI pc)), some (.int (ag (pc)))] [] (σ) (.inl (some (.int (bi (!f5o tb ow fi sg 21 (ag pc)))))) (σ)
  refine jr_aload_n d_Ck_namesAreThere_61 rfl ?_
  refine jr_getf d_Ck_namesAreThere_62 f_Ck_namesAreThere_22 hM rfl ?_
  refine jr_iload_n d_Ck_namesAreThere_65 rfl ?_
  refine jr_ialdQ (v := (nI (21))) d_Ck_namesAreThere_66 g1 (by omega) (by omega) (congrArg nI ho) ?_
  refine jr_tableOut 203 d_Ck_namesAreThere_67 (by decide +kernel) (by decide) ?_
  refine jr_iconst ((nI (1))) d_Ck_namesAreThere_203 (by decide) ?_
  exact jr_zretE d_Ck_namesAreThere_204 rfl (by decide) (bo1 (by first | (simp [f5o, lt6]; done) | (simp [f5o, lt6]; omega))) (rfl) (by decide) (by decide)
theorem ck_nm_t22 (hl : l.stackTraces = false) {pc : Nat} {v : Int32} (hc : CkAt σ) (hw : WoAt σ tb pr ow fi ft mt) (hm : MeAt σ a q1 q2 rs op ag sz fr tt tg kd nc mp fh) (hok : WoOk tb pr ow fi) (hsg : SgC σ tb pr mt sg) (hop : op pc < 26) (hpc : pc < 24) (hsz : sz ≤ 24) (hnc : nc ≤ 2) (hcf : ∀ i, i < 2 → fr i < 100 ∧ tt i < 100 ∧ tg i < 24 ∧ kd i < 7) (ho : op pc = 22) : jl_W l G m_Ck_namesAreThere (0, 0) 54 [some (.ref 8), some (.ref a), some (.int (nI pc)), some (.int (v))] [] σ (.inl (some (.int (bi (!f5o tb ow fi sg 22 (ag pc)))))) (σ) := by
  obtain ⟨hW, h2, h3, h4, h5, h6, h7⟩ := id hw
  obtain ⟨hM, g1, g2, g3, g4, g5, g6, g7, g8⟩ := id hm
  refine jr_aload_n d_Ck_namesAreThere_54 rfl ?_
  refine jr_getf d_Ck_namesAreThere_55 f_Ck_namesAreThere_28 hM rfl ?_
  refine jr_iload_n d_Ck_namesAreThere_58 rfl ?_
  refine jr_ialdN d_Ck_namesAreThere_59 g2 (by omega) (by omega) ?_
  refine jr_istore_n d_Ck_namesAreThere_60 (by decide) ?_
  show jl_W l G m_Ck_namesAreThere (0, 0) 61 [some (.ref 8), some (.ref a), some (.int (nI pc)), some (.int (ag (pc)))] [] (σ) (.inl (some (.int (bi (!f5o tb ow fi sg 22 (ag pc)))))) (σ)
  refine jr_aload_n d_Ck_namesAreThere_61 rfl ?_
  refine jr_getf d_Ck_namesAreThere_62 f_Ck_namesAreThere_22 hM rfl ?_
  refine jr_iload_n d_Ck_namesAreThere_65 rfl ?_
  refine jr_ialdQ (v := (nI (22))) d_Ck_namesAreThere_66 g1 (by omega) (by omega) (congrArg nI ho) ?_
  refine jr_tableOut 203 d_Ck_namesAreThere_67 (by decide +kernel) (by decide) ?_
  refine jr_iconst ((nI (1))) d_Ck_namesAreThere_203 (by decide) ?_
  exact jr_zretE d_Ck_namesAreThere_204 rfl (by decide) (bo1 (by first | (simp [f5o, lt6]; done) | (simp [f5o, lt6]; omega))) (rfl) (by decide) (by decide)
theorem ck_nm_t23 (hl : l.stackTraces = false) {pc : Nat} {v : Int32} (hc : CkAt σ) (hw : WoAt σ tb pr ow fi ft mt) (hm : MeAt σ a q1 q2 rs op ag sz fr tt tg kd nc mp fh) (hok : WoOk tb pr ow fi) (hsg : SgC σ tb pr mt sg) (hop : op pc < 26) (hpc : pc < 24) (hsz : sz ≤ 24) (hnc : nc ≤ 2) (hcf : ∀ i, i < 2 → fr i < 100 ∧ tt i < 100 ∧ tg i < 24 ∧ kd i < 7) (ho : op pc = 23) : jl_W l G m_Ck_namesAreThere (0, 0) 54 [some (.ref 8), some (.ref a), some (.int (nI pc)), some (.int (v))] [] σ (.inl (some (.int (bi (!f5o tb ow fi sg 23 (ag pc)))))) (σ) := by
  obtain ⟨hW, h2, h3, h4, h5, h6, h7⟩ := id hw
  obtain ⟨hM, g1, g2, g3, g4, g5, g6, g7, g8⟩ := id hm
  refine jr_aload_n d_Ck_namesAreThere_54 rfl ?_
  refine jr_getf d_Ck_namesAreThere_55 f_Ck_namesAreThere_28 hM rfl ?_
  refine jr_iload_n d_Ck_namesAreThere_58 rfl ?_
  refine jr_ialdN d_Ck_namesAreThere_59 g2 (by omega) (by omega) ?_
  refine jr_istore_n d_Ck_namesAreThere_60 (by decide) ?_
  show jl_W l G m_Ck_namesAreThere (0, 0) 61 [some (.ref 8), some (.ref a), some (.int (nI pc)), some (.int (ag (pc)))] [] (σ) (.inl (some (.int (bi (!f5o tb ow fi sg 23 (ag pc)))))) (σ)
  refine jr_aload_n d_Ck_namesAreThere_61 rfl ?_
  refine jr_getf d_Ck_namesAreThere_62 f_Ck_namesAreThere_22 hM rfl ?_
  refine jr_iload_n d_Ck_namesAreThere_65 rfl ?_
  refine jr_ialdQ (v := (nI (23))) d_Ck_namesAreThere_66 g1 (by omega) (by omega) (congrArg nI ho) ?_
  refine jr_tableOut 203 d_Ck_namesAreThere_67 (by decide +kernel) (by decide) ?_
  refine jr_iconst ((nI (1))) d_Ck_namesAreThere_203 (by decide) ?_
  exact jr_zretE d_Ck_namesAreThere_204 rfl (by decide) (bo1 (by first | (simp [f5o, lt6]; done) | (simp [f5o, lt6]; omega))) (rfl) (by decide) (by decide)
theorem ck_nm_t24 (hl : l.stackTraces = false) {pc : Nat} {v : Int32} (hc : CkAt σ) (hw : WoAt σ tb pr ow fi ft mt) (hm : MeAt σ a q1 q2 rs op ag sz fr tt tg kd nc mp fh) (hok : WoOk tb pr ow fi) (hsg : SgC σ tb pr mt sg) (hop : op pc < 26) (hpc : pc < 24) (hsz : sz ≤ 24) (hnc : nc ≤ 2) (hcf : ∀ i, i < 2 → fr i < 100 ∧ tt i < 100 ∧ tg i < 24 ∧ kd i < 7) (ho : op pc = 24) : jl_W l G m_Ck_namesAreThere (0, 0) 54 [some (.ref 8), some (.ref a), some (.int (nI pc)), some (.int (v))] [] σ (.inl (some (.int (bi (!f5o tb ow fi sg 24 (ag pc)))))) (σ) := by
  obtain ⟨hW, h2, h3, h4, h5, h6, h7⟩ := id hw
  obtain ⟨hM, g1, g2, g3, g4, g5, g6, g7, g8⟩ := id hm
  refine jr_aload_n d_Ck_namesAreThere_54 rfl ?_
  refine jr_getf d_Ck_namesAreThere_55 f_Ck_namesAreThere_28 hM rfl ?_
  refine jr_iload_n d_Ck_namesAreThere_58 rfl ?_
  refine jr_ialdN d_Ck_namesAreThere_59 g2 (by omega) (by omega) ?_
  refine jr_istore_n d_Ck_namesAreThere_60 (by decide) ?_
  show jl_W l G m_Ck_namesAreThere (0, 0) 61 [some (.ref 8), some (.ref a), some (.int (nI pc)), some (.int (ag (pc)))] [] (σ) (.inl (some (.int (bi (!f5o tb ow fi sg 24 (ag pc)))))) (σ)
  refine jr_aload_n d_Ck_namesAreThere_61 rfl ?_
  refine jr_getf d_Ck_namesAreThere_62 f_Ck_namesAreThere_22 hM rfl ?_
  refine jr_iload_n d_Ck_namesAreThere_65 rfl ?_
  refine jr_ialdQ (v := (nI (24))) d_Ck_namesAreThere_66 g1 (by omega) (by omega) (congrArg nI ho) ?_
  refine jr_tableOut 203 d_Ck_namesAreThere_67 (by decide +kernel) (by decide) ?_
  refine jr_iconst ((nI (1))) d_Ck_namesAreThere_203 (by decide) ?_
  exact jr_zretE d_Ck_namesAreThere_204 rfl (by decide) (bo1 (by first | (simp [f5o, lt6]; done) | (simp [f5o, lt6]; omega))) (rfl) (by decide) (by decide)
theorem ck_nm_t25 (hl : l.stackTraces = false) {pc : Nat} {v : Int32} (hc : CkAt σ) (hw : WoAt σ tb pr ow fi ft mt) (hm : MeAt σ a q1 q2 rs op ag sz fr tt tg kd nc mp fh) (hok : WoOk tb pr ow fi) (hsg : SgC σ tb pr mt sg) (hop : op pc < 26) (hpc : pc < 24) (hsz : sz ≤ 24) (hnc : nc ≤ 2) (hcf : ∀ i, i < 2 → fr i < 100 ∧ tt i < 100 ∧ tg i < 24 ∧ kd i < 7) (ho : op pc = 25) : jl_W l G m_Ck_namesAreThere (0, 0) 54 [some (.ref 8), some (.ref a), some (.int (nI pc)), some (.int (v))] [] σ (.inl (some (.int (bi (!f5o tb ow fi sg 25 (ag pc)))))) (σ) := by
  obtain ⟨hW, h2, h3, h4, h5, h6, h7⟩ := id hw
  obtain ⟨hM, g1, g2, g3, g4, g5, g6, g7, g8⟩ := id hm
  refine jr_aload_n d_Ck_namesAreThere_54 rfl ?_
  refine jr_getf d_Ck_namesAreThere_55 f_Ck_namesAreThere_28 hM rfl ?_
  refine jr_iload_n d_Ck_namesAreThere_58 rfl ?_
  refine jr_ialdN d_Ck_namesAreThere_59 g2 (by omega) (by omega) ?_
  refine jr_istore_n d_Ck_namesAreThere_60 (by decide) ?_
  show jl_W l G m_Ck_namesAreThere (0, 0) 61 [some (.ref 8), some (.ref a), some (.int (nI pc)), some (.int (ag (pc)))] [] (σ) (.inl (some (.int (bi (!f5o tb ow fi sg 25 (ag pc)))))) (σ)
  refine jr_aload_n d_Ck_namesAreThere_61 rfl ?_
  refine jr_getf d_Ck_namesAreThere_62 f_Ck_namesAreThere_22 hM rfl ?_
  refine jr_iload_n d_Ck_namesAreThere_65 rfl ?_
  refine jr_ialdQ (v := (nI (25))) d_Ck_namesAreThere_66 g1 (by omega) (by omega) (congrArg nI ho) ?_
  refine jr_tableOut 203 d_Ck_namesAreThere_67 (by decide +kernel) (by decide) ?_
  refine jr_iconst ((nI (1))) d_Ck_namesAreThere_203 (by decide) ?_
  exact jr_zretE d_Ck_namesAreThere_204 rfl (by decide) (bo1 (by first | (simp [f5o, lt6]; done) | (simp [f5o, lt6]; omega))) (rfl) (by decide) (by decide)
theorem ck_nm_t (hl : l.stackTraces = false) {pc : Nat} {v : Int32} (hc : CkAt σ) (hw : WoAt σ tb pr ow fi ft mt) (hm : MeAt σ a q1 q2 rs op ag sz fr tt tg kd nc mp fh) (hok : WoOk tb pr ow fi) (hsg : SgC σ tb pr mt sg) (hop : op pc < 26) (hpc : pc < 24) (hsz : sz ≤ 24) (hnc : nc ≤ 2) (hcf : ∀ i, i < 2 → fr i < 100 ∧ tt i < 100 ∧ tg i < 24 ∧ kd i < 7) : jl_W l G m_Ck_namesAreThere (0, 0) 54 [some (.ref 8), some (.ref a), some (.int (nI pc)), some (.int v)] [] σ (.inl (some (.int (bi (!f5o tb ow fi sg (op pc) (ag pc)))))) σ := by
  have hq : op pc = 0 ∨ op pc = 1 ∨ op pc = 2 ∨ op pc = 3 ∨ op pc = 4 ∨ op pc = 5 ∨ op pc = 6 ∨ op pc = 7 ∨ op pc = 8 ∨ op pc = 9 ∨ op pc = 10 ∨ op pc = 11 ∨ op pc = 12 ∨ op pc = 13 ∨ op pc = 14 ∨ op pc = 15 ∨ op pc = 16 ∨ op pc = 17 ∨ op pc = 18 ∨ op pc = 19 ∨ op pc = 20 ∨ op pc = 21 ∨ op pc = 22 ∨ op pc = 23 ∨ op pc = 24 ∨ op pc = 25 := by omega
  rcases hq with ho | ho | ho | ho | ho | ho | ho | ho | ho | ho | ho | ho | ho | ho | ho | ho | ho | ho | ho | ho | ho | ho | ho | ho | ho | ho
  · exact jl_oeq (by rw [ho]) (ck_nm_t0 hl hc hw hm hok hsg hop hpc hsz hnc hcf ho)
  · exact jl_oeq (by rw [ho]) (ck_nm_t1 hl hc hw hm hok hsg hop hpc hsz hnc hcf ho)
  · exact jl_oeq (by rw [ho]) (ck_nm_t2 hl hc hw hm hok hsg hop hpc hsz hnc hcf ho)
  · exact jl_oeq (by rw [ho]) (ck_nm_t3 hl hc hw hm hok hsg hop hpc hsz hnc hcf ho)
  · exact jl_oeq (by rw [ho]) (ck_nm_t4 hl hc hw hm hok hsg hop hpc hsz hnc hcf ho)
  · exact jl_oeq (by rw [ho]) (ck_nm_t5 hl hc hw hm hok hsg hop hpc hsz hnc hcf ho)
  · exact jl_oeq (by rw [ho]) (ck_nm_t6 hl hc hw hm hok hsg hop hpc hsz hnc hcf ho)
  · exact jl_oeq (by rw [ho]) (ck_nm_t7 hl hc hw hm hok hsg hop hpc hsz hnc hcf ho)
  · exact jl_oeq (by rw [ho]) (ck_nm_t8 hl hc hw hm hok hsg hop hpc hsz hnc hcf ho)
  · exact jl_oeq (by rw [ho]) (ck_nm_t9 hl hc hw hm hok hsg hop hpc hsz hnc hcf ho)
  · exact jl_oeq (by rw [ho]) (ck_nm_t10 hl hc hw hm hok hsg hop hpc hsz hnc hcf ho)
  · exact jl_oeq (by rw [ho]) (ck_nm_t11 hl hc hw hm hok hsg hop hpc hsz hnc hcf ho)
  · exact jl_oeq (by rw [ho]) (ck_nm_t12 hl hc hw hm hok hsg hop hpc hsz hnc hcf ho)
  · exact jl_oeq (by rw [ho]) (ck_nm_t13 hl hc hw hm hok hsg hop hpc hsz hnc hcf ho)
  · exact jl_oeq (by rw [ho]) (ck_nm_t14 hl hc hw hm hok hsg hop hpc hsz hnc hcf ho)
  · exact jl_oeq (by rw [ho]) (ck_nm_t15 hl hc hw hm hok hsg hop hpc hsz hnc hcf ho)
  · exact jl_oeq (by rw [ho]) (ck_nm_t16 hl hc hw hm hok hsg hop hpc hsz hnc hcf ho)
  · exact jl_oeq (by rw [ho]) (ck_nm_t17 hl hc hw hm hok hsg hop hpc hsz hnc hcf ho)
  · exact jl_oeq (by rw [ho]) (ck_nm_t18 hl hc hw hm hok hsg hop hpc hsz hnc hcf ho)
  · exact jl_oeq (by rw [ho]) (ck_nm_t19 hl hc hw hm hok hsg hop hpc hsz hnc hcf ho)
  · exact jl_oeq (by rw [ho]) (ck_nm_t20 hl hc hw hm hok hsg hop hpc hsz hnc hcf ho)
  · exact jl_oeq (by rw [ho]) (ck_nm_t21 hl hc hw hm hok hsg hop hpc hsz hnc hcf ho)
  · exact jl_oeq (by rw [ho]) (ck_nm_t22 hl hc hw hm hok hsg hop hpc hsz hnc hcf ho)
  · exact jl_oeq (by rw [ho]) (ck_nm_t23 hl hc hw hm hok hsg hop hpc hsz hnc hcf ho)
  · exact jl_oeq (by rw [ho]) (ck_nm_t24 hl hc hw hm hok hsg hop hpc hsz hnc hcf ho)
  · exact jl_oeq (by rw [ho]) (ck_nm_t25 hl hc hw hm hok hsg hop hpc hsz hnc hcf ho)
theorem d_Ck_namesAreThere_2 : decode m_Ck_namesAreThere.2.1 2 = .ok (.iload_n 3, 1) := by decide +kernel
theorem d_Ck_namesAreThere_3 : decode m_Ck_namesAreThere.2.1 3 = .ok (.aload_n 1, 1) := by decide +kernel
theorem f_Ck_namesAreThere_56 : jl_fd m_Ck_namesAreThere 56 2 10 = true := by decide +kernel
theorem d_Ck_namesAreThere_4 : decode m_Ck_namesAreThere.2.1 4 = .ok (.getfield 56, 3) := by decide +kernel
theorem d_Ck_namesAreThere_7 : decode m_Ck_namesAreThere.2.1 7 = .ok (.if_icmp .ge 47, 3) := by decide +kernel
theorem d_Ck_namesAreThere_10 : decode m_Ck_namesAreThere.2.1 10 = .ok (.aload_n 1, 1) := by decide +kernel
theorem d_Ck_namesAreThere_11 : decode m_Ck_namesAreThere.2.1 11 = .ok (.iload_n 3, 1) := by decide +kernel
theorem d_Ck_namesAreThere_12 : decode m_Ck_namesAreThere.2.1 12 = .ok (.iload_n 2, 1) := by decide +kernel
theorem k_Ck_namesAreThere_59 : jl_cv m_Ck_namesAreThere m_Me_isAround 59 2 = true := by decide +kernel
theorem d_Ck_namesAreThere_13 : decode m_Ck_namesAreThere.2.1 13 = .ok (.invokevirtual 59, 3) := by decide +kernel
theorem d_Ck_namesAreThere_16 : decode m_Ck_namesAreThere.2.1 16 = .ok (.ifCond .eq 32, 3) := by decide +kernel
theorem d_Ck_namesAreThere_48 : decode m_Ck_namesAreThere.2.1 48 = .ok (.iinc 3 1, 3) := by decide +kernel
theorem d_Ck_namesAreThere_51 : decode m_Ck_namesAreThere.2.1 51 = .ok (.goto (-49), 3) := by decide +kernel
theorem d_Ck_namesAreThere_19 : decode m_Ck_namesAreThere.2.1 19 = .ok (.aload_n 1, 1) := by decide +kernel
theorem f_Ck_namesAreThere_73 : jl_fd m_Ck_namesAreThere 73 2 9 = true := by decide +kernel
theorem d_Ck_namesAreThere_20 : decode m_Ck_namesAreThere.2.1 20 = .ok (.getfield 73, 3) := by decide +kernel
theorem d_Ck_namesAreThere_23 : decode m_Ck_namesAreThere.2.1 23 = .ok (.iload_n 3, 1) := by decide +kernel
theorem d_Ck_namesAreThere_24 : decode m_Ck_namesAreThere.2.1 24 = .ok (.iaload, 1) := by decide +kernel
theorem d_Ck_namesAreThere_25 : decode m_Ck_namesAreThere.2.1 25 = .ok (.bipush 6, 2) := by decide +kernel
theorem d_Ck_namesAreThere_27 : decode m_Ck_namesAreThere.2.1 27 = .ok (.if_icmp .eq 21, 3) := by decide +kernel
theorem d_Ck_namesAreThere_30 : decode m_Ck_namesAreThere.2.1 30 = .ok (.aload_n 0, 1) := by decide +kernel
theorem d_Ck_namesAreThere_31 : decode m_Ck_namesAreThere.2.1 31 = .ok (.getfield 9, 3) := by decide +kernel
theorem d_Ck_namesAreThere_34 : decode m_Ck_namesAreThere.2.1 34 = .ok (.aload_n 1, 1) := by decide +kernel
theorem d_Ck_namesAreThere_35 : decode m_Ck_namesAreThere.2.1 35 = .ok (.getfield 73, 3) := by decide +kernel
theorem d_Ck_namesAreThere_38 : decode m_Ck_namesAreThere.2.1 38 = .ok (.iload_n 3, 1) := by decide +kernel
theorem d_Ck_namesAreThere_39 : decode m_Ck_namesAreThere.2.1 39 = .ok (.iaload, 1) := by decide +kernel
theorem d_Ck_namesAreThere_40 : decode m_Ck_namesAreThere.2.1 40 = .ok (.invokevirtual 76, 3) := by decide +kernel
theorem d_Ck_namesAreThere_43 : decode m_Ck_namesAreThere.2.1 43 = .ok (.ifCond .ne 5, 3) := by decide +kernel
theorem d_Ck_namesAreThere_46 : decode m_Ck_namesAreThere.2.1 46 = .ok (.iconst 0, 1) := by decide +kernel
theorem d_Ck_namesAreThere_47 : decode m_Ck_namesAreThere.2.1 47 = .ok (.ireturn, 1) := by decide +kernel
theorem ck_nm_loop (hl : l.stackTraces = false) {pc : Nat} (hc : CkAt σ) (hw : WoAt σ tb pr ow fi ft mt) (hm : MeAt σ a q1 q2 rs op ag sz fr tt tg kd nc mp fh) (hok : WoOk tb pr ow fi) (hsg : SgC σ tb pr mt sg) (hop : op pc < 26) (hpc : pc < 24) (hsz : sz ≤ 24) (hnc : nc ≤ 2) (hcf : ∀ i, i < 2 → fr i < 100 ∧ tt i < 100 ∧ tg i < 24 ∧ kd i < 7) : ∀ (nn : Nat) (i : Nat), nc - i < nn → i ≤ nc → jl_W l G m_Ck_namesAreThere (0, 0) 2 [some (.ref 8), some (.ref a), some (.int (nI pc)), some (.int (nI i))] [] σ (.inl (some (.int (bi (!(anyC (f5c tb fr tt kd pc) (nc - i) i || f5o tb ow fi sg (op pc) (ag pc))))))) (σ) := by
  obtain ⟨hW, h2, h3, h4, h5, h6, h7⟩ := id hw
  obtain ⟨hM, g1, g2, g3, g4, g5, g6, g7, g8⟩ := id hm
  intro nn
  induction nn with
  | zero => intro i hnn; exact absurd hnn (Nat.not_lt_zero _)
  | succ nn ihn =>
    intro i hnn hi
    refine jr_iload_n d_Ck_namesAreThere_2 rfl ?_
    refine jr_aload_n d_Ck_namesAreThere_3 rfl ?_
    refine jr_getf d_Ck_namesAreThere_4 f_Ck_namesAreThere_56 hM rfl ?_
    refine jr_icmp_geN 54 d_Ck_namesAreThere_7 (by decide) (by omega) (by omega) (fun c1 => ?_) (fun c1 => ?_)
    · exact jl_oeq (by rw [show nc - i = 0 by omega]; simp [anyC]) (ck_nm_t hl hc hw hm hok hsg hop hpc hsz hnc hcf)
    · refine jr_aload_n d_Ck_namesAreThere_10 rfl ?_
      refine jr_iload_n d_Ck_namesAreThere_11 rfl ?_
      refine jr_iload_n d_Ck_namesAreThere_12 rfl ?_
      refine jr_callV (As := [.int (nI i), .int (nI pc)]) d_Ck_namesAreThere_13 k_Ck_namesAreThere_59 hM rfl rfl rfl (Nat.le_of_ble_eq_true rfl) (by decide) (by decide) (me_around hl hm (by omega) (by omega) (hcf _ (by omega)).1 (hcf _ (by omega)).2.1) ?_
      show jl_W l G m_Ck_namesAreThere (0, 0) 16 [some (.ref 8), some (.ref a), some (.int (nI pc)), some (.int (nI i))] [.int (bi (aro fr tt (i) (pc)))] (σ) (.inl (some (.int (bi (!(anyC (f5c tb fr tt kd pc) (nc - i) i || f5o tb ow fi sg (op pc) (ag pc))))))) (σ)
      refine jr_if_eq 48 d_Ck_namesAreThere_16 (by decide) (fun c2 => ?_) (fun c2 => ?_)
      · refine jr_iinc ((nI (i + 1))) d_Ck_namesAreThere_48 (by decide) rfl (jl_inc _) ?_
        show jl_W l G m_Ck_namesAreThere (0, 0) 51 [some (.ref 8), some (.ref a), some (.int (nI pc)), some (.int (nI (i + 1)))] [] (σ) (.inl (some (.int (bi (!(anyC (f5c tb fr tt kd pc) (nc - i) i || f5o tb ow fi sg (op pc) (ag pc))))))) (σ)
        refine jr_goto 2 d_Ck_namesAreThere_51 (by decide) ?_
        exact jl_oeq (by rw [show nc - i = (nc - (i + 1)) + 1 by omega]; simp [anyC, f5c, c1, Nat.not_le.mpr c1, bi_0.mp c2]) (ihn (i + 1) (by omega) (by omega))
      · have hkd := (hcf i (by omega)).2.2.2
        refine jr_aload_n d_Ck_namesAreThere_19 rfl ?_
        refine jr_getf d_Ck_namesAreThere_20 f_Ck_namesAreThere_73 hM rfl ?_
        refine jr_iload_n d_Ck_namesAreThere_23 rfl ?_
        refine jr_ialdN d_Ck_namesAreThere_24 g6 (by omega) (by omega) ?_
        refine jr_bipush ((nI (6))) d_Ck_namesAreThere_25 (by decide) ?_
        refine jr_icmp_eqN 48 d_Ck_namesAreThere_27 (by decide) (by omega) (by omega) (fun c3 => ?_) (fun c3 => ?_)
        · refine jr_iinc ((nI (i + 1))) d_Ck_namesAreThere_48 (by decide) rfl (jl_inc _) ?_
          show jl_W l G m_Ck_namesAreThere (0, 0) 51 [some (.ref 8), some (.ref a), some (.int (nI pc)), some (.int (nI (i + 1)))] [] (σ) (.inl (some (.int (bi (!(anyC (f5c tb fr tt kd pc) (nc - i) i || f5o tb ow fi sg (op pc) (ag pc))))))) (σ)
          refine jr_goto 2 d_Ck_namesAreThere_51 (by decide) ?_
          exact jl_oeq (by rw [show nc - i = (nc - (i + 1)) + 1 by omega]; simp [anyC, f5c, c1, Nat.not_le.mpr c1, bi_nf c2, c3]) (ihn (i + 1) (by omega) (by omega))
        · refine jr_aload_n d_Ck_namesAreThere_30 rfl ?_
          refine jr_getf d_Ck_namesAreThere_31 f_Ck_namesAreThere_9 hc rfl ?_
          refine jr_aload_n d_Ck_namesAreThere_34 rfl ?_
          refine jr_getf d_Ck_namesAreThere_35 f_Ck_namesAreThere_73 hM rfl ?_
          refine jr_iload_n d_Ck_namesAreThere_38 rfl ?_
          refine jr_ialdN d_Ck_namesAreThere_39 g6 (by omega) (by omega) ?_
          refine jr_callV (As := [.int (nI (kd (i)))]) d_Ck_namesAreThere_40 k_Ck_namesAreThere_76 hW rfl rfl rfl (Nat.le_of_ble_eq_true rfl) (by decide) (by decide) (wo_has hl hw) ?_
          show jl_W l G m_Ck_namesAreThere (0, 0) 43 [some (.ref 8), some (.ref a), some (.int (nI pc)), some (.int (nI i))] [.int (bi (hasI tb (nI (kd (i)))))] (σ) (.inl (some (.int (bi (!(anyC (f5c tb fr tt kd pc) (nc - i) i || f5o tb ow fi sg (op pc) (ag pc))))))) (σ)
          refine jr_if_ne 48 d_Ck_namesAreThere_43 (by decide) (fun c4 => ?_) (fun c4 => ?_)
          · refine jr_iinc ((nI (i + 1))) d_Ck_namesAreThere_48 (by decide) rfl (jl_inc _) ?_
            show jl_W l G m_Ck_namesAreThere (0, 0) 51 [some (.ref 8), some (.ref a), some (.int (nI pc)), some (.int (nI (i + 1)))] [] (σ) (.inl (some (.int (bi (!(anyC (f5c tb fr tt kd pc) (nc - i) i || f5o tb ow fi sg (op pc) (ag pc))))))) (σ)
            refine jr_goto 2 d_Ck_namesAreThere_51 (by decide) ?_
            exact jl_oeq (by rw [show nc - i = (nc - (i + 1)) + 1 by omega]; simp [anyC, f5c, c1, Nat.not_le.mpr c1, bi_nf c2, c3, bi_nf c4]) (ihn (i + 1) (by omega) (by omega))
          · refine jr_iconst ((nI (0))) d_Ck_namesAreThere_46 (by decide) ?_
            exact jr_zretE d_Ck_namesAreThere_47 rfl (by decide) (by rw [show nc - i = (nc - (i + 1)) + 1 by omega]; exact bo0 (by simp [anyC, f5c, c1, Nat.not_le.mpr c1, bi_nf c2, c3, bi_0.mp c4])) (rfl) (by decide) (by decide)
theorem d_Ck_namesAreThere_0 : decode m_Ck_namesAreThere.2.1 0 = .ok (.iconst 0, 1) := by decide +kernel
theorem d_Ck_namesAreThere_1 : decode m_Ck_namesAreThere.2.1 1 = .ok (.istore_n 3, 1) := by decide +kernel
theorem ck_names (hl : l.stackTraces = false) {pc : Nat} (hc : CkAt σ) (hw : WoAt σ tb pr ow fi ft mt) (hm : MeAt σ a q1 q2 rs op ag sz fr tt tg kd nc mp fh) (hok : WoOk tb pr ow fi) (hsg : SgC σ tb pr mt sg) (hop : op pc < 26) (hpc : pc < 24) (hsz : sz ≤ 24) (hnc : nc ≤ 2) (hcf : ∀ i, i < 2 → fr i < 100 ∧ tt i < 100 ∧ tg i < 24 ∧ kd i < 7) : jl_m l G m_Ck_namesAreThere [.ref 8, .ref a, .int (nI pc)] σ (.inl (some (.int (bi (!f5 tb ow fi sg (op pc) (ag pc) fr tt kd nc pc))))) (σ) := by
  obtain ⟨hW, h2, h3, h4, h5, h6, h7⟩ := id hw
  obtain ⟨hM, g1, g2, g3, g4, g5, g6, g7, g8⟩ := id hm
  refine jl_of (as := [.ref 8, .ref a, .int (nI pc)]) rfl (by decide) hl (jl_cc rfl (jl_cc rfl (jl_cc rfl jl_ca))) (Nat.le_of_ble_eq_true rfl) ?_
  show jl_W l G m_Ck_namesAreThere (0, 0) 0 [some (.ref 8), some (.ref a), some (.int (nI pc)), none] [] (σ) (.inl (some (.int (bi (!f5 tb ow fi sg (op pc) (ag pc) fr tt kd nc pc))))) (σ)
  refine jr_iconst ((nI (0))) d_Ck_namesAreThere_0 (by decide) ?_
  refine jr_istore_n d_Ck_namesAreThere_1 (by decide) ?_
  show jl_W l G m_Ck_namesAreThere (0, 0) 2 [some (.ref 8), some (.ref a), some (.int (nI pc)), some (.int (nI 0))] [] (σ) (.inl (some (.int (bi (!f5 tb ow fi sg (op pc) (ag pc) fr tt kd nc pc))))) (σ)
  exact jl_oeq (by simp [f5]) (ck_nm_loop hl hc hw hm hok hsg hop hpc hsz hnc hcf (nc + 1) 0 (by omega) (by omega))
theorem nI_sub_s {p q : Nat} (hp : p < 6) (hq : q < 4) (h : p < q) : nI p - nI q < 0 := by
  have : ∀ p, p < 6 → ∀ q, q < 4 → p < q → nI p - nI q < 0 := by decide +kernel
  exact this p hp q hq h
theorem d_Ck_heightFits_0 : decode m_Ck_heightFits.2.1 0 = .ok (.iload_n 3, 1) := by decide +kernel
theorem d_Ck_heightFits_1 : decode m_Ck_heightFits.2.1 1 = .ok (.aload_n 0, 1) := by decide +kernel
theorem d_Ck_heightFits_2 : decode m_Ck_heightFits.2.1 2 = .ok (.iload_n 1, 1) := by decide +kernel
theorem d_Ck_heightFits_3 : decode m_Ck_heightFits.2.1 3 = .ok (.iload_n 2, 1) := by decide +kernel
theorem k_Ck_heightFits_82 : jl_cv m_Ck_heightFits m_Ck_takes 82 2 = true := by decide +kernel
theorem d_Ck_heightFits_4 : decode m_Ck_heightFits.2.1 4 = .ok (.invokevirtual 82, 3) := by decide +kernel
theorem d_Ck_heightFits_7 : decode m_Ck_heightFits.2.1 7 = .ok (.isub, 1) := by decide +kernel
theorem d_Ck_heightFits_8 : decode m_Ck_heightFits.2.1 8 = .ok (.istore 4, 2) := by decide +kernel
theorem d_Ck_heightFits_10 : decode m_Ck_heightFits.2.1 10 = .ok (.iload 4, 2) := by decide +kernel
theorem d_Ck_heightFits_12 : decode m_Ck_heightFits.2.1 12 = .ok (.ifCond .lt 19, 3) := by decide +kernel
theorem d_Ck_heightFits_15 : decode m_Ck_heightFits.2.1 15 = .ok (.iload 4, 2) := by decide +kernel
theorem d_Ck_heightFits_17 : decode m_Ck_heightFits.2.1 17 = .ok (.getstatic 86, 3) := by decide +kernel
theorem d_Ck_heightFits_20 : decode m_Ck_heightFits.2.1 20 = .ok (.iload_n 1, 1) := by decide +kernel
theorem d_Ck_heightFits_21 : decode m_Ck_heightFits.2.1 21 = .ok (.iaload, 1) := by decide +kernel
theorem d_Ck_heightFits_22 : decode m_Ck_heightFits.2.1 22 = .ok (.iadd, 1) := by decide +kernel
theorem d_Ck_heightFits_23 : decode m_Ck_heightFits.2.1 23 = .ok (.iconst 5, 1) := by decide +kernel
theorem d_Ck_heightFits_24 : decode m_Ck_heightFits.2.1 24 = .ok (.if_icmp .gt 7, 3) := by decide +kernel
theorem d_Ck_heightFits_31 : decode m_Ck_heightFits.2.1 31 = .ok (.iconst 0, 1) := by decide +kernel
theorem d_Ck_heightFits_32 : decode m_Ck_heightFits.2.1 32 = .ok (.ireturn, 1) := by decide +kernel
theorem d_Ck_heightFits_27 : decode m_Ck_heightFits.2.1 27 = .ok (.iconst 1, 1) := by decide +kernel
theorem d_Ck_heightFits_28 : decode m_Ck_heightFits.2.1 28 = .ok (.goto 4, 3) := by decide +kernel
theorem ck_height (hl : l.stackTraces = false) {o h : Nat} {x : Int32} (hc : CkAt σ) (hw : WoAt σ tb pr ow fi ft mt) (hok : WoOk tb pr ow fi) (hsg : SgC σ tb pr mt sg) (ho : o < 26) (hh : h ≤ 5) : jl_m l G m_Ck_heightFits [.ref 8, .int (nI o), .int (x), .int (nI h)] σ (.inl (some (.int (bi (!f1 sg o x h))))) (σ) := by
  obtain ⟨hW, h2, h3, h4, h5, h6, h7⟩ := id hw
  refine jl_of (as := [.ref 8, .int (nI o), .int (x), .int (nI h)]) rfl (by decide) hl (jl_cc rfl (jl_cc rfl (jl_cc rfl (jl_cc rfl jl_ca)))) (Nat.le_of_ble_eq_true rfl) ?_
  show jl_W l G m_Ck_heightFits (0, 0) 0 [some (.ref 8), some (.int (nI o)), some (.int (x)), some (.int (nI h)), none] [] (σ) (.inl (some (.int (bi (!f1 sg o x h))))) (σ)
  refine jr_iload_n d_Ck_heightFits_0 rfl ?_
  refine jr_aload_n d_Ck_heightFits_1 rfl ?_
  refine jr_iload_n d_Ck_heightFits_2 rfl ?_
  refine jr_iload_n d_Ck_heightFits_3 rfl ?_
  refine jr_callV (As := [.int (nI o), .int (x)]) d_Ck_heightFits_4 k_Ck_heightFits_82 hc rfl rfl rfl (Nat.le_of_ble_eq_true rfl) (by decide) (by decide) (ck_takes hl hc hw hok hsg ho) ?_
  show jl_W l G m_Ck_heightFits (0, 0) 7 [some (.ref 8), some (.int (nI o)), some (.int (x)), some (.int (nI h)), none] [.int (nI (tks sg o x)), .int (nI h)] (σ) (.inl (some (.int (bi (!f1 sg o x h))))) (σ)
  have htl := tks_le sg o x
  have hpl := pts_le o
  by_cases ht : tks sg o x ≤ h
  · refine jr_isubN d_Ck_heightFits_7 (by omega) ?_
    show jl_W l G m_Ck_heightFits (0, 0) 8 [some (.ref 8), some (.int (nI o)), some (.int (x)), some (.int (nI h)), none] [.int (nI (h - tks sg o x))] (σ) (.inl (some (.int (bi (!f1 sg o x h))))) (σ)
    refine jr_istore d_Ck_heightFits_8 (by decide) ?_
    show jl_W l G m_Ck_heightFits (0, 0) 10 [some (.ref 8), some (.int (nI o)), some (.int (x)), some (.int (nI h)), some (.int (nI (h - tks sg o x)))] [] (σ) (.inl (some (.int (bi (!f1 sg o x h))))) (σ)
    refine jr_iload d_Ck_heightFits_10 rfl ?_
    refine jr_if_lt 31 d_Ck_heightFits_12 (by decide) (fun z => absurd z (nI_pos (by omega))) (fun _ => ?_)
    refine jr_iload d_Ck_heightFits_15 rfl ?_
    refine jr_gets (ci := 0) (G.2.2.2.2.1) d_Ck_heightFits_17 rfl (List.mem_cons_of_mem _ List.mem_cons_self) ?_
    refine jr_iload_n d_Ck_heightFits_20 rfl ?_
    refine jr_ptldN d_Ck_heightFits_21 (by omega) ?_
    refine jr_iaddN d_Ck_heightFits_22 ?_
    refine jr_iconst ((nI (5))) d_Ck_heightFits_23 (by decide) ?_
    refine jr_icmp_gtN 31 d_Ck_heightFits_24 (by decide) (by omega) (by omega) (fun c1 => ?_) (fun c1 => ?_)
    · refine jr_iconst ((nI (0))) d_Ck_heightFits_31 (by decide) ?_
      exact jr_zretE d_Ck_heightFits_32 rfl (by decide) (bo0 (by first | (simp [f1, Nat.not_lt.mpr ht, c1, Nat.not_le.mpr c1]; done) | (simp [f1, Nat.not_lt.mpr ht, c1, Nat.not_le.mpr c1]; omega))) (rfl) (by decide) (by decide)
    · refine jr_iconst ((nI (1))) d_Ck_heightFits_27 (by decide) ?_
      refine jr_goto 32 d_Ck_heightFits_28 (by decide) ?_
      exact jr_zretE d_Ck_heightFits_32 rfl (by decide) (bo1 (by first | (simp [f1, Nat.not_lt.mpr ht, c1, Nat.not_lt.mpr c1]; done) | (simp [f1, Nat.not_lt.mpr ht, c1, Nat.not_lt.mpr c1]; omega))) (rfl) (by decide) (by decide)
  · refine jr_isub d_Ck_heightFits_7 ?_
    show jl_W l G m_Ck_heightFits (0, 0) 8 [some (.ref 8), some (.int (nI o)), some (.int (x)), some (.int (nI h)), none] [.int (nI h - nI (tks sg o x))] (σ) (.inl (some (.int (bi (!f1 sg o x h))))) (σ)
    refine jr_istore d_Ck_heightFits_8 (by decide) ?_
    show jl_W l G m_Ck_heightFits (0, 0) 10 [some (.ref 8), some (.int (nI o)), some (.int (x)), some (.int (nI h)), some (.int (nI h - nI (tks sg o x)))] [] (σ) (.inl (some (.int (bi (!f1 sg o x h))))) (σ)
    refine jr_iload d_Ck_heightFits_10 rfl ?_
    refine jr_if_lt 31 d_Ck_heightFits_12 (by decide) (fun c2 => ?_) (fun c2 => ?_)
    · refine jr_iconst ((nI (0))) d_Ck_heightFits_31 (by decide) ?_
      exact jr_zretE d_Ck_heightFits_32 rfl (by decide) (bo0 (by first | (simp [f1, Nat.lt_of_not_le ht, c2]; done) | (simp [f1, Nat.lt_of_not_le ht, c2]; omega))) (rfl) (by decide) (by decide)
    · exact absurd (nI_sub_s (by omega) (by omega) (by omega)) c2
end JCk
