/-! Method (wip/gen/p24.py) -/
section JMe
variable {l : Launch} {G : jl_G} {σ : jl_S} {a : Nat} {q1 q2 : Option Nat} {rs : Nat} {op : Nat → Nat} {ag : Nat → Int32} {sz : Nat} {fr tt tg kd : Nat → Nat} {nc : Nat} {mp : Nat → Int32} {fh : Nat → Bool}
theorem d_Me_parameters_0 : decode m_Me_parameters.2.1 0 = .ok (.aload_n 0, 1) := by decide +kernel
theorem f_Me_parameters_44 : jl_fd m_Me_parameters 44 2 0 = true := by decide +kernel
theorem d_Me_parameters_1 : decode m_Me_parameters.2.1 1 = .ok (.getfield 44, 3) := by decide +kernel
theorem d_Me_parameters_4 : decode m_Me_parameters.2.1 4 = .ok (.iconst (-1), 1) := by decide +kernel
theorem d_Me_parameters_5 : decode m_Me_parameters.2.1 5 = .ok (.if_icmp .ne 5, 3) := by decide +kernel
theorem d_Me_parameters_8 : decode m_Me_parameters.2.1 8 = .ok (.iconst 0, 1) := by decide +kernel
theorem d_Me_parameters_9 : decode m_Me_parameters.2.1 9 = .ok (.ireturn, 1) := by decide +kernel
theorem d_Me_parameters_10 : decode m_Me_parameters.2.1 10 = .ok (.aload_n 0, 1) := by decide +kernel
theorem f_Me_parameters_47 : jl_fd m_Me_parameters 47 2 1 = true := by decide +kernel
theorem d_Me_parameters_11 : decode m_Me_parameters.2.1 11 = .ok (.getfield 47, 3) := by decide +kernel
theorem d_Me_parameters_14 : decode m_Me_parameters.2.1 14 = .ok (.iconst (-1), 1) := by decide +kernel
theorem d_Me_parameters_15 : decode m_Me_parameters.2.1 15 = .ok (.if_icmp .ne 7, 3) := by decide +kernel
theorem d_Me_parameters_18 : decode m_Me_parameters.2.1 18 = .ok (.iconst 1, 1) := by decide +kernel
theorem d_Me_parameters_19 : decode m_Me_parameters.2.1 19 = .ok (.goto 4, 3) := by decide +kernel
theorem d_Me_parameters_23 : decode m_Me_parameters.2.1 23 = .ok (.ireturn, 1) := by decide +kernel
theorem d_Me_parameters_22 : decode m_Me_parameters.2.1 22 = .ok (.iconst 2, 1) := by decide +kernel
theorem me_params (hl : l.stackTraces = false)  (hm : MeAt σ a q1 q2 rs op ag sz fr tt tg kd nc mp fh) (h1 : ob 16 q1) (h2 : ob 16 q2) : jl_m l G m_Me_parameters [.ref a] σ (.inl (some (.int (nI (prm q1 q2))))) (σ) := by
  obtain ⟨hM, g1, g2, g3, g4, g5, g6, g7, g8⟩ := id hm
  refine jl_of (as := [.ref a]) rfl (by decide) hl (jl_cc rfl jl_ca) (Nat.le_of_ble_eq_true rfl) ?_
  show jl_W l G m_Me_parameters (0, 0) 0 [some (.ref a)] [] (σ) (.inl (some (.int (nI (prm q1 q2))))) (σ)
  refine jr_aload_n d_Me_parameters_0 rfl ?_
  refine jr_getf d_Me_parameters_1 f_Me_parameters_44 hM rfl ?_
  cases q1 with
  | none =>
    show jl_W l G m_Me_parameters (0, 0) 4 [some (.ref a)] [.int (-1)] (σ) (.inl (some (.int (nI (prm none q2))))) (σ)
    refine jr_iconst ((-1)) d_Me_parameters_4 (by decide) ?_
    refine jr_icmp_ne 10 d_Me_parameters_5 (by decide) (fun z => absurd rfl z) (fun _ => ?_)
    refine jr_iconst ((nI (0))) d_Me_parameters_8 (by decide) ?_
    exact jr_iretE d_Me_parameters_9 rfl (rfl) (rfl) (by decide) (by decide)
  | some t1 =>
    have ht1 := h1 t1 rfl
    show jl_W l G m_Me_parameters (0, 0) 4 [some (.ref a)] [.int (nI t1)] (σ) (.inl (some (.int (nI (prm (some t1) q2))))) (σ)
    refine jr_iconst ((-1)) d_Me_parameters_4 (by decide) ?_
    refine jr_icmp_ne 10 d_Me_parameters_5 (by decide) (fun _ => ?_) (fun z => absurd z (en_m1ne (by omega)))
    refine jr_aload_n d_Me_parameters_10 rfl ?_
    refine jr_getf d_Me_parameters_11 f_Me_parameters_47 hM rfl ?_
    cases q2 with
    | none =>
      show jl_W l G m_Me_parameters (0, 0) 14 [some (.ref a)] [.int (-1)] (σ) (.inl (some (.int (nI (prm (some t1) none))))) (σ)
      refine jr_iconst ((-1)) d_Me_parameters_14 (by decide) ?_
      refine jr_icmp_ne 22 d_Me_parameters_15 (by decide) (fun z => absurd rfl z) (fun _ => ?_)
      refine jr_iconst ((nI (1))) d_Me_parameters_18 (by decide) ?_
      refine jr_goto 23 d_Me_parameters_19 (by decide) ?_
      exact jr_iretE d_Me_parameters_23 rfl (rfl) (rfl) (by decide) (by decide)
    | some t2 =>
      have ht2 := h2 t2 rfl
      show jl_W l G m_Me_parameters (0, 0) 14 [some (.ref a)] [.int (nI t2)] (σ) (.inl (some (.int (nI (prm (some t1) (some t2)))))) (σ)
      refine jr_iconst ((-1)) d_Me_parameters_14 (by decide) ?_
      refine jr_icmp_ne 22 d_Me_parameters_15 (by decide) (fun _ => ?_) (fun z => absurd z (en_m1ne (by omega)))
      refine jr_iconst ((nI (2))) d_Me_parameters_22 (by decide) ?_
      exact jr_iretE d_Me_parameters_23 rfl (rfl) (rfl) (by decide) (by decide)
theorem d_Me_parameter_0 : decode m_Me_parameter.2.1 0 = .ok (.iload_n 1, 1) := by decide +kernel
theorem d_Me_parameter_1 : decode m_Me_parameter.2.1 1 = .ok (.ifCond .ne 10, 3) := by decide +kernel
theorem d_Me_parameter_11 : decode m_Me_parameter.2.1 11 = .ok (.aload_n 0, 1) := by decide +kernel
theorem f_Me_parameter_47 : jl_fd m_Me_parameter 47 2 1 = true := by decide +kernel
theorem d_Me_parameter_12 : decode m_Me_parameter.2.1 12 = .ok (.getfield 47, 3) := by decide +kernel
theorem d_Me_parameter_15 : decode m_Me_parameter.2.1 15 = .ok (.ireturn, 1) := by decide +kernel
theorem d_Me_parameter_4 : decode m_Me_parameter.2.1 4 = .ok (.aload_n 0, 1) := by decide +kernel
theorem f_Me_parameter_44 : jl_fd m_Me_parameter 44 2 0 = true := by decide +kernel
theorem d_Me_parameter_5 : decode m_Me_parameter.2.1 5 = .ok (.getfield 44, 3) := by decide +kernel
theorem d_Me_parameter_8 : decode m_Me_parameter.2.1 8 = .ok (.goto 7, 3) := by decide +kernel
theorem me_param (hl : l.stackTraces = false) {i : Nat} (hm : MeAt σ a q1 q2 rs op ag sz fr tt tg kd nc mp fh) (hi : i < 2) : jl_m l G m_Me_parameter [.ref a, .int (nI i)] σ (.inl (some (.int (en (if i = 0 then q1 else q2))))) (σ) := by
  obtain ⟨hM, g1, g2, g3, g4, g5, g6, g7, g8⟩ := id hm
  refine jl_of (as := [.ref a, .int (nI i)]) rfl (by decide) hl (jl_cc rfl (jl_cc rfl jl_ca)) (Nat.le_of_ble_eq_true rfl) ?_
  show jl_W l G m_Me_parameter (0, 0) 0 [some (.ref a), some (.int (nI i))] [] (σ) (.inl (some (.int (en (if i = 0 then q1 else q2))))) (σ)
  refine jr_iload_n d_Me_parameter_0 rfl ?_
  refine jr_if_neN 11 d_Me_parameter_1 (by decide) (by omega) (fun c1 => ?_) (fun c1 => ?_)
  · refine jr_aload_n d_Me_parameter_11 rfl ?_
    refine jr_getf d_Me_parameter_12 f_Me_parameter_47 hM rfl ?_
    exact jr_iretE d_Me_parameter_15 rfl (by rw [if_neg (by omega)]) (rfl) (by decide) (by decide)
  · refine jr_aload_n d_Me_parameter_4 rfl ?_
    refine jr_getf d_Me_parameter_5 f_Me_parameter_44 hM rfl ?_
    refine jr_goto 15 d_Me_parameter_8 (by decide) ?_
    exact jr_iretE d_Me_parameter_15 rfl (by rw [if_pos (by omega)]) (rfl) (by decide) (by decide)
theorem d_Me_isAround_0 : decode m_Me_isAround.2.1 0 = .ok (.aload_n 0, 1) := by decide +kernel
theorem f_Me_isAround_22 : jl_fd m_Me_isAround 22 2 6 = true := by decide +kernel
theorem d_Me_isAround_1 : decode m_Me_isAround.2.1 1 = .ok (.getfield 22, 3) := by decide +kernel
theorem d_Me_isAround_4 : decode m_Me_isAround.2.1 4 = .ok (.iload_n 1, 1) := by decide +kernel
theorem d_Me_isAround_5 : decode m_Me_isAround.2.1 5 = .ok (.iaload, 1) := by decide +kernel
theorem d_Me_isAround_6 : decode m_Me_isAround.2.1 6 = .ok (.iload_n 2, 1) := by decide +kernel
theorem d_Me_isAround_7 : decode m_Me_isAround.2.1 7 = .ok (.if_icmp .gt 17, 3) := by decide +kernel
theorem d_Me_isAround_24 : decode m_Me_isAround.2.1 24 = .ok (.iconst 0, 1) := by decide +kernel
theorem d_Me_isAround_25 : decode m_Me_isAround.2.1 25 = .ok (.ireturn, 1) := by decide +kernel
theorem d_Me_isAround_10 : decode m_Me_isAround.2.1 10 = .ok (.iload_n 2, 1) := by decide +kernel
theorem d_Me_isAround_11 : decode m_Me_isAround.2.1 11 = .ok (.aload_n 0, 1) := by decide +kernel
theorem f_Me_isAround_25 : jl_fd m_Me_isAround 25 2 7 = true := by decide +kernel
theorem d_Me_isAround_12 : decode m_Me_isAround.2.1 12 = .ok (.getfield 25, 3) := by decide +kernel
theorem d_Me_isAround_15 : decode m_Me_isAround.2.1 15 = .ok (.iload_n 1, 1) := by decide +kernel
theorem d_Me_isAround_16 : decode m_Me_isAround.2.1 16 = .ok (.iaload, 1) := by decide +kernel
theorem d_Me_isAround_17 : decode m_Me_isAround.2.1 17 = .ok (.if_icmp .ge 7, 3) := by decide +kernel
theorem d_Me_isAround_20 : decode m_Me_isAround.2.1 20 = .ok (.iconst 1, 1) := by decide +kernel
theorem d_Me_isAround_21 : decode m_Me_isAround.2.1 21 = .ok (.goto 4, 3) := by decide +kernel
theorem me_around (hl : l.stackTraces = false) {i pc : Nat} (hm : MeAt σ a q1 q2 rs op ag sz fr tt tg kd nc mp fh) (hi : i < 2) (hpc : pc < 100) (hf : fr i < 100) (ht : tt i < 100) : jl_m l G m_Me_isAround [.ref a, .int (nI i), .int (nI pc)] σ (.inl (some (.int (bi (aro fr tt i pc))))) (σ) := by
  obtain ⟨hM, g1, g2, g3, g4, g5, g6, g7, g8⟩ := id hm
  refine jl_of (as := [.ref a, .int (nI i), .int (nI pc)]) rfl (by decide) hl (jl_cc rfl (jl_cc rfl (jl_cc rfl jl_ca))) (Nat.le_of_ble_eq_true rfl) ?_
  show jl_W l G m_Me_isAround (0, 0) 0 [some (.ref a), some (.int (nI i)), some (.int (nI pc))] [] (σ) (.inl (some (.int (bi (aro fr tt i pc))))) (σ)
  refine jr_aload_n d_Me_isAround_0 rfl ?_
  refine jr_getf d_Me_isAround_1 f_Me_isAround_22 hM rfl ?_
  refine jr_iload_n d_Me_isAround_4 rfl ?_
  refine jr_ialdN d_Me_isAround_5 g3 (by omega) (by omega) ?_
  refine jr_iload_n d_Me_isAround_6 rfl ?_
  refine jr_icmp_gtN 24 d_Me_isAround_7 (by decide) (by omega) (by omega) (fun c1 => ?_) (fun c1 => ?_)
  · refine jr_iconst ((nI (0))) d_Me_isAround_24 (by decide) ?_
    exact jr_zretE d_Me_isAround_25 rfl (by decide) (by unfold aro; simp [bi, nI_0, nI_one, show ¬ fr i ≤ pc by omega]) (rfl) (by decide) (by decide)
  · refine jr_iload_n d_Me_isAround_10 rfl ?_
    refine jr_aload_n d_Me_isAround_11 rfl ?_
    refine jr_getf d_Me_isAround_12 f_Me_isAround_25 hM rfl ?_
    refine jr_iload_n d_Me_isAround_15 rfl ?_
    refine jr_ialdN d_Me_isAround_16 g4 (by omega) (by omega) ?_
    refine jr_icmp_geN 24 d_Me_isAround_17 (by decide) (by omega) (by omega) (fun c2 => ?_) (fun c2 => ?_)
    · refine jr_iconst ((nI (0))) d_Me_isAround_24 (by decide) ?_
      exact jr_zretE d_Me_isAround_25 rfl (by decide) (by unfold aro; simp [bi, nI_0, nI_one, show fr i ≤ pc by omega, show ¬ pc < tt i by omega]) (rfl) (by decide) (by decide)
    · refine jr_iconst ((nI (1))) d_Me_isAround_20 (by decide) ?_
      refine jr_goto 25 d_Me_isAround_21 (by decide) ?_
      exact jr_zretE d_Me_isAround_25 rfl (by decide) (by unfold aro; simp [bi, nI_0, nI_one, show fr i ≤ pc by omega, show pc < tt i by omega]) (rfl) (by decide) (by decide)
theorem d_Me_hasMap_0 : decode m_Me_hasMap.2.1 0 = .ok (.aload_n 0, 1) := by decide +kernel
theorem f_Me_hasMap_37 : jl_fd m_Me_hasMap 37 2 11 = true := by decide +kernel
theorem d_Me_hasMap_1 : decode m_Me_hasMap.2.1 1 = .ok (.getfield 37, 3) := by decide +kernel
theorem d_Me_hasMap_4 : decode m_Me_hasMap.2.1 4 = .ok (.iload_n 1, 1) := by decide +kernel
theorem d_Me_hasMap_5 : decode m_Me_hasMap.2.1 5 = .ok (.bipush 12, 2) := by decide +kernel
theorem d_Me_hasMap_7 : decode m_Me_hasMap.2.1 7 = .ok (.imul, 1) := by decide +kernel
theorem d_Me_hasMap_8 : decode m_Me_hasMap.2.1 8 = .ok (.bipush 6, 2) := by decide +kernel
theorem d_Me_hasMap_10 : decode m_Me_hasMap.2.1 10 = .ok (.iadd, 1) := by decide +kernel
theorem d_Me_hasMap_11 : decode m_Me_hasMap.2.1 11 = .ok (.iaload, 1) := by decide +kernel
theorem d_Me_hasMap_12 : decode m_Me_hasMap.2.1 12 = .ok (.bipush (-2), 2) := by decide +kernel
theorem d_Me_hasMap_14 : decode m_Me_hasMap.2.1 14 = .ok (.if_icmp .eq 7, 3) := by decide +kernel
theorem d_Me_hasMap_21 : decode m_Me_hasMap.2.1 21 = .ok (.iconst 0, 1) := by decide +kernel
theorem d_Me_hasMap_22 : decode m_Me_hasMap.2.1 22 = .ok (.ireturn, 1) := by decide +kernel
theorem d_Me_hasMap_17 : decode m_Me_hasMap.2.1 17 = .ok (.iconst 1, 1) := by decide +kernel
theorem d_Me_hasMap_18 : decode m_Me_hasMap.2.1 18 = .ok (.goto 4, 3) := by decide +kernel
theorem me_hasMap (hl : l.stackTraces = false) {pc : Nat} (hm : MeAt σ a q1 q2 rs op ag sz fr tt tg kd nc mp fh) (hpc : pc < 24) : jl_m l G m_Me_hasMap [.ref a, .int (nI pc)] σ (.inl (some (.int (bi (decide (¬ mp (pc * 12 + 6) = -2)))))) (σ) := by
  obtain ⟨hM, g1, g2, g3, g4, g5, g6, g7, g8⟩ := id hm
  refine jl_of (as := [.ref a, .int (nI pc)]) rfl (by decide) hl (jl_cc rfl (jl_cc rfl jl_ca)) (Nat.le_of_ble_eq_true rfl) ?_
  show jl_W l G m_Me_hasMap (0, 0) 0 [some (.ref a), some (.int (nI pc))] [] (σ) (.inl (some (.int (bi (decide (¬ mp (pc * 12 + 6) = -2)))))) (σ)
  refine jr_aload_n d_Me_hasMap_0 rfl ?_
  refine jr_getf d_Me_hasMap_1 f_Me_hasMap_37 hM rfl ?_
  refine jr_iload_n d_Me_hasMap_4 rfl ?_
  refine jr_bipush ((nI (12))) d_Me_hasMap_5 (by decide) ?_
  refine jr_imulN d_Me_hasMap_7 ?_
  refine jr_bipush ((nI (6))) d_Me_hasMap_8 (by decide) ?_
  refine jr_iaddN d_Me_hasMap_10 ?_
  refine jr_ialdN d_Me_hasMap_11 g7 (by omega) (by omega) ?_
  refine jr_bipush ((-2)) d_Me_hasMap_12 (by decide) ?_
  refine jr_icmp_eq 21 d_Me_hasMap_14 (by decide) (fun c1 => ?_) (fun c1 => ?_)
  · refine jr_iconst ((nI (0))) d_Me_hasMap_21 (by decide) ?_
    exact jr_zretE d_Me_hasMap_22 rfl (by decide) (by rw [bi_f (decide_eq_false (fun q => q c1))]; rfl) (rfl) (by decide) (by decide)
  · refine jr_iconst ((nI (1))) d_Me_hasMap_17 (by decide) ?_
    refine jr_goto 22 d_Me_hasMap_18 (by decide) ?_
    exact jr_zretE d_Me_hasMap_22 rfl (by decide) (by rw [bi_t (decide_eq_true c1)]; rfl) (rfl) (by decide) (by decide)
theorem d_Me_leastFresh_2 : decode m_Me_leastFresh.2.1 2 = .ok (.iload_n 1, 1) := by decide +kernel
theorem d_Me_leastFresh_3 : decode m_Me_leastFresh.2.1 3 = .ok (.bipush 24, 2) := by decide +kernel
theorem d_Me_leastFresh_5 : decode m_Me_leastFresh.2.1 5 = .ok (.if_icmp .ge 20, 3) := by decide +kernel
theorem d_Me_leastFresh_25 : decode m_Me_leastFresh.2.1 25 = .ok (.iconst (-1), 1) := by decide +kernel
theorem d_Me_leastFresh_26 : decode m_Me_leastFresh.2.1 26 = .ok (.ireturn, 1) := by decide +kernel
theorem d_Me_leastFresh_8 : decode m_Me_leastFresh.2.1 8 = .ok (.aload_n 0, 1) := by decide +kernel
theorem f_Me_leastFresh_40 : jl_fd m_Me_leastFresh 40 2 12 = true := by decide +kernel
theorem d_Me_leastFresh_9 : decode m_Me_leastFresh.2.1 9 = .ok (.getfield 40, 3) := by decide +kernel
theorem d_Me_leastFresh_12 : decode m_Me_leastFresh.2.1 12 = .ok (.iload_n 1, 1) := by decide +kernel
theorem d_Me_leastFresh_13 : decode m_Me_leastFresh.2.1 13 = .ok (.baload, 1) := by decide +kernel
theorem d_Me_leastFresh_14 : decode m_Me_leastFresh.2.1 14 = .ok (.ifCond .eq 5, 3) := by decide +kernel
theorem d_Me_leastFresh_19 : decode m_Me_leastFresh.2.1 19 = .ok (.iinc 1 1, 3) := by decide +kernel
theorem d_Me_leastFresh_22 : decode m_Me_leastFresh.2.1 22 = .ok (.goto (-20), 3) := by decide +kernel
theorem d_Me_leastFresh_17 : decode m_Me_leastFresh.2.1 17 = .ok (.iload_n 1, 1) := by decide +kernel
theorem d_Me_leastFresh_18 : decode m_Me_leastFresh.2.1 18 = .ok (.ireturn, 1) := by decide +kernel
theorem me_least_loop (hl : l.stackTraces = false)  (hm : MeAt σ a q1 q2 rs op ag sz fr tt tg kd nc mp fh) : ∀ (nn : Nat) (i : Nat), 24 - i < nn → i ≤ 24 → jl_W l G m_Me_leastFresh (0, 0) 2 [some (.ref a), some (.int (nI i))] [] σ (.inl (some (.int (en (lfr fh (24 - i) i))))) (σ) := by
  intro nn
  induction nn with
  | zero => intro i hnn; exact absurd hnn (Nat.not_lt_zero _)
  | succ nn ihn =>
    intro i hnn hi
    obtain ⟨hM, g1, g2, g3, g4, g5, g6, g7, g8⟩ := id hm
    refine jr_iload_n d_Me_leastFresh_2 rfl ?_
    refine jr_bipush ((nI (24))) d_Me_leastFresh_3 (by decide) ?_
    refine jr_icmp_geN 25 d_Me_leastFresh_5 (by decide) (by omega) (by omega) (fun c1 => ?_) (fun c1 => ?_)
    · refine jr_iconst ((-1)) d_Me_leastFresh_25 (by decide) ?_
      exact jr_iretE d_Me_leastFresh_26 rfl (by rw [show 24 - i = 0 by omega]; rfl) (rfl) (by decide) (by decide)
    · refine jr_aload_n d_Me_leastFresh_8 rfl ?_
      refine jr_getf d_Me_leastFresh_9 f_Me_leastFresh_40 hM rfl ?_
      refine jr_iload_n d_Me_leastFresh_12 rfl ?_
      refine jr_baldN d_Me_leastFresh_13 g8 (by omega) (by omega) ?_
      refine jr_if_eq 19 d_Me_leastFresh_14 (by decide) (fun c2 => ?_) (fun c2 => ?_)
      · refine jr_iinc ((nI (i + 1))) d_Me_leastFresh_19 (by decide) rfl (jl_inc _) ?_
        show jl_W l G m_Me_leastFresh (0, 0) 22 [some (.ref a), some (.int (nI (i + 1)))] [] (σ) (.inl (some (.int (en (lfr fh (24 - i) i))))) (σ)
        refine jr_goto 2 d_Me_leastFresh_22 (by decide) ?_
        exact jl_oeq (by rw [show 24 - i = (24 - (i + 1)) + 1 by omega]; simp only [lfr]; rw [bi_0.mp c2]; rfl) (ihn (i + 1) (by omega) (by omega))
      · refine jr_iload_n d_Me_leastFresh_17 rfl ?_
        exact jr_iretE d_Me_leastFresh_18 rfl (by rw [show 24 - i = (24 - (i + 1)) + 1 by omega]; simp only [lfr]; rw [bi_nf c2]; rfl) (rfl) (by decide) (by decide)
theorem d_Me_leastFresh_0 : decode m_Me_leastFresh.2.1 0 = .ok (.iconst 0, 1) := by decide +kernel
theorem d_Me_leastFresh_1 : decode m_Me_leastFresh.2.1 1 = .ok (.istore_n 1, 1) := by decide +kernel
theorem me_least (hl : l.stackTraces = false)  (hm : MeAt σ a q1 q2 rs op ag sz fr tt tg kd nc mp fh)  : jl_m l G m_Me_leastFresh [.ref a] σ (.inl (some (.int (en (lfr fh 24 0))))) (σ) := by
  obtain ⟨hM, g1, g2, g3, g4, g5, g6, g7, g8⟩ := id hm
  refine jl_of (as := [.ref a]) rfl (by decide) hl (jl_cc rfl jl_ca) (Nat.le_of_ble_eq_true rfl) ?_
  show jl_W l G m_Me_leastFresh (0, 0) 0 [some (.ref a), none] [] (σ) (.inl (some (.int (en (lfr fh 24 0))))) (σ)
  refine jr_iconst ((nI (0))) d_Me_leastFresh_0 (by decide) ?_
  refine jr_istore_n d_Me_leastFresh_1 (by decide) ?_
  show jl_W l G m_Me_leastFresh (0, 0) 2 [some (.ref a), some (.int (nI 0))] [] (σ) (.inl (some (.int (en (lfr fh 24 0))))) (σ)
  exact me_least_loop hl hm 25 0 (by omega) (by omega)
theorem d_Me_forgetMaps_2 : decode m_Me_forgetMaps.2.1 2 = .ok (.iload_n 1, 1) := by decide +kernel
theorem d_Me_forgetMaps_3 : decode m_Me_forgetMaps.2.1 3 = .ok (.bipush 24, 2) := by decide +kernel
theorem d_Me_forgetMaps_5 : decode m_Me_forgetMaps.2.1 5 = .ok (.if_icmp .ge 30, 3) := by decide +kernel
theorem d_Me_forgetMaps_35 : decode m_Me_forgetMaps.2.1 35 = .ok (.return_, 1) := by decide +kernel
theorem d_Me_forgetMaps_8 : decode m_Me_forgetMaps.2.1 8 = .ok (.aload_n 0, 1) := by decide +kernel
theorem f_Me_forgetMaps_37 : jl_fd m_Me_forgetMaps 37 2 11 = true := by decide +kernel
theorem d_Me_forgetMaps_9 : decode m_Me_forgetMaps.2.1 9 = .ok (.getfield 37, 3) := by decide +kernel
theorem d_Me_forgetMaps_12 : decode m_Me_forgetMaps.2.1 12 = .ok (.iload_n 1, 1) := by decide +kernel
theorem d_Me_forgetMaps_13 : decode m_Me_forgetMaps.2.1 13 = .ok (.bipush 12, 2) := by decide +kernel
theorem d_Me_forgetMaps_15 : decode m_Me_forgetMaps.2.1 15 = .ok (.imul, 1) := by decide +kernel
theorem d_Me_forgetMaps_16 : decode m_Me_forgetMaps.2.1 16 = .ok (.bipush 6, 2) := by decide +kernel
theorem d_Me_forgetMaps_18 : decode m_Me_forgetMaps.2.1 18 = .ok (.iadd, 1) := by decide +kernel
theorem d_Me_forgetMaps_19 : decode m_Me_forgetMaps.2.1 19 = .ok (.bipush (-2), 2) := by decide +kernel
theorem d_Me_forgetMaps_21 : decode m_Me_forgetMaps.2.1 21 = .ok (.iastore, 1) := by decide +kernel
theorem d_Me_forgetMaps_22 : decode m_Me_forgetMaps.2.1 22 = .ok (.aload_n 0, 1) := by decide +kernel
theorem f_Me_forgetMaps_40 : jl_fd m_Me_forgetMaps 40 2 12 = true := by decide +kernel
theorem d_Me_forgetMaps_23 : decode m_Me_forgetMaps.2.1 23 = .ok (.getfield 40, 3) := by decide +kernel
theorem d_Me_forgetMaps_26 : decode m_Me_forgetMaps.2.1 26 = .ok (.iload_n 1, 1) := by decide +kernel
theorem d_Me_forgetMaps_27 : decode m_Me_forgetMaps.2.1 27 = .ok (.iconst 0, 1) := by decide +kernel
theorem d_Me_forgetMaps_28 : decode m_Me_forgetMaps.2.1 28 = .ok (.bastore, 1) := by decide +kernel
theorem d_Me_forgetMaps_29 : decode m_Me_forgetMaps.2.1 29 = .ok (.iinc 1 1, 3) := by decide +kernel
theorem d_Me_forgetMaps_32 : decode m_Me_forgetMaps.2.1 32 = .ok (.goto (-30), 3) := by decide +kernel
theorem me_forget_loop (hl : l.stackTraces = false)   : ∀ (nn : Nat) (i : Nat) (σ : jl_S) (mp : Nat → Int32) (fh : Nat → Bool), 24 - i < nn → i ≤ 24 → MeAt σ a q1 q2 rs op ag sz fr tt tg kd nc mp fh → jl_W l G m_Me_forgetMaps (0, 0) 2 [some (.ref a), some (.int (nI i))] [] σ (.inl none) ((σ.set (a + 7) (.inl (0, 288, .inl (fgM (24 - i) i mp)))).set (a + 8) (.inl (1, 24, .inl fun j => bi (fgF (24 - i) i fh j)))) := by
  intro nn
  induction nn with
  | zero => intro i σ mp fh hnn; exact absurd hnn (Nat.not_lt_zero _)
  | succ nn ihn =>
    intro i σ mp fh hnn hi hm
    obtain ⟨hM, g1, g2, g3, g4, g5, g6, g7, g8⟩ := id hm
    refine jr_iload_n d_Me_forgetMaps_2 rfl ?_
    refine jr_bipush ((nI (24))) d_Me_forgetMaps_3 (by decide) ?_
    refine jr_icmp_geN 35 d_Me_forgetMaps_5 (by decide) (by omega) (by omega) (fun c1 => ?_) (fun c1 => ?_)
    · exact jr_vretE d_Me_forgetMaps_35 rfl (rfl) (by rw [show 24 - i = 0 by omega]; exact jl_id2 g7 g8) (by decide) (by decide)
    · refine jr_aload_n d_Me_forgetMaps_8 rfl ?_
      refine jr_getf d_Me_forgetMaps_9 f_Me_forgetMaps_37 hM rfl ?_
      refine jr_iload_n d_Me_forgetMaps_12 rfl ?_
      refine jr_bipush ((nI (12))) d_Me_forgetMaps_13 (by decide) ?_
      refine jr_imulN d_Me_forgetMaps_15 ?_
      refine jr_bipush ((nI (6))) d_Me_forgetMaps_16 (by decide) ?_
      refine jr_iaddN d_Me_forgetMaps_18 ?_
      refine jr_bipush ((-2)) d_Me_forgetMaps_19 (by decide) ?_
      refine jr_iastN d_Me_forgetMaps_21 g7 (by omega) (by omega) ?_
      show jl_W l G m_Me_forgetMaps (0, 0) 22 [some (.ref a), some (.int (nI i))] [] (σ.set (a + 7) (.inl (0, 288, .inl (upd (mp) (((i) * (12)) + (6)) ((-2)))))) (.inl none) ((σ.set (a + 7) (.inl (0, 288, .inl (fgM (24 - i) i mp)))).set (a + 8) (.inl (1, 24, .inl fun j => bi (fgF (24 - i) i fh j))))
      refine jr_aload_n d_Me_forgetMaps_22 rfl ?_
      refine jr_getf d_Me_forgetMaps_23 f_Me_forgetMaps_40 (jl_sn (by omega) hM) rfl ?_
      refine jr_iload_n d_Me_forgetMaps_26 rfl ?_
      refine jr_iconst ((nI (0))) d_Me_forgetMaps_27 (by decide) ?_
      refine jr_bastN d_Me_forgetMaps_28 (jl_sn (by omega) g8) (by omega) (by omega) (by decide) ?_
      rw [show upd (fun j => bi (fh j)) (i) ((nI (0))) = (fun j => bi ((va_up fh (i) (false)) j)) from bi_up fh (i) (false)]
      show jl_W l G m_Me_forgetMaps (0, 0) 29 [some (.ref a), some (.int (nI i))] [] ((σ.set (a + 7) (.inl (0, 288, .inl (upd (mp) (((i) * (12)) + (6)) ((-2)))))).set (a + 8) (.inl (1, 24, .inl (fun j => bi ((va_up fh (i) (false)) j))))) (.inl none) ((σ.set (a + 7) (.inl (0, 288, .inl (fgM (24 - i) i mp)))).set (a + 8) (.inl (1, 24, .inl fun j => bi (fgF (24 - i) i fh j))))
      refine jr_iinc ((nI (i + 1))) d_Me_forgetMaps_29 (by decide) rfl (jl_inc _) ?_
      show jl_W l G m_Me_forgetMaps (0, 0) 32 [some (.ref a), some (.int (nI (i + 1)))] [] ((σ.set (a + 7) (.inl (0, 288, .inl (upd (mp) (((i) * (12)) + (6)) ((-2)))))).set (a + 8) (.inl (1, 24, .inl (fun j => bi ((va_up fh (i) (false)) j))))) (.inl none) ((σ.set (a + 7) (.inl (0, 288, .inl (fgM (24 - i) i mp)))).set (a + 8) (.inl (1, 24, .inl fun j => bi (fgF (24 - i) i fh j))))
      refine jr_goto 2 d_Me_forgetMaps_32 (by decide) ?_
      exact jl_seq (by rw [show 24 - i = (24 - (i + 1)) + 1 by omega]; exact (jl_s2 (by omega)).symm) (ihn (i + 1) _ (upd mp (i * 12 + 6) (-2)) (va_up fh i false) (by omega) (by omega) (MeAt.s78 hm))
theorem d_Me_forgetMaps_0 : decode m_Me_forgetMaps.2.1 0 = .ok (.iconst 0, 1) := by decide +kernel
theorem d_Me_forgetMaps_1 : decode m_Me_forgetMaps.2.1 1 = .ok (.istore_n 1, 1) := by decide +kernel
theorem me_forget (hl : l.stackTraces = false)  (hm : MeAt σ a q1 q2 rs op ag sz fr tt tg kd nc mp fh)  : jl_m l G m_Me_forgetMaps [.ref a] σ (.inl none) ((σ.set (a + 7) (.inl (0, 288, .inl (fgM 24 0 mp)))).set (a + 8) (.inl (1, 24, .inl fun j => bi (fgF 24 0 fh j)))) := by
  obtain ⟨hM, g1, g2, g3, g4, g5, g6, g7, g8⟩ := id hm
  refine jl_of (as := [.ref a]) rfl (by decide) hl (jl_cc rfl jl_ca) (Nat.le_of_ble_eq_true rfl) ?_
  show jl_W l G m_Me_forgetMaps (0, 0) 0 [some (.ref a), none] [] (σ) (.inl none) ((σ.set (a + 7) (.inl (0, 288, .inl (fgM 24 0 mp)))).set (a + 8) (.inl (1, 24, .inl fun j => bi (fgF 24 0 fh j))))
  refine jr_iconst ((nI (0))) d_Me_forgetMaps_0 (by decide) ?_
  refine jr_istore_n d_Me_forgetMaps_1 (by decide) ?_
  show jl_W l G m_Me_forgetMaps (0, 0) 2 [some (.ref a), some (.int (nI 0))] [] (σ) (.inl none) ((σ.set (a + 7) (.inl (0, 288, .inl (fgM 24 0 mp)))).set (a + 8) (.inl (1, 24, .inl fun j => bi (fgF 24 0 fh j))))
  exact me_forget_loop hl 25 0 σ mp fh (by omega) (by omega) hm
end JMe
