/-! fault, outcome, heap: class (wip/gen/p46.py) -/
section JRd
variable {l : Launch} {G : jl_G} {σ : jl_S} {tb : Nat → Bool} {pr : Nat → Option Nat} {ow fi ft : Nat → Nat} {mt : Nat → Option Nat} {vf : Bool} {a : Nat} {q1 q2 : Option Nat} {rs : Nat} {op : Nat → Nat} {ag : Nat → Int32} {sz : Nat} {fr tt tg kd : Nat → Nat} {nc : Nat} {mp : Nat → Int32} {fh : Nat → Bool} {wr wz tp su dt dq aw : Int32} {ss : Nat → Nat} {sy : Nat → Option Nat} {sv : Nat → Int32} {sm : Nat}
theorem d_JC_fault_0 : decode m_JC_fault.2.1 0 = .ok (.iload_n 1, 1) := by decide +kernel
theorem d_JC_fault_1 : decode m_JC_fault.2.1 1 = .ok (.ifCond .eq 13, 3) := by decide +kernel
theorem d_JC_fault_14 : decode m_JC_fault.2.1 14 = .ok (.aload_n 0, 1) := by decide +kernel
theorem f_JC_fault_26 : jl_fd m_JC_fault 26 6 1 = true := by decide +kernel
theorem d_JC_fault_15 : decode m_JC_fault.2.1 15 = .ok (.getfield 26, 3) := by decide +kernel
theorem f_JC_fault_138 : jl_fd m_JC_fault 138 4 5 = true := by decide +kernel
theorem d_JC_fault_18 : decode m_JC_fault.2.1 18 = .ok (.getfield 138, 3) := by decide +kernel
theorem d_JC_fault_21 : decode m_JC_fault.2.1 21 = .ok (.ireturn, 1) := by decide +kernel
theorem d_JC_fault_4 : decode m_JC_fault.2.1 4 = .ok (.aload_n 0, 1) := by decide +kernel
theorem d_JC_fault_5 : decode m_JC_fault.2.1 5 = .ok (.getfield 26, 3) := by decide +kernel
theorem f_JC_fault_135 : jl_fd m_JC_fault 135 4 6 = true := by decide +kernel
theorem d_JC_fault_8 : decode m_JC_fault.2.1 8 = .ok (.getfield 135, 3) := by decide +kernel
theorem d_JC_fault_11 : decode m_JC_fault.2.1 11 = .ok (.goto 10, 3) := by decide +kernel
theorem jc_fault (hl : l.stackTraces = false) {b : Int32} (hj : JcAt σ vf) (hV : VeAt σ wr wz)  : jl_m l G m_JC_fault [.ref 0, .int (b)] σ (.inl (some (.int (if b = 0 then wr else wz)))) (σ) := by
  have h0 := hj
  refine jl_of (as := [.ref 0, .int (b)]) rfl (by decide) hl (jl_cc rfl (jl_cc rfl jl_ca)) (Nat.le_of_ble_eq_true rfl) ?_
  show jl_W l G m_JC_fault (0, 0) 0 [some (.ref 0), some (.int (b))] [] (σ) (.inl (some (.int (if b = 0 then wr else wz)))) (σ)
  refine jr_iload_n d_JC_fault_0 rfl ?_
  refine jr_if_eq 14 d_JC_fault_1 (by decide) (fun c1 => ?_) (fun c1 => ?_)
  · refine jr_aload_n d_JC_fault_14 rfl ?_
    refine jr_getf d_JC_fault_15 f_JC_fault_26 h0 rfl ?_
    refine jr_getf d_JC_fault_18 f_JC_fault_138 hV rfl ?_
    exact jr_iretE d_JC_fault_21 rfl (by rw [if_pos c1]) (rfl) (by decide) (by decide)
  · refine jr_aload_n d_JC_fault_4 rfl ?_
    refine jr_getf d_JC_fault_5 f_JC_fault_26 h0 rfl ?_
    refine jr_getf d_JC_fault_8 f_JC_fault_135 hV rfl ?_
    refine jr_goto 21 d_JC_fault_11 (by decide) ?_
    exact jr_iretE d_JC_fault_21 rfl (by rw [if_neg c1]) (rfl) (by decide) (by decide)
theorem d_JC_outcome_0 : decode m_JC_outcome.2.1 0 = .ok (.iload_n 1, 1) := by decide +kernel
theorem d_JC_outcome_1 : decode m_JC_outcome.2.1 1 = .ok (.iconst 0, 1) := by decide +kernel
theorem d_JC_outcome_2 : decode m_JC_outcome.2.1 2 = .ok (.iconst 3, 1) := by decide +kernel
theorem k_JC_outcome_41 : jl_cz m_JC_outcome m_JC_needRange 41 3 = true := by decide +kernel
theorem d_JC_outcome_3 : decode m_JC_outcome.2.1 3 = .ok (.invokestatic 41, 3) := by decide +kernel
theorem jc_outc_A (hl : l.stackTraces = false) {w : Int32} (hj : JcAt σ vf) (hX : MaAt σ tp su dt dq aw) (hS : StAt σ ss sy sv sm) (h : w < nI 0 ∨ nI 3 < w) : jl_m l G m_JC_outcome [.ref 0, .int (w)] σ (.inr xA) (σ) := by
  have h0 := hj; obtain ⟨s0, s1, s2, s3⟩ := id hS
  refine jl_of (as := [.ref 0, .int (w)]) rfl (by decide) hl (jl_cc rfl (jl_cc rfl jl_ca)) (Nat.le_of_ble_eq_true rfl) ?_
  show jl_W l G m_JC_outcome (0, 0) 0 [some (.ref 0), some (.int (w))] [] (σ) (.inr xA) (σ)
  refine jr_iload_n d_JC_outcome_0 rfl ?_
  refine jr_iconst ((nI (0))) d_JC_outcome_1 (by decide) ?_
  refine jr_iconst ((nI (3))) d_JC_outcome_2 (by decide) ?_
  exact jl_oeq (rfl) (jl_seq (rfl) (jr_callSX (As := [.int (w), .int (nI 0), .int (nI 3)]) d_JC_outcome_3 k_JC_outcome_41 rfl rfl (Nat.le_of_ble_eq_true rfl) (by decide) (by decide) (jc_rangeX hl h)))
theorem d_JC_outcome_6 : decode m_JC_outcome.2.1 6 = .ok (.iload_n 1, 1) := by decide +kernel
theorem d_JC_outcome_7 : decode m_JC_outcome.2.1 7 = .ok (.tableswitch 49 0 2 #[25, 33, 41], 25) := by decide +kernel
theorem d_JC_outcome_32 : decode m_JC_outcome.2.1 32 = .ok (.aload_n 0, 1) := by decide +kernel
theorem f_JC_outcome_33 : jl_fd m_JC_outcome 33 6 2 = true := by decide +kernel
theorem d_JC_outcome_33 : decode m_JC_outcome.2.1 33 = .ok (.getfield 33, 3) := by decide +kernel
theorem f_JC_outcome_155 : jl_fd m_JC_outcome 155 1 8 = true := by decide +kernel
theorem d_JC_outcome_36 : decode m_JC_outcome.2.1 36 = .ok (.getfield 155, 3) := by decide +kernel
theorem d_JC_outcome_39 : decode m_JC_outcome.2.1 39 = .ok (.ireturn, 1) := by decide +kernel
theorem jc_outc_0 (hl : l.stackTraces = false)  (hj : JcAt σ vf) (hX : MaAt σ tp su dt dq aw) (hS : StAt σ ss sy sv sm)  : jl_m l G m_JC_outcome [.ref 0, .int (nI 0)] σ (.inl (some (.int (su)))) (σ) := by
  have h0 := hj; obtain ⟨s0, s1, s2, s3⟩ := id hS
  refine jl_of (as := [.ref 0, .int (nI 0)]) rfl (by decide) hl (jl_cc rfl (jl_cc rfl jl_ca)) (Nat.le_of_ble_eq_true rfl) ?_
  show jl_W l G m_JC_outcome (0, 0) 0 [some (.ref 0), some (.int (nI 0))] [] (σ) (.inl (some (.int (su)))) (σ)
  refine jr_iload_n d_JC_outcome_0 rfl ?_
  refine jr_iconst ((nI (0))) d_JC_outcome_1 (by decide) ?_
  refine jr_iconst ((nI (3))) d_JC_outcome_2 (by decide) ?_
  refine jr_callS (As := [.int (nI 0), .int (nI 0), .int (nI 3)]) d_JC_outcome_3 k_JC_outcome_41 rfl (Nat.le_of_ble_eq_true rfl) (by decide) (by decide) (jc_range hl (rg_ok (by omega) (by decide))) ?_
  show jl_W l G m_JC_outcome (1, 6) 6 [some (.ref 0), some (.int (nI 0))] [] (σ) (.inl (some (.int (su)))) (σ)
  refine jr_iload_n d_JC_outcome_6 rfl ?_
  refine jr_tableIn (off := 25) 32 d_JC_outcome_7 (by decide +kernel) (by decide +kernel) (by decide +kernel) (by decide) ?_
  refine jr_aload_n d_JC_outcome_32 rfl ?_
  refine jr_getf d_JC_outcome_33 f_JC_outcome_33 h0 rfl ?_
  refine jr_getf d_JC_outcome_36 f_JC_outcome_155 hX rfl ?_
  exact jr_iretE d_JC_outcome_39 rfl (rfl) (rfl) (by decide) (by decide)
theorem d_JC_outcome_40 : decode m_JC_outcome.2.1 40 = .ok (.aload_n 0, 1) := by decide +kernel
theorem d_JC_outcome_41 : decode m_JC_outcome.2.1 41 = .ok (.getfield 33, 3) := by decide +kernel
theorem f_JC_outcome_161 : jl_fd m_JC_outcome 161 1 9 = true := by decide +kernel
theorem d_JC_outcome_44 : decode m_JC_outcome.2.1 44 = .ok (.getfield 161, 3) := by decide +kernel
theorem d_JC_outcome_47 : decode m_JC_outcome.2.1 47 = .ok (.ireturn, 1) := by decide +kernel
theorem jc_outc_1 (hl : l.stackTraces = false)  (hj : JcAt σ vf) (hX : MaAt σ tp su dt dq aw) (hS : StAt σ ss sy sv sm)  : jl_m l G m_JC_outcome [.ref 0, .int (nI 1)] σ (.inl (some (.int (dt)))) (σ) := by
  have h0 := hj; obtain ⟨s0, s1, s2, s3⟩ := id hS
  refine jl_of (as := [.ref 0, .int (nI 1)]) rfl (by decide) hl (jl_cc rfl (jl_cc rfl jl_ca)) (Nat.le_of_ble_eq_true rfl) ?_
  show jl_W l G m_JC_outcome (0, 0) 0 [some (.ref 0), some (.int (nI 1))] [] (σ) (.inl (some (.int (dt)))) (σ)
  refine jr_iload_n d_JC_outcome_0 rfl ?_
  refine jr_iconst ((nI (0))) d_JC_outcome_1 (by decide) ?_
  refine jr_iconst ((nI (3))) d_JC_outcome_2 (by decide) ?_
  refine jr_callS (As := [.int (nI 1), .int (nI 0), .int (nI 3)]) d_JC_outcome_3 k_JC_outcome_41 rfl (Nat.le_of_ble_eq_true rfl) (by decide) (by decide) (jc_range hl (rg_ok (by omega) (by decide))) ?_
  show jl_W l G m_JC_outcome (1, 6) 6 [some (.ref 0), some (.int (nI 1))] [] (σ) (.inl (some (.int (dt)))) (σ)
  refine jr_iload_n d_JC_outcome_6 rfl ?_
  refine jr_tableIn (off := 33) 40 d_JC_outcome_7 (by decide +kernel) (by decide +kernel) (by decide +kernel) (by decide) ?_
  refine jr_aload_n d_JC_outcome_40 rfl ?_
  refine jr_getf d_JC_outcome_41 f_JC_outcome_33 h0 rfl ?_
  refine jr_getf d_JC_outcome_44 f_JC_outcome_161 hX rfl ?_
  exact jr_iretE d_JC_outcome_47 rfl (rfl) (rfl) (by decide) (by decide)
theorem d_JC_outcome_48 : decode m_JC_outcome.2.1 48 = .ok (.aload_n 0, 1) := by decide +kernel
theorem d_JC_outcome_49 : decode m_JC_outcome.2.1 49 = .ok (.getfield 33, 3) := by decide +kernel
theorem f_JC_outcome_164 : jl_fd m_JC_outcome 164 1 10 = true := by decide +kernel
theorem d_JC_outcome_52 : decode m_JC_outcome.2.1 52 = .ok (.getfield 164, 3) := by decide +kernel
theorem d_JC_outcome_55 : decode m_JC_outcome.2.1 55 = .ok (.ireturn, 1) := by decide +kernel
theorem jc_outc_2 (hl : l.stackTraces = false)  (hj : JcAt σ vf) (hX : MaAt σ tp su dt dq aw) (hS : StAt σ ss sy sv sm)  : jl_m l G m_JC_outcome [.ref 0, .int (nI 2)] σ (.inl (some (.int (dq)))) (σ) := by
  have h0 := hj; obtain ⟨s0, s1, s2, s3⟩ := id hS
  refine jl_of (as := [.ref 0, .int (nI 2)]) rfl (by decide) hl (jl_cc rfl (jl_cc rfl jl_ca)) (Nat.le_of_ble_eq_true rfl) ?_
  show jl_W l G m_JC_outcome (0, 0) 0 [some (.ref 0), some (.int (nI 2))] [] (σ) (.inl (some (.int (dq)))) (σ)
  refine jr_iload_n d_JC_outcome_0 rfl ?_
  refine jr_iconst ((nI (0))) d_JC_outcome_1 (by decide) ?_
  refine jr_iconst ((nI (3))) d_JC_outcome_2 (by decide) ?_
  refine jr_callS (As := [.int (nI 2), .int (nI 0), .int (nI 3)]) d_JC_outcome_3 k_JC_outcome_41 rfl (Nat.le_of_ble_eq_true rfl) (by decide) (by decide) (jc_range hl (rg_ok (by omega) (by decide))) ?_
  show jl_W l G m_JC_outcome (1, 6) 6 [some (.ref 0), some (.int (nI 2))] [] (σ) (.inl (some (.int (dq)))) (σ)
  refine jr_iload_n d_JC_outcome_6 rfl ?_
  refine jr_tableIn (off := 41) 48 d_JC_outcome_7 (by decide +kernel) (by decide +kernel) (by decide +kernel) (by decide) ?_
  refine jr_aload_n d_JC_outcome_48 rfl ?_
  refine jr_getf d_JC_outcome_49 f_JC_outcome_33 h0 rfl ?_
  refine jr_getf d_JC_outcome_52 f_JC_outcome_164 hX rfl ?_
  exact jr_iretE d_JC_outcome_55 rfl (rfl) (rfl) (by decide) (by decide)
theorem d_JC_outcome_56 : decode m_JC_outcome.2.1 56 = .ok (.aload_n 0, 1) := by decide +kernel
theorem d_JC_outcome_57 : decode m_JC_outcome.2.1 57 = .ok (.getfield 33, 3) := by decide +kernel
theorem f_JC_outcome_167 : jl_fd m_JC_outcome 167 1 2 = true := by decide +kernel
theorem d_JC_outcome_60 : decode m_JC_outcome.2.1 60 = .ok (.getfield 167, 3) := by decide +kernel
theorem f_JC_outcome_171 : jl_fd m_JC_outcome 171 3 3 = true := by decide +kernel
theorem d_JC_outcome_63 : decode m_JC_outcome.2.1 63 = .ok (.getfield 171, 3) := by decide +kernel
theorem d_JC_outcome_66 : decode m_JC_outcome.2.1 66 = .ok (.ireturn, 1) := by decide +kernel
theorem jc_outc_3 (hl : l.stackTraces = false)  (hj : JcAt σ vf) (hX : MaAt σ tp su dt dq aw) (hS : StAt σ ss sy sv sm)  : jl_m l G m_JC_outcome [.ref 0, .int (nI 3)] σ (.inl (some (.int (nI sm)))) (σ) := by
  have h0 := hj; obtain ⟨s0, s1, s2, s3⟩ := id hS
  refine jl_of (as := [.ref 0, .int (nI 3)]) rfl (by decide) hl (jl_cc rfl (jl_cc rfl jl_ca)) (Nat.le_of_ble_eq_true rfl) ?_
  show jl_W l G m_JC_outcome (0, 0) 0 [some (.ref 0), some (.int (nI 3))] [] (σ) (.inl (some (.int (nI sm)))) (σ)
  refine jr_iload_n d_JC_outcome_0 rfl ?_
  refine jr_iconst ((nI (0))) d_JC_outcome_1 (by decide) ?_
  refine jr_iconst ((nI (3))) d_JC_outcome_2 (by decide) ?_
  refine jr_callS (As := [.int (nI 3), .int (nI 0), .int (nI 3)]) d_JC_outcome_3 k_JC_outcome_41 rfl (Nat.le_of_ble_eq_true rfl) (by decide) (by decide) (jc_range hl (rg_ok (by omega) (by decide))) ?_
  show jl_W l G m_JC_outcome (1, 6) 6 [some (.ref 0), some (.int (nI 3))] [] (σ) (.inl (some (.int (nI sm)))) (σ)
  refine jr_iload_n d_JC_outcome_6 rfl ?_
  refine jr_tableOut 56 d_JC_outcome_7 (by decide +kernel) (by decide) ?_
  refine jr_aload_n d_JC_outcome_56 rfl ?_
  refine jr_getf d_JC_outcome_57 f_JC_outcome_33 h0 rfl ?_
  refine jr_getf d_JC_outcome_60 f_JC_outcome_167 hX rfl ?_
  refine jr_getf d_JC_outcome_63 f_JC_outcome_171 s0 rfl ?_
  exact jr_iretE d_JC_outcome_66 rfl (rfl) (rfl) (by decide) (by decide)
theorem d_St_cell_0 : decode m_St_cell.2.1 0 = .ok (.iload_n 1, 1) := by decide +kernel
theorem d_St_cell_1 : decode m_St_cell.2.1 1 = .ok (.bipush 18, 2) := by decide +kernel
theorem d_St_cell_3 : decode m_St_cell.2.1 3 = .ok (.imul, 1) := by decide +kernel
theorem d_St_cell_4 : decode m_St_cell.2.1 4 = .ok (.iload_n 2, 1) := by decide +kernel
theorem d_St_cell_5 : decode m_St_cell.2.1 5 = .ok (.iadd, 1) := by decide +kernel
theorem d_St_cell_6 : decode m_St_cell.2.1 6 = .ok (.ireturn, 1) := by decide +kernel
theorem st_cell (hl : l.stackTraces = false) {n i : Nat} (hj : JcAt σ vf) (hX : MaAt σ tp su dt dq aw) (hS : StAt σ ss sy sv sm)  : jl_m l G m_St_cell [.ref 14, .int (nI n), .int (nI i)] σ (.inl (some (.int (nI (n * 18 + i))))) (σ) := by
  have h0 := hj; obtain ⟨s0, s1, s2, s3⟩ := id hS
  refine jl_of (as := [.ref 14, .int (nI n), .int (nI i)]) rfl (by decide) hl (jl_cc rfl (jl_cc rfl (jl_cc rfl jl_ca))) (Nat.le_of_ble_eq_true rfl) ?_
  show jl_W l G m_St_cell (0, 0) 0 [some (.ref 14), some (.int (nI n)), some (.int (nI i))] [] (σ) (.inl (some (.int (nI (n * 18 + i))))) (σ)
  refine jr_iload_n d_St_cell_0 rfl ?_
  refine jr_bipush ((nI (18))) d_St_cell_1 (by decide) ?_
  refine jr_imulN d_St_cell_3 ?_
  refine jr_iload_n d_St_cell_4 rfl ?_
  refine jr_iaddN d_St_cell_5 ?_
  exact jr_iretE d_St_cell_6 rfl (rfl) (rfl) (by decide) (by decide)
theorem d_St_has_0 : decode m_St_has.2.1 0 = .ok (.iload_n 1, 1) := by decide +kernel
theorem d_St_has_1 : decode m_St_has.2.1 1 = .ok (.ifCond .lt 29, 3) := by decide +kernel
theorem d_St_has_30 : decode m_St_has.2.1 30 = .ok (.iconst 0, 1) := by decide +kernel
theorem d_St_has_31 : decode m_St_has.2.1 31 = .ok (.ireturn, 1) := by decide +kernel
theorem d_St_has_4 : decode m_St_has.2.1 4 = .ok (.iload_n 1, 1) := by decide +kernel
theorem d_St_has_5 : decode m_St_has.2.1 5 = .ok (.aload_n 0, 1) := by decide +kernel
theorem f_St_has_21 : jl_fd m_St_has 21 3 3 = true := by decide +kernel
theorem d_St_has_6 : decode m_St_has.2.1 6 = .ok (.getfield 21, 3) := by decide +kernel
theorem d_St_has_9 : decode m_St_has.2.1 9 = .ok (.if_icmp .ge 21, 3) := by decide +kernel
theorem d_St_has_12 : decode m_St_has.2.1 12 = .ok (.iload_n 2, 1) := by decide +kernel
theorem d_St_has_13 : decode m_St_has.2.1 13 = .ok (.ifCond .lt 17, 3) := by decide +kernel
theorem d_St_has_16 : decode m_St_has.2.1 16 = .ok (.iload_n 2, 1) := by decide +kernel
theorem d_St_has_17 : decode m_St_has.2.1 17 = .ok (.aload_n 0, 1) := by decide +kernel
theorem f_St_has_9 : jl_fd m_St_has 9 3 0 = true := by decide +kernel
theorem d_St_has_18 : decode m_St_has.2.1 18 = .ok (.getfield 9, 3) := by decide +kernel
theorem d_St_has_21 : decode m_St_has.2.1 21 = .ok (.iload_n 1, 1) := by decide +kernel
theorem d_St_has_22 : decode m_St_has.2.1 22 = .ok (.iaload, 1) := by decide +kernel
theorem d_St_has_23 : decode m_St_has.2.1 23 = .ok (.if_icmp .ge 7, 3) := by decide +kernel
theorem d_St_has_26 : decode m_St_has.2.1 26 = .ok (.iconst 1, 1) := by decide +kernel
theorem d_St_has_27 : decode m_St_has.2.1 27 = .ok (.goto 4, 3) := by decide +kernel
theorem st_has (hl : l.stackTraces = false) {n i : Int32} (hS : StAt σ ss sy sv sm) (hm : sm ≤ 40) : jl_m l G m_St_has [.ref 14, .int (n), .int (i)] σ (.inl (some (.int (bi (stH ss sm n i))))) (σ) := by
  obtain ⟨s0, s1, s2, s3⟩ := id hS
  refine jl_of (as := [.ref 14, .int (n), .int (i)]) rfl (by decide) hl (jl_cc rfl (jl_cc rfl (jl_cc rfl jl_ca))) (Nat.le_of_ble_eq_true rfl) ?_
  show jl_W l G m_St_has (0, 0) 0 [some (.ref 14), some (.int (n)), some (.int (i))] [] (σ) (.inl (some (.int (bi (stH ss sm n i))))) (σ)
  refine jr_iload_n d_St_has_0 rfl ?_
  refine jr_if_lt 30 d_St_has_1 (by decide) (fun c1 => ?_) (fun c1 => ?_)
  · refine jr_iconst ((nI (0))) d_St_has_30 (by decide) ?_
    exact jr_zretE d_St_has_31 rfl (by decide) (by unfold stH; rw [if_pos c1]; rfl) (rfl) (by decide) (by decide)
  · refine jr_iload_n d_St_has_4 rfl ?_
    refine jr_aload_n d_St_has_5 rfl ?_
    refine jr_getf d_St_has_6 f_St_has_21 s0 rfl ?_
    refine jr_icmp_ge 30 d_St_has_9 (by decide) (fun c2 => ?_) (fun c2 => ?_)
    · refine jr_iconst ((nI (0))) d_St_has_30 (by decide) ?_
      exact jr_zretE d_St_has_31 rfl (by decide) (by unfold stH; rw [if_neg c1, if_pos c2]; rfl) (rfl) (by decide) (by decide)
    · refine jr_iload_n d_St_has_12 rfl ?_
      refine jr_if_lt 30 d_St_has_13 (by decide) (fun c3 => ?_) (fun c3 => ?_)
      · refine jr_iconst ((nI (0))) d_St_has_30 (by decide) ?_
        exact jr_zretE d_St_has_31 rfl (by decide) (by unfold stH; rw [if_neg c1, if_neg c2, if_pos c3]; rfl) (rfl) (by decide) (by decide)
      · refine jr_iload_n d_St_has_16 rfl ?_
        refine jr_aload_n d_St_has_17 rfl ?_
        refine jr_getf d_St_has_18 f_St_has_9 s0 rfl ?_
        refine jr_iload_n d_St_has_21 rfl ?_
        obtain ⟨a, ha, e, -⟩ := pk_mu c1 (Int32.not_le.mpr (Int32.not_le.mp c2)) (by omega)
        subst e
        show jl_W l G m_St_has (0, 0) 22 [some (.ref 14), some (.int (nI a)), some (.int (i))] [.int (nI a), .ref 15, .int (i)] (σ) (.inl (some (.int (bi (stH ss sm (nI a) i))))) (σ)
        refine jr_ialdN d_St_has_22 s1 (by omega) (by omega) ?_
        refine jr_icmp_ge 30 d_St_has_23 (by decide) (fun c4 => ?_) (fun c4 => ?_)
        · refine jr_iconst ((nI (0))) d_St_has_30 (by decide) ?_
          exact jr_zretE d_St_has_31 rfl (by decide) (by unfold stH; rw [if_neg c1, if_neg c2, if_neg c3, nI_clamp (by omega), if_pos c4]; rfl) (rfl) (by decide) (by decide)
        · refine jr_iconst ((nI (1))) d_St_has_26 (by decide) ?_
          refine jr_goto 31 d_St_has_27 (by decide) ?_
          exact jr_zretE d_St_has_31 rfl (by decide) (by unfold stH; rw [if_neg c1, if_neg c2, if_neg c3, nI_clamp (by omega), if_neg c4]; rfl) (rfl) (by decide) (by decide)
theorem jc_indexT (hl : l.stackTraces = false) {b : Bool} (h : b = true) : jl_m l G m_JC_needIndex [.int (bi b)] σ (.inl none) σ := by subst h; exact jc_index (b := true) hl
theorem jc_indexX (hl : l.stackTraces = false) {b : Bool} (h : b = false) : jl_m l G m_JC_needIndex [.int (bi b)] σ (.inr xB) σ := by subst h; exact jc_index (b := false) hl
theorem d_JC_heap_0 : decode m_JC_heap.2.1 0 = .ok (.aload_n 0, 1) := by decide +kernel
theorem f_JC_heap_33 : jl_fd m_JC_heap 33 6 2 = true := by decide +kernel
theorem d_JC_heap_1 : decode m_JC_heap.2.1 1 = .ok (.getfield 33, 3) := by decide +kernel
theorem f_JC_heap_167 : jl_fd m_JC_heap 167 1 2 = true := by decide +kernel
theorem d_JC_heap_4 : decode m_JC_heap.2.1 4 = .ok (.getfield 167, 3) := by decide +kernel
theorem d_JC_heap_7 : decode m_JC_heap.2.1 7 = .ok (.iload_n 1, 1) := by decide +kernel
theorem d_JC_heap_8 : decode m_JC_heap.2.1 8 = .ok (.iload_n 2, 1) := by decide +kernel
theorem k_JC_heap_176 : jl_cv m_JC_heap m_St_has 176 2 = true := by decide +kernel
theorem d_JC_heap_9 : decode m_JC_heap.2.1 9 = .ok (.invokevirtual 176, 3) := by decide +kernel
theorem k_JC_heap_144 : jl_cz m_JC_heap m_JC_needIndex 144 1 = true := by decide +kernel
theorem d_JC_heap_12 : decode m_JC_heap.2.1 12 = .ok (.invokestatic 144, 3) := by decide +kernel
theorem jc_heap_X (hl : l.stackTraces = false) {n i : Int32} (hj : JcAt σ vf) (hX : MaAt σ tp su dt dq aw) (hS : StAt σ ss sy sv sm) (hm : sm ≤ 40) (h : stH ss sm n i = false) : jl_m l G m_JC_heap [.ref 0, .int (n), .int (i)] σ (.inr xB) (σ) := by
  have h0 := hj; obtain ⟨s0, s1, s2, s3⟩ := id hS
  refine jl_of (as := [.ref 0, .int (n), .int (i)]) rfl (by decide) hl (jl_cc rfl (jl_cc rfl (jl_cc rfl jl_ca))) (Nat.le_of_ble_eq_true rfl) ?_
  show jl_W l G m_JC_heap (0, 0) 0 [some (.ref 0), some (.int (n)), some (.int (i))] [] (σ) (.inr xB) (σ)
  refine jr_aload_n d_JC_heap_0 rfl ?_
  refine jr_getf d_JC_heap_1 f_JC_heap_33 h0 rfl ?_
  refine jr_getf d_JC_heap_4 f_JC_heap_167 hX rfl ?_
  refine jr_iload_n d_JC_heap_7 rfl ?_
  refine jr_iload_n d_JC_heap_8 rfl ?_
  refine jr_callV (As := [.int (n), .int (i)]) d_JC_heap_9 k_JC_heap_176 s0 rfl rfl rfl (Nat.le_of_ble_eq_true rfl) (by decide) (by decide) (st_has hl hS hm) ?_
  show jl_W l G m_JC_heap (0, 0) 12 [some (.ref 0), some (.int (n)), some (.int (i))] [.int (bi (stH ss sm (n) (i)))] (σ) (.inr xB) (σ)
  exact jl_oeq (rfl) (jl_seq (rfl) (jr_callSX (As := [.int (bi (stH ss sm (n) (i)))]) d_JC_heap_12 k_JC_heap_144 rfl rfl (Nat.le_of_ble_eq_true rfl) (by decide) (by decide) (jc_indexX hl h)))
theorem d_JC_heap_15 : decode m_JC_heap.2.1 15 = .ok (.aload_n 0, 1) := by decide +kernel
theorem d_JC_heap_16 : decode m_JC_heap.2.1 16 = .ok (.getfield 33, 3) := by decide +kernel
theorem d_JC_heap_19 : decode m_JC_heap.2.1 19 = .ok (.getfield 167, 3) := by decide +kernel
theorem f_JC_heap_179 : jl_fd m_JC_heap 179 3 2 = true := by decide +kernel
theorem d_JC_heap_22 : decode m_JC_heap.2.1 22 = .ok (.getfield 179, 3) := by decide +kernel
theorem d_JC_heap_25 : decode m_JC_heap.2.1 25 = .ok (.aload_n 0, 1) := by decide +kernel
theorem d_JC_heap_26 : decode m_JC_heap.2.1 26 = .ok (.getfield 33, 3) := by decide +kernel
theorem d_JC_heap_29 : decode m_JC_heap.2.1 29 = .ok (.getfield 167, 3) := by decide +kernel
theorem d_JC_heap_32 : decode m_JC_heap.2.1 32 = .ok (.iload_n 1, 1) := by decide +kernel
theorem d_JC_heap_33 : decode m_JC_heap.2.1 33 = .ok (.iload_n 2, 1) := by decide +kernel
theorem k_JC_heap_182 : jl_cv m_JC_heap m_St_cell 182 2 = true := by decide +kernel
theorem d_JC_heap_34 : decode m_JC_heap.2.1 34 = .ok (.invokevirtual 182, 3) := by decide +kernel
theorem d_JC_heap_37 : decode m_JC_heap.2.1 37 = .ok (.iaload, 1) := by decide +kernel
theorem d_JC_heap_38 : decode m_JC_heap.2.1 38 = .ok (.ireturn, 1) := by decide +kernel
theorem jc_heap (hl : l.stackTraces = false) {n i : Nat} (hj : JcAt σ vf) (hX : MaAt σ tp su dt dq aw) (hS : StAt σ ss sy sv sm) (hm : sm ≤ 40) (h : stH ss sm (nI n) (nI i) = true) (hn : n < sm) (hi : i < 18) : jl_m l G m_JC_heap [.ref 0, .int (nI n), .int (nI i)] σ (.inl (some (.int (sv (n * 18 + i))))) (σ) := by
  have h0 := hj; obtain ⟨s0, s1, s2, s3⟩ := id hS
  refine jl_of (as := [.ref 0, .int (nI n), .int (nI i)]) rfl (by decide) hl (jl_cc rfl (jl_cc rfl (jl_cc rfl jl_ca))) (Nat.le_of_ble_eq_true rfl) ?_
  show jl_W l G m_JC_heap (0, 0) 0 [some (.ref 0), some (.int (nI n)), some (.int (nI i))] [] (σ) (.inl (some (.int (sv (n * 18 + i))))) (σ)
  refine jr_aload_n d_JC_heap_0 rfl ?_
  refine jr_getf d_JC_heap_1 f_JC_heap_33 h0 rfl ?_
  refine jr_getf d_JC_heap_4 f_JC_heap_167 hX rfl ?_
  refine jr_iload_n d_JC_heap_7 rfl ?_
  refine jr_iload_n d_JC_heap_8 rfl ?_
  refine jr_callV (As := [.int (nI n), .int (nI i)]) d_JC_heap_9 k_JC_heap_176 s0 rfl rfl rfl (Nat.le_of_ble_eq_true rfl) (by decide) (by decide) (st_has hl hS hm) ?_
  show jl_W l G m_JC_heap (0, 0) 12 [some (.ref 0), some (.int (nI n)), some (.int (nI i))] [.int (bi (stH ss sm (nI (n)) (nI (i))))] (σ) (.inl (some (.int (sv (n * 18 + i))))) (σ)
  refine jr_callS (As := [.int (bi (stH ss sm (nI (n)) (nI (i))))]) d_JC_heap_12 k_JC_heap_144 rfl (Nat.le_of_ble_eq_true rfl) (by decide) (by decide) (jc_indexT hl h) ?_
  show jl_W l G m_JC_heap (1, 6) 15 [some (.ref 0), some (.int (nI n)), some (.int (nI i))] [] (σ) (.inl (some (.int (sv (n * 18 + i))))) (σ)
  refine jr_aload_n d_JC_heap_15 rfl ?_
  refine jr_getf d_JC_heap_16 f_JC_heap_33 h0 rfl ?_
  refine jr_getf d_JC_heap_19 f_JC_heap_167 hX rfl ?_
  refine jr_getf d_JC_heap_22 f_JC_heap_179 s0 rfl ?_
  refine jr_aload_n d_JC_heap_25 rfl ?_
  refine jr_getf d_JC_heap_26 f_JC_heap_33 h0 rfl ?_
  refine jr_getf d_JC_heap_29 f_JC_heap_167 hX rfl ?_
  refine jr_iload_n d_JC_heap_32 rfl ?_
  refine jr_iload_n d_JC_heap_33 rfl ?_
  refine jr_callV (As := [.int (nI n), .int (nI i)]) d_JC_heap_34 k_JC_heap_182 s0 rfl rfl rfl (Nat.le_of_ble_eq_true rfl) (by decide) (by decide) (st_cell hl hj hX hS) ?_
  show jl_W l G m_JC_heap (1, 6) 37 [some (.ref 0), some (.int (nI n)), some (.int (nI i))] [.int (nI (n * 18 + i)), .ref 17] (σ) (.inl (some (.int (sv (n * 18 + i))))) (σ)
  refine jr_ialdN d_JC_heap_37 s3 (by omega) (by omega) ?_
  exact jr_iretE d_JC_heap_38 rfl (rfl) (rfl) (by decide) (by decide)
end JRd
