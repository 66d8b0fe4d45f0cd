/-! the class Checker (wip/gen/p53.py) -/
section JCk
variable {l : Launch} {G : jl_G} {σ : jl_S}
variable {tb : Nat → Bool} {pr : Nat → Option Nat} {ow fi ft : Nat → Nat} {mt : Nat → Option Nat}
variable {a : Nat} {q1 q2 : Option Nat} {rs : Nat} {op : Nat → Nat} {ag : Nat → Int32} {sz : Nat} {fr tt tg kd : Nat → Nat} {nc : Nat} {mp : Nat → Int32} {fh : Nat → Bool}
variable {sg : Int32 → Option Sg}
theorem d_Ck_jumps_0 : decode m_Ck_jumps.2.1 0 = .ok (.iload_n 1, 1) := by decide +kernel
theorem d_Ck_jumps_1 : decode m_Ck_jumps.2.1 1 = .ok (.bipush 7, 2) := by decide +kernel
theorem d_Ck_jumps_3 : decode m_Ck_jumps.2.1 3 = .ok (.if_icmp .eq 21, 3) := by decide +kernel
theorem d_Ck_jumps_24 : decode m_Ck_jumps.2.1 24 = .ok (.iconst 1, 1) := by decide +kernel
theorem d_Ck_jumps_25 : decode m_Ck_jumps.2.1 25 = .ok (.goto 4, 3) := by decide +kernel
theorem d_Ck_jumps_29 : decode m_Ck_jumps.2.1 29 = .ok (.ireturn, 1) := by decide +kernel
theorem d_Ck_jumps_6 : decode m_Ck_jumps.2.1 6 = .ok (.iload_n 1, 1) := by decide +kernel
theorem d_Ck_jumps_7 : decode m_Ck_jumps.2.1 7 = .ok (.bipush 8, 2) := by decide +kernel
theorem d_Ck_jumps_9 : decode m_Ck_jumps.2.1 9 = .ok (.if_icmp .eq 15, 3) := by decide +kernel
theorem d_Ck_jumps_12 : decode m_Ck_jumps.2.1 12 = .ok (.iload_n 1, 1) := by decide +kernel
theorem d_Ck_jumps_13 : decode m_Ck_jumps.2.1 13 = .ok (.bipush 9, 2) := by decide +kernel
theorem d_Ck_jumps_15 : decode m_Ck_jumps.2.1 15 = .ok (.if_icmp .eq 9, 3) := by decide +kernel
theorem d_Ck_jumps_18 : decode m_Ck_jumps.2.1 18 = .ok (.iload_n 1, 1) := by decide +kernel
theorem d_Ck_jumps_19 : decode m_Ck_jumps.2.1 19 = .ok (.bipush 16, 2) := by decide +kernel
theorem d_Ck_jumps_21 : decode m_Ck_jumps.2.1 21 = .ok (.if_icmp .ne 7, 3) := by decide +kernel
theorem d_Ck_jumps_28 : decode m_Ck_jumps.2.1 28 = .ok (.iconst 0, 1) := by decide +kernel
theorem ck_jumps (hl : l.stackTraces = false) {o : Nat} (hc : CkAt σ) (ho : o < 26) : jl_m l G m_Ck_jumps [.ref 8, .int (nI o)] σ (.inl (some (.int (bi (jmp o))))) (σ) := by
  refine jl_of (as := [.ref 8, .int (nI o)]) rfl (by decide) hl (jl_cc rfl (jl_cc rfl jl_ca)) (Nat.le_of_ble_eq_true rfl) ?_
  show jl_W l G m_Ck_jumps (0, 0) 0 [some (.ref 8), some (.int (nI o))] [] (σ) (.inl (some (.int (bi (jmp o))))) (σ)
  refine jr_iload_n d_Ck_jumps_0 rfl ?_
  refine jr_bipush ((nI (7))) d_Ck_jumps_1 (by decide) ?_
  refine jr_icmp_eqN 24 d_Ck_jumps_3 (by decide) (by omega) (by omega) (fun c1 => ?_) (fun c1 => ?_)
  · refine jr_iconst ((nI (1))) d_Ck_jumps_24 (by decide) ?_
    refine jr_goto 29 d_Ck_jumps_25 (by decide) ?_
    exact jr_zretE d_Ck_jumps_29 rfl (by decide) (by unfold jmp; rw [decide_eq_true (by omega)]; rfl) (rfl) (by decide) (by decide)
  · refine jr_iload_n d_Ck_jumps_6 rfl ?_
    refine jr_bipush ((nI (8))) d_Ck_jumps_7 (by decide) ?_
    refine jr_icmp_eqN 24 d_Ck_jumps_9 (by decide) (by omega) (by omega) (fun c2 => ?_) (fun c2 => ?_)
    · refine jr_iconst ((nI (1))) d_Ck_jumps_24 (by decide) ?_
      refine jr_goto 29 d_Ck_jumps_25 (by decide) ?_
      exact jr_zretE d_Ck_jumps_29 rfl (by decide) (by unfold jmp; rw [decide_eq_true (by omega)]; rfl) (rfl) (by decide) (by decide)
    · refine jr_iload_n d_Ck_jumps_12 rfl ?_
      refine jr_bipush ((nI (9))) d_Ck_jumps_13 (by decide) ?_
      refine jr_icmp_eqN 24 d_Ck_jumps_15 (by decide) (by omega) (by omega) (fun c3 => ?_) (fun c3 => ?_)
      · refine jr_iconst ((nI (1))) d_Ck_jumps_24 (by decide) ?_
        refine jr_goto 29 d_Ck_jumps_25 (by decide) ?_
        exact jr_zretE d_Ck_jumps_29 rfl (by decide) (by unfold jmp; rw [decide_eq_true (by omega)]; rfl) (rfl) (by decide) (by decide)
      · refine jr_iload_n d_Ck_jumps_18 rfl ?_
        refine jr_bipush ((nI (16))) d_Ck_jumps_19 (by decide) ?_
        refine jr_icmp_neN 28 d_Ck_jumps_21 (by decide) (by omega) (by omega) (fun c4 => ?_) (fun c4 => ?_)
        · refine jr_iconst ((nI (0))) d_Ck_jumps_28 (by decide) ?_
          exact jr_zretE d_Ck_jumps_29 rfl (by decide) (by unfold jmp; rw [decide_eq_false (by omega)]; rfl) (rfl) (by decide) (by decide)
        · refine jr_iconst ((nI (1))) d_Ck_jumps_24 (by decide) ?_
          refine jr_goto 29 d_Ck_jumps_25 (by decide) ?_
          exact jr_zretE d_Ck_jumps_29 rfl (by decide) (by unfold jmp; rw [decide_eq_true (by omega)]; rfl) (rfl) (by decide) (by decide)
theorem d_Ck_goesOn_0 : decode m_Ck_goesOn.2.1 0 = .ok (.iload_n 1, 1) := by decide +kernel
theorem d_Ck_goesOn_1 : decode m_Ck_goesOn.2.1 1 = .ok (.bipush 7, 2) := by decide +kernel
theorem d_Ck_goesOn_3 : decode m_Ck_goesOn.2.1 3 = .ok (.if_icmp .eq 19, 3) := by decide +kernel
theorem d_Ck_goesOn_22 : decode m_Ck_goesOn.2.1 22 = .ok (.iconst 0, 1) := by decide +kernel
theorem d_Ck_goesOn_23 : decode m_Ck_goesOn.2.1 23 = .ok (.ireturn, 1) := by decide +kernel
theorem d_Ck_goesOn_6 : decode m_Ck_goesOn.2.1 6 = .ok (.iload_n 1, 1) := by decide +kernel
theorem d_Ck_goesOn_7 : decode m_Ck_goesOn.2.1 7 = .ok (.bipush 17, 2) := by decide +kernel
theorem d_Ck_goesOn_9 : decode m_Ck_goesOn.2.1 9 = .ok (.if_icmp .eq 13, 3) := by decide +kernel
theorem d_Ck_goesOn_12 : decode m_Ck_goesOn.2.1 12 = .ok (.iload_n 1, 1) := by decide +kernel
theorem d_Ck_goesOn_13 : decode m_Ck_goesOn.2.1 13 = .ok (.bipush 18, 2) := by decide +kernel
theorem d_Ck_goesOn_15 : decode m_Ck_goesOn.2.1 15 = .ok (.if_icmp .eq 7, 3) := by decide +kernel
theorem d_Ck_goesOn_18 : decode m_Ck_goesOn.2.1 18 = .ok (.iconst 1, 1) := by decide +kernel
theorem d_Ck_goesOn_19 : decode m_Ck_goesOn.2.1 19 = .ok (.goto 4, 3) := by decide +kernel
theorem ck_goesOn (hl : l.stackTraces = false) {o : Nat} (hc : CkAt σ) (ho : o < 26) : jl_m l G m_Ck_goesOn [.ref 8, .int (nI o)] σ (.inl (some (.int (bi (fal o))))) (σ) := by
  refine jl_of (as := [.ref 8, .int (nI o)]) rfl (by decide) hl (jl_cc rfl (jl_cc rfl jl_ca)) (Nat.le_of_ble_eq_true rfl) ?_
  show jl_W l G m_Ck_goesOn (0, 0) 0 [some (.ref 8), some (.int (nI o))] [] (σ) (.inl (some (.int (bi (fal o))))) (σ)
  refine jr_iload_n d_Ck_goesOn_0 rfl ?_
  refine jr_bipush ((nI (7))) d_Ck_goesOn_1 (by decide) ?_
  refine jr_icmp_eqN 22 d_Ck_goesOn_3 (by decide) (by omega) (by omega) (fun c1 => ?_) (fun c1 => ?_)
  · refine jr_iconst ((nI (0))) d_Ck_goesOn_22 (by decide) ?_
    exact jr_zretE d_Ck_goesOn_23 rfl (by decide) (by unfold fal; rw [decide_eq_false (by omega)]; rfl) (rfl) (by decide) (by decide)
  · refine jr_iload_n d_Ck_goesOn_6 rfl ?_
    refine jr_bipush ((nI (17))) d_Ck_goesOn_7 (by decide) ?_
    refine jr_icmp_eqN 22 d_Ck_goesOn_9 (by decide) (by omega) (by omega) (fun c2 => ?_) (fun c2 => ?_)
    · refine jr_iconst ((nI (0))) d_Ck_goesOn_22 (by decide) ?_
      exact jr_zretE d_Ck_goesOn_23 rfl (by decide) (by unfold fal; rw [decide_eq_false (by omega)]; rfl) (rfl) (by decide) (by decide)
    · refine jr_iload_n d_Ck_goesOn_12 rfl ?_
      refine jr_bipush ((nI (18))) d_Ck_goesOn_13 (by decide) ?_
      refine jr_icmp_eqN 22 d_Ck_goesOn_15 (by decide) (by omega) (by omega) (fun c3 => ?_) (fun c3 => ?_)
      · refine jr_iconst ((nI (0))) d_Ck_goesOn_22 (by decide) ?_
        exact jr_zretE d_Ck_goesOn_23 rfl (by decide) (by unfold fal; rw [decide_eq_false (by omega)]; rfl) (rfl) (by decide) (by decide)
      · refine jr_iconst ((nI (1))) d_Ck_goesOn_18 (by decide) ?_
        refine jr_goto 23 d_Ck_goesOn_19 (by decide) ?_
        exact jr_zretE d_Ck_goesOn_23 rfl (by decide) (by unfold fal; rw [decide_eq_true (by omega)]; rfl) (rfl) (by decide) (by decide)
theorem d_Ck_takes_0 : decode m_Ck_takes.2.1 0 = .ok (.iload_n 1, 1) := by decide +kernel
theorem d_Ck_takes_1 : decode m_Ck_takes.2.1 1 = .ok (.bipush 14, 2) := by decide +kernel
theorem d_Ck_takes_3 : decode m_Ck_takes.2.1 3 = .ok (.if_icmp .eq 9, 3) := by decide +kernel
theorem d_Ck_takes_12 : decode m_Ck_takes.2.1 12 = .ok (.aload_n 0, 1) := by decide +kernel
theorem f_Ck_takes_9 : jl_fd m_Ck_takes 9 0 0 = true := by decide +kernel
theorem d_Ck_takes_13 : decode m_Ck_takes.2.1 13 = .ok (.getfield 9, 3) := by decide +kernel
theorem d_Ck_takes_16 : decode m_Ck_takes.2.1 16 = .ok (.iload_n 2, 1) := by decide +kernel
theorem d_Ck_takes_17 : decode m_Ck_takes.2.1 17 = .ok (.iconst 4, 1) := by decide +kernel
theorem d_Ck_takes_18 : decode m_Ck_takes.2.1 18 = .ok (.idiv, 1) := by decide +kernel
theorem d_Ck_takes_19 : decode m_Ck_takes.2.1 19 = .ok (.iload_n 2, 1) := by decide +kernel
theorem d_Ck_takes_20 : decode m_Ck_takes.2.1 20 = .ok (.iconst 4, 1) := by decide +kernel
theorem d_Ck_takes_21 : decode m_Ck_takes.2.1 21 = .ok (.irem, 1) := by decide +kernel
theorem k_Ck_takes_42 : jl_cv m_Ck_takes m_Wo_found 42 2 = true := by decide +kernel
theorem d_Ck_takes_22 : decode m_Ck_takes.2.1 22 = .ok (.invokevirtual 42, 3) := by decide +kernel
theorem d_Ck_takes_25 : decode m_Ck_takes.2.1 25 = .ok (.astore_n 3, 1) := by decide +kernel
theorem d_Ck_takes_26 : decode m_Ck_takes.2.1 26 = .ok (.getstatic 39, 3) := by decide +kernel
theorem d_Ck_takes_29 : decode m_Ck_takes.2.1 29 = .ok (.bipush 14, 2) := by decide +kernel
theorem d_Ck_takes_31 : decode m_Ck_takes.2.1 31 = .ok (.iaload, 1) := by decide +kernel
theorem d_Ck_takes_32 : decode m_Ck_takes.2.1 32 = .ok (.aload_n 3, 1) := by decide +kernel
theorem d_Ck_takes_33 : decode m_Ck_takes.2.1 33 = .ok (.ifnonnull 7, 3) := by decide +kernel
theorem d_Ck_takes_36 : decode m_Ck_takes.2.1 36 = .ok (.iconst 0, 1) := by decide +kernel
theorem d_Ck_takes_37 : decode m_Ck_takes.2.1 37 = .ok (.goto 7, 3) := by decide +kernel
theorem d_Ck_takes_44 : decode m_Ck_takes.2.1 44 = .ok (.iadd, 1) := by decide +kernel
theorem d_Ck_takes_45 : decode m_Ck_takes.2.1 45 = .ok (.ireturn, 1) := by decide +kernel
theorem d_Ck_takes_40 : decode m_Ck_takes.2.1 40 = .ok (.aload_n 3, 1) := by decide +kernel
theorem k_Ck_takes_48 : jl_cv m_Ck_takes m_Me_parameters 48 0 = true := by decide +kernel
theorem d_Ck_takes_41 : decode m_Ck_takes.2.1 41 = .ok (.invokevirtual 48, 3) := by decide +kernel
theorem d_Ck_takes_6 : decode m_Ck_takes.2.1 6 = .ok (.getstatic 39, 3) := by decide +kernel
theorem d_Ck_takes_9 : decode m_Ck_takes.2.1 9 = .ok (.iload_n 1, 1) := by decide +kernel
theorem d_Ck_takes_10 : decode m_Ck_takes.2.1 10 = .ok (.iaload, 1) := by decide +kernel
theorem d_Ck_takes_11 : decode m_Ck_takes.2.1 11 = .ok (.ireturn, 1) := by decide +kernel
theorem ck_takes (hl : l.stackTraces = false) {o : Nat} {x : Int32} (hc : CkAt σ) (hw : WoAt σ tb pr ow fi ft mt) (hok : WoOk tb pr ow fi) (hsg : SgC σ tb pr mt sg) (ho : o < 26) : jl_m l G m_Ck_takes [.ref 8, .int (nI o), .int (x)] σ (.inl (some (.int (nI (tks sg o x))))) (σ) := by
  obtain ⟨hW, h2, h3, h4, h5, h6, h7⟩ := id hw
  refine jl_of (as := [.ref 8, .int (nI o), .int (x)]) rfl (by decide) hl (jl_cc rfl (jl_cc rfl (jl_cc rfl jl_ca))) (Nat.le_of_ble_eq_true rfl) ?_
  show jl_W l G m_Ck_takes (0, 0) 0 [some (.ref 8), some (.int (nI o)), some (.int (x)), none] [] (σ) (.inl (some (.int (nI (tks sg o x))))) (σ)
  refine jr_iload_n d_Ck_takes_0 rfl ?_
  refine jr_bipush ((nI (14))) d_Ck_takes_1 (by decide) ?_
  refine jr_icmp_eqN 12 d_Ck_takes_3 (by decide) (by omega) (by omega) (fun c1 => ?_) (fun c1 => ?_)
  · refine jr_aload_n d_Ck_takes_12 rfl ?_
    refine jr_getf d_Ck_takes_13 f_Ck_takes_9 hc rfl ?_
    refine jr_iload_n d_Ck_takes_16 rfl ?_
    refine jr_iconst ((nI (4))) d_Ck_takes_17 (by decide) ?_
    refine jr_idiv d_Ck_takes_18 (by decide) ?_
    refine jr_iload_n d_Ck_takes_19 rfl ?_
    refine jr_iconst ((nI (4))) d_Ck_takes_20 (by decide) ?_
    refine jr_irem d_Ck_takes_21 (by decide) ?_
    refine jr_callV (As := [.int ((x) / (nI (4))), .int ((x) - (x) / (nI (4)) * (nI (4)))]) d_Ck_takes_22 k_Ck_takes_42 hW rfl rfl rfl (Nat.le_of_ble_eq_true rfl) (by decide) (by decide) (wo_found hl hw hok.1) ?_
    show jl_W l G m_Ck_takes (0, 0) 25 [some (.ref 8), some (.int (nI o)), some (.int (x)), none] [va_rf (found tb pr mt (x / nI 4) (x - x / nI 4 * nI 4))] (σ) (.inl (some (.int (nI (tks sg o x))))) (σ)
    refine jr_astore_nO d_Ck_takes_25 (by decide) ?_
    show jl_W l G m_Ck_takes (0, 0) 26 [some (.ref 8), some (.int (nI o)), some (.int (x)), some (va_rf (found tb pr mt (x / nI 4) (x - x / nI 4 * nI 4)))] [] (σ) (.inl (some (.int (nI (tks sg o x))))) (σ)
    refine jr_gets (ci := 0) (G.2.2.2.1) d_Ck_takes_26 rfl List.mem_cons_self ?_
    refine jr_bipush ((nI (14))) d_Ck_takes_29 (by decide) ?_
    refine jr_tkldN d_Ck_takes_31 (by omega) ?_
    show jl_W l G m_Ck_takes (0, 0) 32 [some (.ref 8), some (.int (nI o)), some (.int (x)), some (va_rf (found tb pr mt (x / nI 4) (x - x / nI 4 * nI 4)))] [.int (nI 1)] (σ) (.inl (some (.int (nI (tks sg o x))))) (σ)
    refine jr_aload_nO d_Ck_takes_32 rfl ?_
    cases c2 : found tb pr mt (x / nI 4) (x - x / nI 4 * nI 4) with
    | none =>
      show jl_W l G m_Ck_takes (0, 0) 33 [some (.ref 8), some (.int (nI o)), some (.int (x)), some (.null)] [.null, .int (nI 1)] (σ) (.inl (some (.int (nI (tks sg o x))))) (σ)
      refine jr_ifnonnullN d_Ck_takes_33 ?_
      refine jr_iconst ((nI (0))) d_Ck_takes_36 (by decide) ?_
      refine jr_goto 44 d_Ck_takes_37 (by decide) ?_
      refine jr_iaddN d_Ck_takes_44 ?_
      exact jr_iretE d_Ck_takes_45 rfl (by unfold tks; rw [if_pos (by omega), (hsg x).1 ‹_›]; rfl) (rfl) (by decide) (by decide)
    | some ac2 =>
      obtain ⟨q1, q2, rs, op, ag, sz, fr, tt, tg, kd, nc, mp, fh, hm, hsx, hq1, hq2, hrs, hqq⟩ := (hsg x).2 _ c2
      have hM := hm.1
      show jl_W l G m_Ck_takes (0, 0) 33 [some (.ref 8), some (.int (nI o)), some (.int (x)), some (.ref ac2)] [.ref ac2, .int (nI 1)] (σ) (.inl (some (.int (nI (tks sg o x))))) (σ)
      refine jr_ifnonnull 40 d_Ck_takes_33 (by decide) ?_
      refine jr_aload_n d_Ck_takes_40 rfl ?_
      refine jr_callV (As := []) d_Ck_takes_41 k_Ck_takes_48 hM rfl rfl rfl (Nat.le_of_ble_eq_true rfl) (by decide) (by decide) (me_params hl hm hq1 hq2) ?_
      show jl_W l G m_Ck_takes (0, 0) 44 [some (.ref 8), some (.int (nI o)), some (.int (x)), some (.ref ac2)] [.int (nI (prm q1 q2)), .int (nI 1)] (σ) (.inl (some (.int (nI (tks sg o x))))) (σ)
      have hpl := prm_le q1 q2
      refine jr_iaddN d_Ck_takes_44 ?_
      exact jr_iretE d_Ck_takes_45 rfl (by unfold tks; rw [if_pos (by omega), hsx]; rfl) (rfl) (by decide) (by decide)
  · refine jr_gets (ci := 0) (G.2.2.2.1) d_Ck_takes_6 rfl List.mem_cons_self ?_
    refine jr_iload_n d_Ck_takes_9 rfl ?_
    refine jr_tkldN d_Ck_takes_10 (by omega) ?_
    exact jr_iretE d_Ck_takes_11 rfl (by unfold tks; rw [if_neg (by omega)]) (rfl) (by decide) (by decide)
end JCk
