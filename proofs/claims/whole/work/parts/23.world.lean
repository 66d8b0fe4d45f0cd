/-! World, on (wip/gen/p23.py) -/
section JWs
variable {l : Launch} {G : jl_G} {σ : jl_S} {tb : Nat → Bool} {pr : Nat → Option Nat} {ow fi ft : Nat → Nat} {mt : Nat → Option Nat}
theorem d_Wo_putClass_0 : decode m_Wo_putClass.2.1 0 = .ok (.aload_n 0, 1) := by decide +kernel
theorem f_Wo_putClass_9 : jl_fd m_Wo_putClass 9 5 0 = true := by decide +kernel
theorem d_Wo_putClass_1 : decode m_Wo_putClass.2.1 1 = .ok (.getfield 9, 3) := by decide +kernel
theorem d_Wo_putClass_4 : decode m_Wo_putClass.2.1 4 = .ok (.iload_n 1, 1) := by decide +kernel
theorem d_Wo_putClass_5 : decode m_Wo_putClass.2.1 5 = .ok (.iconst 1, 1) := by decide +kernel
theorem d_Wo_putClass_6 : decode m_Wo_putClass.2.1 6 = .ok (.bastore, 1) := by decide +kernel
theorem d_Wo_putClass_7 : decode m_Wo_putClass.2.1 7 = .ok (.aload_n 0, 1) := by decide +kernel
theorem f_Wo_putClass_15 : jl_fd m_Wo_putClass 15 5 1 = true := by decide +kernel
theorem d_Wo_putClass_8 : decode m_Wo_putClass.2.1 8 = .ok (.getfield 15, 3) := by decide +kernel
theorem d_Wo_putClass_11 : decode m_Wo_putClass.2.1 11 = .ok (.iload_n 1, 1) := by decide +kernel
theorem d_Wo_putClass_12 : decode m_Wo_putClass.2.1 12 = .ok (.iload_n 2, 1) := by decide +kernel
theorem d_Wo_putClass_13 : decode m_Wo_putClass.2.1 13 = .ok (.iastore, 1) := by decide +kernel
theorem d_Wo_putClass_14 : decode m_Wo_putClass.2.1 14 = .ok (.aload_n 0, 1) := by decide +kernel
theorem f_Wo_putClass_22 : jl_fd m_Wo_putClass 22 5 3 = true := by decide +kernel
theorem d_Wo_putClass_15 : decode m_Wo_putClass.2.1 15 = .ok (.getfield 22, 3) := by decide +kernel
theorem d_Wo_putClass_18 : decode m_Wo_putClass.2.1 18 = .ok (.iload_n 1, 1) := by decide +kernel
theorem d_Wo_putClass_19 : decode m_Wo_putClass.2.1 19 = .ok (.iload_n 2, 1) := by decide +kernel
theorem d_Wo_putClass_20 : decode m_Wo_putClass.2.1 20 = .ok (.iconst (-1), 1) := by decide +kernel
theorem d_Wo_putClass_21 : decode m_Wo_putClass.2.1 21 = .ok (.if_icmp .ne 7, 3) := by decide +kernel
theorem d_Wo_putClass_24 : decode m_Wo_putClass.2.1 24 = .ok (.iconst 0, 1) := by decide +kernel
theorem d_Wo_putClass_25 : decode m_Wo_putClass.2.1 25 = .ok (.goto 8, 3) := by decide +kernel
theorem d_Wo_putClass_33 : decode m_Wo_putClass.2.1 33 = .ok (.iastore, 1) := by decide +kernel
theorem d_Wo_putClass_34 : decode m_Wo_putClass.2.1 34 = .ok (.return_, 1) := by decide +kernel
theorem d_Wo_putClass_28 : decode m_Wo_putClass.2.1 28 = .ok (.aload_n 0, 1) := by decide +kernel
theorem d_Wo_putClass_29 : decode m_Wo_putClass.2.1 29 = .ok (.iload_n 2, 1) := by decide +kernel
theorem k_Wo_putClass_38 : jl_cv m_Wo_putClass m_Wo_fieldCount 38 1 = true := by decide +kernel
theorem d_Wo_putClass_30 : decode m_Wo_putClass.2.1 30 = .ok (.invokevirtual 38, 3) := by decide +kernel
theorem wo_putClass (hl : l.stackTraces = false) {k : Nat} {b : Option Nat} (hw : WoAt σ tb pr ow fi ft mt) (hk : k < 6) (hb : ob 6 b) (hne : b ≠ some k) (hfi : ∀ j, j < 6 → fi j ≤ 18) : jl_m l G m_Wo_putClass [.ref 1, .int (nI k), .int (en b)] σ (.inl none) (((σ.set 2 (.inl (1, 6, .inl fun j => bi (va_up tb k true j)))).set 3 (.inl (0, 6, .inl fun j => en (va_up pr k b j)))).set 5 (.inl (0, 6, .inl fun j => nI (va_up fi k (fcO fi ow b) j)))) := by
  obtain ⟨hW, h2, h3, h4, h5, h6, h7⟩ := id hw
  refine jl_of (as := [.ref 1, .int (nI k), .int (en b)]) rfl (by decide) hl (jl_cc rfl (jl_cc rfl (jl_cc rfl jl_ca))) (Nat.le_of_ble_eq_true rfl) ?_
  show jl_W l G m_Wo_putClass (0, 0) 0 [some (.ref 1), some (.int (nI k)), some (.int (en b))] [] (σ) (.inl none) (((σ.set 2 (.inl (1, 6, .inl fun j => bi (va_up tb k true j)))).set 3 (.inl (0, 6, .inl fun j => en (va_up pr k b j)))).set 5 (.inl (0, 6, .inl fun j => nI (va_up fi k (fcO fi ow b) j))))
  refine jr_aload_n d_Wo_putClass_0 rfl ?_
  refine jr_getf d_Wo_putClass_1 f_Wo_putClass_9 hW rfl ?_
  refine jr_iload_n d_Wo_putClass_4 rfl ?_
  refine jr_iconst ((nI (1))) d_Wo_putClass_5 (by decide) ?_
  refine jr_bastN d_Wo_putClass_6 h2 (by omega) (by omega) (by decide) ?_
  rw [show upd (fun j => bi (tb j)) (k) ((nI (1))) = (fun j => bi ((va_up tb (k) (true)) j)) from bi_up tb (k) (true)]
  show jl_W l G m_Wo_putClass (0, 0) 7 [some (.ref 1), some (.int (nI k)), some (.int (en b))] [] (σ.set (2) (.inl (1, 6, .inl (fun j => bi ((va_up tb (k) (true)) j))))) (.inl none) (((σ.set 2 (.inl (1, 6, .inl fun j => bi (va_up tb k true j)))).set 3 (.inl (0, 6, .inl fun j => en (va_up pr k b j)))).set 5 (.inl (0, 6, .inl fun j => nI (va_up fi k (fcO fi ow b) j))))
  refine jr_aload_n d_Wo_putClass_7 rfl ?_
  refine jr_getf d_Wo_putClass_8 f_Wo_putClass_15 (jl_sn (by decide) hW) rfl ?_
  refine jr_iload_n d_Wo_putClass_11 rfl ?_
  refine jr_iload_n d_Wo_putClass_12 rfl ?_
  refine jr_iastN d_Wo_putClass_13 (jl_sn (by decide) h3) (by omega) (by omega) ?_
  rw [show upd (fun j => en (pr j)) (k) ((en b)) = (fun j => en ((va_up pr (k) (b)) j)) from en_up pr (k) (b)]
  show jl_W l G m_Wo_putClass (0, 0) 14 [some (.ref 1), some (.int (nI k)), some (.int (en b))] [] ((σ.set (2) (.inl (1, 6, .inl (fun j => bi ((va_up tb (k) (true)) j))))).set (3) (.inl (0, 6, .inl (fun j => en ((va_up pr (k) (b)) j))))) (.inl none) (((σ.set 2 (.inl (1, 6, .inl fun j => bi (va_up tb k true j)))).set 3 (.inl (0, 6, .inl fun j => en (va_up pr k b j)))).set 5 (.inl (0, 6, .inl fun j => nI (va_up fi k (fcO fi ow b) j))))
  refine jr_aload_n d_Wo_putClass_14 rfl ?_
  refine jr_getf d_Wo_putClass_15 f_Wo_putClass_22 (jl_sn (by decide) (jl_sn (by decide) hW)) rfl ?_
  refine jr_iload_n d_Wo_putClass_18 rfl ?_
  cases b with
  | none =>
    show jl_W l G m_Wo_putClass (0, 0) 19 [some (.ref 1), some (.int (nI k)), some (.int (-1))] [.int (nI k), .ref 5] ((σ.set (2) (.inl (1, 6, .inl (fun j => bi ((va_up tb (k) (true)) j))))).set (3) (.inl (0, 6, .inl (fun j => en ((va_up pr (k) (none)) j))))) (.inl none) (((σ.set 2 (.inl (1, 6, .inl fun j => bi (va_up tb k true j)))).set 3 (.inl (0, 6, .inl fun j => en (va_up pr k none j)))).set 5 (.inl (0, 6, .inl fun j => nI (va_up fi k (fcO fi ow none) j))))
    refine jr_iload_n d_Wo_putClass_19 rfl ?_
    refine jr_iconst ((-1)) d_Wo_putClass_20 (by decide) ?_
    refine jr_icmp_ne 28 d_Wo_putClass_21 (by decide) (fun z => absurd rfl z) (fun _ => ?_)
    refine jr_iconst ((nI (0))) d_Wo_putClass_24 (by decide) ?_
    refine jr_goto 33 d_Wo_putClass_25 (by decide) ?_
    refine jr_iastN d_Wo_putClass_33 (jl_sn (by decide) (jl_sn (by decide) h5)) (by omega) (by omega) ?_
    rw [show upd (fun j => nI (fi j)) (k) ((nI (0))) = (fun j => nI ((va_up fi (k) (0)) j)) from nI_up fi (k) (0)]
    show jl_W l G m_Wo_putClass (0, 0) 34 [some (.ref 1), some (.int (nI k)), some (.int (-1))] [] (((σ.set (2) (.inl (1, 6, .inl (fun j => bi ((va_up tb (k) (true)) j))))).set (3) (.inl (0, 6, .inl (fun j => en ((va_up pr (k) (none)) j))))).set (5) (.inl (0, 6, .inl (fun j => nI ((va_up fi (k) (0)) j))))) (.inl none) (((σ.set 2 (.inl (1, 6, .inl fun j => bi (va_up tb k true j)))).set 3 (.inl (0, 6, .inl fun j => en (va_up pr k none j)))).set 5 (.inl (0, 6, .inl fun j => nI (va_up fi k (fcO fi ow none) j))))
    exact jr_vretE d_Wo_putClass_34 rfl (rfl) (rfl) (by decide) (by decide)
  | some q =>
    have hq := hb q rfl
    have hfq := hfi q hq
    show jl_W l G m_Wo_putClass (0, 0) 19 [some (.ref 1), some (.int (nI k)), some (.int (nI q))] [.int (nI k), .ref 5] ((σ.set (2) (.inl (1, 6, .inl (fun j => bi ((va_up tb (k) (true)) j))))).set (3) (.inl (0, 6, .inl (fun j => en ((va_up pr (k) ((some q))) j))))) (.inl none) (((σ.set 2 (.inl (1, 6, .inl fun j => bi (va_up tb k true j)))).set 3 (.inl (0, 6, .inl fun j => en (va_up pr k (some q) j)))).set 5 (.inl (0, 6, .inl fun j => nI (va_up fi k (fcO fi ow (some q)) j))))
    refine jr_iload_n d_Wo_putClass_19 rfl ?_
    refine jr_iconst ((-1)) d_Wo_putClass_20 (by decide) ?_
    refine jr_icmp_ne 28 d_Wo_putClass_21 (by decide) (fun _ => ?_) (fun z => absurd z (en_m1ne (by omega)))
    refine jr_aload_n d_Wo_putClass_28 rfl ?_
    refine jr_iload_n d_Wo_putClass_29 rfl ?_
    refine jr_callV (As := [.int (nI q)]) d_Wo_putClass_30 k_Wo_putClass_38 (jl_sn (by decide) (jl_sn (by decide) hW)) rfl rfl rfl (Nat.le_of_ble_eq_true rfl) (by decide) (by decide) (wo_fc hl (WoAt.s3 (WoAt.s2 hw)) hq) ?_
    show jl_W l G m_Wo_putClass (0, 0) 33 [some (.ref 1), some (.int (nI k)), some (.int (nI q))] [.int (nI (fi q + ow q)), .int (nI k), .ref 5] ((σ.set (2) (.inl (1, 6, .inl (fun j => bi ((va_up tb (k) (true)) j))))).set (3) (.inl (0, 6, .inl (fun j => en ((va_up pr (k) ((some q))) j))))) (.inl none) (((σ.set 2 (.inl (1, 6, .inl fun j => bi (va_up tb k true j)))).set 3 (.inl (0, 6, .inl fun j => en (va_up pr k (some q) j)))).set 5 (.inl (0, 6, .inl fun j => nI (va_up fi k (fcO fi ow (some q)) j))))
    refine jr_iastN d_Wo_putClass_33 (jl_sn (by decide) (jl_sn (by decide) h5)) (by omega) (by omega) ?_
    rw [show upd (fun j => nI (fi j)) (k) ((nI (fi q + ow q))) = (fun j => nI ((va_up fi (k) (fi q + ow q)) j)) from nI_up fi (k) (fi q + ow q)]
    show jl_W l G m_Wo_putClass (0, 0) 34 [some (.ref 1), some (.int (nI k)), some (.int (nI q))] [] (((σ.set (2) (.inl (1, 6, .inl (fun j => bi ((va_up tb (k) (true)) j))))).set (3) (.inl (0, 6, .inl (fun j => en ((va_up pr (k) ((some q))) j))))).set (5) (.inl (0, 6, .inl (fun j => nI ((va_up fi (k) (fi q + ow q)) j))))) (.inl none) (((σ.set 2 (.inl (1, 6, .inl fun j => bi (va_up tb k true j)))).set 3 (.inl (0, 6, .inl fun j => en (va_up pr k (some q) j)))).set 5 (.inl (0, 6, .inl fun j => nI (va_up fi k (fcO fi ow (some q)) j))))
    exact jr_vretE d_Wo_putClass_34 rfl (rfl) (rfl) (by decide) (by decide)
theorem d_Wo_putField_0 : decode m_Wo_putField.2.1 0 = .ok (.aload_n 0, 1) := by decide +kernel
theorem f_Wo_putField_25 : jl_fd m_Wo_putField 25 5 4 = true := by decide +kernel
theorem d_Wo_putField_1 : decode m_Wo_putField.2.1 1 = .ok (.getfield 25, 3) := by decide +kernel
theorem d_Wo_putField_4 : decode m_Wo_putField.2.1 4 = .ok (.iload_n 1, 1) := by decide +kernel
theorem d_Wo_putField_5 : decode m_Wo_putField.2.1 5 = .ok (.iconst 3, 1) := by decide +kernel
theorem d_Wo_putField_6 : decode m_Wo_putField.2.1 6 = .ok (.imul, 1) := by decide +kernel
theorem d_Wo_putField_7 : decode m_Wo_putField.2.1 7 = .ok (.aload_n 0, 1) := by decide +kernel
theorem f_Wo_putField_19 : jl_fd m_Wo_putField 19 5 2 = true := by decide +kernel
theorem d_Wo_putField_8 : decode m_Wo_putField.2.1 8 = .ok (.getfield 19, 3) := by decide +kernel
theorem d_Wo_putField_11 : decode m_Wo_putField.2.1 11 = .ok (.iload_n 1, 1) := by decide +kernel
theorem d_Wo_putField_12 : decode m_Wo_putField.2.1 12 = .ok (.iaload, 1) := by decide +kernel
theorem d_Wo_putField_13 : decode m_Wo_putField.2.1 13 = .ok (.iadd, 1) := by decide +kernel
theorem d_Wo_putField_14 : decode m_Wo_putField.2.1 14 = .ok (.iload_n 2, 1) := by decide +kernel
theorem d_Wo_putField_15 : decode m_Wo_putField.2.1 15 = .ok (.iastore, 1) := by decide +kernel
theorem d_Wo_putField_16 : decode m_Wo_putField.2.1 16 = .ok (.aload_n 0, 1) := by decide +kernel
theorem d_Wo_putField_17 : decode m_Wo_putField.2.1 17 = .ok (.getfield 19, 3) := by decide +kernel
theorem d_Wo_putField_20 : decode m_Wo_putField.2.1 20 = .ok (.iload_n 1, 1) := by decide +kernel
theorem d_Wo_putField_21 : decode m_Wo_putField.2.1 21 = .ok (.dup2, 1) := by decide +kernel
theorem d_Wo_putField_22 : decode m_Wo_putField.2.1 22 = .ok (.iaload, 1) := by decide +kernel
theorem d_Wo_putField_23 : decode m_Wo_putField.2.1 23 = .ok (.iconst 1, 1) := by decide +kernel
theorem d_Wo_putField_24 : decode m_Wo_putField.2.1 24 = .ok (.iadd, 1) := by decide +kernel
theorem d_Wo_putField_25 : decode m_Wo_putField.2.1 25 = .ok (.iastore, 1) := by decide +kernel
theorem d_Wo_putField_26 : decode m_Wo_putField.2.1 26 = .ok (.aload_n 0, 1) := by decide +kernel
theorem d_Wo_putField_27 : decode m_Wo_putField.2.1 27 = .ok (.iload_n 1, 1) := by decide +kernel
theorem k_Wo_putField_38 : jl_cv m_Wo_putField m_Wo_fieldCount 38 1 = true := by decide +kernel
theorem d_Wo_putField_28 : decode m_Wo_putField.2.1 28 = .ok (.invokevirtual 38, 3) := by decide +kernel
theorem d_Wo_putField_31 : decode m_Wo_putField.2.1 31 = .ok (.iconst 1, 1) := by decide +kernel
theorem d_Wo_putField_32 : decode m_Wo_putField.2.1 32 = .ok (.isub, 1) := by decide +kernel
theorem d_Wo_putField_33 : decode m_Wo_putField.2.1 33 = .ok (.ireturn, 1) := by decide +kernel
theorem wo_putField (hl : l.stackTraces = false) {k t : Nat} (hw : WoAt σ tb pr ow fi ft mt) (hk : k < 6) (how : ow k < 3) (hfi : fi k ≤ 18) : jl_m l G m_Wo_putField [.ref 1, .int (nI k), .int (nI t)] σ (.inl (some (.int (nI (fi k + ow k))))) ((σ.set 6 (.inl (0, 18, .inl fun j => nI (va_up ft (k * 3 + ow k) t j)))).set 4 (.inl (0, 6, .inl fun j => nI (va_up ow k (ow k + 1) j)))) := by
  obtain ⟨hW, h2, h3, h4, h5, h6, h7⟩ := id hw
  refine jl_of (as := [.ref 1, .int (nI k), .int (nI t)]) rfl (by decide) hl (jl_cc rfl (jl_cc rfl (jl_cc rfl jl_ca))) (Nat.le_of_ble_eq_true rfl) ?_
  show jl_W l G m_Wo_putField (0, 0) 0 [some (.ref 1), some (.int (nI k)), some (.int (nI t))] [] (σ) (.inl (some (.int (nI (fi k + ow k))))) ((σ.set 6 (.inl (0, 18, .inl fun j => nI (va_up ft (k * 3 + ow k) t j)))).set 4 (.inl (0, 6, .inl fun j => nI (va_up ow k (ow k + 1) j))))
  refine jr_aload_n d_Wo_putField_0 rfl ?_
  refine jr_getf d_Wo_putField_1 f_Wo_putField_25 hW rfl ?_
  refine jr_iload_n d_Wo_putField_4 rfl ?_
  refine jr_iconst ((nI (3))) d_Wo_putField_5 (by decide) ?_
  refine jr_imulN d_Wo_putField_6 ?_
  refine jr_aload_n d_Wo_putField_7 rfl ?_
  refine jr_getf d_Wo_putField_8 f_Wo_putField_19 hW rfl ?_
  refine jr_iload_n d_Wo_putField_11 rfl ?_
  refine jr_ialdN d_Wo_putField_12 h4 (by omega) (by omega) ?_
  refine jr_iaddN d_Wo_putField_13 ?_
  refine jr_iload_n d_Wo_putField_14 rfl ?_
  refine jr_iastN d_Wo_putField_15 h6 (by omega) (by omega) ?_
  rw [show upd (fun j => nI (ft j)) (((k) * (3)) + (ow (k))) ((nI (t))) = (fun j => nI ((va_up ft (((k) * (3)) + (ow (k))) (t)) j)) from nI_up ft (((k) * (3)) + (ow (k))) (t)]
  show jl_W l G m_Wo_putField (0, 0) 16 [some (.ref 1), some (.int (nI k)), some (.int (nI t))] [] (σ.set (6) (.inl (0, 18, .inl (fun j => nI ((va_up ft (((k) * (3)) + (ow (k))) (t)) j))))) (.inl (some (.int (nI (fi k + ow k))))) ((σ.set 6 (.inl (0, 18, .inl fun j => nI (va_up ft (k * 3 + ow k) t j)))).set 4 (.inl (0, 6, .inl fun j => nI (va_up ow k (ow k + 1) j))))
  refine jr_aload_n d_Wo_putField_16 rfl ?_
  refine jr_getf d_Wo_putField_17 f_Wo_putField_19 (jl_sn (by decide) hW) rfl ?_
  refine jr_iload_n d_Wo_putField_20 rfl ?_
  refine jr_dup2 d_Wo_putField_21 rfl rfl ?_
  refine jr_ialdN d_Wo_putField_22 (jl_sn (by decide) h4) (by omega) (by omega) ?_
  refine jr_iconst ((nI (1))) d_Wo_putField_23 (by decide) ?_
  refine jr_iaddN d_Wo_putField_24 ?_
  refine jr_iastN d_Wo_putField_25 (jl_sn (by decide) h4) (by omega) (by omega) ?_
  rw [show upd (fun j => nI (ow j)) (k) ((nI ((ow (k)) + (1)))) = (fun j => nI ((va_up ow (k) ((ow (k)) + (1))) j)) from nI_up ow (k) ((ow (k)) + (1))]
  show jl_W l G m_Wo_putField (0, 0) 26 [some (.ref 1), some (.int (nI k)), some (.int (nI t))] [] ((σ.set (6) (.inl (0, 18, .inl (fun j => nI ((va_up ft (((k) * (3)) + (ow (k))) (t)) j))))).set (4) (.inl (0, 6, .inl (fun j => nI ((va_up ow (k) ((ow (k)) + (1))) j))))) (.inl (some (.int (nI (fi k + ow k))))) ((σ.set 6 (.inl (0, 18, .inl fun j => nI (va_up ft (k * 3 + ow k) t j)))).set 4 (.inl (0, 6, .inl fun j => nI (va_up ow k (ow k + 1) j))))
  refine jr_aload_n d_Wo_putField_26 rfl ?_
  refine jr_iload_n d_Wo_putField_27 rfl ?_
  refine jr_callV (As := [.int (nI k)]) d_Wo_putField_28 k_Wo_putField_38 (jl_sn (by decide) (jl_sn (by decide) hW)) rfl rfl rfl (Nat.le_of_ble_eq_true rfl) (by decide) (by decide) (wo_fc hl (WoAt.s4 (WoAt.s6 hw)) hk) ?_
  show jl_W l G m_Wo_putField (0, 0) 31 [some (.ref 1), some (.int (nI k)), some (.int (nI t))] [.int (nI (fi k + va_up ow k (ow k + 1) k))] ((σ.set (6) (.inl (0, 18, .inl (fun j => nI ((va_up ft (((k) * (3)) + (ow (k))) (t)) j))))).set (4) (.inl (0, 6, .inl (fun j => nI ((va_up ow (k) ((ow (k)) + (1))) j))))) (.inl (some (.int (nI (fi k + ow k))))) ((σ.set 6 (.inl (0, 18, .inl fun j => nI (va_up ft (k * 3 + ow k) t j)))).set 4 (.inl (0, 6, .inl fun j => nI (va_up ow k (ow k + 1) j))))
  rw [va_up_self]
  show jl_W l G m_Wo_putField (0, 0) 31 [some (.ref 1), some (.int (nI k)), some (.int (nI t))] [.int (nI (fi k + (ow k + 1)))] ((σ.set (6) (.inl (0, 18, .inl (fun j => nI ((va_up ft (((k) * (3)) + (ow (k))) (t)) j))))).set (4) (.inl (0, 6, .inl (fun j => nI ((va_up ow (k) ((ow (k)) + (1))) j))))) (.inl (some (.int (nI (fi k + ow k))))) ((σ.set 6 (.inl (0, 18, .inl fun j => nI (va_up ft (k * 3 + ow k) t j)))).set 4 (.inl (0, 6, .inl fun j => nI (va_up ow k (ow k + 1) j))))
  refine jr_iconst ((nI (1))) d_Wo_putField_31 (by decide) ?_
  refine jr_isubN d_Wo_putField_32 (by omega) ?_
  exact jr_iretE d_Wo_putField_33 rfl (rfl) (rfl) (by decide) (by decide)
theorem d_Wo_putMethod_0 : decode m_Wo_putMethod.2.1 0 = .ok (.aload_n 0, 1) := by decide +kernel
theorem f_Wo_putMethod_30 : jl_fd m_Wo_putMethod 30 5 5 = true := by decide +kernel
theorem d_Wo_putMethod_1 : decode m_Wo_putMethod.2.1 1 = .ok (.getfield 30, 3) := by decide +kernel
theorem d_Wo_putMethod_4 : decode m_Wo_putMethod.2.1 4 = .ok (.iload_n 1, 1) := by decide +kernel
theorem d_Wo_putMethod_5 : decode m_Wo_putMethod.2.1 5 = .ok (.iconst 4, 1) := by decide +kernel
theorem d_Wo_putMethod_6 : decode m_Wo_putMethod.2.1 6 = .ok (.imul, 1) := by decide +kernel
theorem d_Wo_putMethod_7 : decode m_Wo_putMethod.2.1 7 = .ok (.iload_n 2, 1) := by decide +kernel
theorem d_Wo_putMethod_8 : decode m_Wo_putMethod.2.1 8 = .ok (.iadd, 1) := by decide +kernel
theorem d_Wo_putMethod_9 : decode m_Wo_putMethod.2.1 9 = .ok (.aload_n 3, 1) := by decide +kernel
theorem d_Wo_putMethod_10 : decode m_Wo_putMethod.2.1 10 = .ok (.aastore, 1) := by decide +kernel
theorem d_Wo_putMethod_11 : decode m_Wo_putMethod.2.1 11 = .ok (.return_, 1) := by decide +kernel
theorem wo_putMethod (hl : l.stackTraces = false) {k sl a : Nat} {fs : List Value} (hw : WoAt σ tb pr ow fi ft mt) (hk : k < 6) (hs : sl < 4) (ha : σ[a]? = some (.inr (2, fs))) : jl_m l G m_Wo_putMethod [.ref 1, .int (nI k), .int (nI sl), .ref a] σ (.inl none) (σ.set 7 (.inl (3, 24, .inr (.inr (.inr (.inr (va_up mt (k * 4 + sl) (some a)))))))) := by
  obtain ⟨hW, h2, h3, h4, h5, h6, h7⟩ := id hw
  refine jl_of (as := [.ref 1, .int (nI k), .int (nI sl), .ref a]) rfl (by decide) hl (jl_cc rfl (jl_cc rfl (jl_cc rfl (jl_cc rfl jl_ca)))) (Nat.le_of_ble_eq_true rfl) ?_
  show jl_W l G m_Wo_putMethod (0, 0) 0 [some (.ref 1), some (.int (nI k)), some (.int (nI sl)), some (.ref a)] [] (σ) (.inl none) (σ.set 7 (.inl (3, 24, .inr (.inr (.inr (.inr (va_up mt (k * 4 + sl) (some a))))))))
  refine jr_aload_n d_Wo_putMethod_0 rfl ?_
  refine jr_getf d_Wo_putMethod_1 f_Wo_putMethod_30 hW rfl ?_
  refine jr_iload_n d_Wo_putMethod_4 rfl ?_
  refine jr_iconst ((nI (4))) d_Wo_putMethod_5 (by decide) ?_
  refine jr_imulN d_Wo_putMethod_6 ?_
  refine jr_iload_n d_Wo_putMethod_7 rfl ?_
  refine jr_iaddN d_Wo_putMethod_8 ?_
  refine jr_aload_n d_Wo_putMethod_9 rfl ?_
  refine jr_aastN d_Wo_putMethod_10 h7 ha (by omega) (by omega) ?_
  show jl_W l G m_Wo_putMethod (0, 0) 11 [some (.ref 1), some (.int (nI k)), some (.int (nI sl)), some (.ref a)] [] (σ.set (7) (.inl (3, 24, .inr (.inr (.inr (.inr (va_up (mt) (((k) * (4)) + (sl)) (some (a))))))))) (.inl none) (σ.set 7 (.inl (3, 24, .inr (.inr (.inr (.inr (va_up mt (k * 4 + sl) (some a))))))))
  exact jr_vretE d_Wo_putMethod_11 rfl (rfl) (rfl) (by decide) (by decide)
end JWs
