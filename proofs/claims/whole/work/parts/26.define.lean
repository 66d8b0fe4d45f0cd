/-! JavaChain (wip/gen/p26.py) -/
section JDf
variable {l : Launch} {G : jl_G} {σ : jl_S} {tb : Nat → Bool} {pr : Nat → Option Nat} {ow fi ft : Nat → Nat} {mt : Nat → Option Nat} {vf : Bool}
theorem wo_hasN (hl : l.stackTraces = false) {k : Nat} (hw : WoAt σ tb pr ow fi ft mt) (hk : k < 6) : jl_m l G m_Wo_has [.ref 1, .int (nI k)] σ (.inl (some (.int (bi (tb k))))) σ := by
  have q := wo_has (G := G) (k := nI k) hl hw
  rw [hasI_n hk] at q
  exact q
theorem jc_state1 (hl : l.stackTraces = false) : jl_m l G m_JC_needState [.int (nI 1)] σ (.inl none) σ := jc_state (b := true) hl
theorem jc_state0 (hl : l.stackTraces = false) : jl_m l G m_JC_needState [.int (nI 0)] σ (.inr xS) σ := jc_state (b := false) hl
theorem jc_thereT (hl : l.stackTraces = false) {b : Bool} (h : b = true) : jl_m l G m_JC_needThere [.int (bi b)] σ (.inl none) σ := by subst h; exact jc_there (b := true) hl
theorem jc_thereX (hl : l.stackTraces = false) {b : Bool} (h : b = false) : jl_m l G m_JC_needThere [.int (bi b)] σ (.inr xN) σ := by subst h; exact jc_there (b := false) hl
theorem jc_typeT (hl : l.stackTraces = false) {t : Int32} (h : isTyp t = true) : jl_m l G m_JC_needType [.int t] σ (.inl none) σ := by have q := jc_type (G := G) (σ := σ) hl (t := t); rw [h] at q; exact q
theorem jc_typeX (hl : l.stackTraces = false) {t : Int32} (h : isTyp t = false) : jl_m l G m_JC_needType [.int t] σ (.inr xA) σ := by have q := jc_type (G := G) (σ := σ) hl (t := t); rw [h] at q; exact q
theorem d_JC_define_0 : decode m_JC_define.2.1 0 = .ok (.iload_n 1, 1) := by decide +kernel
theorem d_JC_define_1 : decode m_JC_define.2.1 1 = .ok (.iconst 0, 1) := by decide +kernel
theorem d_JC_define_2 : decode m_JC_define.2.1 2 = .ok (.iconst 5, 1) := by decide +kernel
theorem k_JC_define_41 : jl_cz m_JC_define m_JC_needRange 41 3 = true := by decide +kernel
theorem d_JC_define_3 : decode m_JC_define.2.1 3 = .ok (.invokestatic 41, 3) := by decide +kernel
theorem jc_define_A (hl : l.stackTraces = false) {k b : Int32} (hj : JcAt σ vf) (hw : WoAt σ tb pr ow fi ft mt) (h : k < nI 0 ∨ nI 5 < k) : jl_m l G m_JC_define [.ref 0, .int (k), .int (b)] σ (.inr xA) (σ) := by
  obtain ⟨hW, h2, h3, h4, h5, h6, h7⟩ := id hw; have h0 := hj
  refine jl_of (as := [.ref 0, .int (k), .int (b)]) rfl (by decide) hl (jl_cc rfl (jl_cc rfl (jl_cc rfl jl_ca))) (Nat.le_of_ble_eq_true rfl) ?_
  show jl_W l G m_JC_define (0, 0) 0 [some (.ref 0), some (.int (k)), some (.int (b))] [] (σ) (.inr xA) (σ)
  refine jr_iload_n d_JC_define_0 rfl ?_
  refine jr_iconst ((nI (0))) d_JC_define_1 (by decide) ?_
  refine jr_iconst ((nI (5))) d_JC_define_2 (by decide) ?_
  exact jl_oeq (rfl) (jl_seq (rfl) (jr_callSX (As := [.int (k), .int (nI 0), .int (nI 5)]) d_JC_define_3 k_JC_define_41 rfl rfl (Nat.le_of_ble_eq_true rfl) (by decide) (by decide) (jc_rangeX hl h)))
theorem d_JC_define_6 : decode m_JC_define.2.1 6 = .ok (.iload_n 2, 1) := by decide +kernel
theorem d_JC_define_7 : decode m_JC_define.2.1 7 = .ok (.iconst (-1), 1) := by decide +kernel
theorem d_JC_define_8 : decode m_JC_define.2.1 8 = .ok (.iconst 5, 1) := by decide +kernel
theorem d_JC_define_9 : decode m_JC_define.2.1 9 = .ok (.invokestatic 41, 3) := by decide +kernel
theorem jc_define_B (hl : l.stackTraces = false) {k : Nat} {b : Int32} (hj : JcAt σ vf) (hw : WoAt σ tb pr ow fi ft mt) (hk : k < 6) (h : b < -1 ∨ nI 5 < b) : jl_m l G m_JC_define [.ref 0, .int (nI k), .int (b)] σ (.inr xA) (σ) := by
  obtain ⟨hW, h2, h3, h4, h5, h6, h7⟩ := id hw; have h0 := hj
  refine jl_of (as := [.ref 0, .int (nI k), .int (b)]) rfl (by decide) hl (jl_cc rfl (jl_cc rfl (jl_cc rfl jl_ca))) (Nat.le_of_ble_eq_true rfl) ?_
  show jl_W l G m_JC_define (0, 0) 0 [some (.ref 0), some (.int (nI k)), some (.int (b))] [] (σ) (.inr xA) (σ)
  refine jr_iload_n d_JC_define_0 rfl ?_
  refine jr_iconst ((nI (0))) d_JC_define_1 (by decide) ?_
  refine jr_iconst ((nI (5))) d_JC_define_2 (by decide) ?_
  refine jr_callS (As := [.int (nI k), .int (nI 0), .int (nI 5)]) d_JC_define_3 k_JC_define_41 rfl (Nat.le_of_ble_eq_true rfl) (by decide) (by decide) (jc_range hl (rg_ok (by omega) (by decide))) ?_
  show jl_W l G m_JC_define (1, 6) 6 [some (.ref 0), some (.int (nI k)), some (.int (b))] [] (σ) (.inr xA) (σ)
  refine jr_iload_n d_JC_define_6 rfl ?_
  refine jr_iconst ((-1)) d_JC_define_7 (by decide) ?_
  refine jr_iconst ((nI (5))) d_JC_define_8 (by decide) ?_
  exact jl_oeq (rfl) (jl_seq (rfl) (jr_callSX (As := [.int (b), .int (-1), .int (nI 5)]) d_JC_define_9 k_JC_define_41 rfl rfl (Nat.le_of_ble_eq_true rfl) (by decide) (by decide) (jc_rangeX hl h)))
theorem d_JC_define_12 : decode m_JC_define.2.1 12 = .ok (.aload_n 0, 1) := by decide +kernel
theorem f_JC_define_12 : jl_fd m_JC_define 12 6 0 = true := by decide +kernel
theorem d_JC_define_13 : decode m_JC_define.2.1 13 = .ok (.getfield 12, 3) := by decide +kernel
theorem d_JC_define_16 : decode m_JC_define.2.1 16 = .ok (.iload_n 1, 1) := by decide +kernel
theorem k_JC_define_45 : jl_cv m_JC_define m_Wo_has 45 1 = true := by decide +kernel
theorem d_JC_define_17 : decode m_JC_define.2.1 17 = .ok (.invokevirtual 45, 3) := by decide +kernel
theorem d_JC_define_20 : decode m_JC_define.2.1 20 = .ok (.ifCond .ne 28, 3) := by decide +kernel
theorem d_JC_define_48 : decode m_JC_define.2.1 48 = .ok (.iconst 0, 1) := by decide +kernel
theorem k_JC_define_49 : jl_cz m_JC_define m_JC_needState 49 1 = true := by decide +kernel
theorem d_JC_define_49 : decode m_JC_define.2.1 49 = .ok (.invokestatic 49, 3) := by decide +kernel
theorem d_JC_define_23 : decode m_JC_define.2.1 23 = .ok (.iload_n 2, 1) := by decide +kernel
theorem d_JC_define_24 : decode m_JC_define.2.1 24 = .ok (.iconst (-1), 1) := by decide +kernel
theorem d_JC_define_25 : decode m_JC_define.2.1 25 = .ok (.if_icmp .eq 19, 3) := by decide +kernel
theorem d_JC_define_44 : decode m_JC_define.2.1 44 = .ok (.iconst 1, 1) := by decide +kernel
theorem d_JC_define_45 : decode m_JC_define.2.1 45 = .ok (.goto 4, 3) := by decide +kernel
theorem d_JC_define_52 : decode m_JC_define.2.1 52 = .ok (.aload_n 0, 1) := by decide +kernel
theorem d_JC_define_53 : decode m_JC_define.2.1 53 = .ok (.getfield 12, 3) := by decide +kernel
theorem d_JC_define_56 : decode m_JC_define.2.1 56 = .ok (.iload_n 1, 1) := by decide +kernel
theorem d_JC_define_57 : decode m_JC_define.2.1 57 = .ok (.iload_n 2, 1) := by decide +kernel
theorem k_JC_define_53 : jl_cv m_JC_define m_Wo_putClass 53 2 = true := by decide +kernel
theorem d_JC_define_58 : decode m_JC_define.2.1 58 = .ok (.invokevirtual 53, 3) := by decide +kernel
theorem d_JC_define_61 : decode m_JC_define.2.1 61 = .ok (.aload_n 0, 1) := by decide +kernel
theorem d_JC_define_62 : decode m_JC_define.2.1 62 = .ok (.iconst 0, 1) := by decide +kernel
theorem p_JC_define_37 : jl_fp m_JC_define 37 6 3 = true := by decide +kernel
theorem d_JC_define_63 : decode m_JC_define.2.1 63 = .ok (.putfield 37, 3) := by decide +kernel
theorem d_JC_define_66 : decode m_JC_define.2.1 66 = .ok (.aload_n 0, 1) := by decide +kernel
theorem d_JC_define_67 : decode m_JC_define.2.1 67 = .ok (.getfield 12, 3) := by decide +kernel
theorem k_JC_define_57 : jl_cv m_JC_define m_Wo_classCount 57 0 = true := by decide +kernel
theorem d_JC_define_70 : decode m_JC_define.2.1 70 = .ok (.invokevirtual 57, 3) := by decide +kernel
theorem d_JC_define_73 : decode m_JC_define.2.1 73 = .ok (.ireturn, 1) := by decide +kernel
theorem d_JC_define_28 : decode m_JC_define.2.1 28 = .ok (.iload_n 2, 1) := by decide +kernel
theorem d_JC_define_29 : decode m_JC_define.2.1 29 = .ok (.iload_n 1, 1) := by decide +kernel
theorem d_JC_define_30 : decode m_JC_define.2.1 30 = .ok (.if_icmp .ge 18, 3) := by decide +kernel
theorem d_JC_define_33 : decode m_JC_define.2.1 33 = .ok (.aload_n 0, 1) := by decide +kernel
theorem d_JC_define_34 : decode m_JC_define.2.1 34 = .ok (.getfield 12, 3) := by decide +kernel
theorem d_JC_define_37 : decode m_JC_define.2.1 37 = .ok (.iload_n 2, 1) := by decide +kernel
theorem d_JC_define_38 : decode m_JC_define.2.1 38 = .ok (.invokevirtual 45, 3) := by decide +kernel
theorem d_JC_define_41 : decode m_JC_define.2.1 41 = .ok (.ifCond .eq 7, 3) := by decide +kernel
theorem jc_define (hl : l.stackTraces = false) {k : Nat} {b : Option Nat} (hj : JcAt σ vf) (hw : WoAt σ tb pr ow fi ft mt) (hk : k < 6) (hb : ob 6 b) (hfi : ∀ j, j < 6 → fi j ≤ 18) : jl_m l G m_JC_define [.ref 0, .int (nI k), .int (en b)] σ (if dfOk tb k b = true then .inl (some (.int (nI (cnt (va_up tb k true) 6 0)))) else .inr xS) (if dfOk tb k b = true then (((σ.set 2 (.inl (1, 6, .inl fun j => bi (va_up tb k true j)))).set 3 (.inl (0, 6, .inl fun j => en (va_up pr k b j)))).set 5 (.inl (0, 6, .inl fun j => nI (va_up fi k (fcO fi ow b) j)))).set 0 (.inr (6, [.ref 1, .ref 9, .ref 13, .int (nI 0)])) else σ) := by
  obtain ⟨hW, h2, h3, h4, h5, h6, h7⟩ := id hw; have h0 := hj
  refine jl_of (as := [.ref 0, .int (nI k), .int (en b)]) rfl (by decide) hl (jl_cc rfl (jl_cc rfl (jl_cc rfl jl_ca))) (Nat.le_of_ble_eq_true rfl) ?_
  show jl_W l G m_JC_define (0, 0) 0 [some (.ref 0), some (.int (nI k)), some (.int (en b))] [] (σ) (if dfOk tb k b = true then .inl (some (.int (nI (cnt (va_up tb k true) 6 0)))) else .inr xS) (if dfOk tb k b = true then (((σ.set 2 (.inl (1, 6, .inl fun j => bi (va_up tb k true j)))).set 3 (.inl (0, 6, .inl fun j => en (va_up pr k b j)))).set 5 (.inl (0, 6, .inl fun j => nI (va_up fi k (fcO fi ow b) j)))).set 0 (.inr (6, [.ref 1, .ref 9, .ref 13, .int (nI 0)])) else σ)
  refine jr_iload_n d_JC_define_0 rfl ?_
  refine jr_iconst ((nI (0))) d_JC_define_1 (by decide) ?_
  refine jr_iconst ((nI (5))) d_JC_define_2 (by decide) ?_
  refine jr_callS (As := [.int (nI k), .int (nI 0), .int (nI 5)]) d_JC_define_3 k_JC_define_41 rfl (Nat.le_of_ble_eq_true rfl) (by decide) (by decide) (jc_range hl (rg_ok (by omega) (by decide))) ?_
  show jl_W l G m_JC_define (1, 6) 6 [some (.ref 0), some (.int (nI k)), some (.int (en b))] [] (σ) (if dfOk tb k b = true then .inl (some (.int (nI (cnt (va_up tb k true) 6 0)))) else .inr xS) (if dfOk tb k b = true then (((σ.set 2 (.inl (1, 6, .inl fun j => bi (va_up tb k true j)))).set 3 (.inl (0, 6, .inl fun j => en (va_up pr k b j)))).set 5 (.inl (0, 6, .inl fun j => nI (va_up fi k (fcO fi ow b) j)))).set 0 (.inr (6, [.ref 1, .ref 9, .ref 13, .int (nI 0)])) else σ)
  refine jr_iload_n d_JC_define_6 rfl ?_
  refine jr_iconst ((-1)) d_JC_define_7 (by decide) ?_
  refine jr_iconst ((nI (5))) d_JC_define_8 (by decide) ?_
  refine jr_callS (As := [.int (en b), .int (-1), .int (nI 5)]) d_JC_define_9 k_JC_define_41 rfl (Nat.le_of_ble_eq_true rfl) (by decide) (by decide) (jc_range hl (rg_en (n := 5) hb (by decide))) ?_
  show jl_W l G m_JC_define (2, 12) 12 [some (.ref 0), some (.int (nI k)), some (.int (en b))] [] (σ) (if dfOk tb k b = true then .inl (some (.int (nI (cnt (va_up tb k true) 6 0)))) else .inr xS) (if dfOk tb k b = true then (((σ.set 2 (.inl (1, 6, .inl fun j => bi (va_up tb k true j)))).set 3 (.inl (0, 6, .inl fun j => en (va_up pr k b j)))).set 5 (.inl (0, 6, .inl fun j => nI (va_up fi k (fcO fi ow b) j)))).set 0 (.inr (6, [.ref 1, .ref 9, .ref 13, .int (nI 0)])) else σ)
  refine jr_aload_n d_JC_define_12 rfl ?_
  refine jr_getf d_JC_define_13 f_JC_define_12 h0 rfl ?_
  refine jr_iload_n d_JC_define_16 rfl ?_
  refine jr_callV (As := [.int (nI k)]) d_JC_define_17 k_JC_define_45 hW rfl rfl rfl (Nat.le_of_ble_eq_true rfl) (by decide) (by decide) (wo_hasN hl hw hk) ?_
  show jl_W l G m_JC_define (2, 12) 20 [some (.ref 0), some (.int (nI k)), some (.int (en b))] [.int (bi (tb k))] (σ) (if dfOk tb k b = true then .inl (some (.int (nI (cnt (va_up tb k true) 6 0)))) else .inr xS) (if dfOk tb k b = true then (((σ.set 2 (.inl (1, 6, .inl fun j => bi (va_up tb k true j)))).set 3 (.inl (0, 6, .inl fun j => en (va_up pr k b j)))).set 5 (.inl (0, 6, .inl fun j => nI (va_up fi k (fcO fi ow b) j)))).set 0 (.inr (6, [.ref 1, .ref 9, .ref 13, .int (nI 0)])) else σ)
  refine jr_if_ne 48 d_JC_define_20 (by decide) (fun c1 => ?_) (fun c1 => ?_)
  · refine jr_iconst ((nI (0))) d_JC_define_48 (by decide) ?_
    exact jl_oeq (by rw [if_neg (show ¬ dfOk tb k b = true by simp [dfOk, bi_nf c1])]) (jl_seq (by rw [if_neg (show ¬ dfOk tb k b = true by simp [dfOk, bi_nf c1])]) (jr_callSX (As := [.int (nI 0)]) d_JC_define_49 k_JC_define_49 rfl rfl (Nat.le_of_ble_eq_true rfl) (by decide) (by decide) (jc_state0 hl)))
  · cases b with
    | none =>
      show jl_W l G m_JC_define (2, 12) 23 [some (.ref 0), some (.int (nI k)), some (.int (-1))] [] (σ) (if dfOk tb k none = true then .inl (some (.int (nI (cnt (va_up tb k true) 6 0)))) else .inr xS) (if dfOk tb k none = true then (((σ.set 2 (.inl (1, 6, .inl fun j => bi (va_up tb k true j)))).set 3 (.inl (0, 6, .inl fun j => en (va_up pr k none j)))).set 5 (.inl (0, 6, .inl fun j => nI (va_up fi k (fcO fi ow none) j)))).set 0 (.inr (6, [.ref 1, .ref 9, .ref 13, .int (nI 0)])) else σ)
      refine jr_iload_n d_JC_define_23 rfl ?_
      refine jr_iconst ((-1)) d_JC_define_24 (by decide) ?_
      refine jr_icmp_eq 44 d_JC_define_25 (by decide) (fun _ => ?_) (fun z => absurd (by decide) z)
      refine jr_iconst ((nI (1))) d_JC_define_44 (by decide) ?_
      refine jr_goto 49 d_JC_define_45 (by decide) ?_
      refine jr_callS (As := [.int (nI 1)]) d_JC_define_49 k_JC_define_49 rfl (Nat.le_of_ble_eq_true rfl) (by decide) (by decide) (jc_state1 hl) ?_
      show jl_W l G m_JC_define (3, 18) 52 [some (.ref 0), some (.int (nI k)), some (.int (-1))] [] (σ) (if dfOk tb k none = true then .inl (some (.int (nI (cnt (va_up tb k true) 6 0)))) else .inr xS) (if dfOk tb k none = true then (((σ.set 2 (.inl (1, 6, .inl fun j => bi (va_up tb k true j)))).set 3 (.inl (0, 6, .inl fun j => en (va_up pr k none j)))).set 5 (.inl (0, 6, .inl fun j => nI (va_up fi k (fcO fi ow none) j)))).set 0 (.inr (6, [.ref 1, .ref 9, .ref 13, .int (nI 0)])) else σ)
      refine jr_aload_n d_JC_define_52 rfl ?_
      refine jr_getf d_JC_define_53 f_JC_define_12 h0 rfl ?_
      refine jr_iload_n d_JC_define_56 rfl ?_
      refine jr_iload_n d_JC_define_57 rfl ?_
      refine jr_callV (As := [.int (nI k), .int (-1)]) d_JC_define_58 k_JC_define_53 hW rfl rfl rfl (Nat.le_of_ble_eq_true rfl) (by decide) (by decide) (wo_putClass (b := none) hl hw hk hb (by simp) hfi) ?_
      show jl_W l G m_JC_define (3, 18) 61 [some (.ref 0), some (.int (nI k)), some (.int (-1))] [] (((σ.set (2) (.inl (1, 6, .inl (fun j => bi ((va_up tb k true) j))))).set (3) (.inl (0, 6, .inl (fun j => en ((va_up pr k none) j))))).set (5) (.inl (0, 6, .inl (fun j => nI ((va_up fi k (fcO fi ow none)) j))))) (if dfOk tb k none = true then .inl (some (.int (nI (cnt (va_up tb k true) 6 0)))) else .inr xS) (if dfOk tb k none = true then (((σ.set 2 (.inl (1, 6, .inl fun j => bi (va_up tb k true j)))).set 3 (.inl (0, 6, .inl fun j => en (va_up pr k none j)))).set 5 (.inl (0, 6, .inl fun j => nI (va_up fi k (fcO fi ow none) j)))).set 0 (.inr (6, [.ref 1, .ref 9, .ref 13, .int (nI 0)])) else σ)
      refine jr_aload_n d_JC_define_61 rfl ?_
      refine jr_iconst ((nI (0))) d_JC_define_62 (by decide) ?_
      refine jr_putf d_JC_define_63 p_JC_define_37 (jl_sn (by decide) (jl_sn (by decide) (jl_sn (by decide) h0))) (Nat.le_of_ble_eq_true rfl) jl_fit_b0 ?_
      show jl_W l G m_JC_define (3, 18) 66 [some (.ref 0), some (.int (nI k)), some (.int (-1))] [] ((((σ.set (2) (.inl (1, 6, .inl (fun j => bi ((va_up tb k true) j))))).set (3) (.inl (0, 6, .inl (fun j => en ((va_up pr k none) j))))).set (5) (.inl (0, 6, .inl (fun j => nI ((va_up fi k (fcO fi ow none)) j))))).set (0) (.inr (6, [.ref 1, .ref 9, .ref 13, .int (nI 0)]))) (if dfOk tb k none = true then .inl (some (.int (nI (cnt (va_up tb k true) 6 0)))) else .inr xS) (if dfOk tb k none = true then (((σ.set 2 (.inl (1, 6, .inl fun j => bi (va_up tb k true j)))).set 3 (.inl (0, 6, .inl fun j => en (va_up pr k none j)))).set 5 (.inl (0, 6, .inl fun j => nI (va_up fi k (fcO fi ow none) j)))).set 0 (.inr (6, [.ref 1, .ref 9, .ref 13, .int (nI 0)])) else σ)
      refine jr_aload_n d_JC_define_66 rfl ?_
      refine jr_getf d_JC_define_67 f_JC_define_12 (jl_ss (jl_sn (by decide) (jl_sn (by decide) (jl_sn (by decide) h0)))) rfl ?_
      refine jr_callV (As := []) d_JC_define_70 k_JC_define_57 (jl_sn (by decide) (jl_sn (by decide) (jl_sn (by decide) (jl_sn (by decide) hW)))) rfl rfl rfl (Nat.le_of_ble_eq_true rfl) (by decide) (by decide) (wo_count hl (WoAt.s0 (WoAt.s5 (WoAt.s3 (WoAt.s2 hw))))) ?_
      show jl_W l G m_JC_define (3, 18) 73 [some (.ref 0), some (.int (nI k)), some (.int (-1))] [.int (nI (cnt (va_up tb k true) 6 0))] ((((σ.set (2) (.inl (1, 6, .inl (fun j => bi ((va_up tb k true) j))))).set (3) (.inl (0, 6, .inl (fun j => en ((va_up pr k none) j))))).set (5) (.inl (0, 6, .inl (fun j => nI ((va_up fi k (fcO fi ow none)) j))))).set (0) (.inr (6, [.ref 1, .ref 9, .ref 13, .int (nI 0)]))) (if dfOk tb k none = true then .inl (some (.int (nI (cnt (va_up tb k true) 6 0)))) else .inr xS) (if dfOk tb k none = true then (((σ.set 2 (.inl (1, 6, .inl fun j => bi (va_up tb k true j)))).set 3 (.inl (0, 6, .inl fun j => en (va_up pr k none j)))).set 5 (.inl (0, 6, .inl fun j => nI (va_up fi k (fcO fi ow none) j)))).set 0 (.inr (6, [.ref 1, .ref 9, .ref 13, .int (nI 0)])) else σ)
      exact jr_iretE d_JC_define_73 rfl (by rw [if_pos (show dfOk tb k none = true by simp [dfOk, bi_0.mp c1])]) (by rw [if_pos (show dfOk tb k none = true by simp [dfOk, bi_0.mp c1])]) (by decide) (by decide)
    | some q =>
      have hq := hb q rfl
      show jl_W l G m_JC_define (2, 12) 23 [some (.ref 0), some (.int (nI k)), some (.int (nI q))] [] (σ) (if dfOk tb k (some q) = true then .inl (some (.int (nI (cnt (va_up tb k true) 6 0)))) else .inr xS) (if dfOk tb k (some q) = true then (((σ.set 2 (.inl (1, 6, .inl fun j => bi (va_up tb k true j)))).set 3 (.inl (0, 6, .inl fun j => en (va_up pr k (some q) j)))).set 5 (.inl (0, 6, .inl fun j => nI (va_up fi k (fcO fi ow (some q)) j)))).set 0 (.inr (6, [.ref 1, .ref 9, .ref 13, .int (nI 0)])) else σ)
      refine jr_iload_n d_JC_define_23 rfl ?_
      refine jr_iconst ((-1)) d_JC_define_24 (by decide) ?_
      refine jr_icmp_eq 44 d_JC_define_25 (by decide) (fun z => absurd z (en_m1ne (by omega))) (fun _ => ?_)
      refine jr_iload_n d_JC_define_28 rfl ?_
      refine jr_iload_n d_JC_define_29 rfl ?_
      refine jr_icmp_geN 48 d_JC_define_30 (by decide) (by omega) (by omega) (fun c2 => ?_) (fun c2 => ?_)
      · refine jr_iconst ((nI (0))) d_JC_define_48 (by decide) ?_
        exact jl_oeq (by rw [if_neg (show ¬ dfOk tb k (some q) = true by simp [dfOk, bi_0.mp c1, show ¬ q < k by omega])]) (jl_seq (by rw [if_neg (show ¬ dfOk tb k (some q) = true by simp [dfOk, bi_0.mp c1, show ¬ q < k by omega])]) (jr_callSX (As := [.int (nI 0)]) d_JC_define_49 k_JC_define_49 rfl rfl (Nat.le_of_ble_eq_true rfl) (by decide) (by decide) (jc_state0 hl)))
      · refine jr_aload_n d_JC_define_33 rfl ?_
        refine jr_getf d_JC_define_34 f_JC_define_12 h0 rfl ?_
        refine jr_iload_n d_JC_define_37 rfl ?_
        refine jr_callV (As := [.int (nI q)]) d_JC_define_38 k_JC_define_45 hW rfl rfl rfl (Nat.le_of_ble_eq_true rfl) (by decide) (by decide) (wo_hasN hl hw hq) ?_
        show jl_W l G m_JC_define (2, 12) 41 [some (.ref 0), some (.int (nI k)), some (.int (nI q))] [.int (bi (tb q))] (σ) (if dfOk tb k (some q) = true then .inl (some (.int (nI (cnt (va_up tb k true) 6 0)))) else .inr xS) (if dfOk tb k (some q) = true then (((σ.set 2 (.inl (1, 6, .inl fun j => bi (va_up tb k true j)))).set 3 (.inl (0, 6, .inl fun j => en (va_up pr k (some q) j)))).set 5 (.inl (0, 6, .inl fun j => nI (va_up fi k (fcO fi ow (some q)) j)))).set 0 (.inr (6, [.ref 1, .ref 9, .ref 13, .int (nI 0)])) else σ)
        refine jr_if_eq 48 d_JC_define_41 (by decide) (fun c3 => ?_) (fun c3 => ?_)
        · refine jr_iconst ((nI (0))) d_JC_define_48 (by decide) ?_
          exact jl_oeq (by rw [if_neg (show ¬ dfOk tb k (some q) = true by simp [dfOk, bi_0.mp c1, show q < k by omega, bi_0.mp c3])]) (jl_seq (by rw [if_neg (show ¬ dfOk tb k (some q) = true by simp [dfOk, bi_0.mp c1, show q < k by omega, bi_0.mp c3])]) (jr_callSX (As := [.int (nI 0)]) d_JC_define_49 k_JC_define_49 rfl rfl (Nat.le_of_ble_eq_true rfl) (by decide) (by decide) (jc_state0 hl)))
        · refine jr_iconst ((nI (1))) d_JC_define_44 (by decide) ?_
          refine jr_goto 49 d_JC_define_45 (by decide) ?_
          refine jr_callS (As := [.int (nI 1)]) d_JC_define_49 k_JC_define_49 rfl (Nat.le_of_ble_eq_true rfl) (by decide) (by decide) (jc_state1 hl) ?_
          show jl_W l G m_JC_define (3, 18) 52 [some (.ref 0), some (.int (nI k)), some (.int (nI q))] [] (σ) (if dfOk tb k (some q) = true then .inl (some (.int (nI (cnt (va_up tb k true) 6 0)))) else .inr xS) (if dfOk tb k (some q) = true then (((σ.set 2 (.inl (1, 6, .inl fun j => bi (va_up tb k true j)))).set 3 (.inl (0, 6, .inl fun j => en (va_up pr k (some q) j)))).set 5 (.inl (0, 6, .inl fun j => nI (va_up fi k (fcO fi ow (some q)) j)))).set 0 (.inr (6, [.ref 1, .ref 9, .ref 13, .int (nI 0)])) else σ)
          refine jr_aload_n d_JC_define_52 rfl ?_
          refine jr_getf d_JC_define_53 f_JC_define_12 h0 rfl ?_
          refine jr_iload_n d_JC_define_56 rfl ?_
          refine jr_iload_n d_JC_define_57 rfl ?_
          refine jr_callV (As := [.int (nI k), .int (nI q)]) d_JC_define_58 k_JC_define_53 hW rfl rfl rfl (Nat.le_of_ble_eq_true rfl) (by decide) (by decide) (wo_putClass (b := (some q)) hl hw hk hb (fun z => by cases z; omega) hfi) ?_
          show jl_W l G m_JC_define (3, 18) 61 [some (.ref 0), some (.int (nI k)), some (.int (nI q))] [] (((σ.set (2) (.inl (1, 6, .inl (fun j => bi ((va_up tb k true) j))))).set (3) (.inl (0, 6, .inl (fun j => en ((va_up pr k (some q)) j))))).set (5) (.inl (0, 6, .inl (fun j => nI ((va_up fi k (fcO fi ow (some q))) j))))) (if dfOk tb k (some q) = true then .inl (some (.int (nI (cnt (va_up tb k true) 6 0)))) else .inr xS) (if dfOk tb k (some q) = true then (((σ.set 2 (.inl (1, 6, .inl fun j => bi (va_up tb k true j)))).set 3 (.inl (0, 6, .inl fun j => en (va_up pr k (some q) j)))).set 5 (.inl (0, 6, .inl fun j => nI (va_up fi k (fcO fi ow (some q)) j)))).set 0 (.inr (6, [.ref 1, .ref 9, .ref 13, .int (nI 0)])) else σ)
          refine jr_aload_n d_JC_define_61 rfl ?_
          refine jr_iconst ((nI (0))) d_JC_define_62 (by decide) ?_
          refine jr_putf d_JC_define_63 p_JC_define_37 (jl_sn (by decide) (jl_sn (by decide) (jl_sn (by decide) h0))) (Nat.le_of_ble_eq_true rfl) jl_fit_b0 ?_
          show jl_W l G m_JC_define (3, 18) 66 [some (.ref 0), some (.int (nI k)), some (.int (nI q))] [] ((((σ.set (2) (.inl (1, 6, .inl (fun j => bi ((va_up tb k true) j))))).set (3) (.inl (0, 6, .inl (fun j => en ((va_up pr k (some q)) j))))).set (5) (.inl (0, 6, .inl (fun j => nI ((va_up fi k (fcO fi ow (some q))) j))))).set (0) (.inr (6, [.ref 1, .ref 9, .ref 13, .int (nI 0)]))) (if dfOk tb k (some q) = true then .inl (some (.int (nI (cnt (va_up tb k true) 6 0)))) else .inr xS) (if dfOk tb k (some q) = true then (((σ.set 2 (.inl (1, 6, .inl fun j => bi (va_up tb k true j)))).set 3 (.inl (0, 6, .inl fun j => en (va_up pr k (some q) j)))).set 5 (.inl (0, 6, .inl fun j => nI (va_up fi k (fcO fi ow (some q)) j)))).set 0 (.inr (6, [.ref 1, .ref 9, .ref 13, .int (nI 0)])) else σ)
          refine jr_aload_n d_JC_define_66 rfl ?_
          refine jr_getf d_JC_define_67 f_JC_define_12 (jl_ss (jl_sn (by decide) (jl_sn (by decide) (jl_sn (by decide) h0)))) rfl ?_
          refine jr_callV (As := []) d_JC_define_70 k_JC_define_57 (jl_sn (by decide) (jl_sn (by decide) (jl_sn (by decide) (jl_sn (by decide) hW)))) rfl rfl rfl (Nat.le_of_ble_eq_true rfl) (by decide) (by decide) (wo_count hl (WoAt.s0 (WoAt.s5 (WoAt.s3 (WoAt.s2 hw))))) ?_
          show jl_W l G m_JC_define (3, 18) 73 [some (.ref 0), some (.int (nI k)), some (.int (nI q))] [.int (nI (cnt (va_up tb k true) 6 0))] ((((σ.set (2) (.inl (1, 6, .inl (fun j => bi ((va_up tb k true) j))))).set (3) (.inl (0, 6, .inl (fun j => en ((va_up pr k (some q)) j))))).set (5) (.inl (0, 6, .inl (fun j => nI ((va_up fi k (fcO fi ow (some q))) j))))).set (0) (.inr (6, [.ref 1, .ref 9, .ref 13, .int (nI 0)]))) (if dfOk tb k (some q) = true then .inl (some (.int (nI (cnt (va_up tb k true) 6 0)))) else .inr xS) (if dfOk tb k (some q) = true then (((σ.set 2 (.inl (1, 6, .inl fun j => bi (va_up tb k true j)))).set 3 (.inl (0, 6, .inl fun j => en (va_up pr k (some q) j)))).set 5 (.inl (0, 6, .inl fun j => nI (va_up fi k (fcO fi ow (some q)) j)))).set 0 (.inr (6, [.ref 1, .ref 9, .ref 13, .int (nI 0)])) else σ)
          exact jr_iretE d_JC_define_73 rfl (by rw [if_pos (show dfOk tb k (some q) = true by simp [dfOk, bi_0.mp c1, show q < k by omega, bi_nf c3])]) (by rw [if_pos (show dfOk tb k (some q) = true by simp [dfOk, bi_0.mp c1, show q < k by omega, bi_nf c3])]) (by decide) (by decide)
end JDf
