/-! JavaChain: run (wip/gen/p97yf.py) -/
section JCyf
variable {l : Launch} {G : jl_G} {σ : jl_S}
variable {tb : Nat → Bool} {pr : Nat → Option Nat} {ow fi ft : Nat → Nat} {mt : Nat → Option Nat}
variable {hs : Nat → Bool} {σ0 : jl_S} {H : Hp} {su dt dq aw : Int32} {sg : Int32 → Option Sg} {D : Nat → MDt} {MP : Nat → Nat → Int32} {FH : Nat → Nat → Bool} {W : Nat → Nat → Option Rw} {vf : Bool} {k n m a : Nat} {xa xb : Int32}
theorem rg_ok1 {k : Nat} (h1 : 1 ≤ k) (h : k ≤ 400) : ¬ (nI k < nI 1 ∨ nI 400 < nI k) := by
  rintro (q | q)
  · rw [nI_ltI (by omega) (by decide)] at q; omega
  · rw [nI_ltI (by decide) (by omega)] at q; omega
theorem jc_ind1 (hl : l.stackTraces = false) : jl_m l G m_JC_needIndex [.int (nI 1)] σ (.inl none) σ := jc_index (b := true) hl
theorem jc_ind0 (hl : l.stackTraces = false) : jl_m l G m_JC_needIndex [.int (nI 0)] σ (.inr xB) σ := jc_index (b := false) hl
theorem wo_foundN (hl : l.stackTraces = false) {k sl : Int32} (hw : WoAt σ tb pr ow fi ft mt) (hok : ∀ j, ob 6 (pr j)) (h : found tb pr mt k sl = none) : jl_m l G m_Wo_found [.ref 1, .int k, .int sl] σ (.inl (some .null)) σ := by
  have z := wo_found (G := G) hl hw hok (k := k) (sl := sl)
  rw [h] at z
  exact z
theorem d_JC_run_0 : decode m_JC_run.2.1 0 = .ok (.iload_n 1, 1) := by decide +kernel
theorem d_JC_run_1 : decode m_JC_run.2.1 1 = .ok (.iconst 0, 1) := by decide +kernel
theorem d_JC_run_2 : decode m_JC_run.2.1 2 = .ok (.iconst 5, 1) := by decide +kernel
theorem k_JC_run_41 : jl_cz m_JC_run m_JC_needRange 41 3 = true := by decide +kernel
theorem d_JC_run_3 : decode m_JC_run.2.1 3 = .ok (.invokestatic 41, 3) := by decide +kernel
theorem jc_run_A1 (hl : l.stackTraces = false) {ki fu g : Int32} (hj : JcAt σ vf) (hw : WoAt σ tb pr ow fi ft mt) (h : ki < nI 0 ∨ nI 5 < ki) : jl_m l G m_JC_run [.ref 0, .int (ki), .int (xa), .int (xb), .int (fu), .int (g)] σ (.inr xA) (σ) := by
  obtain ⟨hW, h2, h3, h4, h5, h6, h7⟩ := id hw
  refine jl_of (as := [.ref 0, .int (ki), .int (xa), .int (xb), .int (fu), .int (g)]) rfl (by decide) hl (jl_cc rfl (jl_cc rfl (jl_cc rfl (jl_cc rfl (jl_cc rfl (jl_cc rfl jl_ca)))))) (Nat.le_of_ble_eq_true rfl) ?_
  show jl_W l G m_JC_run (0, 0) 0 [some (.ref 0), some (.int (ki)), some (.int (xa)), some (.int (xb)), some (.int (fu)), some (.int (g)), none] [] (σ) (.inr xA) (σ)
  refine jr_iload_n d_JC_run_0 rfl ?_
  refine jr_iconst ((nI (0))) d_JC_run_1 (by decide) ?_
  refine jr_iconst ((nI (5))) d_JC_run_2 (by decide) ?_
  exact jl_oeq (rfl) (jl_seq (rfl) (jr_callSX (As := [.int (ki), .int (nI 0), .int (nI 5)]) d_JC_run_3 k_JC_run_41 rfl rfl (Nat.le_of_ble_eq_true rfl) (by decide) (by decide) (jc_rangeX hl h)))
theorem d_JC_run_6 : decode m_JC_run.2.1 6 = .ok (.iload 4, 2) := by decide +kernel
theorem d_JC_run_8 : decode m_JC_run.2.1 8 = .ok (.iconst 1, 1) := by decide +kernel
theorem d_JC_run_9 : decode m_JC_run.2.1 9 = .ok (.sipush 400, 3) := by decide +kernel
theorem d_JC_run_12 : decode m_JC_run.2.1 12 = .ok (.invokestatic 41, 3) := by decide +kernel
theorem jc_run_A2 (hl : l.stackTraces = false) {fu g : Int32} (hj : JcAt σ vf) (hw : WoAt σ tb pr ow fi ft mt) (hk : k < 6) (h : fu < nI 1 ∨ nI 400 < fu) : jl_m l G m_JC_run [.ref 0, .int (nI k), .int (xa), .int (xb), .int (fu), .int (g)] σ (.inr xA) (σ) := by
  obtain ⟨hW, h2, h3, h4, h5, h6, h7⟩ := id hw
  refine jl_of (as := [.ref 0, .int (nI k), .int (xa), .int (xb), .int (fu), .int (g)]) rfl (by decide) hl (jl_cc rfl (jl_cc rfl (jl_cc rfl (jl_cc rfl (jl_cc rfl (jl_cc rfl jl_ca)))))) (Nat.le_of_ble_eq_true rfl) ?_
  show jl_W l G m_JC_run (0, 0) 0 [some (.ref 0), some (.int (nI k)), some (.int (xa)), some (.int (xb)), some (.int (fu)), some (.int (g)), none] [] (σ) (.inr xA) (σ)
  refine jr_iload_n d_JC_run_0 rfl ?_
  refine jr_iconst ((nI (0))) d_JC_run_1 (by decide) ?_
  refine jr_iconst ((nI (5))) d_JC_run_2 (by decide) ?_
  refine jr_callS (As := [.int (nI k), .int (nI 0), .int (nI 5)]) d_JC_run_3 k_JC_run_41 rfl (Nat.le_of_ble_eq_true rfl) (by decide) (by decide) (jc_range hl (rg_ok (by omega) (by decide))) ?_
  show jl_W l G m_JC_run (1, 6) 6 [some (.ref 0), some (.int (nI k)), some (.int (xa)), some (.int (xb)), some (.int (fu)), some (.int (g)), none] [] (σ) (.inr xA) (σ)
  refine jr_iload d_JC_run_6 rfl ?_
  refine jr_iconst ((nI (1))) d_JC_run_8 (by decide) ?_
  refine jr_sipush ((nI (400))) d_JC_run_9 (by decide) ?_
  exact jl_oeq (rfl) (jl_seq (rfl) (jr_callSX (As := [.int (fu), .int (nI 1), .int (nI 400)]) d_JC_run_12 k_JC_run_41 rfl rfl (Nat.le_of_ble_eq_true rfl) (by decide) (by decide) (jc_rangeX hl h)))
theorem d_JC_run_15 : decode m_JC_run.2.1 15 = .ok (.aload_n 0, 1) := by decide +kernel
theorem f_JC_run_12 : jl_fd m_JC_run 12 6 0 = true := by decide +kernel
theorem d_JC_run_16 : decode m_JC_run.2.1 16 = .ok (.getfield 12, 3) := by decide +kernel
theorem d_JC_run_19 : decode m_JC_run.2.1 19 = .ok (.iload_n 1, 1) := by decide +kernel
theorem k_JC_run_45 : jl_cv m_JC_run m_Wo_has 45 1 = true := by decide +kernel
theorem d_JC_run_20 : decode m_JC_run.2.1 20 = .ok (.invokevirtual 45, 3) := by decide +kernel
theorem k_JC_run_65 : jl_cz m_JC_run m_JC_needThere 65 1 = true := by decide +kernel
theorem d_JC_run_23 : decode m_JC_run.2.1 23 = .ok (.invokestatic 65, 3) := by decide +kernel
theorem jc_run_N (hl : l.stackTraces = false) {g : Int32} (hj : JcAt σ vf) (hw : WoAt σ tb pr ow fi ft mt) (hk : k < 6) (hn1 : 1 ≤ n) (hn : n ≤ 400) (ht : tb k = false) : jl_m l G m_JC_run [.ref 0, .int (nI k), .int (xa), .int (xb), .int (nI n), .int (g)] σ (.inr xN) (σ) := by
  obtain ⟨hW, h2, h3, h4, h5, h6, h7⟩ := id hw
  refine jl_of (as := [.ref 0, .int (nI k), .int (xa), .int (xb), .int (nI n), .int (g)]) rfl (by decide) hl (jl_cc rfl (jl_cc rfl (jl_cc rfl (jl_cc rfl (jl_cc rfl (jl_cc rfl jl_ca)))))) (Nat.le_of_ble_eq_true rfl) ?_
  show jl_W l G m_JC_run (0, 0) 0 [some (.ref 0), some (.int (nI k)), some (.int (xa)), some (.int (xb)), some (.int (nI n)), some (.int (g)), none] [] (σ) (.inr xN) (σ)
  refine jr_iload_n d_JC_run_0 rfl ?_
  refine jr_iconst ((nI (0))) d_JC_run_1 (by decide) ?_
  refine jr_iconst ((nI (5))) d_JC_run_2 (by decide) ?_
  refine jr_callS (As := [.int (nI k), .int (nI 0), .int (nI 5)]) d_JC_run_3 k_JC_run_41 rfl (Nat.le_of_ble_eq_true rfl) (by decide) (by decide) (jc_range hl (rg_ok (by omega) (by decide))) ?_
  show jl_W l G m_JC_run (1, 6) 6 [some (.ref 0), some (.int (nI k)), some (.int (xa)), some (.int (xb)), some (.int (nI n)), some (.int (g)), none] [] (σ) (.inr xN) (σ)
  refine jr_iload d_JC_run_6 rfl ?_
  refine jr_iconst ((nI (1))) d_JC_run_8 (by decide) ?_
  refine jr_sipush ((nI (400))) d_JC_run_9 (by decide) ?_
  refine jr_callS (As := [.int (nI n), .int (nI 1), .int (nI 400)]) d_JC_run_12 k_JC_run_41 rfl (Nat.le_of_ble_eq_true rfl) (by decide) (by decide) (jc_range hl (rg_ok1 hn1 hn)) ?_
  show jl_W l G m_JC_run (2, 12) 15 [some (.ref 0), some (.int (nI k)), some (.int (xa)), some (.int (xb)), some (.int (nI n)), some (.int (g)), none] [] (σ) (.inr xN) (σ)
  refine jr_aload_n d_JC_run_15 rfl ?_
  refine jr_getf d_JC_run_16 f_JC_run_12 hj rfl ?_
  refine jr_iload_n d_JC_run_19 rfl ?_
  refine jr_callV (As := [.int (nI k)]) d_JC_run_20 k_JC_run_45 hW rfl rfl rfl (Nat.le_of_ble_eq_true rfl) (by decide) (by decide) (wo_hasN hl hw hk) ?_
  show jl_W l G m_JC_run (2, 12) 23 [some (.ref 0), some (.int (nI k)), some (.int (xa)), some (.int (xb)), some (.int (nI n)), some (.int (g)), none] [.int (bi (tb k))] (σ) (.inr xN) (σ)
  exact jl_oeq (rfl) (jl_seq (rfl) (jr_callSX (As := [.int (bi (tb k))]) d_JC_run_23 k_JC_run_65 rfl rfl (Nat.le_of_ble_eq_true rfl) (by decide) (by decide) (jc_thereX hl ht)))
theorem d_JC_run_26 : decode m_JC_run.2.1 26 = .ok (.iload 5, 2) := by decide +kernel
theorem d_JC_run_28 : decode m_JC_run.2.1 28 = .ok (.ifCond .ne 10, 3) := by decide +kernel
theorem d_JC_run_31 : decode m_JC_run.2.1 31 = .ok (.aload_n 0, 1) := by decide +kernel
theorem f_JC_run_37 : jl_fd m_JC_run 37 6 3 = true := by decide +kernel
theorem d_JC_run_32 : decode m_JC_run.2.1 32 = .ok (.getfield 37, 3) := by decide +kernel
theorem d_JC_run_35 : decode m_JC_run.2.1 35 = .ok (.ifCond .eq 7, 3) := by decide +kernel
theorem d_JC_run_42 : decode m_JC_run.2.1 42 = .ok (.iconst 0, 1) := by decide +kernel
theorem k_JC_run_123 : jl_cz m_JC_run m_JC_needSupport 123 1 = true := by decide +kernel
theorem d_JC_run_43 : decode m_JC_run.2.1 43 = .ok (.invokestatic 123, 3) := by decide +kernel
theorem jc_run_U (hl : l.stackTraces = false)  (hj : JcAt σ vf) (hw : WoAt σ tb pr ow fi ft mt) (hk : k < 6) (hn1 : 1 ≤ n) (hn : n ≤ 400) (ht : tb k = true) (hv : vf = false) : jl_m l G m_JC_run [.ref 0, .int (nI k), .int (xa), .int (xb), .int (nI n), .int (nI 0)] σ (.inr xU) (σ) := by
  obtain ⟨hW, h2, h3, h4, h5, h6, h7⟩ := id hw
  refine jl_of (as := [.ref 0, .int (nI k), .int (xa), .int (xb), .int (nI n), .int (nI 0)]) rfl (by decide) hl (jl_cc rfl (jl_cc rfl (jl_cc rfl (jl_cc rfl (jl_cc rfl (jl_cc rfl jl_ca)))))) (Nat.le_of_ble_eq_true rfl) ?_
  show jl_W l G m_JC_run (0, 0) 0 [some (.ref 0), some (.int (nI k)), some (.int (xa)), some (.int (xb)), some (.int (nI n)), some (.int (nI 0)), none] [] (σ) (.inr xU) (σ)
  refine jr_iload_n d_JC_run_0 rfl ?_
  refine jr_iconst ((nI (0))) d_JC_run_1 (by decide) ?_
  refine jr_iconst ((nI (5))) d_JC_run_2 (by decide) ?_
  refine jr_callS (As := [.int (nI k), .int (nI 0), .int (nI 5)]) d_JC_run_3 k_JC_run_41 rfl (Nat.le_of_ble_eq_true rfl) (by decide) (by decide) (jc_range hl (rg_ok (by omega) (by decide))) ?_
  show jl_W l G m_JC_run (1, 6) 6 [some (.ref 0), some (.int (nI k)), some (.int (xa)), some (.int (xb)), some (.int (nI n)), some (.int (nI 0)), none] [] (σ) (.inr xU) (σ)
  refine jr_iload d_JC_run_6 rfl ?_
  refine jr_iconst ((nI (1))) d_JC_run_8 (by decide) ?_
  refine jr_sipush ((nI (400))) d_JC_run_9 (by decide) ?_
  refine jr_callS (As := [.int (nI n), .int (nI 1), .int (nI 400)]) d_JC_run_12 k_JC_run_41 rfl (Nat.le_of_ble_eq_true rfl) (by decide) (by decide) (jc_range hl (rg_ok1 hn1 hn)) ?_
  show jl_W l G m_JC_run (2, 12) 15 [some (.ref 0), some (.int (nI k)), some (.int (xa)), some (.int (xb)), some (.int (nI n)), some (.int (nI 0)), none] [] (σ) (.inr xU) (σ)
  refine jr_aload_n d_JC_run_15 rfl ?_
  refine jr_getf d_JC_run_16 f_JC_run_12 hj rfl ?_
  refine jr_iload_n d_JC_run_19 rfl ?_
  refine jr_callV (As := [.int (nI k)]) d_JC_run_20 k_JC_run_45 hW rfl rfl rfl (Nat.le_of_ble_eq_true rfl) (by decide) (by decide) (wo_hasN hl hw hk) ?_
  show jl_W l G m_JC_run (2, 12) 23 [some (.ref 0), some (.int (nI k)), some (.int (xa)), some (.int (xb)), some (.int (nI n)), some (.int (nI 0)), none] [.int (bi (tb k))] (σ) (.inr xU) (σ)
  refine jr_callS (As := [.int (bi (tb k))]) d_JC_run_23 k_JC_run_65 rfl (Nat.le_of_ble_eq_true rfl) (by decide) (by decide) (jc_thereT hl ht) ?_
  show jl_W l G m_JC_run (3, 18) 26 [some (.ref 0), some (.int (nI k)), some (.int (xa)), some (.int (xb)), some (.int (nI n)), some (.int (nI 0)), none] [] (σ) (.inr xU) (σ)
  refine jr_iload d_JC_run_26 rfl ?_
  refine jr_if_ne 38 d_JC_run_28 (by decide) (fun z => absurd rfl z) (fun _ => ?_)
  refine jr_aload_n d_JC_run_31 rfl ?_
  refine jr_getf d_JC_run_32 f_JC_run_37 hj rfl ?_
  refine jr_if_eq 42 d_JC_run_35 (by decide) (fun _ => ?_) (fun z => absurd (by rw [hv]; decide) z)
  refine jr_iconst ((nI (0))) d_JC_run_42 (by decide) ?_
  exact jl_oeq (rfl) (jl_seq (rfl) (jr_callSX (As := [.int (nI 0)]) d_JC_run_43 k_JC_run_123 rfl rfl (Nat.le_of_ble_eq_true rfl) (by decide) (by decide) (jc_sup0 hl)))
theorem d_JC_run_38 : decode m_JC_run.2.1 38 = .ok (.iconst 1, 1) := by decide +kernel
theorem d_JC_run_39 : decode m_JC_run.2.1 39 = .ok (.goto 4, 3) := by decide +kernel
theorem d_JC_run_46 : decode m_JC_run.2.1 46 = .ok (.aload_n 0, 1) := by decide +kernel
theorem d_JC_run_47 : decode m_JC_run.2.1 47 = .ok (.getfield 12, 3) := by decide +kernel
theorem d_JC_run_50 : decode m_JC_run.2.1 50 = .ok (.iload_n 1, 1) := by decide +kernel
theorem d_JC_run_51 : decode m_JC_run.2.1 51 = .ok (.iconst 0, 1) := by decide +kernel
theorem k_JC_run_141 : jl_cv m_JC_run m_Wo_found 141 2 = true := by decide +kernel
theorem d_JC_run_52 : decode m_JC_run.2.1 52 = .ok (.invokevirtual 141, 3) := by decide +kernel
theorem d_JC_run_55 : decode m_JC_run.2.1 55 = .ok (.astore 6, 2) := by decide +kernel
theorem d_JC_run_57 : decode m_JC_run.2.1 57 = .ok (.aload 6, 2) := by decide +kernel
theorem d_JC_run_59 : decode m_JC_run.2.1 59 = .ok (.ifnull 7, 3) := by decide +kernel
theorem d_JC_run_66 : decode m_JC_run.2.1 66 = .ok (.iconst 0, 1) := by decide +kernel
theorem k_JC_run_144 : jl_cz m_JC_run m_JC_needIndex 144 1 = true := by decide +kernel
theorem d_JC_run_67 : decode m_JC_run.2.1 67 = .ok (.invokestatic 144, 3) := by decide +kernel
theorem jc_run_X1 (hl : l.stackTraces = false)  (hj : JcAt σ vf) (hw : WoAt σ tb pr ow fi ft mt) (hk : k < 6) (hn1 : 1 ≤ n) (hn : n ≤ 400) (ht : tb k = true) (hok : ∀ j, ob 6 (pr j)) (hfd : found tb pr mt (nI k) (nI 0) = none) : jl_m l G m_JC_run [.ref 0, .int (nI k), .int (xa), .int (xb), .int (nI n), .int (nI 1)] σ (.inr xB) (σ) := by
  obtain ⟨hW, h2, h3, h4, h5, h6, h7⟩ := id hw
  refine jl_of (as := [.ref 0, .int (nI k), .int (xa), .int (xb), .int (nI n), .int (nI 1)]) rfl (by decide) hl (jl_cc rfl (jl_cc rfl (jl_cc rfl (jl_cc rfl (jl_cc rfl (jl_cc rfl jl_ca)))))) (Nat.le_of_ble_eq_true rfl) ?_
  show jl_W l G m_JC_run (0, 0) 0 [some (.ref 0), some (.int (nI k)), some (.int (xa)), some (.int (xb)), some (.int (nI n)), some (.int (nI 1)), none] [] (σ) (.inr xB) (σ)
  refine jr_iload_n d_JC_run_0 rfl ?_
  refine jr_iconst ((nI (0))) d_JC_run_1 (by decide) ?_
  refine jr_iconst ((nI (5))) d_JC_run_2 (by decide) ?_
  refine jr_callS (As := [.int (nI k), .int (nI 0), .int (nI 5)]) d_JC_run_3 k_JC_run_41 rfl (Nat.le_of_ble_eq_true rfl) (by decide) (by decide) (jc_range hl (rg_ok (by omega) (by decide))) ?_
  show jl_W l G m_JC_run (1, 6) 6 [some (.ref 0), some (.int (nI k)), some (.int (xa)), some (.int (xb)), some (.int (nI n)), some (.int (nI 1)), none] [] (σ) (.inr xB) (σ)
  refine jr_iload d_JC_run_6 rfl ?_
  refine jr_iconst ((nI (1))) d_JC_run_8 (by decide) ?_
  refine jr_sipush ((nI (400))) d_JC_run_9 (by decide) ?_
  refine jr_callS (As := [.int (nI n), .int (nI 1), .int (nI 400)]) d_JC_run_12 k_JC_run_41 rfl (Nat.le_of_ble_eq_true rfl) (by decide) (by decide) (jc_range hl (rg_ok1 hn1 hn)) ?_
  show jl_W l G m_JC_run (2, 12) 15 [some (.ref 0), some (.int (nI k)), some (.int (xa)), some (.int (xb)), some (.int (nI n)), some (.int (nI 1)), none] [] (σ) (.inr xB) (σ)
  refine jr_aload_n d_JC_run_15 rfl ?_
  refine jr_getf d_JC_run_16 f_JC_run_12 hj rfl ?_
  refine jr_iload_n d_JC_run_19 rfl ?_
  refine jr_callV (As := [.int (nI k)]) d_JC_run_20 k_JC_run_45 hW rfl rfl rfl (Nat.le_of_ble_eq_true rfl) (by decide) (by decide) (wo_hasN hl hw hk) ?_
  show jl_W l G m_JC_run (2, 12) 23 [some (.ref 0), some (.int (nI k)), some (.int (xa)), some (.int (xb)), some (.int (nI n)), some (.int (nI 1)), none] [.int (bi (tb k))] (σ) (.inr xB) (σ)
  refine jr_callS (As := [.int (bi (tb k))]) d_JC_run_23 k_JC_run_65 rfl (Nat.le_of_ble_eq_true rfl) (by decide) (by decide) (jc_thereT hl ht) ?_
  show jl_W l G m_JC_run (3, 18) 26 [some (.ref 0), some (.int (nI k)), some (.int (xa)), some (.int (xb)), some (.int (nI n)), some (.int (nI 1)), none] [] (σ) (.inr xB) (σ)
  refine jr_iload d_JC_run_26 rfl ?_
  refine jr_if_ne 38 d_JC_run_28 (by decide) (fun _ => ?_) (fun z => absurd z (by decide))
  refine jr_iconst ((nI (1))) d_JC_run_38 (by decide) ?_
  refine jr_goto 43 d_JC_run_39 (by decide) ?_
  refine jr_callS (As := [.int (nI 1)]) d_JC_run_43 k_JC_run_123 rfl (Nat.le_of_ble_eq_true rfl) (by decide) (by decide) (jc_sup1 hl) ?_
  show jl_W l G m_JC_run (4, 24) 46 [some (.ref 0), some (.int (nI k)), some (.int (xa)), some (.int (xb)), some (.int (nI n)), some (.int (nI 1)), none] [] (σ) (.inr xB) (σ)
  refine jr_aload_n d_JC_run_46 rfl ?_
  refine jr_getf d_JC_run_47 f_JC_run_12 hj rfl ?_
  refine jr_iload_n d_JC_run_50 rfl ?_
  refine jr_iconst ((nI (0))) d_JC_run_51 (by decide) ?_
  refine jr_callV (As := [.int (nI k), .int (nI 0)]) d_JC_run_52 k_JC_run_141 hW rfl rfl rfl (Nat.le_of_ble_eq_true rfl) (by decide) (by decide) (wo_foundN hl hw hok hfd) ?_
  show jl_W l G m_JC_run (4, 24) 55 [some (.ref 0), some (.int (nI k)), some (.int (xa)), some (.int (xb)), some (.int (nI n)), some (.int (nI 1)), none] [.null] (σ) (.inr xB) (σ)
  refine jr_astoreN d_JC_run_55 (by decide) ?_
  show jl_W l G m_JC_run (4, 24) 57 [some (.ref 0), some (.int (nI k)), some (.int (xa)), some (.int (xb)), some (.int (nI n)), some (.int (nI 1)), some (.null)] [] (σ) (.inr xB) (σ)
  refine jr_aloadN d_JC_run_57 rfl ?_
  refine jr_ifnullN 66 d_JC_run_59 (by decide) ?_
  refine jr_iconst ((nI (0))) d_JC_run_66 (by decide) ?_
  exact jl_oeq (rfl) (jl_seq (rfl) (jr_callSX (As := [.int (nI 0)]) d_JC_run_67 k_JC_run_144 rfl rfl (Nat.le_of_ble_eq_true rfl) (by decide) (by decide) (jc_ind0 hl)))
theorem d_JC_run_62 : decode m_JC_run.2.1 62 = .ok (.iconst 1, 1) := by decide +kernel
theorem d_JC_run_63 : decode m_JC_run.2.1 63 = .ok (.goto 4, 3) := by decide +kernel
theorem d_JC_run_70 : decode m_JC_run.2.1 70 = .ok (.aload_n 0, 1) := by decide +kernel
theorem f_JC_run_33 : jl_fd m_JC_run 33 6 2 = true := by decide +kernel
theorem d_JC_run_71 : decode m_JC_run.2.1 71 = .ok (.getfield 33, 3) := by decide +kernel
theorem d_JC_run_74 : decode m_JC_run.2.1 74 = .ok (.iload_n 1, 1) := by decide +kernel
theorem d_JC_run_75 : decode m_JC_run.2.1 75 = .ok (.aload 6, 2) := by decide +kernel
theorem d_JC_run_77 : decode m_JC_run.2.1 77 = .ok (.iload_n 2, 1) := by decide +kernel
theorem d_JC_run_78 : decode m_JC_run.2.1 78 = .ok (.iload_n 3, 1) := by decide +kernel
theorem k_JC_run_147 : jl_cv m_JC_run m_Ma_begin 147 4 = true := by decide +kernel
theorem d_JC_run_79 : decode m_JC_run.2.1 79 = .ok (.invokevirtual 147, 3) := by decide +kernel
theorem d_JC_run_82 : decode m_JC_run.2.1 82 = .ok (.aload_n 0, 1) := by decide +kernel
theorem d_JC_run_83 : decode m_JC_run.2.1 83 = .ok (.getfield 33, 3) := by decide +kernel
theorem d_JC_run_86 : decode m_JC_run.2.1 86 = .ok (.iload 4, 2) := by decide +kernel
theorem d_JC_run_88 : decode m_JC_run.2.1 88 = .ok (.iload 5, 2) := by decide +kernel
theorem k_JC_run_151 : jl_cv m_JC_run m_Ma_carryOn 151 2 = true := by decide +kernel
theorem d_JC_run_90 : decode m_JC_run.2.1 90 = .ok (.invokevirtual 151, 3) := by decide +kernel
theorem d_JC_run_93 : decode m_JC_run.2.1 93 = .ok (.aload_n 0, 1) := by decide +kernel
theorem d_JC_run_94 : decode m_JC_run.2.1 94 = .ok (.getfield 33, 3) := by decide +kernel
theorem f_JC_run_155 : jl_fd m_JC_run 155 1 8 = true := by decide +kernel
theorem d_JC_run_97 : decode m_JC_run.2.1 97 = .ok (.getfield 155, 3) := by decide +kernel
theorem d_JC_run_100 : decode m_JC_run.2.1 100 = .ok (.ifCond .ne 7, 3) := by decide +kernel
theorem d_JC_run_107 : decode m_JC_run.2.1 107 = .ok (.iconst 0, 1) := by decide +kernel
theorem k_JC_run_49 : jl_cz m_JC_run m_JC_needState 49 1 = true := by decide +kernel
theorem d_JC_run_108 : decode m_JC_run.2.1 108 = .ok (.invokestatic 49, 3) := by decide +kernel
theorem d_JC_run_103 : decode m_JC_run.2.1 103 = .ok (.iconst 1, 1) := by decide +kernel
theorem d_JC_run_104 : decode m_JC_run.2.1 104 = .ok (.goto 4, 3) := by decide +kernel
theorem d_JC_run_111 : decode m_JC_run.2.1 111 = .ok (.aload_n 0, 1) := by decide +kernel
theorem d_JC_run_112 : decode m_JC_run.2.1 112 = .ok (.getfield 33, 3) := by decide +kernel
theorem f_JC_run_158 : jl_fd m_JC_run 158 1 11 = true := by decide +kernel
theorem d_JC_run_115 : decode m_JC_run.2.1 115 = .ok (.getfield 158, 3) := by decide +kernel
theorem d_JC_run_118 : decode m_JC_run.2.1 118 = .ok (.ireturn, 1) := by decide +kernel
theorem jc_run_1 (hl : l.stackTraces = false) {P : jl_O → jl_S → Prop}  (hj : JcAt σ vf) (hj0 : JcAt σ0 vf) (hz : KZ σ0 σ H su dt dq aw) (hk : k < 6) (hn1 : 1 ≤ n) (hn : n ≤ 400) (ht : tb k = true) (hma : mt m = some a) (hfa : found tb pr mt (nI k) (nI 0) = some a) (hsf : SF tb pr ow fi ft hs D W true ⟨m, 0, bgR k (D m).1 (D m).2.1, bgV (D m).1 (D m).2.1 xa xb⟩ [] (mkO pr ow fi ft ⟨0, H.sz, H.ty, H.va, H.so⟩ k)) (hmr : (mrn tb pr ow fi ft sg hs D true n ⟨m, 0, bgR k (D m).1 (D m).2.1, bgV (D m).1 (D m).2.1 xa xb⟩ [] (mkO pr ow fi ft ⟨0, H.sz, H.ty, H.va, H.so⟩ k) 0).1 ≤ 8) (hwx : WX σ0 tb pr ow fi ft mt sg D MP FH) (hmt : MtOk mt) (hok : WoOk tb pr ow fi) (hft : ∀ k f, tyv (some (fty pr fi ft k f))) (hmH : ∀ m, hs m = (mt m).isSome) (hD : ∀ m, m < 24 → hs m = true → MdOk (D m)) (hD2 : ∀ m, mt m ≠ none → MdOk (D m)) (hsg : SgM tb pr hs (fun m => (D m).1) (fun m => (D m).2.1) (fun m => (D m).2.2.1) sg) (hfd : ∀ k sl m2, k < 6 → sl < 4 → mmo pr hs sl 6 (some k) = some m2 → ∃ a2, mt m2 = some a2 ∧ found tb pr mt (nI k) (nI sl) = some a2) (hW : true = false → FixW tb pr ow fi ft sg hs D W) (hE : SgE pr hs D) (hT : ∀ how what dn an H' aw' σ', mrn tb pr ow fi ft sg hs D true n ⟨m, 0, bgR k (D m).1 (D m).2.1, bgV (D m).1 (D m).2.1 xa xb⟩ [] (mkO pr ow fi ft ⟨0, H.sz, H.ty, H.va, H.so⟩ k) 0 = (how, what, dn, an, H') → (∀ v, an = some v → aw' = v) → KZ σ0 σ' H' (nI how) (nI what) (nI dn) aw' → how < 2 ^ 31 → (how = 0 → P (.inl (some (.int aw'))) σ') ∧ (how ≠ 0 → P (.inr xS) σ')) : jl_mE l G m_JC_run [.ref 0, .int (nI k), .int (xa), .int (xb), .int (nI n), .int (nI 1)] σ P := by
  obtain ⟨tp, uw, ps, ty, va, hX, u1, u2, t1, t2, hS, hob, hto, hF⟩ := id hz
  have hw := (hwx.fr hF hmt).1
  obtain ⟨hW1, h2, h3, h4, h5, h6, h7⟩ := id hw
  refine jl_ofE (as := [.ref 0, .int (nI k), .int (xa), .int (xb), .int (nI n), .int (nI 1)]) rfl (by decide) hl (jl_cc rfl (jl_cc rfl (jl_cc rfl (jl_cc rfl (jl_cc rfl (jl_cc rfl jl_ca)))))) (Nat.le_of_ble_eq_true rfl) ?_
  show jl_E l G m_JC_run (0, 0) 0 [some (.ref 0), some (.int (nI k)), some (.int (xa)), some (.int (xb)), some (.int (nI n)), some (.int (nI 1)), none] [] (σ) P
  refine er_iload_n d_JC_run_0 rfl ?_
  refine er_iconst ((nI (0))) d_JC_run_1 (by decide) ?_
  refine er_iconst ((nI (5))) d_JC_run_2 (by decide) ?_
  refine er_callS (As := [.int (nI k), .int (nI 0), .int (nI 5)]) d_JC_run_3 k_JC_run_41 rfl (Nat.le_of_ble_eq_true rfl) (by decide) (by decide) (jc_range hl (rg_ok (by omega) (by decide))) ?_
  show jl_E l G m_JC_run (1, 6) 6 [some (.ref 0), some (.int (nI k)), some (.int (xa)), some (.int (xb)), some (.int (nI n)), some (.int (nI 1)), none] [] (σ) P
  refine er_iload d_JC_run_6 rfl ?_
  refine er_iconst ((nI (1))) d_JC_run_8 (by decide) ?_
  refine er_sipush ((nI (400))) d_JC_run_9 (by decide) ?_
  refine er_callS (As := [.int (nI n), .int (nI 1), .int (nI 400)]) d_JC_run_12 k_JC_run_41 rfl (Nat.le_of_ble_eq_true rfl) (by decide) (by decide) (jc_range hl (rg_ok1 hn1 hn)) ?_
  show jl_E l G m_JC_run (2, 12) 15 [some (.ref 0), some (.int (nI k)), some (.int (xa)), some (.int (xb)), some (.int (nI n)), some (.int (nI 1)), none] [] (σ) P
  refine er_aload_n d_JC_run_15 rfl ?_
  refine er_getf d_JC_run_16 f_JC_run_12 hj rfl ?_
  refine er_iload_n d_JC_run_19 rfl ?_
  refine er_callV (As := [.int (nI k)]) d_JC_run_20 k_JC_run_45 hW1 rfl rfl rfl (Nat.le_of_ble_eq_true rfl) (by decide) (by decide) (wo_hasN hl hw hk) ?_
  show jl_E l G m_JC_run (2, 12) 23 [some (.ref 0), some (.int (nI k)), some (.int (xa)), some (.int (xb)), some (.int (nI n)), some (.int (nI 1)), none] [.int (bi (tb k))] (σ) P
  refine er_callS (As := [.int (bi (tb k))]) d_JC_run_23 k_JC_run_65 rfl (Nat.le_of_ble_eq_true rfl) (by decide) (by decide) (jc_thereT hl ht) ?_
  show jl_E l G m_JC_run (3, 18) 26 [some (.ref 0), some (.int (nI k)), some (.int (xa)), some (.int (xb)), some (.int (nI n)), some (.int (nI 1)), none] [] (σ) P
  refine er_iload d_JC_run_26 rfl ?_
  refine er_if_ne 38 d_JC_run_28 (by decide) (fun _ => ?_) (fun z => absurd z (by decide))
  refine er_iconst ((nI (1))) d_JC_run_38 (by decide) ?_
  refine er_goto 43 d_JC_run_39 (by decide) ?_
  refine er_callS (As := [.int (nI 1)]) d_JC_run_43 k_JC_run_123 rfl (Nat.le_of_ble_eq_true rfl) (by decide) (by decide) (jc_sup1 hl) ?_
  show jl_E l G m_JC_run (4, 24) 46 [some (.ref 0), some (.int (nI k)), some (.int (xa)), some (.int (xb)), some (.int (nI n)), some (.int (nI 1)), none] [] (σ) P
  refine er_aload_n d_JC_run_46 rfl ?_
  refine er_getf d_JC_run_47 f_JC_run_12 hj rfl ?_
  refine er_iload_n d_JC_run_50 rfl ?_
  refine er_iconst ((nI (0))) d_JC_run_51 (by decide) ?_
  refine er_callV (As := [.int (nI k), .int (nI 0)]) d_JC_run_52 k_JC_run_141 hW1 rfl rfl rfl (Nat.le_of_ble_eq_true rfl) (by decide) (by decide) (wo_foundE hl hw hok.1 hfa) ?_
  show jl_E l G m_JC_run (4, 24) 55 [some (.ref 0), some (.int (nI k)), some (.int (xa)), some (.int (xb)), some (.int (nI n)), some (.int (nI 1)), none] [.ref a] (σ) P
  refine er_astore d_JC_run_55 (by decide) ?_
  show jl_E l G m_JC_run (4, 24) 57 [some (.ref 0), some (.int (nI k)), some (.int (xa)), some (.int (xb)), some (.int (nI n)), some (.int (nI 1)), some (.ref a)] [] (σ) P
  refine er_aload d_JC_run_57 rfl ?_
  refine er_ifnull d_JC_run_59 ?_
  refine er_iconst ((nI (1))) d_JC_run_62 (by decide) ?_
  refine er_goto 67 d_JC_run_63 (by decide) ?_
  refine er_callS (As := [.int (nI 1)]) d_JC_run_67 k_JC_run_144 rfl (Nat.le_of_ble_eq_true rfl) (by decide) (by decide) (jc_ind1 hl) ?_
  show jl_E l G m_JC_run (5, 30) 70 [some (.ref 0), some (.int (nI k)), some (.int (xa)), some (.int (xb)), some (.int (nI n)), some (.int (nI 1)), some (.ref a)] [] (σ) P
  refine er_aload_n d_JC_run_70 rfl ?_
  refine er_getf d_JC_run_71 f_JC_run_33 hj rfl ?_
  refine er_iload_n d_JC_run_74 rfl ?_
  refine er_aload d_JC_run_75 rfl ?_
  refine er_iload_n d_JC_run_77 rfl ?_
  refine er_iload_n d_JC_run_78 rfl ?_
  refine er_callVE (As := [.int (nI k), .ref a, .int (xa), .int (xb)]) d_JC_run_79 k_JC_run_147 hX rfl rfl rfl (Nat.le_of_ble_eq_true rfl) (by decide) (by decide) (ma_begin hl hz hwx hmt hok hma hft (hD2 m (by rw [hma]; simp)) hk (fun σ hk1 => ⟨_, rfl, ?_⟩))
  obtain ⟨uw, ps, ty, va, hX, u1, u2, t1, t2, hS, hx, hto, hF⟩ := id hk1
  have hj : JcAt σ vf := (hF.2 0 (by omega)).trans hj0
  have hw := (hwx.fr hF hmt).1
  obtain ⟨hW1, h2, h3, h4, h5, h6, h7⟩ := id hw
  show jl_E l G m_JC_run (5, 30) 82 [some (.ref 0), some (.int (nI k)), some (.int (xa)), some (.int (xb)), some (.int (nI n)), some (.int (nI 1)), some (.ref a)] [] (σ) P
  refine er_aload_n d_JC_run_82 rfl ?_
  refine er_getf d_JC_run_83 f_JC_run_33 hj rfl ?_
  refine er_iload d_JC_run_86 rfl ?_
  refine er_iload d_JC_run_88 rfl ?_
  refine er_callVE (As := [.int (nI n), .int (nI 1)]) d_JC_run_90 k_JC_run_151 hX rfl rfl rfl (Nat.le_of_ble_eq_true rfl) (by decide) (by decide) (ma_carry (gd := true) (f := ⟨m, 0, bgR k (D m).1 (D m).2.1, bgV (D m).1 (D m).2.1 xa xb⟩) (fs := []) (H := mkO pr ow fi ft ⟨0, H.sz, H.ty, H.va, H.so⟩ k) (dq := nI 0) (aw := aw) hl hwx hmt hok hft hmH hD hD2 hsg hfd hW hE hn hk1 hsf (fun how what dn an H' aw' σ e1 e2 hz1 => ⟨_, rfl, ?_⟩))
  have e1 : mrn tb pr ow fi ft sg hs D true n ⟨m, 0, bgR k (D m).1 (D m).2.1, bgV (D m).1 (D m).2.1 xa xb⟩ [] (mkO pr ow fi ft ⟨0, H.sz, H.ty, H.va, H.so⟩ k) 0 = (how, what, dn, an, H') := e1
  obtain ⟨hT1, hT2⟩ := hT how what dn an H' aw' _ e1 e2 hz1 (by have := hmr; rw [e1] at this; omega)
  obtain ⟨tp, uw, ps, ty, va, hX, u1, u2, t1, t2, hS, hob, hto, hF⟩ := id hz1
  have hh31 : how < 2 ^ 31 := by have := hmr; rw [e1] at this; omega
  have hj : JcAt σ vf := (hF.2 0 (by omega)).trans hj0
  show jl_E l G m_JC_run (5, 30) 93 [some (.ref 0), some (.int (nI k)), some (.int (xa)), some (.int (xb)), some (.int (nI n)), some (.int (nI 1)), some (.ref a)] [] (σ) P
  refine er_aload_n d_JC_run_93 rfl ?_
  refine er_getf d_JC_run_94 f_JC_run_33 hj rfl ?_
  refine er_getf d_JC_run_97 f_JC_run_155 hX rfl ?_
  refine er_if_neN 107 d_JC_run_100 (by decide) (by omega) (fun c1 => ?_) (fun c1 => ?_)
  · refine er_iconst ((nI (0))) d_JC_run_107 (by decide) ?_
    exact er_callSX (As := [.int (nI 0)]) d_JC_run_108 k_JC_run_49 rfl rfl (Nat.le_of_ble_eq_true rfl) (by decide) (by decide) (jc_state0 hl) (hT2 (by omega))
  · refine er_iconst ((nI (1))) d_JC_run_103 (by decide) ?_
    refine er_goto 108 d_JC_run_104 (by decide) ?_
    refine er_callS (As := [.int (nI 1)]) d_JC_run_108 k_JC_run_49 rfl (Nat.le_of_ble_eq_true rfl) (by decide) (by decide) (jc_state1 hl) ?_
    show jl_E l G m_JC_run (6, 36) 111 [some (.ref 0), some (.int (nI k)), some (.int (xa)), some (.int (xb)), some (.int (nI n)), some (.int (nI 1)), some (.ref a)] [] (σ) P
    refine er_aload_n d_JC_run_111 rfl ?_
    refine er_getf d_JC_run_112 f_JC_run_33 hj rfl ?_
    refine er_getf d_JC_run_115 f_JC_run_158 hX rfl ?_
    exact er_iret d_JC_run_118 rfl (hT1 (by omega)) (by decide) (by decide)
theorem jc_run_X0 (hl : l.stackTraces = false)  (hj : JcAt σ vf) (hw : WoAt σ tb pr ow fi ft mt) (hk : k < 6) (hn1 : 1 ≤ n) (hn : n ≤ 400) (ht : tb k = true) (hv : vf = true) (hok : ∀ j, ob 6 (pr j)) (hfd : found tb pr mt (nI k) (nI 0) = none) : jl_m l G m_JC_run [.ref 0, .int (nI k), .int (xa), .int (xb), .int (nI n), .int (nI 0)] σ (.inr xB) (σ) := by
  obtain ⟨hW, h2, h3, h4, h5, h6, h7⟩ := id hw
  refine jl_of (as := [.ref 0, .int (nI k), .int (xa), .int (xb), .int (nI n), .int (nI 0)]) rfl (by decide) hl (jl_cc rfl (jl_cc rfl (jl_cc rfl (jl_cc rfl (jl_cc rfl (jl_cc rfl jl_ca)))))) (Nat.le_of_ble_eq_true rfl) ?_
  show jl_W l G m_JC_run (0, 0) 0 [some (.ref 0), some (.int (nI k)), some (.int (xa)), some (.int (xb)), some (.int (nI n)), some (.int (nI 0)), none] [] (σ) (.inr xB) (σ)
  refine jr_iload_n d_JC_run_0 rfl ?_
  refine jr_iconst ((nI (0))) d_JC_run_1 (by decide) ?_
  refine jr_iconst ((nI (5))) d_JC_run_2 (by decide) ?_
  refine jr_callS (As := [.int (nI k), .int (nI 0), .int (nI 5)]) d_JC_run_3 k_JC_run_41 rfl (Nat.le_of_ble_eq_true rfl) (by decide) (by decide) (jc_range hl (rg_ok (by omega) (by decide))) ?_
  show jl_W l G m_JC_run (1, 6) 6 [some (.ref 0), some (.int (nI k)), some (.int (xa)), some (.int (xb)), some (.int (nI n)), some (.int (nI 0)), none] [] (σ) (.inr xB) (σ)
  refine jr_iload d_JC_run_6 rfl ?_
  refine jr_iconst ((nI (1))) d_JC_run_8 (by decide) ?_
  refine jr_sipush ((nI (400))) d_JC_run_9 (by decide) ?_
  refine jr_callS (As := [.int (nI n), .int (nI 1), .int (nI 400)]) d_JC_run_12 k_JC_run_41 rfl (Nat.le_of_ble_eq_true rfl) (by decide) (by decide) (jc_range hl (rg_ok1 hn1 hn)) ?_
  show jl_W l G m_JC_run (2, 12) 15 [some (.ref 0), some (.int (nI k)), some (.int (xa)), some (.int (xb)), some (.int (nI n)), some (.int (nI 0)), none] [] (σ) (.inr xB) (σ)
  refine jr_aload_n d_JC_run_15 rfl ?_
  refine jr_getf d_JC_run_16 f_JC_run_12 hj rfl ?_
  refine jr_iload_n d_JC_run_19 rfl ?_
  refine jr_callV (As := [.int (nI k)]) d_JC_run_20 k_JC_run_45 hW rfl rfl rfl (Nat.le_of_ble_eq_true rfl) (by decide) (by decide) (wo_hasN hl hw hk) ?_
  show jl_W l G m_JC_run (2, 12) 23 [some (.ref 0), some (.int (nI k)), some (.int (xa)), some (.int (xb)), some (.int (nI n)), some (.int (nI 0)), none] [.int (bi (tb k))] (σ) (.inr xB) (σ)
  refine jr_callS (As := [.int (bi (tb k))]) d_JC_run_23 k_JC_run_65 rfl (Nat.le_of_ble_eq_true rfl) (by decide) (by decide) (jc_thereT hl ht) ?_
  show jl_W l G m_JC_run (3, 18) 26 [some (.ref 0), some (.int (nI k)), some (.int (xa)), some (.int (xb)), some (.int (nI n)), some (.int (nI 0)), none] [] (σ) (.inr xB) (σ)
  refine jr_iload d_JC_run_26 rfl ?_
  refine jr_if_ne 38 d_JC_run_28 (by decide) (fun z => absurd rfl z) (fun _ => ?_)
  refine jr_aload_n d_JC_run_31 rfl ?_
  refine jr_getf d_JC_run_32 f_JC_run_37 hj rfl ?_
  refine jr_if_eq 42 d_JC_run_35 (by decide) (fun z => absurd z (by rw [hv]; decide)) (fun _ => ?_)
  refine jr_iconst ((nI (1))) d_JC_run_38 (by decide) ?_
  refine jr_goto 43 d_JC_run_39 (by decide) ?_
  refine jr_callS (As := [.int (nI 1)]) d_JC_run_43 k_JC_run_123 rfl (Nat.le_of_ble_eq_true rfl) (by decide) (by decide) (jc_sup1 hl) ?_
  show jl_W l G m_JC_run (4, 24) 46 [some (.ref 0), some (.int (nI k)), some (.int (xa)), some (.int (xb)), some (.int (nI n)), some (.int (nI 0)), none] [] (σ) (.inr xB) (σ)
  refine jr_aload_n d_JC_run_46 rfl ?_
  refine jr_getf d_JC_run_47 f_JC_run_12 hj rfl ?_
  refine jr_iload_n d_JC_run_50 rfl ?_
  refine jr_iconst ((nI (0))) d_JC_run_51 (by decide) ?_
  refine jr_callV (As := [.int (nI k), .int (nI 0)]) d_JC_run_52 k_JC_run_141 hW rfl rfl rfl (Nat.le_of_ble_eq_true rfl) (by decide) (by decide) (wo_foundN hl hw hok hfd) ?_
  show jl_W l G m_JC_run (4, 24) 55 [some (.ref 0), some (.int (nI k)), some (.int (xa)), some (.int (xb)), some (.int (nI n)), some (.int (nI 0)), none] [.null] (σ) (.inr xB) (σ)
  refine jr_astoreN d_JC_run_55 (by decide) ?_
  show jl_W l G m_JC_run (4, 24) 57 [some (.ref 0), some (.int (nI k)), some (.int (xa)), some (.int (xb)), some (.int (nI n)), some (.int (nI 0)), some (.null)] [] (σ) (.inr xB) (σ)
  refine jr_aloadN d_JC_run_57 rfl ?_
  refine jr_ifnullN 66 d_JC_run_59 (by decide) ?_
  refine jr_iconst ((nI (0))) d_JC_run_66 (by decide) ?_
  exact jl_oeq (rfl) (jl_seq (rfl) (jr_callSX (As := [.int (nI 0)]) d_JC_run_67 k_JC_run_144 rfl rfl (Nat.le_of_ble_eq_true rfl) (by decide) (by decide) (jc_ind0 hl)))
theorem jc_run_0 (hl : l.stackTraces = false) {P : jl_O → jl_S → Prop}  (hj : JcAt σ vf) (hj0 : JcAt σ0 vf) (hz : KZ σ0 σ H su dt dq aw) (hk : k < 6) (hn1 : 1 ≤ n) (hn : n ≤ 400) (ht : tb k = true) (hv : vf = true) (hma : mt m = some a) (hfa : found tb pr mt (nI k) (nI 0) = some a) (hsf : SF tb pr ow fi ft hs D W false ⟨m, 0, bgR k (D m).1 (D m).2.1, bgV (D m).1 (D m).2.1 xa xb⟩ [] (mkO pr ow fi ft ⟨0, H.sz, H.ty, H.va, H.so⟩ k)) (hmr : (mrn tb pr ow fi ft sg hs D false n ⟨m, 0, bgR k (D m).1 (D m).2.1, bgV (D m).1 (D m).2.1 xa xb⟩ [] (mkO pr ow fi ft ⟨0, H.sz, H.ty, H.va, H.so⟩ k) 0).1 ≤ 8) (hwx : WX σ0 tb pr ow fi ft mt sg D MP FH) (hmt : MtOk mt) (hok : WoOk tb pr ow fi) (hft : ∀ k f, tyv (some (fty pr fi ft k f))) (hmH : ∀ m, hs m = (mt m).isSome) (hD : ∀ m, m < 24 → hs m = true → MdOk (D m)) (hD2 : ∀ m, mt m ≠ none → MdOk (D m)) (hsg : SgM tb pr hs (fun m => (D m).1) (fun m => (D m).2.1) (fun m => (D m).2.2.1) sg) (hfd : ∀ k sl m2, k < 6 → sl < 4 → mmo pr hs sl 6 (some k) = some m2 → ∃ a2, mt m2 = some a2 ∧ found tb pr mt (nI k) (nI sl) = some a2) (hW : false = false → FixW tb pr ow fi ft sg hs D W) (hE : SgE pr hs D) (hT : ∀ how what dn an H' aw' σ', mrn tb pr ow fi ft sg hs D false n ⟨m, 0, bgR k (D m).1 (D m).2.1, bgV (D m).1 (D m).2.1 xa xb⟩ [] (mkO pr ow fi ft ⟨0, H.sz, H.ty, H.va, H.so⟩ k) 0 = (how, what, dn, an, H') → (∀ v, an = some v → aw' = v) → KZ σ0 σ' H' (nI how) (nI what) (nI dn) aw' → how < 2 ^ 31 → (how = 0 → P (.inl (some (.int aw'))) σ') ∧ (how ≠ 0 → P (.inr xS) σ')) : jl_mE l G m_JC_run [.ref 0, .int (nI k), .int (xa), .int (xb), .int (nI n), .int (nI 0)] σ P := by
  obtain ⟨tp, uw, ps, ty, va, hX, u1, u2, t1, t2, hS, hob, hto, hF⟩ := id hz
  have hw := (hwx.fr hF hmt).1
  obtain ⟨hW1, h2, h3, h4, h5, h6, h7⟩ := id hw
  refine jl_ofE (as := [.ref 0, .int (nI k), .int (xa), .int (xb), .int (nI n), .int (nI 0)]) rfl (by decide) hl (jl_cc rfl (jl_cc rfl (jl_cc rfl (jl_cc rfl (jl_cc rfl (jl_cc rfl jl_ca)))))) (Nat.le_of_ble_eq_true rfl) ?_
  show jl_E l G m_JC_run (0, 0) 0 [some (.ref 0), some (.int (nI k)), some (.int (xa)), some (.int (xb)), some (.int (nI n)), some (.int (nI 0)), none] [] (σ) P
  refine er_iload_n d_JC_run_0 rfl ?_
  refine er_iconst ((nI (0))) d_JC_run_1 (by decide) ?_
  refine er_iconst ((nI (5))) d_JC_run_2 (by decide) ?_
  refine er_callS (As := [.int (nI k), .int (nI 0), .int (nI 5)]) d_JC_run_3 k_JC_run_41 rfl (Nat.le_of_ble_eq_true rfl) (by decide) (by decide) (jc_range hl (rg_ok (by omega) (by decide))) ?_
  show jl_E l G m_JC_run (1, 6) 6 [some (.ref 0), some (.int (nI k)), some (.int (xa)), some (.int (xb)), some (.int (nI n)), some (.int (nI 0)), none] [] (σ) P
  refine er_iload d_JC_run_6 rfl ?_
  refine er_iconst ((nI (1))) d_JC_run_8 (by decide) ?_
  refine er_sipush ((nI (400))) d_JC_run_9 (by decide) ?_
  refine er_callS (As := [.int (nI n), .int (nI 1), .int (nI 400)]) d_JC_run_12 k_JC_run_41 rfl (Nat.le_of_ble_eq_true rfl) (by decide) (by decide) (jc_range hl (rg_ok1 hn1 hn)) ?_
  show jl_E l G m_JC_run (2, 12) 15 [some (.ref 0), some (.int (nI k)), some (.int (xa)), some (.int (xb)), some (.int (nI n)), some (.int (nI 0)), none] [] (σ) P
  refine er_aload_n d_JC_run_15 rfl ?_
  refine er_getf d_JC_run_16 f_JC_run_12 hj rfl ?_
  refine er_iload_n d_JC_run_19 rfl ?_
  refine er_callV (As := [.int (nI k)]) d_JC_run_20 k_JC_run_45 hW1 rfl rfl rfl (Nat.le_of_ble_eq_true rfl) (by decide) (by decide) (wo_hasN hl hw hk) ?_
  show jl_E l G m_JC_run (2, 12) 23 [some (.ref 0), some (.int (nI k)), some (.int (xa)), some (.int (xb)), some (.int (nI n)), some (.int (nI 0)), none] [.int (bi (tb k))] (σ) P
  refine er_callS (As := [.int (bi (tb k))]) d_JC_run_23 k_JC_run_65 rfl (Nat.le_of_ble_eq_true rfl) (by decide) (by decide) (jc_thereT hl ht) ?_
  show jl_E l G m_JC_run (3, 18) 26 [some (.ref 0), some (.int (nI k)), some (.int (xa)), some (.int (xb)), some (.int (nI n)), some (.int (nI 0)), none] [] (σ) P
  refine er_iload d_JC_run_26 rfl ?_
  refine er_if_ne 38 d_JC_run_28 (by decide) (fun z => absurd rfl z) (fun _ => ?_)
  refine er_aload_n d_JC_run_31 rfl ?_
  refine er_getf d_JC_run_32 f_JC_run_37 hj rfl ?_
  refine er_if_eq 42 d_JC_run_35 (by decide) (fun z => absurd z (by rw [hv]; decide)) (fun _ => ?_)
  refine er_iconst ((nI (1))) d_JC_run_38 (by decide) ?_
  refine er_goto 43 d_JC_run_39 (by decide) ?_
  refine er_callS (As := [.int (nI 1)]) d_JC_run_43 k_JC_run_123 rfl (Nat.le_of_ble_eq_true rfl) (by decide) (by decide) (jc_sup1 hl) ?_
  show jl_E l G m_JC_run (4, 24) 46 [some (.ref 0), some (.int (nI k)), some (.int (xa)), some (.int (xb)), some (.int (nI n)), some (.int (nI 0)), none] [] (σ) P
  refine er_aload_n d_JC_run_46 rfl ?_
  refine er_getf d_JC_run_47 f_JC_run_12 hj rfl ?_
  refine er_iload_n d_JC_run_50 rfl ?_
  refine er_iconst ((nI (0))) d_JC_run_51 (by decide) ?_
  refine er_callV (As := [.int (nI k), .int (nI 0)]) d_JC_run_52 k_JC_run_141 hW1 rfl rfl rfl (Nat.le_of_ble_eq_true rfl) (by decide) (by decide) (wo_foundE hl hw hok.1 hfa) ?_
  show jl_E l G m_JC_run (4, 24) 55 [some (.ref 0), some (.int (nI k)), some (.int (xa)), some (.int (xb)), some (.int (nI n)), some (.int (nI 0)), none] [.ref a] (σ) P
  refine er_astore d_JC_run_55 (by decide) ?_
  show jl_E l G m_JC_run (4, 24) 57 [some (.ref 0), some (.int (nI k)), some (.int (xa)), some (.int (xb)), some (.int (nI n)), some (.int (nI 0)), some (.ref a)] [] (σ) P
  refine er_aload d_JC_run_57 rfl ?_
  refine er_ifnull d_JC_run_59 ?_
  refine er_iconst ((nI (1))) d_JC_run_62 (by decide) ?_
  refine er_goto 67 d_JC_run_63 (by decide) ?_
  refine er_callS (As := [.int (nI 1)]) d_JC_run_67 k_JC_run_144 rfl (Nat.le_of_ble_eq_true rfl) (by decide) (by decide) (jc_ind1 hl) ?_
  show jl_E l G m_JC_run (5, 30) 70 [some (.ref 0), some (.int (nI k)), some (.int (xa)), some (.int (xb)), some (.int (nI n)), some (.int (nI 0)), some (.ref a)] [] (σ) P
  refine er_aload_n d_JC_run_70 rfl ?_
  refine er_getf d_JC_run_71 f_JC_run_33 hj rfl ?_
  refine er_iload_n d_JC_run_74 rfl ?_
  refine er_aload d_JC_run_75 rfl ?_
  refine er_iload_n d_JC_run_77 rfl ?_
  refine er_iload_n d_JC_run_78 rfl ?_
  refine er_callVE (As := [.int (nI k), .ref a, .int (xa), .int (xb)]) d_JC_run_79 k_JC_run_147 hX rfl rfl rfl (Nat.le_of_ble_eq_true rfl) (by decide) (by decide) (ma_begin hl hz hwx hmt hok hma hft (hD2 m (by rw [hma]; simp)) hk (fun σ hk1 => ⟨_, rfl, ?_⟩))
  obtain ⟨uw, ps, ty, va, hX, u1, u2, t1, t2, hS, hx, hto, hF⟩ := id hk1
  have hj : JcAt σ vf := (hF.2 0 (by omega)).trans hj0
  have hw := (hwx.fr hF hmt).1
  obtain ⟨hW1, h2, h3, h4, h5, h6, h7⟩ := id hw
  show jl_E l G m_JC_run (5, 30) 82 [some (.ref 0), some (.int (nI k)), some (.int (xa)), some (.int (xb)), some (.int (nI n)), some (.int (nI 0)), some (.ref a)] [] (σ) P
  refine er_aload_n d_JC_run_82 rfl ?_
  refine er_getf d_JC_run_83 f_JC_run_33 hj rfl ?_
  refine er_iload d_JC_run_86 rfl ?_
  refine er_iload d_JC_run_88 rfl ?_
  refine er_callVE (As := [.int (nI n), .int (nI 0)]) d_JC_run_90 k_JC_run_151 hX rfl rfl rfl (Nat.le_of_ble_eq_true rfl) (by decide) (by decide) (ma_carry (gd := false) (f := ⟨m, 0, bgR k (D m).1 (D m).2.1, bgV (D m).1 (D m).2.1 xa xb⟩) (fs := []) (H := mkO pr ow fi ft ⟨0, H.sz, H.ty, H.va, H.so⟩ k) (dq := nI 0) (aw := aw) hl hwx hmt hok hft hmH hD hD2 hsg hfd hW hE hn hk1 hsf (fun how what dn an H' aw' σ e1 e2 hz1 => ⟨_, rfl, ?_⟩))
  have e1 : mrn tb pr ow fi ft sg hs D false n ⟨m, 0, bgR k (D m).1 (D m).2.1, bgV (D m).1 (D m).2.1 xa xb⟩ [] (mkO pr ow fi ft ⟨0, H.sz, H.ty, H.va, H.so⟩ k) 0 = (how, what, dn, an, H') := e1
  obtain ⟨hT1, hT2⟩ := hT how what dn an H' aw' _ e1 e2 hz1 (by have := hmr; rw [e1] at this; omega)
  obtain ⟨tp, uw, ps, ty, va, hX, u1, u2, t1, t2, hS, hob, hto, hF⟩ := id hz1
  have hh31 : how < 2 ^ 31 := by have := hmr; rw [e1] at this; omega
  have hj : JcAt σ vf := (hF.2 0 (by omega)).trans hj0
  show jl_E l G m_JC_run (5, 30) 93 [some (.ref 0), some (.int (nI k)), some (.int (xa)), some (.int (xb)), some (.int (nI n)), some (.int (nI 0)), some (.ref a)] [] (σ) P
  refine er_aload_n d_JC_run_93 rfl ?_
  refine er_getf d_JC_run_94 f_JC_run_33 hj rfl ?_
  refine er_getf d_JC_run_97 f_JC_run_155 hX rfl ?_
  refine er_if_neN 107 d_JC_run_100 (by decide) (by omega) (fun c1 => ?_) (fun c1 => ?_)
  · refine er_iconst ((nI (0))) d_JC_run_107 (by decide) ?_
    exact er_callSX (As := [.int (nI 0)]) d_JC_run_108 k_JC_run_49 rfl rfl (Nat.le_of_ble_eq_true rfl) (by decide) (by decide) (jc_state0 hl) (hT2 (by omega))
  · refine er_iconst ((nI (1))) d_JC_run_103 (by decide) ?_
    refine er_goto 108 d_JC_run_104 (by decide) ?_
    refine er_callS (As := [.int (nI 1)]) d_JC_run_108 k_JC_run_49 rfl (Nat.le_of_ble_eq_true rfl) (by decide) (by decide) (jc_state1 hl) ?_
    show jl_E l G m_JC_run (6, 36) 111 [some (.ref 0), some (.int (nI k)), some (.int (xa)), some (.int (xb)), some (.int (nI n)), some (.int (nI 0)), some (.ref a)] [] (σ) P
    refine er_aload_n d_JC_run_111 rfl ?_
    refine er_getf d_JC_run_112 f_JC_run_33 hj rfl ?_
    refine er_getf d_JC_run_115 f_JC_run_158 hX rfl ?_
    exact er_iret d_JC_run_118 rfl (hT1 (by omega)) (by decide) (by decide)
end JCyf
