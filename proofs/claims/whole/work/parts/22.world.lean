/-! World, on (wip/gen/p22.py) -/
section JWr
variable {l : Launch} {G : jl_G} {σ : jl_S} {tb : Nat → Bool} {pr : Nat → Option Nat} {ow fi ft : Nat → Nat} {mt : Nat → Option Nat}
theorem d_Wo_hasField_0 : decode m_Wo_hasField.2.1 0 = .ok (.aload_n 0, 1) := by decide +kernel
theorem d_Wo_hasField_1 : decode m_Wo_hasField.2.1 1 = .ok (.iload_n 1, 1) := by decide +kernel
theorem k_Wo_hasField_34 : jl_cv m_Wo_hasField m_Wo_has 34 1 = true := by decide +kernel
theorem d_Wo_hasField_2 : decode m_Wo_hasField.2.1 2 = .ok (.invokevirtual 34, 3) := by decide +kernel
theorem d_Wo_hasField_5 : decode m_Wo_hasField.2.1 5 = .ok (.ifCond .eq 20, 3) := by decide +kernel
theorem d_Wo_hasField_25 : decode m_Wo_hasField.2.1 25 = .ok (.iconst 0, 1) := by decide +kernel
theorem d_Wo_hasField_26 : decode m_Wo_hasField.2.1 26 = .ok (.ireturn, 1) := by decide +kernel
theorem d_Wo_hasField_8 : decode m_Wo_hasField.2.1 8 = .ok (.iload_n 2, 1) := by decide +kernel
theorem d_Wo_hasField_9 : decode m_Wo_hasField.2.1 9 = .ok (.ifCond .lt 16, 3) := by decide +kernel
theorem d_Wo_hasField_12 : decode m_Wo_hasField.2.1 12 = .ok (.iload_n 2, 1) := by decide +kernel
theorem d_Wo_hasField_13 : decode m_Wo_hasField.2.1 13 = .ok (.aload_n 0, 1) := by decide +kernel
theorem d_Wo_hasField_14 : decode m_Wo_hasField.2.1 14 = .ok (.iload_n 1, 1) := by decide +kernel
theorem k_Wo_hasField_38 : jl_cv m_Wo_hasField m_Wo_fieldCount 38 1 = true := by decide +kernel
theorem d_Wo_hasField_15 : decode m_Wo_hasField.2.1 15 = .ok (.invokevirtual 38, 3) := by decide +kernel
theorem d_Wo_hasField_18 : decode m_Wo_hasField.2.1 18 = .ok (.if_icmp .ge 7, 3) := by decide +kernel
theorem d_Wo_hasField_21 : decode m_Wo_hasField.2.1 21 = .ok (.iconst 1, 1) := by decide +kernel
theorem d_Wo_hasField_22 : decode m_Wo_hasField.2.1 22 = .ok (.goto 4, 3) := by decide +kernel
theorem wo_hasField (hl : l.stackTraces = false) {k f : Int32} (hw : WoAt σ tb pr ow fi ft mt) (hok : WoOk tb pr ow fi) : jl_m l G m_Wo_hasField [.ref 1, .int (k), .int (f)] σ (.inl (some (.int (bi (hasF tb ow fi k f))))) (σ) := by
  obtain ⟨hW, h2, h3, h4, h5, h6, h7⟩ := id hw
  refine jl_of (as := [.ref 1, .int (k), .int (f)]) rfl (by decide) hl (jl_cc rfl (jl_cc rfl (jl_cc rfl jl_ca))) (Nat.le_of_ble_eq_true rfl) ?_
  show jl_W l G m_Wo_hasField (0, 0) 0 [some (.ref 1), some (.int (k)), some (.int (f))] [] (σ) (.inl (some (.int (bi (hasF tb ow fi k f))))) (σ)
  refine jr_aload_n d_Wo_hasField_0 rfl ?_
  refine jr_iload_n d_Wo_hasField_1 rfl ?_
  refine jr_callV (As := [.int (k)]) d_Wo_hasField_2 k_Wo_hasField_34 hW rfl rfl rfl (Nat.le_of_ble_eq_true rfl) (by decide) (by decide) (wo_has hl hw) ?_
  show jl_W l G m_Wo_hasField (0, 0) 5 [some (.ref 1), some (.int (k)), some (.int (f))] [.int (bi (hasI tb k))] (σ) (.inl (some (.int (bi (hasF tb ow fi k f))))) (σ)
  refine jr_if_eq 25 d_Wo_hasField_5 (by decide) (fun c1 => ?_) (fun c1 => ?_)
  · refine jr_iconst ((nI (0))) d_Wo_hasField_25 (by decide) ?_
    exact jr_zretE d_Wo_hasField_26 rfl (by decide) (by unfold hasF; rw [bi_0.mp c1]; rfl) (rfl) (by decide) (by decide)
  · obtain ⟨kk, hk, ek, htb⟩ := hasI_of (bi_nf c1)
    subst ek
    show jl_W l G m_Wo_hasField (0, 0) 8 [some (.ref 1), some (.int (nI kk)), some (.int (f))] [] (σ) (.inl (some (.int (bi (hasF tb ow fi (nI kk) f))))) (σ)
    refine jr_iload_n d_Wo_hasField_8 rfl ?_
    refine jr_if_lt 25 d_Wo_hasField_9 (by decide) (fun c2 => ?_) (fun c2 => ?_)
    · refine jr_iconst ((nI (0))) d_Wo_hasField_25 (by decide) ?_
      exact jr_zretE d_Wo_hasField_26 rfl (by decide) (by unfold hasF; rw [hasI_n hk, htb]; simp only [if_pos c2]; rfl) (rfl) (by decide) (by decide)
    · refine jr_iload_n d_Wo_hasField_12 rfl ?_
      refine jr_aload_n d_Wo_hasField_13 rfl ?_
      refine jr_iload_n d_Wo_hasField_14 rfl ?_
      refine jr_callV (As := [.int (nI kk)]) d_Wo_hasField_15 k_Wo_hasField_38 hW rfl rfl rfl (Nat.le_of_ble_eq_true rfl) (by decide) (by decide) (wo_fc hl hw hk) ?_
      show jl_W l G m_Wo_hasField (0, 0) 18 [some (.ref 1), some (.int (nI kk)), some (.int (f))] [.int (nI (fi kk + ow kk)), .int (f)] (σ) (.inl (some (.int (bi (hasF tb ow fi (nI kk) f))))) (σ)
      refine jr_icmp_ge 25 d_Wo_hasField_18 (by decide) (fun c3 => ?_) (fun c3 => ?_)
      · refine jr_iconst ((nI (0))) d_Wo_hasField_25 (by decide) ?_
        exact jr_zretE d_Wo_hasField_26 rfl (by decide) (by unfold hasF; rw [hasI_n hk, htb]; simp only [if_neg c2]; rw [nI_clamp (by omega), if_neg (Int32.not_lt.mpr c3)]; rfl) (rfl) (by decide) (by decide)
      · refine jr_iconst ((nI (1))) d_Wo_hasField_21 (by decide) ?_
        refine jr_goto 26 d_Wo_hasField_22 (by decide) ?_
        exact jr_zretE d_Wo_hasField_26 rfl (by decide) (by unfold hasF; rw [hasI_n hk, htb]; simp only [if_neg c2]; rw [nI_clamp (by omega), if_pos (Int32.not_le.mp c3)]; rfl) (rfl) (by decide) (by decide)
theorem d_Wo_found_24 : decode m_Wo_found.2.1 24 = .ok (.iload 4, 2) := by decide +kernel
theorem d_Wo_found_26 : decode m_Wo_found.2.1 26 = .ok (.bipush 6, 2) := by decide +kernel
theorem d_Wo_found_28 : decode m_Wo_found.2.1 28 = .ok (.if_icmp .ge 37, 3) := by decide +kernel
theorem d_Wo_found_65 : decode m_Wo_found.2.1 65 = .ok (.aconst_null, 1) := by decide +kernel
theorem d_Wo_found_66 : decode m_Wo_found.2.1 66 = .ok (.areturn, 1) := by decide +kernel
theorem d_Wo_found_31 : decode m_Wo_found.2.1 31 = .ok (.iload_n 3, 1) := by decide +kernel
theorem d_Wo_found_32 : decode m_Wo_found.2.1 32 = .ok (.iconst (-1), 1) := by decide +kernel
theorem d_Wo_found_33 : decode m_Wo_found.2.1 33 = .ok (.if_icmp .eq 32, 3) := by decide +kernel
theorem d_Wo_found_36 : decode m_Wo_found.2.1 36 = .ok (.aload_n 0, 1) := by decide +kernel
theorem d_Wo_found_37 : decode m_Wo_found.2.1 37 = .ok (.iload_n 3, 1) := by decide +kernel
theorem d_Wo_found_38 : decode m_Wo_found.2.1 38 = .ok (.iload_n 2, 1) := by decide +kernel
theorem k_Wo_found_42 : jl_cv m_Wo_found m_Wo_own 42 2 = true := by decide +kernel
theorem d_Wo_found_39 : decode m_Wo_found.2.1 39 = .ok (.invokevirtual 42, 3) := by decide +kernel
theorem d_Wo_found_42 : decode m_Wo_found.2.1 42 = .ok (.astore 5, 2) := by decide +kernel
theorem d_Wo_found_44 : decode m_Wo_found.2.1 44 = .ok (.aload 5, 2) := by decide +kernel
theorem d_Wo_found_46 : decode m_Wo_found.2.1 46 = .ok (.ifnull 6, 3) := by decide +kernel
theorem d_Wo_found_52 : decode m_Wo_found.2.1 52 = .ok (.aload_n 0, 1) := by decide +kernel
theorem f_Wo_found_15 : jl_fd m_Wo_found 15 5 1 = true := by decide +kernel
theorem d_Wo_found_53 : decode m_Wo_found.2.1 53 = .ok (.getfield 15, 3) := by decide +kernel
theorem d_Wo_found_56 : decode m_Wo_found.2.1 56 = .ok (.iload_n 3, 1) := by decide +kernel
theorem d_Wo_found_57 : decode m_Wo_found.2.1 57 = .ok (.iaload, 1) := by decide +kernel
theorem d_Wo_found_58 : decode m_Wo_found.2.1 58 = .ok (.istore_n 3, 1) := by decide +kernel
theorem d_Wo_found_59 : decode m_Wo_found.2.1 59 = .ok (.iinc 4 1, 3) := by decide +kernel
theorem d_Wo_found_62 : decode m_Wo_found.2.1 62 = .ok (.goto (-38), 3) := by decide +kernel
theorem d_Wo_found_49 : decode m_Wo_found.2.1 49 = .ok (.aload 5, 2) := by decide +kernel
theorem d_Wo_found_51 : decode m_Wo_found.2.1 51 = .ok (.areturn, 1) := by decide +kernel
theorem wo_fnd_loop (hl : l.stackTraces = false) {k : Int32} {sl : Nat} (hw : WoAt σ tb pr ow fi ft mt) (hok : ∀ j, ob 6 (pr j)) (hsl : sl < 4) : ∀ (nn : Nat) (i : Nat) (z : Option Nat) (w5 : Option Value), 6 - i < nn → i ≤ 6 → ob 6 z → jl_W l G m_Wo_found (0, 0) 24 [some (.ref 1), some (.int (k)), some (.int (nI sl)), some (.int (en z)), some (.int (nI i)), none] [] σ (.inl (some (va_rf (fnd pr mt sl (6 - i) z)))) (σ) := by
  obtain ⟨hW, h2, h3, h4, h5, h6, h7⟩ := id hw
  intro nn
  induction nn with
  | zero => intro i z w5 hnn; exact absurd hnn (Nat.not_lt_zero _)
  | succ nn ihn =>
    intro i z w5 hnn hi hz
    refine jr_iload d_Wo_found_24 rfl ?_
    refine jr_bipush ((nI (6))) d_Wo_found_26 (by decide) ?_
    refine jr_icmp_geN 65 d_Wo_found_28 (by decide) (by omega) (by omega) (fun c1 => ?_) (fun c1 => ?_)
    · refine jr_null d_Wo_found_65 ?_
      exact jr_aretE (r := none) d_Wo_found_66 rfl (by rw [show 6 - i = 0 by omega]; rfl) (rfl) (by decide) (by decide)
    · cases z with
      | none =>
        show jl_W l G m_Wo_found (0, 0) 31 [some (.ref 1), some (.int (k)), some (.int (nI sl)), some (.int (-1)), some (.int (nI i)), none] [] (σ) (.inl (some (va_rf (fnd pr mt sl (6 - i) none)))) (σ)
        refine jr_iload_n d_Wo_found_31 rfl ?_
        refine jr_iconst ((-1)) d_Wo_found_32 (by decide) ?_
        refine jr_icmp_eq 65 d_Wo_found_33 (by decide) (fun _ => ?_) (fun z => absurd (by decide) z)
        refine jr_null d_Wo_found_65 ?_
        exact jr_aretE (r := none) d_Wo_found_66 rfl (by rw [show 6 - i = (6 - (i + 1)) + 1 by omega]; rfl) (rfl) (by decide) (by decide)
      | some c =>
        have hc := hz c rfl
        show jl_W l G m_Wo_found (0, 0) 31 [some (.ref 1), some (.int (k)), some (.int (nI sl)), some (.int (nI c)), some (.int (nI i)), none] [] (σ) (.inl (some (va_rf (fnd pr mt sl (6 - i) (some c))))) (σ)
        refine jr_iload_n d_Wo_found_31 rfl ?_
        refine jr_iconst ((-1)) d_Wo_found_32 (by decide) ?_
        refine jr_icmp_eq 65 d_Wo_found_33 (by decide) (fun z => absurd z (en_m1ne (by omega))) (fun _ => ?_)
        refine jr_aload_n d_Wo_found_36 rfl ?_
        refine jr_iload_n d_Wo_found_37 rfl ?_
        refine jr_iload_n d_Wo_found_38 rfl ?_
        refine jr_callV (As := [.int (nI c), .int (nI sl)]) d_Wo_found_39 k_Wo_found_42 hW rfl rfl rfl (Nat.le_of_ble_eq_true rfl) (by decide) (by decide) (wo_own hl hw (by omega) (by omega)) ?_
        show jl_W l G m_Wo_found (0, 0) 42 [some (.ref 1), some (.int (k)), some (.int (nI sl)), some (.int (nI c)), some (.int (nI i)), none] [va_rf (mt (c * 4 + sl))] (σ) (.inl (some (va_rf (fnd pr mt sl (6 - i) (some c))))) (σ)
        refine jr_astoreO d_Wo_found_42 (by decide) ?_
        show jl_W l G m_Wo_found (0, 0) 44 [some (.ref 1), some (.int (k)), some (.int (nI sl)), some (.int (nI c)), some (.int (nI i)), some (va_rf (mt (c * 4 + sl)))] [] (σ) (.inl (some (va_rf (fnd pr mt sl (6 - i) (some c))))) (σ)
        refine jr_aloadO d_Wo_found_44 rfl ?_
        cases c2 : mt (c * 4 + sl) with
        | none =>
          show jl_W l G m_Wo_found (0, 0) 46 [some (.ref 1), some (.int (k)), some (.int (nI sl)), some (.int (nI c)), some (.int (nI i)), some (.null)] [.null] (σ) (.inl (some (va_rf (fnd pr mt sl (6 - i) (some c))))) (σ)
          refine jr_ifnullN 52 d_Wo_found_46 (by decide) ?_
          refine jr_aload_n d_Wo_found_52 rfl ?_
          refine jr_getf d_Wo_found_53 f_Wo_found_15 hW rfl ?_
          refine jr_iload_n d_Wo_found_56 rfl ?_
          refine jr_ialdN d_Wo_found_57 h3 (by omega) (by omega) ?_
          refine jr_istore_n d_Wo_found_58 (by decide) ?_
          show jl_W l G m_Wo_found (0, 0) 59 [some (.ref 1), some (.int (k)), some (.int (nI sl)), some (.int (en (pr (c)))), some (.int (nI i)), some (.null)] [] (σ) (.inl (some (va_rf (fnd pr mt sl (6 - i) (some c))))) (σ)
          refine jr_iinc ((nI (i + 1))) d_Wo_found_59 (by decide) rfl (jl_inc _) ?_
          show jl_W l G m_Wo_found (0, 0) 62 [some (.ref 1), some (.int (k)), some (.int (nI sl)), some (.int (en (pr (c)))), some (.int (nI (i + 1))), some (.null)] [] (σ) (.inl (some (va_rf (fnd pr mt sl (6 - i) (some c))))) (σ)
          refine jr_goto 24 d_Wo_found_62 (by decide) ?_
          exact jr_weak (fun q v hv => by match q, hv with | 0, hv => exact hv | 1, hv => exact hv | 2, hv => exact hv | 3, hv => exact hv | 4, hv => exact hv | q + 5, hv => cases q <;> simp at hv) (jl_oeq (by rw [show 6 - i = (6 - (i + 1)) + 1 by omega]; simp only [fnd]; rw [c2]) (ihn (i + 1) (pr c) w5 (by omega) (by omega) (hok c)))
        | some ac2 =>
          show jl_W l G m_Wo_found (0, 0) 46 [some (.ref 1), some (.int (k)), some (.int (nI sl)), some (.int (nI c)), some (.int (nI i)), some (.ref ac2)] [.ref ac2] (σ) (.inl (some (va_rf (fnd pr mt sl (6 - i) (some c))))) (σ)
          refine jr_ifnull d_Wo_found_46 ?_
          refine jr_aload d_Wo_found_49 rfl ?_
          exact jr_aretE (r := some (ac2)) d_Wo_found_51 rfl (by rw [show 6 - i = (6 - (i + 1)) + 1 by omega]; simp only [fnd]; rw [c2]) (rfl) (by decide) (by decide)
theorem d_Wo_found_0 : decode m_Wo_found.2.1 0 = .ok (.aload_n 0, 1) := by decide +kernel
theorem d_Wo_found_1 : decode m_Wo_found.2.1 1 = .ok (.iload_n 1, 1) := by decide +kernel
theorem k_Wo_found_34 : jl_cv m_Wo_found m_Wo_has 34 1 = true := by decide +kernel
theorem d_Wo_found_2 : decode m_Wo_found.2.1 2 = .ok (.invokevirtual 34, 3) := by decide +kernel
theorem d_Wo_found_5 : decode m_Wo_found.2.1 5 = .ok (.ifCond .eq 12, 3) := by decide +kernel
theorem d_Wo_found_17 : decode m_Wo_found.2.1 17 = .ok (.aconst_null, 1) := by decide +kernel
theorem d_Wo_found_18 : decode m_Wo_found.2.1 18 = .ok (.areturn, 1) := by decide +kernel
theorem d_Wo_found_8 : decode m_Wo_found.2.1 8 = .ok (.iload_n 2, 1) := by decide +kernel
theorem d_Wo_found_9 : decode m_Wo_found.2.1 9 = .ok (.ifCond .lt 8, 3) := by decide +kernel
theorem d_Wo_found_12 : decode m_Wo_found.2.1 12 = .ok (.iload_n 2, 1) := by decide +kernel
theorem d_Wo_found_13 : decode m_Wo_found.2.1 13 = .ok (.iconst 4, 1) := by decide +kernel
theorem d_Wo_found_14 : decode m_Wo_found.2.1 14 = .ok (.if_icmp .lt 5, 3) := by decide +kernel
theorem d_Wo_found_19 : decode m_Wo_found.2.1 19 = .ok (.iload_n 1, 1) := by decide +kernel
theorem d_Wo_found_20 : decode m_Wo_found.2.1 20 = .ok (.istore_n 3, 1) := by decide +kernel
theorem d_Wo_found_21 : decode m_Wo_found.2.1 21 = .ok (.iconst 0, 1) := by decide +kernel
theorem d_Wo_found_22 : decode m_Wo_found.2.1 22 = .ok (.istore 4, 2) := by decide +kernel
theorem wo_found (hl : l.stackTraces = false) {k sl : Int32} (hw : WoAt σ tb pr ow fi ft mt) (hok : ∀ j, ob 6 (pr j)) : jl_m l G m_Wo_found [.ref 1, .int (k), .int (sl)] σ (.inl (some (va_rf (found tb pr mt k sl)))) (σ) := by
  obtain ⟨hW, h2, h3, h4, h5, h6, h7⟩ := id hw
  refine jl_of (as := [.ref 1, .int (k), .int (sl)]) rfl (by decide) hl (jl_cc rfl (jl_cc rfl (jl_cc rfl jl_ca))) (Nat.le_of_ble_eq_true rfl) ?_
  show jl_W l G m_Wo_found (0, 0) 0 [some (.ref 1), some (.int (k)), some (.int (sl)), none, none, none] [] (σ) (.inl (some (va_rf (found tb pr mt k sl)))) (σ)
  refine jr_aload_n d_Wo_found_0 rfl ?_
  refine jr_iload_n d_Wo_found_1 rfl ?_
  refine jr_callV (As := [.int (k)]) d_Wo_found_2 k_Wo_found_34 hW rfl rfl rfl (Nat.le_of_ble_eq_true rfl) (by decide) (by decide) (wo_has hl hw) ?_
  show jl_W l G m_Wo_found (0, 0) 5 [some (.ref 1), some (.int (k)), some (.int (sl)), none, none, none] [.int (bi (hasI tb k))] (σ) (.inl (some (va_rf (found tb pr mt k sl)))) (σ)
  refine jr_if_eq 17 d_Wo_found_5 (by decide) (fun c1 => ?_) (fun c1 => ?_)
  · refine jr_null d_Wo_found_17 ?_
    exact jr_aretE (r := none) d_Wo_found_18 rfl (by unfold found; rw [if_pos (bi_0.mp c1)]) (rfl) (by decide) (by decide)
  · refine jr_iload_n d_Wo_found_8 rfl ?_
    refine jr_if_lt 17 d_Wo_found_9 (by decide) (fun c2 => ?_) (fun c2 => ?_)
    · refine jr_null d_Wo_found_17 ?_
      exact jr_aretE (r := none) d_Wo_found_18 rfl (by unfold found; rw [if_neg (by rw [bi_nf c1]; decide), if_pos c2]) (rfl) (by decide) (by decide)
    · refine jr_iload_n d_Wo_found_12 rfl ?_
      refine jr_iconst ((nI (4))) d_Wo_found_13 (by decide) ?_
      refine jr_icmp_lt 19 d_Wo_found_14 (by decide) (fun c3 => ?_) (fun c3 => ?_)
      · obtain ⟨kk, hk, ek, htb⟩ := hasI_of (bi_nf c1)
        subst ek
        obtain ⟨s4, hs4, es⟩ := jl_rng c2 c3 (by decide)
        subst es
        show jl_W l G m_Wo_found (0, 0) 19 [some (.ref 1), some (.int (nI kk)), some (.int (nI s4)), none, none, none] [] (σ) (.inl (some (va_rf (found tb pr mt (nI kk) (nI s4))))) (σ)
        refine jr_iload_n d_Wo_found_19 rfl ?_
        refine jr_istore_n d_Wo_found_20 (by decide) ?_
        show jl_W l G m_Wo_found (0, 0) 21 [some (.ref 1), some (.int (nI kk)), some (.int (nI s4)), some (.int (nI kk)), none, none] [] (σ) (.inl (some (va_rf (found tb pr mt (nI kk) (nI s4))))) (σ)
        refine jr_iconst ((nI (0))) d_Wo_found_21 (by decide) ?_
        refine jr_istore d_Wo_found_22 (by decide) ?_
        show jl_W l G m_Wo_found (0, 0) 24 [some (.ref 1), some (.int (nI kk)), some (.int (nI s4)), some (.int (nI kk)), some (.int (nI 0)), none] [] (σ) (.inl (some (va_rf (found tb pr mt (nI kk) (nI s4))))) (σ)
        exact jl_oeq (by unfold found; rw [if_neg (by rw [bi_nf c1]; decide), if_neg c2, if_pos c3, nI_clamp (by omega), nI_clamp (by omega)]) (wo_fnd_loop hl hw hok hs4 7 0 (some kk) none (by omega) (by omega) (fun a ha => by cases ha; exact hk))
      · refine jr_null d_Wo_found_17 ?_
        exact jr_aretE (r := none) d_Wo_found_18 rfl (by unfold found; rw [if_neg (by rw [bi_nf c1]; decide), if_neg c2, if_neg c3]) (rfl) (by decide) (by decide)
theorem d_Wo_ownMethods_4 : decode m_Wo_ownMethods.2.1 4 = .ok (.iload_n 3, 1) := by decide +kernel
theorem d_Wo_ownMethods_5 : decode m_Wo_ownMethods.2.1 5 = .ok (.iconst 4, 1) := by decide +kernel
theorem d_Wo_ownMethods_6 : decode m_Wo_ownMethods.2.1 6 = .ok (.if_icmp .ge 21, 3) := by decide +kernel
theorem d_Wo_ownMethods_27 : decode m_Wo_ownMethods.2.1 27 = .ok (.iload_n 2, 1) := by decide +kernel
theorem d_Wo_ownMethods_28 : decode m_Wo_ownMethods.2.1 28 = .ok (.ireturn, 1) := by decide +kernel
theorem d_Wo_ownMethods_9 : decode m_Wo_ownMethods.2.1 9 = .ok (.aload_n 0, 1) := by decide +kernel
theorem d_Wo_ownMethods_10 : decode m_Wo_ownMethods.2.1 10 = .ok (.iload_n 1, 1) := by decide +kernel
theorem d_Wo_ownMethods_11 : decode m_Wo_ownMethods.2.1 11 = .ok (.iload_n 3, 1) := by decide +kernel
theorem k_Wo_ownMethods_42 : jl_cv m_Wo_ownMethods m_Wo_own 42 2 = true := by decide +kernel
theorem d_Wo_ownMethods_12 : decode m_Wo_ownMethods.2.1 12 = .ok (.invokevirtual 42, 3) := by decide +kernel
theorem d_Wo_ownMethods_15 : decode m_Wo_ownMethods.2.1 15 = .ok (.ifnull 6, 3) := by decide +kernel
theorem d_Wo_ownMethods_21 : decode m_Wo_ownMethods.2.1 21 = .ok (.iinc 3 1, 3) := by decide +kernel
theorem d_Wo_ownMethods_24 : decode m_Wo_ownMethods.2.1 24 = .ok (.goto (-20), 3) := by decide +kernel
theorem d_Wo_ownMethods_18 : decode m_Wo_ownMethods.2.1 18 = .ok (.iinc 2 1, 3) := by decide +kernel
theorem wo_om_loop (hl : l.stackTraces = false) {k : Nat} (hw : WoAt σ tb pr ow fi ft mt) (hk : k < 6) : ∀ (nn : Nat) (i n : Nat), 4 - i < nn → i ≤ 4 → n + (4 - i) ≤ 4 → jl_W l G m_Wo_ownMethods (0, 0) 4 [some (.ref 1), some (.int (nI k)), some (.int (nI n)), some (.int (nI i))] [] σ (.inl (some (.int (nI (n + cnt (fun q => (mt (k * 4 + q)).isSome) (4 - i) i))))) (σ) := by
  obtain ⟨hW, h2, h3, h4, h5, h6, h7⟩ := id hw
  intro nn
  induction nn with
  | zero => intro i n hnn; exact absurd hnn (Nat.not_lt_zero _)
  | succ nn ihn =>
    intro i n hnn hi hn
    refine jr_iload_n d_Wo_ownMethods_4 rfl ?_
    refine jr_iconst ((nI (4))) d_Wo_ownMethods_5 (by decide) ?_
    refine jr_icmp_geN 27 d_Wo_ownMethods_6 (by decide) (by omega) (by omega) (fun c1 => ?_) (fun c1 => ?_)
    · refine jr_iload_n d_Wo_ownMethods_27 rfl ?_
      exact jr_iretE d_Wo_ownMethods_28 rfl (by rw [show 4 - i = 0 by omega]; rfl) (rfl) (by decide) (by decide)
    · refine jr_aload_n d_Wo_ownMethods_9 rfl ?_
      refine jr_iload_n d_Wo_ownMethods_10 rfl ?_
      refine jr_iload_n d_Wo_ownMethods_11 rfl ?_
      refine jr_callV (As := [.int (nI k), .int (nI i)]) d_Wo_ownMethods_12 k_Wo_ownMethods_42 hW rfl rfl rfl (Nat.le_of_ble_eq_true rfl) (by decide) (by decide) (wo_own hl hw (by omega) (by omega)) ?_
      show jl_W l G m_Wo_ownMethods (0, 0) 15 [some (.ref 1), some (.int (nI k)), some (.int (nI n)), some (.int (nI i))] [va_rf (mt (k * 4 + i))] (σ) (.inl (some (.int (nI (n + cnt (fun q => (mt (k * 4 + q)).isSome) (4 - i) i))))) (σ)
      cases c2 : mt (k * 4 + i) with
      | none =>
        show jl_W l G m_Wo_ownMethods (0, 0) 15 [some (.ref 1), some (.int (nI k)), some (.int (nI n)), some (.int (nI i))] [.null] (σ) (.inl (some (.int (nI (n + cnt (fun q => (mt (k * 4 + q)).isSome) (4 - i) i))))) (σ)
        refine jr_ifnullN 21 d_Wo_ownMethods_15 (by decide) ?_
        refine jr_iinc ((nI (i + 1))) d_Wo_ownMethods_21 (by decide) rfl (jl_inc _) ?_
        show jl_W l G m_Wo_ownMethods (0, 0) 24 [some (.ref 1), some (.int (nI k)), some (.int (nI n)), some (.int (nI (i + 1)))] [] (σ) (.inl (some (.int (nI (n + cnt (fun q => (mt (k * 4 + q)).isSome) (4 - i) i))))) (σ)
        refine jr_goto 4 d_Wo_ownMethods_24 (by decide) ?_
        exact jl_oeq (by rw [show 4 - i = (4 - (i + 1)) + 1 by omega]; simp [cnt, c2]) (ihn (i + 1) (n) (by omega) (by omega) (by omega))
      | some ac2 =>
        show jl_W l G m_Wo_ownMethods (0, 0) 15 [some (.ref 1), some (.int (nI k)), some (.int (nI n)), some (.int (nI i))] [.ref ac2] (σ) (.inl (some (.int (nI (n + cnt (fun q => (mt (k * 4 + q)).isSome) (4 - i) i))))) (σ)
        refine jr_ifnull d_Wo_ownMethods_15 ?_
        refine jr_iinc ((nI (n + 1))) d_Wo_ownMethods_18 (by decide) rfl (jl_inc _) ?_
        show jl_W l G m_Wo_ownMethods (0, 0) 21 [some (.ref 1), some (.int (nI k)), some (.int (nI (n + 1))), some (.int (nI i))] [] (σ) (.inl (some (.int (nI (n + cnt (fun q => (mt (k * 4 + q)).isSome) (4 - i) i))))) (σ)
        refine jr_iinc ((nI (i + 1))) d_Wo_ownMethods_21 (by decide) rfl (jl_inc _) ?_
        show jl_W l G m_Wo_ownMethods (0, 0) 24 [some (.ref 1), some (.int (nI k)), some (.int (nI (n + 1))), some (.int (nI (i + 1)))] [] (σ) (.inl (some (.int (nI (n + cnt (fun q => (mt (k * 4 + q)).isSome) (4 - i) i))))) (σ)
        refine jr_goto 4 d_Wo_ownMethods_24 (by decide) ?_
        exact jl_oeq (by rw [show 4 - i = (4 - (i + 1)) + 1 by omega]; simp [cnt, c2, Nat.add_assoc]) (ihn (i + 1) (n + 1) (by omega) (by omega) (by omega))
theorem d_Wo_ownMethods_0 : decode m_Wo_ownMethods.2.1 0 = .ok (.iconst 0, 1) := by decide +kernel
theorem d_Wo_ownMethods_1 : decode m_Wo_ownMethods.2.1 1 = .ok (.istore_n 2, 1) := by decide +kernel
theorem d_Wo_ownMethods_2 : decode m_Wo_ownMethods.2.1 2 = .ok (.iconst 0, 1) := by decide +kernel
theorem d_Wo_ownMethods_3 : decode m_Wo_ownMethods.2.1 3 = .ok (.istore_n 3, 1) := by decide +kernel
theorem wo_om (hl : l.stackTraces = false) {k : Nat} (hw : WoAt σ tb pr ow fi ft mt) (hk : k < 6) : jl_m l G m_Wo_ownMethods [.ref 1, .int (nI k)] σ (.inl (some (.int (nI (cnt (fun q => (mt (k * 4 + q)).isSome) 4 0))))) (σ) := by
  obtain ⟨hW, h2, h3, h4, h5, h6, h7⟩ := id hw
  refine jl_of (as := [.ref 1, .int (nI k)]) rfl (by decide) hl (jl_cc rfl (jl_cc rfl jl_ca)) (Nat.le_of_ble_eq_true rfl) ?_
  show jl_W l G m_Wo_ownMethods (0, 0) 0 [some (.ref 1), some (.int (nI k)), none, none] [] (σ) (.inl (some (.int (nI (cnt (fun q => (mt (k * 4 + q)).isSome) 4 0))))) (σ)
  refine jr_iconst ((nI (0))) d_Wo_ownMethods_0 (by decide) ?_
  refine jr_istore_n d_Wo_ownMethods_1 (by decide) ?_
  show jl_W l G m_Wo_ownMethods (0, 0) 2 [some (.ref 1), some (.int (nI k)), some (.int (nI 0)), none] [] (σ) (.inl (some (.int (nI (cnt (fun q => (mt (k * 4 + q)).isSome) 4 0))))) (σ)
  refine jr_iconst ((nI (0))) d_Wo_ownMethods_2 (by decide) ?_
  refine jr_istore_n d_Wo_ownMethods_3 (by decide) ?_
  show jl_W l G m_Wo_ownMethods (0, 0) 4 [some (.ref 1), some (.int (nI k)), some (.int (nI 0)), some (.int (nI 0))] [] (σ) (.inl (some (.int (nI (cnt (fun q => (mt (k * 4 + q)).isSome) 4 0))))) (σ)
  exact jl_oeq (by rw [Nat.zero_add]) (wo_om_loop hl hw hk 5 0 0 (by omega) (by omega) (by omega))
theorem d_Wo_methodCount_4 : decode m_Wo_methodCount.2.1 4 = .ok (.iload_n 2, 1) := by decide +kernel
theorem d_Wo_methodCount_5 : decode m_Wo_methodCount.2.1 5 = .ok (.bipush 6, 2) := by decide +kernel
theorem d_Wo_methodCount_7 : decode m_Wo_methodCount.2.1 7 = .ok (.if_icmp .ge 17, 3) := by decide +kernel
theorem d_Wo_methodCount_24 : decode m_Wo_methodCount.2.1 24 = .ok (.iload_n 1, 1) := by decide +kernel
theorem d_Wo_methodCount_25 : decode m_Wo_methodCount.2.1 25 = .ok (.ireturn, 1) := by decide +kernel
theorem d_Wo_methodCount_10 : decode m_Wo_methodCount.2.1 10 = .ok (.iload_n 1, 1) := by decide +kernel
theorem d_Wo_methodCount_11 : decode m_Wo_methodCount.2.1 11 = .ok (.aload_n 0, 1) := by decide +kernel
theorem d_Wo_methodCount_12 : decode m_Wo_methodCount.2.1 12 = .ok (.iload_n 2, 1) := by decide +kernel
theorem k_Wo_methodCount_46 : jl_cv m_Wo_methodCount m_Wo_ownMethods 46 1 = true := by decide +kernel
theorem d_Wo_methodCount_13 : decode m_Wo_methodCount.2.1 13 = .ok (.invokevirtual 46, 3) := by decide +kernel
theorem d_Wo_methodCount_16 : decode m_Wo_methodCount.2.1 16 = .ok (.iadd, 1) := by decide +kernel
theorem d_Wo_methodCount_17 : decode m_Wo_methodCount.2.1 17 = .ok (.istore_n 1, 1) := by decide +kernel
theorem d_Wo_methodCount_18 : decode m_Wo_methodCount.2.1 18 = .ok (.iinc 2 1, 3) := by decide +kernel
theorem d_Wo_methodCount_21 : decode m_Wo_methodCount.2.1 21 = .ok (.goto (-17), 3) := by decide +kernel
theorem wo_mc_loop (hl : l.stackTraces = false)  (hw : WoAt σ tb pr ow fi ft mt)  : ∀ (nn : Nat) (i n : Nat), 6 - i < nn → i ≤ 6 → n ≤ 4 * i → jl_W l G m_Wo_methodCount (0, 0) 4 [some (.ref 1), some (.int (nI n)), some (.int (nI i))] [] σ (.inl (some (.int (nI (n + sm (fun k => cnt (fun q => (mt (k * 4 + q)).isSome) 4 0) (6 - i) i))))) (σ) := by
  obtain ⟨hW, h2, h3, h4, h5, h6, h7⟩ := id hw
  intro nn
  induction nn with
  | zero => intro i n hnn; exact absurd hnn (Nat.not_lt_zero _)
  | succ nn ihn =>
    intro i n hnn hi hn
    refine jr_iload_n d_Wo_methodCount_4 rfl ?_
    refine jr_bipush ((nI (6))) d_Wo_methodCount_5 (by decide) ?_
    refine jr_icmp_geN 24 d_Wo_methodCount_7 (by decide) (by omega) (by omega) (fun c1 => ?_) (fun c1 => ?_)
    · refine jr_iload_n d_Wo_methodCount_24 rfl ?_
      exact jr_iretE d_Wo_methodCount_25 rfl (by rw [show 6 - i = 0 by omega]; rfl) (rfl) (by decide) (by decide)
    · refine jr_iload_n d_Wo_methodCount_10 rfl ?_
      refine jr_aload_n d_Wo_methodCount_11 rfl ?_
      refine jr_iload_n d_Wo_methodCount_12 rfl ?_
      refine jr_callV (As := [.int (nI i)]) d_Wo_methodCount_13 k_Wo_methodCount_46 hW rfl rfl rfl (Nat.le_of_ble_eq_true rfl) (by decide) (by decide) (wo_om hl hw (by omega)) ?_
      show jl_W l G m_Wo_methodCount (0, 0) 16 [some (.ref 1), some (.int (nI n)), some (.int (nI i))] [.int (nI (cnt (fun q => (mt (i * 4 + q)).isSome) 4 0)), .int (nI n)] (σ) (.inl (some (.int (nI (n + sm (fun k => cnt (fun q => (mt (k * 4 + q)).isSome) 4 0) (6 - i) i))))) (σ)
      refine jr_iaddN d_Wo_methodCount_16 ?_
      refine jr_istore_n d_Wo_methodCount_17 (by decide) ?_
      show jl_W l G m_Wo_methodCount (0, 0) 18 [some (.ref 1), some (.int (nI ((n) + (cnt (fun q => (mt (i * 4 + q)).isSome) 4 0)))), some (.int (nI i))] [] (σ) (.inl (some (.int (nI (n + sm (fun k => cnt (fun q => (mt (k * 4 + q)).isSome) 4 0) (6 - i) i))))) (σ)
      refine jr_iinc ((nI (i + 1))) d_Wo_methodCount_18 (by decide) rfl (jl_inc _) ?_
      show jl_W l G m_Wo_methodCount (0, 0) 21 [some (.ref 1), some (.int (nI ((n) + (cnt (fun q => (mt (i * 4 + q)).isSome) 4 0)))), some (.int (nI (i + 1)))] [] (σ) (.inl (some (.int (nI (n + sm (fun k => cnt (fun q => (mt (k * 4 + q)).isSome) 4 0) (6 - i) i))))) (σ)
      refine jr_goto 4 d_Wo_methodCount_21 (by decide) ?_
      exact jl_oeq (by rw [show 6 - i = (6 - (i + 1)) + 1 by omega]; simp only [sm]; rw [Nat.add_assoc]) (ihn (i + 1) (n + cnt (fun q => (mt (i * 4 + q)).isSome) 4 0) (by omega) (by omega) (by have := cnt_le (fun q => (mt (i * 4 + q)).isSome) 4 0; omega))
theorem d_Wo_methodCount_0 : decode m_Wo_methodCount.2.1 0 = .ok (.iconst 0, 1) := by decide +kernel
theorem d_Wo_methodCount_1 : decode m_Wo_methodCount.2.1 1 = .ok (.istore_n 1, 1) := by decide +kernel
theorem d_Wo_methodCount_2 : decode m_Wo_methodCount.2.1 2 = .ok (.iconst 0, 1) := by decide +kernel
theorem d_Wo_methodCount_3 : decode m_Wo_methodCount.2.1 3 = .ok (.istore_n 2, 1) := by decide +kernel
theorem wo_mc (hl : l.stackTraces = false)  (hw : WoAt σ tb pr ow fi ft mt)  : jl_m l G m_Wo_methodCount [.ref 1] σ (.inl (some (.int (nI (sm (fun k => cnt (fun q => (mt (k * 4 + q)).isSome) 4 0) 6 0))))) (σ) := by
  obtain ⟨hW, h2, h3, h4, h5, h6, h7⟩ := id hw
  refine jl_of (as := [.ref 1]) rfl (by decide) hl (jl_cc rfl jl_ca) (Nat.le_of_ble_eq_true rfl) ?_
  show jl_W l G m_Wo_methodCount (0, 0) 0 [some (.ref 1), none, none] [] (σ) (.inl (some (.int (nI (sm (fun k => cnt (fun q => (mt (k * 4 + q)).isSome) 4 0) 6 0))))) (σ)
  refine jr_iconst ((nI (0))) d_Wo_methodCount_0 (by decide) ?_
  refine jr_istore_n d_Wo_methodCount_1 (by decide) ?_
  show jl_W l G m_Wo_methodCount (0, 0) 2 [some (.ref 1), some (.int (nI 0)), none] [] (σ) (.inl (some (.int (nI (sm (fun k => cnt (fun q => (mt (k * 4 + q)).isSome) 4 0) 6 0))))) (σ)
  refine jr_iconst ((nI (0))) d_Wo_methodCount_2 (by decide) ?_
  refine jr_istore_n d_Wo_methodCount_3 (by decide) ?_
  show jl_W l G m_Wo_methodCount (0, 0) 4 [some (.ref 1), some (.int (nI 0)), some (.int (nI 0))] [] (σ) (.inl (some (.int (nI (sm (fun k => cnt (fun q => (mt (k * 4 + q)).isSome) 4 0) 6 0))))) (σ)
  exact jl_oeq (by rw [Nat.zero_add]) (wo_mc_loop hl hw 7 0 0 (by omega) (by omega) (by omega))
end JWr
