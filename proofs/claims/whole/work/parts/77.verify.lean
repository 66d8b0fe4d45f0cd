/-! verify: class (wip/gen/p77.py) -/
section JVv
variable {l : Launch} {G : jl_G} {σ : jl_S}
variable {tb : Nat → Bool} {pr : Nat → Option Nat} {ow fi ft : Nat → Nat} {mt : Nat → Option Nat}
variable {vf : Bool} {wr wz : Int32} {bf gv jn : Nat → Option Nat} {sg : Int32 → Option Sg} {D : Nat → MDt} {MP : Nat → Nat → Int32} {FH : Nat → Nat → Bool}
theorem jc_sup1 (hl : l.stackTraces = false) : jl_m l G m_JC_needSupport [.int (nI 1)] σ (.inl none) σ := jc_support (b := true) hl
theorem jc_sup0 (hl : l.stackTraces = false) : jl_m l G m_JC_needSupport [.int (nI 0)] σ (.inr xU) σ := jc_support (b := false) hl
theorem d_JC_verify_0 : decode m_JC_verify.2.1 0 = .ok (.aload_n 0, 1) := by decide +kernel
theorem d_JC_verify_1 : decode m_JC_verify.2.1 1 = .ok (.aload_n 0, 1) := by decide +kernel
theorem f_JC_verify_26 : jl_fd m_JC_verify 26 6 1 = true := by decide +kernel
theorem d_JC_verify_2 : decode m_JC_verify.2.1 2 = .ok (.getfield 26, 3) := by decide +kernel
theorem k_JC_verify_119 : jl_cv m_JC_verify m_Ve_findsNoFault 119 0 = true := by decide +kernel
theorem d_JC_verify_5 : decode m_JC_verify.2.1 5 = .ok (.invokevirtual 119, 3) := by decide +kernel
theorem p_JC_verify_37 : jl_fp m_JC_verify 37 6 3 = true := by decide +kernel
theorem d_JC_verify_8 : decode m_JC_verify.2.1 8 = .ok (.putfield 37, 3) := by decide +kernel
theorem d_JC_verify_11 : decode m_JC_verify.2.1 11 = .ok (.aload_n 0, 1) := by decide +kernel
theorem f_JC_verify_37 : jl_fd m_JC_verify 37 6 3 = true := by decide +kernel
theorem d_JC_verify_12 : decode m_JC_verify.2.1 12 = .ok (.getfield 37, 3) := by decide +kernel
theorem k_JC_verify_123 : jl_cz m_JC_verify m_JC_needSupport 123 1 = true := by decide +kernel
theorem d_JC_verify_15 : decode m_JC_verify.2.1 15 = .ok (.invokestatic 123, 3) := by decide +kernel
theorem d_JC_verify_18 : decode m_JC_verify.2.1 18 = .ok (.aload_n 0, 1) := by decide +kernel
theorem f_JC_verify_12 : jl_fd m_JC_verify 12 6 0 = true := by decide +kernel
theorem d_JC_verify_19 : decode m_JC_verify.2.1 19 = .ok (.getfield 12, 3) := by decide +kernel
theorem k_JC_verify_126 : jl_cv m_JC_verify m_Wo_methodCount 126 0 = true := by decide +kernel
theorem d_JC_verify_22 : decode m_JC_verify.2.1 22 = .ok (.invokevirtual 126, 3) := by decide +kernel
theorem d_JC_verify_25 : decode m_JC_verify.2.1 25 = .ok (.ireturn, 1) := by decide +kernel
theorem jc_verify (hl : l.stackTraces = false) {P : jl_O → jl_S → Prop}  (hj : JcAt σ vf) (hgv : GV σ tb pr ow fi ft mt sg D wr wz bf gv jn MP FH) (hok : WoOk tb pr ow fi) (hmt : MtOk mt) (hI : MtI mt) (hD : ∀ m, mt m ≠ none → MdOk (D m)) (hft : ∀ k f, tyv (some (fty pr fi ft k f))) (hsgv : ∀ x g, sg x = some g → tyv (some g.2.2)) (hbk : gok bf) (hgk : gok gv) (hm24 : ∀ m, mt m ≠ none → m < 24) (hT : ∀ bf' gv' jn' MP' FH' σ', gok bf' → gok gv' → vdn tb pr ow fi ft sg D mt MP' 24 → GV σ' tb pr ow fi ft mt sg D (-1) (-1) bf' gv' jn' MP' FH' → FrV mt σ σ' → P (.inl (some (.int (nI (sm (fun k => cnt (fun q => (mt (k * 4 + q)).isSome) 4 0) 6 0))))) (σ'.set 0 (.inr (6, [.ref 1, .ref 9, .ref 13, .int (nI 1)])))) (hN : ∀ m a pc f bf' gv' jn' MP' FH' σ', m < 24 → mt m = some a → gok bf' → gok gv' → vdn tb pr ow fi ft sg D mt MP' m → (VRm tb pr ow fi ft sg (D m) (m / 4)).1 = some (pc, f) → MpC (MP' m) (VRm tb pr ow fi ft sg (D m) (m / 4)).2.1 → udn mt MP' FH' (m + 1) → GV σ' tb pr ow fi ft mt sg D (nI (1000 * (m / 4) + 100 * (m % 4) + pc)) (nI f) bf' gv' jn' MP' FH' → FrV mt σ σ' → P (.inr xU) (σ'.set 0 (.inr (6, [.ref 1, .ref 9, .ref 13, .int (nI 0)])))) : jl_mE l G m_JC_verify [.ref 0] σ P := by
  obtain ⟨hw, hc, hsg, hms, hV, hB, hG, hJ⟩ := id hgv
  obtain ⟨hW, h2, h3, h4, h5, h6, h7⟩ := id hw
  have h0 := hj
  refine jl_ofE (as := [.ref 0]) rfl (by decide) hl (jl_cc rfl jl_ca) (Nat.le_of_ble_eq_true rfl) ?_
  show jl_E l G m_JC_verify (0, 0) 0 [some (.ref 0)] [] (σ) P
  refine er_aload_n d_JC_verify_0 rfl ?_
  refine er_aload_n d_JC_verify_1 rfl ?_
  refine er_getf d_JC_verify_2 f_JC_verify_26 h0 rfl ?_
  refine er_callVE (As := []) d_JC_verify_5 k_JC_verify_119 hV rfl rfl rfl (Nat.le_of_ble_eq_true rfl) (by decide) (by decide) (ve_fnf hl hgv hok hmt hI hD hft hsgv hbk hgk hm24 (fun bf gv jn MP FH σ hbk hgk hvd hgv hfr => ⟨_, rfl, ?_⟩) (fun m a pc f bf gv jn MP FH σ hm hma hbk hgk hvd e1 e2 hud hgv hfr => ⟨_, rfl, ?_⟩))
  · skip
    have h0 := (hfr.2 0 (by omega) (fun m a hm => by have := hmt m a hm; omega)).trans h0
    obtain ⟨hw, hc, hsg, hms, hV, hB, hG, hJ⟩ := id hgv
    obtain ⟨hW, h2, h3, h4, h5, h6, h7⟩ := id hw
    show jl_E l G m_JC_verify (0, 0) 8 [some (.ref 0)] [.int (nI 1), .ref 0] (σ) P
    refine er_putf d_JC_verify_8 p_JC_verify_37 h0 (Nat.le_of_ble_eq_true rfl) jl_fit_b1 ?_
    show jl_E l G m_JC_verify (0, 0) 11 [some (.ref 0)] [] (σ.set (0) (.inr (6, [.ref 1, .ref 9, .ref 13, .int (nI 1)]))) P
    refine er_aload_n d_JC_verify_11 rfl ?_
    refine er_getf d_JC_verify_12 f_JC_verify_37 (jl_ss h0) rfl ?_
    refine er_callS (As := [.int (nI 1)]) d_JC_verify_15 k_JC_verify_123 rfl (Nat.le_of_ble_eq_true rfl) (by decide) (by decide) (jc_sup1 hl) ?_
    show jl_E l G m_JC_verify (1, 6) 18 [some (.ref 0)] [] (σ.set (0) (.inr (6, [.ref 1, .ref 9, .ref 13, .int (nI 1)]))) P
    refine er_aload_n d_JC_verify_18 rfl ?_
    refine er_getf d_JC_verify_19 f_JC_verify_12 (jl_ss h0) rfl ?_
    refine er_callV (As := []) d_JC_verify_22 k_JC_verify_126 (jl_sn (by decide) hW) rfl rfl rfl (Nat.le_of_ble_eq_true rfl) (by decide) (by decide) (wo_mc hl (WoAt.s0 hw)) ?_
    show jl_E l G m_JC_verify (1, 6) 25 [some (.ref 0)] [.int (nI (sm (fun k => cnt (fun q => (mt (k * 4 + q)).isSome) 4 0) 6 0))] (σ.set (0) (.inr (6, [.ref 1, .ref 9, .ref 13, .int (nI 1)]))) P
    exact er_iret d_JC_verify_25 rfl (hT bf gv jn MP FH σ hbk hgk hvd hgv hfr) (by decide) (by decide)
  · skip
    have h0 := (hfr.2 0 (by omega) (fun m a hm => by have := hmt m a hm; omega)).trans h0
    obtain ⟨hw, hc, hsg, hms, hV, hB, hG, hJ⟩ := id hgv
    obtain ⟨hW, h2, h3, h4, h5, h6, h7⟩ := id hw
    show jl_E l G m_JC_verify (0, 0) 8 [some (.ref 0)] [.int (nI 0), .ref 0] (σ) P
    refine er_putf d_JC_verify_8 p_JC_verify_37 h0 (Nat.le_of_ble_eq_true rfl) jl_fit_b0 ?_
    show jl_E l G m_JC_verify (0, 0) 11 [some (.ref 0)] [] (σ.set (0) (.inr (6, [.ref 1, .ref 9, .ref 13, .int (nI 0)]))) P
    refine er_aload_n d_JC_verify_11 rfl ?_
    refine er_getf d_JC_verify_12 f_JC_verify_37 (jl_ss h0) rfl ?_
    exact er_callSX (As := [.int (nI 0)]) d_JC_verify_15 k_JC_verify_123 rfl rfl (Nat.le_of_ble_eq_true rfl) (by decide) (by decide) (jc_sup0 hl) (hN m a pc f bf gv jn MP FH σ hm hma hbk hgk hvd e1 e2 hud hgv hfr)
end JVv
