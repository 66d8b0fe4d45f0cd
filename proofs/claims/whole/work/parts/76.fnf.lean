/-! the class Verifier: findsNoFault (wip/gen/p76.py) -/
section JVz
variable {l : Launch} {G : jl_G} {σ : jl_S}
variable {tb : Nat → Bool} {pr : Nat → Option Nat} {ow fi ft : Nat → Nat} {mt : Nat → Option Nat}
variable {wr wz : Int32} {bf gv jn : Nat → Option Nat} {sg : Int32 → Option Sg} {D : Nat → MDt} {MP : Nat → Nat → Int32} {FH : Nat → Nat → Bool}
theorem d_Ve_findsNoFault_14 : decode m_Ve_findsNoFault.2.1 14 = .ok (.iload_n 2, 1) := by decide +kernel
theorem d_Ve_findsNoFault_15 : decode m_Ve_findsNoFault.2.1 15 = .ok (.iconst 4, 1) := by decide +kernel
theorem d_Ve_findsNoFault_16 : decode m_Ve_findsNoFault.2.1 16 = .ok (.if_icmp .ge 35, 3) := by decide +kernel
theorem d_Ve_findsNoFault_51 : decode m_Ve_findsNoFault.2.1 51 = .ok (.iinc 1 1, 3) := by decide +kernel
theorem d_Ve_findsNoFault_54 : decode m_Ve_findsNoFault.2.1 54 = .ok (.goto (-48), 3) := by decide +kernel
theorem d_Ve_findsNoFault_6 : decode m_Ve_findsNoFault.2.1 6 = .ok (.iload_n 1, 1) := by decide +kernel
theorem d_Ve_findsNoFault_7 : decode m_Ve_findsNoFault.2.1 7 = .ok (.bipush 6, 2) := by decide +kernel
theorem d_Ve_findsNoFault_9 : decode m_Ve_findsNoFault.2.1 9 = .ok (.if_icmp .ge 48, 3) := by decide +kernel
theorem d_Ve_findsNoFault_57 : decode m_Ve_findsNoFault.2.1 57 = .ok (.iconst 1, 1) := by decide +kernel
theorem d_Ve_findsNoFault_58 : decode m_Ve_findsNoFault.2.1 58 = .ok (.ireturn, 1) := by decide +kernel
theorem d_Ve_findsNoFault_12 : decode m_Ve_findsNoFault.2.1 12 = .ok (.iconst 0, 1) := by decide +kernel
theorem d_Ve_findsNoFault_13 : decode m_Ve_findsNoFault.2.1 13 = .ok (.istore_n 2, 1) := by decide +kernel
theorem d_Ve_findsNoFault_19 : decode m_Ve_findsNoFault.2.1 19 = .ok (.aload_n 0, 1) := by decide +kernel
theorem f_Ve_findsNoFault_28 : jl_fd m_Ve_findsNoFault 28 4 0 = true := by decide +kernel
theorem d_Ve_findsNoFault_20 : decode m_Ve_findsNoFault.2.1 20 = .ok (.getfield 28, 3) := by decide +kernel
theorem d_Ve_findsNoFault_23 : decode m_Ve_findsNoFault.2.1 23 = .ok (.iload_n 1, 1) := by decide +kernel
theorem d_Ve_findsNoFault_24 : decode m_Ve_findsNoFault.2.1 24 = .ok (.iload_n 2, 1) := by decide +kernel
theorem k_Ve_findsNoFault_39 : jl_cv m_Ve_findsNoFault m_Wo_own 39 2 = true := by decide +kernel
theorem d_Ve_findsNoFault_25 : decode m_Ve_findsNoFault.2.1 25 = .ok (.invokevirtual 39, 3) := by decide +kernel
theorem d_Ve_findsNoFault_28 : decode m_Ve_findsNoFault.2.1 28 = .ok (.astore_n 3, 1) := by decide +kernel
theorem d_Ve_findsNoFault_29 : decode m_Ve_findsNoFault.2.1 29 = .ok (.aload_n 3, 1) := by decide +kernel
theorem d_Ve_findsNoFault_30 : decode m_Ve_findsNoFault.2.1 30 = .ok (.ifnull 15, 3) := by decide +kernel
theorem d_Ve_findsNoFault_45 : decode m_Ve_findsNoFault.2.1 45 = .ok (.iinc 2 1, 3) := by decide +kernel
theorem d_Ve_findsNoFault_48 : decode m_Ve_findsNoFault.2.1 48 = .ok (.goto (-34), 3) := by decide +kernel
theorem d_Ve_findsNoFault_33 : decode m_Ve_findsNoFault.2.1 33 = .ok (.aload_n 0, 1) := by decide +kernel
theorem d_Ve_findsNoFault_34 : decode m_Ve_findsNoFault.2.1 34 = .ok (.aload_n 3, 1) := by decide +kernel
theorem d_Ve_findsNoFault_35 : decode m_Ve_findsNoFault.2.1 35 = .ok (.iload_n 1, 1) := by decide +kernel
theorem d_Ve_findsNoFault_36 : decode m_Ve_findsNoFault.2.1 36 = .ok (.iload_n 2, 1) := by decide +kernel
theorem k_Ve_findsNoFault_45 : jl_cv m_Ve_findsNoFault m_Ve_isFaultless 45 3 = true := by decide +kernel
theorem d_Ve_findsNoFault_37 : decode m_Ve_findsNoFault.2.1 37 = .ok (.invokevirtual 45, 3) := by decide +kernel
theorem d_Ve_findsNoFault_40 : decode m_Ve_findsNoFault.2.1 40 = .ok (.ifCond .ne 5, 3) := by decide +kernel
theorem d_Ve_findsNoFault_43 : decode m_Ve_findsNoFault.2.1 43 = .ok (.iconst 0, 1) := by decide +kernel
theorem d_Ve_findsNoFault_44 : decode m_Ve_findsNoFault.2.1 44 = .ok (.ireturn, 1) := by decide +kernel
theorem ve_fnf_l (hl : l.stackTraces = false) {P : jl_O → jl_S → Prop} {σ0 : jl_S}  (hok : WoOk tb pr ow fi) (hmt : MtOk mt) (hI : MtI mt) (hD : ∀ m, mt m ≠ none → MdOk (D m)) (hft : ∀ k f, tyv (some (fty pr fi ft k f))) (hsgv : ∀ x g, sg x = some g → tyv (some g.2.2)) (hT : ∀ bf' gv' jn' MP' FH' σ', gok bf' → gok gv' → vdn tb pr ow fi ft sg D mt MP' 24 → GV σ' tb pr ow fi ft mt sg D (-1) (-1) bf' gv' jn' MP' FH' → FrV mt σ0 σ' → P (.inl (some (.int (nI 1)))) σ') (hN : ∀ m a pc f bf' gv' jn' MP' FH' σ', m < 24 → mt m = some a → gok bf' → gok gv' → vdn tb pr ow fi ft sg D mt MP' m → (VRm tb pr ow fi ft sg (D m) (m / 4)).1 = some (pc, f) → MpC (MP' m) (VRm tb pr ow fi ft sg (D m) (m / 4)).2.1 → udn mt MP' FH' (m + 1) → GV σ' tb pr ow fi ft mt sg D (nI (1000 * (m / 4) + 100 * (m % 4) + pc)) (nI f) bf' gv' jn' MP' FH' → FrV mt σ0 σ' → P (.inl (some (.int (nI 0)))) σ') : ∀ (nn : Nat) (k sl : Nat) (σ : jl_S) (bf gv jn : Rw) (MP : Nat → Nat → Int32) (FH : Nat → Nat → Bool), 30 - (k * 5 + sl) < nn → k < 6 → sl ≤ 4 → GV σ tb pr ow fi ft mt sg D (-1) (-1) bf gv jn MP FH → FrV mt σ0 σ → gok bf → gok gv → vdn tb pr ow fi ft sg D mt MP (k * 4 + sl) → udn mt MP FH (k * 4 + sl) → jl_E l G m_Ve_findsNoFault (0, 0) 14 [some (.ref 9), some (.int (nI k)), some (.int (nI sl)), none] [] σ P := by
  intro nn
  induction nn with
  | zero => intro k sl σ bf gv jn MP FH hnn; exact absurd hnn (Nat.not_lt_zero _)
  | succ nn ihn =>
    intro k sl σ bf gv jn MP FH hnn hk hsl hgv hfr hbk hgk hvd hud
    obtain ⟨hw, hc, hsg, hms, hV, hB, hG, hJ⟩ := id hgv
    obtain ⟨hW, h2, h3, h4, h5, h6, h7⟩ := id hw
    refine er_iload_n d_Ve_findsNoFault_14 rfl ?_
    refine er_iconst ((nI (4))) d_Ve_findsNoFault_15 (by decide) ?_
    refine er_icmp_geN 51 d_Ve_findsNoFault_16 (by decide) (by omega) (by omega) (fun c1 => ?_) (fun c1 => ?_)
    · refine er_iinc ((nI (k + 1))) d_Ve_findsNoFault_51 (by decide) rfl (jl_inc _) ?_
      show jl_E l G m_Ve_findsNoFault (0, 0) 54 [some (.ref 9), some (.int (nI (k + 1))), some (.int (nI sl)), none] [] (σ) P
      refine er_goto 6 d_Ve_findsNoFault_54 (by decide) ?_
      refine er_iload_n d_Ve_findsNoFault_6 rfl ?_
      refine er_bipush ((nI (6))) d_Ve_findsNoFault_7 (by decide) ?_
      refine er_icmp_geN 57 d_Ve_findsNoFault_9 (by decide) (by omega) (by omega) (fun c2 => ?_) (fun c2 => ?_)
      · refine er_iconst ((nI (1))) d_Ve_findsNoFault_57 (by decide) ?_
        exact er_zret d_Ve_findsNoFault_58 rfl (by decide) (hT bf gv jn MP FH σ hbk hgk (by have z := hvd; rw [show k * 4 + sl = 24 by omega] at z; exact z) hgv hfr) (by decide) (by decide)
      · refine er_iconst ((nI (0))) d_Ve_findsNoFault_12 (by decide) ?_
        refine er_istore_n d_Ve_findsNoFault_13 (by decide) ?_
        show jl_E l G m_Ve_findsNoFault (0, 0) 14 [some (.ref 9), some (.int (nI (k + 1))), some (.int (nI 0)), none] [] (σ) P
        exact er_weak (ls' := [some (.ref 9), some (.int (nI (k + 1))), some (.int (nI 0)), none]) (fun q v hv => by match q, hv with | 0, hv => exact hv | 1, hv => exact hv | 2, hv => exact hv | 3, hv => cases hv | q + 4, hv => cases hv) (ihn (k + 1) 0 σ bf gv jn MP FH (by omega) (by omega) (by omega) hgv hfr hbk hgk (hvd.c (by omega) (by omega)) (hud.c (by omega) (by omega)))
    · have hsl4 : sl < 4 := by omega
      refine er_aload_n d_Ve_findsNoFault_19 rfl ?_
      refine er_getf d_Ve_findsNoFault_20 f_Ve_findsNoFault_28 hV rfl ?_
      refine er_iload_n d_Ve_findsNoFault_23 rfl ?_
      refine er_iload_n d_Ve_findsNoFault_24 rfl ?_
      refine er_callV (As := [.int (nI k), .int (nI sl)]) d_Ve_findsNoFault_25 k_Ve_findsNoFault_39 hW rfl rfl rfl (Nat.le_of_ble_eq_true rfl) (by decide) (by decide) (wo_own hl hw hk hsl4) ?_
      show jl_E l G m_Ve_findsNoFault (0, 0) 28 [some (.ref 9), some (.int (nI k)), some (.int (nI sl)), none] [va_rf (mt (k * 4 + sl))] (σ) P
      refine er_astore_nO d_Ve_findsNoFault_28 (by decide) ?_
      show jl_E l G m_Ve_findsNoFault (0, 0) 29 [some (.ref 9), some (.int (nI k)), some (.int (nI sl)), some (va_rf (mt (k * 4 + sl)))] [] (σ) P
      refine er_aload_nO d_Ve_findsNoFault_29 rfl ?_
      cases c3 : mt (k * 4 + sl) with
      | none =>
        show jl_E l G m_Ve_findsNoFault (0, 0) 30 [some (.ref 9), some (.int (nI k)), some (.int (nI sl)), some (.null)] [.null] (σ) P
        refine er_ifnullN 45 d_Ve_findsNoFault_30 (by decide) ?_
        refine er_iinc ((nI (sl + 1))) d_Ve_findsNoFault_45 (by decide) rfl (jl_inc _) ?_
        show jl_E l G m_Ve_findsNoFault (0, 0) 48 [some (.ref 9), some (.int (nI k)), some (.int (nI (sl + 1))), some (.null)] [] (σ) P
        refine er_goto 14 d_Ve_findsNoFault_48 (by decide) ?_
        exact er_weak (ls' := [some (.ref 9), some (.int (nI k)), some (.int (nI (sl + 1))), none]) (fun q v hv => by match q, hv with | 0, hv => exact hv | 1, hv => exact hv | 2, hv => exact hv | 3, hv => cases hv | q + 4, hv => cases hv) (ihn k (sl + 1) σ bf gv jn MP FH (by omega) (by omega) (by omega) hgv hfr hbk hgk (hvd.kk ‹_›) hud.kk)
      | some ac3 =>
        obtain ⟨d1, d2, d3, d4, d5, d6, d7, d8⟩ := hD (k * 4 + sl) (by rw [c3]; simp)
        have hem := hud (k * 4 + sl) (Nat.le_refl _) (by rw [c3]; simp)
        show jl_E l G m_Ve_findsNoFault (0, 0) 30 [some (.ref 9), some (.int (nI k)), some (.int (nI sl)), some (.ref ac3)] [.ref ac3] (σ) P
        refine er_ifnull d_Ve_findsNoFault_30 ?_
        refine er_aload_n d_Ve_findsNoFault_33 rfl ?_
        refine er_aload_n d_Ve_findsNoFault_34 rfl ?_
        refine er_iload_n d_Ve_findsNoFault_35 rfl ?_
        refine er_iload_n d_Ve_findsNoFault_36 rfl ?_
        refine er_callVE (As := [.ref ac3, .int (nI k), .int (nI sl)]) d_Ve_findsNoFault_37 k_Ve_findsNoFault_45 hV rfl rfl rfl (Nat.le_of_ble_eq_true rfl) (by decide) (by decide) (ve_isf (k := k) (sl := sl) (s := s00) hl (hgv.vb c3) hok hmt (hmt _ _ c3) hk hsl4 d4 d5 d6 d7 hft hsgv (d3 _ rfl).1 d1 d2 hgk hbk hem.1 hem.2 SV00 rfl (fun s1 e bf gv jn mp fh σ hbk hgk hA hF hAV hvb hfr1 => ⟨_, rfl, ?_⟩) (fun pc f s1 e bf gv jn mp fh σ hbk hgk hA hF hAV hvb hfr1 => ⟨_, rfl, ?_⟩))
        · skip
          have hgv := hgv.of c3 hmt hI hfr1 hvb
          have hfr := hfr.tr c3 hfr1
          have he := vr_k hsl4 e
          show jl_E l G m_Ve_findsNoFault (0, 0) 40 [some (.ref 9), some (.int (nI k)), some (.int (nI sl)), some (.ref ac3)] [.int (nI 1)] (σ) P
          refine er_if_ne 45 d_Ve_findsNoFault_40 (by decide) (fun _ => ?_) (fun z => absurd z (by decide))
          refine er_iinc ((nI (sl + 1))) d_Ve_findsNoFault_45 (by decide) rfl (jl_inc _) ?_
          show jl_E l G m_Ve_findsNoFault (0, 0) 48 [some (.ref 9), some (.int (nI k)), some (.int (nI (sl + 1))), some (.ref ac3)] [] (σ) P
          refine er_goto 14 d_Ve_findsNoFault_48 (by decide) ?_
          exact er_weak (ls' := [some (.ref 9), some (.int (nI k)), some (.int (nI (sl + 1))), none]) (fun q v hv => by match q, hv with | 0, hv => exact hv | 1, hv => exact hv | 2, hv => exact hv | 3, hv => cases hv | q + 4, hv => cases hv) (ihn k (sl + 1) σ bf gv jn (va_up MP (k * 4 + sl) mp) (va_up FH (k * 4 + sl) fh) (by omega) (by omega) (by omega) hgv hfr hbk hgk (hvd.s (by rw [he]) (by rw [he]; exact hA)) hud.s)
        · skip
          have hgv := hgv.of c3 hmt hI hfr1 hvb
          have hfr := hfr.tr c3 hfr1
          have he := vr_k hsl4 e
          show jl_E l G m_Ve_findsNoFault (0, 0) 40 [some (.ref 9), some (.int (nI k)), some (.int (nI sl)), some (.ref ac3)] [.int (nI 0)] (σ) P
          refine er_if_ne 45 d_Ve_findsNoFault_40 (by decide) (fun z => absurd rfl z) (fun _ => ?_)
          refine er_iconst ((nI (0))) d_Ve_findsNoFault_43 (by decide) ?_
          exact er_zret d_Ve_findsNoFault_44 rfl (by decide) (hN (k * 4 + sl) ac3 pc f bf gv jn _ _ σ (by omega) c3 hbk hgk hvd.n (by rw [he]) (by rw [he, va_up_self]; exact hA) hud.s (by rw [show (k * 4 + sl) / 4 = k by omega, show (k * 4 + sl) % 4 = sl by omega]; exact hgv) hfr) (by decide) (by decide)
theorem d_Ve_findsNoFault_0 : decode m_Ve_findsNoFault.2.1 0 = .ok (.aload_n 0, 1) := by decide +kernel
theorem k_Ve_findsNoFault_36 : jl_cv m_Ve_findsNoFault m_Ve_forget 36 0 = true := by decide +kernel
theorem d_Ve_findsNoFault_1 : decode m_Ve_findsNoFault.2.1 1 = .ok (.invokevirtual 36, 3) := by decide +kernel
theorem d_Ve_findsNoFault_4 : decode m_Ve_findsNoFault.2.1 4 = .ok (.iconst 0, 1) := by decide +kernel
theorem d_Ve_findsNoFault_5 : decode m_Ve_findsNoFault.2.1 5 = .ok (.istore_n 1, 1) := by decide +kernel
theorem ve_fnf (hl : l.stackTraces = false) {P : jl_O → jl_S → Prop}  (hgv : GV σ tb pr ow fi ft mt sg D wr wz bf gv jn MP FH) (hok : WoOk tb pr ow fi) (hmt : MtOk mt) (hI : MtI mt) (hD : ∀ m, mt m ≠ none → MdOk (D m)) (hft : ∀ k f, tyv (some (fty pr fi ft k f))) (hsgv : ∀ x g, sg x = some g → tyv (some g.2.2)) (hbk : gok bf) (hgk : gok gv) (hm24 : ∀ m, mt m ≠ none → m < 24) (hT : ∀ bf' gv' jn' MP' FH' σ', gok bf' → gok gv' → vdn tb pr ow fi ft sg D mt MP' 24 → GV σ' tb pr ow fi ft mt sg D (-1) (-1) bf' gv' jn' MP' FH' → FrV mt σ σ' → P (.inl (some (.int (nI 1)))) σ') (hN : ∀ m a pc f bf' gv' jn' MP' FH' σ', m < 24 → mt m = some a → gok bf' → gok gv' → vdn tb pr ow fi ft sg D mt MP' m → (VRm tb pr ow fi ft sg (D m) (m / 4)).1 = some (pc, f) → MpC (MP' m) (VRm tb pr ow fi ft sg (D m) (m / 4)).2.1 → udn mt MP' FH' (m + 1) → GV σ' tb pr ow fi ft mt sg D (nI (1000 * (m / 4) + 100 * (m % 4) + pc)) (nI f) bf' gv' jn' MP' FH' → FrV mt σ σ' → P (.inl (some (.int (nI 0)))) σ') : jl_mE l G m_Ve_findsNoFault [.ref 9] σ P := by
  obtain ⟨hw, hc, hsg, hms, hV, hB, hG, hJ⟩ := id hgv
  obtain ⟨hW, h2, h3, h4, h5, h6, h7⟩ := id hw
  refine jl_ofE (as := [.ref 9]) rfl (by decide) hl (jl_cc rfl jl_ca) (Nat.le_of_ble_eq_true rfl) ?_
  show jl_E l G m_Ve_findsNoFault (0, 0) 0 [some (.ref 9), none, none, none] [] (σ) P
  refine er_aload_n d_Ve_findsNoFault_0 rfl ?_
  refine er_callVE (As := []) d_Ve_findsNoFault_1 k_Ve_findsNoFault_36 hV rfl rfl rfl (Nat.le_of_ble_eq_true rfl) (by decide) (by decide) (ve_forget hl hgv hok hmt hI (fun MP FH σ hd hgv hfr => ⟨_, rfl, ?_⟩))
  show jl_E l G m_Ve_findsNoFault (0, 0) 4 [some (.ref 9), none, none, none] [] (σ) P
  refine er_iconst ((nI (0))) d_Ve_findsNoFault_4 (by decide) ?_
  refine er_istore_n d_Ve_findsNoFault_5 (by decide) ?_
  show jl_E l G m_Ve_findsNoFault (0, 0) 6 [some (.ref 9), some (.int (nI 0)), none, none] [] (σ) P
  refine er_iload_n d_Ve_findsNoFault_6 rfl ?_
  refine er_bipush ((nI (6))) d_Ve_findsNoFault_7 (by decide) ?_
  refine er_icmp_ge 57 d_Ve_findsNoFault_9 (by decide) (fun z => absurd z (by decide)) (fun _ => ?_)
  refine er_iconst ((nI (0))) d_Ve_findsNoFault_12 (by decide) ?_
  refine er_istore_n d_Ve_findsNoFault_13 (by decide) ?_
  show jl_E l G m_Ve_findsNoFault (0, 0) 14 [some (.ref 9), some (.int (nI 0)), some (.int (nI 0)), none] [] (σ) P
  exact ve_fnf_l hl hok hmt hI hD hft hsgv hT hN 31 0 0 σ bf gv jn MP FH (by omega) (by omega) (by omega) hgv hfr hbk hgk (fun m hm => absurd hm (by omega)) (fun m _ hn => hd m (hm24 m hn) hn)
end JVz
