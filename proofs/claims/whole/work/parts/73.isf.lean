/-! the class Verifier: isFaultless (wip/gen/p73.py) -/
section JVj
variable {l : Launch} {G : jl_G} {σ : jl_S}
variable {tb : Nat → Bool} {pr : Nat → Option Nat} {ow fi ft : Nat → Nat} {mt : Nat → Option Nat}
variable {a : Nat} {q1 q2 : Option Nat} {rs : Nat} {op : Nat → Nat} {ag : Nat → Int32} {sz : Nat} {fr tt tg kd : Nat → Nat} {nc : Nat} {mp : Nat → Int32} {fh : Nat → Bool}
variable {wr wz : Int32} {bf gv jn : Nat → Option Nat} {sg : Int32 → Option Sg}
theorem d_Ve_isFaultless_0 : decode m_Ve_isFaultless.2.1 0 = .ok (.aload_n 0, 1) := by decide +kernel
theorem d_Ve_isFaultless_1 : decode m_Ve_isFaultless.2.1 1 = .ok (.aload_n 1, 1) := by decide +kernel
theorem d_Ve_isFaultless_2 : decode m_Ve_isFaultless.2.1 2 = .ok (.iload_n 2, 1) := by decide +kernel
theorem k_Ve_isFaultless_58 : jl_cv m_Ve_isFaultless m_Ve_classesOfTypesAreThere 58 2 = true := by decide +kernel
theorem d_Ve_isFaultless_3 : decode m_Ve_isFaultless.2.1 3 = .ok (.invokevirtual 58, 3) := by decide +kernel
theorem d_Ve_isFaultless_6 : decode m_Ve_isFaultless.2.1 6 = .ok (.ifCond .ne 13, 3) := by decide +kernel
theorem d_Ve_isFaultless_19 : decode m_Ve_isFaultless.2.1 19 = .ok (.aload_n 0, 1) := by decide +kernel
theorem d_Ve_isFaultless_20 : decode m_Ve_isFaultless.2.1 20 = .ok (.aload_n 1, 1) := by decide +kernel
theorem d_Ve_isFaultless_21 : decode m_Ve_isFaultless.2.1 21 = .ok (.iload_n 2, 1) := by decide +kernel
theorem k_Ve_isFaultless_66 : jl_cv m_Ve_isFaultless m_Ve_start 66 2 = true := by decide +kernel
theorem d_Ve_isFaultless_22 : decode m_Ve_isFaultless.2.1 22 = .ok (.invokevirtual 66, 3) := by decide +kernel
theorem d_Ve_isFaultless_25 : decode m_Ve_isFaultless.2.1 25 = .ok (.iconst 0, 1) := by decide +kernel
theorem d_Ve_isFaultless_26 : decode m_Ve_isFaultless.2.1 26 = .ok (.istore 4, 2) := by decide +kernel
theorem d_Ve_isFaultless_9 : decode m_Ve_isFaultless.2.1 9 = .ok (.aload_n 0, 1) := by decide +kernel
theorem d_Ve_isFaultless_10 : decode m_Ve_isFaultless.2.1 10 = .ok (.iload_n 2, 1) := by decide +kernel
theorem d_Ve_isFaultless_11 : decode m_Ve_isFaultless.2.1 11 = .ok (.iload_n 3, 1) := by decide +kernel
theorem d_Ve_isFaultless_12 : decode m_Ve_isFaultless.2.1 12 = .ok (.iconst 0, 1) := by decide +kernel
theorem d_Ve_isFaultless_13 : decode m_Ve_isFaultless.2.1 13 = .ok (.iconst 5, 1) := by decide +kernel
theorem d_Ve_isFaultless_14 : decode m_Ve_isFaultless.2.1 14 = .ok (.invokevirtual 62, 3) := by decide +kernel
theorem d_Ve_isFaultless_17 : decode m_Ve_isFaultless.2.1 17 = .ok (.iconst 0, 1) := by decide +kernel
theorem d_Ve_isFaultless_18 : decode m_Ve_isFaultless.2.1 18 = .ok (.ireturn, 1) := by decide +kernel
theorem ve_isf (hl : l.stackTraces = false) {P : jl_O → jl_S → Prop} {k sl : Nat} {s : MF} (hvb : VB σ tb pr ow fi ft mt sg a q1 q2 rs op ag sz fr tt tg kd nc wr wz bf gv jn mp fh) (hok : WoOk tb pr ow fi) (hmt : MtOk mt) (ha : 54 ≤ a ∧ (a - 54) % 9 = 0) (hk : k < 6) (hsl : sl < 4) (hop : ∀ j, j < 24 → op j < 26) (hsz : sz ≤ 24) (hnc : nc ≤ 2) (hcf : ∀ i, i < 2 → fr i < 100 ∧ tt i < 100 ∧ tg i < 24 ∧ kd i < 7) (hft : ∀ k f, tyv (some (fty pr fi ft k f))) (hsgv : ∀ x g, sg x = some g → tyv (some g.2.2)) (hrs : rs < 16) (hq1 : tyv q1) (hq2 : tyv q2) (hgk : gok gv) (hbk : gok bf) (hA : MpC mp s.1) (hF : frp fh s.2) (hSV : SV s) (hA0 : s.1 0 = none) (hT : ∀ s', vmA tb pr ow fi ft sg op ag sz fr tt tg kd nc rs k q1 q2 s = (none, s') → ∀ bf' gv' jn' mp' fh' σ', gok bf' → gok gv' → MpC mp' s'.1 → frp fh' s'.2 → AV s'.1 → VB σ' tb pr ow fi ft mt sg a q1 q2 rs op ag sz fr tt tg kd nc wr wz bf' gv' jn' mp' fh' → Fr a σ σ' → P (.inl (some (.int (nI 1)))) σ') (hN : ∀ pc f s', vmA tb pr ow fi ft sg op ag sz fr tt tg kd nc rs k q1 q2 s = (some (pc, f), s') → ∀ bf' gv' jn' mp' fh' σ', gok bf' → gok gv' → MpC mp' s'.1 → frp fh' s'.2 → AV s'.1 → VB σ' tb pr ow fi ft mt sg a q1 q2 rs op ag sz fr tt tg kd nc (nI (1000 * k + 100 * sl + pc)) (nI f) bf' gv' jn' mp' fh' → Fr a σ σ' → P (.inl (some (.int (nI 0)))) σ') : jl_mE l G m_Ve_isFaultless [.ref 9, .ref a, .int (nI k), .int (nI sl)] σ P := by
  obtain ⟨hw, hc, hsg, hm, hV, hB, hG, hJ⟩ := id hvb
  obtain ⟨hW, h2, h3, h4, h5, h6, h7⟩ := id hw
  obtain ⟨hM, g1, g2, g3, g4, g5, g6, g7, g8⟩ := id hm
  refine jl_ofE (as := [.ref 9, .ref a, .int (nI k), .int (nI sl)]) rfl (by decide) hl (jl_cc rfl (jl_cc rfl (jl_cc rfl (jl_cc rfl jl_ca)))) (Nat.le_of_ble_eq_true rfl) ?_
  show jl_E l G m_Ve_isFaultless (0, 0) 0 [some (.ref 9), some (.ref a), some (.int (nI k)), some (.int (nI sl)), none, none, none] [] (σ) P
  refine er_aload_n d_Ve_isFaultless_0 rfl ?_
  refine er_aload_n d_Ve_isFaultless_1 rfl ?_
  refine er_iload_n d_Ve_isFaultless_2 rfl ?_
  refine er_callV (As := [.ref a, .int (nI k)]) d_Ve_isFaultless_3 k_Ve_isFaultless_58 hV rfl rfl rfl (Nat.le_of_ble_eq_true rfl) (by decide) (by decide) (ve_cot hl hV hw hm hok hk hft hq1 hq2 hrs) ?_
  show jl_E l G m_Ve_isFaultless (0, 0) 6 [some (.ref 9), some (.ref a), some (.int (nI k)), some (.int (nI sl)), none, none, none] [.int (bi (tyAll tb pr ow fi ft k q1 q2 rs))] (σ) P
  refine er_if_ne 19 d_Ve_isFaultless_6 (by decide) (fun c1 => ?_) (fun c1 => ?_)
  · refine er_aload_n d_Ve_isFaultless_19 rfl ?_
    refine er_aload_n d_Ve_isFaultless_20 rfl ?_
    refine er_iload_n d_Ve_isFaultless_21 rfl ?_
    refine er_callVE (As := [.ref a, .int (nI k)]) d_Ve_isFaultless_22 k_Ve_isFaultless_66 hV rfl rfl rfl (Nat.le_of_ble_eq_true rfl) (by decide) (by decide) (ve_start hl hvb hok hmt ha hk hq1 hq2 hgk hA hF hSV.1 hA0 (fun gv jn mp fh σ hgk hA hF hAV hvb hfr => ⟨_, rfl, ?_⟩))
    have hvt : tyAll tb pr ow fi ft k q1 q2 rs = true := bi_nf c1
    show jl_E l G m_Ve_isFaultless (0, 0) 25 [some (.ref 9), some (.ref a), some (.int (nI k)), some (.int (nI sl)), none, none, none] [] (σ) P
    refine er_iconst ((nI (0))) d_Ve_isFaultless_25 (by decide) ?_
    refine er_istore d_Ve_isFaultless_26 (by decide) ?_
    show jl_E l G m_Ve_isFaultless (0, 0) 28 [some (.ref 9), some (.ref a), some (.int (nI k)), some (.int (nI sl)), some (.int (nI 0)), none, none] [] (σ) P
    exact ve_isf_l hl hok hmt ha hk hsl hop hsz hnc hcf hft hsgv hrs 1000001 0 (va_up s.1 0 (some (strt k q1 q2)), va_up s.2 0 true) σ bf gv jn mp fh (by omega) (by omega) hvb hfr hgk hbk hA hF (SV.st hAV hSV.2) (fun s' e => hT s' (by unfold vmA; rw [if_pos hvt]; exact e)) (fun pc f s' e => hN pc f s' (by unfold vmA; rw [if_pos hvt]; exact e))
  · refine er_aload_n d_Ve_isFaultless_9 rfl ?_
    refine er_iload_n d_Ve_isFaultless_10 rfl ?_
    refine er_iload_n d_Ve_isFaultless_11 rfl ?_
    refine er_iconst ((nI (0))) d_Ve_isFaultless_12 (by decide) ?_
    refine er_iconst ((nI (5))) d_Ve_isFaultless_13 (by decide) ?_
    refine er_callV (As := [.int (nI k), .int (nI sl), .int (nI 0), .int (nI 5)]) d_Ve_isFaultless_14 k_Ve_isFaultless_62 hV rfl rfl rfl (Nat.le_of_ble_eq_true rfl) (by decide) (by decide) (ve_tell hl hV) ?_
    show jl_E l G m_Ve_isFaultless (0, 0) 17 [some (.ref 9), some (.ref a), some (.int (nI k)), some (.int (nI sl)), none, none, none] [] (σ.set (9) (.inr (4, [.ref 1, .ref 8, .ref 10, .ref 11, .ref 12, .int (nI (1000 * k + 100 * sl + 0)), .int (nI 5)]))) P
    refine er_iconst ((nI (0))) d_Ve_isFaultless_17 (by decide) ?_
    exact er_zret d_Ve_isFaultless_18 rfl (by decide) (hN 0 5 s (by unfold vmA; rw [if_neg (by rw [bi_0.mp c1]; decide)]) bf gv jn mp fh _ hbk hgk hA hF hSV.1 (hvb.s9 hmt ha) (Fr.refl.set (by omega))) (by decide) (by decide)
end JVj
