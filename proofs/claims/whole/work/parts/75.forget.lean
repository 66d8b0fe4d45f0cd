/-! the class Verifier: forget, findsNoFault (wip/gen/p75.py) -/
section JVf
variable {l : Launch} {G : jl_G} {σ : jl_S}
variable {tb : Nat → Bool} {pr : Nat → Option Nat} {ow fi ft : Nat → Nat} {mt : Nat → Option Nat}
variable {wr wz : Int32} {bf gv jn : Nat → Option Nat} {sg : Int32 → Option Sg} {D : Nat → MDt} {MP : Nat → Nat → Int32} {FH : Nat → Nat → Bool}
theorem d_Ve_forget_12 : decode m_Ve_forget.2.1 12 = .ok (.iload_n 1, 1) := by decide +kernel
theorem d_Ve_forget_13 : decode m_Ve_forget.2.1 13 = .ok (.bipush 24, 2) := by decide +kernel
theorem d_Ve_forget_15 : decode m_Ve_forget.2.1 15 = .ok (.if_icmp .ge 33, 3) := by decide +kernel
theorem d_Ve_forget_48 : decode m_Ve_forget.2.1 48 = .ok (.return_, 1) := by decide +kernel
theorem d_Ve_forget_18 : decode m_Ve_forget.2.1 18 = .ok (.aload_n 0, 1) := by decide +kernel
theorem f_Ve_forget_28 : jl_fd m_Ve_forget 28 4 0 = true := by decide +kernel
theorem d_Ve_forget_19 : decode m_Ve_forget.2.1 19 = .ok (.getfield 28, 3) := by decide +kernel
theorem f_Ve_forget_49 : jl_fd m_Ve_forget 49 5 5 = true := by decide +kernel
theorem d_Ve_forget_22 : decode m_Ve_forget.2.1 22 = .ok (.getfield 49, 3) := by decide +kernel
theorem d_Ve_forget_25 : decode m_Ve_forget.2.1 25 = .ok (.iload_n 1, 1) := by decide +kernel
theorem d_Ve_forget_26 : decode m_Ve_forget.2.1 26 = .ok (.aaload, 1) := by decide +kernel
theorem d_Ve_forget_27 : decode m_Ve_forget.2.1 27 = .ok (.ifnull 15, 3) := by decide +kernel
theorem d_Ve_forget_42 : decode m_Ve_forget.2.1 42 = .ok (.iinc 1 1, 3) := by decide +kernel
theorem d_Ve_forget_45 : decode m_Ve_forget.2.1 45 = .ok (.goto (-33), 3) := by decide +kernel
theorem d_Ve_forget_30 : decode m_Ve_forget.2.1 30 = .ok (.aload_n 0, 1) := by decide +kernel
theorem d_Ve_forget_31 : decode m_Ve_forget.2.1 31 = .ok (.getfield 28, 3) := by decide +kernel
theorem d_Ve_forget_34 : decode m_Ve_forget.2.1 34 = .ok (.getfield 49, 3) := by decide +kernel
theorem d_Ve_forget_37 : decode m_Ve_forget.2.1 37 = .ok (.iload_n 1, 1) := by decide +kernel
theorem d_Ve_forget_38 : decode m_Ve_forget.2.1 38 = .ok (.aaload, 1) := by decide +kernel
theorem k_Ve_forget_53 : jl_cv m_Ve_forget m_Me_forgetMaps 53 0 = true := by decide +kernel
theorem d_Ve_forget_39 : decode m_Ve_forget.2.1 39 = .ok (.invokevirtual 53, 3) := by decide +kernel
theorem ve_forget_l (hl : l.stackTraces = false) {P : jl_O → jl_S → Prop} {σ0 : jl_S}  (hok : WoOk tb pr ow fi) (hmt : MtOk mt) (hI : MtI mt) (hT : ∀ MP' FH' σ', (dne mt MP' FH' 24) → GV σ' tb pr ow fi ft mt sg D (-1) (-1) bf gv jn MP' FH' → FrV mt σ0 σ' → P (.inl none) σ') : ∀ (nn : Nat) (i : Nat) (σ : jl_S) (MP : Nat → Nat → Int32) (FH : Nat → Nat → Bool), 24 - i < nn → i ≤ 24 → GV σ tb pr ow fi ft mt sg D (-1) (-1) bf gv jn MP FH → FrV mt σ0 σ → (dne mt MP FH i) → jl_E l G m_Ve_forget (0, 0) 12 [some (.ref 9), some (.int (nI i))] [] σ P := by
  intro nn
  induction nn with
  | zero => intro i σ MP FH hnn; exact absurd hnn (Nat.not_lt_zero _)
  | succ nn ihn =>
    intro i σ MP FH hnn hi hgv hfr hd
    obtain ⟨hw, hc, hsg, hms, hV, hB, hG, hJ⟩ := id hgv
    obtain ⟨hW, h2, h3, h4, h5, h6, h7⟩ := id hw
    refine er_iload_n d_Ve_forget_12 rfl ?_
    refine er_bipush ((nI (24))) d_Ve_forget_13 (by decide) ?_
    refine er_icmp_geN 48 d_Ve_forget_15 (by decide) (by omega) (by omega) (fun c1 => ?_) (fun c1 => ?_)
    · exact er_vret d_Ve_forget_48 rfl (hT MP FH σ (fun m hm hn => hd m (by omega) hn) hgv hfr) (by decide) (by decide)
    · refine er_aload_n d_Ve_forget_18 rfl ?_
      refine er_getf d_Ve_forget_19 f_Ve_forget_28 hV rfl ?_
      refine er_getf d_Ve_forget_22 f_Ve_forget_49 hW rfl ?_
      refine er_iload_n d_Ve_forget_25 rfl ?_
      refine er_aaldN d_Ve_forget_26 h7 (by omega) (by omega) ?_
      cases c2 : mt (i) with
      | none =>
        show jl_E l G m_Ve_forget (0, 0) 27 [some (.ref 9), some (.int (nI i))] [.null] (σ) P
        refine er_ifnullN 42 d_Ve_forget_27 (by decide) ?_
        refine er_iinc ((nI (i + 1))) d_Ve_forget_42 (by decide) rfl (jl_inc _) ?_
        show jl_E l G m_Ve_forget (0, 0) 45 [some (.ref 9), some (.int (nI (i + 1)))] [] (σ) P
        refine er_goto 12 d_Ve_forget_45 (by decide) ?_
        exact ihn (i + 1) σ MP FH (by omega) (by omega) hgv hfr (hd.k ‹mt i = none›)
      | some ac2 =>
        obtain ⟨hM, g1, g2, g3, g4, g5, g6, g7, g8⟩ := hms i ac2 c2
        show jl_E l G m_Ve_forget (0, 0) 27 [some (.ref 9), some (.int (nI i))] [.ref ac2] (σ) P
        refine er_ifnull d_Ve_forget_27 ?_
        refine er_aload_n d_Ve_forget_30 rfl ?_
        refine er_getf d_Ve_forget_31 f_Ve_forget_28 hV rfl ?_
        refine er_getf d_Ve_forget_34 f_Ve_forget_49 hW rfl ?_
        refine er_iload_n d_Ve_forget_37 rfl ?_
        refine er_aaldQ (v := some (ac2)) d_Ve_forget_38 h7 (by omega) (by omega) (c2) ?_
        show jl_E l G m_Ve_forget (0, 0) 39 [some (.ref 9), some (.int (nI i))] [.ref ac2] (σ) P
        refine er_callV (As := []) d_Ve_forget_39 k_Ve_forget_53 hM rfl rfl rfl (Nat.le_of_ble_eq_true rfl) (by decide) (by decide) (me_forget hl (hms i ac2 c2)) ?_
        show jl_E l G m_Ve_forget (0, 0) 42 [some (.ref 9), some (.int (nI i))] [] ((σ.set (ac2 + 7) (.inl (0, 288, .inl (fgM 24 0 (MP i))))).set (ac2 + 8) (.inl (1, 24, .inl (fun j => bi ((fgF 24 0 (FH i)) j))))) P
        refine er_iinc ((nI (i + 1))) d_Ve_forget_42 (by decide) rfl (jl_inc _) ?_
        show jl_E l G m_Ve_forget (0, 0) 45 [some (.ref 9), some (.int (nI (i + 1)))] [] ((σ.set (ac2 + 7) (.inl (0, 288, .inl (fgM 24 0 (MP i))))).set (ac2 + 8) (.inl (1, 24, .inl (fun j => bi ((fgF 24 0 (FH i)) j))))) P
        refine er_goto 12 d_Ve_forget_45 (by decide) ?_
        exact ihn (i + 1) _ (va_up MP i (fgM 24 0 (MP i))) (va_up FH i (fgF 24 0 (FH i))) (by omega) (by omega) (hgv.of c2 hmt hI ((Fr.refl.set (by omega)).set (by omega)) (((hgv.vb c2).s7 hmt (hmt i ac2 c2)).s8 hmt (hmt i ac2 c2))) (hfr.tr c2 ((Fr.refl.set (by omega)).set (by omega))) hd.s
theorem d_Ve_forget_0 : decode m_Ve_forget.2.1 0 = .ok (.aload_n 0, 1) := by decide +kernel
theorem d_Ve_forget_1 : decode m_Ve_forget.2.1 1 = .ok (.iconst (-1), 1) := by decide +kernel
theorem p_Ve_forget_21 : jl_fp m_Ve_forget 21 4 5 = true := by decide +kernel
theorem d_Ve_forget_2 : decode m_Ve_forget.2.1 2 = .ok (.putfield 21, 3) := by decide +kernel
theorem d_Ve_forget_5 : decode m_Ve_forget.2.1 5 = .ok (.aload_n 0, 1) := by decide +kernel
theorem d_Ve_forget_6 : decode m_Ve_forget.2.1 6 = .ok (.iconst (-1), 1) := by decide +kernel
theorem p_Ve_forget_25 : jl_fp m_Ve_forget 25 4 6 = true := by decide +kernel
theorem d_Ve_forget_7 : decode m_Ve_forget.2.1 7 = .ok (.putfield 25, 3) := by decide +kernel
theorem d_Ve_forget_10 : decode m_Ve_forget.2.1 10 = .ok (.iconst 0, 1) := by decide +kernel
theorem d_Ve_forget_11 : decode m_Ve_forget.2.1 11 = .ok (.istore_n 1, 1) := by decide +kernel
theorem ve_forget (hl : l.stackTraces = false) {P : jl_O → jl_S → Prop}  (hgv : GV σ tb pr ow fi ft mt sg D wr wz bf gv jn MP FH) (hok : WoOk tb pr ow fi) (hmt : MtOk mt) (hI : MtI mt) (hT : ∀ MP' FH' σ', (dne mt MP' FH' 24) → GV σ' tb pr ow fi ft mt sg D (-1) (-1) bf gv jn MP' FH' → FrV mt σ σ' → P (.inl none) σ') : jl_mE l G m_Ve_forget [.ref 9] σ P := by
  obtain ⟨hw, hc, hsg, hms, hV, hB, hG, hJ⟩ := id hgv
  obtain ⟨hW, h2, h3, h4, h5, h6, h7⟩ := id hw
  refine jl_ofE (as := [.ref 9]) rfl (by decide) hl (jl_cc rfl jl_ca) (Nat.le_of_ble_eq_true rfl) ?_
  show jl_E l G m_Ve_forget (0, 0) 0 [some (.ref 9), none] [] (σ) P
  refine er_aload_n d_Ve_forget_0 rfl ?_
  refine er_iconst ((-1)) d_Ve_forget_1 (by decide) ?_
  refine er_putf d_Ve_forget_2 p_Ve_forget_21 hV (Nat.le_of_ble_eq_true rfl) jl_fit_int ?_
  show jl_E l G m_Ve_forget (0, 0) 5 [some (.ref 9), none] [] (σ.set (9) (.inr (4, [.ref 1, .ref 8, .ref 10, .ref 11, .ref 12, .int (-1), .int (wz)]))) P
  refine er_aload_n d_Ve_forget_5 rfl ?_
  refine er_iconst ((-1)) d_Ve_forget_6 (by decide) ?_
  refine er_putf d_Ve_forget_7 p_Ve_forget_25 (jl_ss hV) (Nat.le_of_ble_eq_true rfl) jl_fit_int ?_
  show jl_E l G m_Ve_forget (0, 0) 10 [some (.ref 9), none] [] ((σ.set (9) (.inr (4, [.ref 1, .ref 8, .ref 10, .ref 11, .ref 12, .int (-1), .int (wz)]))).set (9) (.inr (4, [.ref 1, .ref 8, .ref 10, .ref 11, .ref 12, .int (-1), .int (-1)]))) P
  refine er_iconst ((nI (0))) d_Ve_forget_10 (by decide) ?_
  refine er_istore_n d_Ve_forget_11 (by decide) ?_
  show jl_E l G m_Ve_forget (0, 0) 12 [some (.ref 9), some (.int (nI 0))] [] ((σ.set (9) (.inr (4, [.ref 1, .ref 8, .ref 10, .ref 11, .ref 12, .int (-1), .int (wz)]))).set (9) (.inr (4, [.ref 1, .ref 8, .ref 10, .ref 11, .ref 12, .int (-1), .int (-1)]))) P
  rw [List.set_set]
  exact ve_forget_l hl hok hmt hI hT 25 0 _ MP FH (by omega) (by omega) (hgv.s9 hmt) FrV.refl.s9 (fun m hm => absurd hm (Nat.not_lt_zero _))
end JVf
