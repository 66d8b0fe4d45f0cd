/-! the law's loop and its start (wip/gen/p97zv.py) -/
section JLy
variable {l : Launch} {G : jl_G} {σ : jl_S}
variable {U : Un} {fa : Int32} {f : Nat → Int64} {n uc us : Nat}
theorem and15 (x : Int32) : ∃ j, j < 16 ∧ x &&& nI 15 = nI j := pk_andE x 4 (by decide +kernel)
theorem d_La_law_33 : decode m_La_law.2.1 33 = .ok (.aload_n 0, 1) := by decide +kernel
theorem d_La_law_34 : decode m_La_law.2.1 34 = .ok (.iload 4, 2) := by decide +kernel
theorem d_La_law_36 : decode m_La_law.2.1 36 = .ok (.iaload, 1) := by decide +kernel
theorem d_La_law_37 : decode m_La_law.2.1 37 = .ok (.bipush 15, 2) := by decide +kernel
theorem d_La_law_39 : decode m_La_law.2.1 39 = .ok (.iand, 1) := by decide +kernel
theorem d_La_law_40 : decode m_La_law.2.1 40 = .ok (.tableswitch 989 0 11 #[64, 132, 200, 304, 396, 500, 544, 636, 677, 797, 853, 921], 64) := by decide +kernel
theorem law_iter (hl : l.stackTraces = false) {P : jl_O → jl_S → Prop} (hL : G.2.2.2.2.2.2.1 ≤ 3072) (hn : 6 * n + 6 ≤ G.2.2.2.2.2.2.1) (hU : UI U) (hC : RC σ U) (hM : RM σ U fa) (h53 : σ[53]? = some (.inl (2, 1, .inr (.inl f)))) (hu1 : uc + 15 ≤ 601024) (hu2 : us + 417 ≤ 7293034) (k : ∀ (σ' : jl_S) (U' : Un) (fa' : Int32) (g : Nat → Int64) (uc' us' : Nat), uc' ≤ uc + 15 → us' ≤ us + 417 → UI U' → RC σ' U' → RM σ' U' fa' → σ'[53]? = some (.inl (2, 1, .inr (.inl g))) → jl_E l G m_La_law (uc', us') 1029 [some (.retAddr G.2.2.2.2.2.1), some (.ref 0), some (.ref 22), some (.ref 53), some (.int (nI (6 * n))), none, none] [] σ' P) : jl_E l G m_La_law (uc, us) 33 [some (.retAddr G.2.2.2.2.2.1), some (.ref 0), some (.ref 22), some (.ref 53), some (.int (nI (6 * n))), none, none] [] σ P := by
  refine er_aload_nR d_La_law_33 rfl ?_
  refine er_iload d_La_law_34 rfl ?_
  refine er_sldN d_La_law_36 (by omega) (by omega) ?_
  refine er_bipush (nI 15) d_La_law_37 (by decide) ?_
  refine er_iand d_La_law_39 ?_
  obtain ⟨j, hj, ej⟩ := and15 (G.2.2.2.2.2.2.2 (6 * n))
  rw [ej]
  match j, hj with
  | 0, _ =>
    refine er_tableIn (off := 64) 104 d_La_law_40 (by decide +kernel) (by decide +kernel) (by decide +kernel) (by decide) ?_
    exact law_define hl hL hn hU hC hM h53 hu1 hu2 (fun σ2 U2 fa2 g h1 h2 h3 h4 => k σ2 U2 fa2 g (uc + 3) (us + 18) (by omega) (by omega) h1 h2 h3 h4)
  | 1, _ =>
    refine er_tableIn (off := 132) 172 d_La_law_40 (by decide +kernel) (by decide +kernel) (by decide +kernel) (by decide) ?_
    exact law_field hl hL hn hU hC hM h53 hu1 hu2 (fun σ2 U2 fa2 g h1 h2 h3 h4 => k σ2 U2 fa2 g (uc + 4) (us + 24) (by omega) (by omega) h1 h2 h3 h4)
  | 2, _ =>
    refine er_tableIn (off := 200) 240 d_La_law_40 (by decide +kernel) (by decide +kernel) (by decide +kernel) (by decide) ?_
    exact law_method hl hL hn hU hC hM h53 hu1 hu2 (fun σ2 U2 fa2 g h1 h2 h3 h4 => k σ2 U2 fa2 g (uc + 15) (us + 417) (by omega) (by omega) h1 h2 h3 h4)
  | 3, _ =>
    refine er_tableIn (off := 304) 344 d_La_law_40 (by decide +kernel) (by decide +kernel) (by decide +kernel) (by decide) ?_
    exact law_code hl hL hn hU hC hM h53 hu1 hu2 (fun σ2 U2 fa2 g h1 h2 h3 h4 => k σ2 U2 fa2 g (uc + 5) (us + 30) (by omega) (by omega) h1 h2 h3 h4)
  | 4, _ =>
    refine er_tableIn (off := 396) 436 d_La_law_40 (by decide +kernel) (by decide +kernel) (by decide +kernel) (by decide) ?_
    exact law_catcher hl hL hn hU hC hM h53 hu1 hu2 (fun σ2 U2 fa2 g h1 h2 h3 h4 => k σ2 U2 fa2 g (uc + 7) (us + 42) (by omega) (by omega) h1 h2 h3 h4)
  | 5, _ =>
    refine er_tableIn (off := 500) 540 d_La_law_40 (by decide +kernel) (by decide +kernel) (by decide +kernel) (by decide) ?_
    exact law_verify hl hL hn hU hC hM h53 hu1 hu2 (fun σ2 U2 fa2 g h1 h2 h3 h4 => k σ2 U2 fa2 g (uc + 1) (us + 6) (by omega) (by omega) h1 h2 h3 h4)
  | 6, _ =>
    refine er_tableIn (off := 544) 584 d_La_law_40 (by decide +kernel) (by decide +kernel) (by decide +kernel) (by decide) ?_
    exact law_map hl hL hn hU hC hM h53 hu1 hu2 (fun σ2 U2 fa2 g h1 h2 h3 h4 => k σ2 U2 fa2 g (uc + 5) (us + 30) (by omega) (by omega) h1 h2 h3 h4)
  | 7, _ =>
    refine er_tableIn (off := 636) 676 d_La_law_40 (by decide +kernel) (by decide +kernel) (by decide +kernel) (by decide) ?_
    by_cases hg : G.2.2.2.2.2.2.2 (6 * n + 1) = 0
    · exact law_fault0 hl hL hn hU hC hM h53 hu1 hu2 hg (fun σ2 U2 fa2 g h1 h2 h3 h4 => k σ2 U2 fa2 g (uc + 0) (us + 0) (by omega) (by omega) h1 h2 h3 h4)
    · exact law_fault1 hl hL hn hU hC hM h53 hu1 hu2 hg (fun σ2 U2 fa2 g h1 h2 h3 h4 => k σ2 U2 fa2 g (uc + 0) (us + 0) (by omega) (by omega) h1 h2 h3 h4)
  | 8, _ =>
    refine er_tableIn (off := 677) 717 d_La_law_40 (by decide +kernel) (by decide +kernel) (by decide +kernel) (by decide) ?_
    by_cases hg : G.2.2.2.2.2.2.2 (6 * n + 5) = 0
    · exact law_run0 hl hL hn hU hC hM h53 hu1 hu2 hg (fun σ2 U2 fa2 g h1 h2 h3 h4 => k σ2 U2 fa2 g (uc + 6) (us + 36) (by omega) (by omega) h1 h2 h3 h4)
    · exact law_run1 hl hL hn hU hC hM h53 hu1 hu2 hg (fun σ2 U2 fa2 g h1 h2 h3 h4 => k σ2 U2 fa2 g (uc + 6) (us + 36) (by omega) (by omega) h1 h2 h3 h4)
  | 9, _ =>
    refine er_tableIn (off := 797) 837 d_La_law_40 (by decide +kernel) (by decide +kernel) (by decide +kernel) (by decide) ?_
    exact law_outcome hl hL hn hU hC hM h53 hu1 hu2 (fun σ2 U2 fa2 g h1 h2 h3 h4 => k σ2 U2 fa2 g (uc + 1) (us + 6) (by omega) (by omega) h1 h2 h3 h4)
  | 10, _ =>
    refine er_tableIn (off := 853) 893 d_La_law_40 (by decide +kernel) (by decide +kernel) (by decide +kernel) (by decide) ?_
    exact law_heap hl hL hn hU hC hM h53 hu1 hu2 (fun σ2 U2 fa2 g h1 h2 h3 h4 => k σ2 U2 fa2 g (uc + 1) (us + 6) (by omega) (by omega) h1 h2 h3 h4)
  | 11, _ =>
    refine er_tableIn (off := 921) 961 d_La_law_40 (by decide +kernel) (by decide +kernel) (by decide +kernel) (by decide) ?_
    exact law_about hl hL hn hU hC hM h53 hu1 hu2 (fun σ2 U2 fa2 g h1 h2 h3 h4 => k σ2 U2 fa2 g (uc + 2) (us + 12) (by omega) (by omega) h1 h2 h3 h4)
  | 12, _ =>
    refine er_tableOut 1029 d_La_law_40 (by decide +kernel) (by decide) ?_
    exact k σ U fa f uc us (by omega) (by omega) hU hC hM h53
  | 13, _ =>
    refine er_tableOut 1029 d_La_law_40 (by decide +kernel) (by decide) ?_
    exact k σ U fa f uc us (by omega) (by omega) hU hC hM h53
  | 14, _ =>
    refine er_tableOut 1029 d_La_law_40 (by decide +kernel) (by decide) ?_
    exact k σ U fa f uc us (by omega) (by omega) hU hC hM h53
  | 15, _ =>
    refine er_tableOut 1029 d_La_law_40 (by decide +kernel) (by decide) ?_
    exact k σ U fa f uc us (by omega) (by omega) hU hC hM h53
  | j + 16, h => omega
theorem len_c {L n : Nat} (hL : L ≤ 3072) (hn : n ≤ 512) : Int32.ofNat L - nI 6 < nI (6 * n) ↔ ¬ 6 * n + 6 ≤ L := by
  rw [Int32.lt_iff_toInt_lt]
  have e1 : (nI (6 * n)).toInt = ((6 * n : Nat) : Int) := nI_toInt (by omega)
  have e3 : (Int32.ofNat L - nI 6).toInt = (L : Int) - 6 := pk_sub_toInt (by omega) (by omega)
  rw [e1, e3]
  omega
theorem inc6 (n : Nat) : nI (6 * n) + Int32.ofInt 6 = nI (6 * (n + 1)) := by
  show nI (6 * n) + nI 6 = nI (6 * n + 6)
  exact nI_add _ _
theorem d_La_law_23 : decode m_La_law.2.1 23 = .ok (.iload 4, 2) := by decide +kernel
theorem d_La_law_25 : decode m_La_law.2.1 25 = .ok (.aload_n 0, 1) := by decide +kernel
theorem d_La_law_26 : decode m_La_law.2.1 26 = .ok (.arraylength, 1) := by decide +kernel
theorem d_La_law_27 : decode m_La_law.2.1 27 = .ok (.bipush 6, 2) := by decide +kernel
theorem d_La_law_29 : decode m_La_law.2.1 29 = .ok (.isub, 1) := by decide +kernel
theorem d_La_law_30 : decode m_La_law.2.1 30 = .ok (.if_icmp .gt 1005, 3) := by decide +kernel
theorem d_La_law_1035 : decode m_La_law.2.1 1035 = .ok (.iconst 1, 1) := by decide +kernel
theorem d_La_law_1036 : decode m_La_law.2.1 1036 = .ok (.ireturn, 1) := by decide +kernel
theorem d_La_law_1029 : decode m_La_law.2.1 1029 = .ok (.iinc 4 6, 3) := by decide +kernel
theorem d_La_law_1032 : decode m_La_law.2.1 1032 = .ok (.goto (-1009), 3) := by decide +kernel
theorem law_loop (hl : l.stackTraces = false) {P : jl_O → jl_S → Prop} (hL : G.2.2.2.2.2.2.1 ≤ 3072) (hP : ∀ σ', P (.inl (some (.int (nI 1)))) σ') : ∀ (nn n : Nat) (σ : jl_S) (U : Un) (fa : Int32) (f : Nat → Int64) (uc us : Nat), 513 - n < nn → n ≤ 512 → uc ≤ 15 * (n + 7) → us ≤ 417 * (n + 48) → UI U → RC σ U → RM σ U fa → σ[53]? = some (.inl (2, 1, .inr (.inl f))) → jl_E l G m_La_law (uc, us) 23 [some (.retAddr G.2.2.2.2.2.1), some (.ref 0), some (.ref 22), some (.ref 53), some (.int (nI (6 * n))), none, none] [] σ P := by
  intro nn
  induction nn with
  | zero => intro n σ U fa f uc us hnn; exact absurd hnn (Nat.not_lt_zero _)
  | succ nn ihn =>
    intro n σ U fa f uc us hnn hn5 hu1 hu2 hU hC hM h53
    refine er_iload d_La_law_23 rfl ?_
    refine er_aload_nR d_La_law_25 rfl ?_
    refine er_slen d_La_law_26 ?_
    refine er_bipush (nI 6) d_La_law_27 (by decide) ?_
    refine er_isub d_La_law_29 ?_
    refine er_icmp_gt 1035 d_La_law_30 (by decide) (fun c1 => ?_) (fun c1 => ?_)
    · refine er_iconst (nI 1) d_La_law_1035 (by decide) ?_
      exact er_zret d_La_law_1036 rfl (by decide +kernel) (hP σ) (by show uc ≤ 601024; omega) (by show us ≤ 7293034; omega)
    · rw [len_c hL hn5] at c1
      have hn6 : 6 * n + 6 ≤ G.2.2.2.2.2.2.1 := by omega
      refine law_iter hl hL hn6 hU hC hM h53 (by omega) (by omega) (fun σ2 U2 fa2 g uc2 us2 q1 q2 h1 h2 h3 h4 => ?_)
      refine er_iinc (nI (6 * (n + 1))) d_La_law_1029 (by decide) rfl (inc6 n) ?_
      refine er_goto 23 d_La_law_1032 (by decide) ?_
      exact ihn (n + 1) σ2 U2 fa2 g uc2 us2 (by omega) (by omega) (by omega) (by omega) h1 h2 h3 h4
end JLy
