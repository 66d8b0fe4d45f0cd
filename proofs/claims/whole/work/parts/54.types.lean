/-! the class Checker: TYPES (wip/gen/p54.py) -/
section JCt
variable {l : Launch} {G : jl_G} {σ : jl_S}
variable {tb : Nat → Bool} {pr : Nat → Option Nat} {ow fi ft : Nat → Nat} {mt : Nat → Option Nat}
variable {a : Nat} {q1 q2 : Option Nat} {rs : Nat} {op : Nat → Nat} {ag : Nat → Int32} {sz : Nat} {fr tt tg kd : Nat → Nat} {nc : Nat} {mp : Nat → Int32} {fh : Nat → Bool}
variable {sg : Int32 → Option Sg} {rr N : Nat} {ty : Nat → Option Nat}
theorem SgC.n {sg : Int32 → Option Sg} (h : SgC σ tb pr mt sg) {n : Nat} (hn : n < 2 ^ 31) :
  (found tb pr mt (nI (n / 4)) (nI (n % 4)) = none → sg (nI n) = none) ∧
  ∀ a, found tb pr mt (nI (n / 4)) (nI (n % 4)) = some a → ∃ q1 q2 rs fs, σ[a]? = some (.inr (2, .int (en q1) :: .int (en q2) :: .int (nI rs) :: fs)) ∧ sg (nI n) = some (q1, q2, rs) ∧ ob 16 q1 ∧ ob 16 q2 ∧ rs < 16 ∧ (q1 = none → q2 = none) := by
  have q := h (nI n)
  rw [pk_rem hn (by decide) (by decide), pk_div hn (by decide) (by decide)] at q
  exact q
theorem nI_clampE {n : Nat} (h : n < 2 ^ 31) : (nI n).toNatClampNeg = n := nI_clamp h
theorem d_Ck_callFits_0 : decode m_Ck_callFits.2.1 0 = .ok (.aload_n 0, 1) := by decide +kernel
theorem f_Ck_callFits_9 : jl_fd m_Ck_callFits 9 0 0 = true := by decide +kernel
theorem d_Ck_callFits_1 : decode m_Ck_callFits.2.1 1 = .ok (.getfield 9, 3) := by decide +kernel
theorem d_Ck_callFits_4 : decode m_Ck_callFits.2.1 4 = .ok (.iload_n 1, 1) := by decide +kernel
theorem d_Ck_callFits_5 : decode m_Ck_callFits.2.1 5 = .ok (.iconst 4, 1) := by decide +kernel
theorem d_Ck_callFits_6 : decode m_Ck_callFits.2.1 6 = .ok (.idiv, 1) := by decide +kernel
theorem d_Ck_callFits_7 : decode m_Ck_callFits.2.1 7 = .ok (.iload_n 1, 1) := by decide +kernel
theorem d_Ck_callFits_8 : decode m_Ck_callFits.2.1 8 = .ok (.iconst 4, 1) := by decide +kernel
theorem d_Ck_callFits_9 : decode m_Ck_callFits.2.1 9 = .ok (.irem, 1) := by decide +kernel
theorem k_Ck_callFits_42 : jl_cv m_Ck_callFits m_Wo_found 42 2 = true := by decide +kernel
theorem d_Ck_callFits_10 : decode m_Ck_callFits.2.1 10 = .ok (.invokevirtual 42, 3) := by decide +kernel
theorem d_Ck_callFits_13 : decode m_Ck_callFits.2.1 13 = .ok (.astore 4, 2) := by decide +kernel
theorem d_Ck_callFits_15 : decode m_Ck_callFits.2.1 15 = .ok (.aload 4, 2) := by decide +kernel
theorem d_Ck_callFits_17 : decode m_Ck_callFits.2.1 17 = .ok (.ifnonnull 5, 3) := by decide +kernel
theorem d_Ck_callFits_22 : decode m_Ck_callFits.2.1 22 = .ok (.iload_n 3, 1) := by decide +kernel
theorem d_Ck_callFits_23 : decode m_Ck_callFits.2.1 23 = .ok (.aload 4, 2) := by decide +kernel
theorem k_Ck_callFits_48 : jl_cv m_Ck_callFits m_Me_parameters 48 0 = true := by decide +kernel
theorem d_Ck_callFits_25 : decode m_Ck_callFits.2.1 25 = .ok (.invokevirtual 48, 3) := by decide +kernel
theorem d_Ck_callFits_28 : decode m_Ck_callFits.2.1 28 = .ok (.isub, 1) := by decide +kernel
theorem d_Ck_callFits_29 : decode m_Ck_callFits.2.1 29 = .ok (.istore 5, 2) := by decide +kernel
theorem d_Ck_callFits_31 : decode m_Ck_callFits.2.1 31 = .ok (.iconst 0, 1) := by decide +kernel
theorem d_Ck_callFits_32 : decode m_Ck_callFits.2.1 32 = .ok (.istore 6, 2) := by decide +kernel
theorem d_Ck_callFits_34 : decode m_Ck_callFits.2.1 34 = .ok (.iload 6, 2) := by decide +kernel
theorem d_Ck_callFits_36 : decode m_Ck_callFits.2.1 36 = .ok (.aload 4, 2) := by decide +kernel
theorem d_Ck_callFits_38 : decode m_Ck_callFits.2.1 38 = .ok (.invokevirtual 48, 3) := by decide +kernel
theorem d_Ck_callFits_41 : decode m_Ck_callFits.2.1 41 = .ok (.if_icmp .ge 37, 3) := by decide +kernel
theorem d_Ck_callFits_78 : decode m_Ck_callFits.2.1 78 = .ok (.aload_n 0, 1) := by decide +kernel
theorem d_Ck_callFits_79 : decode m_Ck_callFits.2.1 79 = .ok (.getfield 9, 3) := by decide +kernel
theorem d_Ck_callFits_82 : decode m_Ck_callFits.2.1 82 = .ok (.aload_n 2, 1) := by decide +kernel
theorem d_Ck_callFits_83 : decode m_Ck_callFits.2.1 83 = .ok (.iload 5, 2) := by decide +kernel
theorem d_Ck_callFits_85 : decode m_Ck_callFits.2.1 85 = .ok (.iaload, 1) := by decide +kernel
theorem d_Ck_callFits_86 : decode m_Ck_callFits.2.1 86 = .ok (.bipush 10, 2) := by decide +kernel
theorem d_Ck_callFits_88 : decode m_Ck_callFits.2.1 88 = .ok (.iload_n 1, 1) := by decide +kernel
theorem d_Ck_callFits_89 : decode m_Ck_callFits.2.1 89 = .ok (.iconst 4, 1) := by decide +kernel
theorem d_Ck_callFits_90 : decode m_Ck_callFits.2.1 90 = .ok (.idiv, 1) := by decide +kernel
theorem d_Ck_callFits_91 : decode m_Ck_callFits.2.1 91 = .ok (.iadd, 1) := by decide +kernel
theorem k_Ck_callFits_89 : jl_cv m_Ck_callFits m_Wo_isPart 89 2 = true := by decide +kernel
theorem d_Ck_callFits_92 : decode m_Ck_callFits.2.1 92 = .ok (.invokevirtual 89, 3) := by decide +kernel
theorem d_Ck_callFits_95 : decode m_Ck_callFits.2.1 95 = .ok (.ireturn, 1) := by decide +kernel
theorem d_Ck_callFits_44 : decode m_Ck_callFits.2.1 44 = .ok (.aload_n 0, 1) := by decide +kernel
theorem d_Ck_callFits_45 : decode m_Ck_callFits.2.1 45 = .ok (.getfield 9, 3) := by decide +kernel
theorem d_Ck_callFits_48 : decode m_Ck_callFits.2.1 48 = .ok (.aload_n 2, 1) := by decide +kernel
theorem d_Ck_callFits_49 : decode m_Ck_callFits.2.1 49 = .ok (.iload 5, 2) := by decide +kernel
theorem d_Ck_callFits_51 : decode m_Ck_callFits.2.1 51 = .ok (.iconst 1, 1) := by decide +kernel
theorem d_Ck_callFits_52 : decode m_Ck_callFits.2.1 52 = .ok (.iadd, 1) := by decide +kernel
theorem d_Ck_callFits_53 : decode m_Ck_callFits.2.1 53 = .ok (.iload 6, 2) := by decide +kernel
theorem d_Ck_callFits_55 : decode m_Ck_callFits.2.1 55 = .ok (.iadd, 1) := by decide +kernel
theorem d_Ck_callFits_56 : decode m_Ck_callFits.2.1 56 = .ok (.iaload, 1) := by decide +kernel
theorem d_Ck_callFits_57 : decode m_Ck_callFits.2.1 57 = .ok (.aload 4, 2) := by decide +kernel
theorem d_Ck_callFits_59 : decode m_Ck_callFits.2.1 59 = .ok (.iload 6, 2) := by decide +kernel
theorem k_Ck_callFits_102 : jl_cv m_Ck_callFits m_Me_parameter 102 1 = true := by decide +kernel
theorem d_Ck_callFits_61 : decode m_Ck_callFits.2.1 61 = .ok (.invokevirtual 102, 3) := by decide +kernel
theorem d_Ck_callFits_64 : decode m_Ck_callFits.2.1 64 = .ok (.invokevirtual 89, 3) := by decide +kernel
theorem d_Ck_callFits_67 : decode m_Ck_callFits.2.1 67 = .ok (.ifCond .ne 5, 3) := by decide +kernel
theorem d_Ck_callFits_72 : decode m_Ck_callFits.2.1 72 = .ok (.iinc 6 1, 3) := by decide +kernel
theorem d_Ck_callFits_75 : decode m_Ck_callFits.2.1 75 = .ok (.goto (-41), 3) := by decide +kernel
theorem d_Ck_callFits_70 : decode m_Ck_callFits.2.1 70 = .ok (.iconst 0, 1) := by decide +kernel
theorem d_Ck_callFits_71 : decode m_Ck_callFits.2.1 71 = .ok (.ireturn, 1) := by decide +kernel
theorem ck_call (hl : l.stackTraces = false) {n la r : Nat} {p q : Option Nat} (hc : CkAt σ) (hw : WoAt σ tb pr ow fi ft mt) (hok : WoOk tb pr ow fi) (hsg : SgC σ tb pr mt sg) (hR : σ[rr]? = some (.inl (0, N, .inl fun j => en (ty j)))) (hN : N ≤ 144) (hty : ∀ j, ob 16 (ty j)) (hn : n < 2 ^ 31) (hk : n / 4 < 6) (hg : sg (nI n) = some (p, q, r)) (hla : prm p q ≤ la) (hlN : la < N) : jl_m l G m_Ck_callFits [.ref 8, .int (nI n), .ref rr, .int (nI la)] σ (.inl (some (.int (bi (cfit pr p q (n / 4) (fun j => ty (la - j))))))) (σ) := by
  obtain ⟨hW, h2, h3, h4, h5, h6, h7⟩ := id hw
  refine jl_of (as := [.ref 8, .int (nI n), .ref rr, .int (nI la)]) rfl (by decide) hl (jl_cc rfl (jl_cc rfl (jl_cc rfl (jl_cc rfl jl_ca)))) (Nat.le_of_ble_eq_true rfl) ?_
  show jl_W l G m_Ck_callFits (0, 0) 0 [some (.ref 8), some (.int (nI n)), some (.ref rr), some (.int (nI la)), none, none, none] [] (σ) (.inl (some (.int (bi (cfit pr p q (n / 4) (fun j => ty (la - j))))))) (σ)
  refine jr_aload_n d_Ck_callFits_0 rfl ?_
  refine jr_getf d_Ck_callFits_1 f_Ck_callFits_9 hc rfl ?_
  refine jr_iload_n d_Ck_callFits_4 rfl ?_
  refine jr_iconst ((nI (4))) d_Ck_callFits_5 (by decide) ?_
  refine jr_idivN d_Ck_callFits_6 (by omega) (by omega) (by omega) ?_
  refine jr_iload_n d_Ck_callFits_7 rfl ?_
  refine jr_iconst ((nI (4))) d_Ck_callFits_8 (by decide) ?_
  refine jr_iremN d_Ck_callFits_9 (by omega) (by omega) (by omega) ?_
  refine jr_callV (As := [.int (nI ((n) / (4))), .int (nI ((n) % (4)))]) d_Ck_callFits_10 k_Ck_callFits_42 hW rfl rfl rfl (Nat.le_of_ble_eq_true rfl) (by decide) (by decide) (wo_found hl hw hok.1) ?_
  show jl_W l G m_Ck_callFits (0, 0) 13 [some (.ref 8), some (.int (nI n)), some (.ref rr), some (.int (nI la)), none, none, none] [va_rf (found tb pr mt (nI (n / 4)) (nI (n % 4)))] (σ) (.inl (some (.int (bi (cfit pr p q (n / 4) (fun j => ty (la - j))))))) (σ)
  refine jr_astoreO d_Ck_callFits_13 (by decide) ?_
  show jl_W l G m_Ck_callFits (0, 0) 15 [some (.ref 8), some (.int (nI n)), some (.ref rr), some (.int (nI la)), some (va_rf (found tb pr mt (nI (n / 4)) (nI (n % 4)))), none, none] [] (σ) (.inl (some (.int (bi (cfit pr p q (n / 4) (fun j => ty (la - j))))))) (σ)
  refine jr_aloadO d_Ck_callFits_15 rfl ?_
  cases c1 : found tb pr mt (nI (n / 4)) (nI (n % 4)) with
  | none =>
    show jl_W l G m_Ck_callFits (0, 0) 17 [some (.ref 8), some (.int (nI n)), some (.ref rr), some (.int (nI la)), some (.null), none, none] [.null] (σ) (.inl (some (.int (bi (cfit pr p q (n / 4) (fun j => ty (la - j))))))) (σ)
    refine jr_ifnonnullN d_Ck_callFits_17 ?_
    exact absurd ((hsg.n hn).1 c1) (by rw [hg]; simp)
  | some ac1 =>
    obtain ⟨q1, q2, rs, fs, hM, hsx, hq1, hq2, hrs, hqq⟩ := (hsg.n hn).2 _ c1
    rw [hg] at hsx; cases hsx
    show jl_W l G m_Ck_callFits (0, 0) 17 [some (.ref 8), some (.int (nI n)), some (.ref rr), some (.int (nI la)), some (.ref ac1), none, none] [.ref ac1] (σ) (.inl (some (.int (bi (cfit pr p q (n / 4) (fun j => ty (la - j))))))) (σ)
    refine jr_ifnonnull 22 d_Ck_callFits_17 (by decide) ?_
    cases p with
    | none =>
      cases hqq rfl
      show jl_W l G m_Ck_callFits (0, 0) 22 [some (.ref 8), some (.int (nI n)), some (.ref rr), some (.int (nI la)), some (.ref ac1), none, none] [] (σ) (.inl (some (.int (bi (cfit pr none none (n / 4) (fun j => ty (la - j))))))) (σ)
      refine jr_iload_n d_Ck_callFits_22 rfl ?_
      refine jr_aload d_Ck_callFits_23 rfl ?_
      refine jr_callV (As := []) d_Ck_callFits_25 k_Ck_callFits_48 hM rfl rfl rfl (Nat.le_of_ble_eq_true rfl) (by decide) (by decide) (me_paramsH (q1 := none) (q2 := none) hl hM hq1 hq2) ?_
      show jl_W l G m_Ck_callFits (0, 0) 28 [some (.ref 8), some (.int (nI n)), some (.ref rr), some (.int (nI la)), some (.ref ac1), none, none] [.int (nI 0), .int (nI la)] (σ) (.inl (some (.int (bi (cfit pr none none (n / 4) (fun j => ty (la - j))))))) (σ)
      refine jr_isubN d_Ck_callFits_28 (by omega) ?_
      refine jr_istore d_Ck_callFits_29 (by decide) ?_
      show jl_W l G m_Ck_callFits (0, 0) 31 [some (.ref 8), some (.int (nI n)), some (.ref rr), some (.int (nI la)), some (.ref ac1), some (.int (nI ((la) - (0)))), none] [] (σ) (.inl (some (.int (bi (cfit pr none none (n / 4) (fun j => ty (la - j))))))) (σ)
      refine jr_iconst ((nI (0))) d_Ck_callFits_31 (by decide) ?_
      refine jr_istore d_Ck_callFits_32 (by decide) ?_
      show jl_W l G m_Ck_callFits (0, 0) 34 [some (.ref 8), some (.int (nI n)), some (.ref rr), some (.int (nI la)), some (.ref ac1), some (.int (nI ((la) - (0)))), some (.int (nI 0))] [] (σ) (.inl (some (.int (bi (cfit pr none none (n / 4) (fun j => ty (la - j))))))) (σ)
      refine jr_iload d_Ck_callFits_34 rfl ?_
      refine jr_aload d_Ck_callFits_36 rfl ?_
      refine jr_callV (As := []) d_Ck_callFits_38 k_Ck_callFits_48 hM rfl rfl rfl (Nat.le_of_ble_eq_true rfl) (by decide) (by decide) (me_paramsH (q1 := none) (q2 := none) hl hM hq1 hq2) ?_
      show jl_W l G m_Ck_callFits (0, 0) 41 [some (.ref 8), some (.int (nI n)), some (.ref rr), some (.int (nI la)), some (.ref ac1), some (.int (nI ((la) - (0)))), some (.int (nI 0))] [.int (nI 0), .int (nI 0)] (σ) (.inl (some (.int (bi (cfit pr none none (n / 4) (fun j => ty (la - j))))))) (σ)
      refine jr_icmp_ge 78 d_Ck_callFits_41 (by decide) (fun _ => ?_) (fun z => absurd (by decide) z)
      refine jr_aload_n d_Ck_callFits_78 rfl ?_
      refine jr_getf d_Ck_callFits_79 f_Ck_callFits_9 hc rfl ?_
      refine jr_aload_n d_Ck_callFits_82 rfl ?_
      refine jr_iload d_Ck_callFits_83 rfl ?_
      refine jr_ialdQ (v := (en (ty (la)))) d_Ck_callFits_85 hR (by omega) (by omega) (congrArg (fun j => en (ty j)) (show (la) - (0) = la by omega)) ?_
      refine jr_bipush ((nI (10))) d_Ck_callFits_86 (by decide) ?_
      refine jr_iload_n d_Ck_callFits_88 rfl ?_
      refine jr_iconst ((nI (4))) d_Ck_callFits_89 (by decide) ?_
      refine jr_idivN d_Ck_callFits_90 (by omega) (by omega) (by omega) ?_
      refine jr_iaddN d_Ck_callFits_91 ?_
      refine jr_callV (As := [.int (en (ty (la))), .int (nI ((10) + ((n) / (4))))]) d_Ck_callFits_92 k_Ck_callFits_89 hW rfl rfl rfl (Nat.le_of_ble_eq_true rfl) (by decide) (by decide) (wo_part (x := (ty (la))) (y := some ((10) + ((n) / (4)))) hl hw hok.1 (by first | assumption | exact hty _) (ob_s (by omega))) ?_
      show jl_W l G m_Ck_callFits (0, 0) 95 [some (.ref 8), some (.int (nI n)), some (.ref rr), some (.int (nI la)), some (.ref ac1), some (.int (nI ((la) - (0)))), some (.int (nI 0))] [.int (bi (part pr (ty (la)) (some ((10) + ((n) / (4))))))] (σ) (.inl (some (.int (bi (cfit pr none none (n / 4) (fun j => ty (la - j))))))) (σ)
      exact jr_zretE d_Ck_callFits_95 rfl (bi_01 _) (bov (by simp [cfit, cfit])) (rfl) (by decide) (by decide)
    | some p1 =>
      have hp1 := hq1 p1 rfl
      cases q with
      | none =>
        have hl1 : 1 ≤ la := hla
        show jl_W l G m_Ck_callFits (0, 0) 22 [some (.ref 8), some (.int (nI n)), some (.ref rr), some (.int (nI la)), some (.ref ac1), none, none] [] (σ) (.inl (some (.int (bi (cfit pr (some p1) none (n / 4) (fun j => ty (la - j))))))) (σ)
        refine jr_iload_n d_Ck_callFits_22 rfl ?_
        refine jr_aload d_Ck_callFits_23 rfl ?_
        refine jr_callV (As := []) d_Ck_callFits_25 k_Ck_callFits_48 hM rfl rfl rfl (Nat.le_of_ble_eq_true rfl) (by decide) (by decide) (me_paramsH (q1 := some p1) (q2 := none) hl hM hq1 hq2) ?_
        show jl_W l G m_Ck_callFits (0, 0) 28 [some (.ref 8), some (.int (nI n)), some (.ref rr), some (.int (nI la)), some (.ref ac1), none, none] [.int (nI 1), .int (nI la)] (σ) (.inl (some (.int (bi (cfit pr (some p1) none (n / 4) (fun j => ty (la - j))))))) (σ)
        refine jr_isubN d_Ck_callFits_28 (by omega) ?_
        refine jr_istore d_Ck_callFits_29 (by decide) ?_
        show jl_W l G m_Ck_callFits (0, 0) 31 [some (.ref 8), some (.int (nI n)), some (.ref rr), some (.int (nI la)), some (.ref ac1), some (.int (nI ((la) - (1)))), none] [] (σ) (.inl (some (.int (bi (cfit pr (some p1) none (n / 4) (fun j => ty (la - j))))))) (σ)
        refine jr_iconst ((nI (0))) d_Ck_callFits_31 (by decide) ?_
        refine jr_istore d_Ck_callFits_32 (by decide) ?_
        show jl_W l G m_Ck_callFits (0, 0) 34 [some (.ref 8), some (.int (nI n)), some (.ref rr), some (.int (nI la)), some (.ref ac1), some (.int (nI ((la) - (1)))), some (.int (nI 0))] [] (σ) (.inl (some (.int (bi (cfit pr (some p1) none (n / 4) (fun j => ty (la - j))))))) (σ)
        refine jr_iload d_Ck_callFits_34 rfl ?_
        refine jr_aload d_Ck_callFits_36 rfl ?_
        refine jr_callV (As := []) d_Ck_callFits_38 k_Ck_callFits_48 hM rfl rfl rfl (Nat.le_of_ble_eq_true rfl) (by decide) (by decide) (me_paramsH (q1 := some p1) (q2 := none) hl hM hq1 hq2) ?_
        show jl_W l G m_Ck_callFits (0, 0) 41 [some (.ref 8), some (.int (nI n)), some (.ref rr), some (.int (nI la)), some (.ref ac1), some (.int (nI ((la) - (1)))), some (.int (nI 0))] [.int (nI 1), .int (nI 0)] (σ) (.inl (some (.int (bi (cfit pr (some p1) none (n / 4) (fun j => ty (la - j))))))) (σ)
        refine jr_icmp_ge 78 d_Ck_callFits_41 (by decide) (fun z => absurd z (by decide)) (fun _ => ?_)
        refine jr_aload_n d_Ck_callFits_44 rfl ?_
        refine jr_getf d_Ck_callFits_45 f_Ck_callFits_9 hc rfl ?_
        refine jr_aload_n d_Ck_callFits_48 rfl ?_
        refine jr_iload d_Ck_callFits_49 rfl ?_
        refine jr_iconst ((nI (1))) d_Ck_callFits_51 (by decide) ?_
        refine jr_iaddN d_Ck_callFits_52 ?_
        refine jr_iload d_Ck_callFits_53 rfl ?_
        refine jr_iaddN d_Ck_callFits_55 ?_
        refine jr_ialdQ (v := (en (ty (la)))) d_Ck_callFits_56 hR (by omega) (by omega) (congrArg (fun j => en (ty j)) (show (((la) - (1)) + (1)) + (0) = la by omega)) ?_
        refine jr_aload d_Ck_callFits_57 rfl ?_
        refine jr_iload d_Ck_callFits_59 rfl ?_
        refine jr_callV (As := [.int (nI 0)]) d_Ck_callFits_61 k_Ck_callFits_102 hM rfl rfl rfl (Nat.le_of_ble_eq_true rfl) (by decide) (by decide) (me_paramH0 (q1 := some p1) (q2 := none) hl hM) ?_
        show jl_W l G m_Ck_callFits (0, 0) 64 [some (.ref 8), some (.int (nI n)), some (.ref rr), some (.int (nI la)), some (.ref ac1), some (.int (nI ((la) - (1)))), some (.int (nI 0))] [.int (nI p1), .int (en (ty (la))), .ref 1] (σ) (.inl (some (.int (bi (cfit pr (some p1) none (n / 4) (fun j => ty (la - j))))))) (σ)
        refine jr_callV (As := [.int (en (ty (la))), .int (nI p1)]) d_Ck_callFits_64 k_Ck_callFits_89 hW rfl rfl rfl (Nat.le_of_ble_eq_true rfl) (by decide) (by decide) (wo_part (x := (ty (la))) (y := some (p1)) hl hw hok.1 (by first | assumption | exact hty _) (ob_s (by omega))) ?_
        show jl_W l G m_Ck_callFits (0, 0) 67 [some (.ref 8), some (.int (nI n)), some (.ref rr), some (.int (nI la)), some (.ref ac1), some (.int (nI ((la) - (1)))), some (.int (nI 0))] [.int (bi (part pr (ty (la)) (some (p1))))] (σ) (.inl (some (.int (bi (cfit pr (some p1) none (n / 4) (fun j => ty (la - j))))))) (σ)
        refine jr_if_ne 72 d_Ck_callFits_67 (by decide) (fun c2 => ?_) (fun c2 => ?_)
        · refine jr_iinc ((nI (0 + 1))) d_Ck_callFits_72 (by decide) rfl (jl_inc _) ?_
          show jl_W l G m_Ck_callFits (0, 0) 75 [some (.ref 8), some (.int (nI n)), some (.ref rr), some (.int (nI la)), some (.ref ac1), some (.int (nI ((la) - (1)))), some (.int (nI (0 + 1)))] [] (σ) (.inl (some (.int (bi (cfit pr (some p1) none (n / 4) (fun j => ty (la - j))))))) (σ)
          refine jr_goto 34 d_Ck_callFits_75 (by decide) ?_
          show jl_W l G m_Ck_callFits (0, 0) 34 [some (.ref 8), some (.int (nI n)), some (.ref rr), some (.int (nI la)), some (.ref ac1), some (.int (nI ((la) - (1)))), some (.int (nI 1))] [] (σ) (.inl (some (.int (bi (cfit pr (some p1) none (n / 4) (fun j => ty (la - j))))))) (σ)
          refine jr_iload d_Ck_callFits_34 rfl ?_
          refine jr_aload d_Ck_callFits_36 rfl ?_
          refine jr_callV (As := []) d_Ck_callFits_38 k_Ck_callFits_48 hM rfl rfl rfl (Nat.le_of_ble_eq_true rfl) (by decide) (by decide) (me_paramsH (q1 := some p1) (q2 := none) hl hM hq1 hq2) ?_
          show jl_W l G m_Ck_callFits (0, 0) 41 [some (.ref 8), some (.int (nI n)), some (.ref rr), some (.int (nI la)), some (.ref ac1), some (.int (nI ((la) - (1)))), some (.int (nI 1))] [.int (nI 1), .int (nI 1)] (σ) (.inl (some (.int (bi (cfit pr (some p1) none (n / 4) (fun j => ty (la - j))))))) (σ)
          refine jr_icmp_ge 78 d_Ck_callFits_41 (by decide) (fun _ => ?_) (fun z => absurd (by decide) z)
          refine jr_aload_n d_Ck_callFits_78 rfl ?_
          refine jr_getf d_Ck_callFits_79 f_Ck_callFits_9 hc rfl ?_
          refine jr_aload_n d_Ck_callFits_82 rfl ?_
          refine jr_iload d_Ck_callFits_83 rfl ?_
          refine jr_ialdQ (v := (en (ty (la - 1)))) d_Ck_callFits_85 hR (by omega) (by omega) (congrArg (fun j => en (ty j)) (show (la) - (1) = la - 1 by omega)) ?_
          refine jr_bipush ((nI (10))) d_Ck_callFits_86 (by decide) ?_
          refine jr_iload_n d_Ck_callFits_88 rfl ?_
          refine jr_iconst ((nI (4))) d_Ck_callFits_89 (by decide) ?_
          refine jr_idivN d_Ck_callFits_90 (by omega) (by omega) (by omega) ?_
          refine jr_iaddN d_Ck_callFits_91 ?_
          refine jr_callV (As := [.int (en (ty (la - 1))), .int (nI ((10) + ((n) / (4))))]) d_Ck_callFits_92 k_Ck_callFits_89 hW rfl rfl rfl (Nat.le_of_ble_eq_true rfl) (by decide) (by decide) (wo_part (x := (ty (la - 1))) (y := some ((10) + ((n) / (4)))) hl hw hok.1 (by first | assumption | exact hty _) (ob_s (by omega))) ?_
          show jl_W l G m_Ck_callFits (0, 0) 95 [some (.ref 8), some (.int (nI n)), some (.ref rr), some (.int (nI la)), some (.ref ac1), some (.int (nI ((la) - (1)))), some (.int (nI 1))] [.int (bi (part pr (ty (la - 1)) (some ((10) + ((n) / (4))))))] (σ) (.inl (some (.int (bi (cfit pr (some p1) none (n / 4) (fun j => ty (la - j))))))) (σ)
          exact jr_zretE d_Ck_callFits_95 rfl (bi_01 _) (bov (by simp [cfit, bi_nf c2])) (rfl) (by decide) (by decide)
        · refine jr_iconst ((nI (0))) d_Ck_callFits_70 (by decide) ?_
          exact jr_zretE d_Ck_callFits_71 rfl (by decide) (bo0 (by simp [cfit, bi_0.mp c2])) (rfl) (by decide) (by decide)
      | some p2 =>
        have hp2 := hq2 p2 rfl
        have hl2 : 2 ≤ la := hla
        show jl_W l G m_Ck_callFits (0, 0) 22 [some (.ref 8), some (.int (nI n)), some (.ref rr), some (.int (nI la)), some (.ref ac1), none, none] [] (σ) (.inl (some (.int (bi (cfit pr (some p1) (some p2) (n / 4) (fun j => ty (la - j))))))) (σ)
        refine jr_iload_n d_Ck_callFits_22 rfl ?_
        refine jr_aload d_Ck_callFits_23 rfl ?_
        refine jr_callV (As := []) d_Ck_callFits_25 k_Ck_callFits_48 hM rfl rfl rfl (Nat.le_of_ble_eq_true rfl) (by decide) (by decide) (me_paramsH (q1 := some p1) (q2 := some p2) hl hM hq1 hq2) ?_
        show jl_W l G m_Ck_callFits (0, 0) 28 [some (.ref 8), some (.int (nI n)), some (.ref rr), some (.int (nI la)), some (.ref ac1), none, none] [.int (nI 2), .int (nI la)] (σ) (.inl (some (.int (bi (cfit pr (some p1) (some p2) (n / 4) (fun j => ty (la - j))))))) (σ)
        refine jr_isubN d_Ck_callFits_28 (by omega) ?_
        refine jr_istore d_Ck_callFits_29 (by decide) ?_
        show jl_W l G m_Ck_callFits (0, 0) 31 [some (.ref 8), some (.int (nI n)), some (.ref rr), some (.int (nI la)), some (.ref ac1), some (.int (nI ((la) - (2)))), none] [] (σ) (.inl (some (.int (bi (cfit pr (some p1) (some p2) (n / 4) (fun j => ty (la - j))))))) (σ)
        refine jr_iconst ((nI (0))) d_Ck_callFits_31 (by decide) ?_
        refine jr_istore d_Ck_callFits_32 (by decide) ?_
        show jl_W l G m_Ck_callFits (0, 0) 34 [some (.ref 8), some (.int (nI n)), some (.ref rr), some (.int (nI la)), some (.ref ac1), some (.int (nI ((la) - (2)))), some (.int (nI 0))] [] (σ) (.inl (some (.int (bi (cfit pr (some p1) (some p2) (n / 4) (fun j => ty (la - j))))))) (σ)
        refine jr_iload d_Ck_callFits_34 rfl ?_
        refine jr_aload d_Ck_callFits_36 rfl ?_
        refine jr_callV (As := []) d_Ck_callFits_38 k_Ck_callFits_48 hM rfl rfl rfl (Nat.le_of_ble_eq_true rfl) (by decide) (by decide) (me_paramsH (q1 := some p1) (q2 := some p2) hl hM hq1 hq2) ?_
        show jl_W l G m_Ck_callFits (0, 0) 41 [some (.ref 8), some (.int (nI n)), some (.ref rr), some (.int (nI la)), some (.ref ac1), some (.int (nI ((la) - (2)))), some (.int (nI 0))] [.int (nI 2), .int (nI 0)] (σ) (.inl (some (.int (bi (cfit pr (some p1) (some p2) (n / 4) (fun j => ty (la - j))))))) (σ)
        refine jr_icmp_ge 78 d_Ck_callFits_41 (by decide) (fun z => absurd z (by decide)) (fun _ => ?_)
        refine jr_aload_n d_Ck_callFits_44 rfl ?_
        refine jr_getf d_Ck_callFits_45 f_Ck_callFits_9 hc rfl ?_
        refine jr_aload_n d_Ck_callFits_48 rfl ?_
        refine jr_iload d_Ck_callFits_49 rfl ?_
        refine jr_iconst ((nI (1))) d_Ck_callFits_51 (by decide) ?_
        refine jr_iaddN d_Ck_callFits_52 ?_
        refine jr_iload d_Ck_callFits_53 rfl ?_
        refine jr_iaddN d_Ck_callFits_55 ?_
        refine jr_ialdQ (v := (en (ty (la - 1)))) d_Ck_callFits_56 hR (by omega) (by omega) (congrArg (fun j => en (ty j)) (show (((la) - (2)) + (1)) + (0) = la - 1 by omega)) ?_
        refine jr_aload d_Ck_callFits_57 rfl ?_
        refine jr_iload d_Ck_callFits_59 rfl ?_
        refine jr_callV (As := [.int (nI 0)]) d_Ck_callFits_61 k_Ck_callFits_102 hM rfl rfl rfl (Nat.le_of_ble_eq_true rfl) (by decide) (by decide) (me_paramH0 (q1 := some p1) (q2 := some p2) hl hM) ?_
        show jl_W l G m_Ck_callFits (0, 0) 64 [some (.ref 8), some (.int (nI n)), some (.ref rr), some (.int (nI la)), some (.ref ac1), some (.int (nI ((la) - (2)))), some (.int (nI 0))] [.int (nI p1), .int (en (ty (la - 1))), .ref 1] (σ) (.inl (some (.int (bi (cfit pr (some p1) (some p2) (n / 4) (fun j => ty (la - j))))))) (σ)
        refine jr_callV (As := [.int (en (ty (la - 1))), .int (nI p1)]) d_Ck_callFits_64 k_Ck_callFits_89 hW rfl rfl rfl (Nat.le_of_ble_eq_true rfl) (by decide) (by decide) (wo_part (x := (ty (la - 1))) (y := some (p1)) hl hw hok.1 (by first | assumption | exact hty _) (ob_s (by omega))) ?_
        show jl_W l G m_Ck_callFits (0, 0) 67 [some (.ref 8), some (.int (nI n)), some (.ref rr), some (.int (nI la)), some (.ref ac1), some (.int (nI ((la) - (2)))), some (.int (nI 0))] [.int (bi (part pr (ty (la - 1)) (some (p1))))] (σ) (.inl (some (.int (bi (cfit pr (some p1) (some p2) (n / 4) (fun j => ty (la - j))))))) (σ)
        refine jr_if_ne 72 d_Ck_callFits_67 (by decide) (fun c3 => ?_) (fun c3 => ?_)
        · refine jr_iinc ((nI (0 + 1))) d_Ck_callFits_72 (by decide) rfl (jl_inc _) ?_
          show jl_W l G m_Ck_callFits (0, 0) 75 [some (.ref 8), some (.int (nI n)), some (.ref rr), some (.int (nI la)), some (.ref ac1), some (.int (nI ((la) - (2)))), some (.int (nI (0 + 1)))] [] (σ) (.inl (some (.int (bi (cfit pr (some p1) (some p2) (n / 4) (fun j => ty (la - j))))))) (σ)
          refine jr_goto 34 d_Ck_callFits_75 (by decide) ?_
          show jl_W l G m_Ck_callFits (0, 0) 34 [some (.ref 8), some (.int (nI n)), some (.ref rr), some (.int (nI la)), some (.ref ac1), some (.int (nI ((la) - (2)))), some (.int (nI 1))] [] (σ) (.inl (some (.int (bi (cfit pr (some p1) (some p2) (n / 4) (fun j => ty (la - j))))))) (σ)
          refine jr_iload d_Ck_callFits_34 rfl ?_
          refine jr_aload d_Ck_callFits_36 rfl ?_
          refine jr_callV (As := []) d_Ck_callFits_38 k_Ck_callFits_48 hM rfl rfl rfl (Nat.le_of_ble_eq_true rfl) (by decide) (by decide) (me_paramsH (q1 := some p1) (q2 := some p2) hl hM hq1 hq2) ?_
          show jl_W l G m_Ck_callFits (0, 0) 41 [some (.ref 8), some (.int (nI n)), some (.ref rr), some (.int (nI la)), some (.ref ac1), some (.int (nI ((la) - (2)))), some (.int (nI 1))] [.int (nI 2), .int (nI 1)] (σ) (.inl (some (.int (bi (cfit pr (some p1) (some p2) (n / 4) (fun j => ty (la - j))))))) (σ)
          refine jr_icmp_ge 78 d_Ck_callFits_41 (by decide) (fun z => absurd z (by decide)) (fun _ => ?_)
          refine jr_aload_n d_Ck_callFits_44 rfl ?_
          refine jr_getf d_Ck_callFits_45 f_Ck_callFits_9 hc rfl ?_
          refine jr_aload_n d_Ck_callFits_48 rfl ?_
          refine jr_iload d_Ck_callFits_49 rfl ?_
          refine jr_iconst ((nI (1))) d_Ck_callFits_51 (by decide) ?_
          refine jr_iaddN d_Ck_callFits_52 ?_
          refine jr_iload d_Ck_callFits_53 rfl ?_
          refine jr_iaddN d_Ck_callFits_55 ?_
          refine jr_ialdQ (v := (en (ty (la)))) d_Ck_callFits_56 hR (by omega) (by omega) (congrArg (fun j => en (ty j)) (show (((la) - (2)) + (1)) + (1) = la by omega)) ?_
          refine jr_aload d_Ck_callFits_57 rfl ?_
          refine jr_iload d_Ck_callFits_59 rfl ?_
          refine jr_callV (As := [.int (nI 1)]) d_Ck_callFits_61 k_Ck_callFits_102 hM rfl rfl rfl (Nat.le_of_ble_eq_true rfl) (by decide) (by decide) (me_paramH1 (q1 := some p1) (q2 := some p2) hl hM) ?_
          show jl_W l G m_Ck_callFits (0, 0) 64 [some (.ref 8), some (.int (nI n)), some (.ref rr), some (.int (nI la)), some (.ref ac1), some (.int (nI ((la) - (2)))), some (.int (nI 1))] [.int (nI p2), .int (en (ty (la))), .ref 1] (σ) (.inl (some (.int (bi (cfit pr (some p1) (some p2) (n / 4) (fun j => ty (la - j))))))) (σ)
          refine jr_callV (As := [.int (en (ty (la))), .int (nI p2)]) d_Ck_callFits_64 k_Ck_callFits_89 hW rfl rfl rfl (Nat.le_of_ble_eq_true rfl) (by decide) (by decide) (wo_part (x := (ty (la))) (y := some (p2)) hl hw hok.1 (by first | assumption | exact hty _) (ob_s (by omega))) ?_
          show jl_W l G m_Ck_callFits (0, 0) 67 [some (.ref 8), some (.int (nI n)), some (.ref rr), some (.int (nI la)), some (.ref ac1), some (.int (nI ((la) - (2)))), some (.int (nI 1))] [.int (bi (part pr (ty (la)) (some (p2))))] (σ) (.inl (some (.int (bi (cfit pr (some p1) (some p2) (n / 4) (fun j => ty (la - j))))))) (σ)
          refine jr_if_ne 72 d_Ck_callFits_67 (by decide) (fun c4 => ?_) (fun c4 => ?_)
          · refine jr_iinc ((nI (1 + 1))) d_Ck_callFits_72 (by decide) rfl (jl_inc _) ?_
            show jl_W l G m_Ck_callFits (0, 0) 75 [some (.ref 8), some (.int (nI n)), some (.ref rr), some (.int (nI la)), some (.ref ac1), some (.int (nI ((la) - (2)))), some (.int (nI (1 + 1)))] [] (σ) (.inl (some (.int (bi (cfit pr (some p1) (some p2) (n / 4) (fun j => ty (la - j))))))) (σ)
            refine jr_goto 34 d_Ck_callFits_75 (by decide) ?_
            show jl_W l G m_Ck_callFits (0, 0) 34 [some (.ref 8), some (.int (nI n)), some (.ref rr), some (.int (nI la)), some (.ref ac1), some (.int (nI ((la) - (2)))), some (.int (nI 2))] [] (σ) (.inl (some (.int (bi (cfit pr (some p1) (some p2) (n / 4) (fun j => ty (la - j))))))) (σ)
            refine jr_iload d_Ck_callFits_34 rfl ?_
            refine jr_aload d_Ck_callFits_36 rfl ?_
            refine jr_callV (As := []) d_Ck_callFits_38 k_Ck_callFits_48 hM rfl rfl rfl (Nat.le_of_ble_eq_true rfl) (by decide) (by decide) (me_paramsH (q1 := some p1) (q2 := some p2) hl hM hq1 hq2) ?_
            show jl_W l G m_Ck_callFits (0, 0) 41 [some (.ref 8), some (.int (nI n)), some (.ref rr), some (.int (nI la)), some (.ref ac1), some (.int (nI ((la) - (2)))), some (.int (nI 2))] [.int (nI 2), .int (nI 2)] (σ) (.inl (some (.int (bi (cfit pr (some p1) (some p2) (n / 4) (fun j => ty (la - j))))))) (σ)
            refine jr_icmp_ge 78 d_Ck_callFits_41 (by decide) (fun _ => ?_) (fun z => absurd (by decide) z)
            refine jr_aload_n d_Ck_callFits_78 rfl ?_
            refine jr_getf d_Ck_callFits_79 f_Ck_callFits_9 hc rfl ?_
            refine jr_aload_n d_Ck_callFits_82 rfl ?_
            refine jr_iload d_Ck_callFits_83 rfl ?_
            refine jr_ialdQ (v := (en (ty (la - 2)))) d_Ck_callFits_85 hR (by omega) (by omega) (congrArg (fun j => en (ty j)) (show (la) - (2) = la - 2 by omega)) ?_
            refine jr_bipush ((nI (10))) d_Ck_callFits_86 (by decide) ?_
            refine jr_iload_n d_Ck_callFits_88 rfl ?_
            refine jr_iconst ((nI (4))) d_Ck_callFits_89 (by decide) ?_
            refine jr_idivN d_Ck_callFits_90 (by omega) (by omega) (by omega) ?_
            refine jr_iaddN d_Ck_callFits_91 ?_
            refine jr_callV (As := [.int (en (ty (la - 2))), .int (nI ((10) + ((n) / (4))))]) d_Ck_callFits_92 k_Ck_callFits_89 hW rfl rfl rfl (Nat.le_of_ble_eq_true rfl) (by decide) (by decide) (wo_part (x := (ty (la - 2))) (y := some ((10) + ((n) / (4)))) hl hw hok.1 (by first | assumption | exact hty _) (ob_s (by omega))) ?_
            show jl_W l G m_Ck_callFits (0, 0) 95 [some (.ref 8), some (.int (nI n)), some (.ref rr), some (.int (nI la)), some (.ref ac1), some (.int (nI ((la) - (2)))), some (.int (nI 2))] [.int (bi (part pr (ty (la - 2)) (some ((10) + ((n) / (4))))))] (σ) (.inl (some (.int (bi (cfit pr (some p1) (some p2) (n / 4) (fun j => ty (la - j))))))) (σ)
            exact jr_zretE d_Ck_callFits_95 rfl (bi_01 _) (bov (by simp [cfit, bi_nf c3, bi_nf c4])) (rfl) (by decide) (by decide)
          · refine jr_iconst ((nI (0))) d_Ck_callFits_70 (by decide) ?_
            exact jr_zretE d_Ck_callFits_71 rfl (by decide) (bo0 (by simp [cfit, bi_nf c3, bi_0.mp c4])) (rfl) (by decide) (by decide)
        · refine jr_iconst ((nI (0))) d_Ck_callFits_70 (by decide) ?_
          exact jr_zretE d_Ck_callFits_71 rfl (by decide) (bo0 (by simp [cfit, bi_0.mp c3])) (rfl) (by decide) (by decide)
theorem nI_ofx {x : Int32} (h : ¬ x < 0) : ∃ n, n < 2 ^ 31 ∧ x = nI n := by
  have h1 := x.toInt_lt
  have h2 : 0 ≤ x.toInt := by
    have := mt Int32.lt_iff_toInt_lt.mpr h
    rw [show (0 : Int32).toInt = 0 by decide] at this
    omega
  refine ⟨x.toInt.toNat, by omega, ?_⟩
  apply Int32.toInt_inj.mp
  rw [nI_toInt (by omega)]
  omega
theorem xneg {x : Int32} {d : Nat} (hd : 1 < d) (hd2 : d < 2 ^ 31) (h : x < 0) : x / nI d < 0 ∨ (x / nI d = 0 ∧ x - x / nI d * nI d = x) := by
  by_cases q : x / nI d = 0
  · exact Or.inr ⟨q, by rw [q, Int32.zero_mul, Int32.sub_zero]⟩
  · left
    have hx : x.toInt < 0 := by
      have := Int32.lt_iff_toInt_lt.mp h
      rwa [show (0 : Int32).toInt = 0 by decide] at this
    have hne : nI d ≠ -1 := en_m1ne hd2
    have e : (x / nI d).toInt = x.toInt.tdiv (nI d).toInt := Int32.toInt_div_of_ne_right _ _ hne
    rw [nI_toInt hd2] at e
    have e2 : x.toInt.tdiv (d : Int) = -((-x.toInt).tdiv (d : Int)) := by rw [Int.neg_tdiv, Int.neg_neg]
    have e3 : 0 ≤ (-x.toInt).tdiv (d : Int) := Int.tdiv_nonneg (by omega) (by omega)
    have e4 : (x / nI d).toInt ≠ 0 := fun z => q (Int32.toInt_inj.mp (by rw [z]; decide))
    rw [Int32.lt_iff_toInt_lt, show (0 : Int32).toInt = 0 by decide]
    omega
theorem hasI_neg {tb : Nat → Bool} {k : Int32} (h : k < 0) : hasI tb k = false := by unfold hasI; rw [if_pos h]
theorem hasF_neg {tb : Nat → Bool} {ow fi : Nat → Nat} {x : Int32} (h : x < 0) : hasF tb ow fi (x / nI 32) (x - x / nI 32 * nI 32) = false := by
  unfold hasF
  rcases xneg (d := 32) (by decide) (by decide) h with q | ⟨q, e⟩
  · rw [hasI_neg q]; rfl
  · rw [e, if_pos h]; split <;> rfl
theorem found_neg {x : Int32} (h : x < 0) : found tb pr mt (x / nI 4) (x - x / nI 4 * nI 4) = none := by
  unfold found
  rcases xneg (d := 4) (by decide) (by decide) h with q | ⟨q, e⟩
  · rw [hasI_neg q, if_pos rfl]
  · rw [e]
    split <;> rfl
theorem lt6_of {x : Int32} (h : lt6 x = true) : ∃ n, n < 6 ∧ x = nI n := by
  unfold lt6 at h
  by_cases q : x < 0
  · rw [if_pos q] at h; cases h
  · rw [if_neg q] at h
    by_cases q2 : nI 6 ≤ x
    · rw [if_pos q2] at h; cases h
    · obtain ⟨n, hn, e, -⟩ := pk_mu q q2 (by decide)
      exact ⟨n, hn, e⟩
theorem hasF_of {tb : Nat → Bool} {ow fi : Nat → Nat} {x : Int32} (h : hasF tb ow fi (x / nI 32) (x - x / nI 32 * nI 32) = true) : ∃ n, n < 2 ^ 31 ∧ x = nI n ∧ n / 32 < 6 ∧ n % 32 < fi (n / 32) + ow (n / 32) ∧ tb (n / 32) = true := by
  by_cases q : x < 0
  · rw [hasF_neg q] at h; cases h
  · obtain ⟨n, hn, e⟩ := nI_ofx q
    subst e
    rw [pk_rem hn (by decide) (by decide), pk_div hn (by decide) (by decide)] at h
    unfold hasF at h
    by_cases q1 : hasI tb (nI (n / 32)) = true
    · rw [if_pos q1] at h
      obtain ⟨j, hj, e1, e2⟩ := hasI_of q1
      rw [nI_eq (by omega) (by omega)] at e1
      subst e1
      rw [nI_clamp (by omega), if_neg (nI_pos (by omega))] at h
      by_cases q2 : nI (n % 32) < nI (fi (n / 32) + ow (n / 32))
      · refine ⟨n, hn, rfl, hj, ?_, e2⟩
        by_cases q3 : fi (n / 32) + ow (n / 32) < 2 ^ 31
        · exact (nI_ltI (by omega) q3).mp q2
        · omega
      · rw [if_neg q2] at h; cases h
    · rw [if_neg q1] at h; cases h
theorem SgC.of {sg : Int32 → Option Sg} (h : SgC σ tb pr mt sg) {x : Int32} {g : Sg} (e : sg x = some g) : ∃ n, n < 2 ^ 31 ∧ x = nI n ∧ n / 4 < 6 ∧ ob 16 g.1 ∧ ob 16 g.2.1 ∧ g.2.2 < 16 ∧ (g.1 = none → g.2.1 = none) := by
  have hx := h x
  cases hf : found tb pr mt (x / nI 4) (x - x / nI 4 * nI 4) with
  | none => rw [hx.1 hf] at e; cases e
  | some a =>
    obtain ⟨q1, q2, rs, fs, hm, hsx, hq1, hq2, hrs, hqq⟩ := hx.2 a hf
    rw [hsx] at e
    cases e
    by_cases q : x < 0
    · rw [found_neg q] at hf; cases hf
    · obtain ⟨n, hn, e⟩ := nI_ofx q
      subst e
      rw [pk_rem hn (by decide) (by decide), pk_div hn (by decide) (by decide)] at hf
      refine ⟨n, hn, rfl, ?_, hq1, hq2, hrs, hqq⟩
      unfold found at hf
      by_cases q1 : hasI tb (nI (n / 4)) = false
      · rw [if_pos q1] at hf; cases hf
      · obtain ⟨j, hj, e1, -⟩ := hasI_of (by simpa using q1)
        rw [nI_eq (by omega) (by omega)] at e1
        omega
theorem d_Ck_typesFit_0 : decode m_Ck_typesFit.2.1 0 = .ok (.aload_n 1, 1) := by decide +kernel
theorem f_Ck_typesFit_28 : jl_fd m_Ck_typesFit 28 2 4 = true := by decide +kernel
theorem d_Ck_typesFit_1 : decode m_Ck_typesFit.2.1 1 = .ok (.getfield 28, 3) := by decide +kernel
theorem d_Ck_typesFit_4 : decode m_Ck_typesFit.2.1 4 = .ok (.iload_n 2, 1) := by decide +kernel
theorem d_Ck_typesFit_5 : decode m_Ck_typesFit.2.1 5 = .ok (.iaload, 1) := by decide +kernel
theorem d_Ck_typesFit_6 : decode m_Ck_typesFit.2.1 6 = .ok (.istore 5, 2) := by decide +kernel
theorem d_Ck_typesFit_8 : decode m_Ck_typesFit.2.1 8 = .ok (.iload 4, 2) := by decide +kernel
theorem d_Ck_typesFit_10 : decode m_Ck_typesFit.2.1 10 = .ok (.bipush 7, 2) := by decide +kernel
theorem d_Ck_typesFit_12 : decode m_Ck_typesFit.2.1 12 = .ok (.iadd, 1) := by decide +kernel
theorem d_Ck_typesFit_13 : decode m_Ck_typesFit.2.1 13 = .ok (.aload_n 3, 1) := by decide +kernel
theorem d_Ck_typesFit_14 : decode m_Ck_typesFit.2.1 14 = .ok (.iload 4, 2) := by decide +kernel
theorem d_Ck_typesFit_16 : decode m_Ck_typesFit.2.1 16 = .ok (.bipush 6, 2) := by decide +kernel
theorem d_Ck_typesFit_18 : decode m_Ck_typesFit.2.1 18 = .ok (.iadd, 1) := by decide +kernel
theorem d_Ck_typesFit_19 : decode m_Ck_typesFit.2.1 19 = .ok (.iaload, 1) := by decide +kernel
theorem d_Ck_typesFit_20 : decode m_Ck_typesFit.2.1 20 = .ok (.iadd, 1) := by decide +kernel
theorem d_Ck_typesFit_21 : decode m_Ck_typesFit.2.1 21 = .ok (.iconst 1, 1) := by decide +kernel
theorem d_Ck_typesFit_22 : decode m_Ck_typesFit.2.1 22 = .ok (.isub, 1) := by decide +kernel
theorem d_Ck_typesFit_23 : decode m_Ck_typesFit.2.1 23 = .ok (.istore 6, 2) := by decide +kernel
theorem d_Ck_typesFit_25 : decode m_Ck_typesFit.2.1 25 = .ok (.aload_n 1, 1) := by decide +kernel
theorem f_Ck_typesFit_22 : jl_fd m_Ck_typesFit 22 2 3 = true := by decide +kernel
theorem d_Ck_typesFit_26 : decode m_Ck_typesFit.2.1 26 = .ok (.getfield 22, 3) := by decide +kernel
theorem d_Ck_typesFit_29 : decode m_Ck_typesFit.2.1 29 = .ok (.iload_n 2, 1) := by decide +kernel
theorem d_Ck_typesFit_30 : decode m_Ck_typesFit.2.1 30 = .ok (.iaload, 1) := by decide +kernel
theorem d_Ck_typesFit_31 : decode m_Ck_typesFit.2.1 31 = .ok (.tableswitch 412 1 25 #[113, 412, 130, 130, 130, 130, 412, 152, 130, 412, 412, 165, 185, 246, 256, 279, 256, 292, 152, 308, 338, 377, 412, 412, 390], 113) := by decide +kernel
theorem d_Ck_typesFit_443 : decode m_Ck_typesFit.2.1 443 = .ok (.iconst 1, 1) := by decide +kernel
theorem d_Ck_typesFit_444 : decode m_Ck_typesFit.2.1 444 = .ok (.ireturn, 1) := by decide +kernel
theorem ck_ty_0 (hl : l.stackTraces = false) {pc at_ h : Nat} (hc : CkAt σ) (hw : WoAt σ tb pr ow fi ft mt) (hm : MeAt σ a q1 q2 rs op ag sz fr tt tg kd nc mp fh) (hok : WoOk tb pr ow fi) (hsg : SgC σ tb pr mt sg) (hR : σ[rr]? = some (.inl (0, N, .inl fun j => en (ty j)))) (hN : N ≤ 144) (hty : ∀ j, ob 16 (ty j)) (hop : op pc < 26) (hpc : pc < 24) (hat : at_ + 12 ≤ N) (hh : ty (at_ + 6) = some h) (hh5 : h ≤ 5) (ho : op pc = 0) : jl_m l G m_Ck_typesFit [.ref 8, .ref a, .int (nI pc), .ref rr, .int (nI (at_))] σ (.inl (some (.int (bi (true))))) (σ) := by
  obtain ⟨hW, h2, h3, h4, h5, h6, h7⟩ := id hw
  obtain ⟨hM, g1, g2, g3, g4, g5, g6, g7, g8⟩ := id hm
  refine jl_of (as := [.ref 8, .ref a, .int (nI pc), .ref rr, .int (nI (at_))]) rfl (by decide) hl (jl_cc rfl (jl_cc rfl (jl_cc rfl (jl_cc rfl (jl_cc rfl jl_ca))))) (Nat.le_of_ble_eq_true rfl) ?_
  show jl_W l G m_Ck_typesFit (0, 0) 0 [some (.ref 8), some (.ref a), some (.int (nI pc)), some (.ref rr), some (.int (nI (at_))), none, none] [] (σ) (.inl (some (.int (bi (true))))) (σ)
  refine jr_aload_n d_Ck_typesFit_0 rfl ?_
  refine jr_getf d_Ck_typesFit_1 f_Ck_typesFit_28 hM rfl ?_
  refine jr_iload_n d_Ck_typesFit_4 rfl ?_
  refine jr_ialdN d_Ck_typesFit_5 g2 (by omega) (by omega) ?_
  refine jr_istore d_Ck_typesFit_6 (by decide) ?_
  show jl_W l G m_Ck_typesFit (0, 0) 8 [some (.ref 8), some (.ref a), some (.int (nI pc)), some (.ref rr), some (.int (nI (at_))), some (.int (ag (pc))), none] [] (σ) (.inl (some (.int (bi (true))))) (σ)
  refine jr_iload d_Ck_typesFit_8 rfl ?_
  refine jr_bipush ((nI (7))) d_Ck_typesFit_10 (by decide) ?_
  refine jr_iaddN d_Ck_typesFit_12 ?_
  refine jr_aload_n d_Ck_typesFit_13 rfl ?_
  refine jr_iload d_Ck_typesFit_14 rfl ?_
  refine jr_bipush ((nI (6))) d_Ck_typesFit_16 (by decide) ?_
  refine jr_iaddN d_Ck_typesFit_18 ?_
  refine jr_ialdQ (v := (nI (h))) d_Ck_typesFit_19 hR (by omega) (by omega) (congrArg en hh) ?_
  refine jr_iaddN d_Ck_typesFit_20 ?_
  refine jr_iconst ((nI (1))) d_Ck_typesFit_21 (by decide) ?_
  refine jr_isubN d_Ck_typesFit_22 (by omega) ?_
  refine jr_istore d_Ck_typesFit_23 (by decide) ?_
  show jl_W l G m_Ck_typesFit (0, 0) 25 [some (.ref 8), some (.ref a), some (.int (nI pc)), some (.ref rr), some (.int (nI (at_))), some (.int (ag (pc))), some (.int (nI ((((at_) + (7)) + (h)) - (1))))] [] (σ) (.inl (some (.int (bi (true))))) (σ)
  refine jr_aload_n d_Ck_typesFit_25 rfl ?_
  refine jr_getf d_Ck_typesFit_26 f_Ck_typesFit_22 hM rfl ?_
  refine jr_iload_n d_Ck_typesFit_29 rfl ?_
  refine jr_ialdQ (v := (nI (0))) d_Ck_typesFit_30 g1 (by omega) (by omega) (congrArg nI ho) ?_
  refine jr_tableOut 443 d_Ck_typesFit_31 (by decide +kernel) (by decide) ?_
  refine jr_iconst ((nI (1))) d_Ck_typesFit_443 (by decide) ?_
  exact jr_zretE d_Ck_typesFit_444 rfl (by decide) (bo1 (by first | (simp [isO]; done) | (simp [isO]; omega))) (rfl) (by decide) (by decide)
theorem d_Ck_typesFit_144 : decode m_Ck_typesFit.2.1 144 = .ok (.aload_n 3, 1) := by decide +kernel
theorem d_Ck_typesFit_145 : decode m_Ck_typesFit.2.1 145 = .ok (.iload 4, 2) := by decide +kernel
theorem d_Ck_typesFit_147 : decode m_Ck_typesFit.2.1 147 = .ok (.iload 5, 2) := by decide +kernel
theorem d_Ck_typesFit_149 : decode m_Ck_typesFit.2.1 149 = .ok (.iadd, 1) := by decide +kernel
theorem d_Ck_typesFit_150 : decode m_Ck_typesFit.2.1 150 = .ok (.iaload, 1) := by decide +kernel
theorem d_Ck_typesFit_151 : decode m_Ck_typesFit.2.1 151 = .ok (.iconst (-1), 1) := by decide +kernel
theorem d_Ck_typesFit_152 : decode m_Ck_typesFit.2.1 152 = .ok (.if_icmp .eq 7, 3) := by decide +kernel
theorem d_Ck_typesFit_159 : decode m_Ck_typesFit.2.1 159 = .ok (.iconst 0, 1) := by decide +kernel
theorem d_Ck_typesFit_160 : decode m_Ck_typesFit.2.1 160 = .ok (.ireturn, 1) := by decide +kernel
theorem d_Ck_typesFit_155 : decode m_Ck_typesFit.2.1 155 = .ok (.iconst 1, 1) := by decide +kernel
theorem d_Ck_typesFit_156 : decode m_Ck_typesFit.2.1 156 = .ok (.goto 4, 3) := by decide +kernel
theorem ck_ty_1 (hl : l.stackTraces = false) {pc at_ h : Nat} (hc : CkAt σ) (hw : WoAt σ tb pr ow fi ft mt) (hm : MeAt σ a q1 q2 rs op ag sz fr tt tg kd nc mp fh) (hok : WoOk tb pr ow fi) (hsg : SgC σ tb pr mt sg) (hR : σ[rr]? = some (.inl (0, N, .inl fun j => en (ty j)))) (hN : N ≤ 144) (hty : ∀ j, ob 16 (ty j)) (hop : op pc < 26) (hpc : pc < 24) (hat : at_ + 12 ≤ N) (hh : ty (at_ + 6) = some h) (hh5 : h ≤ 5) (ho : op pc = 1) {n : Nat} (hn : n < 6) (hx : ag pc = nI n) {ld : Option Nat} (el : ty (at_ + n) = ld) : jl_m l G m_Ck_typesFit [.ref 8, .ref a, .int (nI pc), .ref rr, .int (nI (at_))] σ (.inl (some (.int (bi (ld.isSome))))) (σ) := by
  obtain ⟨hW, h2, h3, h4, h5, h6, h7⟩ := id hw
  obtain ⟨hM, g1, g2, g3, g4, g5, g6, g7, g8⟩ := id hm
  have hld : ob 16 ld := el ▸ hty _
  refine jl_of (as := [.ref 8, .ref a, .int (nI pc), .ref rr, .int (nI (at_))]) rfl (by decide) hl (jl_cc rfl (jl_cc rfl (jl_cc rfl (jl_cc rfl (jl_cc rfl jl_ca))))) (Nat.le_of_ble_eq_true rfl) ?_
  show jl_W l G m_Ck_typesFit (0, 0) 0 [some (.ref 8), some (.ref a), some (.int (nI pc)), some (.ref rr), some (.int (nI (at_))), none, none] [] (σ) (.inl (some (.int (bi (ld.isSome))))) (σ)
  refine jr_aload_n d_Ck_typesFit_0 rfl ?_
  refine jr_getf d_Ck_typesFit_1 f_Ck_typesFit_28 hM rfl ?_
  refine jr_iload_n d_Ck_typesFit_4 rfl ?_
  refine jr_ialdQ (v := (nI (n))) d_Ck_typesFit_5 g2 (by omega) (by omega) (hx) ?_
  refine jr_istore d_Ck_typesFit_6 (by decide) ?_
  show jl_W l G m_Ck_typesFit (0, 0) 8 [some (.ref 8), some (.ref a), some (.int (nI pc)), some (.ref rr), some (.int (nI (at_))), some (.int (nI n)), none] [] (σ) (.inl (some (.int (bi (ld.isSome))))) (σ)
  refine jr_iload d_Ck_typesFit_8 rfl ?_
  refine jr_bipush ((nI (7))) d_Ck_typesFit_10 (by decide) ?_
  refine jr_iaddN d_Ck_typesFit_12 ?_
  refine jr_aload_n d_Ck_typesFit_13 rfl ?_
  refine jr_iload d_Ck_typesFit_14 rfl ?_
  refine jr_bipush ((nI (6))) d_Ck_typesFit_16 (by decide) ?_
  refine jr_iaddN d_Ck_typesFit_18 ?_
  refine jr_ialdQ (v := (nI (h))) d_Ck_typesFit_19 hR (by omega) (by omega) (congrArg en hh) ?_
  refine jr_iaddN d_Ck_typesFit_20 ?_
  refine jr_iconst ((nI (1))) d_Ck_typesFit_21 (by decide) ?_
  refine jr_isubN d_Ck_typesFit_22 (by omega) ?_
  refine jr_istore d_Ck_typesFit_23 (by decide) ?_
  show jl_W l G m_Ck_typesFit (0, 0) 25 [some (.ref 8), some (.ref a), some (.int (nI pc)), some (.ref rr), some (.int (nI (at_))), some (.int (nI n)), some (.int (nI ((((at_) + (7)) + (h)) - (1))))] [] (σ) (.inl (some (.int (bi (ld.isSome))))) (σ)
  refine jr_aload_n d_Ck_typesFit_25 rfl ?_
  refine jr_getf d_Ck_typesFit_26 f_Ck_typesFit_22 hM rfl ?_
  refine jr_iload_n d_Ck_typesFit_29 rfl ?_
  refine jr_ialdQ (v := (nI (1))) d_Ck_typesFit_30 g1 (by omega) (by omega) (congrArg nI ho) ?_
  refine jr_tableIn (off := 113) 144 d_Ck_typesFit_31 (by decide +kernel) (by decide +kernel) (by decide +kernel) (by decide) ?_
  cases ld with
  | none =>
    show jl_W l G m_Ck_typesFit (0, 0) 144 [some (.ref 8), some (.ref a), some (.int (nI pc)), some (.ref rr), some (.int (nI (at_))), some (.int (nI n)), some (.int (nI ((((at_) + (7)) + (h)) - (1))))] [] (σ) (.inl (some (.int (bi (none.isSome))))) (σ)
    refine jr_aload_n d_Ck_typesFit_144 rfl ?_
    refine jr_iload d_Ck_typesFit_145 rfl ?_
    refine jr_iload d_Ck_typesFit_147 rfl ?_
    refine jr_iaddN d_Ck_typesFit_149 ?_
    refine jr_ialdQ (v := (-1)) d_Ck_typesFit_150 hR (by omega) (by omega) (congrArg en el) ?_
    refine jr_iconst ((-1)) d_Ck_typesFit_151 (by decide) ?_
    refine jr_icmp_eq 159 d_Ck_typesFit_152 (by decide) (fun _ => ?_) (fun z => absurd (by decide) z)
    refine jr_iconst ((nI (0))) d_Ck_typesFit_159 (by decide) ?_
    exact jr_zretE d_Ck_typesFit_160 rfl (by decide) (bo0 (by first | (simp [isO]; done) | (simp [isO]; omega))) (rfl) (by decide) (by decide)
  | some t =>
    have htt : t < 16 := hld t rfl
    show jl_W l G m_Ck_typesFit (0, 0) 144 [some (.ref 8), some (.ref a), some (.int (nI pc)), some (.ref rr), some (.int (nI (at_))), some (.int (nI n)), some (.int (nI ((((at_) + (7)) + (h)) - (1))))] [] (σ) (.inl (some (.int (bi ((some t).isSome))))) (σ)
    refine jr_aload_n d_Ck_typesFit_144 rfl ?_
    refine jr_iload d_Ck_typesFit_145 rfl ?_
    refine jr_iload d_Ck_typesFit_147 rfl ?_
    refine jr_iaddN d_Ck_typesFit_149 ?_
    refine jr_ialdQ (v := (nI (t))) d_Ck_typesFit_150 hR (by omega) (by omega) (congrArg en el) ?_
    refine jr_iconst ((-1)) d_Ck_typesFit_151 (by decide) ?_
    refine jr_icmp_eq 159 d_Ck_typesFit_152 (by decide) (fun z => absurd z (en_m1ne (by omega))) (fun _ => ?_)
    refine jr_iconst ((nI (1))) d_Ck_typesFit_155 (by decide) ?_
    refine jr_goto 160 d_Ck_typesFit_156 (by decide) ?_
    exact jr_zretE d_Ck_typesFit_160 rfl (by decide) (bo1 (by first | (simp [isO]; done) | (simp [isO]; omega))) (rfl) (by decide) (by decide)
theorem ck_ty_2 (hl : l.stackTraces = false) {pc at_ h : Nat} (hc : CkAt σ) (hw : WoAt σ tb pr ow fi ft mt) (hm : MeAt σ a q1 q2 rs op ag sz fr tt tg kd nc mp fh) (hok : WoOk tb pr ow fi) (hsg : SgC σ tb pr mt sg) (hR : σ[rr]? = some (.inl (0, N, .inl fun j => en (ty j)))) (hN : N ≤ 144) (hty : ∀ j, ob 16 (ty j)) (hop : op pc < 26) (hpc : pc < 24) (hat : at_ + 12 ≤ N) (hh : ty (at_ + 6) = some h) (hh5 : h ≤ 5) (ho : op pc = 2) : jl_m l G m_Ck_typesFit [.ref 8, .ref a, .int (nI pc), .ref rr, .int (nI (at_))] σ (.inl (some (.int (bi (true))))) (σ) := by
  obtain ⟨hW, h2, h3, h4, h5, h6, h7⟩ := id hw
  obtain ⟨hM, g1, g2, g3, g4, g5, g6, g7, g8⟩ := id hm
  refine jl_of (as := [.ref 8, .ref a, .int (nI pc), .ref rr, .int (nI (at_))]) rfl (by decide) hl (jl_cc rfl (jl_cc rfl (jl_cc rfl (jl_cc rfl (jl_cc rfl jl_ca))))) (Nat.le_of_ble_eq_true rfl) ?_
  show jl_W l G m_Ck_typesFit (0, 0) 0 [some (.ref 8), some (.ref a), some (.int (nI pc)), some (.ref rr), some (.int (nI (at_))), none, none] [] (σ) (.inl (some (.int (bi (true))))) (σ)
  refine jr_aload_n d_Ck_typesFit_0 rfl ?_
  refine jr_getf d_Ck_typesFit_1 f_Ck_typesFit_28 hM rfl ?_
  refine jr_iload_n d_Ck_typesFit_4 rfl ?_
  refine jr_ialdN d_Ck_typesFit_5 g2 (by omega) (by omega) ?_
  refine jr_istore d_Ck_typesFit_6 (by decide) ?_
  show jl_W l G m_Ck_typesFit (0, 0) 8 [some (.ref 8), some (.ref a), some (.int (nI pc)), some (.ref rr), some (.int (nI (at_))), some (.int (ag (pc))), none] [] (σ) (.inl (some (.int (bi (true))))) (σ)
  refine jr_iload d_Ck_typesFit_8 rfl ?_
  refine jr_bipush ((nI (7))) d_Ck_typesFit_10 (by decide) ?_
  refine jr_iaddN d_Ck_typesFit_12 ?_
  refine jr_aload_n d_Ck_typesFit_13 rfl ?_
  refine jr_iload d_Ck_typesFit_14 rfl ?_
  refine jr_bipush ((nI (6))) d_Ck_typesFit_16 (by decide) ?_
  refine jr_iaddN d_Ck_typesFit_18 ?_
  refine jr_ialdQ (v := (nI (h))) d_Ck_typesFit_19 hR (by omega) (by omega) (congrArg en hh) ?_
  refine jr_iaddN d_Ck_typesFit_20 ?_
  refine jr_iconst ((nI (1))) d_Ck_typesFit_21 (by decide) ?_
  refine jr_isubN d_Ck_typesFit_22 (by omega) ?_
  refine jr_istore d_Ck_typesFit_23 (by decide) ?_
  show jl_W l G m_Ck_typesFit (0, 0) 25 [some (.ref 8), some (.ref a), some (.int (nI pc)), some (.ref rr), some (.int (nI (at_))), some (.int (ag (pc))), some (.int (nI ((((at_) + (7)) + (h)) - (1))))] [] (σ) (.inl (some (.int (bi (true))))) (σ)
  refine jr_aload_n d_Ck_typesFit_25 rfl ?_
  refine jr_getf d_Ck_typesFit_26 f_Ck_typesFit_22 hM rfl ?_
  refine jr_iload_n d_Ck_typesFit_29 rfl ?_
  refine jr_ialdQ (v := (nI (2))) d_Ck_typesFit_30 g1 (by omega) (by omega) (congrArg nI ho) ?_
  refine jr_tableIn (off := 412) 443 d_Ck_typesFit_31 (by decide +kernel) (by decide +kernel) (by decide +kernel) (by decide) ?_
  refine jr_iconst ((nI (1))) d_Ck_typesFit_443 (by decide) ?_
  exact jr_zretE d_Ck_typesFit_444 rfl (by decide) (bo1 (by first | (simp [isO]; done) | (simp [isO]; omega))) (rfl) (by decide) (by decide)
theorem d_Ck_typesFit_161 : decode m_Ck_typesFit.2.1 161 = .ok (.aload_n 3, 1) := by decide +kernel
theorem d_Ck_typesFit_162 : decode m_Ck_typesFit.2.1 162 = .ok (.iload 6, 2) := by decide +kernel
theorem d_Ck_typesFit_164 : decode m_Ck_typesFit.2.1 164 = .ok (.iconst 1, 1) := by decide +kernel
theorem d_Ck_typesFit_165 : decode m_Ck_typesFit.2.1 165 = .ok (.isub, 1) := by decide +kernel
theorem d_Ck_typesFit_166 : decode m_Ck_typesFit.2.1 166 = .ok (.iaload, 1) := by decide +kernel
theorem d_Ck_typesFit_167 : decode m_Ck_typesFit.2.1 167 = .ok (.ifCond .ne 14, 3) := by decide +kernel
theorem d_Ck_typesFit_181 : decode m_Ck_typesFit.2.1 181 = .ok (.iconst 0, 1) := by decide +kernel
theorem d_Ck_typesFit_182 : decode m_Ck_typesFit.2.1 182 = .ok (.ireturn, 1) := by decide +kernel
theorem d_Ck_typesFit_170 : decode m_Ck_typesFit.2.1 170 = .ok (.aload_n 3, 1) := by decide +kernel
theorem d_Ck_typesFit_171 : decode m_Ck_typesFit.2.1 171 = .ok (.iload 6, 2) := by decide +kernel
theorem d_Ck_typesFit_173 : decode m_Ck_typesFit.2.1 173 = .ok (.iaload, 1) := by decide +kernel
theorem d_Ck_typesFit_174 : decode m_Ck_typesFit.2.1 174 = .ok (.ifCond .ne 7, 3) := by decide +kernel
theorem d_Ck_typesFit_177 : decode m_Ck_typesFit.2.1 177 = .ok (.iconst 1, 1) := by decide +kernel
theorem d_Ck_typesFit_178 : decode m_Ck_typesFit.2.1 178 = .ok (.goto 4, 3) := by decide +kernel
theorem ck_ty_3 (hl : l.stackTraces = false) {pc at_ h : Nat} (hc : CkAt σ) (hw : WoAt σ tb pr ow fi ft mt) (hm : MeAt σ a q1 q2 rs op ag sz fr tt tg kd nc mp fh) (hok : WoOk tb pr ow fi) (hsg : SgC σ tb pr mt sg) (hR : σ[rr]? = some (.inl (0, N, .inl fun j => en (ty j)))) (hN : N ≤ 144) (hty : ∀ j, ob 16 (ty j)) (hop : op pc < 26) (hpc : pc < 24) (hat : at_ + 12 ≤ N) (hh : ty (at_ + 6) = some h) (hh5 : h ≤ 5) (ho : op pc = 3) {t0 : Option Nat} (e0 : ty (at_ + (6 + h - 0)) = t0) (hb0 : 1 ≤ h) {t1 : Option Nat} (e1 : ty (at_ + (6 + h - 1)) = t1) (hb1 : 2 ≤ h) : jl_m l G m_Ck_typesFit [.ref 8, .ref a, .int (nI pc), .ref rr, .int (nI (at_))] σ (.inl (some (.int (bi (isI t1 && isI t0))))) (σ) := by
  obtain ⟨hW, h2, h3, h4, h5, h6, h7⟩ := id hw
  obtain ⟨hM, g1, g2, g3, g4, g5, g6, g7, g8⟩ := id hm
  have ht0 : ob 16 t0 := e0 ▸ hty _
  have ht1 : ob 16 t1 := e1 ▸ hty _
  refine jl_of (as := [.ref 8, .ref a, .int (nI pc), .ref rr, .int (nI (at_))]) rfl (by decide) hl (jl_cc rfl (jl_cc rfl (jl_cc rfl (jl_cc rfl (jl_cc rfl jl_ca))))) (Nat.le_of_ble_eq_true rfl) ?_
  show jl_W l G m_Ck_typesFit (0, 0) 0 [some (.ref 8), some (.ref a), some (.int (nI pc)), some (.ref rr), some (.int (nI (at_))), none, none] [] (σ) (.inl (some (.int (bi (isI t1 && isI t0))))) (σ)
  refine jr_aload_n d_Ck_typesFit_0 rfl ?_
  refine jr_getf d_Ck_typesFit_1 f_Ck_typesFit_28 hM rfl ?_
  refine jr_iload_n d_Ck_typesFit_4 rfl ?_
  refine jr_ialdN d_Ck_typesFit_5 g2 (by omega) (by omega) ?_
  refine jr_istore d_Ck_typesFit_6 (by decide) ?_
  show jl_W l G m_Ck_typesFit (0, 0) 8 [some (.ref 8), some (.ref a), some (.int (nI pc)), some (.ref rr), some (.int (nI (at_))), some (.int (ag (pc))), none] [] (σ) (.inl (some (.int (bi (isI t1 && isI t0))))) (σ)
  refine jr_iload d_Ck_typesFit_8 rfl ?_
  refine jr_bipush ((nI (7))) d_Ck_typesFit_10 (by decide) ?_
  refine jr_iaddN d_Ck_typesFit_12 ?_
  refine jr_aload_n d_Ck_typesFit_13 rfl ?_
  refine jr_iload d_Ck_typesFit_14 rfl ?_
  refine jr_bipush ((nI (6))) d_Ck_typesFit_16 (by decide) ?_
  refine jr_iaddN d_Ck_typesFit_18 ?_
  refine jr_ialdQ (v := (nI (h))) d_Ck_typesFit_19 hR (by omega) (by omega) (congrArg en hh) ?_
  refine jr_iaddN d_Ck_typesFit_20 ?_
  refine jr_iconst ((nI (1))) d_Ck_typesFit_21 (by decide) ?_
  refine jr_isubN d_Ck_typesFit_22 (by omega) ?_
  refine jr_istore d_Ck_typesFit_23 (by decide) ?_
  show jl_W l G m_Ck_typesFit (0, 0) 25 [some (.ref 8), some (.ref a), some (.int (nI pc)), some (.ref rr), some (.int (nI (at_))), some (.int (ag (pc))), some (.int (nI ((((at_) + (7)) + (h)) - (1))))] [] (σ) (.inl (some (.int (bi (isI t1 && isI t0))))) (σ)
  refine jr_aload_n d_Ck_typesFit_25 rfl ?_
  refine jr_getf d_Ck_typesFit_26 f_Ck_typesFit_22 hM rfl ?_
  refine jr_iload_n d_Ck_typesFit_29 rfl ?_
  refine jr_ialdQ (v := (nI (3))) d_Ck_typesFit_30 g1 (by omega) (by omega) (congrArg nI ho) ?_
  refine jr_tableIn (off := 130) 161 d_Ck_typesFit_31 (by decide +kernel) (by decide +kernel) (by decide +kernel) (by decide) ?_
  refine jr_aload_n d_Ck_typesFit_161 rfl ?_
  refine jr_iload d_Ck_typesFit_162 rfl ?_
  refine jr_iconst ((nI (1))) d_Ck_typesFit_164 (by decide) ?_
  refine jr_isubN d_Ck_typesFit_165 (by omega) ?_
  refine jr_ialdQ (v := (en t1)) d_Ck_typesFit_166 hR (by omega) (by omega) ((congrArg (fun j => en (ty j)) (show ((((at_) + (7)) + (h)) - (1)) - (1) = at_ + (6 + h - 1) by omega)).trans (congrArg en e1)) ?_
  refine jr_if_ne 181 d_Ck_typesFit_167 (by decide) (fun c1 => ?_) (fun c1 => ?_)
  · refine jr_iconst ((nI (0))) d_Ck_typesFit_181 (by decide) ?_
    exact jr_zretE d_Ck_typesFit_182 rfl (by decide) (bo0 (by first | (simp [isO, isI_n (by assumption) c1]; done) | (simp [isO, isI_n (by assumption) c1]; omega))) (rfl) (by decide) (by decide)
  · refine jr_aload_n d_Ck_typesFit_170 rfl ?_
    refine jr_iload d_Ck_typesFit_171 rfl ?_
    refine jr_ialdQ (v := (en t0)) d_Ck_typesFit_173 hR (by omega) (by omega) ((congrArg (fun j => en (ty j)) (show (((at_) + (7)) + (h)) - (1) = at_ + (6 + h - 0) by omega)).trans (congrArg en e0)) ?_
    refine jr_if_ne 181 d_Ck_typesFit_174 (by decide) (fun c2 => ?_) (fun c2 => ?_)
    · refine jr_iconst ((nI (0))) d_Ck_typesFit_181 (by decide) ?_
      exact jr_zretE d_Ck_typesFit_182 rfl (by decide) (bo0 (by first | (simp [isO, isI_y (by assumption) c1, isI_n (by assumption) c2]; done) | (simp [isO, isI_y (by assumption) c1, isI_n (by assumption) c2]; omega))) (rfl) (by decide) (by decide)
    · refine jr_iconst ((nI (1))) d_Ck_typesFit_177 (by decide) ?_
      refine jr_goto 182 d_Ck_typesFit_178 (by decide) ?_
      exact jr_zretE d_Ck_typesFit_182 rfl (by decide) (bo1 (by first | (simp [isO, isI_y (by assumption) c1, isI_y (by assumption) c2]; done) | (simp [isO, isI_y (by assumption) c1, isI_y (by assumption) c2]; omega))) (rfl) (by decide) (by decide)
theorem ck_ty_4 (hl : l.stackTraces = false) {pc at_ h : Nat} (hc : CkAt σ) (hw : WoAt σ tb pr ow fi ft mt) (hm : MeAt σ a q1 q2 rs op ag sz fr tt tg kd nc mp fh) (hok : WoOk tb pr ow fi) (hsg : SgC σ tb pr mt sg) (hR : σ[rr]? = some (.inl (0, N, .inl fun j => en (ty j)))) (hN : N ≤ 144) (hty : ∀ j, ob 16 (ty j)) (hop : op pc < 26) (hpc : pc < 24) (hat : at_ + 12 ≤ N) (hh : ty (at_ + 6) = some h) (hh5 : h ≤ 5) (ho : op pc = 4) {t0 : Option Nat} (e0 : ty (at_ + (6 + h - 0)) = t0) (hb0 : 1 ≤ h) {t1 : Option Nat} (e1 : ty (at_ + (6 + h - 1)) = t1) (hb1 : 2 ≤ h) : jl_m l G m_Ck_typesFit [.ref 8, .ref a, .int (nI pc), .ref rr, .int (nI (at_))] σ (.inl (some (.int (bi (isI t1 && isI t0))))) (σ) := by
  obtain ⟨hW, h2, h3, h4, h5, h6, h7⟩ := id hw
  obtain ⟨hM, g1, g2, g3, g4, g5, g6, g7, g8⟩ := id hm
  have ht0 : ob 16 t0 := e0 ▸ hty _
  have ht1 : ob 16 t1 := e1 ▸ hty _
  refine jl_of (as := [.ref 8, .ref a, .int (nI pc), .ref rr, .int (nI (at_))]) rfl (by decide) hl (jl_cc rfl (jl_cc rfl (jl_cc rfl (jl_cc rfl (jl_cc rfl jl_ca))))) (Nat.le_of_ble_eq_true rfl) ?_
  show jl_W l G m_Ck_typesFit (0, 0) 0 [some (.ref 8), some (.ref a), some (.int (nI pc)), some (.ref rr), some (.int (nI (at_))), none, none] [] (σ) (.inl (some (.int (bi (isI t1 && isI t0))))) (σ)
  refine jr_aload_n d_Ck_typesFit_0 rfl ?_
  refine jr_getf d_Ck_typesFit_1 f_Ck_typesFit_28 hM rfl ?_
  refine jr_iload_n d_Ck_typesFit_4 rfl ?_
  refine jr_ialdN d_Ck_typesFit_5 g2 (by omega) (by omega) ?_
  refine jr_istore d_Ck_typesFit_6 (by decide) ?_
  show jl_W l G m_Ck_typesFit (0, 0) 8 [some (.ref 8), some (.ref a), some (.int (nI pc)), some (.ref rr), some (.int (nI (at_))), some (.int (ag (pc))), none] [] (σ) (.inl (some (.int (bi (isI t1 && isI t0))))) (σ)
  refine jr_iload d_Ck_typesFit_8 rfl ?_
  refine jr_bipush ((nI (7))) d_Ck_typesFit_10 (by decide) ?_
  refine jr_iaddN d_Ck_typesFit_12 ?_
  refine jr_aload_n d_Ck_typesFit_13 rfl ?_
  refine jr_iload d_Ck_typesFit_14 rfl ?_
  refine jr_bipush ((nI (6))) d_Ck_typesFit_16 (by decide) ?_
  refine jr_iaddN d_Ck_typesFit_18 ?_
  refine jr_ialdQ (v := (nI (h))) d_Ck_typesFit_19 hR (by omega) (by omega) (congrArg en hh) ?_
  refine jr_iaddN d_Ck_typesFit_20 ?_
  refine jr_iconst ((nI (1))) d_Ck_typesFit_21 (by decide) ?_
  refine jr_isubN d_Ck_typesFit_22 (by omega) ?_
  refine jr_istore d_Ck_typesFit_23 (by decide) ?_
  show jl_W l G m_Ck_typesFit (0, 0) 25 [some (.ref 8), some (.ref a), some (.int (nI pc)), some (.ref rr), some (.int (nI (at_))), some (.int (ag (pc))), some (.int (nI ((((at_) + (7)) + (h)) - (1))))] [] (σ) (.inl (some (.int (bi (isI t1 && isI t0))))) (σ)
  refine jr_aload_n d_Ck_typesFit_25 rfl ?_
  refine jr_getf d_Ck_typesFit_26 f_Ck_typesFit_22 hM rfl ?_
  refine jr_iload_n d_Ck_typesFit_29 rfl ?_
  refine jr_ialdQ (v := (nI (4))) d_Ck_typesFit_30 g1 (by omega) (by omega) (congrArg nI ho) ?_
  refine jr_tableIn (off := 130) 161 d_Ck_typesFit_31 (by decide +kernel) (by decide +kernel) (by decide +kernel) (by decide) ?_
  refine jr_aload_n d_Ck_typesFit_161 rfl ?_
  refine jr_iload d_Ck_typesFit_162 rfl ?_
  refine jr_iconst ((nI (1))) d_Ck_typesFit_164 (by decide) ?_
  refine jr_isubN d_Ck_typesFit_165 (by omega) ?_
  refine jr_ialdQ (v := (en t1)) d_Ck_typesFit_166 hR (by omega) (by omega) ((congrArg (fun j => en (ty j)) (show ((((at_) + (7)) + (h)) - (1)) - (1) = at_ + (6 + h - 1) by omega)).trans (congrArg en e1)) ?_
  refine jr_if_ne 181 d_Ck_typesFit_167 (by decide) (fun c1 => ?_) (fun c1 => ?_)
  · refine jr_iconst ((nI (0))) d_Ck_typesFit_181 (by decide) ?_
    exact jr_zretE d_Ck_typesFit_182 rfl (by decide) (bo0 (by first | (simp [isO, isI_n (by assumption) c1]; done) | (simp [isO, isI_n (by assumption) c1]; omega))) (rfl) (by decide) (by decide)
  · refine jr_aload_n d_Ck_typesFit_170 rfl ?_
    refine jr_iload d_Ck_typesFit_171 rfl ?_
    refine jr_ialdQ (v := (en t0)) d_Ck_typesFit_173 hR (by omega) (by omega) ((congrArg (fun j => en (ty j)) (show (((at_) + (7)) + (h)) - (1) = at_ + (6 + h - 0) by omega)).trans (congrArg en e0)) ?_
    refine jr_if_ne 181 d_Ck_typesFit_174 (by decide) (fun c2 => ?_) (fun c2 => ?_)
    · refine jr_iconst ((nI (0))) d_Ck_typesFit_181 (by decide) ?_
      exact jr_zretE d_Ck_typesFit_182 rfl (by decide) (bo0 (by first | (simp [isO, isI_y (by assumption) c1, isI_n (by assumption) c2]; done) | (simp [isO, isI_y (by assumption) c1, isI_n (by assumption) c2]; omega))) (rfl) (by decide) (by decide)
    · refine jr_iconst ((nI (1))) d_Ck_typesFit_177 (by decide) ?_
      refine jr_goto 182 d_Ck_typesFit_178 (by decide) ?_
      exact jr_zretE d_Ck_typesFit_182 rfl (by decide) (bo1 (by first | (simp [isO, isI_y (by assumption) c1, isI_y (by assumption) c2]; done) | (simp [isO, isI_y (by assumption) c1, isI_y (by assumption) c2]; omega))) (rfl) (by decide) (by decide)
theorem ck_ty_5 (hl : l.stackTraces = false) {pc at_ h : Nat} (hc : CkAt σ) (hw : WoAt σ tb pr ow fi ft mt) (hm : MeAt σ a q1 q2 rs op ag sz fr tt tg kd nc mp fh) (hok : WoOk tb pr ow fi) (hsg : SgC σ tb pr mt sg) (hR : σ[rr]? = some (.inl (0, N, .inl fun j => en (ty j)))) (hN : N ≤ 144) (hty : ∀ j, ob 16 (ty j)) (hop : op pc < 26) (hpc : pc < 24) (hat : at_ + 12 ≤ N) (hh : ty (at_ + 6) = some h) (hh5 : h ≤ 5) (ho : op pc = 5) {t0 : Option Nat} (e0 : ty (at_ + (6 + h - 0)) = t0) (hb0 : 1 ≤ h) {t1 : Option Nat} (e1 : ty (at_ + (6 + h - 1)) = t1) (hb1 : 2 ≤ h) : jl_m l G m_Ck_typesFit [.ref 8, .ref a, .int (nI pc), .ref rr, .int (nI (at_))] σ (.inl (some (.int (bi (isI t1 && isI t0))))) (σ) := by
  obtain ⟨hW, h2, h3, h4, h5, h6, h7⟩ := id hw
  obtain ⟨hM, g1, g2, g3, g4, g5, g6, g7, g8⟩ := id hm
  have ht0 : ob 16 t0 := e0 ▸ hty _
  have ht1 : ob 16 t1 := e1 ▸ hty _
  refine jl_of (as := [.ref 8, .ref a, .int (nI pc), .ref rr, .int (nI (at_))]) rfl (by decide) hl (jl_cc rfl (jl_cc rfl (jl_cc rfl (jl_cc rfl (jl_cc rfl jl_ca))))) (Nat.le_of_ble_eq_true rfl) ?_
  show jl_W l G m_Ck_typesFit (0, 0) 0 [some (.ref 8), some (.ref a), some (.int (nI pc)), some (.ref rr), some (.int (nI (at_))), none, none] [] (σ) (.inl (some (.int (bi (isI t1 && isI t0))))) (σ)
  refine jr_aload_n d_Ck_typesFit_0 rfl ?_
  refine jr_getf d_Ck_typesFit_1 f_Ck_typesFit_28 hM rfl ?_
  refine jr_iload_n d_Ck_typesFit_4 rfl ?_
  refine jr_ialdN d_Ck_typesFit_5 g2 (by omega) (by omega) ?_
  refine jr_istore d_Ck_typesFit_6 (by decide) ?_
  show jl_W l G m_Ck_typesFit (0, 0) 8 [some (.ref 8), some (.ref a), some (.int (nI pc)), some (.ref rr), some (.int (nI (at_))), some (.int (ag (pc))), none] [] (σ) (.inl (some (.int (bi (isI t1 && isI t0))))) (σ)
  refine jr_iload d_Ck_typesFit_8 rfl ?_
  refine jr_bipush ((nI (7))) d_Ck_typesFit_10 (by decide) ?_
  refine jr_iaddN d_Ck_typesFit_12 ?_
  refine jr_aload_n d_Ck_typesFit_13 rfl ?_
  refine jr_iload d_Ck_typesFit_14 rfl ?_
  refine jr_bipush ((nI (6))) d_Ck_typesFit_16 (by decide) ?_
  refine jr_iaddN d_Ck_typesFit_18 ?_
  refine jr_ialdQ (v := (nI (h))) d_Ck_typesFit_19 hR (by omega) (by omega) (congrArg en hh) ?_
  refine jr_iaddN d_Ck_typesFit_20 ?_
  refine jr_iconst ((nI (1))) d_Ck_typesFit_21 (by decide) ?_
  refine jr_isubN d_Ck_typesFit_22 (by omega) ?_
  refine jr_istore d_Ck_typesFit_23 (by decide) ?_
  show jl_W l G m_Ck_typesFit (0, 0) 25 [some (.ref 8), some (.ref a), some (.int (nI pc)), some (.ref rr), some (.int (nI (at_))), some (.int (ag (pc))), some (.int (nI ((((at_) + (7)) + (h)) - (1))))] [] (σ) (.inl (some (.int (bi (isI t1 && isI t0))))) (σ)
  refine jr_aload_n d_Ck_typesFit_25 rfl ?_
  refine jr_getf d_Ck_typesFit_26 f_Ck_typesFit_22 hM rfl ?_
  refine jr_iload_n d_Ck_typesFit_29 rfl ?_
  refine jr_ialdQ (v := (nI (5))) d_Ck_typesFit_30 g1 (by omega) (by omega) (congrArg nI ho) ?_
  refine jr_tableIn (off := 130) 161 d_Ck_typesFit_31 (by decide +kernel) (by decide +kernel) (by decide +kernel) (by decide) ?_
  refine jr_aload_n d_Ck_typesFit_161 rfl ?_
  refine jr_iload d_Ck_typesFit_162 rfl ?_
  refine jr_iconst ((nI (1))) d_Ck_typesFit_164 (by decide) ?_
  refine jr_isubN d_Ck_typesFit_165 (by omega) ?_
  refine jr_ialdQ (v := (en t1)) d_Ck_typesFit_166 hR (by omega) (by omega) ((congrArg (fun j => en (ty j)) (show ((((at_) + (7)) + (h)) - (1)) - (1) = at_ + (6 + h - 1) by omega)).trans (congrArg en e1)) ?_
  refine jr_if_ne 181 d_Ck_typesFit_167 (by decide) (fun c1 => ?_) (fun c1 => ?_)
  · refine jr_iconst ((nI (0))) d_Ck_typesFit_181 (by decide) ?_
    exact jr_zretE d_Ck_typesFit_182 rfl (by decide) (bo0 (by first | (simp [isO, isI_n (by assumption) c1]; done) | (simp [isO, isI_n (by assumption) c1]; omega))) (rfl) (by decide) (by decide)
  · refine jr_aload_n d_Ck_typesFit_170 rfl ?_
    refine jr_iload d_Ck_typesFit_171 rfl ?_
    refine jr_ialdQ (v := (en t0)) d_Ck_typesFit_173 hR (by omega) (by omega) ((congrArg (fun j => en (ty j)) (show (((at_) + (7)) + (h)) - (1) = at_ + (6 + h - 0) by omega)).trans (congrArg en e0)) ?_
    refine jr_if_ne 181 d_Ck_typesFit_174 (by decide) (fun c2 => ?_) (fun c2 => ?_)
    · refine jr_iconst ((nI (0))) d_Ck_typesFit_181 (by decide) ?_
      exact jr_zretE d_Ck_typesFit_182 rfl (by decide) (bo0 (by first | (simp [isO, isI_y (by assumption) c1, isI_n (by assumption) c2]; done) | (simp [isO, isI_y (by assumption) c1, isI_n (by assumption) c2]; omega))) (rfl) (by decide) (by decide)
    · refine jr_iconst ((nI (1))) d_Ck_typesFit_177 (by decide) ?_
      refine jr_goto 182 d_Ck_typesFit_178 (by decide) ?_
      exact jr_zretE d_Ck_typesFit_182 rfl (by decide) (bo1 (by first | (simp [isO, isI_y (by assumption) c1, isI_y (by assumption) c2]; done) | (simp [isO, isI_y (by assumption) c1, isI_y (by assumption) c2]; omega))) (rfl) (by decide) (by decide)
theorem ck_ty_6 (hl : l.stackTraces = false) {pc at_ h : Nat} (hc : CkAt σ) (hw : WoAt σ tb pr ow fi ft mt) (hm : MeAt σ a q1 q2 rs op ag sz fr tt tg kd nc mp fh) (hok : WoOk tb pr ow fi) (hsg : SgC σ tb pr mt sg) (hR : σ[rr]? = some (.inl (0, N, .inl fun j => en (ty j)))) (hN : N ≤ 144) (hty : ∀ j, ob 16 (ty j)) (hop : op pc < 26) (hpc : pc < 24) (hat : at_ + 12 ≤ N) (hh : ty (at_ + 6) = some h) (hh5 : h ≤ 5) (ho : op pc = 6) {t0 : Option Nat} (e0 : ty (at_ + (6 + h - 0)) = t0) (hb0 : 1 ≤ h) {t1 : Option Nat} (e1 : ty (at_ + (6 + h - 1)) = t1) (hb1 : 2 ≤ h) : jl_m l G m_Ck_typesFit [.ref 8, .ref a, .int (nI pc), .ref rr, .int (nI (at_))] σ (.inl (some (.int (bi (isI t1 && isI t0))))) (σ) := by
  obtain ⟨hW, h2, h3, h4, h5, h6, h7⟩ := id hw
  obtain ⟨hM, g1, g2, g3, g4, g5, g6, g7, g8⟩ := id hm
  have ht0 : ob 16 t0 := e0 ▸ hty _
  have ht1 : ob 16 t1 := e1 ▸ hty _
  refine jl_of (as := [.ref 8, .ref a, .int (nI pc), .ref rr, .int (nI (at_))]) rfl (by decide) hl (jl_cc rfl (jl_cc rfl (jl_cc rfl (jl_cc rfl (jl_cc rfl jl_ca))))) (Nat.le_of_ble_eq_true rfl) ?_
  show jl_W l G m_Ck_typesFit (0, 0) 0 [some (.ref 8), some (.ref a), some (.int (nI pc)), some (.ref rr), some (.int (nI (at_))), none, none] [] (σ) (.inl (some (.int (bi (isI t1 && isI t0))))) (σ)
  refine jr_aload_n d_Ck_typesFit_0 rfl ?_
  refine jr_getf d_Ck_typesFit_1 f_Ck_typesFit_28 hM rfl ?_
  refine jr_iload_n d_Ck_typesFit_4 rfl ?_
  refine jr_ialdN d_Ck_typesFit_5 g2 (by omega) (by omega) ?_
  refine jr_istore d_Ck_typesFit_6 (by decide) ?_
  show jl_W l G m_Ck_typesFit (0, 0) 8 [some (.ref 8), some (.ref a), some (.int (nI pc)), some (.ref rr), some (.int (nI (at_))), some (.int (ag (pc))), none] [] (σ) (.inl (some (.int (bi (isI t1 && isI t0))))) (σ)
  refine jr_iload d_Ck_typesFit_8 rfl ?_
  refine jr_bipush ((nI (7))) d_Ck_typesFit_10 (by decide) ?_
  refine jr_iaddN d_Ck_typesFit_12 ?_
  refine jr_aload_n d_Ck_typesFit_13 rfl ?_
  refine jr_iload d_Ck_typesFit_14 rfl ?_
  refine jr_bipush ((nI (6))) d_Ck_typesFit_16 (by decide) ?_
  refine jr_iaddN d_Ck_typesFit_18 ?_
  refine jr_ialdQ (v := (nI (h))) d_Ck_typesFit_19 hR (by omega) (by omega) (congrArg en hh) ?_
  refine jr_iaddN d_Ck_typesFit_20 ?_
  refine jr_iconst ((nI (1))) d_Ck_typesFit_21 (by decide) ?_
  refine jr_isubN d_Ck_typesFit_22 (by omega) ?_
  refine jr_istore d_Ck_typesFit_23 (by decide) ?_
  show jl_W l G m_Ck_typesFit (0, 0) 25 [some (.ref 8), some (.ref a), some (.int (nI pc)), some (.ref rr), some (.int (nI (at_))), some (.int (ag (pc))), some (.int (nI ((((at_) + (7)) + (h)) - (1))))] [] (σ) (.inl (some (.int (bi (isI t1 && isI t0))))) (σ)
  refine jr_aload_n d_Ck_typesFit_25 rfl ?_
  refine jr_getf d_Ck_typesFit_26 f_Ck_typesFit_22 hM rfl ?_
  refine jr_iload_n d_Ck_typesFit_29 rfl ?_
  refine jr_ialdQ (v := (nI (6))) d_Ck_typesFit_30 g1 (by omega) (by omega) (congrArg nI ho) ?_
  refine jr_tableIn (off := 130) 161 d_Ck_typesFit_31 (by decide +kernel) (by decide +kernel) (by decide +kernel) (by decide) ?_
  refine jr_aload_n d_Ck_typesFit_161 rfl ?_
  refine jr_iload d_Ck_typesFit_162 rfl ?_
  refine jr_iconst ((nI (1))) d_Ck_typesFit_164 (by decide) ?_
  refine jr_isubN d_Ck_typesFit_165 (by omega) ?_
  refine jr_ialdQ (v := (en t1)) d_Ck_typesFit_166 hR (by omega) (by omega) ((congrArg (fun j => en (ty j)) (show ((((at_) + (7)) + (h)) - (1)) - (1) = at_ + (6 + h - 1) by omega)).trans (congrArg en e1)) ?_
  refine jr_if_ne 181 d_Ck_typesFit_167 (by decide) (fun c1 => ?_) (fun c1 => ?_)
  · refine jr_iconst ((nI (0))) d_Ck_typesFit_181 (by decide) ?_
    exact jr_zretE d_Ck_typesFit_182 rfl (by decide) (bo0 (by first | (simp [isO, isI_n (by assumption) c1]; done) | (simp [isO, isI_n (by assumption) c1]; omega))) (rfl) (by decide) (by decide)
  · refine jr_aload_n d_Ck_typesFit_170 rfl ?_
    refine jr_iload d_Ck_typesFit_171 rfl ?_
    refine jr_ialdQ (v := (en t0)) d_Ck_typesFit_173 hR (by omega) (by omega) ((congrArg (fun j => en (ty j)) (show (((at_) + (7)) + (h)) - (1) = at_ + (6 + h - 0) by omega)).trans (congrArg en e0)) ?_
    refine jr_if_ne 181 d_Ck_typesFit_174 (by decide) (fun c2 => ?_) (fun c2 => ?_)
    · refine jr_iconst ((nI (0))) d_Ck_typesFit_181 (by decide) ?_
      exact jr_zretE d_Ck_typesFit_182 rfl (by decide) (bo0 (by first | (simp [isO, isI_y (by assumption) c1, isI_n (by assumption) c2]; done) | (simp [isO, isI_y (by assumption) c1, isI_n (by assumption) c2]; omega))) (rfl) (by decide) (by decide)
    · refine jr_iconst ((nI (1))) d_Ck_typesFit_177 (by decide) ?_
      refine jr_goto 182 d_Ck_typesFit_178 (by decide) ?_
      exact jr_zretE d_Ck_typesFit_182 rfl (by decide) (bo1 (by first | (simp [isO, isI_y (by assumption) c1, isI_y (by assumption) c2]; done) | (simp [isO, isI_y (by assumption) c1, isI_y (by assumption) c2]; omega))) (rfl) (by decide) (by decide)
theorem ck_ty_7 (hl : l.stackTraces = false) {pc at_ h : Nat} (hc : CkAt σ) (hw : WoAt σ tb pr ow fi ft mt) (hm : MeAt σ a q1 q2 rs op ag sz fr tt tg kd nc mp fh) (hok : WoOk tb pr ow fi) (hsg : SgC σ tb pr mt sg) (hR : σ[rr]? = some (.inl (0, N, .inl fun j => en (ty j)))) (hN : N ≤ 144) (hty : ∀ j, ob 16 (ty j)) (hop : op pc < 26) (hpc : pc < 24) (hat : at_ + 12 ≤ N) (hh : ty (at_ + 6) = some h) (hh5 : h ≤ 5) (ho : op pc = 7) : jl_m l G m_Ck_typesFit [.ref 8, .ref a, .int (nI pc), .ref rr, .int (nI (at_))] σ (.inl (some (.int (bi (true))))) (σ) := by
  obtain ⟨hW, h2, h3, h4, h5, h6, h7⟩ := id hw
  obtain ⟨hM, g1, g2, g3, g4, g5, g6, g7, g8⟩ := id hm
  refine jl_of (as := [.ref 8, .ref a, .int (nI pc), .ref rr, .int (nI (at_))]) rfl (by decide) hl (jl_cc rfl (jl_cc rfl (jl_cc rfl (jl_cc rfl (jl_cc rfl jl_ca))))) (Nat.le_of_ble_eq_true rfl) ?_
  show jl_W l G m_Ck_typesFit (0, 0) 0 [some (.ref 8), some (.ref a), some (.int (nI pc)), some (.ref rr), some (.int (nI (at_))), none, none] [] (σ) (.inl (some (.int (bi (true))))) (σ)
  refine jr_aload_n d_Ck_typesFit_0 rfl ?_
  refine jr_getf d_Ck_typesFit_1 f_Ck_typesFit_28 hM rfl ?_
  refine jr_iload_n d_Ck_typesFit_4 rfl ?_
  refine jr_ialdN d_Ck_typesFit_5 g2 (by omega) (by omega) ?_
  refine jr_istore d_Ck_typesFit_6 (by decide) ?_
  show jl_W l G m_Ck_typesFit (0, 0) 8 [some (.ref 8), some (.ref a), some (.int (nI pc)), some (.ref rr), some (.int (nI (at_))), some (.int (ag (pc))), none] [] (σ) (.inl (some (.int (bi (true))))) (σ)
  refine jr_iload d_Ck_typesFit_8 rfl ?_
  refine jr_bipush ((nI (7))) d_Ck_typesFit_10 (by decide) ?_
  refine jr_iaddN d_Ck_typesFit_12 ?_
  refine jr_aload_n d_Ck_typesFit_13 rfl ?_
  refine jr_iload d_Ck_typesFit_14 rfl ?_
  refine jr_bipush ((nI (6))) d_Ck_typesFit_16 (by decide) ?_
  refine jr_iaddN d_Ck_typesFit_18 ?_
  refine jr_ialdQ (v := (nI (h))) d_Ck_typesFit_19 hR (by omega) (by omega) (congrArg en hh) ?_
  refine jr_iaddN d_Ck_typesFit_20 ?_
  refine jr_iconst ((nI (1))) d_Ck_typesFit_21 (by decide) ?_
  refine jr_isubN d_Ck_typesFit_22 (by omega) ?_
  refine jr_istore d_Ck_typesFit_23 (by decide) ?_
  show jl_W l G m_Ck_typesFit (0, 0) 25 [some (.ref 8), some (.ref a), some (.int (nI pc)), some (.ref rr), some (.int (nI (at_))), some (.int (ag (pc))), some (.int (nI ((((at_) + (7)) + (h)) - (1))))] [] (σ) (.inl (some (.int (bi (true))))) (σ)
  refine jr_aload_n d_Ck_typesFit_25 rfl ?_
  refine jr_getf d_Ck_typesFit_26 f_Ck_typesFit_22 hM rfl ?_
  refine jr_iload_n d_Ck_typesFit_29 rfl ?_
  refine jr_ialdQ (v := (nI (7))) d_Ck_typesFit_30 g1 (by omega) (by omega) (congrArg nI ho) ?_
  refine jr_tableIn (off := 412) 443 d_Ck_typesFit_31 (by decide +kernel) (by decide +kernel) (by decide +kernel) (by decide) ?_
  refine jr_iconst ((nI (1))) d_Ck_typesFit_443 (by decide) ?_
  exact jr_zretE d_Ck_typesFit_444 rfl (by decide) (bo1 (by first | (simp [isO]; done) | (simp [isO]; omega))) (rfl) (by decide) (by decide)
theorem d_Ck_typesFit_183 : decode m_Ck_typesFit.2.1 183 = .ok (.aload_n 3, 1) := by decide +kernel
theorem d_Ck_typesFit_184 : decode m_Ck_typesFit.2.1 184 = .ok (.iload 6, 2) := by decide +kernel
theorem d_Ck_typesFit_186 : decode m_Ck_typesFit.2.1 186 = .ok (.iaload, 1) := by decide +kernel
theorem d_Ck_typesFit_187 : decode m_Ck_typesFit.2.1 187 = .ok (.ifCond .ne 7, 3) := by decide +kernel
theorem d_Ck_typesFit_194 : decode m_Ck_typesFit.2.1 194 = .ok (.iconst 0, 1) := by decide +kernel
theorem d_Ck_typesFit_195 : decode m_Ck_typesFit.2.1 195 = .ok (.ireturn, 1) := by decide +kernel
theorem d_Ck_typesFit_190 : decode m_Ck_typesFit.2.1 190 = .ok (.iconst 1, 1) := by decide +kernel
theorem d_Ck_typesFit_191 : decode m_Ck_typesFit.2.1 191 = .ok (.goto 4, 3) := by decide +kernel
theorem ck_ty_8 (hl : l.stackTraces = false) {pc at_ h : Nat} (hc : CkAt σ) (hw : WoAt σ tb pr ow fi ft mt) (hm : MeAt σ a q1 q2 rs op ag sz fr tt tg kd nc mp fh) (hok : WoOk tb pr ow fi) (hsg : SgC σ tb pr mt sg) (hR : σ[rr]? = some (.inl (0, N, .inl fun j => en (ty j)))) (hN : N ≤ 144) (hty : ∀ j, ob 16 (ty j)) (hop : op pc < 26) (hpc : pc < 24) (hat : at_ + 12 ≤ N) (hh : ty (at_ + 6) = some h) (hh5 : h ≤ 5) (ho : op pc = 8) {t0 : Option Nat} (e0 : ty (at_ + (6 + h - 0)) = t0) (hb0 : 1 ≤ h) : jl_m l G m_Ck_typesFit [.ref 8, .ref a, .int (nI pc), .ref rr, .int (nI (at_))] σ (.inl (some (.int (bi (isI t0))))) (σ) := by
  obtain ⟨hW, h2, h3, h4, h5, h6, h7⟩ := id hw
  obtain ⟨hM, g1, g2, g3, g4, g5, g6, g7, g8⟩ := id hm
  have ht0 : ob 16 t0 := e0 ▸ hty _
  refine jl_of (as := [.ref 8, .ref a, .int (nI pc), .ref rr, .int (nI (at_))]) rfl (by decide) hl (jl_cc rfl (jl_cc rfl (jl_cc rfl (jl_cc rfl (jl_cc rfl jl_ca))))) (Nat.le_of_ble_eq_true rfl) ?_
  show jl_W l G m_Ck_typesFit (0, 0) 0 [some (.ref 8), some (.ref a), some (.int (nI pc)), some (.ref rr), some (.int (nI (at_))), none, none] [] (σ) (.inl (some (.int (bi (isI t0))))) (σ)
  refine jr_aload_n d_Ck_typesFit_0 rfl ?_
  refine jr_getf d_Ck_typesFit_1 f_Ck_typesFit_28 hM rfl ?_
  refine jr_iload_n d_Ck_typesFit_4 rfl ?_
  refine jr_ialdN d_Ck_typesFit_5 g2 (by omega) (by omega) ?_
  refine jr_istore d_Ck_typesFit_6 (by decide) ?_
  show jl_W l G m_Ck_typesFit (0, 0) 8 [some (.ref 8), some (.ref a), some (.int (nI pc)), some (.ref rr), some (.int (nI (at_))), some (.int (ag (pc))), none] [] (σ) (.inl (some (.int (bi (isI t0))))) (σ)
  refine jr_iload d_Ck_typesFit_8 rfl ?_
  refine jr_bipush ((nI (7))) d_Ck_typesFit_10 (by decide) ?_
  refine jr_iaddN d_Ck_typesFit_12 ?_
  refine jr_aload_n d_Ck_typesFit_13 rfl ?_
  refine jr_iload d_Ck_typesFit_14 rfl ?_
  refine jr_bipush ((nI (6))) d_Ck_typesFit_16 (by decide) ?_
  refine jr_iaddN d_Ck_typesFit_18 ?_
  refine jr_ialdQ (v := (nI (h))) d_Ck_typesFit_19 hR (by omega) (by omega) (congrArg en hh) ?_
  refine jr_iaddN d_Ck_typesFit_20 ?_
  refine jr_iconst ((nI (1))) d_Ck_typesFit_21 (by decide) ?_
  refine jr_isubN d_Ck_typesFit_22 (by omega) ?_
  refine jr_istore d_Ck_typesFit_23 (by decide) ?_
  show jl_W l G m_Ck_typesFit (0, 0) 25 [some (.ref 8), some (.ref a), some (.int (nI pc)), some (.ref rr), some (.int (nI (at_))), some (.int (ag (pc))), some (.int (nI ((((at_) + (7)) + (h)) - (1))))] [] (σ) (.inl (some (.int (bi (isI t0))))) (σ)
  refine jr_aload_n d_Ck_typesFit_25 rfl ?_
  refine jr_getf d_Ck_typesFit_26 f_Ck_typesFit_22 hM rfl ?_
  refine jr_iload_n d_Ck_typesFit_29 rfl ?_
  refine jr_ialdQ (v := (nI (8))) d_Ck_typesFit_30 g1 (by omega) (by omega) (congrArg nI ho) ?_
  refine jr_tableIn (off := 152) 183 d_Ck_typesFit_31 (by decide +kernel) (by decide +kernel) (by decide +kernel) (by decide) ?_
  refine jr_aload_n d_Ck_typesFit_183 rfl ?_
  refine jr_iload d_Ck_typesFit_184 rfl ?_
  refine jr_ialdQ (v := (en t0)) d_Ck_typesFit_186 hR (by omega) (by omega) ((congrArg (fun j => en (ty j)) (show (((at_) + (7)) + (h)) - (1) = at_ + (6 + h - 0) by omega)).trans (congrArg en e0)) ?_
  refine jr_if_ne 194 d_Ck_typesFit_187 (by decide) (fun c1 => ?_) (fun c1 => ?_)
  · refine jr_iconst ((nI (0))) d_Ck_typesFit_194 (by decide) ?_
    exact jr_zretE d_Ck_typesFit_195 rfl (by decide) (bo0 (by first | (simp [isO, isI_n (by assumption) c1]; done) | (simp [isO, isI_n (by assumption) c1]; omega))) (rfl) (by decide) (by decide)
  · refine jr_iconst ((nI (1))) d_Ck_typesFit_190 (by decide) ?_
    refine jr_goto 195 d_Ck_typesFit_191 (by decide) ?_
    exact jr_zretE d_Ck_typesFit_195 rfl (by decide) (bo1 (by first | (simp [isO, isI_y (by assumption) c1]; done) | (simp [isO, isI_y (by assumption) c1]; omega))) (rfl) (by decide) (by decide)
theorem ck_ty_9 (hl : l.stackTraces = false) {pc at_ h : Nat} (hc : CkAt σ) (hw : WoAt σ tb pr ow fi ft mt) (hm : MeAt σ a q1 q2 rs op ag sz fr tt tg kd nc mp fh) (hok : WoOk tb pr ow fi) (hsg : SgC σ tb pr mt sg) (hR : σ[rr]? = some (.inl (0, N, .inl fun j => en (ty j)))) (hN : N ≤ 144) (hty : ∀ j, ob 16 (ty j)) (hop : op pc < 26) (hpc : pc < 24) (hat : at_ + 12 ≤ N) (hh : ty (at_ + 6) = some h) (hh5 : h ≤ 5) (ho : op pc = 9) {t0 : Option Nat} (e0 : ty (at_ + (6 + h - 0)) = t0) (hb0 : 1 ≤ h) {t1 : Option Nat} (e1 : ty (at_ + (6 + h - 1)) = t1) (hb1 : 2 ≤ h) : jl_m l G m_Ck_typesFit [.ref 8, .ref a, .int (nI pc), .ref rr, .int (nI (at_))] σ (.inl (some (.int (bi (isI t1 && isI t0))))) (σ) := by
  obtain ⟨hW, h2, h3, h4, h5, h6, h7⟩ := id hw
  obtain ⟨hM, g1, g2, g3, g4, g5, g6, g7, g8⟩ := id hm
  have ht0 : ob 16 t0 := e0 ▸ hty _
  have ht1 : ob 16 t1 := e1 ▸ hty _
  refine jl_of (as := [.ref 8, .ref a, .int (nI pc), .ref rr, .int (nI (at_))]) rfl (by decide) hl (jl_cc rfl (jl_cc rfl (jl_cc rfl (jl_cc rfl (jl_cc rfl jl_ca))))) (Nat.le_of_ble_eq_true rfl) ?_
  show jl_W l G m_Ck_typesFit (0, 0) 0 [some (.ref 8), some (.ref a), some (.int (nI pc)), some (.ref rr), some (.int (nI (at_))), none, none] [] (σ) (.inl (some (.int (bi (isI t1 && isI t0))))) (σ)
  refine jr_aload_n d_Ck_typesFit_0 rfl ?_
  refine jr_getf d_Ck_typesFit_1 f_Ck_typesFit_28 hM rfl ?_
  refine jr_iload_n d_Ck_typesFit_4 rfl ?_
  refine jr_ialdN d_Ck_typesFit_5 g2 (by omega) (by omega) ?_
  refine jr_istore d_Ck_typesFit_6 (by decide) ?_
  show jl_W l G m_Ck_typesFit (0, 0) 8 [some (.ref 8), some (.ref a), some (.int (nI pc)), some (.ref rr), some (.int (nI (at_))), some (.int (ag (pc))), none] [] (σ) (.inl (some (.int (bi (isI t1 && isI t0))))) (σ)
  refine jr_iload d_Ck_typesFit_8 rfl ?_
  refine jr_bipush ((nI (7))) d_Ck_typesFit_10 (by decide) ?_
  refine jr_iaddN d_Ck_typesFit_12 ?_
  refine jr_aload_n d_Ck_typesFit_13 rfl ?_
  refine jr_iload d_Ck_typesFit_14 rfl ?_
  refine jr_bipush ((nI (6))) d_Ck_typesFit_16 (by decide) ?_
  refine jr_iaddN d_Ck_typesFit_18 ?_
  refine jr_ialdQ (v := (nI (h))) d_Ck_typesFit_19 hR (by omega) (by omega) (congrArg en hh) ?_
  refine jr_iaddN d_Ck_typesFit_20 ?_
  refine jr_iconst ((nI (1))) d_Ck_typesFit_21 (by decide) ?_
  refine jr_isubN d_Ck_typesFit_22 (by omega) ?_
  refine jr_istore d_Ck_typesFit_23 (by decide) ?_
  show jl_W l G m_Ck_typesFit (0, 0) 25 [some (.ref 8), some (.ref a), some (.int (nI pc)), some (.ref rr), some (.int (nI (at_))), some (.int (ag (pc))), some (.int (nI ((((at_) + (7)) + (h)) - (1))))] [] (σ) (.inl (some (.int (bi (isI t1 && isI t0))))) (σ)
  refine jr_aload_n d_Ck_typesFit_25 rfl ?_
  refine jr_getf d_Ck_typesFit_26 f_Ck_typesFit_22 hM rfl ?_
  refine jr_iload_n d_Ck_typesFit_29 rfl ?_
  refine jr_ialdQ (v := (nI (9))) d_Ck_typesFit_30 g1 (by omega) (by omega) (congrArg nI ho) ?_
  refine jr_tableIn (off := 130) 161 d_Ck_typesFit_31 (by decide +kernel) (by decide +kernel) (by decide +kernel) (by decide) ?_
  refine jr_aload_n d_Ck_typesFit_161 rfl ?_
  refine jr_iload d_Ck_typesFit_162 rfl ?_
  refine jr_iconst ((nI (1))) d_Ck_typesFit_164 (by decide) ?_
  refine jr_isubN d_Ck_typesFit_165 (by omega) ?_
  refine jr_ialdQ (v := (en t1)) d_Ck_typesFit_166 hR (by omega) (by omega) ((congrArg (fun j => en (ty j)) (show ((((at_) + (7)) + (h)) - (1)) - (1) = at_ + (6 + h - 1) by omega)).trans (congrArg en e1)) ?_
  refine jr_if_ne 181 d_Ck_typesFit_167 (by decide) (fun c1 => ?_) (fun c1 => ?_)
  · refine jr_iconst ((nI (0))) d_Ck_typesFit_181 (by decide) ?_
    exact jr_zretE d_Ck_typesFit_182 rfl (by decide) (bo0 (by first | (simp [isO, isI_n (by assumption) c1]; done) | (simp [isO, isI_n (by assumption) c1]; omega))) (rfl) (by decide) (by decide)
  · refine jr_aload_n d_Ck_typesFit_170 rfl ?_
    refine jr_iload d_Ck_typesFit_171 rfl ?_
    refine jr_ialdQ (v := (en t0)) d_Ck_typesFit_173 hR (by omega) (by omega) ((congrArg (fun j => en (ty j)) (show (((at_) + (7)) + (h)) - (1) = at_ + (6 + h - 0) by omega)).trans (congrArg en e0)) ?_
    refine jr_if_ne 181 d_Ck_typesFit_174 (by decide) (fun c2 => ?_) (fun c2 => ?_)
    · refine jr_iconst ((nI (0))) d_Ck_typesFit_181 (by decide) ?_
      exact jr_zretE d_Ck_typesFit_182 rfl (by decide) (bo0 (by first | (simp [isO, isI_y (by assumption) c1, isI_n (by assumption) c2]; done) | (simp [isO, isI_y (by assumption) c1, isI_n (by assumption) c2]; omega))) (rfl) (by decide) (by decide)
    · refine jr_iconst ((nI (1))) d_Ck_typesFit_177 (by decide) ?_
      refine jr_goto 182 d_Ck_typesFit_178 (by decide) ?_
      exact jr_zretE d_Ck_typesFit_182 rfl (by decide) (bo1 (by first | (simp [isO, isI_y (by assumption) c1, isI_y (by assumption) c2]; done) | (simp [isO, isI_y (by assumption) c1, isI_y (by assumption) c2]; omega))) (rfl) (by decide) (by decide)
theorem ck_ty_10 (hl : l.stackTraces = false) {pc at_ h : Nat} (hc : CkAt σ) (hw : WoAt σ tb pr ow fi ft mt) (hm : MeAt σ a q1 q2 rs op ag sz fr tt tg kd nc mp fh) (hok : WoOk tb pr ow fi) (hsg : SgC σ tb pr mt sg) (hR : σ[rr]? = some (.inl (0, N, .inl fun j => en (ty j)))) (hN : N ≤ 144) (hty : ∀ j, ob 16 (ty j)) (hop : op pc < 26) (hpc : pc < 24) (hat : at_ + 12 ≤ N) (hh : ty (at_ + 6) = some h) (hh5 : h ≤ 5) (ho : op pc = 10) : jl_m l G m_Ck_typesFit [.ref 8, .ref a, .int (nI pc), .ref rr, .int (nI (at_))] σ (.inl (some (.int (bi (true))))) (σ) := by
  obtain ⟨hW, h2, h3, h4, h5, h6, h7⟩ := id hw
  obtain ⟨hM, g1, g2, g3, g4, g5, g6, g7, g8⟩ := id hm
  refine jl_of (as := [.ref 8, .ref a, .int (nI pc), .ref rr, .int (nI (at_))]) rfl (by decide) hl (jl_cc rfl (jl_cc rfl (jl_cc rfl (jl_cc rfl (jl_cc rfl jl_ca))))) (Nat.le_of_ble_eq_true rfl) ?_
  show jl_W l G m_Ck_typesFit (0, 0) 0 [some (.ref 8), some (.ref a), some (.int (nI pc)), some (.ref rr), some (.int (nI (at_))), none, none] [] (σ) (.inl (some (.int (bi (true))))) (σ)
  refine jr_aload_n d_Ck_typesFit_0 rfl ?_
  refine jr_getf d_Ck_typesFit_1 f_Ck_typesFit_28 hM rfl ?_
  refine jr_iload_n d_Ck_typesFit_4 rfl ?_
  refine jr_ialdN d_Ck_typesFit_5 g2 (by omega) (by omega) ?_
  refine jr_istore d_Ck_typesFit_6 (by decide) ?_
  show jl_W l G m_Ck_typesFit (0, 0) 8 [some (.ref 8), some (.ref a), some (.int (nI pc)), some (.ref rr), some (.int (nI (at_))), some (.int (ag (pc))), none] [] (σ) (.inl (some (.int (bi (true))))) (σ)
  refine jr_iload d_Ck_typesFit_8 rfl ?_
  refine jr_bipush ((nI (7))) d_Ck_typesFit_10 (by decide) ?_
  refine jr_iaddN d_Ck_typesFit_12 ?_
  refine jr_aload_n d_Ck_typesFit_13 rfl ?_
  refine jr_iload d_Ck_typesFit_14 rfl ?_
  refine jr_bipush ((nI (6))) d_Ck_typesFit_16 (by decide) ?_
  refine jr_iaddN d_Ck_typesFit_18 ?_
  refine jr_ialdQ (v := (nI (h))) d_Ck_typesFit_19 hR (by omega) (by omega) (congrArg en hh) ?_
  refine jr_iaddN d_Ck_typesFit_20 ?_
  refine jr_iconst ((nI (1))) d_Ck_typesFit_21 (by decide) ?_
  refine jr_isubN d_Ck_typesFit_22 (by omega) ?_
  refine jr_istore d_Ck_typesFit_23 (by decide) ?_
  show jl_W l G m_Ck_typesFit (0, 0) 25 [some (.ref 8), some (.ref a), some (.int (nI pc)), some (.ref rr), some (.int (nI (at_))), some (.int (ag (pc))), some (.int (nI ((((at_) + (7)) + (h)) - (1))))] [] (σ) (.inl (some (.int (bi (true))))) (σ)
  refine jr_aload_n d_Ck_typesFit_25 rfl ?_
  refine jr_getf d_Ck_typesFit_26 f_Ck_typesFit_22 hM rfl ?_
  refine jr_iload_n d_Ck_typesFit_29 rfl ?_
  refine jr_ialdQ (v := (nI (10))) d_Ck_typesFit_30 g1 (by omega) (by omega) (congrArg nI ho) ?_
  refine jr_tableIn (off := 412) 443 d_Ck_typesFit_31 (by decide +kernel) (by decide +kernel) (by decide +kernel) (by decide) ?_
  refine jr_iconst ((nI (1))) d_Ck_typesFit_443 (by decide) ?_
  exact jr_zretE d_Ck_typesFit_444 rfl (by decide) (bo1 (by first | (simp [isO]; done) | (simp [isO]; omega))) (rfl) (by decide) (by decide)
theorem ck_ty_11 (hl : l.stackTraces = false) {pc at_ h : Nat} (hc : CkAt σ) (hw : WoAt σ tb pr ow fi ft mt) (hm : MeAt σ a q1 q2 rs op ag sz fr tt tg kd nc mp fh) (hok : WoOk tb pr ow fi) (hsg : SgC σ tb pr mt sg) (hR : σ[rr]? = some (.inl (0, N, .inl fun j => en (ty j)))) (hN : N ≤ 144) (hty : ∀ j, ob 16 (ty j)) (hop : op pc < 26) (hpc : pc < 24) (hat : at_ + 12 ≤ N) (hh : ty (at_ + 6) = some h) (hh5 : h ≤ 5) (ho : op pc = 11) : jl_m l G m_Ck_typesFit [.ref 8, .ref a, .int (nI pc), .ref rr, .int (nI (at_))] σ (.inl (some (.int (bi (true))))) (σ) := by
  obtain ⟨hW, h2, h3, h4, h5, h6, h7⟩ := id hw
  obtain ⟨hM, g1, g2, g3, g4, g5, g6, g7, g8⟩ := id hm
  refine jl_of (as := [.ref 8, .ref a, .int (nI pc), .ref rr, .int (nI (at_))]) rfl (by decide) hl (jl_cc rfl (jl_cc rfl (jl_cc rfl (jl_cc rfl (jl_cc rfl jl_ca))))) (Nat.le_of_ble_eq_true rfl) ?_
  show jl_W l G m_Ck_typesFit (0, 0) 0 [some (.ref 8), some (.ref a), some (.int (nI pc)), some (.ref rr), some (.int (nI (at_))), none, none] [] (σ) (.inl (some (.int (bi (true))))) (σ)
  refine jr_aload_n d_Ck_typesFit_0 rfl ?_
  refine jr_getf d_Ck_typesFit_1 f_Ck_typesFit_28 hM rfl ?_
  refine jr_iload_n d_Ck_typesFit_4 rfl ?_
  refine jr_ialdN d_Ck_typesFit_5 g2 (by omega) (by omega) ?_
  refine jr_istore d_Ck_typesFit_6 (by decide) ?_
  show jl_W l G m_Ck_typesFit (0, 0) 8 [some (.ref 8), some (.ref a), some (.int (nI pc)), some (.ref rr), some (.int (nI (at_))), some (.int (ag (pc))), none] [] (σ) (.inl (some (.int (bi (true))))) (σ)
  refine jr_iload d_Ck_typesFit_8 rfl ?_
  refine jr_bipush ((nI (7))) d_Ck_typesFit_10 (by decide) ?_
  refine jr_iaddN d_Ck_typesFit_12 ?_
  refine jr_aload_n d_Ck_typesFit_13 rfl ?_
  refine jr_iload d_Ck_typesFit_14 rfl ?_
  refine jr_bipush ((nI (6))) d_Ck_typesFit_16 (by decide) ?_
  refine jr_iaddN d_Ck_typesFit_18 ?_
  refine jr_ialdQ (v := (nI (h))) d_Ck_typesFit_19 hR (by omega) (by omega) (congrArg en hh) ?_
  refine jr_iaddN d_Ck_typesFit_20 ?_
  refine jr_iconst ((nI (1))) d_Ck_typesFit_21 (by decide) ?_
  refine jr_isubN d_Ck_typesFit_22 (by omega) ?_
  refine jr_istore d_Ck_typesFit_23 (by decide) ?_
  show jl_W l G m_Ck_typesFit (0, 0) 25 [some (.ref 8), some (.ref a), some (.int (nI pc)), some (.ref rr), some (.int (nI (at_))), some (.int (ag (pc))), some (.int (nI ((((at_) + (7)) + (h)) - (1))))] [] (σ) (.inl (some (.int (bi (true))))) (σ)
  refine jr_aload_n d_Ck_typesFit_25 rfl ?_
  refine jr_getf d_Ck_typesFit_26 f_Ck_typesFit_22 hM rfl ?_
  refine jr_iload_n d_Ck_typesFit_29 rfl ?_
  refine jr_ialdQ (v := (nI (11))) d_Ck_typesFit_30 g1 (by omega) (by omega) (congrArg nI ho) ?_
  refine jr_tableIn (off := 412) 443 d_Ck_typesFit_31 (by decide +kernel) (by decide +kernel) (by decide +kernel) (by decide) ?_
  refine jr_iconst ((nI (1))) d_Ck_typesFit_443 (by decide) ?_
  exact jr_zretE d_Ck_typesFit_444 rfl (by decide) (bo1 (by first | (simp [isO]; done) | (simp [isO]; omega))) (rfl) (by decide) (by decide)
theorem d_Ck_typesFit_196 : decode m_Ck_typesFit.2.1 196 = .ok (.aload_n 0, 1) := by decide +kernel
theorem f_Ck_typesFit_9 : jl_fd m_Ck_typesFit 9 0 0 = true := by decide +kernel
theorem d_Ck_typesFit_197 : decode m_Ck_typesFit.2.1 197 = .ok (.getfield 9, 3) := by decide +kernel
theorem d_Ck_typesFit_200 : decode m_Ck_typesFit.2.1 200 = .ok (.aload_n 3, 1) := by decide +kernel
theorem d_Ck_typesFit_201 : decode m_Ck_typesFit.2.1 201 = .ok (.iload 6, 2) := by decide +kernel
theorem d_Ck_typesFit_203 : decode m_Ck_typesFit.2.1 203 = .ok (.iaload, 1) := by decide +kernel
theorem d_Ck_typesFit_204 : decode m_Ck_typesFit.2.1 204 = .ok (.bipush 10, 2) := by decide +kernel
theorem d_Ck_typesFit_206 : decode m_Ck_typesFit.2.1 206 = .ok (.iload 5, 2) := by decide +kernel
theorem d_Ck_typesFit_208 : decode m_Ck_typesFit.2.1 208 = .ok (.bipush 32, 2) := by decide +kernel
theorem d_Ck_typesFit_210 : decode m_Ck_typesFit.2.1 210 = .ok (.idiv, 1) := by decide +kernel
theorem d_Ck_typesFit_211 : decode m_Ck_typesFit.2.1 211 = .ok (.iadd, 1) := by decide +kernel
theorem k_Ck_typesFit_89 : jl_cv m_Ck_typesFit m_Wo_isPart 89 2 = true := by decide +kernel
theorem d_Ck_typesFit_212 : decode m_Ck_typesFit.2.1 212 = .ok (.invokevirtual 89, 3) := by decide +kernel
theorem d_Ck_typesFit_215 : decode m_Ck_typesFit.2.1 215 = .ok (.ireturn, 1) := by decide +kernel
theorem ck_ty_12 (hl : l.stackTraces = false) {pc at_ h : Nat} (hc : CkAt σ) (hw : WoAt σ tb pr ow fi ft mt) (hm : MeAt σ a q1 q2 rs op ag sz fr tt tg kd nc mp fh) (hok : WoOk tb pr ow fi) (hsg : SgC σ tb pr mt sg) (hR : σ[rr]? = some (.inl (0, N, .inl fun j => en (ty j)))) (hN : N ≤ 144) (hty : ∀ j, ob 16 (ty j)) (hop : op pc < 26) (hpc : pc < 24) (hat : at_ + 12 ≤ N) (hh : ty (at_ + 6) = some h) (hh5 : h ≤ 5) (ho : op pc = 12) {t0 : Option Nat} (e0 : ty (at_ + (6 + h - 0)) = t0) (hb0 : 1 ≤ h) {n : Nat} (hn : n < 2 ^ 31) (hx : ag pc = nI n) (hk : n / 32 < 6) : jl_m l G m_Ck_typesFit [.ref 8, .ref a, .int (nI pc), .ref rr, .int (nI (at_))] σ (.inl (some (.int (bi (part pr t0 (some (10 + n / 32))))))) (σ) := by
  obtain ⟨hW, h2, h3, h4, h5, h6, h7⟩ := id hw
  obtain ⟨hM, g1, g2, g3, g4, g5, g6, g7, g8⟩ := id hm
  have ht0 : ob 16 t0 := e0 ▸ hty _
  refine jl_of (as := [.ref 8, .ref a, .int (nI pc), .ref rr, .int (nI (at_))]) rfl (by decide) hl (jl_cc rfl (jl_cc rfl (jl_cc rfl (jl_cc rfl (jl_cc rfl jl_ca))))) (Nat.le_of_ble_eq_true rfl) ?_
  show jl_W l G m_Ck_typesFit (0, 0) 0 [some (.ref 8), some (.ref a), some (.int (nI pc)), some (.ref rr), some (.int (nI (at_))), none, none] [] (σ) (.inl (some (.int (bi (part pr t0 (some (10 + n / 32))))))) (σ)
  refine jr_aload_n d_Ck_typesFit_0 rfl ?_
  refine jr_getf d_Ck_typesFit_1 f_Ck_typesFit_28 hM rfl ?_
  refine jr_iload_n d_Ck_typesFit_4 rfl ?_
  refine jr_ialdQ (v := (nI (n))) d_Ck_typesFit_5 g2 (by omega) (by omega) (hx) ?_
  refine jr_istore d_Ck_typesFit_6 (by decide) ?_
  show jl_W l G m_Ck_typesFit (0, 0) 8 [some (.ref 8), some (.ref a), some (.int (nI pc)), some (.ref rr), some (.int (nI (at_))), some (.int (nI n)), none] [] (σ) (.inl (some (.int (bi (part pr t0 (some (10 + n / 32))))))) (σ)
  refine jr_iload d_Ck_typesFit_8 rfl ?_
  refine jr_bipush ((nI (7))) d_Ck_typesFit_10 (by decide) ?_
  refine jr_iaddN d_Ck_typesFit_12 ?_
  refine jr_aload_n d_Ck_typesFit_13 rfl ?_
  refine jr_iload d_Ck_typesFit_14 rfl ?_
  refine jr_bipush ((nI (6))) d_Ck_typesFit_16 (by decide) ?_
  refine jr_iaddN d_Ck_typesFit_18 ?_
  refine jr_ialdQ (v := (nI (h))) d_Ck_typesFit_19 hR (by omega) (by omega) (congrArg en hh) ?_
  refine jr_iaddN d_Ck_typesFit_20 ?_
  refine jr_iconst ((nI (1))) d_Ck_typesFit_21 (by decide) ?_
  refine jr_isubN d_Ck_typesFit_22 (by omega) ?_
  refine jr_istore d_Ck_typesFit_23 (by decide) ?_
  show jl_W l G m_Ck_typesFit (0, 0) 25 [some (.ref 8), some (.ref a), some (.int (nI pc)), some (.ref rr), some (.int (nI (at_))), some (.int (nI n)), some (.int (nI ((((at_) + (7)) + (h)) - (1))))] [] (σ) (.inl (some (.int (bi (part pr t0 (some (10 + n / 32))))))) (σ)
  refine jr_aload_n d_Ck_typesFit_25 rfl ?_
  refine jr_getf d_Ck_typesFit_26 f_Ck_typesFit_22 hM rfl ?_
  refine jr_iload_n d_Ck_typesFit_29 rfl ?_
  refine jr_ialdQ (v := (nI (12))) d_Ck_typesFit_30 g1 (by omega) (by omega) (congrArg nI ho) ?_
  refine jr_tableIn (off := 165) 196 d_Ck_typesFit_31 (by decide +kernel) (by decide +kernel) (by decide +kernel) (by decide) ?_
  refine jr_aload_n d_Ck_typesFit_196 rfl ?_
  refine jr_getf d_Ck_typesFit_197 f_Ck_typesFit_9 hc rfl ?_
  refine jr_aload_n d_Ck_typesFit_200 rfl ?_
  refine jr_iload d_Ck_typesFit_201 rfl ?_
  refine jr_ialdQ (v := (en t0)) d_Ck_typesFit_203 hR (by omega) (by omega) ((congrArg (fun j => en (ty j)) (show (((at_) + (7)) + (h)) - (1) = at_ + (6 + h - 0) by omega)).trans (congrArg en e0)) ?_
  refine jr_bipush ((nI (10))) d_Ck_typesFit_204 (by decide) ?_
  refine jr_iload d_Ck_typesFit_206 rfl ?_
  refine jr_bipush ((nI (32))) d_Ck_typesFit_208 (by decide) ?_
  refine jr_idivN d_Ck_typesFit_210 (by omega) (by omega) (by omega) ?_
  refine jr_iaddN d_Ck_typesFit_211 ?_
  refine jr_callV (As := [.int (en t0), .int (nI ((10) + ((n) / (32))))]) d_Ck_typesFit_212 k_Ck_typesFit_89 hW rfl rfl rfl (Nat.le_of_ble_eq_true rfl) (by decide) (by decide) (wo_part (x := t0) (y := some ((10) + ((n) / (32)))) hl hw hok.1 (by first | assumption | exact hty _) (ob_s (by omega))) ?_
  show jl_W l G m_Ck_typesFit (0, 0) 215 [some (.ref 8), some (.ref a), some (.int (nI pc)), some (.ref rr), some (.int (nI (at_))), some (.int (nI n)), some (.int (nI ((((at_) + (7)) + (h)) - (1))))] [.int (bi (part pr t0 (some ((10) + ((n) / (32))))))] (σ) (.inl (some (.int (bi (part pr t0 (some (10 + n / 32))))))) (σ)
  exact jr_zretE d_Ck_typesFit_215 rfl (bi_01 _) (bov (by first | (simp [isO]; done) | (simp [isO]; omega))) (rfl) (by decide) (by decide)
theorem d_Ck_typesFit_216 : decode m_Ck_typesFit.2.1 216 = .ok (.aload_n 0, 1) := by decide +kernel
theorem d_Ck_typesFit_217 : decode m_Ck_typesFit.2.1 217 = .ok (.getfield 9, 3) := by decide +kernel
theorem d_Ck_typesFit_220 : decode m_Ck_typesFit.2.1 220 = .ok (.aload_n 3, 1) := by decide +kernel
theorem d_Ck_typesFit_221 : decode m_Ck_typesFit.2.1 221 = .ok (.iload 6, 2) := by decide +kernel
theorem d_Ck_typesFit_223 : decode m_Ck_typesFit.2.1 223 = .ok (.iconst 1, 1) := by decide +kernel
theorem d_Ck_typesFit_224 : decode m_Ck_typesFit.2.1 224 = .ok (.isub, 1) := by decide +kernel
theorem d_Ck_typesFit_225 : decode m_Ck_typesFit.2.1 225 = .ok (.iaload, 1) := by decide +kernel
theorem d_Ck_typesFit_226 : decode m_Ck_typesFit.2.1 226 = .ok (.bipush 10, 2) := by decide +kernel
theorem d_Ck_typesFit_228 : decode m_Ck_typesFit.2.1 228 = .ok (.iload 5, 2) := by decide +kernel
theorem d_Ck_typesFit_230 : decode m_Ck_typesFit.2.1 230 = .ok (.bipush 32, 2) := by decide +kernel
theorem d_Ck_typesFit_232 : decode m_Ck_typesFit.2.1 232 = .ok (.idiv, 1) := by decide +kernel
theorem d_Ck_typesFit_233 : decode m_Ck_typesFit.2.1 233 = .ok (.iadd, 1) := by decide +kernel
theorem d_Ck_typesFit_234 : decode m_Ck_typesFit.2.1 234 = .ok (.invokevirtual 89, 3) := by decide +kernel
theorem d_Ck_typesFit_237 : decode m_Ck_typesFit.2.1 237 = .ok (.ifCond .eq 38, 3) := by decide +kernel
theorem d_Ck_typesFit_275 : decode m_Ck_typesFit.2.1 275 = .ok (.iconst 0, 1) := by decide +kernel
theorem d_Ck_typesFit_276 : decode m_Ck_typesFit.2.1 276 = .ok (.ireturn, 1) := by decide +kernel
theorem d_Ck_typesFit_240 : decode m_Ck_typesFit.2.1 240 = .ok (.aload_n 0, 1) := by decide +kernel
theorem d_Ck_typesFit_241 : decode m_Ck_typesFit.2.1 241 = .ok (.getfield 9, 3) := by decide +kernel
theorem d_Ck_typesFit_244 : decode m_Ck_typesFit.2.1 244 = .ok (.aload_n 3, 1) := by decide +kernel
theorem d_Ck_typesFit_245 : decode m_Ck_typesFit.2.1 245 = .ok (.iload 6, 2) := by decide +kernel
theorem d_Ck_typesFit_247 : decode m_Ck_typesFit.2.1 247 = .ok (.iaload, 1) := by decide +kernel
theorem d_Ck_typesFit_248 : decode m_Ck_typesFit.2.1 248 = .ok (.aload_n 0, 1) := by decide +kernel
theorem d_Ck_typesFit_249 : decode m_Ck_typesFit.2.1 249 = .ok (.getfield 9, 3) := by decide +kernel
theorem d_Ck_typesFit_252 : decode m_Ck_typesFit.2.1 252 = .ok (.iload 5, 2) := by decide +kernel
theorem d_Ck_typesFit_254 : decode m_Ck_typesFit.2.1 254 = .ok (.bipush 32, 2) := by decide +kernel
theorem d_Ck_typesFit_256 : decode m_Ck_typesFit.2.1 256 = .ok (.idiv, 1) := by decide +kernel
theorem d_Ck_typesFit_257 : decode m_Ck_typesFit.2.1 257 = .ok (.iload 5, 2) := by decide +kernel
theorem d_Ck_typesFit_259 : decode m_Ck_typesFit.2.1 259 = .ok (.bipush 32, 2) := by decide +kernel
theorem d_Ck_typesFit_261 : decode m_Ck_typesFit.2.1 261 = .ok (.irem, 1) := by decide +kernel
theorem k_Ck_typesFit_92 : jl_cv m_Ck_typesFit m_Wo_fieldType 92 2 = true := by decide +kernel
theorem d_Ck_typesFit_262 : decode m_Ck_typesFit.2.1 262 = .ok (.invokevirtual 92, 3) := by decide +kernel
theorem d_Ck_typesFit_265 : decode m_Ck_typesFit.2.1 265 = .ok (.invokevirtual 89, 3) := by decide +kernel
theorem d_Ck_typesFit_268 : decode m_Ck_typesFit.2.1 268 = .ok (.ifCond .eq 7, 3) := by decide +kernel
theorem d_Ck_typesFit_271 : decode m_Ck_typesFit.2.1 271 = .ok (.iconst 1, 1) := by decide +kernel
theorem d_Ck_typesFit_272 : decode m_Ck_typesFit.2.1 272 = .ok (.goto 4, 3) := by decide +kernel
theorem ck_ty_13 (hl : l.stackTraces = false) {pc at_ h : Nat} (hc : CkAt σ) (hw : WoAt σ tb pr ow fi ft mt) (hm : MeAt σ a q1 q2 rs op ag sz fr tt tg kd nc mp fh) (hok : WoOk tb pr ow fi) (hsg : SgC σ tb pr mt sg) (hR : σ[rr]? = some (.inl (0, N, .inl fun j => en (ty j)))) (hN : N ≤ 144) (hty : ∀ j, ob 16 (ty j)) (hop : op pc < 26) (hpc : pc < 24) (hat : at_ + 12 ≤ N) (hh : ty (at_ + 6) = some h) (hh5 : h ≤ 5) (ho : op pc = 13) {t0 : Option Nat} (e0 : ty (at_ + (6 + h - 0)) = t0) (hb0 : 1 ≤ h) {t1 : Option Nat} (e1 : ty (at_ + (6 + h - 1)) = t1) (hb1 : 2 ≤ h) {n : Nat} (hn : n < 2 ^ 31) (hx : ag pc = nI n) (hk : n / 32 < 6) (hf : n % 32 < fi (n / 32) + ow (n / 32)) (hft : fty pr fi ft (n / 32) (n % 32) < 16) : jl_m l G m_Ck_typesFit [.ref 8, .ref a, .int (nI pc), .ref rr, .int (nI (at_))] σ (.inl (some (.int (bi (part pr t1 (some (10 + n / 32)) && part pr t0 (some (fty pr fi ft (n / 32) (n % 32)))))))) (σ) := by
  obtain ⟨hW, h2, h3, h4, h5, h6, h7⟩ := id hw
  obtain ⟨hM, g1, g2, g3, g4, g5, g6, g7, g8⟩ := id hm
  have ht0 : ob 16 t0 := e0 ▸ hty _
  have ht1 : ob 16 t1 := e1 ▸ hty _
  refine jl_of (as := [.ref 8, .ref a, .int (nI pc), .ref rr, .int (nI (at_))]) rfl (by decide) hl (jl_cc rfl (jl_cc rfl (jl_cc rfl (jl_cc rfl (jl_cc rfl jl_ca))))) (Nat.le_of_ble_eq_true rfl) ?_
  show jl_W l G m_Ck_typesFit (0, 0) 0 [some (.ref 8), some (.ref a), some (.int (nI pc)), some (.ref rr), some (.int (nI (at_))), none, none] [] (σ) (.inl (some (.int (bi (part pr t1 (some (10 + n / 32)) && part pr t0 (some (fty pr fi ft (n / 32) (n % 32)))))))) (σ)
  refine jr_aload_n d_Ck_typesFit_0 rfl ?_
  refine jr_getf d_Ck_typesFit_1 f_Ck_typesFit_28 hM rfl ?_
  refine jr_iload_n d_Ck_typesFit_4 rfl ?_
  refine jr_ialdQ (v := (nI (n))) d_Ck_typesFit_5 g2 (by omega) (by omega) (hx) ?_
  refine jr_istore d_Ck_typesFit_6 (by decide) ?_
  show jl_W l G m_Ck_typesFit (0, 0) 8 [some (.ref 8), some (.ref a), some (.int (nI pc)), some (.ref rr), some (.int (nI (at_))), some (.int (nI n)), none] [] (σ) (.inl (some (.int (bi (part pr t1 (some (10 + n / 32)) && part pr t0 (some (fty pr fi ft (n / 32) (n % 32)))))))) (σ)
  refine jr_iload d_Ck_typesFit_8 rfl ?_
  refine jr_bipush ((nI (7))) d_Ck_typesFit_10 (by decide) ?_
  refine jr_iaddN d_Ck_typesFit_12 ?_
  refine jr_aload_n d_Ck_typesFit_13 rfl ?_
  refine jr_iload d_Ck_typesFit_14 rfl ?_
  refine jr_bipush ((nI (6))) d_Ck_typesFit_16 (by decide) ?_
  refine jr_iaddN d_Ck_typesFit_18 ?_
  refine jr_ialdQ (v := (nI (h))) d_Ck_typesFit_19 hR (by omega) (by omega) (congrArg en hh) ?_
  refine jr_iaddN d_Ck_typesFit_20 ?_
  refine jr_iconst ((nI (1))) d_Ck_typesFit_21 (by decide) ?_
  refine jr_isubN d_Ck_typesFit_22 (by omega) ?_
  refine jr_istore d_Ck_typesFit_23 (by decide) ?_
  show jl_W l G m_Ck_typesFit (0, 0) 25 [some (.ref 8), some (.ref a), some (.int (nI pc)), some (.ref rr), some (.int (nI (at_))), some (.int (nI n)), some (.int (nI ((((at_) + (7)) + (h)) - (1))))] [] (σ) (.inl (some (.int (bi (part pr t1 (some (10 + n / 32)) && part pr t0 (some (fty pr fi ft (n / 32) (n % 32)))))))) (σ)
  refine jr_aload_n d_Ck_typesFit_25 rfl ?_
  refine jr_getf d_Ck_typesFit_26 f_Ck_typesFit_22 hM rfl ?_
  refine jr_iload_n d_Ck_typesFit_29 rfl ?_
  refine jr_ialdQ (v := (nI (13))) d_Ck_typesFit_30 g1 (by omega) (by omega) (congrArg nI ho) ?_
  refine jr_tableIn (off := 185) 216 d_Ck_typesFit_31 (by decide +kernel) (by decide +kernel) (by decide +kernel) (by decide) ?_
  refine jr_aload_n d_Ck_typesFit_216 rfl ?_
  refine jr_getf d_Ck_typesFit_217 f_Ck_typesFit_9 hc rfl ?_
  refine jr_aload_n d_Ck_typesFit_220 rfl ?_
  refine jr_iload d_Ck_typesFit_221 rfl ?_
  refine jr_iconst ((nI (1))) d_Ck_typesFit_223 (by decide) ?_
  refine jr_isubN d_Ck_typesFit_224 (by omega) ?_
  refine jr_ialdQ (v := (en t1)) d_Ck_typesFit_225 hR (by omega) (by omega) ((congrArg (fun j => en (ty j)) (show ((((at_) + (7)) + (h)) - (1)) - (1) = at_ + (6 + h - 1) by omega)).trans (congrArg en e1)) ?_
  refine jr_bipush ((nI (10))) d_Ck_typesFit_226 (by decide) ?_
  refine jr_iload d_Ck_typesFit_228 rfl ?_
  refine jr_bipush ((nI (32))) d_Ck_typesFit_230 (by decide) ?_
  refine jr_idivN d_Ck_typesFit_232 (by omega) (by omega) (by omega) ?_
  refine jr_iaddN d_Ck_typesFit_233 ?_
  refine jr_callV (As := [.int (en t1), .int (nI ((10) + ((n) / (32))))]) d_Ck_typesFit_234 k_Ck_typesFit_89 hW rfl rfl rfl (Nat.le_of_ble_eq_true rfl) (by decide) (by decide) (wo_part (x := t1) (y := some ((10) + ((n) / (32)))) hl hw hok.1 (by first | assumption | exact hty _) (ob_s (by omega))) ?_
  show jl_W l G m_Ck_typesFit (0, 0) 237 [some (.ref 8), some (.ref a), some (.int (nI pc)), some (.ref rr), some (.int (nI (at_))), some (.int (nI n)), some (.int (nI ((((at_) + (7)) + (h)) - (1))))] [.int (bi (part pr t1 (some ((10) + ((n) / (32))))))] (σ) (.inl (some (.int (bi (part pr t1 (some (10 + n / 32)) && part pr t0 (some (fty pr fi ft (n / 32) (n % 32)))))))) (σ)
  refine jr_if_eq 275 d_Ck_typesFit_237 (by decide) (fun c1 => ?_) (fun c1 => ?_)
  · refine jr_iconst ((nI (0))) d_Ck_typesFit_275 (by decide) ?_
    exact jr_zretE d_Ck_typesFit_276 rfl (by decide) (bo0 (by first | (simp [isO, bi_0.mp c1]; done) | (simp [isO, bi_0.mp c1]; omega))) (rfl) (by decide) (by decide)
  · refine jr_aload_n d_Ck_typesFit_240 rfl ?_
    refine jr_getf d_Ck_typesFit_241 f_Ck_typesFit_9 hc rfl ?_
    refine jr_aload_n d_Ck_typesFit_244 rfl ?_
    refine jr_iload d_Ck_typesFit_245 rfl ?_
    refine jr_ialdQ (v := (en t0)) d_Ck_typesFit_247 hR (by omega) (by omega) ((congrArg (fun j => en (ty j)) (show (((at_) + (7)) + (h)) - (1) = at_ + (6 + h - 0) by omega)).trans (congrArg en e0)) ?_
    refine jr_aload_n d_Ck_typesFit_248 rfl ?_
    refine jr_getf d_Ck_typesFit_249 f_Ck_typesFit_9 hc rfl ?_
    refine jr_iload d_Ck_typesFit_252 rfl ?_
    refine jr_bipush ((nI (32))) d_Ck_typesFit_254 (by decide) ?_
    refine jr_idivN d_Ck_typesFit_256 (by omega) (by omega) (by omega) ?_
    refine jr_iload d_Ck_typesFit_257 rfl ?_
    refine jr_bipush ((nI (32))) d_Ck_typesFit_259 (by decide) ?_
    refine jr_iremN d_Ck_typesFit_261 (by omega) (by omega) (by omega) ?_
    refine jr_callV (As := [.int (nI ((n) / (32))), .int (nI ((n) % (32)))]) d_Ck_typesFit_262 k_Ck_typesFit_92 hW rfl rfl rfl (Nat.le_of_ble_eq_true rfl) (by decide) (by decide) (wo_ft hl hw hok hk hf) ?_
    show jl_W l G m_Ck_typesFit (0, 0) 265 [some (.ref 8), some (.ref a), some (.int (nI pc)), some (.ref rr), some (.int (nI (at_))), some (.int (nI n)), some (.int (nI ((((at_) + (7)) + (h)) - (1))))] [.int (nI (fty pr fi ft (n / 32) (n % 32))), .int (en t0), .ref 1] (σ) (.inl (some (.int (bi (part pr t1 (some (10 + n / 32)) && part pr t0 (some (fty pr fi ft (n / 32) (n % 32)))))))) (σ)
    refine jr_callV (As := [.int (en t0), .int (nI (fty pr fi ft (n / 32) (n % 32)))]) d_Ck_typesFit_265 k_Ck_typesFit_89 hW rfl rfl rfl (Nat.le_of_ble_eq_true rfl) (by decide) (by decide) (wo_part (x := t0) (y := some (fty pr fi ft (n / 32) (n % 32))) hl hw hok.1 (by first | assumption | exact hty _) (ob_s (by omega))) ?_
    show jl_W l G m_Ck_typesFit (0, 0) 268 [some (.ref 8), some (.ref a), some (.int (nI pc)), some (.ref rr), some (.int (nI (at_))), some (.int (nI n)), some (.int (nI ((((at_) + (7)) + (h)) - (1))))] [.int (bi (part pr t0 (some (fty pr fi ft (n / 32) (n % 32)))))] (σ) (.inl (some (.int (bi (part pr t1 (some (10 + n / 32)) && part pr t0 (some (fty pr fi ft (n / 32) (n % 32)))))))) (σ)
    refine jr_if_eq 275 d_Ck_typesFit_268 (by decide) (fun c2 => ?_) (fun c2 => ?_)
    · refine jr_iconst ((nI (0))) d_Ck_typesFit_275 (by decide) ?_
      exact jr_zretE d_Ck_typesFit_276 rfl (by decide) (bo0 (by first | (simp [isO, bi_nf c1, bi_0.mp c2]; done) | (simp [isO, bi_nf c1, bi_0.mp c2]; omega))) (rfl) (by decide) (by decide)
    · refine jr_iconst ((nI (1))) d_Ck_typesFit_271 (by decide) ?_
      refine jr_goto 276 d_Ck_typesFit_272 (by decide) ?_
      exact jr_zretE d_Ck_typesFit_276 rfl (by decide) (bo1 (by first | (simp [isO, bi_nf c1, bi_nf c2]; done) | (simp [isO, bi_nf c1, bi_nf c2]; omega))) (rfl) (by decide) (by decide)
theorem d_Ck_typesFit_277 : decode m_Ck_typesFit.2.1 277 = .ok (.aload_n 0, 1) := by decide +kernel
theorem d_Ck_typesFit_278 : decode m_Ck_typesFit.2.1 278 = .ok (.iload 5, 2) := by decide +kernel
theorem d_Ck_typesFit_280 : decode m_Ck_typesFit.2.1 280 = .ok (.aload_n 3, 1) := by decide +kernel
theorem d_Ck_typesFit_281 : decode m_Ck_typesFit.2.1 281 = .ok (.iload 6, 2) := by decide +kernel
theorem k_Ck_typesFit_95 : jl_cv m_Ck_typesFit m_Ck_callFits 95 3 = true := by decide +kernel
theorem d_Ck_typesFit_283 : decode m_Ck_typesFit.2.1 283 = .ok (.invokevirtual 95, 3) := by decide +kernel
theorem d_Ck_typesFit_286 : decode m_Ck_typesFit.2.1 286 = .ok (.ireturn, 1) := by decide +kernel
theorem ck_ty_14 (hl : l.stackTraces = false) {pc at_ h : Nat} (hc : CkAt σ) (hw : WoAt σ tb pr ow fi ft mt) (hm : MeAt σ a q1 q2 rs op ag sz fr tt tg kd nc mp fh) (hok : WoOk tb pr ow fi) (hsg : SgC σ tb pr mt sg) (hR : σ[rr]? = some (.inl (0, N, .inl fun j => en (ty j)))) (hN : N ≤ 144) (hty : ∀ j, ob 16 (ty j)) (hop : op pc < 26) (hpc : pc < 24) (hat : at_ + 12 ≤ N) (hh : ty (at_ + 6) = some h) (hh5 : h ≤ 5) (ho : op pc = 14) {n r : Nat} {p q : Option Nat} (hn : n < 2 ^ 31) (hx : ag pc = nI n) (hk : n / 4 < 6) (hg : sg (nI n) = some (p, q, r)) (hpq : prm p q < h) : jl_m l G m_Ck_typesFit [.ref 8, .ref a, .int (nI pc), .ref rr, .int (nI (at_))] σ (.inl (some (.int (bi (cfit pr p q (n / 4) (fun j => ty (at_ + 7 + h - 1 - j))))))) (σ) := by
  obtain ⟨hW, h2, h3, h4, h5, h6, h7⟩ := id hw
  obtain ⟨hM, g1, g2, g3, g4, g5, g6, g7, g8⟩ := id hm
  refine jl_of (as := [.ref 8, .ref a, .int (nI pc), .ref rr, .int (nI (at_))]) rfl (by decide) hl (jl_cc rfl (jl_cc rfl (jl_cc rfl (jl_cc rfl (jl_cc rfl jl_ca))))) (Nat.le_of_ble_eq_true rfl) ?_
  show jl_W l G m_Ck_typesFit (0, 0) 0 [some (.ref 8), some (.ref a), some (.int (nI pc)), some (.ref rr), some (.int (nI (at_))), none, none] [] (σ) (.inl (some (.int (bi (cfit pr p q (n / 4) (fun j => ty (at_ + 7 + h - 1 - j))))))) (σ)
  refine jr_aload_n d_Ck_typesFit_0 rfl ?_
  refine jr_getf d_Ck_typesFit_1 f_Ck_typesFit_28 hM rfl ?_
  refine jr_iload_n d_Ck_typesFit_4 rfl ?_
  refine jr_ialdQ (v := (nI (n))) d_Ck_typesFit_5 g2 (by omega) (by omega) (hx) ?_
  refine jr_istore d_Ck_typesFit_6 (by decide) ?_
  show jl_W l G m_Ck_typesFit (0, 0) 8 [some (.ref 8), some (.ref a), some (.int (nI pc)), some (.ref rr), some (.int (nI (at_))), some (.int (nI n)), none] [] (σ) (.inl (some (.int (bi (cfit pr p q (n / 4) (fun j => ty (at_ + 7 + h - 1 - j))))))) (σ)
  refine jr_iload d_Ck_typesFit_8 rfl ?_
  refine jr_bipush ((nI (7))) d_Ck_typesFit_10 (by decide) ?_
  refine jr_iaddN d_Ck_typesFit_12 ?_
  refine jr_aload_n d_Ck_typesFit_13 rfl ?_
  refine jr_iload d_Ck_typesFit_14 rfl ?_
  refine jr_bipush ((nI (6))) d_Ck_typesFit_16 (by decide) ?_
  refine jr_iaddN d_Ck_typesFit_18 ?_
  refine jr_ialdQ (v := (nI (h))) d_Ck_typesFit_19 hR (by omega) (by omega) (congrArg en hh) ?_
  refine jr_iaddN d_Ck_typesFit_20 ?_
  refine jr_iconst ((nI (1))) d_Ck_typesFit_21 (by decide) ?_
  refine jr_isubN d_Ck_typesFit_22 (by omega) ?_
  refine jr_istore d_Ck_typesFit_23 (by decide) ?_
  show jl_W l G m_Ck_typesFit (0, 0) 25 [some (.ref 8), some (.ref a), some (.int (nI pc)), some (.ref rr), some (.int (nI (at_))), some (.int (nI n)), some (.int (nI ((((at_) + (7)) + (h)) - (1))))] [] (σ) (.inl (some (.int (bi (cfit pr p q (n / 4) (fun j => ty (at_ + 7 + h - 1 - j))))))) (σ)
  refine jr_aload_n d_Ck_typesFit_25 rfl ?_
  refine jr_getf d_Ck_typesFit_26 f_Ck_typesFit_22 hM rfl ?_
  refine jr_iload_n d_Ck_typesFit_29 rfl ?_
  refine jr_ialdQ (v := (nI (14))) d_Ck_typesFit_30 g1 (by omega) (by omega) (congrArg nI ho) ?_
  refine jr_tableIn (off := 246) 277 d_Ck_typesFit_31 (by decide +kernel) (by decide +kernel) (by decide +kernel) (by decide) ?_
  refine jr_aload_n d_Ck_typesFit_277 rfl ?_
  refine jr_iload d_Ck_typesFit_278 rfl ?_
  refine jr_aload_n d_Ck_typesFit_280 rfl ?_
  refine jr_iload d_Ck_typesFit_281 rfl ?_
  refine jr_callV (As := [.int (nI n), .ref rr, .int (nI ((((at_) + (7)) + (h)) - (1)))]) d_Ck_typesFit_283 k_Ck_typesFit_95 hc rfl rfl rfl (Nat.le_of_ble_eq_true rfl) (by decide) (by decide) (ck_call (la := (((at_) + (7)) + (h)) - (1)) hl hc hw hok hsg hR hN hty hn hk hg (by omega) (by omega)) ?_
  show jl_W l G m_Ck_typesFit (0, 0) 286 [some (.ref 8), some (.ref a), some (.int (nI pc)), some (.ref rr), some (.int (nI (at_))), some (.int (nI n)), some (.int (nI ((((at_) + (7)) + (h)) - (1))))] [.int (bi (cfit pr p q (n / 4) (fun j => ty (at_ + 7 + h - 1 - j))))] (σ) (.inl (some (.int (bi (cfit pr p q (n / 4) (fun j => ty (at_ + 7 + h - 1 - j))))))) (σ)
  exact jr_zretE d_Ck_typesFit_286 rfl (bi_01 _) (bov (by first | (simp [isO]; done) | (simp [isO]; omega))) (rfl) (by decide) (by decide)
theorem d_Ck_typesFit_287 : decode m_Ck_typesFit.2.1 287 = .ok (.aload_n 3, 1) := by decide +kernel
theorem d_Ck_typesFit_288 : decode m_Ck_typesFit.2.1 288 = .ok (.iload 6, 2) := by decide +kernel
theorem d_Ck_typesFit_290 : decode m_Ck_typesFit.2.1 290 = .ok (.iaload, 1) := by decide +kernel
theorem d_Ck_typesFit_291 : decode m_Ck_typesFit.2.1 291 = .ok (.iconst 2, 1) := by decide +kernel
theorem d_Ck_typesFit_292 : decode m_Ck_typesFit.2.1 292 = .ok (.if_icmp .eq 12, 3) := by decide +kernel
theorem d_Ck_typesFit_295 : decode m_Ck_typesFit.2.1 295 = .ok (.aload_n 3, 1) := by decide +kernel
theorem d_Ck_typesFit_296 : decode m_Ck_typesFit.2.1 296 = .ok (.iload 6, 2) := by decide +kernel
theorem d_Ck_typesFit_298 : decode m_Ck_typesFit.2.1 298 = .ok (.iaload, 1) := by decide +kernel
theorem d_Ck_typesFit_299 : decode m_Ck_typesFit.2.1 299 = .ok (.bipush 10, 2) := by decide +kernel
theorem d_Ck_typesFit_301 : decode m_Ck_typesFit.2.1 301 = .ok (.if_icmp .lt 7, 3) := by decide +kernel
theorem d_Ck_typesFit_308 : decode m_Ck_typesFit.2.1 308 = .ok (.iconst 0, 1) := by decide +kernel
theorem d_Ck_typesFit_309 : decode m_Ck_typesFit.2.1 309 = .ok (.ireturn, 1) := by decide +kernel
theorem d_Ck_typesFit_304 : decode m_Ck_typesFit.2.1 304 = .ok (.iconst 1, 1) := by decide +kernel
theorem d_Ck_typesFit_305 : decode m_Ck_typesFit.2.1 305 = .ok (.goto 4, 3) := by decide +kernel
theorem ck_ty_15 (hl : l.stackTraces = false) {pc at_ h : Nat} (hc : CkAt σ) (hw : WoAt σ tb pr ow fi ft mt) (hm : MeAt σ a q1 q2 rs op ag sz fr tt tg kd nc mp fh) (hok : WoOk tb pr ow fi) (hsg : SgC σ tb pr mt sg) (hR : σ[rr]? = some (.inl (0, N, .inl fun j => en (ty j)))) (hN : N ≤ 144) (hty : ∀ j, ob 16 (ty j)) (hop : op pc < 26) (hpc : pc < 24) (hat : at_ + 12 ≤ N) (hh : ty (at_ + 6) = some h) (hh5 : h ≤ 5) (ho : op pc = 15) {t0 : Option Nat} (e0 : ty (at_ + (6 + h - 0)) = t0) (hb0 : 1 ≤ h) : jl_m l G m_Ck_typesFit [.ref 8, .ref a, .int (nI pc), .ref rr, .int (nI (at_))] σ (.inl (some (.int (bi (isO t0))))) (σ) := by
  obtain ⟨hW, h2, h3, h4, h5, h6, h7⟩ := id hw
  obtain ⟨hM, g1, g2, g3, g4, g5, g6, g7, g8⟩ := id hm
  have ht0 : ob 16 t0 := e0 ▸ hty _
  refine jl_of (as := [.ref 8, .ref a, .int (nI pc), .ref rr, .int (nI (at_))]) rfl (by decide) hl (jl_cc rfl (jl_cc rfl (jl_cc rfl (jl_cc rfl (jl_cc rfl jl_ca))))) (Nat.le_of_ble_eq_true rfl) ?_
  show jl_W l G m_Ck_typesFit (0, 0) 0 [some (.ref 8), some (.ref a), some (.int (nI pc)), some (.ref rr), some (.int (nI (at_))), none, none] [] (σ) (.inl (some (.int (bi (isO t0))))) (σ)
  refine jr_aload_n d_Ck_typesFit_0 rfl ?_
  refine jr_getf d_Ck_typesFit_1 f_Ck_typesFit_28 hM rfl ?_
  refine jr_iload_n d_Ck_typesFit_4 rfl ?_
  refine jr_ialdN d_Ck_typesFit_5 g2 (by omega) (by omega) ?_
  refine jr_istore d_Ck_typesFit_6 (by decide) ?_
  show jl_W l G m_Ck_typesFit (0, 0) 8 [some (.ref 8), some (.ref a), some (.int (nI pc)), some (.ref rr), some (.int (nI (at_))), some (.int (ag (pc))), none] [] (σ) (.inl (some (.int (bi (isO t0))))) (σ)
  refine jr_iload d_Ck_typesFit_8 rfl ?_
  refine jr_bipush ((nI (7))) d_Ck_typesFit_10 (by decide) ?_
  refine jr_iaddN d_Ck_typesFit_12 ?_
  refine jr_aload_n d_Ck_typesFit_13 rfl ?_
  refine jr_iload d_Ck_typesFit_14 rfl ?_
  refine jr_bipush ((nI (6))) d_Ck_typesFit_16 (by decide) ?_
  refine jr_iaddN d_Ck_typesFit_18 ?_
  refine jr_ialdQ (v := (nI (h))) d_Ck_typesFit_19 hR (by omega) (by omega) (congrArg en hh) ?_
  refine jr_iaddN d_Ck_typesFit_20 ?_
  refine jr_iconst ((nI (1))) d_Ck_typesFit_21 (by decide) ?_
  refine jr_isubN d_Ck_typesFit_22 (by omega) ?_
  refine jr_istore d_Ck_typesFit_23 (by decide) ?_
  show jl_W l G m_Ck_typesFit (0, 0) 25 [some (.ref 8), some (.ref a), some (.int (nI pc)), some (.ref rr), some (.int (nI (at_))), some (.int (ag (pc))), some (.int (nI ((((at_) + (7)) + (h)) - (1))))] [] (σ) (.inl (some (.int (bi (isO t0))))) (σ)
  refine jr_aload_n d_Ck_typesFit_25 rfl ?_
  refine jr_getf d_Ck_typesFit_26 f_Ck_typesFit_22 hM rfl ?_
  refine jr_iload_n d_Ck_typesFit_29 rfl ?_
  refine jr_ialdQ (v := (nI (15))) d_Ck_typesFit_30 g1 (by omega) (by omega) (congrArg nI ho) ?_
  refine jr_tableIn (off := 256) 287 d_Ck_typesFit_31 (by decide +kernel) (by decide +kernel) (by decide +kernel) (by decide) ?_
  cases t0 with
  | none =>
    show jl_W l G m_Ck_typesFit (0, 0) 287 [some (.ref 8), some (.ref a), some (.int (nI pc)), some (.ref rr), some (.int (nI (at_))), some (.int (ag (pc))), some (.int (nI ((((at_) + (7)) + (h)) - (1))))] [] (σ) (.inl (some (.int (bi (isO none))))) (σ)
    refine jr_aload_n d_Ck_typesFit_287 rfl ?_
    refine jr_iload d_Ck_typesFit_288 rfl ?_
    refine jr_ialdQ (v := (-1)) d_Ck_typesFit_290 hR (by omega) (by omega) ((congrArg (fun j => en (ty j)) (show (((at_) + (7)) + (h)) - (1) = at_ + (6 + h - 0) by omega)).trans (congrArg en e0)) ?_
    refine jr_iconst ((nI (2))) d_Ck_typesFit_291 (by decide) ?_
    refine jr_icmp_eq 304 d_Ck_typesFit_292 (by decide) (fun z => absurd z (fun q => en_m1ne (by omega) q.symm)) (fun _ => ?_)
    refine jr_aload_n d_Ck_typesFit_295 rfl ?_
    refine jr_iload d_Ck_typesFit_296 rfl ?_
    refine jr_ialdQ (v := (-1)) d_Ck_typesFit_298 hR (by omega) (by omega) ((congrArg (fun j => en (ty j)) (show (((at_) + (7)) + (h)) - (1) = at_ + (6 + h - 0) by omega)).trans (congrArg en e0)) ?_
    refine jr_bipush ((nI (10))) d_Ck_typesFit_299 (by decide) ?_
    refine jr_icmp_lt 308 d_Ck_typesFit_301 (by decide) (fun _ => ?_) (fun z => absurd (en_m1lt (by omega)) z)
    refine jr_iconst ((nI (0))) d_Ck_typesFit_308 (by decide) ?_
    exact jr_zretE d_Ck_typesFit_309 rfl (by decide) (bo0 (by first | (simp [isO]; done) | (simp [isO]; omega))) (rfl) (by decide) (by decide)
  | some t =>
    have htt : t < 16 := ht0 t rfl
    show jl_W l G m_Ck_typesFit (0, 0) 287 [some (.ref 8), some (.ref a), some (.int (nI pc)), some (.ref rr), some (.int (nI (at_))), some (.int (ag (pc))), some (.int (nI ((((at_) + (7)) + (h)) - (1))))] [] (σ) (.inl (some (.int (bi (isO (some t)))))) (σ)
    refine jr_aload_n d_Ck_typesFit_287 rfl ?_
    refine jr_iload d_Ck_typesFit_288 rfl ?_
    refine jr_ialdQ (v := (nI (t))) d_Ck_typesFit_290 hR (by omega) (by omega) ((congrArg (fun j => en (ty j)) (show (((at_) + (7)) + (h)) - (1) = at_ + (6 + h - 0) by omega)).trans (congrArg en e0)) ?_
    refine jr_iconst ((nI (2))) d_Ck_typesFit_291 (by decide) ?_
    refine jr_icmp_eqN 304 d_Ck_typesFit_292 (by decide) (by omega) (by omega) (fun c1 => ?_) (fun c1 => ?_)
    · refine jr_iconst ((nI (1))) d_Ck_typesFit_304 (by decide) ?_
      refine jr_goto 309 d_Ck_typesFit_305 (by decide) ?_
      exact jr_zretE d_Ck_typesFit_309 rfl (by decide) (bo1 (by first | (simp [isO, c1]; done) | (simp [isO, c1]; omega))) (rfl) (by decide) (by decide)
    · refine jr_aload_n d_Ck_typesFit_295 rfl ?_
      refine jr_iload d_Ck_typesFit_296 rfl ?_
      refine jr_ialdQ (v := (nI (t))) d_Ck_typesFit_298 hR (by omega) (by omega) ((congrArg (fun j => en (ty j)) (show (((at_) + (7)) + (h)) - (1) = at_ + (6 + h - 0) by omega)).trans (congrArg en e0)) ?_
      refine jr_bipush ((nI (10))) d_Ck_typesFit_299 (by decide) ?_
      refine jr_icmp_ltN 308 d_Ck_typesFit_301 (by decide) (by omega) (by omega) (fun c2 => ?_) (fun c2 => ?_)
      · refine jr_iconst ((nI (0))) d_Ck_typesFit_308 (by decide) ?_
        exact jr_zretE d_Ck_typesFit_309 rfl (by decide) (bo0 (by first | (simp [isO, c1, c2, Nat.not_le.mpr c2]; done) | (simp [isO, c1, c2, Nat.not_le.mpr c2]; omega))) (rfl) (by decide) (by decide)
      · refine jr_iconst ((nI (1))) d_Ck_typesFit_304 (by decide) ?_
        refine jr_goto 309 d_Ck_typesFit_305 (by decide) ?_
        exact jr_zretE d_Ck_typesFit_309 rfl (by decide) (bo1 (by first | (simp [isO, c1, c2, Nat.not_lt.mpr c2]; done) | (simp [isO, c1, c2, Nat.not_lt.mpr c2]; omega))) (rfl) (by decide) (by decide)
theorem d_Ck_typesFit_310 : decode m_Ck_typesFit.2.1 310 = .ok (.aload_n 3, 1) := by decide +kernel
theorem d_Ck_typesFit_311 : decode m_Ck_typesFit.2.1 311 = .ok (.iload 6, 2) := by decide +kernel
theorem d_Ck_typesFit_313 : decode m_Ck_typesFit.2.1 313 = .ok (.iaload, 1) := by decide +kernel
theorem d_Ck_typesFit_314 : decode m_Ck_typesFit.2.1 314 = .ok (.ifCond .eq 7, 3) := by decide +kernel
theorem d_Ck_typesFit_321 : decode m_Ck_typesFit.2.1 321 = .ok (.iconst 0, 1) := by decide +kernel
theorem d_Ck_typesFit_322 : decode m_Ck_typesFit.2.1 322 = .ok (.ireturn, 1) := by decide +kernel
theorem d_Ck_typesFit_317 : decode m_Ck_typesFit.2.1 317 = .ok (.iconst 1, 1) := by decide +kernel
theorem d_Ck_typesFit_318 : decode m_Ck_typesFit.2.1 318 = .ok (.goto 4, 3) := by decide +kernel
theorem ck_ty_16 (hl : l.stackTraces = false) {pc at_ h : Nat} (hc : CkAt σ) (hw : WoAt σ tb pr ow fi ft mt) (hm : MeAt σ a q1 q2 rs op ag sz fr tt tg kd nc mp fh) (hok : WoOk tb pr ow fi) (hsg : SgC σ tb pr mt sg) (hR : σ[rr]? = some (.inl (0, N, .inl fun j => en (ty j)))) (hN : N ≤ 144) (hty : ∀ j, ob 16 (ty j)) (hop : op pc < 26) (hpc : pc < 24) (hat : at_ + 12 ≤ N) (hh : ty (at_ + 6) = some h) (hh5 : h ≤ 5) (ho : op pc = 16) {t0 : Option Nat} (e0 : ty (at_ + (6 + h - 0)) = t0) (hb0 : 1 ≤ h) : jl_m l G m_Ck_typesFit [.ref 8, .ref a, .int (nI pc), .ref rr, .int (nI (at_))] σ (.inl (some (.int (bi (!isI t0))))) (σ) := by
  obtain ⟨hW, h2, h3, h4, h5, h6, h7⟩ := id hw
  obtain ⟨hM, g1, g2, g3, g4, g5, g6, g7, g8⟩ := id hm
  have ht0 : ob 16 t0 := e0 ▸ hty _
  refine jl_of (as := [.ref 8, .ref a, .int (nI pc), .ref rr, .int (nI (at_))]) rfl (by decide) hl (jl_cc rfl (jl_cc rfl (jl_cc rfl (jl_cc rfl (jl_cc rfl jl_ca))))) (Nat.le_of_ble_eq_true rfl) ?_
  show jl_W l G m_Ck_typesFit (0, 0) 0 [some (.ref 8), some (.ref a), some (.int (nI pc)), some (.ref rr), some (.int (nI (at_))), none, none] [] (σ) (.inl (some (.int (bi (!isI t0))))) (σ)
  refine jr_aload_n d_Ck_typesFit_0 rfl ?_
  refine jr_getf d_Ck_typesFit_1 f_Ck_typesFit_28 hM rfl ?_
  refine jr_iload_n d_Ck_typesFit_4 rfl ?_
  refine jr_ialdN d_Ck_typesFit_5 g2 (by omega) (by omega) ?_
  refine jr_istore d_Ck_typesFit_6 (by decide) ?_
  show jl_W l G m_Ck_typesFit (0, 0) 8 [some (.ref 8), some (.ref a), some (.int (nI pc)), some (.ref rr), some (.int (nI (at_))), some (.int (ag (pc))), none] [] (σ) (.inl (some (.int (bi (!isI t0))))) (σ)
  refine jr_iload d_Ck_typesFit_8 rfl ?_
  refine jr_bipush ((nI (7))) d_Ck_typesFit_10 (by decide) ?_
  refine jr_iaddN d_Ck_typesFit_12 ?_
  refine jr_aload_n d_Ck_typesFit_13 rfl ?_
  refine jr_iload d_Ck_typesFit_14 rfl ?_
  refine jr_bipush ((nI (6))) d_Ck_typesFit_16 (by decide) ?_
  refine jr_iaddN d_Ck_typesFit_18 ?_
  refine jr_ialdQ (v := (nI (h))) d_Ck_typesFit_19 hR (by omega) (by omega) (congrArg en hh) ?_
  refine jr_iaddN d_Ck_typesFit_20 ?_
  refine jr_iconst ((nI (1))) d_Ck_typesFit_21 (by decide) ?_
  refine jr_isubN d_Ck_typesFit_22 (by omega) ?_
  refine jr_istore d_Ck_typesFit_23 (by decide) ?_
  show jl_W l G m_Ck_typesFit (0, 0) 25 [some (.ref 8), some (.ref a), some (.int (nI pc)), some (.ref rr), some (.int (nI (at_))), some (.int (ag (pc))), some (.int (nI ((((at_) + (7)) + (h)) - (1))))] [] (σ) (.inl (some (.int (bi (!isI t0))))) (σ)
  refine jr_aload_n d_Ck_typesFit_25 rfl ?_
  refine jr_getf d_Ck_typesFit_26 f_Ck_typesFit_22 hM rfl ?_
  refine jr_iload_n d_Ck_typesFit_29 rfl ?_
  refine jr_ialdQ (v := (nI (16))) d_Ck_typesFit_30 g1 (by omega) (by omega) (congrArg nI ho) ?_
  refine jr_tableIn (off := 279) 310 d_Ck_typesFit_31 (by decide +kernel) (by decide +kernel) (by decide +kernel) (by decide) ?_
  refine jr_aload_n d_Ck_typesFit_310 rfl ?_
  refine jr_iload d_Ck_typesFit_311 rfl ?_
  refine jr_ialdQ (v := (en t0)) d_Ck_typesFit_313 hR (by omega) (by omega) ((congrArg (fun j => en (ty j)) (show (((at_) + (7)) + (h)) - (1) = at_ + (6 + h - 0) by omega)).trans (congrArg en e0)) ?_
  refine jr_if_eq 321 d_Ck_typesFit_314 (by decide) (fun c1 => ?_) (fun c1 => ?_)
  · refine jr_iconst ((nI (0))) d_Ck_typesFit_321 (by decide) ?_
    exact jr_zretE d_Ck_typesFit_322 rfl (by decide) (bo0 (by first | (simp [isO, isI_y (by assumption) c1]; done) | (simp [isO, isI_y (by assumption) c1]; omega))) (rfl) (by decide) (by decide)
  · refine jr_iconst ((nI (1))) d_Ck_typesFit_317 (by decide) ?_
    refine jr_goto 322 d_Ck_typesFit_318 (by decide) ?_
    exact jr_zretE d_Ck_typesFit_322 rfl (by decide) (bo1 (by first | (simp [isO, isI_n (by assumption) c1]; done) | (simp [isO, isI_n (by assumption) c1]; omega))) (rfl) (by decide) (by decide)
theorem ck_ty_17 (hl : l.stackTraces = false) {pc at_ h : Nat} (hc : CkAt σ) (hw : WoAt σ tb pr ow fi ft mt) (hm : MeAt σ a q1 q2 rs op ag sz fr tt tg kd nc mp fh) (hok : WoOk tb pr ow fi) (hsg : SgC σ tb pr mt sg) (hR : σ[rr]? = some (.inl (0, N, .inl fun j => en (ty j)))) (hN : N ≤ 144) (hty : ∀ j, ob 16 (ty j)) (hop : op pc < 26) (hpc : pc < 24) (hat : at_ + 12 ≤ N) (hh : ty (at_ + 6) = some h) (hh5 : h ≤ 5) (ho : op pc = 17) {t0 : Option Nat} (e0 : ty (at_ + (6 + h - 0)) = t0) (hb0 : 1 ≤ h) : jl_m l G m_Ck_typesFit [.ref 8, .ref a, .int (nI pc), .ref rr, .int (nI (at_))] σ (.inl (some (.int (bi (isO t0))))) (σ) := by
  obtain ⟨hW, h2, h3, h4, h5, h6, h7⟩ := id hw
  obtain ⟨hM, g1, g2, g3, g4, g5, g6, g7, g8⟩ := id hm
  have ht0 : ob 16 t0 := e0 ▸ hty _
  refine jl_of (as := [.ref 8, .ref a, .int (nI pc), .ref rr, .int (nI (at_))]) rfl (by decide) hl (jl_cc rfl (jl_cc rfl (jl_cc rfl (jl_cc rfl (jl_cc rfl jl_ca))))) (Nat.le_of_ble_eq_true rfl) ?_
  show jl_W l G m_Ck_typesFit (0, 0) 0 [some (.ref 8), some (.ref a), some (.int (nI pc)), some (.ref rr), some (.int (nI (at_))), none, none] [] (σ) (.inl (some (.int (bi (isO t0))))) (σ)
  refine jr_aload_n d_Ck_typesFit_0 rfl ?_
  refine jr_getf d_Ck_typesFit_1 f_Ck_typesFit_28 hM rfl ?_
  refine jr_iload_n d_Ck_typesFit_4 rfl ?_
  refine jr_ialdN d_Ck_typesFit_5 g2 (by omega) (by omega) ?_
  refine jr_istore d_Ck_typesFit_6 (by decide) ?_
  show jl_W l G m_Ck_typesFit (0, 0) 8 [some (.ref 8), some (.ref a), some (.int (nI pc)), some (.ref rr), some (.int (nI (at_))), some (.int (ag (pc))), none] [] (σ) (.inl (some (.int (bi (isO t0))))) (σ)
  refine jr_iload d_Ck_typesFit_8 rfl ?_
  refine jr_bipush ((nI (7))) d_Ck_typesFit_10 (by decide) ?_
  refine jr_iaddN d_Ck_typesFit_12 ?_
  refine jr_aload_n d_Ck_typesFit_13 rfl ?_
  refine jr_iload d_Ck_typesFit_14 rfl ?_
  refine jr_bipush ((nI (6))) d_Ck_typesFit_16 (by decide) ?_
  refine jr_iaddN d_Ck_typesFit_18 ?_
  refine jr_ialdQ (v := (nI (h))) d_Ck_typesFit_19 hR (by omega) (by omega) (congrArg en hh) ?_
  refine jr_iaddN d_Ck_typesFit_20 ?_
  refine jr_iconst ((nI (1))) d_Ck_typesFit_21 (by decide) ?_
  refine jr_isubN d_Ck_typesFit_22 (by omega) ?_
  refine jr_istore d_Ck_typesFit_23 (by decide) ?_
  show jl_W l G m_Ck_typesFit (0, 0) 25 [some (.ref 8), some (.ref a), some (.int (nI pc)), some (.ref rr), some (.int (nI (at_))), some (.int (ag (pc))), some (.int (nI ((((at_) + (7)) + (h)) - (1))))] [] (σ) (.inl (some (.int (bi (isO t0))))) (σ)
  refine jr_aload_n d_Ck_typesFit_25 rfl ?_
  refine jr_getf d_Ck_typesFit_26 f_Ck_typesFit_22 hM rfl ?_
  refine jr_iload_n d_Ck_typesFit_29 rfl ?_
  refine jr_ialdQ (v := (nI (17))) d_Ck_typesFit_30 g1 (by omega) (by omega) (congrArg nI ho) ?_
  refine jr_tableIn (off := 256) 287 d_Ck_typesFit_31 (by decide +kernel) (by decide +kernel) (by decide +kernel) (by decide) ?_
  cases t0 with
  | none =>
    show jl_W l G m_Ck_typesFit (0, 0) 287 [some (.ref 8), some (.ref a), some (.int (nI pc)), some (.ref rr), some (.int (nI (at_))), some (.int (ag (pc))), some (.int (nI ((((at_) + (7)) + (h)) - (1))))] [] (σ) (.inl (some (.int (bi (isO none))))) (σ)
    refine jr_aload_n d_Ck_typesFit_287 rfl ?_
    refine jr_iload d_Ck_typesFit_288 rfl ?_
    refine jr_ialdQ (v := (-1)) d_Ck_typesFit_290 hR (by omega) (by omega) ((congrArg (fun j => en (ty j)) (show (((at_) + (7)) + (h)) - (1) = at_ + (6 + h - 0) by omega)).trans (congrArg en e0)) ?_
    refine jr_iconst ((nI (2))) d_Ck_typesFit_291 (by decide) ?_
    refine jr_icmp_eq 304 d_Ck_typesFit_292 (by decide) (fun z => absurd z (fun q => en_m1ne (by omega) q.symm)) (fun _ => ?_)
    refine jr_aload_n d_Ck_typesFit_295 rfl ?_
    refine jr_iload d_Ck_typesFit_296 rfl ?_
    refine jr_ialdQ (v := (-1)) d_Ck_typesFit_298 hR (by omega) (by omega) ((congrArg (fun j => en (ty j)) (show (((at_) + (7)) + (h)) - (1) = at_ + (6 + h - 0) by omega)).trans (congrArg en e0)) ?_
    refine jr_bipush ((nI (10))) d_Ck_typesFit_299 (by decide) ?_
    refine jr_icmp_lt 308 d_Ck_typesFit_301 (by decide) (fun _ => ?_) (fun z => absurd (en_m1lt (by omega)) z)
    refine jr_iconst ((nI (0))) d_Ck_typesFit_308 (by decide) ?_
    exact jr_zretE d_Ck_typesFit_309 rfl (by decide) (bo0 (by first | (simp [isO]; done) | (simp [isO]; omega))) (rfl) (by decide) (by decide)
  | some t =>
    have htt : t < 16 := ht0 t rfl
    show jl_W l G m_Ck_typesFit (0, 0) 287 [some (.ref 8), some (.ref a), some (.int (nI pc)), some (.ref rr), some (.int (nI (at_))), some (.int (ag (pc))), some (.int (nI ((((at_) + (7)) + (h)) - (1))))] [] (σ) (.inl (some (.int (bi (isO (some t)))))) (σ)
    refine jr_aload_n d_Ck_typesFit_287 rfl ?_
    refine jr_iload d_Ck_typesFit_288 rfl ?_
    refine jr_ialdQ (v := (nI (t))) d_Ck_typesFit_290 hR (by omega) (by omega) ((congrArg (fun j => en (ty j)) (show (((at_) + (7)) + (h)) - (1) = at_ + (6 + h - 0) by omega)).trans (congrArg en e0)) ?_
    refine jr_iconst ((nI (2))) d_Ck_typesFit_291 (by decide) ?_
    refine jr_icmp_eqN 304 d_Ck_typesFit_292 (by decide) (by omega) (by omega) (fun c1 => ?_) (fun c1 => ?_)
    · refine jr_iconst ((nI (1))) d_Ck_typesFit_304 (by decide) ?_
      refine jr_goto 309 d_Ck_typesFit_305 (by decide) ?_
      exact jr_zretE d_Ck_typesFit_309 rfl (by decide) (bo1 (by first | (simp [isO, c1]; done) | (simp [isO, c1]; omega))) (rfl) (by decide) (by decide)
    · refine jr_aload_n d_Ck_typesFit_295 rfl ?_
      refine jr_iload d_Ck_typesFit_296 rfl ?_
      refine jr_ialdQ (v := (nI (t))) d_Ck_typesFit_298 hR (by omega) (by omega) ((congrArg (fun j => en (ty j)) (show (((at_) + (7)) + (h)) - (1) = at_ + (6 + h - 0) by omega)).trans (congrArg en e0)) ?_
      refine jr_bipush ((nI (10))) d_Ck_typesFit_299 (by decide) ?_
      refine jr_icmp_ltN 308 d_Ck_typesFit_301 (by decide) (by omega) (by omega) (fun c2 => ?_) (fun c2 => ?_)
      · refine jr_iconst ((nI (0))) d_Ck_typesFit_308 (by decide) ?_
        exact jr_zretE d_Ck_typesFit_309 rfl (by decide) (bo0 (by first | (simp [isO, c1, c2, Nat.not_le.mpr c2]; done) | (simp [isO, c1, c2, Nat.not_le.mpr c2]; omega))) (rfl) (by decide) (by decide)
      · refine jr_iconst ((nI (1))) d_Ck_typesFit_304 (by decide) ?_
        refine jr_goto 309 d_Ck_typesFit_305 (by decide) ?_
        exact jr_zretE d_Ck_typesFit_309 rfl (by decide) (bo1 (by first | (simp [isO, c1, c2, Nat.not_lt.mpr c2]; done) | (simp [isO, c1, c2, Nat.not_lt.mpr c2]; omega))) (rfl) (by decide) (by decide)
theorem d_Ck_typesFit_323 : decode m_Ck_typesFit.2.1 323 = .ok (.aload_n 0, 1) := by decide +kernel
theorem d_Ck_typesFit_324 : decode m_Ck_typesFit.2.1 324 = .ok (.getfield 9, 3) := by decide +kernel
theorem d_Ck_typesFit_327 : decode m_Ck_typesFit.2.1 327 = .ok (.aload_n 3, 1) := by decide +kernel
theorem d_Ck_typesFit_328 : decode m_Ck_typesFit.2.1 328 = .ok (.iload 6, 2) := by decide +kernel
theorem d_Ck_typesFit_330 : decode m_Ck_typesFit.2.1 330 = .ok (.iaload, 1) := by decide +kernel
theorem d_Ck_typesFit_331 : decode m_Ck_typesFit.2.1 331 = .ok (.aload_n 1, 1) := by decide +kernel
theorem f_Ck_typesFit_99 : jl_fd m_Ck_typesFit 99 2 2 = true := by decide +kernel
theorem d_Ck_typesFit_332 : decode m_Ck_typesFit.2.1 332 = .ok (.getfield 99, 3) := by decide +kernel
theorem d_Ck_typesFit_335 : decode m_Ck_typesFit.2.1 335 = .ok (.invokevirtual 89, 3) := by decide +kernel
theorem d_Ck_typesFit_338 : decode m_Ck_typesFit.2.1 338 = .ok (.ireturn, 1) := by decide +kernel
theorem ck_ty_18 (hl : l.stackTraces = false) {pc at_ h : Nat} (hc : CkAt σ) (hw : WoAt σ tb pr ow fi ft mt) (hm : MeAt σ a q1 q2 rs op ag sz fr tt tg kd nc mp fh) (hok : WoOk tb pr ow fi) (hsg : SgC σ tb pr mt sg) (hR : σ[rr]? = some (.inl (0, N, .inl fun j => en (ty j)))) (hN : N ≤ 144) (hty : ∀ j, ob 16 (ty j)) (hop : op pc < 26) (hpc : pc < 24) (hat : at_ + 12 ≤ N) (hh : ty (at_ + 6) = some h) (hh5 : h ≤ 5) (ho : op pc = 18) {t0 : Option Nat} (e0 : ty (at_ + (6 + h - 0)) = t0) (hb0 : 1 ≤ h) (hrs : rs < 16) : jl_m l G m_Ck_typesFit [.ref 8, .ref a, .int (nI pc), .ref rr, .int (nI (at_))] σ (.inl (some (.int (bi (part pr t0 (some rs)))))) (σ) := by
  obtain ⟨hW, h2, h3, h4, h5, h6, h7⟩ := id hw
  obtain ⟨hM, g1, g2, g3, g4, g5, g6, g7, g8⟩ := id hm
  have ht0 : ob 16 t0 := e0 ▸ hty _
  refine jl_of (as := [.ref 8, .ref a, .int (nI pc), .ref rr, .int (nI (at_))]) rfl (by decide) hl (jl_cc rfl (jl_cc rfl (jl_cc rfl (jl_cc rfl (jl_cc rfl jl_ca))))) (Nat.le_of_ble_eq_true rfl) ?_
  show jl_W l G m_Ck_typesFit (0, 0) 0 [some (.ref 8), some (.ref a), some (.int (nI pc)), some (.ref rr), some (.int (nI (at_))), none, none] [] (σ) (.inl (some (.int (bi (part pr t0 (some rs)))))) (σ)
  refine jr_aload_n d_Ck_typesFit_0 rfl ?_
  refine jr_getf d_Ck_typesFit_1 f_Ck_typesFit_28 hM rfl ?_
  refine jr_iload_n d_Ck_typesFit_4 rfl ?_
  refine jr_ialdN d_Ck_typesFit_5 g2 (by omega) (by omega) ?_
  refine jr_istore d_Ck_typesFit_6 (by decide) ?_
  show jl_W l G m_Ck_typesFit (0, 0) 8 [some (.ref 8), some (.ref a), some (.int (nI pc)), some (.ref rr), some (.int (nI (at_))), some (.int (ag (pc))), none] [] (σ) (.inl (some (.int (bi (part pr t0 (some rs)))))) (σ)
  refine jr_iload d_Ck_typesFit_8 rfl ?_
  refine jr_bipush ((nI (7))) d_Ck_typesFit_10 (by decide) ?_
  refine jr_iaddN d_Ck_typesFit_12 ?_
  refine jr_aload_n d_Ck_typesFit_13 rfl ?_
  refine jr_iload d_Ck_typesFit_14 rfl ?_
  refine jr_bipush ((nI (6))) d_Ck_typesFit_16 (by decide) ?_
  refine jr_iaddN d_Ck_typesFit_18 ?_
  refine jr_ialdQ (v := (nI (h))) d_Ck_typesFit_19 hR (by omega) (by omega) (congrArg en hh) ?_
  refine jr_iaddN d_Ck_typesFit_20 ?_
  refine jr_iconst ((nI (1))) d_Ck_typesFit_21 (by decide) ?_
  refine jr_isubN d_Ck_typesFit_22 (by omega) ?_
  refine jr_istore d_Ck_typesFit_23 (by decide) ?_
  show jl_W l G m_Ck_typesFit (0, 0) 25 [some (.ref 8), some (.ref a), some (.int (nI pc)), some (.ref rr), some (.int (nI (at_))), some (.int (ag (pc))), some (.int (nI ((((at_) + (7)) + (h)) - (1))))] [] (σ) (.inl (some (.int (bi (part pr t0 (some rs)))))) (σ)
  refine jr_aload_n d_Ck_typesFit_25 rfl ?_
  refine jr_getf d_Ck_typesFit_26 f_Ck_typesFit_22 hM rfl ?_
  refine jr_iload_n d_Ck_typesFit_29 rfl ?_
  refine jr_ialdQ (v := (nI (18))) d_Ck_typesFit_30 g1 (by omega) (by omega) (congrArg nI ho) ?_
  refine jr_tableIn (off := 292) 323 d_Ck_typesFit_31 (by decide +kernel) (by decide +kernel) (by decide +kernel) (by decide) ?_
  refine jr_aload_n d_Ck_typesFit_323 rfl ?_
  refine jr_getf d_Ck_typesFit_324 f_Ck_typesFit_9 hc rfl ?_
  refine jr_aload_n d_Ck_typesFit_327 rfl ?_
  refine jr_iload d_Ck_typesFit_328 rfl ?_
  refine jr_ialdQ (v := (en t0)) d_Ck_typesFit_330 hR (by omega) (by omega) ((congrArg (fun j => en (ty j)) (show (((at_) + (7)) + (h)) - (1) = at_ + (6 + h - 0) by omega)).trans (congrArg en e0)) ?_
  refine jr_aload_n d_Ck_typesFit_331 rfl ?_
  refine jr_getf d_Ck_typesFit_332 f_Ck_typesFit_99 hM rfl ?_
  refine jr_callV (As := [.int (en t0), .int (nI rs)]) d_Ck_typesFit_335 k_Ck_typesFit_89 hW rfl rfl rfl (Nat.le_of_ble_eq_true rfl) (by decide) (by decide) (wo_part (x := t0) (y := some (rs)) hl hw hok.1 (by first | assumption | exact hty _) (ob_s (by omega))) ?_
  show jl_W l G m_Ck_typesFit (0, 0) 338 [some (.ref 8), some (.ref a), some (.int (nI pc)), some (.ref rr), some (.int (nI (at_))), some (.int (ag (pc))), some (.int (nI ((((at_) + (7)) + (h)) - (1))))] [.int (bi (part pr t0 (some (rs))))] (σ) (.inl (some (.int (bi (part pr t0 (some rs)))))) (σ)
  exact jr_zretE d_Ck_typesFit_338 rfl (bi_01 _) (bov (by first | (simp [isO]; done) | (simp [isO]; omega))) (rfl) (by decide) (by decide)
theorem ck_ty_19 (hl : l.stackTraces = false) {pc at_ h : Nat} (hc : CkAt σ) (hw : WoAt σ tb pr ow fi ft mt) (hm : MeAt σ a q1 q2 rs op ag sz fr tt tg kd nc mp fh) (hok : WoOk tb pr ow fi) (hsg : SgC σ tb pr mt sg) (hR : σ[rr]? = some (.inl (0, N, .inl fun j => en (ty j)))) (hN : N ≤ 144) (hty : ∀ j, ob 16 (ty j)) (hop : op pc < 26) (hpc : pc < 24) (hat : at_ + 12 ≤ N) (hh : ty (at_ + 6) = some h) (hh5 : h ≤ 5) (ho : op pc = 19) {t0 : Option Nat} (e0 : ty (at_ + (6 + h - 0)) = t0) (hb0 : 1 ≤ h) : jl_m l G m_Ck_typesFit [.ref 8, .ref a, .int (nI pc), .ref rr, .int (nI (at_))] σ (.inl (some (.int (bi (isI t0))))) (σ) := by
  obtain ⟨hW, h2, h3, h4, h5, h6, h7⟩ := id hw
  obtain ⟨hM, g1, g2, g3, g4, g5, g6, g7, g8⟩ := id hm
  have ht0 : ob 16 t0 := e0 ▸ hty _
  refine jl_of (as := [.ref 8, .ref a, .int (nI pc), .ref rr, .int (nI (at_))]) rfl (by decide) hl (jl_cc rfl (jl_cc rfl (jl_cc rfl (jl_cc rfl (jl_cc rfl jl_ca))))) (Nat.le_of_ble_eq_true rfl) ?_
  show jl_W l G m_Ck_typesFit (0, 0) 0 [some (.ref 8), some (.ref a), some (.int (nI pc)), some (.ref rr), some (.int (nI (at_))), none, none] [] (σ) (.inl (some (.int (bi (isI t0))))) (σ)
  refine jr_aload_n d_Ck_typesFit_0 rfl ?_
  refine jr_getf d_Ck_typesFit_1 f_Ck_typesFit_28 hM rfl ?_
  refine jr_iload_n d_Ck_typesFit_4 rfl ?_
  refine jr_ialdN d_Ck_typesFit_5 g2 (by omega) (by omega) ?_
  refine jr_istore d_Ck_typesFit_6 (by decide) ?_
  show jl_W l G m_Ck_typesFit (0, 0) 8 [some (.ref 8), some (.ref a), some (.int (nI pc)), some (.ref rr), some (.int (nI (at_))), some (.int (ag (pc))), none] [] (σ) (.inl (some (.int (bi (isI t0))))) (σ)
  refine jr_iload d_Ck_typesFit_8 rfl ?_
  refine jr_bipush ((nI (7))) d_Ck_typesFit_10 (by decide) ?_
  refine jr_iaddN d_Ck_typesFit_12 ?_
  refine jr_aload_n d_Ck_typesFit_13 rfl ?_
  refine jr_iload d_Ck_typesFit_14 rfl ?_
  refine jr_bipush ((nI (6))) d_Ck_typesFit_16 (by decide) ?_
  refine jr_iaddN d_Ck_typesFit_18 ?_
  refine jr_ialdQ (v := (nI (h))) d_Ck_typesFit_19 hR (by omega) (by omega) (congrArg en hh) ?_
  refine jr_iaddN d_Ck_typesFit_20 ?_
  refine jr_iconst ((nI (1))) d_Ck_typesFit_21 (by decide) ?_
  refine jr_isubN d_Ck_typesFit_22 (by omega) ?_
  refine jr_istore d_Ck_typesFit_23 (by decide) ?_
  show jl_W l G m_Ck_typesFit (0, 0) 25 [some (.ref 8), some (.ref a), some (.int (nI pc)), some (.ref rr), some (.int (nI (at_))), some (.int (ag (pc))), some (.int (nI ((((at_) + (7)) + (h)) - (1))))] [] (σ) (.inl (some (.int (bi (isI t0))))) (σ)
  refine jr_aload_n d_Ck_typesFit_25 rfl ?_
  refine jr_getf d_Ck_typesFit_26 f_Ck_typesFit_22 hM rfl ?_
  refine jr_iload_n d_Ck_typesFit_29 rfl ?_
  refine jr_ialdQ (v := (nI (19))) d_Ck_typesFit_30 g1 (by omega) (by omega) (congrArg nI ho) ?_
  refine jr_tableIn (off := 152) 183 d_Ck_typesFit_31 (by decide +kernel) (by decide +kernel) (by decide +kernel) (by decide) ?_
  refine jr_aload_n d_Ck_typesFit_183 rfl ?_
  refine jr_iload d_Ck_typesFit_184 rfl ?_
  refine jr_ialdQ (v := (en t0)) d_Ck_typesFit_186 hR (by omega) (by omega) ((congrArg (fun j => en (ty j)) (show (((at_) + (7)) + (h)) - (1) = at_ + (6 + h - 0) by omega)).trans (congrArg en e0)) ?_
  refine jr_if_ne 194 d_Ck_typesFit_187 (by decide) (fun c1 => ?_) (fun c1 => ?_)
  · refine jr_iconst ((nI (0))) d_Ck_typesFit_194 (by decide) ?_
    exact jr_zretE d_Ck_typesFit_195 rfl (by decide) (bo0 (by first | (simp [isO, isI_n (by assumption) c1]; done) | (simp [isO, isI_n (by assumption) c1]; omega))) (rfl) (by decide) (by decide)
  · refine jr_iconst ((nI (1))) d_Ck_typesFit_190 (by decide) ?_
    refine jr_goto 195 d_Ck_typesFit_191 (by decide) ?_
    exact jr_zretE d_Ck_typesFit_195 rfl (by decide) (bo1 (by first | (simp [isO, isI_y (by assumption) c1]; done) | (simp [isO, isI_y (by assumption) c1]; omega))) (rfl) (by decide) (by decide)
theorem d_Ck_typesFit_339 : decode m_Ck_typesFit.2.1 339 = .ok (.aload_n 0, 1) := by decide +kernel
theorem d_Ck_typesFit_340 : decode m_Ck_typesFit.2.1 340 = .ok (.getfield 9, 3) := by decide +kernel
theorem d_Ck_typesFit_343 : decode m_Ck_typesFit.2.1 343 = .ok (.aload_n 3, 1) := by decide +kernel
theorem d_Ck_typesFit_344 : decode m_Ck_typesFit.2.1 344 = .ok (.iload 6, 2) := by decide +kernel
theorem d_Ck_typesFit_346 : decode m_Ck_typesFit.2.1 346 = .ok (.iconst 1, 1) := by decide +kernel
theorem d_Ck_typesFit_347 : decode m_Ck_typesFit.2.1 347 = .ok (.isub, 1) := by decide +kernel
theorem d_Ck_typesFit_348 : decode m_Ck_typesFit.2.1 348 = .ok (.iaload, 1) := by decide +kernel
theorem d_Ck_typesFit_349 : decode m_Ck_typesFit.2.1 349 = .ok (.iconst 1, 1) := by decide +kernel
theorem d_Ck_typesFit_350 : decode m_Ck_typesFit.2.1 350 = .ok (.invokevirtual 89, 3) := by decide +kernel
theorem d_Ck_typesFit_353 : decode m_Ck_typesFit.2.1 353 = .ok (.ifCond .eq 14, 3) := by decide +kernel
theorem d_Ck_typesFit_367 : decode m_Ck_typesFit.2.1 367 = .ok (.iconst 0, 1) := by decide +kernel
theorem d_Ck_typesFit_368 : decode m_Ck_typesFit.2.1 368 = .ok (.ireturn, 1) := by decide +kernel
theorem d_Ck_typesFit_356 : decode m_Ck_typesFit.2.1 356 = .ok (.aload_n 3, 1) := by decide +kernel
theorem d_Ck_typesFit_357 : decode m_Ck_typesFit.2.1 357 = .ok (.iload 6, 2) := by decide +kernel
theorem d_Ck_typesFit_359 : decode m_Ck_typesFit.2.1 359 = .ok (.iaload, 1) := by decide +kernel
theorem d_Ck_typesFit_360 : decode m_Ck_typesFit.2.1 360 = .ok (.ifCond .ne 7, 3) := by decide +kernel
theorem d_Ck_typesFit_363 : decode m_Ck_typesFit.2.1 363 = .ok (.iconst 1, 1) := by decide +kernel
theorem d_Ck_typesFit_364 : decode m_Ck_typesFit.2.1 364 = .ok (.goto 4, 3) := by decide +kernel
theorem ck_ty_20 (hl : l.stackTraces = false) {pc at_ h : Nat} (hc : CkAt σ) (hw : WoAt σ tb pr ow fi ft mt) (hm : MeAt σ a q1 q2 rs op ag sz fr tt tg kd nc mp fh) (hok : WoOk tb pr ow fi) (hsg : SgC σ tb pr mt sg) (hR : σ[rr]? = some (.inl (0, N, .inl fun j => en (ty j)))) (hN : N ≤ 144) (hty : ∀ j, ob 16 (ty j)) (hop : op pc < 26) (hpc : pc < 24) (hat : at_ + 12 ≤ N) (hh : ty (at_ + 6) = some h) (hh5 : h ≤ 5) (ho : op pc = 20) {t0 : Option Nat} (e0 : ty (at_ + (6 + h - 0)) = t0) (hb0 : 1 ≤ h) {t1 : Option Nat} (e1 : ty (at_ + (6 + h - 1)) = t1) (hb1 : 2 ≤ h) : jl_m l G m_Ck_typesFit [.ref 8, .ref a, .int (nI pc), .ref rr, .int (nI (at_))] σ (.inl (some (.int (bi (part pr t1 (some 1) && isI t0))))) (σ) := by
  obtain ⟨hW, h2, h3, h4, h5, h6, h7⟩ := id hw
  obtain ⟨hM, g1, g2, g3, g4, g5, g6, g7, g8⟩ := id hm
  have ht0 : ob 16 t0 := e0 ▸ hty _
  have ht1 : ob 16 t1 := e1 ▸ hty _
  refine jl_of (as := [.ref 8, .ref a, .int (nI pc), .ref rr, .int (nI (at_))]) rfl (by decide) hl (jl_cc rfl (jl_cc rfl (jl_cc rfl (jl_cc rfl (jl_cc rfl jl_ca))))) (Nat.le_of_ble_eq_true rfl) ?_
  show jl_W l G m_Ck_typesFit (0, 0) 0 [some (.ref 8), some (.ref a), some (.int (nI pc)), some (.ref rr), some (.int (nI (at_))), none, none] [] (σ) (.inl (some (.int (bi (part pr t1 (some 1) && isI t0))))) (σ)
  refine jr_aload_n d_Ck_typesFit_0 rfl ?_
  refine jr_getf d_Ck_typesFit_1 f_Ck_typesFit_28 hM rfl ?_
  refine jr_iload_n d_Ck_typesFit_4 rfl ?_
  refine jr_ialdN d_Ck_typesFit_5 g2 (by omega) (by omega) ?_
  refine jr_istore d_Ck_typesFit_6 (by decide) ?_
  show jl_W l G m_Ck_typesFit (0, 0) 8 [some (.ref 8), some (.ref a), some (.int (nI pc)), some (.ref rr), some (.int (nI (at_))), some (.int (ag (pc))), none] [] (σ) (.inl (some (.int (bi (part pr t1 (some 1) && isI t0))))) (σ)
  refine jr_iload d_Ck_typesFit_8 rfl ?_
  refine jr_bipush ((nI (7))) d_Ck_typesFit_10 (by decide) ?_
  refine jr_iaddN d_Ck_typesFit_12 ?_
  refine jr_aload_n d_Ck_typesFit_13 rfl ?_
  refine jr_iload d_Ck_typesFit_14 rfl ?_
  refine jr_bipush ((nI (6))) d_Ck_typesFit_16 (by decide) ?_
  refine jr_iaddN d_Ck_typesFit_18 ?_
  refine jr_ialdQ (v := (nI (h))) d_Ck_typesFit_19 hR (by omega) (by omega) (congrArg en hh) ?_
  refine jr_iaddN d_Ck_typesFit_20 ?_
  refine jr_iconst ((nI (1))) d_Ck_typesFit_21 (by decide) ?_
  refine jr_isubN d_Ck_typesFit_22 (by omega) ?_
  refine jr_istore d_Ck_typesFit_23 (by decide) ?_
  show jl_W l G m_Ck_typesFit (0, 0) 25 [some (.ref 8), some (.ref a), some (.int (nI pc)), some (.ref rr), some (.int (nI (at_))), some (.int (ag (pc))), some (.int (nI ((((at_) + (7)) + (h)) - (1))))] [] (σ) (.inl (some (.int (bi (part pr t1 (some 1) && isI t0))))) (σ)
  refine jr_aload_n d_Ck_typesFit_25 rfl ?_
  refine jr_getf d_Ck_typesFit_26 f_Ck_typesFit_22 hM rfl ?_
  refine jr_iload_n d_Ck_typesFit_29 rfl ?_
  refine jr_ialdQ (v := (nI (20))) d_Ck_typesFit_30 g1 (by omega) (by omega) (congrArg nI ho) ?_
  refine jr_tableIn (off := 308) 339 d_Ck_typesFit_31 (by decide +kernel) (by decide +kernel) (by decide +kernel) (by decide) ?_
  refine jr_aload_n d_Ck_typesFit_339 rfl ?_
  refine jr_getf d_Ck_typesFit_340 f_Ck_typesFit_9 hc rfl ?_
  refine jr_aload_n d_Ck_typesFit_343 rfl ?_
  refine jr_iload d_Ck_typesFit_344 rfl ?_
  refine jr_iconst ((nI (1))) d_Ck_typesFit_346 (by decide) ?_
  refine jr_isubN d_Ck_typesFit_347 (by omega) ?_
  refine jr_ialdQ (v := (en t1)) d_Ck_typesFit_348 hR (by omega) (by omega) ((congrArg (fun j => en (ty j)) (show ((((at_) + (7)) + (h)) - (1)) - (1) = at_ + (6 + h - 1) by omega)).trans (congrArg en e1)) ?_
  refine jr_iconst ((nI (1))) d_Ck_typesFit_349 (by decide) ?_
  refine jr_callV (As := [.int (en t1), .int (nI 1)]) d_Ck_typesFit_350 k_Ck_typesFit_89 hW rfl rfl rfl (Nat.le_of_ble_eq_true rfl) (by decide) (by decide) (wo_part (x := t1) (y := some (1)) hl hw hok.1 (by first | assumption | exact hty _) (ob_s (by omega))) ?_
  show jl_W l G m_Ck_typesFit (0, 0) 353 [some (.ref 8), some (.ref a), some (.int (nI pc)), some (.ref rr), some (.int (nI (at_))), some (.int (ag (pc))), some (.int (nI ((((at_) + (7)) + (h)) - (1))))] [.int (bi (part pr t1 (some (1))))] (σ) (.inl (some (.int (bi (part pr t1 (some 1) && isI t0))))) (σ)
  refine jr_if_eq 367 d_Ck_typesFit_353 (by decide) (fun c1 => ?_) (fun c1 => ?_)
  · refine jr_iconst ((nI (0))) d_Ck_typesFit_367 (by decide) ?_
    exact jr_zretE d_Ck_typesFit_368 rfl (by decide) (bo0 (by first | (simp [isO, bi_0.mp c1]; done) | (simp [isO, bi_0.mp c1]; omega))) (rfl) (by decide) (by decide)
  · refine jr_aload_n d_Ck_typesFit_356 rfl ?_
    refine jr_iload d_Ck_typesFit_357 rfl ?_
    refine jr_ialdQ (v := (en t0)) d_Ck_typesFit_359 hR (by omega) (by omega) ((congrArg (fun j => en (ty j)) (show (((at_) + (7)) + (h)) - (1) = at_ + (6 + h - 0) by omega)).trans (congrArg en e0)) ?_
    refine jr_if_ne 367 d_Ck_typesFit_360 (by decide) (fun c2 => ?_) (fun c2 => ?_)
    · refine jr_iconst ((nI (0))) d_Ck_typesFit_367 (by decide) ?_
      exact jr_zretE d_Ck_typesFit_368 rfl (by decide) (bo0 (by first | (simp [isO, bi_nf c1, isI_n (by assumption) c2]; done) | (simp [isO, bi_nf c1, isI_n (by assumption) c2]; omega))) (rfl) (by decide) (by decide)
    · refine jr_iconst ((nI (1))) d_Ck_typesFit_363 (by decide) ?_
      refine jr_goto 368 d_Ck_typesFit_364 (by decide) ?_
      exact jr_zretE d_Ck_typesFit_368 rfl (by decide) (bo1 (by first | (simp [isO, bi_nf c1, isI_y (by assumption) c2]; done) | (simp [isO, bi_nf c1, isI_y (by assumption) c2]; omega))) (rfl) (by decide) (by decide)
theorem d_Ck_typesFit_369 : decode m_Ck_typesFit.2.1 369 = .ok (.aload_n 0, 1) := by decide +kernel
theorem d_Ck_typesFit_370 : decode m_Ck_typesFit.2.1 370 = .ok (.getfield 9, 3) := by decide +kernel
theorem d_Ck_typesFit_373 : decode m_Ck_typesFit.2.1 373 = .ok (.aload_n 3, 1) := by decide +kernel
theorem d_Ck_typesFit_374 : decode m_Ck_typesFit.2.1 374 = .ok (.iload 6, 2) := by decide +kernel
theorem d_Ck_typesFit_376 : decode m_Ck_typesFit.2.1 376 = .ok (.iconst 2, 1) := by decide +kernel
theorem d_Ck_typesFit_377 : decode m_Ck_typesFit.2.1 377 = .ok (.isub, 1) := by decide +kernel
theorem d_Ck_typesFit_378 : decode m_Ck_typesFit.2.1 378 = .ok (.iaload, 1) := by decide +kernel
theorem d_Ck_typesFit_379 : decode m_Ck_typesFit.2.1 379 = .ok (.iconst 1, 1) := by decide +kernel
theorem d_Ck_typesFit_380 : decode m_Ck_typesFit.2.1 380 = .ok (.invokevirtual 89, 3) := by decide +kernel
theorem d_Ck_typesFit_383 : decode m_Ck_typesFit.2.1 383 = .ok (.ifCond .eq 23, 3) := by decide +kernel
theorem d_Ck_typesFit_406 : decode m_Ck_typesFit.2.1 406 = .ok (.iconst 0, 1) := by decide +kernel
theorem d_Ck_typesFit_407 : decode m_Ck_typesFit.2.1 407 = .ok (.ireturn, 1) := by decide +kernel
theorem d_Ck_typesFit_386 : decode m_Ck_typesFit.2.1 386 = .ok (.aload_n 3, 1) := by decide +kernel
theorem d_Ck_typesFit_387 : decode m_Ck_typesFit.2.1 387 = .ok (.iload 6, 2) := by decide +kernel
theorem d_Ck_typesFit_389 : decode m_Ck_typesFit.2.1 389 = .ok (.iconst 1, 1) := by decide +kernel
theorem d_Ck_typesFit_390 : decode m_Ck_typesFit.2.1 390 = .ok (.isub, 1) := by decide +kernel
theorem d_Ck_typesFit_391 : decode m_Ck_typesFit.2.1 391 = .ok (.iaload, 1) := by decide +kernel
theorem d_Ck_typesFit_392 : decode m_Ck_typesFit.2.1 392 = .ok (.ifCond .ne 14, 3) := by decide +kernel
theorem d_Ck_typesFit_395 : decode m_Ck_typesFit.2.1 395 = .ok (.aload_n 3, 1) := by decide +kernel
theorem d_Ck_typesFit_396 : decode m_Ck_typesFit.2.1 396 = .ok (.iload 6, 2) := by decide +kernel
theorem d_Ck_typesFit_398 : decode m_Ck_typesFit.2.1 398 = .ok (.iaload, 1) := by decide +kernel
theorem d_Ck_typesFit_399 : decode m_Ck_typesFit.2.1 399 = .ok (.ifCond .ne 7, 3) := by decide +kernel
theorem d_Ck_typesFit_402 : decode m_Ck_typesFit.2.1 402 = .ok (.iconst 1, 1) := by decide +kernel
theorem d_Ck_typesFit_403 : decode m_Ck_typesFit.2.1 403 = .ok (.goto 4, 3) := by decide +kernel
theorem ck_ty_21 (hl : l.stackTraces = false) {pc at_ h : Nat} (hc : CkAt σ) (hw : WoAt σ tb pr ow fi ft mt) (hm : MeAt σ a q1 q2 rs op ag sz fr tt tg kd nc mp fh) (hok : WoOk tb pr ow fi) (hsg : SgC σ tb pr mt sg) (hR : σ[rr]? = some (.inl (0, N, .inl fun j => en (ty j)))) (hN : N ≤ 144) (hty : ∀ j, ob 16 (ty j)) (hop : op pc < 26) (hpc : pc < 24) (hat : at_ + 12 ≤ N) (hh : ty (at_ + 6) = some h) (hh5 : h ≤ 5) (ho : op pc = 21) {t0 : Option Nat} (e0 : ty (at_ + (6 + h - 0)) = t0) (hb0 : 1 ≤ h) {t1 : Option Nat} (e1 : ty (at_ + (6 + h - 1)) = t1) (hb1 : 2 ≤ h) {t2 : Option Nat} (e2 : ty (at_ + (6 + h - 2)) = t2) (hb2 : 3 ≤ h) : jl_m l G m_Ck_typesFit [.ref 8, .ref a, .int (nI pc), .ref rr, .int (nI (at_))] σ (.inl (some (.int (bi (part pr t2 (some 1) && (isI t1 && isI t0)))))) (σ) := by
  obtain ⟨hW, h2, h3, h4, h5, h6, h7⟩ := id hw
  obtain ⟨hM, g1, g2, g3, g4, g5, g6, g7, g8⟩ := id hm
  have ht0 : ob 16 t0 := e0 ▸ hty _
  have ht1 : ob 16 t1 := e1 ▸ hty _
  have ht2 : ob 16 t2 := e2 ▸ hty _
  refine jl_of (as := [.ref 8, .ref a, .int (nI pc), .ref rr, .int (nI (at_))]) rfl (by decide) hl (jl_cc rfl (jl_cc rfl (jl_cc rfl (jl_cc rfl (jl_cc rfl jl_ca))))) (Nat.le_of_ble_eq_true rfl) ?_
  show jl_W l G m_Ck_typesFit (0, 0) 0 [some (.ref 8), some (.ref a), some (.int (nI pc)), some (.ref rr), some (.int (nI (at_))), none, none] [] (σ) (.inl (some (.int (bi (part pr t2 (some 1) && (isI t1 && isI t0)))))) (σ)
  refine jr_aload_n d_Ck_typesFit_0 rfl ?_
  refine jr_getf d_Ck_typesFit_1 f_Ck_typesFit_28 hM rfl ?_
  refine jr_iload_n d_Ck_typesFit_4 rfl ?_
  refine jr_ialdN d_Ck_typesFit_5 g2 (by omega) (by omega) ?_
  refine jr_istore d_Ck_typesFit_6 (by decide) ?_
  show jl_W l G m_Ck_typesFit (0, 0) 8 [some (.ref 8), some (.ref a), some (.int (nI pc)), some (.ref rr), some (.int (nI (at_))), some (.int (ag (pc))), none] [] (σ) (.inl (some (.int (bi (part pr t2 (some 1) && (isI t1 && isI t0)))))) (σ)
  refine jr_iload d_Ck_typesFit_8 rfl ?_
  refine jr_bipush ((nI (7))) d_Ck_typesFit_10 (by decide) ?_
  refine jr_iaddN d_Ck_typesFit_12 ?_
  refine jr_aload_n d_Ck_typesFit_13 rfl ?_
  refine jr_iload d_Ck_typesFit_14 rfl ?_
  refine jr_bipush ((nI (6))) d_Ck_typesFit_16 (by decide) ?_
  refine jr_iaddN d_Ck_typesFit_18 ?_
  refine jr_ialdQ (v := (nI (h))) d_Ck_typesFit_19 hR (by omega) (by omega) (congrArg en hh) ?_
  refine jr_iaddN d_Ck_typesFit_20 ?_
  refine jr_iconst ((nI (1))) d_Ck_typesFit_21 (by decide) ?_
  refine jr_isubN d_Ck_typesFit_22 (by omega) ?_
  refine jr_istore d_Ck_typesFit_23 (by decide) ?_
  show jl_W l G m_Ck_typesFit (0, 0) 25 [some (.ref 8), some (.ref a), some (.int (nI pc)), some (.ref rr), some (.int (nI (at_))), some (.int (ag (pc))), some (.int (nI ((((at_) + (7)) + (h)) - (1))))] [] (σ) (.inl (some (.int (bi (part pr t2 (some 1) && (isI t1 && isI t0)))))) (σ)
  refine jr_aload_n d_Ck_typesFit_25 rfl ?_
  refine jr_getf d_Ck_typesFit_26 f_Ck_typesFit_22 hM rfl ?_
  refine jr_iload_n d_Ck_typesFit_29 rfl ?_
  refine jr_ialdQ (v := (nI (21))) d_Ck_typesFit_30 g1 (by omega) (by omega) (congrArg nI ho) ?_
  refine jr_tableIn (off := 338) 369 d_Ck_typesFit_31 (by decide +kernel) (by decide +kernel) (by decide +kernel) (by decide) ?_
  refine jr_aload_n d_Ck_typesFit_369 rfl ?_
  refine jr_getf d_Ck_typesFit_370 f_Ck_typesFit_9 hc rfl ?_
  refine jr_aload_n d_Ck_typesFit_373 rfl ?_
  refine jr_iload d_Ck_typesFit_374 rfl ?_
  refine jr_iconst ((nI (2))) d_Ck_typesFit_376 (by decide) ?_
  refine jr_isubN d_Ck_typesFit_377 (by omega) ?_
  refine jr_ialdQ (v := (en t2)) d_Ck_typesFit_378 hR (by omega) (by omega) ((congrArg (fun j => en (ty j)) (show ((((at_) + (7)) + (h)) - (1)) - (2) = at_ + (6 + h - 2) by omega)).trans (congrArg en e2)) ?_
  refine jr_iconst ((nI (1))) d_Ck_typesFit_379 (by decide) ?_
  refine jr_callV (As := [.int (en t2), .int (nI 1)]) d_Ck_typesFit_380 k_Ck_typesFit_89 hW rfl rfl rfl (Nat.le_of_ble_eq_true rfl) (by decide) (by decide) (wo_part (x := t2) (y := some (1)) hl hw hok.1 (by first | assumption | exact hty _) (ob_s (by omega))) ?_
  show jl_W l G m_Ck_typesFit (0, 0) 383 [some (.ref 8), some (.ref a), some (.int (nI pc)), some (.ref rr), some (.int (nI (at_))), some (.int (ag (pc))), some (.int (nI ((((at_) + (7)) + (h)) - (1))))] [.int (bi (part pr t2 (some (1))))] (σ) (.inl (some (.int (bi (part pr t2 (some 1) && (isI t1 && isI t0)))))) (σ)
  refine jr_if_eq 406 d_Ck_typesFit_383 (by decide) (fun c1 => ?_) (fun c1 => ?_)
  · refine jr_iconst ((nI (0))) d_Ck_typesFit_406 (by decide) ?_
    exact jr_zretE d_Ck_typesFit_407 rfl (by decide) (bo0 (by first | (simp [isO, bi_0.mp c1]; done) | (simp [isO, bi_0.mp c1]; omega))) (rfl) (by decide) (by decide)
  · refine jr_aload_n d_Ck_typesFit_386 rfl ?_
    refine jr_iload d_Ck_typesFit_387 rfl ?_
    refine jr_iconst ((nI (1))) d_Ck_typesFit_389 (by decide) ?_
    refine jr_isubN d_Ck_typesFit_390 (by omega) ?_
    refine jr_ialdQ (v := (en t1)) d_Ck_typesFit_391 hR (by omega) (by omega) ((congrArg (fun j => en (ty j)) (show ((((at_) + (7)) + (h)) - (1)) - (1) = at_ + (6 + h - 1) by omega)).trans (congrArg en e1)) ?_
    refine jr_if_ne 406 d_Ck_typesFit_392 (by decide) (fun c2 => ?_) (fun c2 => ?_)
    · refine jr_iconst ((nI (0))) d_Ck_typesFit_406 (by decide) ?_
      exact jr_zretE d_Ck_typesFit_407 rfl (by decide) (bo0 (by first | (simp [isO, bi_nf c1, isI_n (by assumption) c2]; done) | (simp [isO, bi_nf c1, isI_n (by assumption) c2]; omega))) (rfl) (by decide) (by decide)
    · refine jr_aload_n d_Ck_typesFit_395 rfl ?_
      refine jr_iload d_Ck_typesFit_396 rfl ?_
      refine jr_ialdQ (v := (en t0)) d_Ck_typesFit_398 hR (by omega) (by omega) ((congrArg (fun j => en (ty j)) (show (((at_) + (7)) + (h)) - (1) = at_ + (6 + h - 0) by omega)).trans (congrArg en e0)) ?_
      refine jr_if_ne 406 d_Ck_typesFit_399 (by decide) (fun c3 => ?_) (fun c3 => ?_)
      · refine jr_iconst ((nI (0))) d_Ck_typesFit_406 (by decide) ?_
        exact jr_zretE d_Ck_typesFit_407 rfl (by decide) (bo0 (by first | (simp [isO, bi_nf c1, isI_y (by assumption) c2, isI_n (by assumption) c3]; done) | (simp [isO, bi_nf c1, isI_y (by assumption) c2, isI_n (by assumption) c3]; omega))) (rfl) (by decide) (by decide)
      · refine jr_iconst ((nI (1))) d_Ck_typesFit_402 (by decide) ?_
        refine jr_goto 407 d_Ck_typesFit_403 (by decide) ?_
        exact jr_zretE d_Ck_typesFit_407 rfl (by decide) (bo1 (by first | (simp [isO, bi_nf c1, isI_y (by assumption) c2, isI_y (by assumption) c3]; done) | (simp [isO, bi_nf c1, isI_y (by assumption) c2, isI_y (by assumption) c3]; omega))) (rfl) (by decide) (by decide)
theorem d_Ck_typesFit_408 : decode m_Ck_typesFit.2.1 408 = .ok (.aload_n 0, 1) := by decide +kernel
theorem d_Ck_typesFit_409 : decode m_Ck_typesFit.2.1 409 = .ok (.getfield 9, 3) := by decide +kernel
theorem d_Ck_typesFit_412 : decode m_Ck_typesFit.2.1 412 = .ok (.aload_n 3, 1) := by decide +kernel
theorem d_Ck_typesFit_413 : decode m_Ck_typesFit.2.1 413 = .ok (.iload 6, 2) := by decide +kernel
theorem d_Ck_typesFit_415 : decode m_Ck_typesFit.2.1 415 = .ok (.iaload, 1) := by decide +kernel
theorem d_Ck_typesFit_416 : decode m_Ck_typesFit.2.1 416 = .ok (.iconst 1, 1) := by decide +kernel
theorem d_Ck_typesFit_417 : decode m_Ck_typesFit.2.1 417 = .ok (.invokevirtual 89, 3) := by decide +kernel
theorem d_Ck_typesFit_420 : decode m_Ck_typesFit.2.1 420 = .ok (.ireturn, 1) := by decide +kernel
theorem ck_ty_22 (hl : l.stackTraces = false) {pc at_ h : Nat} (hc : CkAt σ) (hw : WoAt σ tb pr ow fi ft mt) (hm : MeAt σ a q1 q2 rs op ag sz fr tt tg kd nc mp fh) (hok : WoOk tb pr ow fi) (hsg : SgC σ tb pr mt sg) (hR : σ[rr]? = some (.inl (0, N, .inl fun j => en (ty j)))) (hN : N ≤ 144) (hty : ∀ j, ob 16 (ty j)) (hop : op pc < 26) (hpc : pc < 24) (hat : at_ + 12 ≤ N) (hh : ty (at_ + 6) = some h) (hh5 : h ≤ 5) (ho : op pc = 22) {t0 : Option Nat} (e0 : ty (at_ + (6 + h - 0)) = t0) (hb0 : 1 ≤ h) : jl_m l G m_Ck_typesFit [.ref 8, .ref a, .int (nI pc), .ref rr, .int (nI (at_))] σ (.inl (some (.int (bi (part pr t0 (some 1)))))) (σ) := by
  obtain ⟨hW, h2, h3, h4, h5, h6, h7⟩ := id hw
  obtain ⟨hM, g1, g2, g3, g4, g5, g6, g7, g8⟩ := id hm
  have ht0 : ob 16 t0 := e0 ▸ hty _
  refine jl_of (as := [.ref 8, .ref a, .int (nI pc), .ref rr, .int (nI (at_))]) rfl (by decide) hl (jl_cc rfl (jl_cc rfl (jl_cc rfl (jl_cc rfl (jl_cc rfl jl_ca))))) (Nat.le_of_ble_eq_true rfl) ?_
  show jl_W l G m_Ck_typesFit (0, 0) 0 [some (.ref 8), some (.ref a), some (.int (nI pc)), some (.ref rr), some (.int (nI (at_))), none, none] [] (σ) (.inl (some (.int (bi (part pr t0 (some 1)))))) (σ)
  refine jr_aload_n d_Ck_typesFit_0 rfl ?_
  refine jr_getf d_Ck_typesFit_1 f_Ck_typesFit_28 hM rfl ?_
  refine jr_iload_n d_Ck_typesFit_4 rfl ?_
  refine jr_ialdN d_Ck_typesFit_5 g2 (by omega) (by omega) ?_
  refine jr_istore d_Ck_typesFit_6 (by decide) ?_
  show jl_W l G m_Ck_typesFit (0, 0) 8 [some (.ref 8), some (.ref a), some (.int (nI pc)), some (.ref rr), some (.int (nI (at_))), some (.int (ag (pc))), none] [] (σ) (.inl (some (.int (bi (part pr t0 (some 1)))))) (σ)
  refine jr_iload d_Ck_typesFit_8 rfl ?_
  refine jr_bipush ((nI (7))) d_Ck_typesFit_10 (by decide) ?_
  refine jr_iaddN d_Ck_typesFit_12 ?_
  refine jr_aload_n d_Ck_typesFit_13 rfl ?_
  refine jr_iload d_Ck_typesFit_14 rfl ?_
  refine jr_bipush ((nI (6))) d_Ck_typesFit_16 (by decide) ?_
  refine jr_iaddN d_Ck_typesFit_18 ?_
  refine jr_ialdQ (v := (nI (h))) d_Ck_typesFit_19 hR (by omega) (by omega) (congrArg en hh) ?_
  refine jr_iaddN d_Ck_typesFit_20 ?_
  refine jr_iconst ((nI (1))) d_Ck_typesFit_21 (by decide) ?_
  refine jr_isubN d_Ck_typesFit_22 (by omega) ?_
  refine jr_istore d_Ck_typesFit_23 (by decide) ?_
  show jl_W l G m_Ck_typesFit (0, 0) 25 [some (.ref 8), some (.ref a), some (.int (nI pc)), some (.ref rr), some (.int (nI (at_))), some (.int (ag (pc))), some (.int (nI ((((at_) + (7)) + (h)) - (1))))] [] (σ) (.inl (some (.int (bi (part pr t0 (some 1)))))) (σ)
  refine jr_aload_n d_Ck_typesFit_25 rfl ?_
  refine jr_getf d_Ck_typesFit_26 f_Ck_typesFit_22 hM rfl ?_
  refine jr_iload_n d_Ck_typesFit_29 rfl ?_
  refine jr_ialdQ (v := (nI (22))) d_Ck_typesFit_30 g1 (by omega) (by omega) (congrArg nI ho) ?_
  refine jr_tableIn (off := 377) 408 d_Ck_typesFit_31 (by decide +kernel) (by decide +kernel) (by decide +kernel) (by decide) ?_
  refine jr_aload_n d_Ck_typesFit_408 rfl ?_
  refine jr_getf d_Ck_typesFit_409 f_Ck_typesFit_9 hc rfl ?_
  refine jr_aload_n d_Ck_typesFit_412 rfl ?_
  refine jr_iload d_Ck_typesFit_413 rfl ?_
  refine jr_ialdQ (v := (en t0)) d_Ck_typesFit_415 hR (by omega) (by omega) ((congrArg (fun j => en (ty j)) (show (((at_) + (7)) + (h)) - (1) = at_ + (6 + h - 0) by omega)).trans (congrArg en e0)) ?_
  refine jr_iconst ((nI (1))) d_Ck_typesFit_416 (by decide) ?_
  refine jr_callV (As := [.int (en t0), .int (nI 1)]) d_Ck_typesFit_417 k_Ck_typesFit_89 hW rfl rfl rfl (Nat.le_of_ble_eq_true rfl) (by decide) (by decide) (wo_part (x := t0) (y := some (1)) hl hw hok.1 (by first | assumption | exact hty _) (ob_s (by omega))) ?_
  show jl_W l G m_Ck_typesFit (0, 0) 420 [some (.ref 8), some (.ref a), some (.int (nI pc)), some (.ref rr), some (.int (nI (at_))), some (.int (ag (pc))), some (.int (nI ((((at_) + (7)) + (h)) - (1))))] [.int (bi (part pr t0 (some (1))))] (σ) (.inl (some (.int (bi (part pr t0 (some 1)))))) (σ)
  exact jr_zretE d_Ck_typesFit_420 rfl (bi_01 _) (bov (by first | (simp [isO]; done) | (simp [isO]; omega))) (rfl) (by decide) (by decide)
theorem ck_ty_23 (hl : l.stackTraces = false) {pc at_ h : Nat} (hc : CkAt σ) (hw : WoAt σ tb pr ow fi ft mt) (hm : MeAt σ a q1 q2 rs op ag sz fr tt tg kd nc mp fh) (hok : WoOk tb pr ow fi) (hsg : SgC σ tb pr mt sg) (hR : σ[rr]? = some (.inl (0, N, .inl fun j => en (ty j)))) (hN : N ≤ 144) (hty : ∀ j, ob 16 (ty j)) (hop : op pc < 26) (hpc : pc < 24) (hat : at_ + 12 ≤ N) (hh : ty (at_ + 6) = some h) (hh5 : h ≤ 5) (ho : op pc = 23) : jl_m l G m_Ck_typesFit [.ref 8, .ref a, .int (nI pc), .ref rr, .int (nI (at_))] σ (.inl (some (.int (bi (true))))) (σ) := by
  obtain ⟨hW, h2, h3, h4, h5, h6, h7⟩ := id hw
  obtain ⟨hM, g1, g2, g3, g4, g5, g6, g7, g8⟩ := id hm
  refine jl_of (as := [.ref 8, .ref a, .int (nI pc), .ref rr, .int (nI (at_))]) rfl (by decide) hl (jl_cc rfl (jl_cc rfl (jl_cc rfl (jl_cc rfl (jl_cc rfl jl_ca))))) (Nat.le_of_ble_eq_true rfl) ?_
  show jl_W l G m_Ck_typesFit (0, 0) 0 [some (.ref 8), some (.ref a), some (.int (nI pc)), some (.ref rr), some (.int (nI (at_))), none, none] [] (σ) (.inl (some (.int (bi (true))))) (σ)
  refine jr_aload_n d_Ck_typesFit_0 rfl ?_
  refine jr_getf d_Ck_typesFit_1 f_Ck_typesFit_28 hM rfl ?_
  refine jr_iload_n d_Ck_typesFit_4 rfl ?_
  refine jr_ialdN d_Ck_typesFit_5 g2 (by omega) (by omega) ?_
  refine jr_istore d_Ck_typesFit_6 (by decide) ?_
  show jl_W l G m_Ck_typesFit (0, 0) 8 [some (.ref 8), some (.ref a), some (.int (nI pc)), some (.ref rr), some (.int (nI (at_))), some (.int (ag (pc))), none] [] (σ) (.inl (some (.int (bi (true))))) (σ)
  refine jr_iload d_Ck_typesFit_8 rfl ?_
  refine jr_bipush ((nI (7))) d_Ck_typesFit_10 (by decide) ?_
  refine jr_iaddN d_Ck_typesFit_12 ?_
  refine jr_aload_n d_Ck_typesFit_13 rfl ?_
  refine jr_iload d_Ck_typesFit_14 rfl ?_
  refine jr_bipush ((nI (6))) d_Ck_typesFit_16 (by decide) ?_
  refine jr_iaddN d_Ck_typesFit_18 ?_
  refine jr_ialdQ (v := (nI (h))) d_Ck_typesFit_19 hR (by omega) (by omega) (congrArg en hh) ?_
  refine jr_iaddN d_Ck_typesFit_20 ?_
  refine jr_iconst ((nI (1))) d_Ck_typesFit_21 (by decide) ?_
  refine jr_isubN d_Ck_typesFit_22 (by omega) ?_
  refine jr_istore d_Ck_typesFit_23 (by decide) ?_
  show jl_W l G m_Ck_typesFit (0, 0) 25 [some (.ref 8), some (.ref a), some (.int (nI pc)), some (.ref rr), some (.int (nI (at_))), some (.int (ag (pc))), some (.int (nI ((((at_) + (7)) + (h)) - (1))))] [] (σ) (.inl (some (.int (bi (true))))) (σ)
  refine jr_aload_n d_Ck_typesFit_25 rfl ?_
  refine jr_getf d_Ck_typesFit_26 f_Ck_typesFit_22 hM rfl ?_
  refine jr_iload_n d_Ck_typesFit_29 rfl ?_
  refine jr_ialdQ (v := (nI (23))) d_Ck_typesFit_30 g1 (by omega) (by omega) (congrArg nI ho) ?_
  refine jr_tableIn (off := 412) 443 d_Ck_typesFit_31 (by decide +kernel) (by decide +kernel) (by decide +kernel) (by decide) ?_
  refine jr_iconst ((nI (1))) d_Ck_typesFit_443 (by decide) ?_
  exact jr_zretE d_Ck_typesFit_444 rfl (by decide) (bo1 (by first | (simp [isO]; done) | (simp [isO]; omega))) (rfl) (by decide) (by decide)
theorem ck_ty_24 (hl : l.stackTraces = false) {pc at_ h : Nat} (hc : CkAt σ) (hw : WoAt σ tb pr ow fi ft mt) (hm : MeAt σ a q1 q2 rs op ag sz fr tt tg kd nc mp fh) (hok : WoOk tb pr ow fi) (hsg : SgC σ tb pr mt sg) (hR : σ[rr]? = some (.inl (0, N, .inl fun j => en (ty j)))) (hN : N ≤ 144) (hty : ∀ j, ob 16 (ty j)) (hop : op pc < 26) (hpc : pc < 24) (hat : at_ + 12 ≤ N) (hh : ty (at_ + 6) = some h) (hh5 : h ≤ 5) (ho : op pc = 24) : jl_m l G m_Ck_typesFit [.ref 8, .ref a, .int (nI pc), .ref rr, .int (nI (at_))] σ (.inl (some (.int (bi (true))))) (σ) := by
  obtain ⟨hW, h2, h3, h4, h5, h6, h7⟩ := id hw
  obtain ⟨hM, g1, g2, g3, g4, g5, g6, g7, g8⟩ := id hm
  refine jl_of (as := [.ref 8, .ref a, .int (nI pc), .ref rr, .int (nI (at_))]) rfl (by decide) hl (jl_cc rfl (jl_cc rfl (jl_cc rfl (jl_cc rfl (jl_cc rfl jl_ca))))) (Nat.le_of_ble_eq_true rfl) ?_
  show jl_W l G m_Ck_typesFit (0, 0) 0 [some (.ref 8), some (.ref a), some (.int (nI pc)), some (.ref rr), some (.int (nI (at_))), none, none] [] (σ) (.inl (some (.int (bi (true))))) (σ)
  refine jr_aload_n d_Ck_typesFit_0 rfl ?_
  refine jr_getf d_Ck_typesFit_1 f_Ck_typesFit_28 hM rfl ?_
  refine jr_iload_n d_Ck_typesFit_4 rfl ?_
  refine jr_ialdN d_Ck_typesFit_5 g2 (by omega) (by omega) ?_
  refine jr_istore d_Ck_typesFit_6 (by decide) ?_
  show jl_W l G m_Ck_typesFit (0, 0) 8 [some (.ref 8), some (.ref a), some (.int (nI pc)), some (.ref rr), some (.int (nI (at_))), some (.int (ag (pc))), none] [] (σ) (.inl (some (.int (bi (true))))) (σ)
  refine jr_iload d_Ck_typesFit_8 rfl ?_
  refine jr_bipush ((nI (7))) d_Ck_typesFit_10 (by decide) ?_
  refine jr_iaddN d_Ck_typesFit_12 ?_
  refine jr_aload_n d_Ck_typesFit_13 rfl ?_
  refine jr_iload d_Ck_typesFit_14 rfl ?_
  refine jr_bipush ((nI (6))) d_Ck_typesFit_16 (by decide) ?_
  refine jr_iaddN d_Ck_typesFit_18 ?_
  refine jr_ialdQ (v := (nI (h))) d_Ck_typesFit_19 hR (by omega) (by omega) (congrArg en hh) ?_
  refine jr_iaddN d_Ck_typesFit_20 ?_
  refine jr_iconst ((nI (1))) d_Ck_typesFit_21 (by decide) ?_
  refine jr_isubN d_Ck_typesFit_22 (by omega) ?_
  refine jr_istore d_Ck_typesFit_23 (by decide) ?_
  show jl_W l G m_Ck_typesFit (0, 0) 25 [some (.ref 8), some (.ref a), some (.int (nI pc)), some (.ref rr), some (.int (nI (at_))), some (.int (ag (pc))), some (.int (nI ((((at_) + (7)) + (h)) - (1))))] [] (σ) (.inl (some (.int (bi (true))))) (σ)
  refine jr_aload_n d_Ck_typesFit_25 rfl ?_
  refine jr_getf d_Ck_typesFit_26 f_Ck_typesFit_22 hM rfl ?_
  refine jr_iload_n d_Ck_typesFit_29 rfl ?_
  refine jr_ialdQ (v := (nI (24))) d_Ck_typesFit_30 g1 (by omega) (by omega) (congrArg nI ho) ?_
  refine jr_tableIn (off := 412) 443 d_Ck_typesFit_31 (by decide +kernel) (by decide +kernel) (by decide +kernel) (by decide) ?_
  refine jr_iconst ((nI (1))) d_Ck_typesFit_443 (by decide) ?_
  exact jr_zretE d_Ck_typesFit_444 rfl (by decide) (bo1 (by first | (simp [isO]; done) | (simp [isO]; omega))) (rfl) (by decide) (by decide)
theorem d_Ck_typesFit_421 : decode m_Ck_typesFit.2.1 421 = .ok (.aload_n 3, 1) := by decide +kernel
theorem d_Ck_typesFit_422 : decode m_Ck_typesFit.2.1 422 = .ok (.iload 6, 2) := by decide +kernel
theorem d_Ck_typesFit_424 : decode m_Ck_typesFit.2.1 424 = .ok (.iconst 1, 1) := by decide +kernel
theorem d_Ck_typesFit_425 : decode m_Ck_typesFit.2.1 425 = .ok (.isub, 1) := by decide +kernel
theorem d_Ck_typesFit_426 : decode m_Ck_typesFit.2.1 426 = .ok (.iaload, 1) := by decide +kernel
theorem d_Ck_typesFit_427 : decode m_Ck_typesFit.2.1 427 = .ok (.ifCond .eq 14, 3) := by decide +kernel
theorem d_Ck_typesFit_441 : decode m_Ck_typesFit.2.1 441 = .ok (.iconst 0, 1) := by decide +kernel
theorem d_Ck_typesFit_442 : decode m_Ck_typesFit.2.1 442 = .ok (.ireturn, 1) := by decide +kernel
theorem d_Ck_typesFit_430 : decode m_Ck_typesFit.2.1 430 = .ok (.aload_n 3, 1) := by decide +kernel
theorem d_Ck_typesFit_431 : decode m_Ck_typesFit.2.1 431 = .ok (.iload 6, 2) := by decide +kernel
theorem d_Ck_typesFit_433 : decode m_Ck_typesFit.2.1 433 = .ok (.iaload, 1) := by decide +kernel
theorem d_Ck_typesFit_434 : decode m_Ck_typesFit.2.1 434 = .ok (.ifCond .eq 7, 3) := by decide +kernel
theorem d_Ck_typesFit_437 : decode m_Ck_typesFit.2.1 437 = .ok (.iconst 1, 1) := by decide +kernel
theorem d_Ck_typesFit_438 : decode m_Ck_typesFit.2.1 438 = .ok (.goto 4, 3) := by decide +kernel
theorem ck_ty_25 (hl : l.stackTraces = false) {pc at_ h : Nat} (hc : CkAt σ) (hw : WoAt σ tb pr ow fi ft mt) (hm : MeAt σ a q1 q2 rs op ag sz fr tt tg kd nc mp fh) (hok : WoOk tb pr ow fi) (hsg : SgC σ tb pr mt sg) (hR : σ[rr]? = some (.inl (0, N, .inl fun j => en (ty j)))) (hN : N ≤ 144) (hty : ∀ j, ob 16 (ty j)) (hop : op pc < 26) (hpc : pc < 24) (hat : at_ + 12 ≤ N) (hh : ty (at_ + 6) = some h) (hh5 : h ≤ 5) (ho : op pc = 25) {t0 : Option Nat} (e0 : ty (at_ + (6 + h - 0)) = t0) (hb0 : 1 ≤ h) {t1 : Option Nat} (e1 : ty (at_ + (6 + h - 1)) = t1) (hb1 : 2 ≤ h) : jl_m l G m_Ck_typesFit [.ref 8, .ref a, .int (nI pc), .ref rr, .int (nI (at_))] σ (.inl (some (.int (bi (!isI t1 && !isI t0))))) (σ) := by
  obtain ⟨hW, h2, h3, h4, h5, h6, h7⟩ := id hw
  obtain ⟨hM, g1, g2, g3, g4, g5, g6, g7, g8⟩ := id hm
  have ht0 : ob 16 t0 := e0 ▸ hty _
  have ht1 : ob 16 t1 := e1 ▸ hty _
  refine jl_of (as := [.ref 8, .ref a, .int (nI pc), .ref rr, .int (nI (at_))]) rfl (by decide) hl (jl_cc rfl (jl_cc rfl (jl_cc rfl (jl_cc rfl (jl_cc rfl jl_ca))))) (Nat.le_of_ble_eq_true rfl) ?_
  show jl_W l G m_Ck_typesFit (0, 0) 0 [some (.ref 8), some (.ref a), some (.int (nI pc)), some (.ref rr), some (.int (nI (at_))), none, none] [] (σ) (.inl (some (.int (bi (!isI t1 && !isI t0))))) (σ)
  refine jr_aload_n d_Ck_typesFit_0 rfl ?_
  refine jr_getf d_Ck_typesFit_1 f_Ck_typesFit_28 hM rfl ?_
  refine jr_iload_n d_Ck_typesFit_4 rfl ?_
  refine jr_ialdN d_Ck_typesFit_5 g2 (by omega) (by omega) ?_
  refine jr_istore d_Ck_typesFit_6 (by decide) ?_
  show jl_W l G m_Ck_typesFit (0, 0) 8 [some (.ref 8), some (.ref a), some (.int (nI pc)), some (.ref rr), some (.int (nI (at_))), some (.int (ag (pc))), none] [] (σ) (.inl (some (.int (bi (!isI t1 && !isI t0))))) (σ)
  refine jr_iload d_Ck_typesFit_8 rfl ?_
  refine jr_bipush ((nI (7))) d_Ck_typesFit_10 (by decide) ?_
  refine jr_iaddN d_Ck_typesFit_12 ?_
  refine jr_aload_n d_Ck_typesFit_13 rfl ?_
  refine jr_iload d_Ck_typesFit_14 rfl ?_
  refine jr_bipush ((nI (6))) d_Ck_typesFit_16 (by decide) ?_
  refine jr_iaddN d_Ck_typesFit_18 ?_
  refine jr_ialdQ (v := (nI (h))) d_Ck_typesFit_19 hR (by omega) (by omega) (congrArg en hh) ?_
  refine jr_iaddN d_Ck_typesFit_20 ?_
  refine jr_iconst ((nI (1))) d_Ck_typesFit_21 (by decide) ?_
  refine jr_isubN d_Ck_typesFit_22 (by omega) ?_
  refine jr_istore d_Ck_typesFit_23 (by decide) ?_
  show jl_W l G m_Ck_typesFit (0, 0) 25 [some (.ref 8), some (.ref a), some (.int (nI pc)), some (.ref rr), some (.int (nI (at_))), some (.int (ag (pc))), some (.int (nI ((((at_) + (7)) + (h)) - (1))))] [] (σ) (.inl (some (.int (bi (!isI t1 && !isI t0))))) (σ)
  refine jr_aload_n d_Ck_typesFit_25 rfl ?_
  refine jr_getf d_Ck_typesFit_26 f_Ck_typesFit_22 hM rfl ?_
  refine jr_iload_n d_Ck_typesFit_29 rfl ?_
  refine jr_ialdQ (v := (nI (25))) d_Ck_typesFit_30 g1 (by omega) (by omega) (congrArg nI ho) ?_
  refine jr_tableIn (off := 390) 421 d_Ck_typesFit_31 (by decide +kernel) (by decide +kernel) (by decide +kernel) (by decide) ?_
  refine jr_aload_n d_Ck_typesFit_421 rfl ?_
  refine jr_iload d_Ck_typesFit_422 rfl ?_
  refine jr_iconst ((nI (1))) d_Ck_typesFit_424 (by decide) ?_
  refine jr_isubN d_Ck_typesFit_425 (by omega) ?_
  refine jr_ialdQ (v := (en t1)) d_Ck_typesFit_426 hR (by omega) (by omega) ((congrArg (fun j => en (ty j)) (show ((((at_) + (7)) + (h)) - (1)) - (1) = at_ + (6 + h - 1) by omega)).trans (congrArg en e1)) ?_
  refine jr_if_eq 441 d_Ck_typesFit_427 (by decide) (fun c1 => ?_) (fun c1 => ?_)
  · refine jr_iconst ((nI (0))) d_Ck_typesFit_441 (by decide) ?_
    exact jr_zretE d_Ck_typesFit_442 rfl (by decide) (bo0 (by first | (simp [isO, isI_y (by assumption) c1]; done) | (simp [isO, isI_y (by assumption) c1]; omega))) (rfl) (by decide) (by decide)
  · refine jr_aload_n d_Ck_typesFit_430 rfl ?_
    refine jr_iload d_Ck_typesFit_431 rfl ?_
    refine jr_ialdQ (v := (en t0)) d_Ck_typesFit_433 hR (by omega) (by omega) ((congrArg (fun j => en (ty j)) (show (((at_) + (7)) + (h)) - (1) = at_ + (6 + h - 0) by omega)).trans (congrArg en e0)) ?_
    refine jr_if_eq 441 d_Ck_typesFit_434 (by decide) (fun c2 => ?_) (fun c2 => ?_)
    · refine jr_iconst ((nI (0))) d_Ck_typesFit_441 (by decide) ?_
      exact jr_zretE d_Ck_typesFit_442 rfl (by decide) (bo0 (by first | (simp [isO, isI_n (by assumption) c1, isI_y (by assumption) c2]; done) | (simp [isO, isI_n (by assumption) c1, isI_y (by assumption) c2]; omega))) (rfl) (by decide) (by decide)
    · refine jr_iconst ((nI (1))) d_Ck_typesFit_437 (by decide) ?_
      refine jr_goto 442 d_Ck_typesFit_438 (by decide) ?_
      exact jr_zretE d_Ck_typesFit_442 rfl (by decide) (bo1 (by first | (simp [isO, isI_n (by assumption) c1, isI_n (by assumption) c2]; done) | (simp [isO, isI_n (by assumption) c1, isI_n (by assumption) c2]; omega))) (rfl) (by decide) (by decide)
end JCt
