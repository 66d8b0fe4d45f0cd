/-! the class Verifier: start, tell (wip/gen/p71.py) -/
section JVs
variable {l : Launch} {G : jl_G} {σ : jl_S}
variable {tb : Nat → Bool} {pr : Nat → Option Nat} {ow fi ft : Nat → Nat} {mt : Nat → Option Nat}
variable {a : Nat} {q1 q2 : Option Nat} {rs : Nat} {op : Nat → Nat} {ag : Nat → Int32} {sz : Nat} {fr tt tg kd : Nat → Nat} {nc : Nat} {mp : Nat → Int32} {fh : Nat → Bool}
variable {wr wz : Int32} {bf gv jn : Nat → Option Nat} {sg : Int32 → Option Sg}
theorem d_Ve_tell_0 : decode m_Ve_tell.2.1 0 = .ok (.aload_n 0, 1) := by decide +kernel
theorem d_Ve_tell_1 : decode m_Ve_tell.2.1 1 = .ok (.sipush 1000, 3) := by decide +kernel
theorem d_Ve_tell_4 : decode m_Ve_tell.2.1 4 = .ok (.iload_n 1, 1) := by decide +kernel
theorem d_Ve_tell_5 : decode m_Ve_tell.2.1 5 = .ok (.imul, 1) := by decide +kernel
theorem d_Ve_tell_6 : decode m_Ve_tell.2.1 6 = .ok (.bipush 100, 2) := by decide +kernel
theorem d_Ve_tell_8 : decode m_Ve_tell.2.1 8 = .ok (.iload_n 2, 1) := by decide +kernel
theorem d_Ve_tell_9 : decode m_Ve_tell.2.1 9 = .ok (.imul, 1) := by decide +kernel
theorem d_Ve_tell_10 : decode m_Ve_tell.2.1 10 = .ok (.iadd, 1) := by decide +kernel
theorem d_Ve_tell_11 : decode m_Ve_tell.2.1 11 = .ok (.iload_n 3, 1) := by decide +kernel
theorem d_Ve_tell_12 : decode m_Ve_tell.2.1 12 = .ok (.iadd, 1) := by decide +kernel
theorem p_Ve_tell_21 : jl_fp m_Ve_tell 21 4 5 = true := by decide +kernel
theorem d_Ve_tell_13 : decode m_Ve_tell.2.1 13 = .ok (.putfield 21, 3) := by decide +kernel
theorem d_Ve_tell_16 : decode m_Ve_tell.2.1 16 = .ok (.aload_n 0, 1) := by decide +kernel
theorem d_Ve_tell_17 : decode m_Ve_tell.2.1 17 = .ok (.iload 4, 2) := by decide +kernel
theorem p_Ve_tell_25 : jl_fp m_Ve_tell 25 4 6 = true := by decide +kernel
theorem d_Ve_tell_19 : decode m_Ve_tell.2.1 19 = .ok (.putfield 25, 3) := by decide +kernel
theorem d_Ve_tell_22 : decode m_Ve_tell.2.1 22 = .ok (.return_, 1) := by decide +kernel
theorem ve_tell (hl : l.stackTraces = false) {k sl p f : Nat} (hV : VeAt σ wr wz)  : jl_m l G m_Ve_tell [.ref 9, .int (nI k), .int (nI sl), .int (nI p), .int (nI f)] σ (.inl none) (σ.set 9 (.inr (4, [.ref 1, .ref 8, .ref 10, .ref 11, .ref 12, .int (nI (1000 * k + 100 * sl + p)), .int (nI f)]))) := by
  refine jl_of (as := [.ref 9, .int (nI k), .int (nI sl), .int (nI p), .int (nI f)]) rfl (by decide) hl (jl_cc rfl (jl_cc rfl (jl_cc rfl (jl_cc rfl (jl_cc rfl jl_ca))))) (Nat.le_of_ble_eq_true rfl) ?_
  show jl_W l G m_Ve_tell (0, 0) 0 [some (.ref 9), some (.int (nI k)), some (.int (nI sl)), some (.int (nI p)), some (.int (nI f))] [] (σ) (.inl none) (σ.set 9 (.inr (4, [.ref 1, .ref 8, .ref 10, .ref 11, .ref 12, .int (nI (1000 * k + 100 * sl + p)), .int (nI f)])))
  refine jr_aload_n d_Ve_tell_0 rfl ?_
  refine jr_sipush ((nI (1000))) d_Ve_tell_1 (by decide) ?_
  refine jr_iload_n d_Ve_tell_4 rfl ?_
  refine jr_imulN d_Ve_tell_5 ?_
  refine jr_bipush ((nI (100))) d_Ve_tell_6 (by decide) ?_
  refine jr_iload_n d_Ve_tell_8 rfl ?_
  refine jr_imulN d_Ve_tell_9 ?_
  refine jr_iaddN d_Ve_tell_10 ?_
  refine jr_iload_n d_Ve_tell_11 rfl ?_
  refine jr_iaddN d_Ve_tell_12 ?_
  refine jr_putf d_Ve_tell_13 p_Ve_tell_21 hV (Nat.le_of_ble_eq_true rfl) jl_fit_int ?_
  show jl_W l G m_Ve_tell (0, 0) 16 [some (.ref 9), some (.int (nI k)), some (.int (nI sl)), some (.int (nI p)), some (.int (nI f))] [] (σ.set (9) (.inr (4, [.ref 1, .ref 8, .ref 10, .ref 11, .ref 12, .int (nI ((((1000) * (k)) + ((100) * (sl))) + (p))), .int (wz)]))) (.inl none) (σ.set 9 (.inr (4, [.ref 1, .ref 8, .ref 10, .ref 11, .ref 12, .int (nI (1000 * k + 100 * sl + p)), .int (nI f)])))
  refine jr_aload_n d_Ve_tell_16 rfl ?_
  refine jr_iload d_Ve_tell_17 rfl ?_
  refine jr_putf d_Ve_tell_19 p_Ve_tell_25 (jl_ss hV) (Nat.le_of_ble_eq_true rfl) jl_fit_int ?_
  show jl_W l G m_Ve_tell (0, 0) 22 [some (.ref 9), some (.int (nI k)), some (.int (nI sl)), some (.int (nI p)), some (.int (nI f))] [] ((σ.set (9) (.inr (4, [.ref 1, .ref 8, .ref 10, .ref 11, .ref 12, .int (nI ((((1000) * (k)) + ((100) * (sl))) + (p))), .int (wz)]))).set (9) (.inr (4, [.ref 1, .ref 8, .ref 10, .ref 11, .ref 12, .int (nI ((((1000) * (k)) + ((100) * (sl))) + (p))), .int (nI f)]))) (.inl none) (σ.set 9 (.inr (4, [.ref 1, .ref 8, .ref 10, .ref 11, .ref 12, .int (nI (1000 * k + 100 * sl + p)), .int (nI f)])))
  exact jr_vretE d_Ve_tell_22 rfl (rfl) (by rw [List.set_set]) (by decide) (by decide)
theorem d_Ve_classesOfTypesAreThere_2 : decode m_Ve_classesOfTypesAreThere.2.1 2 = .ok (.iload_n 3, 1) := by decide +kernel
theorem d_Ve_classesOfTypesAreThere_3 : decode m_Ve_classesOfTypesAreThere.2.1 3 = .ok (.aload_n 0, 1) := by decide +kernel
theorem f_Ve_classesOfTypesAreThere_28 : jl_fd m_Ve_classesOfTypesAreThere 28 4 0 = true := by decide +kernel
theorem d_Ve_classesOfTypesAreThere_4 : decode m_Ve_classesOfTypesAreThere.2.1 4 = .ok (.getfield 28, 3) := by decide +kernel
theorem d_Ve_classesOfTypesAreThere_7 : decode m_Ve_classesOfTypesAreThere.2.1 7 = .ok (.iload_n 2, 1) := by decide +kernel
theorem k_Ve_classesOfTypesAreThere_100 : jl_cv m_Ve_classesOfTypesAreThere m_Wo_fieldCount 100 1 = true := by decide +kernel
theorem d_Ve_classesOfTypesAreThere_8 : decode m_Ve_classesOfTypesAreThere.2.1 8 = .ok (.invokevirtual 100, 3) := by decide +kernel
theorem d_Ve_classesOfTypesAreThere_11 : decode m_Ve_classesOfTypesAreThere.2.1 11 = .ok (.if_icmp .ge 30, 3) := by decide +kernel
theorem d_Ve_classesOfTypesAreThere_41 : decode m_Ve_classesOfTypesAreThere.2.1 41 = .ok (.aload_n 0, 1) := by decide +kernel
theorem d_Ve_classesOfTypesAreThere_42 : decode m_Ve_classesOfTypesAreThere.2.1 42 = .ok (.getfield 28, 3) := by decide +kernel
theorem d_Ve_classesOfTypesAreThere_45 : decode m_Ve_classesOfTypesAreThere.2.1 45 = .ok (.aload_n 1, 1) := by decide +kernel
theorem f_Ve_classesOfTypesAreThere_112 : jl_fd m_Ve_classesOfTypesAreThere 112 2 0 = true := by decide +kernel
theorem d_Ve_classesOfTypesAreThere_46 : decode m_Ve_classesOfTypesAreThere.2.1 46 = .ok (.getfield 112, 3) := by decide +kernel
theorem k_Ve_classesOfTypesAreThere_108 : jl_cv m_Ve_classesOfTypesAreThere m_Wo_hasTypesClass 108 1 = true := by decide +kernel
theorem d_Ve_classesOfTypesAreThere_49 : decode m_Ve_classesOfTypesAreThere.2.1 49 = .ok (.invokevirtual 108, 3) := by decide +kernel
theorem d_Ve_classesOfTypesAreThere_52 : decode m_Ve_classesOfTypesAreThere.2.1 52 = .ok (.ifCond .eq 35, 3) := by decide +kernel
theorem d_Ve_classesOfTypesAreThere_87 : decode m_Ve_classesOfTypesAreThere.2.1 87 = .ok (.iconst 0, 1) := by decide +kernel
theorem d_Ve_classesOfTypesAreThere_88 : decode m_Ve_classesOfTypesAreThere.2.1 88 = .ok (.ireturn, 1) := by decide +kernel
theorem d_Ve_classesOfTypesAreThere_55 : decode m_Ve_classesOfTypesAreThere.2.1 55 = .ok (.aload_n 0, 1) := by decide +kernel
theorem d_Ve_classesOfTypesAreThere_56 : decode m_Ve_classesOfTypesAreThere.2.1 56 = .ok (.getfield 28, 3) := by decide +kernel
theorem d_Ve_classesOfTypesAreThere_59 : decode m_Ve_classesOfTypesAreThere.2.1 59 = .ok (.aload_n 1, 1) := by decide +kernel
theorem f_Ve_classesOfTypesAreThere_115 : jl_fd m_Ve_classesOfTypesAreThere 115 2 1 = true := by decide +kernel
theorem d_Ve_classesOfTypesAreThere_60 : decode m_Ve_classesOfTypesAreThere.2.1 60 = .ok (.getfield 115, 3) := by decide +kernel
theorem d_Ve_classesOfTypesAreThere_63 : decode m_Ve_classesOfTypesAreThere.2.1 63 = .ok (.invokevirtual 108, 3) := by decide +kernel
theorem d_Ve_classesOfTypesAreThere_66 : decode m_Ve_classesOfTypesAreThere.2.1 66 = .ok (.ifCond .eq 21, 3) := by decide +kernel
theorem d_Ve_classesOfTypesAreThere_69 : decode m_Ve_classesOfTypesAreThere.2.1 69 = .ok (.aload_n 0, 1) := by decide +kernel
theorem d_Ve_classesOfTypesAreThere_70 : decode m_Ve_classesOfTypesAreThere.2.1 70 = .ok (.getfield 28, 3) := by decide +kernel
theorem d_Ve_classesOfTypesAreThere_73 : decode m_Ve_classesOfTypesAreThere.2.1 73 = .ok (.aload_n 1, 1) := by decide +kernel
theorem f_Ve_classesOfTypesAreThere_118 : jl_fd m_Ve_classesOfTypesAreThere 118 2 2 = true := by decide +kernel
theorem d_Ve_classesOfTypesAreThere_74 : decode m_Ve_classesOfTypesAreThere.2.1 74 = .ok (.getfield 118, 3) := by decide +kernel
theorem d_Ve_classesOfTypesAreThere_77 : decode m_Ve_classesOfTypesAreThere.2.1 77 = .ok (.invokevirtual 108, 3) := by decide +kernel
theorem d_Ve_classesOfTypesAreThere_80 : decode m_Ve_classesOfTypesAreThere.2.1 80 = .ok (.ifCond .eq 7, 3) := by decide +kernel
theorem d_Ve_classesOfTypesAreThere_83 : decode m_Ve_classesOfTypesAreThere.2.1 83 = .ok (.iconst 1, 1) := by decide +kernel
theorem d_Ve_classesOfTypesAreThere_84 : decode m_Ve_classesOfTypesAreThere.2.1 84 = .ok (.goto 4, 3) := by decide +kernel
theorem d_Ve_classesOfTypesAreThere_14 : decode m_Ve_classesOfTypesAreThere.2.1 14 = .ok (.aload_n 0, 1) := by decide +kernel
theorem d_Ve_classesOfTypesAreThere_15 : decode m_Ve_classesOfTypesAreThere.2.1 15 = .ok (.getfield 28, 3) := by decide +kernel
theorem d_Ve_classesOfTypesAreThere_18 : decode m_Ve_classesOfTypesAreThere.2.1 18 = .ok (.aload_n 0, 1) := by decide +kernel
theorem d_Ve_classesOfTypesAreThere_19 : decode m_Ve_classesOfTypesAreThere.2.1 19 = .ok (.getfield 28, 3) := by decide +kernel
theorem d_Ve_classesOfTypesAreThere_22 : decode m_Ve_classesOfTypesAreThere.2.1 22 = .ok (.iload_n 2, 1) := by decide +kernel
theorem d_Ve_classesOfTypesAreThere_23 : decode m_Ve_classesOfTypesAreThere.2.1 23 = .ok (.iload_n 3, 1) := by decide +kernel
theorem k_Ve_classesOfTypesAreThere_104 : jl_cv m_Ve_classesOfTypesAreThere m_Wo_fieldType 104 2 = true := by decide +kernel
theorem d_Ve_classesOfTypesAreThere_24 : decode m_Ve_classesOfTypesAreThere.2.1 24 = .ok (.invokevirtual 104, 3) := by decide +kernel
theorem d_Ve_classesOfTypesAreThere_27 : decode m_Ve_classesOfTypesAreThere.2.1 27 = .ok (.invokevirtual 108, 3) := by decide +kernel
theorem d_Ve_classesOfTypesAreThere_30 : decode m_Ve_classesOfTypesAreThere.2.1 30 = .ok (.ifCond .ne 5, 3) := by decide +kernel
theorem d_Ve_classesOfTypesAreThere_35 : decode m_Ve_classesOfTypesAreThere.2.1 35 = .ok (.iinc 3 1, 3) := by decide +kernel
theorem d_Ve_classesOfTypesAreThere_38 : decode m_Ve_classesOfTypesAreThere.2.1 38 = .ok (.goto (-36), 3) := by decide +kernel
theorem d_Ve_classesOfTypesAreThere_33 : decode m_Ve_classesOfTypesAreThere.2.1 33 = .ok (.iconst 0, 1) := by decide +kernel
theorem d_Ve_classesOfTypesAreThere_34 : decode m_Ve_classesOfTypesAreThere.2.1 34 = .ok (.ireturn, 1) := by decide +kernel
theorem ve_cot_l (hl : l.stackTraces = false) {k : Nat} (hV : VeAt σ wr wz) (hw : WoAt σ tb pr ow fi ft mt) (hm : MeAt σ a q1 q2 rs op ag sz fr tt tg kd nc mp fh) (hok : WoOk tb pr ow fi) (hk : k < 6) (hft : ∀ k f, tyv (some (fty pr fi ft k f))) (hq1 : tyv q1) (hq2 : tyv q2) (hrs : rs < 16) : ∀ (nn : Nat) (i : Nat), fi k + ow k - i < nn → i ≤ fi k + ow k → jl_W l G m_Ve_classesOfTypesAreThere (0, 0) 2 [some (.ref 9), some (.ref a), some (.int (nI k)), some (.int (nI i))] [] σ (.inl (some (.int (bi (!anyC (fun f => !tyOk tb (some (fty pr fi ft k f))) (fi k + ow k - i) i && (tyOk tb q1 && (tyOk tb q2 && tyOk tb (some rs)))))))) (σ) := by
  obtain ⟨hW, h2, h3, h4, h5, h6, h7⟩ := id hw
  obtain ⟨hM, g1, g2, g3, g4, g5, g6, g7, g8⟩ := id hm
  have hfb := hok.2.2.1 k hk
  have hob := hok.2.1 k hk
  intro nn
  induction nn with
  | zero => intro i hnn; exact absurd hnn (Nat.not_lt_zero _)
  | succ nn ihn =>
    intro i hnn hi
    refine jr_iload_n d_Ve_classesOfTypesAreThere_2 rfl ?_
    refine jr_aload_n d_Ve_classesOfTypesAreThere_3 rfl ?_
    refine jr_getf d_Ve_classesOfTypesAreThere_4 f_Ve_classesOfTypesAreThere_28 hV rfl ?_
    refine jr_iload_n d_Ve_classesOfTypesAreThere_7 rfl ?_
    refine jr_callV (As := [.int (nI k)]) d_Ve_classesOfTypesAreThere_8 k_Ve_classesOfTypesAreThere_100 hW rfl rfl rfl (Nat.le_of_ble_eq_true rfl) (by decide) (by decide) (wo_fc hl hw hk) ?_
    show jl_W l G m_Ve_classesOfTypesAreThere (0, 0) 11 [some (.ref 9), some (.ref a), some (.int (nI k)), some (.int (nI i))] [.int (nI (fi k + ow k)), .int (nI i)] (σ) (.inl (some (.int (bi (!anyC (fun f => !tyOk tb (some (fty pr fi ft k f))) (fi k + ow k - i) i && (tyOk tb q1 && (tyOk tb q2 && tyOk tb (some rs)))))))) (σ)
    refine jr_icmp_geN 41 d_Ve_classesOfTypesAreThere_11 (by decide) (by omega) (by omega) (fun c1 => ?_) (fun c1 => ?_)
    · refine jr_aload_n d_Ve_classesOfTypesAreThere_41 rfl ?_
      refine jr_getf d_Ve_classesOfTypesAreThere_42 f_Ve_classesOfTypesAreThere_28 hV rfl ?_
      refine jr_aload_n d_Ve_classesOfTypesAreThere_45 rfl ?_
      refine jr_getf d_Ve_classesOfTypesAreThere_46 f_Ve_classesOfTypesAreThere_112 hM rfl ?_
      refine jr_callV (As := [.int (en q1)]) d_Ve_classesOfTypesAreThere_49 k_Ve_classesOfTypesAreThere_108 hW rfl rfl rfl (Nat.le_of_ble_eq_true rfl) (by decide) (by decide) (wo_tyok (x := q1) hl hw hq1.ob) ?_
      show jl_W l G m_Ve_classesOfTypesAreThere (0, 0) 52 [some (.ref 9), some (.ref a), some (.int (nI k)), some (.int (nI i))] [.int (bi (tyOk tb q1))] (σ) (.inl (some (.int (bi (!anyC (fun f => !tyOk tb (some (fty pr fi ft k f))) (fi k + ow k - i) i && (tyOk tb q1 && (tyOk tb q2 && tyOk tb (some rs)))))))) (σ)
      refine jr_if_eq 87 d_Ve_classesOfTypesAreThere_52 (by decide) (fun c2 => ?_) (fun c2 => ?_)
      · refine jr_iconst ((nI (0))) d_Ve_classesOfTypesAreThere_87 (by decide) ?_
        exact jr_zretE d_Ve_classesOfTypesAreThere_88 rfl (by decide) (by rw [show fi k + ow k - i = 0 by omega]; exact bo0 (by simp [anyC, bi_0.mp c2])) (rfl) (by decide) (by decide)
      · refine jr_aload_n d_Ve_classesOfTypesAreThere_55 rfl ?_
        refine jr_getf d_Ve_classesOfTypesAreThere_56 f_Ve_classesOfTypesAreThere_28 hV rfl ?_
        refine jr_aload_n d_Ve_classesOfTypesAreThere_59 rfl ?_
        refine jr_getf d_Ve_classesOfTypesAreThere_60 f_Ve_classesOfTypesAreThere_115 hM rfl ?_
        refine jr_callV (As := [.int (en q2)]) d_Ve_classesOfTypesAreThere_63 k_Ve_classesOfTypesAreThere_108 hW rfl rfl rfl (Nat.le_of_ble_eq_true rfl) (by decide) (by decide) (wo_tyok (x := q2) hl hw hq2.ob) ?_
        show jl_W l G m_Ve_classesOfTypesAreThere (0, 0) 66 [some (.ref 9), some (.ref a), some (.int (nI k)), some (.int (nI i))] [.int (bi (tyOk tb q2))] (σ) (.inl (some (.int (bi (!anyC (fun f => !tyOk tb (some (fty pr fi ft k f))) (fi k + ow k - i) i && (tyOk tb q1 && (tyOk tb q2 && tyOk tb (some rs)))))))) (σ)
        refine jr_if_eq 87 d_Ve_classesOfTypesAreThere_66 (by decide) (fun c3 => ?_) (fun c3 => ?_)
        · refine jr_iconst ((nI (0))) d_Ve_classesOfTypesAreThere_87 (by decide) ?_
          exact jr_zretE d_Ve_classesOfTypesAreThere_88 rfl (by decide) (by rw [show fi k + ow k - i = 0 by omega]; exact bo0 (by simp [anyC, bi_nf c2, bi_0.mp c3])) (rfl) (by decide) (by decide)
        · refine jr_aload_n d_Ve_classesOfTypesAreThere_69 rfl ?_
          refine jr_getf d_Ve_classesOfTypesAreThere_70 f_Ve_classesOfTypesAreThere_28 hV rfl ?_
          refine jr_aload_n d_Ve_classesOfTypesAreThere_73 rfl ?_
          refine jr_getf d_Ve_classesOfTypesAreThere_74 f_Ve_classesOfTypesAreThere_118 hM rfl ?_
          refine jr_callV (As := [.int (nI rs)]) d_Ve_classesOfTypesAreThere_77 k_Ve_classesOfTypesAreThere_108 hW rfl rfl rfl (Nat.le_of_ble_eq_true rfl) (by decide) (by decide) (wo_tyok (x := some rs) hl hw (ob_s hrs)) ?_
          show jl_W l G m_Ve_classesOfTypesAreThere (0, 0) 80 [some (.ref 9), some (.ref a), some (.int (nI k)), some (.int (nI i))] [.int (bi (tyOk tb (some rs)))] (σ) (.inl (some (.int (bi (!anyC (fun f => !tyOk tb (some (fty pr fi ft k f))) (fi k + ow k - i) i && (tyOk tb q1 && (tyOk tb q2 && tyOk tb (some rs)))))))) (σ)
          refine jr_if_eq 87 d_Ve_classesOfTypesAreThere_80 (by decide) (fun c4 => ?_) (fun c4 => ?_)
          · refine jr_iconst ((nI (0))) d_Ve_classesOfTypesAreThere_87 (by decide) ?_
            exact jr_zretE d_Ve_classesOfTypesAreThere_88 rfl (by decide) (by rw [show fi k + ow k - i = 0 by omega]; exact bo0 (by simp [anyC, bi_nf c2, bi_nf c3, bi_0.mp c4])) (rfl) (by decide) (by decide)
          · refine jr_iconst ((nI (1))) d_Ve_classesOfTypesAreThere_83 (by decide) ?_
            refine jr_goto 88 d_Ve_classesOfTypesAreThere_84 (by decide) ?_
            exact jr_zretE d_Ve_classesOfTypesAreThere_88 rfl (by decide) (by rw [show fi k + ow k - i = 0 by omega]; exact bo1 (by simp [anyC, bi_nf c2, bi_nf c3, bi_nf c4])) (rfl) (by decide) (by decide)
    · refine jr_aload_n d_Ve_classesOfTypesAreThere_14 rfl ?_
      refine jr_getf d_Ve_classesOfTypesAreThere_15 f_Ve_classesOfTypesAreThere_28 hV rfl ?_
      refine jr_aload_n d_Ve_classesOfTypesAreThere_18 rfl ?_
      refine jr_getf d_Ve_classesOfTypesAreThere_19 f_Ve_classesOfTypesAreThere_28 hV rfl ?_
      refine jr_iload_n d_Ve_classesOfTypesAreThere_22 rfl ?_
      refine jr_iload_n d_Ve_classesOfTypesAreThere_23 rfl ?_
      refine jr_callV (As := [.int (nI k), .int (nI i)]) d_Ve_classesOfTypesAreThere_24 k_Ve_classesOfTypesAreThere_104 hW rfl rfl rfl (Nat.le_of_ble_eq_true rfl) (by decide) (by decide) (wo_ft hl hw hok hk (by omega)) ?_
      show jl_W l G m_Ve_classesOfTypesAreThere (0, 0) 27 [some (.ref 9), some (.ref a), some (.int (nI k)), some (.int (nI i))] [.int (nI (fty pr fi ft k i)), .ref 1] (σ) (.inl (some (.int (bi (!anyC (fun f => !tyOk tb (some (fty pr fi ft k f))) (fi k + ow k - i) i && (tyOk tb q1 && (tyOk tb q2 && tyOk tb (some rs)))))))) (σ)
      refine jr_callV (As := [.int (nI (fty pr fi ft k i))]) d_Ve_classesOfTypesAreThere_27 k_Ve_classesOfTypesAreThere_108 hW rfl rfl rfl (Nat.le_of_ble_eq_true rfl) (by decide) (by decide) (wo_tyok (x := some (fty pr fi ft k i)) hl hw (hft _ _).ob) ?_
      show jl_W l G m_Ve_classesOfTypesAreThere (0, 0) 30 [some (.ref 9), some (.ref a), some (.int (nI k)), some (.int (nI i))] [.int (bi (tyOk tb (some (fty pr fi ft k i))))] (σ) (.inl (some (.int (bi (!anyC (fun f => !tyOk tb (some (fty pr fi ft k f))) (fi k + ow k - i) i && (tyOk tb q1 && (tyOk tb q2 && tyOk tb (some rs)))))))) (σ)
      refine jr_if_ne 35 d_Ve_classesOfTypesAreThere_30 (by decide) (fun c5 => ?_) (fun c5 => ?_)
      · refine jr_iinc ((nI (i + 1))) d_Ve_classesOfTypesAreThere_35 (by decide) rfl (jl_inc _) ?_
        show jl_W l G m_Ve_classesOfTypesAreThere (0, 0) 38 [some (.ref 9), some (.ref a), some (.int (nI k)), some (.int (nI (i + 1)))] [] (σ) (.inl (some (.int (bi (!anyC (fun f => !tyOk tb (some (fty pr fi ft k f))) (fi k + ow k - i) i && (tyOk tb q1 && (tyOk tb q2 && tyOk tb (some rs)))))))) (σ)
        refine jr_goto 2 d_Ve_classesOfTypesAreThere_38 (by decide) ?_
        exact jl_oeq (by rw [show fi k + ow k - i = (fi k + ow k - (i + 1)) + 1 by omega]; simp [anyC, bi_nf c5]) (ihn (i + 1) (by omega) (by omega))
      · refine jr_iconst ((nI (0))) d_Ve_classesOfTypesAreThere_33 (by decide) ?_
        exact jr_zretE d_Ve_classesOfTypesAreThere_34 rfl (by decide) (by rw [show fi k + ow k - i = (fi k + ow k - (i + 1)) + 1 by omega]; exact bo0 (by simp [anyC, bi_0.mp c5])) (rfl) (by decide) (by decide)
theorem d_Ve_classesOfTypesAreThere_0 : decode m_Ve_classesOfTypesAreThere.2.1 0 = .ok (.iconst 0, 1) := by decide +kernel
theorem d_Ve_classesOfTypesAreThere_1 : decode m_Ve_classesOfTypesAreThere.2.1 1 = .ok (.istore_n 3, 1) := by decide +kernel
theorem ve_cot (hl : l.stackTraces = false) {k : Nat} (hV : VeAt σ wr wz) (hw : WoAt σ tb pr ow fi ft mt) (hm : MeAt σ a q1 q2 rs op ag sz fr tt tg kd nc mp fh) (hok : WoOk tb pr ow fi) (hk : k < 6) (hft : ∀ k f, tyv (some (fty pr fi ft k f))) (hq1 : tyv q1) (hq2 : tyv q2) (hrs : rs < 16) : jl_m l G m_Ve_classesOfTypesAreThere [.ref 9, .ref a, .int (nI k)] σ (.inl (some (.int (bi (tyAll tb pr ow fi ft k q1 q2 rs))))) (σ) := by
  obtain ⟨hW, h2, h3, h4, h5, h6, h7⟩ := id hw
  obtain ⟨hM, g1, g2, g3, g4, g5, g6, g7, g8⟩ := id hm
  refine jl_of (as := [.ref 9, .ref a, .int (nI k)]) rfl (by decide) hl (jl_cc rfl (jl_cc rfl (jl_cc rfl jl_ca))) (Nat.le_of_ble_eq_true rfl) ?_
  show jl_W l G m_Ve_classesOfTypesAreThere (0, 0) 0 [some (.ref 9), some (.ref a), some (.int (nI k)), none] [] (σ) (.inl (some (.int (bi (tyAll tb pr ow fi ft k q1 q2 rs))))) (σ)
  refine jr_iconst ((nI (0))) d_Ve_classesOfTypesAreThere_0 (by decide) ?_
  refine jr_istore_n d_Ve_classesOfTypesAreThere_1 (by decide) ?_
  show jl_W l G m_Ve_classesOfTypesAreThere (0, 0) 2 [some (.ref 9), some (.ref a), some (.int (nI k)), some (.int (nI 0))] [] (σ) (.inl (some (.int (bi (tyAll tb pr ow fi ft k q1 q2 rs))))) (σ)
  exact ve_cot_l hl hV hw hm hok hk hft hq1 hq2 hrs (fi k + ow k + 1) 0 (by omega) (by omega)
theorem d_Ve_start_21 : decode m_Ve_start.2.1 21 = .ok (.aload_n 0, 1) := by decide +kernel
theorem f_Ve_start_15 : jl_fd m_Ve_start 15 4 3 = true := by decide +kernel
theorem d_Ve_start_22 : decode m_Ve_start.2.1 22 = .ok (.getfield 15, 3) := by decide +kernel
theorem d_Ve_start_25 : decode m_Ve_start.2.1 25 = .ok (.iconst 0, 1) := by decide +kernel
theorem d_Ve_start_26 : decode m_Ve_start.2.1 26 = .ok (.bipush 10, 2) := by decide +kernel
theorem d_Ve_start_28 : decode m_Ve_start.2.1 28 = .ok (.iload_n 2, 1) := by decide +kernel
theorem d_Ve_start_29 : decode m_Ve_start.2.1 29 = .ok (.iadd, 1) := by decide +kernel
theorem d_Ve_start_30 : decode m_Ve_start.2.1 30 = .ok (.iastore, 1) := by decide +kernel
theorem d_Ve_start_31 : decode m_Ve_start.2.1 31 = .ok (.aload_n 0, 1) := by decide +kernel
theorem d_Ve_start_32 : decode m_Ve_start.2.1 32 = .ok (.getfield 15, 3) := by decide +kernel
theorem d_Ve_start_35 : decode m_Ve_start.2.1 35 = .ok (.iconst 1, 1) := by decide +kernel
theorem d_Ve_start_36 : decode m_Ve_start.2.1 36 = .ok (.aload_n 1, 1) := by decide +kernel
theorem f_Ve_start_112 : jl_fd m_Ve_start 112 2 0 = true := by decide +kernel
theorem d_Ve_start_37 : decode m_Ve_start.2.1 37 = .ok (.getfield 112, 3) := by decide +kernel
theorem d_Ve_start_40 : decode m_Ve_start.2.1 40 = .ok (.iastore, 1) := by decide +kernel
theorem d_Ve_start_41 : decode m_Ve_start.2.1 41 = .ok (.aload_n 0, 1) := by decide +kernel
theorem d_Ve_start_42 : decode m_Ve_start.2.1 42 = .ok (.getfield 15, 3) := by decide +kernel
theorem d_Ve_start_45 : decode m_Ve_start.2.1 45 = .ok (.iconst 2, 1) := by decide +kernel
theorem d_Ve_start_46 : decode m_Ve_start.2.1 46 = .ok (.aload_n 1, 1) := by decide +kernel
theorem f_Ve_start_115 : jl_fd m_Ve_start 115 2 1 = true := by decide +kernel
theorem d_Ve_start_47 : decode m_Ve_start.2.1 47 = .ok (.getfield 115, 3) := by decide +kernel
theorem d_Ve_start_50 : decode m_Ve_start.2.1 50 = .ok (.iastore, 1) := by decide +kernel
theorem d_Ve_start_51 : decode m_Ve_start.2.1 51 = .ok (.aload_n 0, 1) := by decide +kernel
theorem d_Ve_start_52 : decode m_Ve_start.2.1 52 = .ok (.getfield 15, 3) := by decide +kernel
theorem d_Ve_start_55 : decode m_Ve_start.2.1 55 = .ok (.bipush 6, 2) := by decide +kernel
theorem d_Ve_start_57 : decode m_Ve_start.2.1 57 = .ok (.iconst 0, 1) := by decide +kernel
theorem d_Ve_start_58 : decode m_Ve_start.2.1 58 = .ok (.iastore, 1) := by decide +kernel
theorem d_Ve_start_59 : decode m_Ve_start.2.1 59 = .ok (.aload_n 0, 1) := by decide +kernel
theorem d_Ve_start_60 : decode m_Ve_start.2.1 60 = .ok (.aload_n 1, 1) := by decide +kernel
theorem d_Ve_start_61 : decode m_Ve_start.2.1 61 = .ok (.iconst 0, 1) := by decide +kernel
theorem k_Ve_start_121 : jl_cv m_Ve_start m_Ve_meet 121 2 = true := by decide +kernel
theorem d_Ve_start_62 : decode m_Ve_start.2.1 62 = .ok (.invokevirtual 121, 3) := by decide +kernel
theorem d_Ve_start_65 : decode m_Ve_start.2.1 65 = .ok (.pop, 1) := by decide +kernel
theorem d_Ve_start_66 : decode m_Ve_start.2.1 66 = .ok (.return_, 1) := by decide +kernel
theorem ve_start_t (hl : l.stackTraces = false) {P : jl_O → jl_S → Prop} {k : Nat} {v : Int32} {g0 : Rw} {s : MF} {σ0 : jl_S} (hvb : VB σ tb pr ow fi ft mt sg a q1 q2 rs op ag sz fr tt tg kd nc wr wz bf gv jn mp fh) (hok : WoOk tb pr ow fi) (hmt : MtOk mt) (ha : 54 ≤ a ∧ (a - 54) % 9 = 0) (hk : k < 6) (hq1 : tyv q1) (hq2 : tyv q2) (hgk : gok g0) (hA : MpC mp s.1) (hF : frp fh s.2) (hAV : AV s.1) (hA0 : s.1 0 = none) (hT : ∀ gv' jn' mp' fh' σ', gok gv' → MpC mp' (va_up s.1 0 (some (strt k q1 q2))) → frp fh' (va_up s.2 0 true) → AV (va_up s.1 0 (some (strt k q1 q2))) → VB σ' tb pr ow fi ft mt sg a q1 q2 rs op ag sz fr tt tg kd nc wr wz bf gv' jn' mp' fh' → Fr a σ0 σ' → P (.inl none) σ') (hgv : gv = stL g0 12) (hfr : Fr a σ0 σ) : jl_E l G m_Ve_start (0, 0) 21 [some (.ref 9), some (.ref a), some (.int (nI k)), some (.int (v))] [] σ P := by
  obtain ⟨hw, hc, hsg, hm, hV, hB, hG, hJ⟩ := id hvb
  obtain ⟨hW, h2, h3, h4, h5, h6, h7⟩ := id hw
  obtain ⟨hM, g1, g2, g3, g4, g5, g6, g7, g8⟩ := id hm
  refine er_aload_n d_Ve_start_21 rfl ?_
  refine er_getf d_Ve_start_22 f_Ve_start_15 hV rfl ?_
  refine er_iconst ((nI (0))) d_Ve_start_25 (by decide) ?_
  refine er_bipush ((nI (10))) d_Ve_start_26 (by decide) ?_
  refine er_iload_n d_Ve_start_28 rfl ?_
  refine er_iaddN d_Ve_start_29 ?_
  refine er_iastN d_Ve_start_30 hG (by omega) (by omega) ?_
  rw [show upd (fun j => en (gv j)) (0) ((nI ((10) + (k)))) = (fun j => en ((va_up gv (0) ((some ((10) + (k))))) j)) from en_up gv (0) ((some ((10) + (k))))]
  show jl_E l G m_Ve_start (0, 0) 31 [some (.ref 9), some (.ref a), some (.int (nI k)), some (.int (v))] [] (σ.set (11) (.inl (0, 12, .inl (fun j => en ((va_up gv (0) ((some ((10) + (k))))) j))))) P
  refine er_aload_n d_Ve_start_31 rfl ?_
  refine er_getf d_Ve_start_32 f_Ve_start_15 (jl_sn (by decide) hV) rfl ?_
  refine er_iconst ((nI (1))) d_Ve_start_35 (by decide) ?_
  refine er_aload_n d_Ve_start_36 rfl ?_
  refine er_getf d_Ve_start_37 f_Ve_start_112 (jl_sn (by omega) hM) rfl ?_
  refine er_iastN d_Ve_start_40 (jl_ss hG) (by omega) (by omega) ?_
  rw [show upd (fun j => en ((va_up gv (0) ((some ((10) + (k))))) j)) (1) ((en q1)) = (fun j => en ((va_up (va_up gv (0) ((some ((10) + (k))))) (1) (q1)) j)) from en_up (va_up gv (0) ((some ((10) + (k))))) (1) (q1)]
  show jl_E l G m_Ve_start (0, 0) 41 [some (.ref 9), some (.ref a), some (.int (nI k)), some (.int (v))] [] ((σ.set (11) (.inl (0, 12, .inl (fun j => en ((va_up gv (0) ((some ((10) + (k))))) j))))).set (11) (.inl (0, 12, .inl (fun j => en ((va_up (va_up gv (0) ((some ((10) + (k))))) (1) (q1)) j))))) P
  refine er_aload_n d_Ve_start_41 rfl ?_
  refine er_getf d_Ve_start_42 f_Ve_start_15 (jl_sn (by decide) (jl_sn (by decide) hV)) rfl ?_
  refine er_iconst ((nI (2))) d_Ve_start_45 (by decide) ?_
  refine er_aload_n d_Ve_start_46 rfl ?_
  refine er_getf d_Ve_start_47 f_Ve_start_115 (jl_sn (by omega) (jl_sn (by omega) hM)) rfl ?_
  refine er_iastN d_Ve_start_50 (jl_ss (jl_ss hG)) (by omega) (by omega) ?_
  rw [show upd (fun j => en ((va_up (va_up gv (0) ((some ((10) + (k))))) (1) (q1)) j)) (2) ((en q2)) = (fun j => en ((va_up (va_up (va_up gv (0) ((some ((10) + (k))))) (1) (q1)) (2) (q2)) j)) from en_up (va_up (va_up gv (0) ((some ((10) + (k))))) (1) (q1)) (2) (q2)]
  show jl_E l G m_Ve_start (0, 0) 51 [some (.ref 9), some (.ref a), some (.int (nI k)), some (.int (v))] [] (((σ.set (11) (.inl (0, 12, .inl (fun j => en ((va_up gv (0) ((some ((10) + (k))))) j))))).set (11) (.inl (0, 12, .inl (fun j => en ((va_up (va_up gv (0) ((some ((10) + (k))))) (1) (q1)) j))))).set (11) (.inl (0, 12, .inl (fun j => en ((va_up (va_up (va_up gv (0) ((some ((10) + (k))))) (1) (q1)) (2) (q2)) j))))) P
  refine er_aload_n d_Ve_start_51 rfl ?_
  refine er_getf d_Ve_start_52 f_Ve_start_15 (jl_sn (by decide) (jl_sn (by decide) (jl_sn (by decide) hV))) rfl ?_
  refine er_bipush ((nI (6))) d_Ve_start_55 (by decide) ?_
  refine er_iconst ((nI (0))) d_Ve_start_57 (by decide) ?_
  refine er_iastN d_Ve_start_58 (jl_ss (jl_ss (jl_ss hG))) (by omega) (by omega) ?_
  rw [show upd (fun j => en ((va_up (va_up (va_up gv (0) ((some ((10) + (k))))) (1) (q1)) (2) (q2)) j)) (6) ((nI (0))) = (fun j => en ((va_up (va_up (va_up (va_up gv (0) ((some ((10) + (k))))) (1) (q1)) (2) (q2)) (6) ((some (0)))) j)) from en_up (va_up (va_up (va_up gv (0) ((some ((10) + (k))))) (1) (q1)) (2) (q2)) (6) ((some (0)))]
  show jl_E l G m_Ve_start (0, 0) 59 [some (.ref 9), some (.ref a), some (.int (nI k)), some (.int (v))] [] ((((σ.set (11) (.inl (0, 12, .inl (fun j => en ((va_up gv (0) ((some ((10) + (k))))) j))))).set (11) (.inl (0, 12, .inl (fun j => en ((va_up (va_up gv (0) ((some ((10) + (k))))) (1) (q1)) j))))).set (11) (.inl (0, 12, .inl (fun j => en ((va_up (va_up (va_up gv (0) ((some ((10) + (k))))) (1) (q1)) (2) (q2)) j))))).set (11) (.inl (0, 12, .inl (fun j => en ((va_up (va_up (va_up (va_up gv (0) ((some ((10) + (k))))) (1) (q1)) (2) (q2)) (6) ((some (0)))) j))))) P
  refine er_aload_n d_Ve_start_59 rfl ?_
  refine er_aload_n d_Ve_start_60 rfl ?_
  refine er_iconst ((nI (0))) d_Ve_start_61 (by decide) ?_
  subst hgv
  refine er_callVE (As := [.ref a, .int (nI 0)]) d_Ve_start_62 k_Ve_start_121 (jl_sn (by decide) (jl_sn (by decide) (jl_sn (by decide) (jl_sn (by decide) hV)))) rfl rfl rfl (Nat.le_of_ble_eq_true rfl) (by decide) (by decide) (ve_meetQ (s := s) (g := strt k q1 q2) (h := 0) hl ((((hvb.s11 hmt ha).s11 hmt ha).s11 hmt ha).s11 hmt ha) hok hmt ha (by decide) hA hAV hF (rv_strC hgk hk hq1 hq2) strC_e (rv_strt hk hq1 hq2) (fun s1 jn mp fh σ e1 hA hF hAV hvb hfr1 => ⟨_, rfl, ?_⟩) (fun jn σ e1 hvb hfr1 => ⟨_, rfl, ?_⟩))
  · skip
    have hs1 : s1 = (va_up s.1 0 (some (strt k q1 q2)), va_up s.2 0 true) := by have z := e1; unfold meetA at z; rw [hA0] at z; cases z; rfl
    subst hs1
    have hfr := ((((hfr.set (by omega)).set (by omega)).set (by omega)).set (by omega)).trans hfr1
    show jl_E l G m_Ve_start (0, 0) 65 [some (.ref 9), some (.ref a), some (.int (nI k)), some (.int (v))] [.int (nI 1)] (σ) P
    refine er_pop d_Ve_start_65 rfl ?_
    exact er_vret d_Ve_start_66 rfl (hT _ jn mp fh σ (rv_strC hgk hk hq1 hq2).g hA hF hAV hvb hfr) (by decide) (by decide)
  · skip
    show jl_E l G m_Ve_start (0, 0) 65 [some (.ref 9), some (.ref a), some (.int (nI k)), some (.int (v))] [.int (nI 0)] (σ) P
    exact absurd e1 (by unfold meetA; rw [hA0]; simp)
theorem d_Ve_start_2 : decode m_Ve_start.2.1 2 = .ok (.iload_n 3, 1) := by decide +kernel
theorem d_Ve_start_3 : decode m_Ve_start.2.1 3 = .ok (.bipush 12, 2) := by decide +kernel
theorem d_Ve_start_5 : decode m_Ve_start.2.1 5 = .ok (.if_icmp .ge 16, 3) := by decide +kernel
theorem d_Ve_start_8 : decode m_Ve_start.2.1 8 = .ok (.aload_n 0, 1) := by decide +kernel
theorem d_Ve_start_9 : decode m_Ve_start.2.1 9 = .ok (.getfield 15, 3) := by decide +kernel
theorem d_Ve_start_12 : decode m_Ve_start.2.1 12 = .ok (.iload_n 3, 1) := by decide +kernel
theorem d_Ve_start_13 : decode m_Ve_start.2.1 13 = .ok (.iconst (-1), 1) := by decide +kernel
theorem d_Ve_start_14 : decode m_Ve_start.2.1 14 = .ok (.iastore, 1) := by decide +kernel
theorem d_Ve_start_15 : decode m_Ve_start.2.1 15 = .ok (.iinc 3 1, 3) := by decide +kernel
theorem d_Ve_start_18 : decode m_Ve_start.2.1 18 = .ok (.goto (-16), 3) := by decide +kernel
theorem ve_start_l (hl : l.stackTraces = false) {P : jl_O → jl_S → Prop} {k : Nat} {g0 : Rw} {s : MF} {σ0 : jl_S}  (hok : WoOk tb pr ow fi) (hmt : MtOk mt) (ha : 54 ≤ a ∧ (a - 54) % 9 = 0) (hk : k < 6) (hq1 : tyv q1) (hq2 : tyv q2) (hgk : gok g0) (hA : MpC mp s.1) (hF : frp fh s.2) (hAV : AV s.1) (hA0 : s.1 0 = none) (hT : ∀ gv' jn' mp' fh' σ', gok gv' → MpC mp' (va_up s.1 0 (some (strt k q1 q2))) → frp fh' (va_up s.2 0 true) → AV (va_up s.1 0 (some (strt k q1 q2))) → VB σ' tb pr ow fi ft mt sg a q1 q2 rs op ag sz fr tt tg kd nc wr wz bf gv' jn' mp' fh' → Fr a σ0 σ' → P (.inl none) σ') : ∀ (nn : Nat) (i : Nat) (σ : jl_S), 12 - i < nn → i ≤ 12 → VB σ tb pr ow fi ft mt sg a q1 q2 rs op ag sz fr tt tg kd nc wr wz bf (stL g0 i) jn mp fh → Fr a σ0 σ → jl_E l G m_Ve_start (0, 0) 2 [some (.ref 9), some (.ref a), some (.int (nI k)), some (.int (nI i))] [] σ P := by
  intro nn
  induction nn with
  | zero => intro i σ hnn; exact absurd hnn (Nat.not_lt_zero _)
  | succ nn ihn =>
    intro i σ hnn hi hvb hfr
    obtain ⟨hw, hc, hsg, hm, hV, hB, hG, hJ⟩ := id hvb
    obtain ⟨hW, h2, h3, h4, h5, h6, h7⟩ := id hw
    obtain ⟨hM, g1, g2, g3, g4, g5, g6, g7, g8⟩ := id hm
    refine er_iload_n d_Ve_start_2 rfl ?_
    refine er_bipush ((nI (12))) d_Ve_start_3 (by decide) ?_
    refine er_icmp_geN 21 d_Ve_start_5 (by decide) (by omega) (by omega) (fun c1 => ?_) (fun c1 => ?_)
    · exact ve_start_t hl hvb hok hmt ha hk hq1 hq2 hgk hA hF hAV hA0 hT (by rw [show i = 12 by omega]) hfr
    · refine er_aload_n d_Ve_start_8 rfl ?_
      refine er_getf d_Ve_start_9 f_Ve_start_15 hV rfl ?_
      refine er_iload_n d_Ve_start_12 rfl ?_
      refine er_iconst ((-1)) d_Ve_start_13 (by decide) ?_
      refine er_iastN d_Ve_start_14 hG (by omega) (by omega) ?_
      rw [show upd (fun j => en ((stL g0 i) j)) (i) ((-1)) = (fun j => en ((va_up (stL g0 i) (i) (none)) j)) from en_up (stL g0 i) (i) (none)]
      show jl_E l G m_Ve_start (0, 0) 15 [some (.ref 9), some (.ref a), some (.int (nI k)), some (.int (nI i))] [] (σ.set (11) (.inl (0, 12, .inl (fun j => en ((va_up (stL g0 i) (i) (none)) j))))) P
      refine er_iinc ((nI (i + 1))) d_Ve_start_15 (by decide) rfl (jl_inc _) ?_
      show jl_E l G m_Ve_start (0, 0) 18 [some (.ref 9), some (.ref a), some (.int (nI k)), some (.int (nI (i + 1)))] [] (σ.set (11) (.inl (0, 12, .inl (fun j => en ((va_up (stL g0 i) (i) (none)) j))))) P
      refine er_goto 2 d_Ve_start_18 (by decide) ?_
      exact ihn (i + 1) _ (by omega) (by omega) (by rw [← stL_s]; exact hvb.s11 hmt ha) (hfr.set (by omega))
theorem d_Ve_start_0 : decode m_Ve_start.2.1 0 = .ok (.iconst 0, 1) := by decide +kernel
theorem d_Ve_start_1 : decode m_Ve_start.2.1 1 = .ok (.istore_n 3, 1) := by decide +kernel
theorem ve_start (hl : l.stackTraces = false) {P : jl_O → jl_S → Prop} {k : Nat} {s : MF} (hvb : VB σ tb pr ow fi ft mt sg a q1 q2 rs op ag sz fr tt tg kd nc wr wz bf gv jn mp fh) (hok : WoOk tb pr ow fi) (hmt : MtOk mt) (ha : 54 ≤ a ∧ (a - 54) % 9 = 0) (hk : k < 6) (hq1 : tyv q1) (hq2 : tyv q2) (hgk : gok gv) (hA : MpC mp s.1) (hF : frp fh s.2) (hAV : AV s.1) (hA0 : s.1 0 = none) (hT : ∀ gv' jn' mp' fh' σ', gok gv' → MpC mp' (va_up s.1 0 (some (strt k q1 q2))) → frp fh' (va_up s.2 0 true) → AV (va_up s.1 0 (some (strt k q1 q2))) → VB σ' tb pr ow fi ft mt sg a q1 q2 rs op ag sz fr tt tg kd nc wr wz bf gv' jn' mp' fh' → Fr a σ σ' → P (.inl none) σ') : jl_mE l G m_Ve_start [.ref 9, .ref a, .int (nI k)] σ P := by
  obtain ⟨hw, hc, hsg, hm, hV, hB, hG, hJ⟩ := id hvb
  obtain ⟨hW, h2, h3, h4, h5, h6, h7⟩ := id hw
  obtain ⟨hM, g1, g2, g3, g4, g5, g6, g7, g8⟩ := id hm
  refine jl_ofE (as := [.ref 9, .ref a, .int (nI k)]) rfl (by decide) hl (jl_cc rfl (jl_cc rfl (jl_cc rfl jl_ca))) (Nat.le_of_ble_eq_true rfl) ?_
  show jl_E l G m_Ve_start (0, 0) 0 [some (.ref 9), some (.ref a), some (.int (nI k)), none] [] (σ) P
  refine er_iconst ((nI (0))) d_Ve_start_0 (by decide) ?_
  refine er_istore_n d_Ve_start_1 (by decide) ?_
  show jl_E l G m_Ve_start (0, 0) 2 [some (.ref 9), some (.ref a), some (.int (nI k)), some (.int (nI 0))] [] (σ) P
  exact ve_start_l hl hok hmt ha hk hq1 hq2 hgk hA hF hAV hA0 hT 13 0 σ (by omega) (by omega) (by rw [stL_0]; exact hvb) Fr.refl
end JVs
