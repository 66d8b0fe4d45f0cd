/-! the class Store: makeObject (wip/gen/p94.py) -/
section JSu
variable {l : Launch} {G : jl_G} {σ : jl_S}
variable {tb : Nat → Bool} {pr : Nat → Option Nat} {ow fi ft : Nat → Nat} {mt : Nat → Option Nat}
variable {ss : Nat → Nat} {sy : Nat → Option Nat} {sv : Nat → Int32} {sm : Nat}
theorem d_St_makeObject_9 : decode m_St_makeObject.2.1 9 = .ok (.iload 4, 2) := by decide +kernel
theorem d_St_makeObject_11 : decode m_St_makeObject.2.1 11 = .ok (.iload_n 3, 1) := by decide +kernel
theorem d_St_makeObject_12 : decode m_St_makeObject.2.1 12 = .ok (.if_icmp .ge 76, 3) := by decide +kernel
theorem d_St_makeObject_88 : decode m_St_makeObject.2.1 88 = .ok (.aload_n 0, 1) := by decide +kernel
theorem d_St_makeObject_89 : decode m_St_makeObject.2.1 89 = .ok (.iload_n 3, 1) := by decide +kernel
theorem k_St_makeObject_38 : jl_cv m_St_makeObject m_St_addSized 38 1 = true := by decide +kernel
theorem d_St_makeObject_90 : decode m_St_makeObject.2.1 90 = .ok (.invokevirtual 38, 3) := by decide +kernel
theorem d_St_makeObject_93 : decode m_St_makeObject.2.1 93 = .ok (.ireturn, 1) := by decide +kernel
theorem d_St_makeObject_15 : decode m_St_makeObject.2.1 15 = .ok (.aload_n 1, 1) := by decide +kernel
theorem d_St_makeObject_16 : decode m_St_makeObject.2.1 16 = .ok (.iload_n 2, 1) := by decide +kernel
theorem d_St_makeObject_17 : decode m_St_makeObject.2.1 17 = .ok (.iload 4, 2) := by decide +kernel
theorem k_St_makeObject_31 : jl_cv m_St_makeObject m_Wo_fieldType 31 2 = true := by decide +kernel
theorem d_St_makeObject_19 : decode m_St_makeObject.2.1 19 = .ok (.invokevirtual 31, 3) := by decide +kernel
theorem d_St_makeObject_22 : decode m_St_makeObject.2.1 22 = .ok (.ifCond .ne 7, 3) := by decide +kernel
theorem d_St_makeObject_29 : decode m_St_makeObject.2.1 29 = .ok (.iconst 0, 1) := by decide +kernel
theorem d_St_makeObject_30 : decode m_St_makeObject.2.1 30 = .ok (.istore 5, 2) := by decide +kernel
theorem d_St_makeObject_32 : decode m_St_makeObject.2.1 32 = .ok (.aload_n 0, 1) := by decide +kernel
theorem f_St_makeObject_15 : jl_fd m_St_makeObject 15 3 1 = true := by decide +kernel
theorem d_St_makeObject_33 : decode m_St_makeObject.2.1 33 = .ok (.getfield 15, 3) := by decide +kernel
theorem d_St_makeObject_36 : decode m_St_makeObject.2.1 36 = .ok (.aload_n 0, 1) := by decide +kernel
theorem d_St_makeObject_37 : decode m_St_makeObject.2.1 37 = .ok (.aload_n 0, 1) := by decide +kernel
theorem f_St_makeObject_21 : jl_fd m_St_makeObject 21 3 3 = true := by decide +kernel
theorem d_St_makeObject_38 : decode m_St_makeObject.2.1 38 = .ok (.getfield 21, 3) := by decide +kernel
theorem d_St_makeObject_41 : decode m_St_makeObject.2.1 41 = .ok (.iload 4, 2) := by decide +kernel
theorem k_St_makeObject_35 : jl_cv m_St_makeObject m_St_cell 35 2 = true := by decide +kernel
theorem d_St_makeObject_43 : decode m_St_makeObject.2.1 43 = .ok (.invokevirtual 35, 3) := by decide +kernel
theorem d_St_makeObject_46 : decode m_St_makeObject.2.1 46 = .ok (.iload 5, 2) := by decide +kernel
theorem d_St_makeObject_48 : decode m_St_makeObject.2.1 48 = .ok (.ifCond .eq 7, 3) := by decide +kernel
theorem d_St_makeObject_55 : decode m_St_makeObject.2.1 55 = .ok (.iconst 2, 1) := by decide +kernel
theorem d_St_makeObject_56 : decode m_St_makeObject.2.1 56 = .ok (.iastore, 1) := by decide +kernel
theorem d_St_makeObject_57 : decode m_St_makeObject.2.1 57 = .ok (.aload_n 0, 1) := by decide +kernel
theorem f_St_makeObject_18 : jl_fd m_St_makeObject 18 3 2 = true := by decide +kernel
theorem d_St_makeObject_58 : decode m_St_makeObject.2.1 58 = .ok (.getfield 18, 3) := by decide +kernel
theorem d_St_makeObject_61 : decode m_St_makeObject.2.1 61 = .ok (.aload_n 0, 1) := by decide +kernel
theorem d_St_makeObject_62 : decode m_St_makeObject.2.1 62 = .ok (.aload_n 0, 1) := by decide +kernel
theorem d_St_makeObject_63 : decode m_St_makeObject.2.1 63 = .ok (.getfield 21, 3) := by decide +kernel
theorem d_St_makeObject_66 : decode m_St_makeObject.2.1 66 = .ok (.iload 4, 2) := by decide +kernel
theorem d_St_makeObject_68 : decode m_St_makeObject.2.1 68 = .ok (.invokevirtual 35, 3) := by decide +kernel
theorem d_St_makeObject_71 : decode m_St_makeObject.2.1 71 = .ok (.iload 5, 2) := by decide +kernel
theorem d_St_makeObject_73 : decode m_St_makeObject.2.1 73 = .ok (.ifCond .eq 7, 3) := by decide +kernel
theorem d_St_makeObject_80 : decode m_St_makeObject.2.1 80 = .ok (.iconst (-1), 1) := by decide +kernel
theorem d_St_makeObject_81 : decode m_St_makeObject.2.1 81 = .ok (.iastore, 1) := by decide +kernel
theorem d_St_makeObject_82 : decode m_St_makeObject.2.1 82 = .ok (.iinc 4 1, 3) := by decide +kernel
theorem d_St_makeObject_85 : decode m_St_makeObject.2.1 85 = .ok (.goto (-76), 3) := by decide +kernel
theorem d_St_makeObject_25 : decode m_St_makeObject.2.1 25 = .ok (.iconst 1, 1) := by decide +kernel
theorem d_St_makeObject_26 : decode m_St_makeObject.2.1 26 = .ok (.goto 4, 3) := by decide +kernel
theorem d_St_makeObject_51 : decode m_St_makeObject.2.1 51 = .ok (.iconst 0, 1) := by decide +kernel
theorem d_St_makeObject_52 : decode m_St_makeObject.2.1 52 = .ok (.goto 4, 3) := by decide +kernel
theorem d_St_makeObject_76 : decode m_St_makeObject.2.1 76 = .ok (.iconst 0, 1) := by decide +kernel
theorem d_St_makeObject_77 : decode m_St_makeObject.2.1 77 = .ok (.goto 4, 3) := by decide +kernel
theorem st_obj_l (hl : l.stackTraces = false) {P : jl_O → jl_S → Prop} {k : Nat} {sy0 : Nat → Option Nat} {sv0 : Nat → Int32} {σ0 : jl_S}  (hok : WoOk tb pr ow fi) (hk : k < 6) (hm : sm < 40) (hft : ∀ k f, fty pr fi ft k f < 16) (hf18 : fi k + ow k ≤ 18) (hT : ∀ sy' sv' σ', wrt sy0 sy' (sm * 18) (fi k + ow k) (fun f => if fty pr fi ft k f = 0 then some 0 else some 2) → wrt sv0 sv' (sm * 18) (fi k + ow k) (fun f => if fty pr fi ft k f = 0 then 0 else -1) → StAt σ' (va_up ss sm (fi k + ow k)) sy' sv' (sm + 1) → FrS σ0 σ' → P (.inl (some (.int (nI sm)))) σ') : ∀ (nn : Nat) (i : Nat) (σ : jl_S) (sy : Nat → Option Nat) (sv : Nat → Int32), fi k + ow k - i < nn → i ≤ fi k + ow k → StAt σ ss sy sv sm → WoAt σ tb pr ow fi ft mt → FrS σ0 σ → wrt sy0 sy (sm * 18) i (fun f => if fty pr fi ft k f = 0 then some 0 else some 2) → wrt sv0 sv (sm * 18) i (fun f => if fty pr fi ft k f = 0 then 0 else -1) → jl_E l G m_St_makeObject (0, 0) 9 [some (.ref 14), some (.ref 1), some (.int (nI k)), some (.int (nI (fi k + ow k))), some (.int (nI i)), none] [] σ P := by
  intro nn
  induction nn with
  | zero => intro i σ sy sv hnn; exact absurd hnn (Nat.not_lt_zero _)
  | succ nn ihn =>
    intro i σ sy sv hnn hi hS hw hfr hwy hwv
    obtain ⟨s0, s1, s2, s3⟩ := id hS
    obtain ⟨hW, h2, h3, h4, h5, h6, h7⟩ := id hw
    have hfb : fi k + ow k ≤ 18 := hf18
    have hfk := hft k i
    refine er_iload d_St_makeObject_9 rfl ?_
    refine er_iload_n d_St_makeObject_11 rfl ?_
    refine er_icmp_geN 88 d_St_makeObject_12 (by decide) (by omega) (by omega) (fun c1 => ?_) (fun c1 => ?_)
    · refine er_aload_n d_St_makeObject_88 rfl ?_
      refine er_iload_n d_St_makeObject_89 rfl ?_
      refine er_callV (As := [.int (nI (fi k + ow k))]) d_St_makeObject_90 k_St_makeObject_38 s0 rfl rfl rfl (Nat.le_of_ble_eq_true rfl) (by decide) (by decide) (st_add hl hS hm) ?_
      show jl_E l G m_St_makeObject (0, 0) 93 [some (.ref 14), some (.ref 1), some (.int (nI k)), some (.int (nI (fi k + ow k))), some (.int (nI i)), none] [.int (nI sm)] ((σ.set (15) (.inl (0, 40, .inl (fun j => nI ((va_up ss sm (fi k + ow k)) j))))).set (14) (.inr (3, [.ref 15, .ref 16, .ref 17, .int (nI (sm + 1))]))) P
      exact er_iret d_St_makeObject_93 rfl (hT sy sv _ (by have z := hwy; rw [show i = fi k + ow k by omega] at z; exact z) (by have z := hwv; rw [show i = fi k + ow k by omega] at z; exact z) hS.s15.s14 ((hfr.set (by omega)).set (by omega))) (by decide) (by decide)
    · refine er_aload_n d_St_makeObject_15 rfl ?_
      refine er_iload_n d_St_makeObject_16 rfl ?_
      refine er_iload d_St_makeObject_17 rfl ?_
      refine er_callV (As := [.int (nI k), .int (nI i)]) d_St_makeObject_19 k_St_makeObject_31 hW rfl rfl rfl (Nat.le_of_ble_eq_true rfl) (by decide) (by decide) (wo_ft hl hw hok hk (by omega)) ?_
      show jl_E l G m_St_makeObject (0, 0) 22 [some (.ref 14), some (.ref 1), some (.int (nI k)), some (.int (nI (fi k + ow k))), some (.int (nI i)), none] [.int (nI (fty pr fi ft k i))] (σ) P
      refine er_if_neN 29 d_St_makeObject_22 (by decide) (by omega) (fun c2 => ?_) (fun c2 => ?_)
      · refine er_iconst ((nI (0))) d_St_makeObject_29 (by decide) ?_
        refine er_istore d_St_makeObject_30 (by decide) ?_
        show jl_E l G m_St_makeObject (0, 0) 32 [some (.ref 14), some (.ref 1), some (.int (nI k)), some (.int (nI (fi k + ow k))), some (.int (nI i)), some (.int (nI 0))] [] (σ) P
        refine er_aload_n d_St_makeObject_32 rfl ?_
        refine er_getf d_St_makeObject_33 f_St_makeObject_15 s0 rfl ?_
        refine er_aload_n d_St_makeObject_36 rfl ?_
        refine er_aload_n d_St_makeObject_37 rfl ?_
        refine er_getf d_St_makeObject_38 f_St_makeObject_21 s0 rfl ?_
        refine er_iload d_St_makeObject_41 rfl ?_
        refine er_callV (As := [.int (nI sm), .int (nI i)]) d_St_makeObject_43 k_St_makeObject_35 s0 rfl rfl rfl (Nat.le_of_ble_eq_true rfl) (by decide) (by decide) (st_cellS hl hS) ?_
        show jl_E l G m_St_makeObject (0, 0) 46 [some (.ref 14), some (.ref 1), some (.int (nI k)), some (.int (nI (fi k + ow k))), some (.int (nI i)), some (.int (nI 0))] [.int (nI (sm * 18 + i)), .ref 16] (σ) P
        refine er_iload d_St_makeObject_46 rfl ?_
        refine er_if_eq 55 d_St_makeObject_48 (by decide) (fun _ => ?_) (fun z => absurd (by decide) z)
        refine er_iconst ((nI (2))) d_St_makeObject_55 (by decide) ?_
        refine er_iastN d_St_makeObject_56 s2 (by omega) (by omega) ?_
        rw [show upd (fun j => en (sy j)) (sm * 18 + i) ((nI (2))) = (fun j => en ((va_up sy (sm * 18 + i) ((some (2)))) j)) from en_up sy (sm * 18 + i) ((some (2)))]
        show jl_E l G m_St_makeObject (0, 0) 57 [some (.ref 14), some (.ref 1), some (.int (nI k)), some (.int (nI (fi k + ow k))), some (.int (nI i)), some (.int (nI 0))] [] (σ.set (16) (.inl (0, 720, .inl (fun j => en ((va_up sy (sm * 18 + i) ((some (2)))) j))))) P
        refine er_aload_n d_St_makeObject_57 rfl ?_
        refine er_getf d_St_makeObject_58 f_St_makeObject_18 (jl_sn (by decide) s0) rfl ?_
        refine er_aload_n d_St_makeObject_61 rfl ?_
        refine er_aload_n d_St_makeObject_62 rfl ?_
        refine er_getf d_St_makeObject_63 f_St_makeObject_21 (jl_sn (by decide) s0) rfl ?_
        refine er_iload d_St_makeObject_66 rfl ?_
        refine er_callV (As := [.int (nI sm), .int (nI i)]) d_St_makeObject_68 k_St_makeObject_35 (jl_sn (by decide) s0) rfl rfl rfl (Nat.le_of_ble_eq_true rfl) (by decide) (by decide) (st_cellS hl hS.s16) ?_
        show jl_E l G m_St_makeObject (0, 0) 71 [some (.ref 14), some (.ref 1), some (.int (nI k)), some (.int (nI (fi k + ow k))), some (.int (nI i)), some (.int (nI 0))] [.int (nI (sm * 18 + i)), .ref 17] (σ.set (16) (.inl (0, 720, .inl (fun j => en ((va_up sy (sm * 18 + i) ((some (2)))) j))))) P
        refine er_iload d_St_makeObject_71 rfl ?_
        refine er_if_eq 80 d_St_makeObject_73 (by decide) (fun _ => ?_) (fun z => absurd (by decide) z)
        refine er_iconst ((-1)) d_St_makeObject_80 (by decide) ?_
        refine er_iastN d_St_makeObject_81 (jl_sn (by decide) s3) (by omega) (by omega) ?_
        show jl_E l G m_St_makeObject (0, 0) 82 [some (.ref 14), some (.ref 1), some (.int (nI k)), some (.int (nI (fi k + ow k))), some (.int (nI i)), some (.int (nI 0))] [] ((σ.set (16) (.inl (0, 720, .inl (fun j => en ((va_up sy (sm * 18 + i) ((some (2)))) j))))).set (17) (.inl (0, 720, .inl (upd (sv) (sm * 18 + i) ((-1)))))) P
        refine er_iinc ((nI (i + 1))) d_St_makeObject_82 (by decide) rfl (jl_inc _) ?_
        show jl_E l G m_St_makeObject (0, 0) 85 [some (.ref 14), some (.ref 1), some (.int (nI k)), some (.int (nI (fi k + ow k))), some (.int (nI (i + 1))), some (.int (nI 0))] [] ((σ.set (16) (.inl (0, 720, .inl (fun j => en ((va_up sy (sm * 18 + i) ((some (2)))) j))))).set (17) (.inl (0, 720, .inl (upd (sv) (sm * 18 + i) ((-1)))))) P
        refine er_goto 9 d_St_makeObject_85 (by decide) ?_
        exact er_weak (ls' := [some (.ref 14), some (.ref 1), some (.int (nI k)), some (.int (nI (fi k + ow k))), some (.int (nI (i + 1))), none]) (fun q v hv => by match q, hv with | 0, hv => exact hv | 1, hv => exact hv | 2, hv => exact hv | 3, hv => exact hv | 4, hv => exact hv | 5, hv => cases hv | q + 6, hv => cases hv) (ihn (i + 1) _ _ _ (by omega) (by omega) hS.s16.s17 (WoAt.sx (WoAt.sx hw (by decide)) (by decide)) ((hfr.set (by omega)).set (by omega)) (hwy.s (if_neg (show ¬ fty pr fi ft k i = 0 by omega)).symm) (by rw [upd_up]; exact hwv.s (if_neg (show ¬ fty pr fi ft k i = 0 by omega)).symm))
      · refine er_iconst ((nI (1))) d_St_makeObject_25 (by decide) ?_
        refine er_goto 30 d_St_makeObject_26 (by decide) ?_
        refine er_istore d_St_makeObject_30 (by decide) ?_
        show jl_E l G m_St_makeObject (0, 0) 32 [some (.ref 14), some (.ref 1), some (.int (nI k)), some (.int (nI (fi k + ow k))), some (.int (nI i)), some (.int (nI 1))] [] (σ) P
        refine er_aload_n d_St_makeObject_32 rfl ?_
        refine er_getf d_St_makeObject_33 f_St_makeObject_15 s0 rfl ?_
        refine er_aload_n d_St_makeObject_36 rfl ?_
        refine er_aload_n d_St_makeObject_37 rfl ?_
        refine er_getf d_St_makeObject_38 f_St_makeObject_21 s0 rfl ?_
        refine er_iload d_St_makeObject_41 rfl ?_
        refine er_callV (As := [.int (nI sm), .int (nI i)]) d_St_makeObject_43 k_St_makeObject_35 s0 rfl rfl rfl (Nat.le_of_ble_eq_true rfl) (by decide) (by decide) (st_cellS hl hS) ?_
        show jl_E l G m_St_makeObject (0, 0) 46 [some (.ref 14), some (.ref 1), some (.int (nI k)), some (.int (nI (fi k + ow k))), some (.int (nI i)), some (.int (nI 1))] [.int (nI (sm * 18 + i)), .ref 16] (σ) P
        refine er_iload d_St_makeObject_46 rfl ?_
        refine er_if_eq 55 d_St_makeObject_48 (by decide) (fun z => absurd z (by decide)) (fun _ => ?_)
        refine er_iconst ((nI (0))) d_St_makeObject_51 (by decide) ?_
        refine er_goto 56 d_St_makeObject_52 (by decide) ?_
        refine er_iastN d_St_makeObject_56 s2 (by omega) (by omega) ?_
        rw [show upd (fun j => en (sy j)) (sm * 18 + i) ((nI (0))) = (fun j => en ((va_up sy (sm * 18 + i) ((some (0)))) j)) from en_up sy (sm * 18 + i) ((some (0)))]
        show jl_E l G m_St_makeObject (0, 0) 57 [some (.ref 14), some (.ref 1), some (.int (nI k)), some (.int (nI (fi k + ow k))), some (.int (nI i)), some (.int (nI 1))] [] (σ.set (16) (.inl (0, 720, .inl (fun j => en ((va_up sy (sm * 18 + i) ((some (0)))) j))))) P
        refine er_aload_n d_St_makeObject_57 rfl ?_
        refine er_getf d_St_makeObject_58 f_St_makeObject_18 (jl_sn (by decide) s0) rfl ?_
        refine er_aload_n d_St_makeObject_61 rfl ?_
        refine er_aload_n d_St_makeObject_62 rfl ?_
        refine er_getf d_St_makeObject_63 f_St_makeObject_21 (jl_sn (by decide) s0) rfl ?_
        refine er_iload d_St_makeObject_66 rfl ?_
        refine er_callV (As := [.int (nI sm), .int (nI i)]) d_St_makeObject_68 k_St_makeObject_35 (jl_sn (by decide) s0) rfl rfl rfl (Nat.le_of_ble_eq_true rfl) (by decide) (by decide) (st_cellS hl hS.s16) ?_
        show jl_E l G m_St_makeObject (0, 0) 71 [some (.ref 14), some (.ref 1), some (.int (nI k)), some (.int (nI (fi k + ow k))), some (.int (nI i)), some (.int (nI 1))] [.int (nI (sm * 18 + i)), .ref 17] (σ.set (16) (.inl (0, 720, .inl (fun j => en ((va_up sy (sm * 18 + i) ((some (0)))) j))))) P
        refine er_iload d_St_makeObject_71 rfl ?_
        refine er_if_eq 80 d_St_makeObject_73 (by decide) (fun z => absurd z (by decide)) (fun _ => ?_)
        refine er_iconst ((nI (0))) d_St_makeObject_76 (by decide) ?_
        refine er_goto 81 d_St_makeObject_77 (by decide) ?_
        refine er_iastN d_St_makeObject_81 (jl_sn (by decide) s3) (by omega) (by omega) ?_
        show jl_E l G m_St_makeObject (0, 0) 82 [some (.ref 14), some (.ref 1), some (.int (nI k)), some (.int (nI (fi k + ow k))), some (.int (nI i)), some (.int (nI 1))] [] ((σ.set (16) (.inl (0, 720, .inl (fun j => en ((va_up sy (sm * 18 + i) ((some (0)))) j))))).set (17) (.inl (0, 720, .inl (upd (sv) (sm * 18 + i) ((nI (0))))))) P
        refine er_iinc ((nI (i + 1))) d_St_makeObject_82 (by decide) rfl (jl_inc _) ?_
        show jl_E l G m_St_makeObject (0, 0) 85 [some (.ref 14), some (.ref 1), some (.int (nI k)), some (.int (nI (fi k + ow k))), some (.int (nI (i + 1))), some (.int (nI 1))] [] ((σ.set (16) (.inl (0, 720, .inl (fun j => en ((va_up sy (sm * 18 + i) ((some (0)))) j))))).set (17) (.inl (0, 720, .inl (upd (sv) (sm * 18 + i) ((nI (0))))))) P
        refine er_goto 9 d_St_makeObject_85 (by decide) ?_
        exact er_weak (ls' := [some (.ref 14), some (.ref 1), some (.int (nI k)), some (.int (nI (fi k + ow k))), some (.int (nI (i + 1))), none]) (fun q v hv => by match q, hv with | 0, hv => exact hv | 1, hv => exact hv | 2, hv => exact hv | 3, hv => exact hv | 4, hv => exact hv | 5, hv => cases hv | q + 6, hv => cases hv) (ihn (i + 1) _ _ _ (by omega) (by omega) hS.s16.s17 (WoAt.sx (WoAt.sx hw (by decide)) (by decide)) ((hfr.set (by omega)).set (by omega)) (hwy.s (if_pos (show fty pr fi ft k i = 0 by omega)).symm) (by rw [upd_up]; exact hwv.s (if_pos (show fty pr fi ft k i = 0 by omega)).symm))
theorem d_St_makeObject_0 : decode m_St_makeObject.2.1 0 = .ok (.aload_n 1, 1) := by decide +kernel
theorem d_St_makeObject_1 : decode m_St_makeObject.2.1 1 = .ok (.iload_n 2, 1) := by decide +kernel
theorem k_St_makeObject_25 : jl_cv m_St_makeObject m_Wo_fieldCount 25 1 = true := by decide +kernel
theorem d_St_makeObject_2 : decode m_St_makeObject.2.1 2 = .ok (.invokevirtual 25, 3) := by decide +kernel
theorem d_St_makeObject_5 : decode m_St_makeObject.2.1 5 = .ok (.istore_n 3, 1) := by decide +kernel
theorem d_St_makeObject_6 : decode m_St_makeObject.2.1 6 = .ok (.iconst 0, 1) := by decide +kernel
theorem d_St_makeObject_7 : decode m_St_makeObject.2.1 7 = .ok (.istore 4, 2) := by decide +kernel
theorem st_obj (hl : l.stackTraces = false) {P : jl_O → jl_S → Prop} {k : Nat} (hS : StAt σ ss sy sv sm) (hw : WoAt σ tb pr ow fi ft mt) (hok : WoOk tb pr ow fi) (hk : k < 6) (hm : sm < 40) (hft : ∀ k f, fty pr fi ft k f < 16) (hf18 : fi k + ow k ≤ 18) (hT : ∀ sy' sv' σ', wrt sy sy' (sm * 18) (fi k + ow k) (fun f => if fty pr fi ft k f = 0 then some 0 else some 2) → wrt sv sv' (sm * 18) (fi k + ow k) (fun f => if fty pr fi ft k f = 0 then 0 else -1) → StAt σ' (va_up ss sm (fi k + ow k)) sy' sv' (sm + 1) → FrS σ σ' → P (.inl (some (.int (nI sm)))) σ') : jl_mE l G m_St_makeObject [.ref 14, .ref 1, .int (nI k)] σ P := by
  obtain ⟨s0, s1, s2, s3⟩ := id hS
  obtain ⟨hW, h2, h3, h4, h5, h6, h7⟩ := id hw
  refine jl_ofE (as := [.ref 14, .ref 1, .int (nI k)]) rfl (by decide) hl (jl_cc rfl (jl_cc rfl (jl_cc rfl jl_ca))) (Nat.le_of_ble_eq_true rfl) ?_
  show jl_E l G m_St_makeObject (0, 0) 0 [some (.ref 14), some (.ref 1), some (.int (nI k)), none, none, none] [] (σ) P
  refine er_aload_n d_St_makeObject_0 rfl ?_
  refine er_iload_n d_St_makeObject_1 rfl ?_
  refine er_callV (As := [.int (nI k)]) d_St_makeObject_2 k_St_makeObject_25 hW rfl rfl rfl (Nat.le_of_ble_eq_true rfl) (by decide) (by decide) (wo_fc hl hw hk) ?_
  show jl_E l G m_St_makeObject (0, 0) 5 [some (.ref 14), some (.ref 1), some (.int (nI k)), none, none, none] [.int (nI (fi k + ow k))] (σ) P
  refine er_istore_n d_St_makeObject_5 (by decide) ?_
  show jl_E l G m_St_makeObject (0, 0) 6 [some (.ref 14), some (.ref 1), some (.int (nI k)), some (.int (nI (fi k + ow k))), none, none] [] (σ) P
  refine er_iconst ((nI (0))) d_St_makeObject_6 (by decide) ?_
  refine er_istore d_St_makeObject_7 (by decide) ?_
  show jl_E l G m_St_makeObject (0, 0) 9 [some (.ref 14), some (.ref 1), some (.int (nI k)), some (.int (nI (fi k + ow k))), some (.int (nI 0)), none] [] (σ) P
  exact st_obj_l hl hok hk hm hft hf18 hT (fi k + ow k + 1) 0 σ sy sv (by omega) (by omega) hS hw FrS.refl wrt.z wrt.z
end JSu
