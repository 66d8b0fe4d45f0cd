/-! the model: verifyMethod (wip/gen/p90.py) -/
section JNe
variable {l : Launch} {G : jl_G} {σ : jl_S}
variable {tb : Nat → Bool} {pr : Nat → Option Nat} {ow fi ft : Nat → Nat} {hs : Nat → Bool} {fa vf wh wy hg dp md ov oh dn an : Int32}
variable {u1 u2 : Nat → Option Nat} {ur ul uo : Nat → Nat} {ua : Nat → Int32} {uc us ut uk : Nat → Nat}
variable {lo sk kp : Rw} {mm : Nat → Int32} {fm : Nat → Bool}
variable {sg : Int32 → Option Sg}
theorem wgt_le {s : MF} (hs : AV s.1) : wgt s ≤ 24 * 401 := sm_c 24 0 (fun pc _ _ => by
  show 2 * rkA s.1 pc + (if s.2 pc then 1 else 0) ≤ 401
  have : rkA s.1 pc ≤ 200 := by
    unfold rkA
    cases h : s.1 pc with
    | none => exact Nat.le_refl _
    | some r =>
      obtain ⟨q, hr⟩ := hs pc r h
      have := rkR_le hr
      show rkR r ≤ 200
      omega
  split <;> omega)
theorem d_Mo_verifyMethod_67 : decode m_Mo_verifyMethod.2.1 67 = .ok (.iload_n 2, 1) := by decide +kernel
theorem d_Mo_verifyMethod_68 : decode m_Mo_verifyMethod.2.1 68 = .ok (.bipush 6, 2) := by decide +kernel
theorem d_Mo_verifyMethod_70 : decode m_Mo_verifyMethod.2.1 70 = .ok (.if_icmp .ge 57, 3) := by decide +kernel
theorem d_Mo_verifyMethod_127 : decode m_Mo_verifyMethod.2.1 127 = .ok (.aload_n 0, 1) := by decide +kernel
theorem d_Mo_verifyMethod_128 : decode m_Mo_verifyMethod.2.1 128 = .ok (.iconst 0, 1) := by decide +kernel
theorem p_Mo_verifyMethod_179 : jl_fp m_Mo_verifyMethod 179 7 23 = true := by decide +kernel
theorem d_Mo_verifyMethod_129 : decode m_Mo_verifyMethod.2.1 129 = .ok (.putfield 179, 3) := by decide +kernel
theorem d_Mo_verifyMethod_132 : decode m_Mo_verifyMethod.2.1 132 = .ok (.aload_n 0, 1) := by decide +kernel
theorem d_Mo_verifyMethod_133 : decode m_Mo_verifyMethod.2.1 133 = .ok (.iload_n 1, 1) := by decide +kernel
theorem d_Mo_verifyMethod_134 : decode m_Mo_verifyMethod.2.1 134 = .ok (.iconst 0, 1) := by decide +kernel
theorem k_Mo_verifyMethod_203 : jl_cv m_Mo_verifyMethod m_Mo_give 203 2 = true := by decide +kernel
theorem d_Mo_verifyMethod_135 : decode m_Mo_verifyMethod.2.1 135 = .ok (.invokevirtual 203, 3) := by decide +kernel
theorem d_Mo_verifyMethod_138 : decode m_Mo_verifyMethod.2.1 138 = .ok (.istore_n 2, 1) := by decide +kernel
theorem d_Mo_verifyMethod_139 : decode m_Mo_verifyMethod.2.1 139 = .ok (.iconst 0, 1) := by decide +kernel
theorem d_Mo_verifyMethod_140 : decode m_Mo_verifyMethod.2.1 140 = .ok (.istore_n 3, 1) := by decide +kernel
theorem d_Mo_verifyMethod_73 : decode m_Mo_verifyMethod.2.1 73 = .ok (.aload_n 0, 1) := by decide +kernel
theorem f_Mo_verifyMethod_69 : jl_fd m_Mo_verifyMethod 69 7 21 = true := by decide +kernel
theorem d_Mo_verifyMethod_74 : decode m_Mo_verifyMethod.2.1 74 = .ok (.getfield 69, 3) := by decide +kernel
theorem d_Mo_verifyMethod_77 : decode m_Mo_verifyMethod.2.1 77 = .ok (.iload_n 2, 1) := by decide +kernel
theorem d_Mo_verifyMethod_78 : decode m_Mo_verifyMethod.2.1 78 = .ok (.iload_n 2, 1) := by decide +kernel
theorem d_Mo_verifyMethod_79 : decode m_Mo_verifyMethod.2.1 79 = .ok (.ifCond .ne 12, 3) := by decide +kernel
theorem d_Mo_verifyMethod_91 : decode m_Mo_verifyMethod.2.1 91 = .ok (.iload_n 2, 1) := by decide +kernel
theorem d_Mo_verifyMethod_92 : decode m_Mo_verifyMethod.2.1 92 = .ok (.iconst 1, 1) := by decide +kernel
theorem d_Mo_verifyMethod_93 : decode m_Mo_verifyMethod.2.1 93 = .ok (.if_icmp .ne 12, 3) := by decide +kernel
theorem d_Mo_verifyMethod_105 : decode m_Mo_verifyMethod.2.1 105 = .ok (.iload_n 2, 1) := by decide +kernel
theorem d_Mo_verifyMethod_106 : decode m_Mo_verifyMethod.2.1 106 = .ok (.iconst 2, 1) := by decide +kernel
theorem d_Mo_verifyMethod_107 : decode m_Mo_verifyMethod.2.1 107 = .ok (.if_icmp .ne 12, 3) := by decide +kernel
theorem d_Mo_verifyMethod_119 : decode m_Mo_verifyMethod.2.1 119 = .ok (.iconst (-1), 1) := by decide +kernel
theorem d_Mo_verifyMethod_120 : decode m_Mo_verifyMethod.2.1 120 = .ok (.iastore, 1) := by decide +kernel
theorem d_Mo_verifyMethod_121 : decode m_Mo_verifyMethod.2.1 121 = .ok (.iinc 2 1, 3) := by decide +kernel
theorem d_Mo_verifyMethod_124 : decode m_Mo_verifyMethod.2.1 124 = .ok (.goto (-57), 3) := by decide +kernel
theorem d_Mo_verifyMethod_110 : decode m_Mo_verifyMethod.2.1 110 = .ok (.aload_n 0, 1) := by decide +kernel
theorem f_Mo_verifyMethod_29 : jl_fd m_Mo_verifyMethod 29 7 7 = true := by decide +kernel
theorem d_Mo_verifyMethod_111 : decode m_Mo_verifyMethod.2.1 111 = .ok (.getfield 29, 3) := by decide +kernel
theorem d_Mo_verifyMethod_114 : decode m_Mo_verifyMethod.2.1 114 = .ok (.iload_n 1, 1) := by decide +kernel
theorem d_Mo_verifyMethod_115 : decode m_Mo_verifyMethod.2.1 115 = .ok (.iaload, 1) := by decide +kernel
theorem d_Mo_verifyMethod_116 : decode m_Mo_verifyMethod.2.1 116 = .ok (.goto 4, 3) := by decide +kernel
theorem d_Mo_verifyMethod_96 : decode m_Mo_verifyMethod.2.1 96 = .ok (.aload_n 0, 1) := by decide +kernel
theorem f_Mo_verifyMethod_26 : jl_fd m_Mo_verifyMethod 26 7 6 = true := by decide +kernel
theorem d_Mo_verifyMethod_97 : decode m_Mo_verifyMethod.2.1 97 = .ok (.getfield 26, 3) := by decide +kernel
theorem d_Mo_verifyMethod_100 : decode m_Mo_verifyMethod.2.1 100 = .ok (.iload_n 1, 1) := by decide +kernel
theorem d_Mo_verifyMethod_101 : decode m_Mo_verifyMethod.2.1 101 = .ok (.iaload, 1) := by decide +kernel
theorem d_Mo_verifyMethod_102 : decode m_Mo_verifyMethod.2.1 102 = .ok (.goto 18, 3) := by decide +kernel
theorem d_Mo_verifyMethod_82 : decode m_Mo_verifyMethod.2.1 82 = .ok (.bipush 10, 2) := by decide +kernel
theorem d_Mo_verifyMethod_84 : decode m_Mo_verifyMethod.2.1 84 = .ok (.iload_n 1, 1) := by decide +kernel
theorem d_Mo_verifyMethod_85 : decode m_Mo_verifyMethod.2.1 85 = .ok (.iconst 4, 1) := by decide +kernel
theorem d_Mo_verifyMethod_86 : decode m_Mo_verifyMethod.2.1 86 = .ok (.idiv, 1) := by decide +kernel
theorem d_Mo_verifyMethod_87 : decode m_Mo_verifyMethod.2.1 87 = .ok (.iadd, 1) := by decide +kernel
theorem d_Mo_verifyMethod_88 : decode m_Mo_verifyMethod.2.1 88 = .ok (.goto 32, 3) := by decide +kernel
theorem mo_vm_2 (hl : l.stackTraces = false) {P : jl_O → jl_S → Prop} {m : Nat} {m0 : Nat → Int32} {σ0 : jl_S}  (hok : WoOk tb pr ow fi) (hK : MoK u1 u2 ur ul uo uc us ut uk) (hm : m < 24) (hsg : SgM tb pr hs u1 u2 ur sg) (hft : ∀ k f, tyv (some (fty pr fi ft k f))) (hsgv : ∀ x g, sg x = some g → tyv (some g.2.2)) (hq1 : tyv (u1 m)) (hq2 : tyv (u2 m)) (hq3 : tyv (some (ur m))) (hA : MpM mm m s00.1) (hmf : MmF m m0 mm) (hsk : ∀ j, ob 16 (sk j)) (hT : ∀ s', verA tb pr ow fi ft sg (fun j => uo (24 * m + j)) (fun j => ua (24 * m + j)) (ul m) (fun i => us (2 * m + i) / 32) (fun i => us (2 * m + i) % 32) (fun i => ut (2 * m + i)) (fun i => uk (2 * m + i)) (uc m) (ur m) 1000000 (va_up s00.1 0 (some (strt (m / 4) (u1 m) (u2 m))), va_up s00.2 0 true) = (none, s') → ∀ lo' sk' kp' hg' wy' mm' fm' σ', (∀ j, ob 16 (lo' j)) → (∀ j, ob 16 (sk' j)) → MpM mm' m s'.1 → MmF m m0 mm' → MB σ' tb pr ow ft hs u1 u2 ur ul uo ua uc us ut uk fa vf (nI (1000 * (m / 4) + 100 * (m % 4))) wy' hg' dp md ov oh dn an lo' sk' kp' mm' fm' → FrM σ0 σ' → P (.inl (some (.int (nI 1)))) σ') (hN : ∀ pc f s', verA tb pr ow fi ft sg (fun j => uo (24 * m + j)) (fun j => ua (24 * m + j)) (ul m) (fun i => us (2 * m + i) / 32) (fun i => us (2 * m + i) % 32) (fun i => ut (2 * m + i)) (fun i => uk (2 * m + i)) (uc m) (ur m) 1000000 (va_up s00.1 0 (some (strt (m / 4) (u1 m) (u2 m))), va_up s00.2 0 true) = (some (pc, f), s') → ∀ lo' sk' kp' hg' mm' fm' σ', (∀ j, ob 16 (lo' j)) → (∀ j, ob 16 (sk' j)) → MpM mm' m s'.1 → MmF m m0 mm' → MB σ' tb pr ow ft hs u1 u2 ur ul uo ua uc us ut uk fa vf (nI (1000 * (m / 4) + 100 * (m % 4) + pc)) (nI f) hg' dp md ov oh dn an lo' sk' kp' mm' fm' → FrM σ0 σ' → P (.inl (some (.int (nI 0)))) σ') (hF : frp fm s00.2) : ∀ (nn : Nat) (i : Nat) (σ : jl_S) (lo : Rw), 6 - i < nn → i ≤ 6 → MB σ tb pr ow ft hs u1 u2 ur ul uo ua uc us ut uk fa vf (nI (1000 * (m / 4) + 100 * (m % 4))) (nI 0) hg dp md ov oh dn an lo sk kp mm fm → FrM σ0 σ → (∀ j, j < i → lo j = (strt (m / 4) (u1 m) (u2 m)) j) → (∀ j, ob 16 (lo j)) → jl_E l G m_Mo_verifyMethod (0, 0) 67 [some (.ref 22), some (.int (nI m)), some (.int (nI i)), none] [] σ P := by
  intro nn
  induction nn with
  | zero => intro i σ lo hnn; exact absurd hnn (Nat.not_lt_zero _)
  | succ nn ihn =>
    intro i σ lo hnn hi hmb hfr hlr hlo
    obtain ⟨hO, hw, hu, hr, hkp, hmp, hfm⟩ := id hmb; obtain ⟨r1, r2⟩ := id hr
    obtain ⟨h23, h24, h25, h26, h27⟩ := id hw
    obtain ⟨h28, h29, h30, h31, h32, h33, h34, h35, h36, h37⟩ := id hu
    refine er_iload_n d_Mo_verifyMethod_67 rfl ?_
    refine er_bipush ((nI (6))) d_Mo_verifyMethod_68 (by decide) ?_
    refine er_icmp_geN 127 d_Mo_verifyMethod_70 (by decide) (by omega) (by omega) (fun c1 => ?_) (fun c1 => ?_)
    · refine er_aload_n d_Mo_verifyMethod_127 rfl ?_
      refine er_iconst ((nI (0))) d_Mo_verifyMethod_128 (by decide) ?_
      refine er_putf d_Mo_verifyMethod_129 p_Mo_verifyMethod_179 hO (Nat.le_of_ble_eq_true rfl) jl_fit_int ?_
      show jl_E l G m_Mo_verifyMethod (0, 0) 132 [some (.ref 22), some (.int (nI m)), some (.int (nI i)), none] [] (σ.set (22) (.inr (7, [.int (fa), .ref 23, .ref 24, .ref 25, .ref 26, .ref 27, .ref 28, .ref 29, .ref 30, .ref 31, .ref 32, .ref 33, .ref 34, .ref 35, .ref 36, .ref 37, .int (vf), .int (nI (1000 * (m / 4) + 100 * (m % 4))), .int (nI 0), .ref 38, .ref 39, .ref 40, .ref 41, .int (nI 0), .ref 42, .ref 43, .ref 44, .ref 45, .ref 46, .ref 47, .ref 48, .ref 49, .int (dp), .ref 50, .ref 51, .ref 52, .int (md), .int (ov), .int (oh), .int (dn), .int (an)]))) P
      refine er_aload_n d_Mo_verifyMethod_132 rfl ?_
      refine er_iload_n d_Mo_verifyMethod_133 rfl ?_
      refine er_iconst ((nI (0))) d_Mo_verifyMethod_134 (by decide) ?_
      refine er_callVE (As := [.int (nI m), .int (nI 0)]) d_Mo_verifyMethod_135 k_Mo_verifyMethod_203 (jl_ss hO) rfl rfl rfl (Nat.le_of_ble_eq_true rfl) (by decide) (by decide) (mo_give (A := s00.1) (F := s00.2) (g := (strt (m / 4) (u1 m) (u2 m))) (h := 0) hl hmb.s22 hok hm (by omega) hA hF (rv_strt (by omega) hq1 hq2) ⟨fun j hj => hlr j (by omega), fun j hj => absurd hj (Nat.not_lt_zero _)⟩ (fun _ _ z => by cases z) (fun s1 mm fm σ e1 hA hF hmf1 hmb hfr1 => ⟨_, rfl, ?_⟩) (fun e1 => ⟨_, rfl, ?_⟩))
      · skip
        have hs1 : s1 = (va_up s00.1 0 (some (strt (m / 4) (u1 m) (u2 m))), va_up s00.2 0 true) := by have z := e1; unfold meetA at z; cases z; rfl
        subst hs1
        have hfr := (hfr.set (b := 22) (c := _) (by omega)).trans hfr1
        have hmf := hmf.trans hmf1
        show jl_E l G m_Mo_verifyMethod (0, 0) 138 [some (.ref 22), some (.int (nI m)), some (.int (nI i)), none] [.int (nI 1)] (σ) P
        refine er_istore_n d_Mo_verifyMethod_138 (by decide) ?_
        show jl_E l G m_Mo_verifyMethod (0, 0) 139 [some (.ref 22), some (.int (nI m)), some (.int (nI 1)), none] [] (σ) P
        refine er_iconst ((nI (0))) d_Mo_verifyMethod_139 (by decide) ?_
        refine er_istore_n d_Mo_verifyMethod_140 (by decide) ?_
        show jl_E l G m_Mo_verifyMethod (0, 0) 141 [some (.ref 22), some (.int (nI m)), some (.int (nI 1)), some (.int (nI 0))] [] (σ) P
        have hav : AV (va_up s00.1 0 (some (strt (m / 4) (u1 m) (u2 m)))) := fun q r z => by
          by_cases e : q = 0
          · rw [e, va_up_self] at z; cases z; exact ⟨0, rv_strt (by omega) hq1 hq2⟩
          · rw [va_up_ne _ _ e] at z; cases z
        have hwl := wgt_le (s := (va_up s00.1 0 (some (strt (m / 4) (u1 m) (u2 m))), va_up s00.2 0 true)) hav
        exact mo_vm_l hl hok hK hm hsg hft hsgv (24 * 401 * 25 + 25) 0 1000000 (va_up s00.1 0 (some (strt (m / 4) (u1 m) (u2 m))), va_up s00.2 0 true) σ lo sk kp (nI 0) (nI 0) mm fm (by omega) (by omega) (by omega) hmb hfr hlo hsk hA hF (SV.st hav (fun _ z => by cases z)) hmf (fun j hj => absurd hj (Nat.not_lt_zero _)) hT hN
      · skip
        show jl_E l G m_Mo_verifyMethod (0, 0) 138 [some (.ref 22), some (.int (nI m)), some (.int (nI i)), none] [.int (nI 0)] (σ.set (22) (.inr (7, [.int (fa), .ref 23, .ref 24, .ref 25, .ref 26, .ref 27, .ref 28, .ref 29, .ref 30, .ref 31, .ref 32, .ref 33, .ref 34, .ref 35, .ref 36, .ref 37, .int (vf), .int (nI (1000 * (m / 4) + 100 * (m % 4))), .int (nI 0), .ref 38, .ref 39, .ref 40, .ref 41, .int (nI 0), .ref 42, .ref 43, .ref 44, .ref 45, .ref 46, .ref 47, .ref 48, .ref 49, .int (dp), .ref 50, .ref 51, .ref 52, .int (md), .int (ov), .int (oh), .int (dn), .int (an)]))) P
        exact absurd e1 (by unfold meetA; intro z; cases z)
    · refine er_aload_n d_Mo_verifyMethod_73 rfl ?_
      refine er_getf d_Mo_verifyMethod_74 f_Mo_verifyMethod_69 hO rfl ?_
      refine er_iload_n d_Mo_verifyMethod_77 rfl ?_
      refine er_iload_n d_Mo_verifyMethod_78 rfl ?_
      refine er_if_neN 91 d_Mo_verifyMethod_79 (by decide) (by omega) (fun c2 => ?_) (fun c2 => ?_)
      · refine er_iload_n d_Mo_verifyMethod_91 rfl ?_
        refine er_iconst ((nI (1))) d_Mo_verifyMethod_92 (by decide) ?_
        refine er_icmp_neN 105 d_Mo_verifyMethod_93 (by decide) (by omega) (by omega) (fun c3 => ?_) (fun c3 => ?_)
        · refine er_iload_n d_Mo_verifyMethod_105 rfl ?_
          refine er_iconst ((nI (2))) d_Mo_verifyMethod_106 (by decide) ?_
          refine er_icmp_neN 119 d_Mo_verifyMethod_107 (by decide) (by omega) (by omega) (fun c4 => ?_) (fun c4 => ?_)
          · refine er_iconst ((-1)) d_Mo_verifyMethod_119 (by decide) ?_
            refine er_iastN d_Mo_verifyMethod_120 r1 (by omega) (by omega) ?_
            rw [show upd (fun j => en (lo j)) (i) ((-1)) = (fun j => en ((va_up lo (i) (none)) j)) from en_up lo (i) (none)]
            show jl_E l G m_Mo_verifyMethod (0, 0) 121 [some (.ref 22), some (.int (nI m)), some (.int (nI i)), none] [] (σ.set (40) (.inl (0, 6, .inl (fun j => en ((va_up lo (i) (none)) j))))) P
            refine er_iinc ((nI (i + 1))) d_Mo_verifyMethod_121 (by decide) rfl (jl_inc _) ?_
            show jl_E l G m_Mo_verifyMethod (0, 0) 124 [some (.ref 22), some (.int (nI m)), some (.int (nI (i + 1))), none] [] (σ.set (40) (.inl (0, 6, .inl (fun j => en ((va_up lo (i) (none)) j))))) P
            refine er_goto 67 d_Mo_verifyMethod_124 (by decide) ?_
            exact ihn (i + 1) _ _ (by omega) (by omega) hmb.s40 (hfr.set (by omega)) (fun j hj => by by_cases e : j = i; (rw [e, va_up_self]; unfold strt; rw [if_neg (by omega), if_neg (by omega), if_neg (by omega), if_neg (by omega)]); rw [va_up_ne _ _ e]; exact hlr j (by omega)) (ob_up hlo (fun z hz => by cases hz))
          · refine er_aload_n d_Mo_verifyMethod_110 rfl ?_
            refine er_getf d_Mo_verifyMethod_111 f_Mo_verifyMethod_29 hO rfl ?_
            refine er_iload_n d_Mo_verifyMethod_114 rfl ?_
            refine er_ialdN d_Mo_verifyMethod_115 h29 (by omega) (by omega) ?_
            refine er_goto 120 d_Mo_verifyMethod_116 (by decide) ?_
            refine er_iastN d_Mo_verifyMethod_120 r1 (by omega) (by omega) ?_
            rw [show upd (fun j => en (lo j)) (i) ((en (u2 (m)))) = (fun j => en ((va_up lo (i) ((u2 (m)))) j)) from en_up lo (i) ((u2 (m)))]
            show jl_E l G m_Mo_verifyMethod (0, 0) 121 [some (.ref 22), some (.int (nI m)), some (.int (nI i)), none] [] (σ.set (40) (.inl (0, 6, .inl (fun j => en ((va_up lo (i) ((u2 (m)))) j))))) P
            refine er_iinc ((nI (i + 1))) d_Mo_verifyMethod_121 (by decide) rfl (jl_inc _) ?_
            show jl_E l G m_Mo_verifyMethod (0, 0) 124 [some (.ref 22), some (.int (nI m)), some (.int (nI (i + 1))), none] [] (σ.set (40) (.inl (0, 6, .inl (fun j => en ((va_up lo (i) ((u2 (m)))) j))))) P
            refine er_goto 67 d_Mo_verifyMethod_124 (by decide) ?_
            exact ihn (i + 1) _ _ (by omega) (by omega) hmb.s40 (hfr.set (by omega)) (fun j hj => by by_cases e : j = i; (rw [e, va_up_self]; unfold strt; rw [if_neg (by omega), if_neg (by omega), if_pos (by omega)]); rw [va_up_ne _ _ e]; exact hlr j (by omega)) (ob_up hlo (hq2.ob))
        · refine er_aload_n d_Mo_verifyMethod_96 rfl ?_
          refine er_getf d_Mo_verifyMethod_97 f_Mo_verifyMethod_26 hO rfl ?_
          refine er_iload_n d_Mo_verifyMethod_100 rfl ?_
          refine er_ialdN d_Mo_verifyMethod_101 h28 (by omega) (by omega) ?_
          refine er_goto 120 d_Mo_verifyMethod_102 (by decide) ?_
          refine er_iastN d_Mo_verifyMethod_120 r1 (by omega) (by omega) ?_
          rw [show upd (fun j => en (lo j)) (i) ((en (u1 (m)))) = (fun j => en ((va_up lo (i) ((u1 (m)))) j)) from en_up lo (i) ((u1 (m)))]
          show jl_E l G m_Mo_verifyMethod (0, 0) 121 [some (.ref 22), some (.int (nI m)), some (.int (nI i)), none] [] (σ.set (40) (.inl (0, 6, .inl (fun j => en ((va_up lo (i) ((u1 (m)))) j))))) P
          refine er_iinc ((nI (i + 1))) d_Mo_verifyMethod_121 (by decide) rfl (jl_inc _) ?_
          show jl_E l G m_Mo_verifyMethod (0, 0) 124 [some (.ref 22), some (.int (nI m)), some (.int (nI (i + 1))), none] [] (σ.set (40) (.inl (0, 6, .inl (fun j => en ((va_up lo (i) ((u1 (m)))) j))))) P
          refine er_goto 67 d_Mo_verifyMethod_124 (by decide) ?_
          exact ihn (i + 1) _ _ (by omega) (by omega) hmb.s40 (hfr.set (by omega)) (fun j hj => by by_cases e : j = i; (rw [e, va_up_self]; unfold strt; rw [if_neg (by omega), if_pos (by omega)]); rw [va_up_ne _ _ e]; exact hlr j (by omega)) (ob_up hlo (hq1.ob))
      · refine er_bipush ((nI (10))) d_Mo_verifyMethod_82 (by decide) ?_
        refine er_iload_n d_Mo_verifyMethod_84 rfl ?_
        refine er_iconst ((nI (4))) d_Mo_verifyMethod_85 (by decide) ?_
        refine er_idivN d_Mo_verifyMethod_86 (by omega) (by omega) (by omega) ?_
        refine er_iaddN d_Mo_verifyMethod_87 ?_
        refine er_goto 120 d_Mo_verifyMethod_88 (by decide) ?_
        refine er_iastN d_Mo_verifyMethod_120 r1 (by omega) (by omega) ?_
        rw [show upd (fun j => en (lo j)) (i) ((nI ((10) + ((m) / (4))))) = (fun j => en ((va_up lo (i) ((some ((10) + ((m) / (4)))))) j)) from en_up lo (i) ((some ((10) + ((m) / (4)))))]
        show jl_E l G m_Mo_verifyMethod (0, 0) 121 [some (.ref 22), some (.int (nI m)), some (.int (nI i)), none] [] (σ.set (40) (.inl (0, 6, .inl (fun j => en ((va_up lo (i) ((some ((10) + ((m) / (4)))))) j))))) P
        refine er_iinc ((nI (i + 1))) d_Mo_verifyMethod_121 (by decide) rfl (jl_inc _) ?_
        show jl_E l G m_Mo_verifyMethod (0, 0) 124 [some (.ref 22), some (.int (nI m)), some (.int (nI (i + 1))), none] [] (σ.set (40) (.inl (0, 6, .inl (fun j => en ((va_up lo (i) ((some ((10) + ((m) / (4)))))) j))))) P
        refine er_goto 67 d_Mo_verifyMethod_124 (by decide) ?_
        exact ihn (i + 1) _ _ (by omega) (by omega) hmb.s40 (hfr.set (by omega)) (fun j hj => by by_cases e : j = i; (rw [e, va_up_self]; unfold strt; rw [if_pos (by omega)]); rw [va_up_ne _ _ e]; exact hlr j (by omega)) (ob_up hlo (ob_s (by omega)))
theorem d_Mo_verifyMethod_46 : decode m_Mo_verifyMethod.2.1 46 = .ok (.iload_n 2, 1) := by decide +kernel
theorem d_Mo_verifyMethod_47 : decode m_Mo_verifyMethod.2.1 47 = .ok (.bipush 24, 2) := by decide +kernel
theorem d_Mo_verifyMethod_49 : decode m_Mo_verifyMethod.2.1 49 = .ok (.if_icmp .ge 16, 3) := by decide +kernel
theorem d_Mo_verifyMethod_65 : decode m_Mo_verifyMethod.2.1 65 = .ok (.iconst 0, 1) := by decide +kernel
theorem d_Mo_verifyMethod_66 : decode m_Mo_verifyMethod.2.1 66 = .ok (.istore_n 2, 1) := by decide +kernel
theorem d_Mo_verifyMethod_52 : decode m_Mo_verifyMethod.2.1 52 = .ok (.aload_n 0, 1) := by decide +kernel
theorem d_Mo_verifyMethod_53 : decode m_Mo_verifyMethod.2.1 53 = .ok (.getfield 66, 3) := by decide +kernel
theorem d_Mo_verifyMethod_56 : decode m_Mo_verifyMethod.2.1 56 = .ok (.iload_n 2, 1) := by decide +kernel
theorem d_Mo_verifyMethod_57 : decode m_Mo_verifyMethod.2.1 57 = .ok (.iconst 0, 1) := by decide +kernel
theorem d_Mo_verifyMethod_58 : decode m_Mo_verifyMethod.2.1 58 = .ok (.bastore, 1) := by decide +kernel
theorem d_Mo_verifyMethod_59 : decode m_Mo_verifyMethod.2.1 59 = .ok (.iinc 2 1, 3) := by decide +kernel
theorem d_Mo_verifyMethod_62 : decode m_Mo_verifyMethod.2.1 62 = .ok (.goto (-16), 3) := by decide +kernel
theorem mo_vm_1 (hl : l.stackTraces = false) {P : jl_O → jl_S → Prop} {m : Nat} {m0 : Nat → Int32} {σ0 : jl_S}  (hok : WoOk tb pr ow fi) (hK : MoK u1 u2 ur ul uo uc us ut uk) (hm : m < 24) (hsg : SgM tb pr hs u1 u2 ur sg) (hft : ∀ k f, tyv (some (fty pr fi ft k f))) (hsgv : ∀ x g, sg x = some g → tyv (some g.2.2)) (hq1 : tyv (u1 m)) (hq2 : tyv (u2 m)) (hq3 : tyv (some (ur m))) (hA : MpM mm m s00.1) (hmf : MmF m m0 mm) (hsk : ∀ j, ob 16 (sk j)) (hT : ∀ s', verA tb pr ow fi ft sg (fun j => uo (24 * m + j)) (fun j => ua (24 * m + j)) (ul m) (fun i => us (2 * m + i) / 32) (fun i => us (2 * m + i) % 32) (fun i => ut (2 * m + i)) (fun i => uk (2 * m + i)) (uc m) (ur m) 1000000 (va_up s00.1 0 (some (strt (m / 4) (u1 m) (u2 m))), va_up s00.2 0 true) = (none, s') → ∀ lo' sk' kp' hg' wy' mm' fm' σ', (∀ j, ob 16 (lo' j)) → (∀ j, ob 16 (sk' j)) → MpM mm' m s'.1 → MmF m m0 mm' → MB σ' tb pr ow ft hs u1 u2 ur ul uo ua uc us ut uk fa vf (nI (1000 * (m / 4) + 100 * (m % 4))) wy' hg' dp md ov oh dn an lo' sk' kp' mm' fm' → FrM σ0 σ' → P (.inl (some (.int (nI 1)))) σ') (hN : ∀ pc f s', verA tb pr ow fi ft sg (fun j => uo (24 * m + j)) (fun j => ua (24 * m + j)) (ul m) (fun i => us (2 * m + i) / 32) (fun i => us (2 * m + i) % 32) (fun i => ut (2 * m + i)) (fun i => uk (2 * m + i)) (uc m) (ur m) 1000000 (va_up s00.1 0 (some (strt (m / 4) (u1 m) (u2 m))), va_up s00.2 0 true) = (some (pc, f), s') → ∀ lo' sk' kp' hg' mm' fm' σ', (∀ j, ob 16 (lo' j)) → (∀ j, ob 16 (sk' j)) → MpM mm' m s'.1 → MmF m m0 mm' → MB σ' tb pr ow ft hs u1 u2 ur ul uo ua uc us ut uk fa vf (nI (1000 * (m / 4) + 100 * (m % 4) + pc)) (nI f) hg' dp md ov oh dn an lo' sk' kp' mm' fm' → FrM σ0 σ' → P (.inl (some (.int (nI 0)))) σ') (hlo : ∀ j, ob 16 (lo j)) : ∀ (nn : Nat) (i : Nat) (σ : jl_S) (fm : Nat → Bool), 24 - i < nn → i ≤ 24 → MB σ tb pr ow ft hs u1 u2 ur ul uo ua uc us ut uk fa vf (nI (1000 * (m / 4) + 100 * (m % 4))) (nI 0) hg dp md ov oh dn an lo sk kp mm fm → FrM σ0 σ → (∀ j, j < i → fm j = false) → jl_E l G m_Mo_verifyMethod (0, 0) 46 [some (.ref 22), some (.int (nI m)), some (.int (nI i)), none] [] σ P := by
  intro nn
  induction nn with
  | zero => intro i σ fm hnn; exact absurd hnn (Nat.not_lt_zero _)
  | succ nn ihn =>
    intro i σ fm hnn hi hmb hfr hfl
    obtain ⟨hO, hw, hu, hr, hkp, hmp, hfm⟩ := id hmb; obtain ⟨r1, r2⟩ := id hr
    obtain ⟨h23, h24, h25, h26, h27⟩ := id hw
    obtain ⟨h28, h29, h30, h31, h32, h33, h34, h35, h36, h37⟩ := id hu
    refine er_iload_n d_Mo_verifyMethod_46 rfl ?_
    refine er_bipush ((nI (24))) d_Mo_verifyMethod_47 (by decide) ?_
    refine er_icmp_geN 65 d_Mo_verifyMethod_49 (by decide) (by omega) (by omega) (fun c1 => ?_) (fun c1 => ?_)
    · refine er_iconst ((nI (0))) d_Mo_verifyMethod_65 (by decide) ?_
      refine er_istore_n d_Mo_verifyMethod_66 (by decide) ?_
      show jl_E l G m_Mo_verifyMethod (0, 0) 67 [some (.ref 22), some (.int (nI m)), some (.int (nI 0)), none] [] (σ) P
      exact mo_vm_2 hl hok hK hm hsg hft hsgv hq1 hq2 hq3 hA hmf hsk hT hN (fun j hj => hfl j (by omega)) 7 0 σ lo (by omega) (by omega) hmb hfr (fun j hj => absurd hj (Nat.not_lt_zero _)) hlo
    · refine er_aload_n d_Mo_verifyMethod_52 rfl ?_
      refine er_getf d_Mo_verifyMethod_53 f_Mo_verifyMethod_66 hO rfl ?_
      refine er_iload_n d_Mo_verifyMethod_56 rfl ?_
      refine er_iconst ((nI (0))) d_Mo_verifyMethod_57 (by decide) ?_
      refine er_bastN d_Mo_verifyMethod_58 hfm (by omega) (by omega) (by decide) ?_
      rw [show upd (fun j => bi (fm j)) (i) ((nI (0))) = (fun j => bi ((va_up fm (i) (false)) j)) from bi_up fm (i) (false)]
      show jl_E l G m_Mo_verifyMethod (0, 0) 59 [some (.ref 22), some (.int (nI m)), some (.int (nI i)), none] [] (σ.set (39) (.inl (1, 24, .inl (fun j => bi ((va_up fm (i) (false)) j))))) P
      refine er_iinc ((nI (i + 1))) d_Mo_verifyMethod_59 (by decide) rfl (jl_inc _) ?_
      show jl_E l G m_Mo_verifyMethod (0, 0) 62 [some (.ref 22), some (.int (nI m)), some (.int (nI (i + 1))), none] [] (σ.set (39) (.inl (1, 24, .inl (fun j => bi ((va_up fm (i) (false)) j))))) P
      refine er_goto 46 d_Mo_verifyMethod_62 (by decide) ?_
      exact ihn (i + 1) _ _ (by omega) (by omega) hmb.s39 (hfr.set (by omega)) (fun j hj => by by_cases e : j = i; (rw [e, va_up_self]); rw [va_up_ne _ _ e]; exact hfl j (by omega))
theorem d_Mo_verifyMethod_0 : decode m_Mo_verifyMethod.2.1 0 = .ok (.aload_n 0, 1) := by decide +kernel
theorem d_Mo_verifyMethod_1 : decode m_Mo_verifyMethod.2.1 1 = .ok (.aload_n 0, 1) := by decide +kernel
theorem d_Mo_verifyMethod_2 : decode m_Mo_verifyMethod.2.1 2 = .ok (.iload_n 1, 1) := by decide +kernel
theorem k_Mo_verifyMethod_212 : jl_cv m_Mo_verifyMethod m_Mo_badTypes 212 1 = true := by decide +kernel
theorem d_Mo_verifyMethod_3 : decode m_Mo_verifyMethod.2.1 3 = .ok (.invokevirtual 212, 3) := by decide +kernel
theorem d_Mo_verifyMethod_6 : decode m_Mo_verifyMethod.2.1 6 = .ok (.ifCond .eq 7, 3) := by decide +kernel
theorem d_Mo_verifyMethod_13 : decode m_Mo_verifyMethod.2.1 13 = .ok (.iconst 0, 1) := by decide +kernel
theorem d_Mo_verifyMethod_14 : decode m_Mo_verifyMethod.2.1 14 = .ok (.putfield 60, 3) := by decide +kernel
theorem d_Mo_verifyMethod_17 : decode m_Mo_verifyMethod.2.1 17 = .ok (.aload_n 0, 1) := by decide +kernel
theorem d_Mo_verifyMethod_18 : decode m_Mo_verifyMethod.2.1 18 = .ok (.sipush 1000, 3) := by decide +kernel
theorem d_Mo_verifyMethod_21 : decode m_Mo_verifyMethod.2.1 21 = .ok (.iload_n 1, 1) := by decide +kernel
theorem d_Mo_verifyMethod_22 : decode m_Mo_verifyMethod.2.1 22 = .ok (.iconst 4, 1) := by decide +kernel
theorem d_Mo_verifyMethod_23 : decode m_Mo_verifyMethod.2.1 23 = .ok (.idiv, 1) := by decide +kernel
theorem d_Mo_verifyMethod_24 : decode m_Mo_verifyMethod.2.1 24 = .ok (.imul, 1) := by decide +kernel
theorem d_Mo_verifyMethod_25 : decode m_Mo_verifyMethod.2.1 25 = .ok (.bipush 100, 2) := by decide +kernel
theorem d_Mo_verifyMethod_27 : decode m_Mo_verifyMethod.2.1 27 = .ok (.iload_n 1, 1) := by decide +kernel
theorem d_Mo_verifyMethod_28 : decode m_Mo_verifyMethod.2.1 28 = .ok (.iconst 4, 1) := by decide +kernel
theorem d_Mo_verifyMethod_29 : decode m_Mo_verifyMethod.2.1 29 = .ok (.irem, 1) := by decide +kernel
theorem d_Mo_verifyMethod_30 : decode m_Mo_verifyMethod.2.1 30 = .ok (.imul, 1) := by decide +kernel
theorem d_Mo_verifyMethod_31 : decode m_Mo_verifyMethod.2.1 31 = .ok (.iadd, 1) := by decide +kernel
theorem d_Mo_verifyMethod_32 : decode m_Mo_verifyMethod.2.1 32 = .ok (.putfield 56, 3) := by decide +kernel
theorem d_Mo_verifyMethod_35 : decode m_Mo_verifyMethod.2.1 35 = .ok (.aload_n 0, 1) := by decide +kernel
theorem d_Mo_verifyMethod_36 : decode m_Mo_verifyMethod.2.1 36 = .ok (.getfield 60, 3) := by decide +kernel
theorem d_Mo_verifyMethod_39 : decode m_Mo_verifyMethod.2.1 39 = .ok (.ifCond .le 5, 3) := by decide +kernel
theorem d_Mo_verifyMethod_44 : decode m_Mo_verifyMethod.2.1 44 = .ok (.iconst 0, 1) := by decide +kernel
theorem d_Mo_verifyMethod_45 : decode m_Mo_verifyMethod.2.1 45 = .ok (.istore_n 2, 1) := by decide +kernel
theorem d_Mo_verifyMethod_9 : decode m_Mo_verifyMethod.2.1 9 = .ok (.iconst 5, 1) := by decide +kernel
theorem d_Mo_verifyMethod_10 : decode m_Mo_verifyMethod.2.1 10 = .ok (.goto 4, 3) := by decide +kernel
theorem d_Mo_verifyMethod_42 : decode m_Mo_verifyMethod.2.1 42 = .ok (.iconst 0, 1) := by decide +kernel
theorem d_Mo_verifyMethod_43 : decode m_Mo_verifyMethod.2.1 43 = .ok (.ireturn, 1) := by decide +kernel
theorem mo_vm (hl : l.stackTraces = false) {P : jl_O → jl_S → Prop} {m : Nat} (hmb : MB σ tb pr ow ft hs u1 u2 ur ul uo ua uc us ut uk fa vf wh wy hg dp md ov oh dn an lo sk kp mm fm) (hok : WoOk tb pr ow fi) (hK : MoK u1 u2 ur ul uo uc us ut uk) (hm : m < 24) (hsg : SgM tb pr hs u1 u2 ur sg) (hft : ∀ k f, tyv (some (fty pr fi ft k f))) (hsgv : ∀ x g, sg x = some g → tyv (some g.2.2)) (hq1 : tyv (u1 m)) (hq2 : tyv (u2 m)) (hq3 : tyv (some (ur m))) (hA : MpM mm m s00.1) (hlo : ∀ j, ob 16 (lo j)) (hsk : ∀ j, ob 16 (sk j)) (hT : ∀ s', vmA tb pr ow fi ft sg (fun j => uo (24 * m + j)) (fun j => ua (24 * m + j)) (ul m) (fun i => us (2 * m + i) / 32) (fun i => us (2 * m + i) % 32) (fun i => ut (2 * m + i)) (fun i => uk (2 * m + i)) (uc m) (ur m) (m / 4) (u1 m) (u2 m) s00 = (none, s') → ∀ lo' sk' kp' hg' wy' mm' fm' σ', (∀ j, ob 16 (lo' j)) → (∀ j, ob 16 (sk' j)) → MpM mm' m s'.1 → MmF m mm mm' → MB σ' tb pr ow ft hs u1 u2 ur ul uo ua uc us ut uk fa vf (nI (1000 * (m / 4) + 100 * (m % 4))) wy' hg' dp md ov oh dn an lo' sk' kp' mm' fm' → FrM σ σ' → P (.inl (some (.int (nI 1)))) σ') (hN : ∀ pc f s', vmA tb pr ow fi ft sg (fun j => uo (24 * m + j)) (fun j => ua (24 * m + j)) (ul m) (fun i => us (2 * m + i) / 32) (fun i => us (2 * m + i) % 32) (fun i => ut (2 * m + i)) (fun i => uk (2 * m + i)) (uc m) (ur m) (m / 4) (u1 m) (u2 m) s00 = (some (pc, f), s') → ∀ lo' sk' kp' hg' mm' fm' σ', (∀ j, ob 16 (lo' j)) → (∀ j, ob 16 (sk' j)) → MpM mm' m s'.1 → MmF m mm mm' → MB σ' tb pr ow ft hs u1 u2 ur ul uo ua uc us ut uk fa vf (nI (1000 * (m / 4) + 100 * (m % 4) + pc)) (nI f) hg' dp md ov oh dn an lo' sk' kp' mm' fm' → FrM σ σ' → P (.inl (some (.int (nI 0)))) σ') : jl_mE l G m_Mo_verifyMethod [.ref 22, .int (nI m)] σ P := by
  obtain ⟨hO, hw, hu, hr, hkp, hmp, hfm⟩ := id hmb; obtain ⟨r1, r2⟩ := id hr
  obtain ⟨h23, h24, h25, h26, h27⟩ := id hw
  obtain ⟨h28, h29, h30, h31, h32, h33, h34, h35, h36, h37⟩ := id hu
  have hur := (hq3 _ rfl).1
  refine jl_ofE (as := [.ref 22, .int (nI m)]) rfl (by decide) hl (jl_cc rfl (jl_cc rfl jl_ca)) (Nat.le_of_ble_eq_true rfl) ?_
  show jl_E l G m_Mo_verifyMethod (0, 0) 0 [some (.ref 22), some (.int (nI m)), none, none] [] (σ) P
  refine er_aload_n d_Mo_verifyMethod_0 rfl ?_
  refine er_aload_n d_Mo_verifyMethod_1 rfl ?_
  refine er_iload_n d_Mo_verifyMethod_2 rfl ?_
  refine er_callV (As := [.int (nI m)]) d_Mo_verifyMethod_3 k_Mo_verifyMethod_212 hO rfl rfl rfl (Nat.le_of_ble_eq_true rfl) (by decide) (by decide) (mo_bad hl hO hw hu hok hm hft hq1 hq2 hur) ?_
  show jl_E l G m_Mo_verifyMethod (0, 0) 6 [some (.ref 22), some (.int (nI m)), none, none] [.int (bi (!tyAll tb pr ow fi ft (m / 4) (u1 m) (u2 m) (ur m))), .ref 22] (σ) P
  refine er_if_eq 13 d_Mo_verifyMethod_6 (by decide) (fun c1 => ?_) (fun c1 => ?_)
  · refine er_iconst ((nI (0))) d_Mo_verifyMethod_13 (by decide) ?_
    refine er_putf d_Mo_verifyMethod_14 p_Mo_verifyMethod_60 hO (Nat.le_of_ble_eq_true rfl) jl_fit_int ?_
    show jl_E l G m_Mo_verifyMethod (0, 0) 17 [some (.ref 22), some (.int (nI m)), none, none] [] (σ.set (22) (.inr (7, [.int (fa), .ref 23, .ref 24, .ref 25, .ref 26, .ref 27, .ref 28, .ref 29, .ref 30, .ref 31, .ref 32, .ref 33, .ref 34, .ref 35, .ref 36, .ref 37, .int (vf), .int (wh), .int (nI 0), .ref 38, .ref 39, .ref 40, .ref 41, .int (hg), .ref 42, .ref 43, .ref 44, .ref 45, .ref 46, .ref 47, .ref 48, .ref 49, .int (dp), .ref 50, .ref 51, .ref 52, .int (md), .int (ov), .int (oh), .int (dn), .int (an)]))) P
    refine er_aload_n d_Mo_verifyMethod_17 rfl ?_
    refine er_sipush ((nI (1000))) d_Mo_verifyMethod_18 (by decide) ?_
    refine er_iload_n d_Mo_verifyMethod_21 rfl ?_
    refine er_iconst ((nI (4))) d_Mo_verifyMethod_22 (by decide) ?_
    refine er_idivN d_Mo_verifyMethod_23 (by omega) (by omega) (by omega) ?_
    refine er_imulN d_Mo_verifyMethod_24 ?_
    refine er_bipush ((nI (100))) d_Mo_verifyMethod_25 (by decide) ?_
    refine er_iload_n d_Mo_verifyMethod_27 rfl ?_
    refine er_iconst ((nI (4))) d_Mo_verifyMethod_28 (by decide) ?_
    refine er_iremN d_Mo_verifyMethod_29 (by omega) (by omega) (by omega) ?_
    refine er_imulN d_Mo_verifyMethod_30 ?_
    refine er_iaddN d_Mo_verifyMethod_31 ?_
    refine er_putf d_Mo_verifyMethod_32 p_Mo_verifyMethod_56 (jl_ss hO) (Nat.le_of_ble_eq_true rfl) jl_fit_int ?_
    show jl_E l G m_Mo_verifyMethod (0, 0) 35 [some (.ref 22), some (.int (nI m)), none, none] [] ((σ.set (22) (.inr (7, [.int (fa), .ref 23, .ref 24, .ref 25, .ref 26, .ref 27, .ref 28, .ref 29, .ref 30, .ref 31, .ref 32, .ref 33, .ref 34, .ref 35, .ref 36, .ref 37, .int (vf), .int (wh), .int (nI 0), .ref 38, .ref 39, .ref 40, .ref 41, .int (hg), .ref 42, .ref 43, .ref 44, .ref 45, .ref 46, .ref 47, .ref 48, .ref 49, .int (dp), .ref 50, .ref 51, .ref 52, .int (md), .int (ov), .int (oh), .int (dn), .int (an)]))).set (22) (.inr (7, [.int (fa), .ref 23, .ref 24, .ref 25, .ref 26, .ref 27, .ref 28, .ref 29, .ref 30, .ref 31, .ref 32, .ref 33, .ref 34, .ref 35, .ref 36, .ref 37, .int (vf), .int (nI (((1000) * ((m) / (4))) + ((100) * ((m) % (4))))), .int (nI 0), .ref 38, .ref 39, .ref 40, .ref 41, .int (hg), .ref 42, .ref 43, .ref 44, .ref 45, .ref 46, .ref 47, .ref 48, .ref 49, .int (dp), .ref 50, .ref 51, .ref 52, .int (md), .int (ov), .int (oh), .int (dn), .int (an)]))) P
    refine er_aload_n d_Mo_verifyMethod_35 rfl ?_
    refine er_getf d_Mo_verifyMethod_36 f_Mo_verifyMethod_60 (jl_ss (jl_ss hO)) rfl ?_
    refine er_if_le 44 d_Mo_verifyMethod_39 (by decide) (fun _ => ?_) (fun z => absurd (by decide) z)
    refine er_iconst ((nI (0))) d_Mo_verifyMethod_44 (by decide) ?_
    refine er_istore_n d_Mo_verifyMethod_45 (by decide) ?_
    show jl_E l G m_Mo_verifyMethod (0, 0) 46 [some (.ref 22), some (.int (nI m)), some (.int (nI 0)), none] [] ((σ.set (22) (.inr (7, [.int (fa), .ref 23, .ref 24, .ref 25, .ref 26, .ref 27, .ref 28, .ref 29, .ref 30, .ref 31, .ref 32, .ref 33, .ref 34, .ref 35, .ref 36, .ref 37, .int (vf), .int (wh), .int (nI 0), .ref 38, .ref 39, .ref 40, .ref 41, .int (hg), .ref 42, .ref 43, .ref 44, .ref 45, .ref 46, .ref 47, .ref 48, .ref 49, .int (dp), .ref 50, .ref 51, .ref 52, .int (md), .int (ov), .int (oh), .int (dn), .int (an)]))).set (22) (.inr (7, [.int (fa), .ref 23, .ref 24, .ref 25, .ref 26, .ref 27, .ref 28, .ref 29, .ref 30, .ref 31, .ref 32, .ref 33, .ref 34, .ref 35, .ref 36, .ref 37, .int (vf), .int (nI (((1000) * ((m) / (4))) + ((100) * ((m) % (4))))), .int (nI 0), .ref 38, .ref 39, .ref 40, .ref 41, .int (hg), .ref 42, .ref 43, .ref 44, .ref 45, .ref 46, .ref 47, .ref 48, .ref 49, .int (dp), .ref 50, .ref 51, .ref 52, .int (md), .int (ov), .int (oh), .int (dn), .int (an)]))) P
    have hta : tyAll tb pr ow fi ft (m / 4) (u1 m) (u2 m) (ur m) = true := by simpa using bi_0.mp c1
    exact mo_vm_1 hl hok hK hm hsg hft hsgv hq1 hq2 hq3 hA MmF.refl hsk (fun s' e => hT s' (by unfold vmA; rw [if_pos hta]; exact e)) (fun pc f s' e => hN pc f s' (by unfold vmA; rw [if_pos hta]; exact e)) hlo 25 0 _ fm (by omega) (by omega) hmb.s22.s22 ((FrM.refl.set (by omega)).set (by omega)) (fun j hj => absurd hj (Nat.not_lt_zero _))
  · refine er_iconst ((nI (5))) d_Mo_verifyMethod_9 (by decide) ?_
    refine er_goto 14 d_Mo_verifyMethod_10 (by decide) ?_
    refine er_putf d_Mo_verifyMethod_14 p_Mo_verifyMethod_60 hO (Nat.le_of_ble_eq_true rfl) jl_fit_int ?_
    show jl_E l G m_Mo_verifyMethod (0, 0) 17 [some (.ref 22), some (.int (nI m)), none, none] [] (σ.set (22) (.inr (7, [.int (fa), .ref 23, .ref 24, .ref 25, .ref 26, .ref 27, .ref 28, .ref 29, .ref 30, .ref 31, .ref 32, .ref 33, .ref 34, .ref 35, .ref 36, .ref 37, .int (vf), .int (wh), .int (nI 5), .ref 38, .ref 39, .ref 40, .ref 41, .int (hg), .ref 42, .ref 43, .ref 44, .ref 45, .ref 46, .ref 47, .ref 48, .ref 49, .int (dp), .ref 50, .ref 51, .ref 52, .int (md), .int (ov), .int (oh), .int (dn), .int (an)]))) P
    refine er_aload_n d_Mo_verifyMethod_17 rfl ?_
    refine er_sipush ((nI (1000))) d_Mo_verifyMethod_18 (by decide) ?_
    refine er_iload_n d_Mo_verifyMethod_21 rfl ?_
    refine er_iconst ((nI (4))) d_Mo_verifyMethod_22 (by decide) ?_
    refine er_idivN d_Mo_verifyMethod_23 (by omega) (by omega) (by omega) ?_
    refine er_imulN d_Mo_verifyMethod_24 ?_
    refine er_bipush ((nI (100))) d_Mo_verifyMethod_25 (by decide) ?_
    refine er_iload_n d_Mo_verifyMethod_27 rfl ?_
    refine er_iconst ((nI (4))) d_Mo_verifyMethod_28 (by decide) ?_
    refine er_iremN d_Mo_verifyMethod_29 (by omega) (by omega) (by omega) ?_
    refine er_imulN d_Mo_verifyMethod_30 ?_
    refine er_iaddN d_Mo_verifyMethod_31 ?_
    refine er_putf d_Mo_verifyMethod_32 p_Mo_verifyMethod_56 (jl_ss hO) (Nat.le_of_ble_eq_true rfl) jl_fit_int ?_
    show jl_E l G m_Mo_verifyMethod (0, 0) 35 [some (.ref 22), some (.int (nI m)), none, none] [] ((σ.set (22) (.inr (7, [.int (fa), .ref 23, .ref 24, .ref 25, .ref 26, .ref 27, .ref 28, .ref 29, .ref 30, .ref 31, .ref 32, .ref 33, .ref 34, .ref 35, .ref 36, .ref 37, .int (vf), .int (wh), .int (nI 5), .ref 38, .ref 39, .ref 40, .ref 41, .int (hg), .ref 42, .ref 43, .ref 44, .ref 45, .ref 46, .ref 47, .ref 48, .ref 49, .int (dp), .ref 50, .ref 51, .ref 52, .int (md), .int (ov), .int (oh), .int (dn), .int (an)]))).set (22) (.inr (7, [.int (fa), .ref 23, .ref 24, .ref 25, .ref 26, .ref 27, .ref 28, .ref 29, .ref 30, .ref 31, .ref 32, .ref 33, .ref 34, .ref 35, .ref 36, .ref 37, .int (vf), .int (nI (((1000) * ((m) / (4))) + ((100) * ((m) % (4))))), .int (nI 5), .ref 38, .ref 39, .ref 40, .ref 41, .int (hg), .ref 42, .ref 43, .ref 44, .ref 45, .ref 46, .ref 47, .ref 48, .ref 49, .int (dp), .ref 50, .ref 51, .ref 52, .int (md), .int (ov), .int (oh), .int (dn), .int (an)]))) P
    refine er_aload_n d_Mo_verifyMethod_35 rfl ?_
    refine er_getf d_Mo_verifyMethod_36 f_Mo_verifyMethod_60 (jl_ss (jl_ss hO)) rfl ?_
    refine er_if_le 44 d_Mo_verifyMethod_39 (by decide) (fun z => absurd z (by decide)) (fun _ => ?_)
    refine er_iconst ((nI (0))) d_Mo_verifyMethod_42 (by decide) ?_
    exact er_zret d_Mo_verifyMethod_43 rfl (by decide) (hN 0 5 s00 (by unfold vmA; rw [if_neg (by have z := bi_nf c1; simp at z; rw [z]; decide)]) lo sk kp hg mm fm _ hlo hsk hA MmF.refl hmb.s22.s22 ((FrM.refl.set (by omega)).set (by omega))) (by decide) (by decide)
end JNe
