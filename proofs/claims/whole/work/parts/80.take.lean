/-! the model: takeMap, pass (wip/gen/p80.py) -/
section JMw
variable {l : Launch} {G : jl_G} {σ : jl_S}
variable {tb : Nat → Bool} {pr : Nat → Option Nat} {ow fi ft : Nat → Nat} {hs : Nat → Bool} {fa vf wh wy hg dp md ov oh dn an : Int32}
variable {u1 u2 : Nat → Option Nat} {ur ul uo : Nat → Nat} {ua : Nat → Int32} {uc us ut uk : Nat → Nat}
variable {lo sk kp : Rw} {mm : Nat → Int32} {fm : Nat → Bool}
variable {A : Nat → Option Rw} {sg : Int32 → Option Sg}
theorem d_Mo_takeMap_58 : decode m_Mo_takeMap.2.1 58 = .ok (.iload 4, 2) := by decide +kernel
theorem d_Mo_takeMap_60 : decode m_Mo_takeMap.2.1 60 = .ok (.aload_n 0, 1) := by decide +kernel
theorem f_Mo_takeMap_179 : jl_fd m_Mo_takeMap 179 7 23 = true := by decide +kernel
theorem d_Mo_takeMap_61 : decode m_Mo_takeMap.2.1 61 = .ok (.getfield 179, 3) := by decide +kernel
theorem d_Mo_takeMap_64 : decode m_Mo_takeMap.2.1 64 = .ok (.if_icmp .ge 28, 3) := by decide +kernel
theorem d_Mo_takeMap_92 : decode m_Mo_takeMap.2.1 92 = .ok (.return_, 1) := by decide +kernel
theorem d_Mo_takeMap_67 : decode m_Mo_takeMap.2.1 67 = .ok (.aload_n 0, 1) := by decide +kernel
theorem f_Mo_takeMap_72 : jl_fd m_Mo_takeMap 72 7 22 = true := by decide +kernel
theorem d_Mo_takeMap_68 : decode m_Mo_takeMap.2.1 68 = .ok (.getfield 72, 3) := by decide +kernel
theorem d_Mo_takeMap_71 : decode m_Mo_takeMap.2.1 71 = .ok (.iload 4, 2) := by decide +kernel
theorem d_Mo_takeMap_73 : decode m_Mo_takeMap.2.1 73 = .ok (.aload_n 0, 1) := by decide +kernel
theorem f_Mo_takeMap_63 : jl_fd m_Mo_takeMap 63 7 19 = true := by decide +kernel
theorem d_Mo_takeMap_74 : decode m_Mo_takeMap.2.1 74 = .ok (.getfield 63, 3) := by decide +kernel
theorem d_Mo_takeMap_77 : decode m_Mo_takeMap.2.1 77 = .ok (.iload_n 3, 1) := by decide +kernel
theorem d_Mo_takeMap_78 : decode m_Mo_takeMap.2.1 78 = .ok (.bipush 7, 2) := by decide +kernel
theorem d_Mo_takeMap_80 : decode m_Mo_takeMap.2.1 80 = .ok (.iadd, 1) := by decide +kernel
theorem d_Mo_takeMap_81 : decode m_Mo_takeMap.2.1 81 = .ok (.iload 4, 2) := by decide +kernel
theorem d_Mo_takeMap_83 : decode m_Mo_takeMap.2.1 83 = .ok (.iadd, 1) := by decide +kernel
theorem d_Mo_takeMap_84 : decode m_Mo_takeMap.2.1 84 = .ok (.iaload, 1) := by decide +kernel
theorem d_Mo_takeMap_85 : decode m_Mo_takeMap.2.1 85 = .ok (.iastore, 1) := by decide +kernel
theorem d_Mo_takeMap_86 : decode m_Mo_takeMap.2.1 86 = .ok (.iinc 4 1, 3) := by decide +kernel
theorem d_Mo_takeMap_89 : decode m_Mo_takeMap.2.1 89 = .ok (.goto (-31), 3) := by decide +kernel
theorem mo_tm_2 (hl : l.stackTraces = false) {P : jl_O → jl_S → Prop} {m pc h : Nat} {r : Rw} {σ0 : jl_S}  (hm : m < 24) (hpc : pc < 24) (hA : MpM mm m A) (hAs : A pc = some r) (hrv : rv r h) (hlr : ∀ i, i < 6 → lo i = r i) (hlo : ∀ j, ob 16 (lo j)) (hT : ∀ lo' sk' σ', RlM r lo' sk' h → (∀ j, ob 16 (lo' j)) → (∀ j, ob 16 (sk' j)) → MB σ' tb pr ow ft hs u1 u2 ur ul uo ua uc us ut uk fa vf wh wy (nI h) dp md ov oh dn an lo' sk' kp mm fm → FrM σ0 σ' → P (.inl none) σ') : ∀ (nn : Nat) (i : Nat) (σ : jl_S) (sk : Rw), h - i < nn → i ≤ h → MB σ tb pr ow ft hs u1 u2 ur ul uo ua uc us ut uk fa vf wh wy (nI h) dp md ov oh dn an lo sk kp mm fm → FrM σ0 σ → (∀ j, j < i → sk j = r (7 + j)) → (∀ j, ob 16 (sk j)) → jl_E l G m_Mo_takeMap (0, 0) 58 [some (.ref 22), some (.int (nI m)), some (.int (nI pc)), some (.int (nI (12 * (24 * m + pc)))), some (.int (nI i))] [] σ P := by
  intro nn
  induction nn with
  | zero => intro i σ sk hnn; exact absurd hnn (Nat.not_lt_zero _)
  | succ nn ihn =>
    intro i σ sk hnn hi hmb hfr hsr hsk
    obtain ⟨hO, hw, hu, hr, hkp, hmp, hfm⟩ := id hmb; obtain ⟨r1, r2⟩ := id hr
    obtain ⟨h23, h24, h25, h26, h27⟩ := id hw
    obtain ⟨h28, h29, h30, h31, h32, h33, h34, h35, h36, h37⟩ := id hu
    have hh5 := hrv.2.1
    have hrr := hA.s hpc hAs
    refine er_iload d_Mo_takeMap_58 rfl ?_
    refine er_aload_n d_Mo_takeMap_60 rfl ?_
    refine er_getf d_Mo_takeMap_61 f_Mo_takeMap_179 hO rfl ?_
    refine er_icmp_geN 92 d_Mo_takeMap_64 (by decide) (by omega) (by omega) (fun c1 => ?_) (fun c1 => ?_)
    · exact er_vret d_Mo_takeMap_92 rfl (hT lo sk σ ⟨hlr, fun j hj => hsr j (by omega)⟩ hlo hsk hmb hfr) (by decide) (by decide)
    · refine er_aload_n d_Mo_takeMap_67 rfl ?_
      refine er_getf d_Mo_takeMap_68 f_Mo_takeMap_72 hO rfl ?_
      refine er_iload d_Mo_takeMap_71 rfl ?_
      refine er_aload_n d_Mo_takeMap_73 rfl ?_
      refine er_getf d_Mo_takeMap_74 f_Mo_takeMap_63 hO rfl ?_
      refine er_iload_n d_Mo_takeMap_77 rfl ?_
      refine er_bipush ((nI (7))) d_Mo_takeMap_78 (by decide) ?_
      refine er_iaddN d_Mo_takeMap_80 ?_
      refine er_iload d_Mo_takeMap_81 rfl ?_
      refine er_iaddN d_Mo_takeMap_83 ?_
      refine er_ialdQ (v := (en (r (7 + i)))) d_Mo_takeMap_84 hmp (by omega) (by omega) (by have z := hrr (7 + i) (by omega); rw [show 12 * (24 * m + pc) + (7 + i) = 12 * (24 * m + pc) + 7 + i by omega] at z; exact z) ?_
      refine er_iastN d_Mo_takeMap_85 r2 (by omega) (by omega) ?_
      rw [show upd (fun j => en (sk j)) (i) ((en (r (7 + i)))) = (fun j => en ((va_up sk (i) ((r (7 + i)))) j)) from en_up sk (i) ((r (7 + i)))]
      show jl_E l G m_Mo_takeMap (0, 0) 86 [some (.ref 22), some (.int (nI m)), some (.int (nI pc)), some (.int (nI (12 * (24 * m + pc)))), some (.int (nI i))] [] (σ.set (41) (.inl (0, 8, .inl (fun j => en ((va_up sk (i) ((r (7 + i)))) j))))) P
      refine er_iinc ((nI (i + 1))) d_Mo_takeMap_86 (by decide) rfl (jl_inc _) ?_
      show jl_E l G m_Mo_takeMap (0, 0) 89 [some (.ref 22), some (.int (nI m)), some (.int (nI pc)), some (.int (nI (12 * (24 * m + pc)))), some (.int (nI (i + 1)))] [] (σ.set (41) (.inl (0, 8, .inl (fun j => en ((va_up sk (i) ((r (7 + i)))) j))))) P
      refine er_goto 58 d_Mo_takeMap_89 (by decide) ?_
      exact ihn (i + 1) _ _ (by omega) (by omega) hmb.s41 (hfr.set (by omega)) (fun j hj => by by_cases e : j = i; (rw [e, va_up_self]); rw [va_up_ne _ _ e]; exact hsr j (by omega)) (ob_up hsk (hrv.ob _))
theorem d_Mo_takeMap_13 : decode m_Mo_takeMap.2.1 13 = .ok (.iload 4, 2) := by decide +kernel
theorem d_Mo_takeMap_15 : decode m_Mo_takeMap.2.1 15 = .ok (.bipush 6, 2) := by decide +kernel
theorem d_Mo_takeMap_17 : decode m_Mo_takeMap.2.1 17 = .ok (.if_icmp .ge 25, 3) := by decide +kernel
theorem d_Mo_takeMap_42 : decode m_Mo_takeMap.2.1 42 = .ok (.aload_n 0, 1) := by decide +kernel
theorem d_Mo_takeMap_43 : decode m_Mo_takeMap.2.1 43 = .ok (.aload_n 0, 1) := by decide +kernel
theorem d_Mo_takeMap_44 : decode m_Mo_takeMap.2.1 44 = .ok (.getfield 63, 3) := by decide +kernel
theorem d_Mo_takeMap_47 : decode m_Mo_takeMap.2.1 47 = .ok (.iload_n 3, 1) := by decide +kernel
theorem d_Mo_takeMap_48 : decode m_Mo_takeMap.2.1 48 = .ok (.bipush 6, 2) := by decide +kernel
theorem d_Mo_takeMap_50 : decode m_Mo_takeMap.2.1 50 = .ok (.iadd, 1) := by decide +kernel
theorem d_Mo_takeMap_51 : decode m_Mo_takeMap.2.1 51 = .ok (.iaload, 1) := by decide +kernel
theorem p_Mo_takeMap_179 : jl_fp m_Mo_takeMap 179 7 23 = true := by decide +kernel
theorem d_Mo_takeMap_52 : decode m_Mo_takeMap.2.1 52 = .ok (.putfield 179, 3) := by decide +kernel
theorem d_Mo_takeMap_55 : decode m_Mo_takeMap.2.1 55 = .ok (.iconst 0, 1) := by decide +kernel
theorem d_Mo_takeMap_56 : decode m_Mo_takeMap.2.1 56 = .ok (.istore 4, 2) := by decide +kernel
theorem d_Mo_takeMap_20 : decode m_Mo_takeMap.2.1 20 = .ok (.aload_n 0, 1) := by decide +kernel
theorem f_Mo_takeMap_69 : jl_fd m_Mo_takeMap 69 7 21 = true := by decide +kernel
theorem d_Mo_takeMap_21 : decode m_Mo_takeMap.2.1 21 = .ok (.getfield 69, 3) := by decide +kernel
theorem d_Mo_takeMap_24 : decode m_Mo_takeMap.2.1 24 = .ok (.iload 4, 2) := by decide +kernel
theorem d_Mo_takeMap_26 : decode m_Mo_takeMap.2.1 26 = .ok (.aload_n 0, 1) := by decide +kernel
theorem d_Mo_takeMap_27 : decode m_Mo_takeMap.2.1 27 = .ok (.getfield 63, 3) := by decide +kernel
theorem d_Mo_takeMap_30 : decode m_Mo_takeMap.2.1 30 = .ok (.iload_n 3, 1) := by decide +kernel
theorem d_Mo_takeMap_31 : decode m_Mo_takeMap.2.1 31 = .ok (.iload 4, 2) := by decide +kernel
theorem d_Mo_takeMap_33 : decode m_Mo_takeMap.2.1 33 = .ok (.iadd, 1) := by decide +kernel
theorem d_Mo_takeMap_34 : decode m_Mo_takeMap.2.1 34 = .ok (.iaload, 1) := by decide +kernel
theorem d_Mo_takeMap_35 : decode m_Mo_takeMap.2.1 35 = .ok (.iastore, 1) := by decide +kernel
theorem d_Mo_takeMap_36 : decode m_Mo_takeMap.2.1 36 = .ok (.iinc 4 1, 3) := by decide +kernel
theorem d_Mo_takeMap_39 : decode m_Mo_takeMap.2.1 39 = .ok (.goto (-26), 3) := by decide +kernel
theorem mo_tm_1 (hl : l.stackTraces = false) {P : jl_O → jl_S → Prop} {m pc h : Nat} {r : Rw} {σ0 : jl_S}  (hm : m < 24) (hpc : pc < 24) (hA : MpM mm m A) (hAs : A pc = some r) (hrv : rv r h) (hsk : ∀ j, ob 16 (sk j)) (hT : ∀ lo' sk' σ', RlM r lo' sk' h → (∀ j, ob 16 (lo' j)) → (∀ j, ob 16 (sk' j)) → MB σ' tb pr ow ft hs u1 u2 ur ul uo ua uc us ut uk fa vf wh wy (nI h) dp md ov oh dn an lo' sk' kp mm fm → FrM σ0 σ' → P (.inl none) σ') : ∀ (nn : Nat) (i : Nat) (σ : jl_S) (lo : Rw), 6 - i < nn → i ≤ 6 → MB σ tb pr ow ft hs u1 u2 ur ul uo ua uc us ut uk fa vf wh wy hg dp md ov oh dn an lo sk kp mm fm → FrM σ0 σ → (∀ j, j < i → lo j = r j) → (∀ j, ob 16 (lo j)) → jl_E l G m_Mo_takeMap (0, 0) 13 [some (.ref 22), some (.int (nI m)), some (.int (nI pc)), some (.int (nI (12 * (24 * m + pc)))), some (.int (nI i))] [] σ P := by
  intro nn
  induction nn with
  | zero => intro i σ lo hnn; exact absurd hnn (Nat.not_lt_zero _)
  | succ nn ihn =>
    intro i σ lo hnn hi hmb hfr hlr hlo
    obtain ⟨hO, hw, hu, hr, hkp, hmp, hfm⟩ := id hmb; obtain ⟨r1, r2⟩ := id hr
    obtain ⟨h23, h24, h25, h26, h27⟩ := id hw
    obtain ⟨h28, h29, h30, h31, h32, h33, h34, h35, h36, h37⟩ := id hu
    have hh5 := hrv.2.1
    have hrr := hA.s hpc hAs
    refine er_iload d_Mo_takeMap_13 rfl ?_
    refine er_bipush ((nI (6))) d_Mo_takeMap_15 (by decide) ?_
    refine er_icmp_geN 42 d_Mo_takeMap_17 (by decide) (by omega) (by omega) (fun c1 => ?_) (fun c1 => ?_)
    · refine er_aload_n d_Mo_takeMap_42 rfl ?_
      refine er_aload_n d_Mo_takeMap_43 rfl ?_
      refine er_getf d_Mo_takeMap_44 f_Mo_takeMap_63 hO rfl ?_
      refine er_iload_n d_Mo_takeMap_47 rfl ?_
      refine er_bipush ((nI (6))) d_Mo_takeMap_48 (by decide) ?_
      refine er_iaddN d_Mo_takeMap_50 ?_
      refine er_ialdQ (v := (nI (h))) d_Mo_takeMap_51 hmp (by omega) (by omega) ((hrr 6 (by decide)).trans (congrArg en hrv.1)) ?_
      refine er_putf d_Mo_takeMap_52 p_Mo_takeMap_179 hO (Nat.le_of_ble_eq_true rfl) jl_fit_int ?_
      show jl_E l G m_Mo_takeMap (0, 0) 55 [some (.ref 22), some (.int (nI m)), some (.int (nI pc)), some (.int (nI (12 * (24 * m + pc)))), some (.int (nI i))] [] (σ.set (22) (.inr (7, [.int (fa), .ref 23, .ref 24, .ref 25, .ref 26, .ref 27, .ref 28, .ref 29, .ref 30, .ref 31, .ref 32, .ref 33, .ref 34, .ref 35, .ref 36, .ref 37, .int (vf), .int (wh), .int (wy), .ref 38, .ref 39, .ref 40, .ref 41, .int (nI h), .ref 42, .ref 43, .ref 44, .ref 45, .ref 46, .ref 47, .ref 48, .ref 49, .int (dp), .ref 50, .ref 51, .ref 52, .int (md), .int (ov), .int (oh), .int (dn), .int (an)]))) P
      refine er_iconst ((nI (0))) d_Mo_takeMap_55 (by decide) ?_
      refine er_istore d_Mo_takeMap_56 (by decide) ?_
      show jl_E l G m_Mo_takeMap (0, 0) 58 [some (.ref 22), some (.int (nI m)), some (.int (nI pc)), some (.int (nI (12 * (24 * m + pc)))), some (.int (nI 0))] [] (σ.set (22) (.inr (7, [.int (fa), .ref 23, .ref 24, .ref 25, .ref 26, .ref 27, .ref 28, .ref 29, .ref 30, .ref 31, .ref 32, .ref 33, .ref 34, .ref 35, .ref 36, .ref 37, .int (vf), .int (wh), .int (wy), .ref 38, .ref 39, .ref 40, .ref 41, .int (nI h), .ref 42, .ref 43, .ref 44, .ref 45, .ref 46, .ref 47, .ref 48, .ref 49, .int (dp), .ref 50, .ref 51, .ref 52, .int (md), .int (ov), .int (oh), .int (dn), .int (an)]))) P
      exact mo_tm_2 hl hm hpc hA hAs hrv (fun j hj => hlr j (by omega)) hlo hT (h + 1) 0 _ sk (by omega) (by omega) hmb.s22 (hfr.set (by omega)) (fun j hj => absurd hj (Nat.not_lt_zero _)) hsk
    · refine er_aload_n d_Mo_takeMap_20 rfl ?_
      refine er_getf d_Mo_takeMap_21 f_Mo_takeMap_69 hO rfl ?_
      refine er_iload d_Mo_takeMap_24 rfl ?_
      refine er_aload_n d_Mo_takeMap_26 rfl ?_
      refine er_getf d_Mo_takeMap_27 f_Mo_takeMap_63 hO rfl ?_
      refine er_iload_n d_Mo_takeMap_30 rfl ?_
      refine er_iload d_Mo_takeMap_31 rfl ?_
      refine er_iaddN d_Mo_takeMap_33 ?_
      refine er_ialdQ (v := (en (r (i)))) d_Mo_takeMap_34 hmp (by omega) (by omega) (hrr i (by omega)) ?_
      refine er_iastN d_Mo_takeMap_35 r1 (by omega) (by omega) ?_
      rw [show upd (fun j => en (lo j)) (i) ((en (r (i)))) = (fun j => en ((va_up lo (i) ((r (i)))) j)) from en_up lo (i) ((r (i)))]
      show jl_E l G m_Mo_takeMap (0, 0) 36 [some (.ref 22), some (.int (nI m)), some (.int (nI pc)), some (.int (nI (12 * (24 * m + pc)))), some (.int (nI i))] [] (σ.set (40) (.inl (0, 6, .inl (fun j => en ((va_up lo (i) ((r (i)))) j))))) P
      refine er_iinc ((nI (i + 1))) d_Mo_takeMap_36 (by decide) rfl (jl_inc _) ?_
      show jl_E l G m_Mo_takeMap (0, 0) 39 [some (.ref 22), some (.int (nI m)), some (.int (nI pc)), some (.int (nI (12 * (24 * m + pc)))), some (.int (nI (i + 1)))] [] (σ.set (40) (.inl (0, 6, .inl (fun j => en ((va_up lo (i) ((r (i)))) j))))) P
      refine er_goto 13 d_Mo_takeMap_39 (by decide) ?_
      exact ihn (i + 1) _ _ (by omega) (by omega) hmb.s40 (hfr.set (by omega)) (fun j hj => by by_cases e : j = i; (rw [e, va_up_self]); rw [va_up_ne _ _ e]; exact hlr j (by omega)) (ob_up hlo (hrv.ob _))
theorem d_Mo_takeMap_0 : decode m_Mo_takeMap.2.1 0 = .ok (.bipush 12, 2) := by decide +kernel
theorem d_Mo_takeMap_2 : decode m_Mo_takeMap.2.1 2 = .ok (.bipush 24, 2) := by decide +kernel
theorem d_Mo_takeMap_4 : decode m_Mo_takeMap.2.1 4 = .ok (.iload_n 1, 1) := by decide +kernel
theorem d_Mo_takeMap_5 : decode m_Mo_takeMap.2.1 5 = .ok (.imul, 1) := by decide +kernel
theorem d_Mo_takeMap_6 : decode m_Mo_takeMap.2.1 6 = .ok (.iload_n 2, 1) := by decide +kernel
theorem d_Mo_takeMap_7 : decode m_Mo_takeMap.2.1 7 = .ok (.iadd, 1) := by decide +kernel
theorem d_Mo_takeMap_8 : decode m_Mo_takeMap.2.1 8 = .ok (.imul, 1) := by decide +kernel
theorem d_Mo_takeMap_9 : decode m_Mo_takeMap.2.1 9 = .ok (.istore_n 3, 1) := by decide +kernel
theorem d_Mo_takeMap_10 : decode m_Mo_takeMap.2.1 10 = .ok (.iconst 0, 1) := by decide +kernel
theorem d_Mo_takeMap_11 : decode m_Mo_takeMap.2.1 11 = .ok (.istore 4, 2) := by decide +kernel
theorem mo_takeMap (hl : l.stackTraces = false) {P : jl_O → jl_S → Prop} {m pc h : Nat} {r : Rw} (hmb : MB σ tb pr ow ft hs u1 u2 ur ul uo ua uc us ut uk fa vf wh wy hg dp md ov oh dn an lo sk kp mm fm) (hm : m < 24) (hpc : pc < 24) (hA : MpM mm m A) (hAs : A pc = some r) (hrv : rv r h) (hlo : ∀ j, ob 16 (lo j)) (hsk : ∀ j, ob 16 (sk j)) (hT : ∀ lo' sk' σ', RlM r lo' sk' h → (∀ j, ob 16 (lo' j)) → (∀ j, ob 16 (sk' j)) → MB σ' tb pr ow ft hs u1 u2 ur ul uo ua uc us ut uk fa vf wh wy (nI h) dp md ov oh dn an lo' sk' kp mm fm → FrM σ σ' → P (.inl none) σ') : jl_mE l G m_Mo_takeMap [.ref 22, .int (nI m), .int (nI pc)] σ P := by
  obtain ⟨hO, hw, hu, hr, hkp, hmp, hfm⟩ := id hmb; obtain ⟨r1, r2⟩ := id hr
  obtain ⟨h23, h24, h25, h26, h27⟩ := id hw
  obtain ⟨h28, h29, h30, h31, h32, h33, h34, h35, h36, h37⟩ := id hu
  refine jl_ofE (as := [.ref 22, .int (nI m), .int (nI pc)]) rfl (by decide) hl (jl_cc rfl (jl_cc rfl (jl_cc rfl jl_ca))) (Nat.le_of_ble_eq_true rfl) ?_
  show jl_E l G m_Mo_takeMap (0, 0) 0 [some (.ref 22), some (.int (nI m)), some (.int (nI pc)), none, none] [] (σ) P
  refine er_bipush ((nI (12))) d_Mo_takeMap_0 (by decide) ?_
  refine er_bipush ((nI (24))) d_Mo_takeMap_2 (by decide) ?_
  refine er_iload_n d_Mo_takeMap_4 rfl ?_
  refine er_imulN d_Mo_takeMap_5 ?_
  refine er_iload_n d_Mo_takeMap_6 rfl ?_
  refine er_iaddN d_Mo_takeMap_7 ?_
  refine er_imulN d_Mo_takeMap_8 ?_
  refine er_istore_n d_Mo_takeMap_9 (by decide) ?_
  show jl_E l G m_Mo_takeMap (0, 0) 10 [some (.ref 22), some (.int (nI m)), some (.int (nI pc)), some (.int (nI ((12) * (((24) * (m)) + (pc))))), none] [] (σ) P
  refine er_iconst ((nI (0))) d_Mo_takeMap_10 (by decide) ?_
  refine er_istore d_Mo_takeMap_11 (by decide) ?_
  show jl_E l G m_Mo_takeMap (0, 0) 13 [some (.ref 22), some (.int (nI m)), some (.int (nI pc)), some (.int (nI ((12) * (((24) * (m)) + (pc))))), some (.int (nI 0))] [] (σ) P
  exact mo_tm_1 hl hm hpc hA hAs hrv hsk hT 7 0 σ lo (by omega) (by omega) hmb FrM.refl (fun j hj => absurd hj (Nat.not_lt_zero _)) hlo
end JMw
