/-! the model: lookAt (wip/gen/p85.py) -/
section JNb
variable {l : Launch} {G : jl_G} {σ : jl_S}
variable {tb : Nat → Bool} {pr : Nat → Option Nat} {ow fi ft : Nat → Nat} {hs : Nat → Bool} {fa vf wh wy hg dp md ov oh dn an : Int32}
variable {u1 u2 : Nat → Option Nat} {ur ul uo : Nat → Nat} {ua : Nat → Int32} {uc us ut uk : Nat → Nat}
variable {lo sk kp : Rw} {mm : Nat → Int32} {fm : Nat → Bool}
variable {sg : Int32 → Option Sg}
theorem d_Mo_lookAt_151 : decode m_Mo_lookAt.2.1 151 = .ok (.iload 5, 2) := by decide +kernel
theorem d_Mo_lookAt_153 : decode m_Mo_lookAt.2.1 153 = .ok (.iload 4, 2) := by decide +kernel
theorem d_Mo_lookAt_155 : decode m_Mo_lookAt.2.1 155 = .ok (.if_icmp .ge 23, 3) := by decide +kernel
theorem d_Mo_lookAt_158 : decode m_Mo_lookAt.2.1 158 = .ok (.aload_n 0, 1) := by decide +kernel
theorem f_Mo_lookAt_72 : jl_fd m_Mo_lookAt 72 7 22 = true := by decide +kernel
theorem d_Mo_lookAt_159 : decode m_Mo_lookAt.2.1 159 = .ok (.getfield 72, 3) := by decide +kernel
theorem d_Mo_lookAt_162 : decode m_Mo_lookAt.2.1 162 = .ok (.iload 5, 2) := by decide +kernel
theorem d_Mo_lookAt_164 : decode m_Mo_lookAt.2.1 164 = .ok (.aload_n 0, 1) := by decide +kernel
theorem f_Mo_lookAt_75 : jl_fd m_Mo_lookAt 75 7 24 = true := by decide +kernel
theorem d_Mo_lookAt_165 : decode m_Mo_lookAt.2.1 165 = .ok (.getfield 75, 3) := by decide +kernel
theorem d_Mo_lookAt_168 : decode m_Mo_lookAt.2.1 168 = .ok (.iload 5, 2) := by decide +kernel
theorem d_Mo_lookAt_170 : decode m_Mo_lookAt.2.1 170 = .ok (.iaload, 1) := by decide +kernel
theorem d_Mo_lookAt_171 : decode m_Mo_lookAt.2.1 171 = .ok (.iastore, 1) := by decide +kernel
theorem d_Mo_lookAt_172 : decode m_Mo_lookAt.2.1 172 = .ok (.iinc 5 1, 3) := by decide +kernel
theorem d_Mo_lookAt_175 : decode m_Mo_lookAt.2.1 175 = .ok (.goto (-24), 3) := by decide +kernel
theorem mo_lk_3 (hl : l.stackTraces = false) {P : jl_O → jl_S → Prop} {m pc o h : Nat} {x : Int32} {r : Rw} {m0 : Nat → Int32} {σ0 : jl_S} {s : MF}  (hok : WoOk tb pr ow fi) (hK : MoK u1 u2 ur ul uo uc us ut uk) (hm : m < 24) (hpc : pc < 24) (ho : uo (24 * m + pc) = o) (hx : ua (24 * m + pc) = x) (hlr : ∀ i, i < 6 → lo i = r i) (hrv : rv r h) (hlo : ∀ j, ob 16 (lo j)) (hsg : SgM tb pr hs u1 u2 ur sg) (hft : ∀ k f, tyv (some (fty pr fi ft k f))) (hsgv : ∀ x g, sg x = some g → tyv (some g.2.2)) (hfl : flt tb pr ow fi ft sg o x (ul m) (fun i => us (2 * m + i) / 32) (fun i => us (2 * m + i) % 32) (fun i => ut (2 * m + i)) (fun i => uk (2 * m + i)) (uc m) (ur m) pc r h = 0) (hkr : ∀ j, j < h → kp j = r (7 + j)) (hA : MpM mm m s.1) (hF : frp fm s.2) (hAV : AV s.1) (hmf : MmF m m0 mm) (hT : ∀ s', nxtA pr o x pc (actR pr fi ft sg r o x r h) (h - tks sg o x + pts o) s = (true, s') → ∀ lo' sk' kp' hg' mm' fm' σ', (∀ j, ob 16 (lo' j)) → (∀ j, ob 16 (sk' j)) → MpM mm' m s'.1 → frp fm' s'.2 → AV s'.1 → MmF m m0 mm' → MB σ' tb pr ow ft hs u1 u2 ur ul uo ua uc us ut uk fa vf wh wy hg' dp md ov oh dn an lo' sk' kp' mm' fm' → FrM σ0 σ' → P (.inl (some (.int (nI 0)))) σ') (hN : ∀ s', nxtA pr o x pc (actR pr fi ft sg r o x r h) (h - tks sg o x + pts o) s = (false, s') → ∀ lo' sk' kp' hg' mm' fm' σ', (∀ j, ob 16 (lo' j)) → (∀ j, ob 16 (sk' j)) → MpM mm' m s'.1 → frp fm' s'.2 → AV s'.1 → MmF m m0 mm' → MB σ' tb pr ow ft hs u1 u2 ur ul uo ua uc us ut uk fa vf wh wy hg' dp md ov oh dn an lo' sk' kp' mm' fm' → FrM σ0 σ' → P (.inl (some (.int (nI 3)))) σ') : ∀ (nn : Nat) (i : Nat) (σ : jl_S) (sk : Rw), h - i < nn → i ≤ h → MB σ tb pr ow ft hs u1 u2 ur ul uo ua uc us ut uk fa vf wh wy (nI h) dp md ov oh dn an lo sk kp mm fm → FrM σ0 σ → (∀ j, j < i → sk j = r (7 + j)) → (∀ j, ob 16 (sk j)) → jl_E l G m_Mo_lookAt (0, 0) 151 [some (.ref 22), some (.int (nI m)), some (.int (nI pc)), some (.int (nI 0)), some (.int (nI h)), some (.int (nI i)), none] [] σ P := by
  intro nn
  induction nn with
  | zero => intro i σ sk hnn; exact absurd hnn (Nat.not_lt_zero _)
  | succ nn ihn =>
    intro i σ sk hnn hi hmb hfr hsr hsk
    obtain ⟨hO, hw, hu, hr, hkp, hmp, hfm⟩ := id hmb; obtain ⟨r1, r2⟩ := id hr
    obtain ⟨h23, h24, h25, h26, h27⟩ := id hw
    obtain ⟨h28, h29, h30, h31, h32, h33, h34, h35, h36, h37⟩ := id hu
    obtain ⟨hk1, hk2, hk3, hk4, hk5, hk6⟩ := hK.1 m hm
    have hh5 := hrv.2.1
    refine er_iload d_Mo_lookAt_151 rfl ?_
    refine er_iload d_Mo_lookAt_153 rfl ?_
    refine er_icmp_geN 178 d_Mo_lookAt_155 (by decide) (by omega) (by omega) (fun c1 => ?_) (fun c1 => ?_)
    · exact mo_lk_t hl hmb hok hK hm hpc ho hx ⟨hlr, fun j hj => hsr j (by omega)⟩ hrv hlo hsk hsg hft hsgv hA hF hAV hmf hfr hfl hT hN
    · refine er_aload_n d_Mo_lookAt_158 rfl ?_
      refine er_getf d_Mo_lookAt_159 f_Mo_lookAt_72 hO rfl ?_
      refine er_iload d_Mo_lookAt_162 rfl ?_
      refine er_aload_n d_Mo_lookAt_164 rfl ?_
      refine er_getf d_Mo_lookAt_165 f_Mo_lookAt_75 hO rfl ?_
      refine er_iload d_Mo_lookAt_168 rfl ?_
      refine er_ialdQ (v := (en (r (7 + i)))) d_Mo_lookAt_170 hkp (by omega) (by omega) (congrArg en (hkr i (by omega))) ?_
      refine er_iastN d_Mo_lookAt_171 r2 (by omega) (by omega) ?_
      rw [show upd (fun j => en (sk j)) (i) ((en (r (7 + i)))) = (fun j => en ((va_up sk (i) ((r (7 + i)))) j)) from en_up sk (i) ((r (7 + i)))]
      show jl_E l G m_Mo_lookAt (0, 0) 172 [some (.ref 22), some (.int (nI m)), some (.int (nI pc)), some (.int (nI 0)), some (.int (nI h)), some (.int (nI i)), none] [] (σ.set (41) (.inl (0, 8, .inl (fun j => en ((va_up sk (i) ((r (7 + i)))) j))))) P
      refine er_iinc ((nI (i + 1))) d_Mo_lookAt_172 (by decide) rfl (jl_inc _) ?_
      show jl_E l G m_Mo_lookAt (0, 0) 175 [some (.ref 22), some (.int (nI m)), some (.int (nI pc)), some (.int (nI 0)), some (.int (nI h)), some (.int (nI (i + 1))), none] [] (σ.set (41) (.inl (0, 8, .inl (fun j => en ((va_up sk (i) ((r (7 + i)))) j))))) P
      refine er_goto 151 d_Mo_lookAt_175 (by decide) ?_
      exact ihn (i + 1) _ _ (by omega) (by omega) hmb.s41 (hfr.set (by omega)) (fun j hj => by by_cases e : j = i; (rw [e, va_up_self]); rw [va_up_ne _ _ e]; exact hsr j (by omega)) (ob_up hsk (hrv.ob _))
theorem d_Mo_lookAt_60 : decode m_Mo_lookAt.2.1 60 = .ok (.iload 5, 2) := by decide +kernel
theorem d_Mo_lookAt_62 : decode m_Mo_lookAt.2.1 62 = .ok (.iconst 2, 1) := by decide +kernel
theorem d_Mo_lookAt_63 : decode m_Mo_lookAt.2.1 63 = .ok (.iload_n 1, 1) := by decide +kernel
theorem d_Mo_lookAt_64 : decode m_Mo_lookAt.2.1 64 = .ok (.imul, 1) := by decide +kernel
theorem d_Mo_lookAt_65 : decode m_Mo_lookAt.2.1 65 = .ok (.aload_n 0, 1) := by decide +kernel
theorem f_Mo_lookAt_44 : jl_fd m_Mo_lookAt 44 7 12 = true := by decide +kernel
theorem d_Mo_lookAt_66 : decode m_Mo_lookAt.2.1 66 = .ok (.getfield 44, 3) := by decide +kernel
theorem d_Mo_lookAt_69 : decode m_Mo_lookAt.2.1 69 = .ok (.iload_n 1, 1) := by decide +kernel
theorem d_Mo_lookAt_70 : decode m_Mo_lookAt.2.1 70 = .ok (.iaload, 1) := by decide +kernel
theorem d_Mo_lookAt_71 : decode m_Mo_lookAt.2.1 71 = .ok (.iadd, 1) := by decide +kernel
theorem d_Mo_lookAt_72 : decode m_Mo_lookAt.2.1 72 = .ok (.if_icmp .ge 70, 3) := by decide +kernel
theorem d_Mo_lookAt_142 : decode m_Mo_lookAt.2.1 142 = .ok (.aload_n 0, 1) := by decide +kernel
theorem d_Mo_lookAt_143 : decode m_Mo_lookAt.2.1 143 = .ok (.iload 4, 2) := by decide +kernel
theorem p_Mo_lookAt_179 : jl_fp m_Mo_lookAt 179 7 23 = true := by decide +kernel
theorem d_Mo_lookAt_145 : decode m_Mo_lookAt.2.1 145 = .ok (.putfield 179, 3) := by decide +kernel
theorem d_Mo_lookAt_148 : decode m_Mo_lookAt.2.1 148 = .ok (.iconst 0, 1) := by decide +kernel
theorem d_Mo_lookAt_149 : decode m_Mo_lookAt.2.1 149 = .ok (.istore 5, 2) := by decide +kernel
theorem d_Mo_lookAt_75 : decode m_Mo_lookAt.2.1 75 = .ok (.aload_n 0, 1) := by decide +kernel
theorem d_Mo_lookAt_76 : decode m_Mo_lookAt.2.1 76 = .ok (.iload 5, 2) := by decide +kernel
theorem d_Mo_lookAt_78 : decode m_Mo_lookAt.2.1 78 = .ok (.iload_n 2, 1) := by decide +kernel
theorem k_Mo_lookAt_145 : jl_cv m_Mo_lookAt m_Mo_around 145 2 = true := by decide +kernel
theorem d_Mo_lookAt_79 : decode m_Mo_lookAt.2.1 79 = .ok (.invokevirtual 145, 3) := by decide +kernel
theorem d_Mo_lookAt_82 : decode m_Mo_lookAt.2.1 82 = .ok (.ifCond .ne 6, 3) := by decide +kernel
theorem d_Mo_lookAt_88 : decode m_Mo_lookAt.2.1 88 = .ok (.aload_n 0, 1) := by decide +kernel
theorem d_Mo_lookAt_89 : decode m_Mo_lookAt.2.1 89 = .ok (.iconst 0, 1) := by decide +kernel
theorem d_Mo_lookAt_90 : decode m_Mo_lookAt.2.1 90 = .ok (.putfield 179, 3) := by decide +kernel
theorem d_Mo_lookAt_93 : decode m_Mo_lookAt.2.1 93 = .ok (.aload_n 0, 1) := by decide +kernel
theorem f_Mo_lookAt_53 : jl_fd m_Mo_lookAt 53 7 15 = true := by decide +kernel
theorem d_Mo_lookAt_94 : decode m_Mo_lookAt.2.1 94 = .ok (.getfield 53, 3) := by decide +kernel
theorem d_Mo_lookAt_97 : decode m_Mo_lookAt.2.1 97 = .ok (.iload 5, 2) := by decide +kernel
theorem d_Mo_lookAt_99 : decode m_Mo_lookAt.2.1 99 = .ok (.iaload, 1) := by decide +kernel
theorem d_Mo_lookAt_100 : decode m_Mo_lookAt.2.1 100 = .ok (.bipush 6, 2) := by decide +kernel
theorem d_Mo_lookAt_102 : decode m_Mo_lookAt.2.1 102 = .ok (.if_icmp .ge 17, 3) := by decide +kernel
theorem d_Mo_lookAt_119 : decode m_Mo_lookAt.2.1 119 = .ok (.aload_n 0, 1) := by decide +kernel
theorem d_Mo_lookAt_120 : decode m_Mo_lookAt.2.1 120 = .ok (.iload_n 1, 1) := by decide +kernel
theorem d_Mo_lookAt_121 : decode m_Mo_lookAt.2.1 121 = .ok (.aload_n 0, 1) := by decide +kernel
theorem f_Mo_lookAt_50 : jl_fd m_Mo_lookAt 50 7 14 = true := by decide +kernel
theorem d_Mo_lookAt_122 : decode m_Mo_lookAt.2.1 122 = .ok (.getfield 50, 3) := by decide +kernel
theorem d_Mo_lookAt_125 : decode m_Mo_lookAt.2.1 125 = .ok (.iload 5, 2) := by decide +kernel
theorem d_Mo_lookAt_127 : decode m_Mo_lookAt.2.1 127 = .ok (.iaload, 1) := by decide +kernel
theorem d_Mo_lookAt_128 : decode m_Mo_lookAt.2.1 128 = .ok (.invokevirtual 203, 3) := by decide +kernel
theorem d_Mo_lookAt_131 : decode m_Mo_lookAt.2.1 131 = .ok (.ifCond .ne 5, 3) := by decide +kernel
theorem d_Mo_lookAt_136 : decode m_Mo_lookAt.2.1 136 = .ok (.iinc 5 1, 3) := by decide +kernel
theorem d_Mo_lookAt_139 : decode m_Mo_lookAt.2.1 139 = .ok (.goto (-79), 3) := by decide +kernel
theorem d_Mo_lookAt_134 : decode m_Mo_lookAt.2.1 134 = .ok (.iconst 3, 1) := by decide +kernel
theorem d_Mo_lookAt_135 : decode m_Mo_lookAt.2.1 135 = .ok (.ireturn, 1) := by decide +kernel
theorem d_Mo_lookAt_105 : decode m_Mo_lookAt.2.1 105 = .ok (.aload_n 0, 1) := by decide +kernel
theorem d_Mo_lookAt_106 : decode m_Mo_lookAt.2.1 106 = .ok (.bipush 10, 2) := by decide +kernel
theorem d_Mo_lookAt_108 : decode m_Mo_lookAt.2.1 108 = .ok (.aload_n 0, 1) := by decide +kernel
theorem d_Mo_lookAt_109 : decode m_Mo_lookAt.2.1 109 = .ok (.getfield 53, 3) := by decide +kernel
theorem d_Mo_lookAt_112 : decode m_Mo_lookAt.2.1 112 = .ok (.iload 5, 2) := by decide +kernel
theorem d_Mo_lookAt_114 : decode m_Mo_lookAt.2.1 114 = .ok (.iaload, 1) := by decide +kernel
theorem d_Mo_lookAt_115 : decode m_Mo_lookAt.2.1 115 = .ok (.iadd, 1) := by decide +kernel
theorem k_Mo_lookAt_192 : jl_cv m_Mo_lookAt m_Mo_push 192 1 = true := by decide +kernel
theorem d_Mo_lookAt_116 : decode m_Mo_lookAt.2.1 116 = .ok (.invokevirtual 192, 3) := by decide +kernel
theorem d_Mo_lookAt_85 : decode m_Mo_lookAt.2.1 85 = .ok (.goto 51, 3) := by decide +kernel
theorem mo_lk_2 (hl : l.stackTraces = false) {P : jl_O → jl_S → Prop} {m pc o h : Nat} {x : Int32} {r : Rw} {m0 : Nat → Int32} {σ0 : jl_S}  (hok : WoOk tb pr ow fi) (hK : MoK u1 u2 ur ul uo uc us ut uk) (hm : m < 24) (hpc : pc < 24) (ho : uo (24 * m + pc) = o) (hx : ua (24 * m + pc) = x) (hlr : ∀ i, i < 6 → lo i = r i) (hrv : rv r h) (hlo : ∀ j, ob 16 (lo j)) (hsg : SgM tb pr hs u1 u2 ur sg) (hft : ∀ k f, tyv (some (fty pr fi ft k f))) (hsgv : ∀ x g, sg x = some g → tyv (some g.2.2)) (hfl : flt tb pr ow fi ft sg o x (ul m) (fun i => us (2 * m + i) / 32) (fun i => us (2 * m + i) % 32) (fun i => ut (2 * m + i)) (fun i => uk (2 * m + i)) (uc m) (ur m) pc r h = 0) (hkr : ∀ j, j < h → kp j = r (7 + j)) : ∀ (nn : Nat) (i : Nat) (s : MF) (σ : jl_S) (sk : Rw) (hg : Int32) (mm : Nat → Int32) (fm : Nat → Bool), uc m - i < nn → i ≤ uc m → MB σ tb pr ow ft hs u1 u2 ur ul uo ua uc us ut uk fa vf wh wy hg dp md ov oh dn an lo sk kp mm fm → FrM σ0 σ → (∀ j, ob 16 (sk j)) → MpM mm m s.1 → frp fm s.2 → AV s.1 → MmF m m0 mm → (∀ s', catA pr (fun i => us (2 * m + i) / 32) (fun i => us (2 * m + i) % 32) (fun i => ut (2 * m + i)) (fun i => uk (2 * m + i)) r h pc (uc m - i) i s = (true, s') → (∀ s'', nxtA pr o x pc (actR pr fi ft sg r o x r h) (h - tks sg o x + pts o) s' = (true, s'') → ∀ lo' sk' kp' hg' mm' fm' σ', (∀ j, ob 16 (lo' j)) → (∀ j, ob 16 (sk' j)) → MpM mm' m s''.1 → frp fm' s''.2 → AV s''.1 → MmF m m0 mm' → MB σ' tb pr ow ft hs u1 u2 ur ul uo ua uc us ut uk fa vf wh wy hg' dp md ov oh dn an lo' sk' kp' mm' fm' → FrM σ0 σ' → P (.inl (some (.int (nI 0)))) σ') ∧ ∀ s'', nxtA pr o x pc (actR pr fi ft sg r o x r h) (h - tks sg o x + pts o) s' = (false, s'') → ∀ lo' sk' kp' hg' mm' fm' σ', (∀ j, ob 16 (lo' j)) → (∀ j, ob 16 (sk' j)) → MpM mm' m s''.1 → frp fm' s''.2 → AV s''.1 → MmF m m0 mm' → MB σ' tb pr ow ft hs u1 u2 ur ul uo ua uc us ut uk fa vf wh wy hg' dp md ov oh dn an lo' sk' kp' mm' fm' → FrM σ0 σ' → P (.inl (some (.int (nI 3)))) σ') → (∀ s', catA pr (fun i => us (2 * m + i) / 32) (fun i => us (2 * m + i) % 32) (fun i => ut (2 * m + i)) (fun i => uk (2 * m + i)) r h pc (uc m - i) i s = (false, s') → ∀ lo' sk' kp' hg' mm' fm' σ', (∀ j, ob 16 (lo' j)) → (∀ j, ob 16 (sk' j)) → MpM mm' m s'.1 → frp fm' s'.2 → AV s'.1 → MmF m m0 mm' → MB σ' tb pr ow ft hs u1 u2 ur ul uo ua uc us ut uk fa vf wh wy hg' dp md ov oh dn an lo' sk' kp' mm' fm' → FrM σ0 σ' → P (.inl (some (.int (nI 3)))) σ') → jl_E l G m_Mo_lookAt (0, 0) 60 [some (.ref 22), some (.int (nI m)), some (.int (nI pc)), some (.int (nI 0)), some (.int (nI h)), some (.int (nI (2 * m + i))), none] [] σ P := by
  intro nn
  induction nn with
  | zero => intro i s σ sk hg mm fm hnn; exact absurd hnn (Nat.not_lt_zero _)
  | succ nn ihn =>
    intro i s σ sk hg mm fm hnn hi hmb hfr hsk hA hF hAV hmf hc0 hc3
    obtain ⟨hO, hw, hu, hr, hkp, hmp, hfm⟩ := id hmb; obtain ⟨r1, r2⟩ := id hr
    obtain ⟨h23, h24, h25, h26, h27⟩ := id hw
    obtain ⟨h28, h29, h30, h31, h32, h33, h34, h35, h36, h37⟩ := id hu
    obtain ⟨hk1, hk2, hk3, hk4, hk5, hk6⟩ := hK.1 m hm
    have hh5 := hrv.2.1
    refine er_iload d_Mo_lookAt_60 rfl ?_
    refine er_iconst ((nI (2))) d_Mo_lookAt_62 (by decide) ?_
    refine er_iload_n d_Mo_lookAt_63 rfl ?_
    refine er_imulN d_Mo_lookAt_64 ?_
    refine er_aload_n d_Mo_lookAt_65 rfl ?_
    refine er_getf d_Mo_lookAt_66 f_Mo_lookAt_44 hO rfl ?_
    refine er_iload_n d_Mo_lookAt_69 rfl ?_
    refine er_ialdN d_Mo_lookAt_70 h34 (by omega) (by omega) ?_
    refine er_iaddN d_Mo_lookAt_71 ?_
    refine er_icmp_geN 142 d_Mo_lookAt_72 (by decide) (by omega) (by omega) (fun c1 => ?_) (fun c1 => ?_)
    · refine er_aload_n d_Mo_lookAt_142 rfl ?_
      refine er_iload d_Mo_lookAt_143 rfl ?_
      refine er_putf d_Mo_lookAt_145 p_Mo_lookAt_179 hO (Nat.le_of_ble_eq_true rfl) jl_fit_int ?_
      show jl_E l G m_Mo_lookAt (0, 0) 148 [some (.ref 22), some (.int (nI m)), some (.int (nI pc)), some (.int (nI 0)), some (.int (nI h)), some (.int (nI (2 * m + i))), none] [] (σ.set (22) (.inr (7, [.int (fa), .ref 23, .ref 24, .ref 25, .ref 26, .ref 27, .ref 28, .ref 29, .ref 30, .ref 31, .ref 32, .ref 33, .ref 34, .ref 35, .ref 36, .ref 37, .int (vf), .int (wh), .int (wy), .ref 38, .ref 39, .ref 40, .ref 41, .int (nI h), .ref 42, .ref 43, .ref 44, .ref 45, .ref 46, .ref 47, .ref 48, .ref 49, .int (dp), .ref 50, .ref 51, .ref 52, .int (md), .int (ov), .int (oh), .int (dn), .int (an)]))) P
      refine er_iconst ((nI (0))) d_Mo_lookAt_148 (by decide) ?_
      refine er_istore d_Mo_lookAt_149 (by decide) ?_
      show jl_E l G m_Mo_lookAt (0, 0) 151 [some (.ref 22), some (.int (nI m)), some (.int (nI pc)), some (.int (nI 0)), some (.int (nI h)), some (.int (nI 0)), none] [] (σ.set (22) (.inr (7, [.int (fa), .ref 23, .ref 24, .ref 25, .ref 26, .ref 27, .ref 28, .ref 29, .ref 30, .ref 31, .ref 32, .ref 33, .ref 34, .ref 35, .ref 36, .ref 37, .int (vf), .int (wh), .int (wy), .ref 38, .ref 39, .ref 40, .ref 41, .int (nI h), .ref 42, .ref 43, .ref 44, .ref 45, .ref 46, .ref 47, .ref 48, .ref 49, .int (dp), .ref 50, .ref 51, .ref 52, .int (md), .int (ov), .int (oh), .int (dn), .int (an)]))) P
      obtain ⟨hT, hN⟩ := hc0 s (by rw [show uc m - i = 0 by omega]; rfl)
      exact mo_lk_3 hl hok hK hm hpc ho hx hlr hrv hlo hsg hft hsgv hfl hkr hA hF hAV hmf hT hN (h + 1) 0 _ sk (by omega) (by omega) hmb.s22 (hfr.set (by omega)) (fun j hj => absurd hj (Nat.not_lt_zero _)) hsk
    · refine er_aload_n d_Mo_lookAt_75 rfl ?_
      refine er_iload d_Mo_lookAt_76 rfl ?_
      refine er_iload_n d_Mo_lookAt_78 rfl ?_
      refine er_callV (As := [.int (nI (2 * m + i)), .int (nI pc)]) d_Mo_lookAt_79 k_Mo_lookAt_145 hO rfl rfl rfl (Nat.le_of_ble_eq_true rfl) (by decide) (by decide) (mo_around hl hO hw hu (by omega) (by omega) (hK.2.2 _ (by omega)).1) ?_
      show jl_E l G m_Mo_lookAt (0, 0) 82 [some (.ref 22), some (.int (nI m)), some (.int (nI pc)), some (.int (nI 0)), some (.int (nI h)), some (.int (nI (2 * m + i))), none] [.int (bi (aroU us (2 * m + i) (pc)))] (σ) P
      refine er_if_ne 88 d_Mo_lookAt_82 (by decide) (fun c2 => ?_) (fun c2 => ?_)
      · obtain ⟨-, htg, hki⟩ := hK.2.2 (2 * m + i) (by omega)
        refine er_aload_n d_Mo_lookAt_88 rfl ?_
        refine er_iconst ((nI (0))) d_Mo_lookAt_89 (by decide) ?_
        refine er_putf d_Mo_lookAt_90 p_Mo_lookAt_179 hO (Nat.le_of_ble_eq_true rfl) jl_fit_int ?_
        show jl_E l G m_Mo_lookAt (0, 0) 93 [some (.ref 22), some (.int (nI m)), some (.int (nI pc)), some (.int (nI 0)), some (.int (nI h)), some (.int (nI (2 * m + i))), none] [] (σ.set (22) (.inr (7, [.int (fa), .ref 23, .ref 24, .ref 25, .ref 26, .ref 27, .ref 28, .ref 29, .ref 30, .ref 31, .ref 32, .ref 33, .ref 34, .ref 35, .ref 36, .ref 37, .int (vf), .int (wh), .int (wy), .ref 38, .ref 39, .ref 40, .ref 41, .int (nI 0), .ref 42, .ref 43, .ref 44, .ref 45, .ref 46, .ref 47, .ref 48, .ref 49, .int (dp), .ref 50, .ref 51, .ref 52, .int (md), .int (ov), .int (oh), .int (dn), .int (an)]))) P
        refine er_aload_n d_Mo_lookAt_93 rfl ?_
        refine er_getf d_Mo_lookAt_94 f_Mo_lookAt_53 (jl_ss hO) rfl ?_
        refine er_iload d_Mo_lookAt_97 rfl ?_
        refine er_ialdN d_Mo_lookAt_99 (jl_sn (by decide) h37) (by omega) (by omega) ?_
        refine er_bipush ((nI (6))) d_Mo_lookAt_100 (by decide) ?_
        refine er_icmp_geN 119 d_Mo_lookAt_102 (by decide) (by omega) (by omega) (fun c3 => ?_) (fun c3 => ?_)
        · refine er_aload_n d_Mo_lookAt_119 rfl ?_
          refine er_iload_n d_Mo_lookAt_120 rfl ?_
          refine er_aload_n d_Mo_lookAt_121 rfl ?_
          refine er_getf d_Mo_lookAt_122 f_Mo_lookAt_50 (jl_ss hO) rfl ?_
          refine er_iload d_Mo_lookAt_125 rfl ?_
          refine er_ialdN d_Mo_lookAt_127 (jl_sn (by decide) h36) (by omega) (by omega) ?_
          have hrg := rv_ctr (k := uk (2 * m + i)) hrv hki
          have hrl : RlM (ctr r h (uk (2 * m + i))) lo sk (ctrh (uk (2 * m + i))) := by rw [show ctr r h (uk (2 * m + i)) = _ from if_pos (show uk (2 * m + i) = 6 by omega), show ctrh (uk (2 * m + i)) = _ from if_pos (show uk (2 * m + i) = 6 by omega)]; exact RlM0 hlr
          have hmb1 : MB (σ.set (22) (.inr (7, [.int (fa), .ref 23, .ref 24, .ref 25, .ref 26, .ref 27, .ref 28, .ref 29, .ref 30, .ref 31, .ref 32, .ref 33, .ref 34, .ref 35, .ref 36, .ref 37, .int (vf), .int (wh), .int (wy), .ref 38, .ref 39, .ref 40, .ref 41, .int (nI 0), .ref 42, .ref 43, .ref 44, .ref 45, .ref 46, .ref 47, .ref 48, .ref 49, .int (dp), .ref 50, .ref 51, .ref 52, .int (md), .int (ov), .int (oh), .int (dn), .int (an)]))) tb pr ow ft hs u1 u2 ur ul uo ua uc us ut uk fa vf wh wy (nI (ctrh (uk (2 * m + i)))) dp md ov oh dn an lo sk kp mm fm := by rw [show ctrh (uk (2 * m + i)) = _ from if_pos (show uk (2 * m + i) = 6 by omega)]; exact (hmb.s22)
          have hsk1 : ∀ j, ob 16 (sk j) := hsk
          refine er_callVE (As := [.int (nI m), .int (nI (ut (2 * m + i)))]) d_Mo_lookAt_128 k_Mo_lookAt_203 (jl_ss hO) rfl rfl rfl (Nat.le_of_ble_eq_true rfl) (by decide) (by decide) (mo_give (A := s.1) (F := s.2) (g := ctr r h (uk (2 * m + i))) (h := ctrh (uk (2 * m + i))) hl hmb1 hok hm htg hA hF hrg hrl hAV (fun s1 mm fm σ e1 hA hF hmf1 hmb hfr1 => ⟨_, rfl, ?_⟩) (fun e1 => ⟨_, rfl, ?_⟩))
          · skip
            have hfr := (hfr.set (by omega)).trans hfr1
            have hmf := hmf.trans hmf1
            have hAV := meetA_AV hok.1 hAV hrg e1
            have hsk := hsk1
            show jl_E l G m_Mo_lookAt (0, 0) 131 [some (.ref 22), some (.int (nI m)), some (.int (nI pc)), some (.int (nI 0)), some (.int (nI h)), some (.int (nI (2 * m + i))), none] [.int (nI 1)] (σ) P
            refine er_if_ne 136 d_Mo_lookAt_131 (by decide) (fun _ => ?_) (fun z => absurd z (by decide))
            refine er_iinc ((nI (2 * m + i + 1))) d_Mo_lookAt_136 (by decide) rfl (jl_inc _) ?_
            show jl_E l G m_Mo_lookAt (0, 0) 139 [some (.ref 22), some (.int (nI m)), some (.int (nI pc)), some (.int (nI 0)), some (.int (nI h)), some (.int (nI (2 * m + i + 1))), none] [] (σ) P
            refine er_goto 60 d_Mo_lookAt_139 (by decide) ?_
            exact ihn (i + 1) s1 σ _ _ mm fm (by omega) (by omega) hmb hfr hsk hA hF hAV hmf (fun s' e => hc0 s' (by rw [show uc m - i = (uc m - (i + 1)) + 1 by omega, catA_s (show aro (fun i => us (2 * m + i) / 32) (fun i => us (2 * m + i) % 32) i pc = true from bi_nf c2) e1]; exact e)) (fun s' e => hc3 s' (by rw [show uc m - i = (uc m - (i + 1)) + 1 by omega, catA_s (show aro (fun i => us (2 * m + i) / 32) (fun i => us (2 * m + i) % 32) i pc = true from bi_nf c2) e1]; exact e))
          · skip
            show jl_E l G m_Mo_lookAt (0, 0) 131 [some (.ref 22), some (.int (nI m)), some (.int (nI pc)), some (.int (nI 0)), some (.int (nI h)), some (.int (nI (2 * m + i))), none] [.int (nI 0)] (σ.set (22) (.inr (7, [.int (fa), .ref 23, .ref 24, .ref 25, .ref 26, .ref 27, .ref 28, .ref 29, .ref 30, .ref 31, .ref 32, .ref 33, .ref 34, .ref 35, .ref 36, .ref 37, .int (vf), .int (wh), .int (wy), .ref 38, .ref 39, .ref 40, .ref 41, .int (nI 0), .ref 42, .ref 43, .ref 44, .ref 45, .ref 46, .ref 47, .ref 48, .ref 49, .int (dp), .ref 50, .ref 51, .ref 52, .int (md), .int (ov), .int (oh), .int (dn), .int (an)]))) P
            refine er_if_ne 136 d_Mo_lookAt_131 (by decide) (fun z => absurd rfl z) (fun _ => ?_)
            refine er_iconst ((nI (3))) d_Mo_lookAt_134 (by decide) ?_
            exact er_iret d_Mo_lookAt_135 rfl (hc3 s (by rw [show uc m - i = (uc m - (i + 1)) + 1 by omega]; exact catA_n (show aro (fun i => us (2 * m + i) / 32) (fun i => us (2 * m + i) % 32) i pc = true from bi_nf c2) e1) lo _ kp _ mm fm _ hlo hsk1 hA hF hAV hmf hmb1 (hfr.set (by omega))) (by decide) (by decide)
        · refine er_aload_n d_Mo_lookAt_105 rfl ?_
          refine er_bipush ((nI (10))) d_Mo_lookAt_106 (by decide) ?_
          refine er_aload_n d_Mo_lookAt_108 rfl ?_
          refine er_getf d_Mo_lookAt_109 f_Mo_lookAt_53 (jl_ss hO) rfl ?_
          refine er_iload d_Mo_lookAt_112 rfl ?_
          refine er_ialdN d_Mo_lookAt_114 (jl_sn (by decide) h37) (by omega) (by omega) ?_
          refine er_iaddN d_Mo_lookAt_115 ?_
          refine er_callV (As := [.int (nI ((10) + (uk (2 * m + i))))]) d_Mo_lookAt_116 k_Mo_lookAt_192 (jl_ss hO) rfl rfl rfl (Nat.le_of_ble_eq_true rfl) (by decide) (by decide) (mo_push (h := 0) (t := (some (10 + uk (2 * m + i)))) hl (hmb.s22).1 (hmb.s22).2.2.2.1.2 (by omega)) ?_
          show jl_E l G m_Mo_lookAt (0, 0) 119 [some (.ref 22), some (.int (nI m)), some (.int (nI pc)), some (.int (nI 0)), some (.int (nI h)), some (.int (nI (2 * m + i))), none] [] (((σ.set (22) (.inr (7, [.int (fa), .ref 23, .ref 24, .ref 25, .ref 26, .ref 27, .ref 28, .ref 29, .ref 30, .ref 31, .ref 32, .ref 33, .ref 34, .ref 35, .ref 36, .ref 37, .int (vf), .int (wh), .int (wy), .ref 38, .ref 39, .ref 40, .ref 41, .int (nI 0), .ref 42, .ref 43, .ref 44, .ref 45, .ref 46, .ref 47, .ref 48, .ref 49, .int (dp), .ref 50, .ref 51, .ref 52, .int (md), .int (ov), .int (oh), .int (dn), .int (an)]))).set (41) (.inl (0, 8, .inl (fun j => en ((va_up sk (0) (some (10 + uk (2 * m + i)))) j))))).set (22) (.inr (7, [.int (fa), .ref 23, .ref 24, .ref 25, .ref 26, .ref 27, .ref 28, .ref 29, .ref 30, .ref 31, .ref 32, .ref 33, .ref 34, .ref 35, .ref 36, .ref 37, .int (vf), .int (wh), .int (wy), .ref 38, .ref 39, .ref 40, .ref 41, .int (nI (0 + 1)), .ref 42, .ref 43, .ref 44, .ref 45, .ref 46, .ref 47, .ref 48, .ref 49, .int (dp), .ref 50, .ref 51, .ref 52, .int (md), .int (ov), .int (oh), .int (dn), .int (an)]))) P
          refine er_aload_n d_Mo_lookAt_119 rfl ?_
          refine er_iload_n d_Mo_lookAt_120 rfl ?_
          refine er_aload_n d_Mo_lookAt_121 rfl ?_
          refine er_getf d_Mo_lookAt_122 f_Mo_lookAt_50 (jl_ss (jl_sn (by decide) (jl_ss hO))) rfl ?_
          refine er_iload d_Mo_lookAt_125 rfl ?_
          refine er_ialdN d_Mo_lookAt_127 (jl_sn (by decide) (jl_sn (by decide) (jl_sn (by decide) h36))) (by omega) (by omega) ?_
          have hrg := rv_ctr (k := uk (2 * m + i)) hrv hki
          have hrl : RlM (ctr r h (uk (2 * m + i))) lo (va_up sk 0 (some (10 + uk (2 * m + i)))) (ctrh (uk (2 * m + i))) := by rw [show ctr r h (uk (2 * m + i)) = _ from if_neg (show uk (2 * m + i) ≠ 6 by omega), show ctrh (uk (2 * m + i)) = _ from if_neg (show uk (2 * m + i) ≠ 6 by omega)]; exact (RlM0 hlr).psh
          have hmb1 : MB (((σ.set (22) (.inr (7, [.int (fa), .ref 23, .ref 24, .ref 25, .ref 26, .ref 27, .ref 28, .ref 29, .ref 30, .ref 31, .ref 32, .ref 33, .ref 34, .ref 35, .ref 36, .ref 37, .int (vf), .int (wh), .int (wy), .ref 38, .ref 39, .ref 40, .ref 41, .int (nI 0), .ref 42, .ref 43, .ref 44, .ref 45, .ref 46, .ref 47, .ref 48, .ref 49, .int (dp), .ref 50, .ref 51, .ref 52, .int (md), .int (ov), .int (oh), .int (dn), .int (an)]))).set (41) (.inl (0, 8, .inl (fun j => en ((va_up sk (0) (some (10 + uk (2 * m + i)))) j))))).set (22) (.inr (7, [.int (fa), .ref 23, .ref 24, .ref 25, .ref 26, .ref 27, .ref 28, .ref 29, .ref 30, .ref 31, .ref 32, .ref 33, .ref 34, .ref 35, .ref 36, .ref 37, .int (vf), .int (wh), .int (wy), .ref 38, .ref 39, .ref 40, .ref 41, .int (nI (0 + 1)), .ref 42, .ref 43, .ref 44, .ref 45, .ref 46, .ref 47, .ref 48, .ref 49, .int (dp), .ref 50, .ref 51, .ref 52, .int (md), .int (ov), .int (oh), .int (dn), .int (an)]))) tb pr ow ft hs u1 u2 ur ul uo ua uc us ut uk fa vf wh wy (nI (ctrh (uk (2 * m + i)))) dp md ov oh dn an lo (va_up sk 0 (some (10 + uk (2 * m + i)))) kp mm fm := by rw [show ctrh (uk (2 * m + i)) = _ from if_neg (show uk (2 * m + i) ≠ 6 by omega)]; exact (hmb.s22.s41.s22)
          have hsk1 : ∀ j, ob 16 ((va_up sk 0 (some (10 + uk (2 * m + i)))) j) := ob_up hsk (ob_s (by omega))
          refine er_callVE (As := [.int (nI m), .int (nI (ut (2 * m + i)))]) d_Mo_lookAt_128 k_Mo_lookAt_203 (jl_ss (jl_sn (by decide) (jl_ss hO))) rfl rfl rfl (Nat.le_of_ble_eq_true rfl) (by decide) (by decide) (mo_give (A := s.1) (F := s.2) (g := ctr r h (uk (2 * m + i))) (h := ctrh (uk (2 * m + i))) hl hmb1 hok hm htg hA hF hrg hrl hAV (fun s1 mm fm σ e1 hA hF hmf1 hmb hfr1 => ⟨_, rfl, ?_⟩) (fun e1 => ⟨_, rfl, ?_⟩))
          · skip
            have hfr := (((hfr.set (by omega)).set (by omega)).set (by omega)).trans hfr1
            have hmf := hmf.trans hmf1
            have hAV := meetA_AV hok.1 hAV hrg e1
            have hsk := hsk1
            show jl_E l G m_Mo_lookAt (0, 0) 131 [some (.ref 22), some (.int (nI m)), some (.int (nI pc)), some (.int (nI 0)), some (.int (nI h)), some (.int (nI (2 * m + i))), none] [.int (nI 1)] (σ) P
            refine er_if_ne 136 d_Mo_lookAt_131 (by decide) (fun _ => ?_) (fun z => absurd z (by decide))
            refine er_iinc ((nI (2 * m + i + 1))) d_Mo_lookAt_136 (by decide) rfl (jl_inc _) ?_
            show jl_E l G m_Mo_lookAt (0, 0) 139 [some (.ref 22), some (.int (nI m)), some (.int (nI pc)), some (.int (nI 0)), some (.int (nI h)), some (.int (nI (2 * m + i + 1))), none] [] (σ) P
            refine er_goto 60 d_Mo_lookAt_139 (by decide) ?_
            exact ihn (i + 1) s1 σ _ _ mm fm (by omega) (by omega) hmb hfr hsk hA hF hAV hmf (fun s' e => hc0 s' (by rw [show uc m - i = (uc m - (i + 1)) + 1 by omega, catA_s (show aro (fun i => us (2 * m + i) / 32) (fun i => us (2 * m + i) % 32) i pc = true from bi_nf c2) e1]; exact e)) (fun s' e => hc3 s' (by rw [show uc m - i = (uc m - (i + 1)) + 1 by omega, catA_s (show aro (fun i => us (2 * m + i) / 32) (fun i => us (2 * m + i) % 32) i pc = true from bi_nf c2) e1]; exact e))
          · skip
            show jl_E l G m_Mo_lookAt (0, 0) 131 [some (.ref 22), some (.int (nI m)), some (.int (nI pc)), some (.int (nI 0)), some (.int (nI h)), some (.int (nI (2 * m + i))), none] [.int (nI 0)] (((σ.set (22) (.inr (7, [.int (fa), .ref 23, .ref 24, .ref 25, .ref 26, .ref 27, .ref 28, .ref 29, .ref 30, .ref 31, .ref 32, .ref 33, .ref 34, .ref 35, .ref 36, .ref 37, .int (vf), .int (wh), .int (wy), .ref 38, .ref 39, .ref 40, .ref 41, .int (nI 0), .ref 42, .ref 43, .ref 44, .ref 45, .ref 46, .ref 47, .ref 48, .ref 49, .int (dp), .ref 50, .ref 51, .ref 52, .int (md), .int (ov), .int (oh), .int (dn), .int (an)]))).set (41) (.inl (0, 8, .inl (fun j => en ((va_up sk (0) (some (10 + uk (2 * m + i)))) j))))).set (22) (.inr (7, [.int (fa), .ref 23, .ref 24, .ref 25, .ref 26, .ref 27, .ref 28, .ref 29, .ref 30, .ref 31, .ref 32, .ref 33, .ref 34, .ref 35, .ref 36, .ref 37, .int (vf), .int (wh), .int (wy), .ref 38, .ref 39, .ref 40, .ref 41, .int (nI (0 + 1)), .ref 42, .ref 43, .ref 44, .ref 45, .ref 46, .ref 47, .ref 48, .ref 49, .int (dp), .ref 50, .ref 51, .ref 52, .int (md), .int (ov), .int (oh), .int (dn), .int (an)]))) P
            refine er_if_ne 136 d_Mo_lookAt_131 (by decide) (fun z => absurd rfl z) (fun _ => ?_)
            refine er_iconst ((nI (3))) d_Mo_lookAt_134 (by decide) ?_
            exact er_iret d_Mo_lookAt_135 rfl (hc3 s (by rw [show uc m - i = (uc m - (i + 1)) + 1 by omega]; exact catA_n (show aro (fun i => us (2 * m + i) / 32) (fun i => us (2 * m + i) % 32) i pc = true from bi_nf c2) e1) lo _ kp _ mm fm _ hlo hsk1 hA hF hAV hmf hmb1 (((hfr.set (by omega)).set (by omega)).set (by omega))) (by decide) (by decide)
      · refine er_goto 136 d_Mo_lookAt_85 (by decide) ?_
        refine er_iinc ((nI (2 * m + i + 1))) d_Mo_lookAt_136 (by decide) rfl (jl_inc _) ?_
        show jl_E l G m_Mo_lookAt (0, 0) 139 [some (.ref 22), some (.int (nI m)), some (.int (nI pc)), some (.int (nI 0)), some (.int (nI h)), some (.int (nI (2 * m + i + 1))), none] [] (σ) P
        refine er_goto 60 d_Mo_lookAt_139 (by decide) ?_
        exact ihn (i + 1) s σ sk hg mm fm (by omega) (by omega) hmb hfr hsk hA hF hAV hmf (fun s' e => hc0 s' (by rw [show uc m - i = (uc m - (i + 1)) + 1 by omega, catA_k (show aro (fun i => us (2 * m + i) / 32) (fun i => us (2 * m + i) % 32) i pc = false from bi_0.mp c2)]; exact e)) (fun s' e => hc3 s' (by rw [show uc m - i = (uc m - (i + 1)) + 1 by omega, catA_k (show aro (fun i => us (2 * m + i) / 32) (fun i => us (2 * m + i) % 32) i pc = false from bi_0.mp c2)]; exact e))
theorem d_Mo_lookAt_28 : decode m_Mo_lookAt.2.1 28 = .ok (.iload 5, 2) := by decide +kernel
theorem d_Mo_lookAt_30 : decode m_Mo_lookAt.2.1 30 = .ok (.iload 4, 2) := by decide +kernel
theorem d_Mo_lookAt_32 : decode m_Mo_lookAt.2.1 32 = .ok (.if_icmp .ge 23, 3) := by decide +kernel
theorem d_Mo_lookAt_55 : decode m_Mo_lookAt.2.1 55 = .ok (.iconst 2, 1) := by decide +kernel
theorem d_Mo_lookAt_56 : decode m_Mo_lookAt.2.1 56 = .ok (.iload_n 1, 1) := by decide +kernel
theorem d_Mo_lookAt_57 : decode m_Mo_lookAt.2.1 57 = .ok (.imul, 1) := by decide +kernel
theorem d_Mo_lookAt_58 : decode m_Mo_lookAt.2.1 58 = .ok (.istore 5, 2) := by decide +kernel
theorem d_Mo_lookAt_35 : decode m_Mo_lookAt.2.1 35 = .ok (.aload_n 0, 1) := by decide +kernel
theorem d_Mo_lookAt_36 : decode m_Mo_lookAt.2.1 36 = .ok (.getfield 75, 3) := by decide +kernel
theorem d_Mo_lookAt_39 : decode m_Mo_lookAt.2.1 39 = .ok (.iload 5, 2) := by decide +kernel
theorem d_Mo_lookAt_41 : decode m_Mo_lookAt.2.1 41 = .ok (.aload_n 0, 1) := by decide +kernel
theorem d_Mo_lookAt_42 : decode m_Mo_lookAt.2.1 42 = .ok (.getfield 72, 3) := by decide +kernel
theorem d_Mo_lookAt_45 : decode m_Mo_lookAt.2.1 45 = .ok (.iload 5, 2) := by decide +kernel
theorem d_Mo_lookAt_47 : decode m_Mo_lookAt.2.1 47 = .ok (.iaload, 1) := by decide +kernel
theorem d_Mo_lookAt_48 : decode m_Mo_lookAt.2.1 48 = .ok (.iastore, 1) := by decide +kernel
theorem d_Mo_lookAt_49 : decode m_Mo_lookAt.2.1 49 = .ok (.iinc 5 1, 3) := by decide +kernel
theorem d_Mo_lookAt_52 : decode m_Mo_lookAt.2.1 52 = .ok (.goto (-24), 3) := by decide +kernel
theorem mo_lk_1 (hl : l.stackTraces = false) {P : jl_O → jl_S → Prop} {m pc o h : Nat} {x : Int32} {r : Rw} {m0 : Nat → Int32} {σ0 : jl_S} {s : MF}  (hok : WoOk tb pr ow fi) (hK : MoK u1 u2 ur ul uo uc us ut uk) (hm : m < 24) (hpc : pc < 24) (ho : uo (24 * m + pc) = o) (hx : ua (24 * m + pc) = x) (hrl : RlM r lo sk h) (hsk : ∀ j, ob 16 (sk j)) (hrv : rv r h) (hlo : ∀ j, ob 16 (lo j)) (hsg : SgM tb pr hs u1 u2 ur sg) (hft : ∀ k f, tyv (some (fty pr fi ft k f))) (hsgv : ∀ x g, sg x = some g → tyv (some g.2.2)) (hfl : flt tb pr ow fi ft sg o x (ul m) (fun i => us (2 * m + i) / 32) (fun i => us (2 * m + i) % 32) (fun i => ut (2 * m + i)) (fun i => uk (2 * m + i)) (uc m) (ur m) pc r h = 0) (hA : MpM mm m s.1) (hF : frp fm s.2) (hAV : AV s.1) (hmf : MmF m m0 mm) (hc0 : (∀ s', catA pr (fun i => us (2 * m + i) / 32) (fun i => us (2 * m + i) % 32) (fun i => ut (2 * m + i)) (fun i => uk (2 * m + i)) r h pc (uc m) 0 s = (true, s') → (∀ s'', nxtA pr o x pc (actR pr fi ft sg r o x r h) (h - tks sg o x + pts o) s' = (true, s'') → ∀ lo' sk' kp' hg' mm' fm' σ', (∀ j, ob 16 (lo' j)) → (∀ j, ob 16 (sk' j)) → MpM mm' m s''.1 → frp fm' s''.2 → AV s''.1 → MmF m m0 mm' → MB σ' tb pr ow ft hs u1 u2 ur ul uo ua uc us ut uk fa vf wh wy hg' dp md ov oh dn an lo' sk' kp' mm' fm' → FrM σ0 σ' → P (.inl (some (.int (nI 0)))) σ') ∧ ∀ s'', nxtA pr o x pc (actR pr fi ft sg r o x r h) (h - tks sg o x + pts o) s' = (false, s'') → ∀ lo' sk' kp' hg' mm' fm' σ', (∀ j, ob 16 (lo' j)) → (∀ j, ob 16 (sk' j)) → MpM mm' m s''.1 → frp fm' s''.2 → AV s''.1 → MmF m m0 mm' → MB σ' tb pr ow ft hs u1 u2 ur ul uo ua uc us ut uk fa vf wh wy hg' dp md ov oh dn an lo' sk' kp' mm' fm' → FrM σ0 σ' → P (.inl (some (.int (nI 3)))) σ')) (hc3 : (∀ s', catA pr (fun i => us (2 * m + i) / 32) (fun i => us (2 * m + i) % 32) (fun i => ut (2 * m + i)) (fun i => uk (2 * m + i)) r h pc (uc m) 0 s = (false, s') → ∀ lo' sk' kp' hg' mm' fm' σ', (∀ j, ob 16 (lo' j)) → (∀ j, ob 16 (sk' j)) → MpM mm' m s'.1 → frp fm' s'.2 → AV s'.1 → MmF m m0 mm' → MB σ' tb pr ow ft hs u1 u2 ur ul uo ua uc us ut uk fa vf wh wy hg' dp md ov oh dn an lo' sk' kp' mm' fm' → FrM σ0 σ' → P (.inl (some (.int (nI 3)))) σ')) : ∀ (nn : Nat) (i : Nat) (σ : jl_S) (kp : Rw), h - i < nn → i ≤ h → MB σ tb pr ow ft hs u1 u2 ur ul uo ua uc us ut uk fa vf wh wy (nI h) dp md ov oh dn an lo sk kp mm fm → FrM σ0 σ → (∀ j, j < i → kp j = r (7 + j)) → jl_E l G m_Mo_lookAt (0, 0) 28 [some (.ref 22), some (.int (nI m)), some (.int (nI pc)), some (.int (nI 0)), some (.int (nI h)), some (.int (nI i)), none] [] σ P := by
  intro nn
  induction nn with
  | zero => intro i σ kp hnn; exact absurd hnn (Nat.not_lt_zero _)
  | succ nn ihn =>
    intro i σ kp hnn hi hmb hfr hkr
    obtain ⟨hO, hw, hu, hr, hkp, hmp, hfm⟩ := id hmb; obtain ⟨r1, r2⟩ := id hr
    obtain ⟨h23, h24, h25, h26, h27⟩ := id hw
    obtain ⟨h28, h29, h30, h31, h32, h33, h34, h35, h36, h37⟩ := id hu
    obtain ⟨hk1, hk2, hk3, hk4, hk5, hk6⟩ := hK.1 m hm
    have hh5 := hrv.2.1
    refine er_iload d_Mo_lookAt_28 rfl ?_
    refine er_iload d_Mo_lookAt_30 rfl ?_
    refine er_icmp_geN 55 d_Mo_lookAt_32 (by decide) (by omega) (by omega) (fun c1 => ?_) (fun c1 => ?_)
    · refine er_iconst ((nI (2))) d_Mo_lookAt_55 (by decide) ?_
      refine er_iload_n d_Mo_lookAt_56 rfl ?_
      refine er_imulN d_Mo_lookAt_57 ?_
      refine er_istore d_Mo_lookAt_58 (by decide) ?_
      show jl_E l G m_Mo_lookAt (0, 0) 60 [some (.ref 22), some (.int (nI m)), some (.int (nI pc)), some (.int (nI 0)), some (.int (nI h)), some (.int (nI ((2) * (m)))), none] [] (σ) P
      exact mo_lk_2 hl hok hK hm hpc ho hx hrl.1 hrv hlo hsg hft hsgv hfl (fun j hj => hkr j (by omega)) (uc m + 1) 0 s σ sk _ mm fm (by omega) (by omega) hmb hfr hsk hA hF hAV hmf hc0 hc3
    · refine er_aload_n d_Mo_lookAt_35 rfl ?_
      refine er_getf d_Mo_lookAt_36 f_Mo_lookAt_75 hO rfl ?_
      refine er_iload d_Mo_lookAt_39 rfl ?_
      refine er_aload_n d_Mo_lookAt_41 rfl ?_
      refine er_getf d_Mo_lookAt_42 f_Mo_lookAt_72 hO rfl ?_
      refine er_iload d_Mo_lookAt_45 rfl ?_
      refine er_ialdQ (v := (en (r (7 + i)))) d_Mo_lookAt_47 r2 (by omega) (by omega) (congrArg en (hrl.2 i (by omega))) ?_
      refine er_iastN d_Mo_lookAt_48 hkp (by omega) (by omega) ?_
      rw [show upd (fun j => en (kp j)) (i) ((en (r (7 + i)))) = (fun j => en ((va_up kp (i) ((r (7 + i)))) j)) from en_up kp (i) ((r (7 + i)))]
      show jl_E l G m_Mo_lookAt (0, 0) 49 [some (.ref 22), some (.int (nI m)), some (.int (nI pc)), some (.int (nI 0)), some (.int (nI h)), some (.int (nI i)), none] [] (σ.set (42) (.inl (0, 8, .inl (fun j => en ((va_up kp (i) ((r (7 + i)))) j))))) P
      refine er_iinc ((nI (i + 1))) d_Mo_lookAt_49 (by decide) rfl (jl_inc _) ?_
      show jl_E l G m_Mo_lookAt (0, 0) 52 [some (.ref 22), some (.int (nI m)), some (.int (nI pc)), some (.int (nI 0)), some (.int (nI h)), some (.int (nI (i + 1))), none] [] (σ.set (42) (.inl (0, 8, .inl (fun j => en ((va_up kp (i) ((r (7 + i)))) j))))) P
      refine er_goto 28 d_Mo_lookAt_52 (by decide) ?_
      exact ihn (i + 1) _ _ (by omega) (by omega) hmb.s42 (hfr.set (by omega)) (fun j hj => by by_cases e : j = i; (rw [e, va_up_self]); rw [va_up_ne _ _ e]; exact hkr j (by omega))
end JNb
