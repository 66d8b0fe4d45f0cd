/-! the model: lookAt (wip/gen/p86.py) -/
section JNc
variable {l : Launch} {G : jl_G} {σ : jl_S}
variable {tb : Nat → Bool} {pr : Nat → Option Nat} {ow fi ft : Nat → Nat} {hs : Nat → Bool} {fa vf wh wy hg dp md ov oh dn an : Int32}
variable {u1 u2 : Nat → Option Nat} {ur ul uo : Nat → Nat} {ua : Nat → Int32} {uc us ut uk : Nat → Nat}
variable {lo sk kp : Rw} {mm : Nat → Int32} {fm : Nat → Bool}
variable {sg : Int32 → Option Sg}
theorem d_Mo_lookAt_0 : decode m_Mo_lookAt.2.1 0 = .ok (.aload_n 0, 1) := by decide +kernel
theorem d_Mo_lookAt_1 : decode m_Mo_lookAt.2.1 1 = .ok (.iload_n 1, 1) := by decide +kernel
theorem d_Mo_lookAt_2 : decode m_Mo_lookAt.2.1 2 = .ok (.iload_n 2, 1) := by decide +kernel
theorem k_Mo_lookAt_196 : jl_cv m_Mo_lookAt m_Mo_takeMap 196 2 = true := by decide +kernel
theorem d_Mo_lookAt_3 : decode m_Mo_lookAt.2.1 3 = .ok (.invokevirtual 196, 3) := by decide +kernel
theorem d_Mo_lookAt_6 : decode m_Mo_lookAt.2.1 6 = .ok (.aload_n 0, 1) := by decide +kernel
theorem d_Mo_lookAt_7 : decode m_Mo_lookAt.2.1 7 = .ok (.iload_n 1, 1) := by decide +kernel
theorem d_Mo_lookAt_8 : decode m_Mo_lookAt.2.1 8 = .ok (.iload_n 2, 1) := by decide +kernel
theorem k_Mo_lookAt_200 : jl_cv m_Mo_lookAt m_Mo_faultAt 200 2 = true := by decide +kernel
theorem d_Mo_lookAt_9 : decode m_Mo_lookAt.2.1 9 = .ok (.invokevirtual 200, 3) := by decide +kernel
theorem d_Mo_lookAt_12 : decode m_Mo_lookAt.2.1 12 = .ok (.istore_n 3, 1) := by decide +kernel
theorem d_Mo_lookAt_13 : decode m_Mo_lookAt.2.1 13 = .ok (.iload_n 3, 1) := by decide +kernel
theorem d_Mo_lookAt_14 : decode m_Mo_lookAt.2.1 14 = .ok (.ifCond .le 5, 3) := by decide +kernel
theorem d_Mo_lookAt_19 : decode m_Mo_lookAt.2.1 19 = .ok (.aload_n 0, 1) := by decide +kernel
theorem f_Mo_lookAt_179 : jl_fd m_Mo_lookAt 179 7 23 = true := by decide +kernel
theorem d_Mo_lookAt_20 : decode m_Mo_lookAt.2.1 20 = .ok (.getfield 179, 3) := by decide +kernel
theorem d_Mo_lookAt_23 : decode m_Mo_lookAt.2.1 23 = .ok (.istore 4, 2) := by decide +kernel
theorem d_Mo_lookAt_25 : decode m_Mo_lookAt.2.1 25 = .ok (.iconst 0, 1) := by decide +kernel
theorem d_Mo_lookAt_26 : decode m_Mo_lookAt.2.1 26 = .ok (.istore 5, 2) := by decide +kernel
theorem d_Mo_lookAt_17 : decode m_Mo_lookAt.2.1 17 = .ok (.iload_n 3, 1) := by decide +kernel
theorem d_Mo_lookAt_18 : decode m_Mo_lookAt.2.1 18 = .ok (.ireturn, 1) := by decide +kernel
theorem mo_look0 (hl : l.stackTraces = false) {P : jl_O → jl_S → Prop} {m pc o h : Nat} {x : Int32} {r : Rw} {s : MF} (hmb : MB σ tb pr ow ft hs u1 u2 ur ul uo ua uc us ut uk fa vf wh wy hg dp md ov oh dn an lo sk kp mm fm) (hok : WoOk tb pr ow fi) (hK : MoK u1 u2 ur ul uo uc us ut uk) (hm : m < 24) (hpc : pc < 24) (ho : uo (24 * m + pc) = o) (hx : ua (24 * m + pc) = x) (hrv : rv r h) (hAs : s.1 pc = some r) (hlo : ∀ j, ob 16 (lo j)) (hsk : ∀ j, ob 16 (sk j)) (hsg : SgM tb pr hs u1 u2 ur sg) (hft : ∀ k f, tyv (some (fty pr fi ft k f))) (hsgv : ∀ x g, sg x = some g → tyv (some g.2.2)) (hA : MpM mm m s.1) (hF : frp fm s.2) (hAV : AV s.1) (h0 : ∀ f, flt tb pr ow fi ft sg o x (ul m) (fun i => us (2 * m + i) / 32) (fun i => us (2 * m + i) % 32) (fun i => ut (2 * m + i)) (fun i => uk (2 * m + i)) (uc m) (ur m) pc r h = f → f ≠ 0 → ∀ lo' sk' kp' hg' mm' fm' σ', (∀ j, ob 16 (lo' j)) → (∀ j, ob 16 (sk' j)) → MpM mm' m s.1 → frp fm' s.2 → AV s.1 → MmF m mm mm' → MB σ' tb pr ow ft hs u1 u2 ur ul uo ua uc us ut uk fa vf wh wy hg' dp md ov oh dn an lo' sk' kp' mm' fm' → FrM σ σ' → P (.inl (some (.int (nI f)))) σ') (hc0 : flt tb pr ow fi ft sg o x (ul m) (fun i => us (2 * m + i) / 32) (fun i => us (2 * m + i) % 32) (fun i => ut (2 * m + i)) (fun i => uk (2 * m + i)) (uc m) (ur m) pc r h = 0 → (∀ s', catA pr (fun i => us (2 * m + i) / 32) (fun i => us (2 * m + i) % 32) (fun i => ut (2 * m + i)) (fun i => uk (2 * m + i)) r h pc (uc m) 0 s = (true, s') → (∀ s'', nxtA pr o x pc (actR pr fi ft sg r o x r h) (h - tks sg o x + pts o) s' = (true, s'') → ∀ lo' sk' kp' hg' mm' fm' σ', (∀ j, ob 16 (lo' j)) → (∀ j, ob 16 (sk' j)) → MpM mm' m s''.1 → frp fm' s''.2 → AV s''.1 → MmF m mm mm' → MB σ' tb pr ow ft hs u1 u2 ur ul uo ua uc us ut uk fa vf wh wy hg' dp md ov oh dn an lo' sk' kp' mm' fm' → FrM σ σ' → P (.inl (some (.int (nI 0)))) σ') ∧ ∀ s'', nxtA pr o x pc (actR pr fi ft sg r o x r h) (h - tks sg o x + pts o) s' = (false, s'') → ∀ lo' sk' kp' hg' mm' fm' σ', (∀ j, ob 16 (lo' j)) → (∀ j, ob 16 (sk' j)) → MpM mm' m s''.1 → frp fm' s''.2 → AV s''.1 → MmF m mm mm' → MB σ' tb pr ow ft hs u1 u2 ur ul uo ua uc us ut uk fa vf wh wy hg' dp md ov oh dn an lo' sk' kp' mm' fm' → FrM σ σ' → P (.inl (some (.int (nI 3)))) σ')) (hc3 : flt tb pr ow fi ft sg o x (ul m) (fun i => us (2 * m + i) / 32) (fun i => us (2 * m + i) % 32) (fun i => ut (2 * m + i)) (fun i => uk (2 * m + i)) (uc m) (ur m) pc r h = 0 → (∀ s', catA pr (fun i => us (2 * m + i) / 32) (fun i => us (2 * m + i) % 32) (fun i => ut (2 * m + i)) (fun i => uk (2 * m + i)) r h pc (uc m) 0 s = (false, s') → ∀ lo' sk' kp' hg' mm' fm' σ', (∀ j, ob 16 (lo' j)) → (∀ j, ob 16 (sk' j)) → MpM mm' m s'.1 → frp fm' s'.2 → AV s'.1 → MmF m mm mm' → MB σ' tb pr ow ft hs u1 u2 ur ul uo ua uc us ut uk fa vf wh wy hg' dp md ov oh dn an lo' sk' kp' mm' fm' → FrM σ σ' → P (.inl (some (.int (nI 3)))) σ')) : jl_mE l G m_Mo_lookAt [.ref 22, .int (nI m), .int (nI pc)] σ P := by
  obtain ⟨hO, hw, hu, hr, hkp, hmp, hfm⟩ := id hmb; obtain ⟨r1, r2⟩ := id hr
  obtain ⟨h23, h24, h25, h26, h27⟩ := id hw
  obtain ⟨h28, h29, h30, h31, h32, h33, h34, h35, h36, h37⟩ := id hu
  obtain ⟨hk1, hk2, hk3, hk4, hk5, hk6⟩ := hK.1 m hm
  have ho26 : o < 26 := ho ▸ hK.2.1 _ (by omega)
  have hh5 := hrv.2.1
  refine jl_ofE (as := [.ref 22, .int (nI m), .int (nI pc)]) rfl (by decide) hl (jl_cc rfl (jl_cc rfl (jl_cc rfl jl_ca))) (Nat.le_of_ble_eq_true rfl) ?_
  show jl_E l G m_Mo_lookAt (0, 0) 0 [some (.ref 22), some (.int (nI m)), some (.int (nI pc)), none, none, none, none] [] (σ) P
  refine er_aload_n d_Mo_lookAt_0 rfl ?_
  refine er_iload_n d_Mo_lookAt_1 rfl ?_
  refine er_iload_n d_Mo_lookAt_2 rfl ?_
  refine er_callVE (As := [.int (nI m), .int (nI pc)]) d_Mo_lookAt_3 k_Mo_lookAt_196 hO rfl rfl rfl (Nat.le_of_ble_eq_true rfl) (by decide) (by decide) (mo_takeMap hl hmb hm hpc hA hAs hrv hlo hsk (fun lo sk σ hrl hlo hsk hmb hfr => ⟨_, rfl, ?_⟩))
  obtain ⟨hO, hw, hu, hr, hkp, hmp, hfm⟩ := id hmb; obtain ⟨r1, r2⟩ := id hr
  obtain ⟨h23, h24, h25, h26, h27⟩ := id hw
  obtain ⟨h28, h29, h30, h31, h32, h33, h34, h35, h36, h37⟩ := id hu
  obtain ⟨fl, hfl⟩ : ∃ fl, flt tb pr ow fi ft sg o x (ul m) (fun i => us (2 * m + i) / 32) (fun i => us (2 * m + i) % 32) (fun i => ut (2 * m + i)) (fun i => uk (2 * m + i)) (uc m) (ur m) pc r h = fl := ⟨_, rfl⟩
  have hfb : fl ≤ 5 := hfl ▸ flt_le
  have hst : ∀ j, j < h → ∃ t, sk j = some t ∧ t < 16 ∧ (t ≤ 2 ∨ 10 ≤ t) := fun j hj => by
    rw [hrl.2 j hj]
    cases e : r (7 + j) with
    | none => exact absurd e (hrv.2.2.2.1 j hj)
    | some t => exact ⟨t, rfl, (hrv.2.2.1 (7 + j) (by omega)) t e⟩
  show jl_E l G m_Mo_lookAt (0, 0) 6 [some (.ref 22), some (.int (nI m)), some (.int (nI pc)), none, none, none, none] [] (σ) P
  refine er_aload_n d_Mo_lookAt_6 rfl ?_
  refine er_iload_n d_Mo_lookAt_7 rfl ?_
  refine er_iload_n d_Mo_lookAt_8 rfl ?_
  refine er_callV (As := [.int (nI m), .int (nI pc)]) d_Mo_lookAt_9 k_Mo_lookAt_200 hO rfl rfl rfl (Nat.le_of_ble_eq_true rfl) (by decide) (by decide) (jl_meq (o' := .inl (some (.int (nI fl)))) (by rw [flt_eM ho26 hrl, hfl]) (mo_faultAt hl hO hw hu hr hok hsg hK hm hpc ho hx hh5 hlo hst (fun k f => ((hft k f) _ rfl).1) hsk)) ?_
  show jl_E l G m_Mo_lookAt (0, 0) 12 [some (.ref 22), some (.int (nI m)), some (.int (nI pc)), none, none, none, none] [.int (nI fl)] (σ) P
  refine er_istore_n d_Mo_lookAt_12 (by decide) ?_
  show jl_E l G m_Mo_lookAt (0, 0) 13 [some (.ref 22), some (.int (nI m)), some (.int (nI pc)), some (.int (nI fl)), none, none, none] [] (σ) P
  refine er_iload_n d_Mo_lookAt_13 rfl ?_
  refine er_if_leN 19 d_Mo_lookAt_14 (by decide) (by omega) (fun c1 => ?_) (fun c1 => ?_)
  · have hf0 : fl = 0 := by omega
    subst hf0
    show jl_E l G m_Mo_lookAt (0, 0) 19 [some (.ref 22), some (.int (nI m)), some (.int (nI pc)), some (.int (nI 0)), none, none, none] [] (σ) P
    refine er_aload_n d_Mo_lookAt_19 rfl ?_
    refine er_getf d_Mo_lookAt_20 f_Mo_lookAt_179 hO rfl ?_
    refine er_istore d_Mo_lookAt_23 (by decide) ?_
    show jl_E l G m_Mo_lookAt (0, 0) 25 [some (.ref 22), some (.int (nI m)), some (.int (nI pc)), some (.int (nI 0)), some (.int (nI h)), none, none] [] (σ) P
    refine er_iconst ((nI (0))) d_Mo_lookAt_25 (by decide) ?_
    refine er_istore d_Mo_lookAt_26 (by decide) ?_
    show jl_E l G m_Mo_lookAt (0, 0) 28 [some (.ref 22), some (.int (nI m)), some (.int (nI pc)), some (.int (nI 0)), some (.int (nI h)), some (.int (nI 0)), none] [] (σ) P
    exact mo_lk_1 hl hok hK hm hpc ho hx hrl hsk hrv hlo hsg hft hsgv hfl hA hF hAV MmF.refl (hc0 hfl) (hc3 hfl) (h + 1) 0 σ kp (by omega) (by omega) hmb hfr (fun j hj => absurd hj (Nat.not_lt_zero _))
  · refine er_iload_n d_Mo_lookAt_17 rfl ?_
    exact er_iret d_Mo_lookAt_18 rfl (h0 fl hfl (by omega) lo sk kp _ mm fm σ hlo hsk hA hF hAV MmF.refl hmb hfr) (by decide) (by decide)
theorem mo_look (hl : l.stackTraces = false) {P : jl_O → jl_S → Prop} {m pc h : Nat} {r : Rw} {s : MF} (hmb : MB σ tb pr ow ft hs u1 u2 ur ul uo ua uc us ut uk fa vf wh wy hg dp md ov oh dn an lo sk kp mm fm) (hok : WoOk tb pr ow fi) (hK : MoK u1 u2 ur ul uo uc us ut uk) (hm : m < 24) (hpc : pc < 24)  (hrv : rv r h) (hAs : s.1 pc = some r) (hlo : ∀ j, ob 16 (lo j)) (hsk : ∀ j, ob 16 (sk j)) (hsg : SgM tb pr hs u1 u2 ur sg) (hft : ∀ k f, tyv (some (fty pr fi ft k f))) (hsgv : ∀ x g, sg x = some g → tyv (some g.2.2)) (hA : MpM mm m s.1) (hF : frp fm s.2) (hAV : AV s.1) (hT : ∀ f s', lookA tb pr ow fi ft sg (fun j => uo (24 * m + j)) (fun j => ua (24 * m + j)) (ul m) (fun i => us (2 * m + i) / 32) (fun i => us (2 * m + i) % 32) (fun i => ut (2 * m + i)) (fun i => uk (2 * m + i)) (uc m) (ur m) pc r h s = (f, s') → ∀ lo' sk' kp' hg' mm' fm' σ', (∀ j, ob 16 (lo' j)) → (∀ j, ob 16 (sk' j)) → MpM mm' m s'.1 → frp fm' s'.2 → AV s'.1 → MmF m mm mm' → MB σ' tb pr ow ft hs u1 u2 ur ul uo ua uc us ut uk fa vf wh wy hg' dp md ov oh dn an lo' sk' kp' mm' fm' → FrM σ σ' → P (.inl (some (.int (nI f)))) σ') : jl_mE l G m_Mo_lookAt [.ref 22, .int (nI m), .int (nI pc)] σ P := by
  refine mo_look0 hl hmb hok hK hm hpc rfl rfl hrv hAs hlo hsk hsg hft hsgv hA hF hAV (fun f e hf => hT f s (lk_f e hf)) (fun e s1 ec => ⟨fun s2 ex => hT 0 s2 (lk_0 e ec ex), fun s2 ex => hT 3 s2 (lk_n e ec ex)⟩) (fun e s1 ec => hT 3 s1 (lk_c e ec))
end JNc
