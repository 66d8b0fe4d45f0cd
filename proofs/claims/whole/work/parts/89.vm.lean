/-! the model: verifyMethod (wip/gen/p89.py) -/
section JNd
variable {l : Launch} {G : jl_G} {σ : jl_S}
variable {tb : Nat → Bool} {pr : Nat → Option Nat} {ow fi ft : Nat → Nat} {hs : Nat → Bool} {fa vf wh wy hg dp md ov oh dn an : Int32}
variable {u1 u2 : Nat → Option Nat} {ur ul uo : Nat → Nat} {ua : Nat → Int32} {uc us ut uk : Nat → Nat}
variable {lo sk kp : Rw} {mm : Nat → Int32} {fm : Nat → Bool}
variable {sg : Int32 → Option Sg}
theorem lookA_le {op : Nat → Nat} {ag : Nat → Int32} {sz nc rs pc h : Nat} {fr tt tg kd : Nat → Nat} {r : Rw} {s : MF} : (lookA tb pr ow fi ft sg op ag sz fr tt tg kd nc rs pc r h s).1 ≤ 5 := by
  unfold lookA
  dsimp only
  split
  · split
    · split
      · exact Nat.zero_le _
      · exact (by decide : 3 ≤ 5)
    · exact (by decide : 3 ≤ 5)
  · exact flt_le
theorem d_Mo_verifyMethod_141 : decode m_Mo_verifyMethod.2.1 141 = .ok (.iload_n 3, 1) := by decide +kernel
theorem d_Mo_verifyMethod_142 : decode m_Mo_verifyMethod.2.1 142 = .ok (.bipush 24, 2) := by decide +kernel
theorem d_Mo_verifyMethod_144 : decode m_Mo_verifyMethod.2.1 144 = .ok (.if_icmp .ge 59, 3) := by decide +kernel
theorem d_Mo_verifyMethod_203 : decode m_Mo_verifyMethod.2.1 203 = .ok (.iconst 1, 1) := by decide +kernel
theorem d_Mo_verifyMethod_204 : decode m_Mo_verifyMethod.2.1 204 = .ok (.ireturn, 1) := by decide +kernel
theorem d_Mo_verifyMethod_147 : decode m_Mo_verifyMethod.2.1 147 = .ok (.aload_n 0, 1) := by decide +kernel
theorem f_Mo_verifyMethod_66 : jl_fd m_Mo_verifyMethod 66 7 20 = true := by decide +kernel
theorem d_Mo_verifyMethod_148 : decode m_Mo_verifyMethod.2.1 148 = .ok (.getfield 66, 3) := by decide +kernel
theorem d_Mo_verifyMethod_151 : decode m_Mo_verifyMethod.2.1 151 = .ok (.iload_n 3, 1) := by decide +kernel
theorem d_Mo_verifyMethod_152 : decode m_Mo_verifyMethod.2.1 152 = .ok (.baload, 1) := by decide +kernel
theorem d_Mo_verifyMethod_153 : decode m_Mo_verifyMethod.2.1 153 = .ok (.ifCond .eq 44, 3) := by decide +kernel
theorem d_Mo_verifyMethod_197 : decode m_Mo_verifyMethod.2.1 197 = .ok (.iinc 3 1, 3) := by decide +kernel
theorem d_Mo_verifyMethod_200 : decode m_Mo_verifyMethod.2.1 200 = .ok (.goto (-59), 3) := by decide +kernel
theorem d_Mo_verifyMethod_156 : decode m_Mo_verifyMethod.2.1 156 = .ok (.aload_n 0, 1) := by decide +kernel
theorem d_Mo_verifyMethod_157 : decode m_Mo_verifyMethod.2.1 157 = .ok (.getfield 66, 3) := by decide +kernel
theorem d_Mo_verifyMethod_160 : decode m_Mo_verifyMethod.2.1 160 = .ok (.iload_n 3, 1) := by decide +kernel
theorem d_Mo_verifyMethod_161 : decode m_Mo_verifyMethod.2.1 161 = .ok (.iconst 0, 1) := by decide +kernel
theorem d_Mo_verifyMethod_162 : decode m_Mo_verifyMethod.2.1 162 = .ok (.bastore, 1) := by decide +kernel
theorem d_Mo_verifyMethod_163 : decode m_Mo_verifyMethod.2.1 163 = .ok (.aload_n 0, 1) := by decide +kernel
theorem d_Mo_verifyMethod_164 : decode m_Mo_verifyMethod.2.1 164 = .ok (.aload_n 0, 1) := by decide +kernel
theorem d_Mo_verifyMethod_165 : decode m_Mo_verifyMethod.2.1 165 = .ok (.iload_n 1, 1) := by decide +kernel
theorem d_Mo_verifyMethod_166 : decode m_Mo_verifyMethod.2.1 166 = .ok (.iload_n 3, 1) := by decide +kernel
theorem k_Mo_verifyMethod_215 : jl_cv m_Mo_verifyMethod m_Mo_lookAt 215 2 = true := by decide +kernel
theorem d_Mo_verifyMethod_167 : decode m_Mo_verifyMethod.2.1 167 = .ok (.invokevirtual 215, 3) := by decide +kernel
theorem p_Mo_verifyMethod_60 : jl_fp m_Mo_verifyMethod 60 7 18 = true := by decide +kernel
theorem d_Mo_verifyMethod_170 : decode m_Mo_verifyMethod.2.1 170 = .ok (.putfield 60, 3) := by decide +kernel
theorem d_Mo_verifyMethod_173 : decode m_Mo_verifyMethod.2.1 173 = .ok (.aload_n 0, 1) := by decide +kernel
theorem f_Mo_verifyMethod_60 : jl_fd m_Mo_verifyMethod 60 7 18 = true := by decide +kernel
theorem d_Mo_verifyMethod_174 : decode m_Mo_verifyMethod.2.1 174 = .ok (.getfield 60, 3) := by decide +kernel
theorem d_Mo_verifyMethod_177 : decode m_Mo_verifyMethod.2.1 177 = .ok (.ifCond .le 15, 3) := by decide +kernel
theorem d_Mo_verifyMethod_192 : decode m_Mo_verifyMethod.2.1 192 = .ok (.iconst 0, 1) := by decide +kernel
theorem d_Mo_verifyMethod_193 : decode m_Mo_verifyMethod.2.1 193 = .ok (.istore_n 3, 1) := by decide +kernel
theorem d_Mo_verifyMethod_194 : decode m_Mo_verifyMethod.2.1 194 = .ok (.goto (-53), 3) := by decide +kernel
theorem d_Mo_verifyMethod_180 : decode m_Mo_verifyMethod.2.1 180 = .ok (.aload_n 0, 1) := by decide +kernel
theorem d_Mo_verifyMethod_181 : decode m_Mo_verifyMethod.2.1 181 = .ok (.dup, 1) := by decide +kernel
theorem f_Mo_verifyMethod_56 : jl_fd m_Mo_verifyMethod 56 7 17 = true := by decide +kernel
theorem d_Mo_verifyMethod_182 : decode m_Mo_verifyMethod.2.1 182 = .ok (.getfield 56, 3) := by decide +kernel
theorem d_Mo_verifyMethod_185 : decode m_Mo_verifyMethod.2.1 185 = .ok (.iload_n 3, 1) := by decide +kernel
theorem d_Mo_verifyMethod_186 : decode m_Mo_verifyMethod.2.1 186 = .ok (.iadd, 1) := by decide +kernel
theorem p_Mo_verifyMethod_56 : jl_fp m_Mo_verifyMethod 56 7 17 = true := by decide +kernel
theorem d_Mo_verifyMethod_187 : decode m_Mo_verifyMethod.2.1 187 = .ok (.putfield 56, 3) := by decide +kernel
theorem d_Mo_verifyMethod_190 : decode m_Mo_verifyMethod.2.1 190 = .ok (.iconst 0, 1) := by decide +kernel
theorem d_Mo_verifyMethod_191 : decode m_Mo_verifyMethod.2.1 191 = .ok (.ireturn, 1) := by decide +kernel
theorem mo_vm_l (hl : l.stackTraces = false) {P : jl_O → jl_S → Prop} {m : Nat} {v : Int32} {m0 : Nat → Int32} {σ0 : jl_S}  (hok : WoOk tb pr ow fi) (hK : MoK u1 u2 ur ul uo uc us ut uk) (hm : m < 24) (hsg : SgM tb pr hs u1 u2 ur sg) (hft : ∀ k f, tyv (some (fty pr fi ft k f))) (hsgv : ∀ x g, sg x = some g → tyv (some g.2.2)) : ∀ (nn : Nat) (p N : Nat) (s : MF) (σ : jl_S) (lo sk kp : Rw) (hg wy : Int32) (mm : Nat → Int32) (fm : Nat → Bool), wgt s * 25 + (24 - p) < nn → p ≤ 24 → wgt s < N → MB σ tb pr ow ft hs u1 u2 ur ul uo ua uc us ut uk fa vf (nI (1000 * (m / 4) + 100 * (m % 4))) wy hg dp md ov oh dn an lo sk kp mm fm → FrM σ0 σ → (∀ j, ob 16 (lo j)) → (∀ j, ob 16 (sk j)) → MpM mm m s.1 → frp fm s.2 → SV s → MmF m m0 mm → (∀ j, j < p → fm j = false) → (∀ s', verA tb pr ow fi ft sg (fun j => uo (24 * m + j)) (fun j => ua (24 * m + j)) (ul m) (fun i => us (2 * m + i) / 32) (fun i => us (2 * m + i) % 32) (fun i => ut (2 * m + i)) (fun i => uk (2 * m + i)) (uc m) (ur m) N s = (none, s') → ∀ lo' sk' kp' hg' wy' mm' fm' σ', (∀ j, ob 16 (lo' j)) → (∀ j, ob 16 (sk' j)) → MpM mm' m s'.1 → MmF m m0 mm' → MB σ' tb pr ow ft hs u1 u2 ur ul uo ua uc us ut uk fa vf (nI (1000 * (m / 4) + 100 * (m % 4))) wy' hg' dp md ov oh dn an lo' sk' kp' mm' fm' → FrM σ0 σ' → P (.inl (some (.int (nI 1)))) σ') → (∀ pc f s', verA tb pr ow fi ft sg (fun j => uo (24 * m + j)) (fun j => ua (24 * m + j)) (ul m) (fun i => us (2 * m + i) / 32) (fun i => us (2 * m + i) % 32) (fun i => ut (2 * m + i)) (fun i => uk (2 * m + i)) (uc m) (ur m) N s = (some (pc, f), s') → ∀ lo' sk' kp' hg' mm' fm' σ', (∀ j, ob 16 (lo' j)) → (∀ j, ob 16 (sk' j)) → MpM mm' m s'.1 → MmF m m0 mm' → MB σ' tb pr ow ft hs u1 u2 ur ul uo ua uc us ut uk fa vf (nI (1000 * (m / 4) + 100 * (m % 4) + pc)) (nI f) hg' dp md ov oh dn an lo' sk' kp' mm' fm' → FrM σ0 σ' → P (.inl (some (.int (nI 0)))) σ') → jl_E l G m_Mo_verifyMethod (0, 0) 141 [some (.ref 22), some (.int (nI m)), some (.int (v)), some (.int (nI p))] [] σ P := by
  intro nn
  induction nn with
  | zero => intro p N s σ lo sk kp hg wy mm fm hnn; exact absurd hnn (Nat.not_lt_zero _)
  | succ nn ihn =>
    intro p N s σ lo sk kp hg wy mm fm hnn hp hwN hmb hfr hlo hsk hA hF hSV hmf hlow hT hN
    obtain ⟨hO, hw, hu, hr, hkp, hmp, hfm⟩ := id hmb; obtain ⟨r1, r2⟩ := id hr
    obtain ⟨h23, h24, h25, h26, h27⟩ := id hw
    obtain ⟨h28, h29, h30, h31, h32, h33, h34, h35, h36, h37⟩ := id hu
    obtain ⟨hk1, hk2, hk3, hk4, hk5, hk6⟩ := hK.1 m hm
    refine er_iload_n d_Mo_verifyMethod_141 rfl ?_
    refine er_bipush ((nI (24))) d_Mo_verifyMethod_142 (by decide) ?_
    refine er_icmp_geN 203 d_Mo_verifyMethod_144 (by decide) (by omega) (by omega) (fun c1 => ?_) (fun c1 => ?_)
    · refine er_iconst ((nI (1))) d_Mo_verifyMethod_203 (by decide) ?_
      exact er_zret d_Mo_verifyMethod_204 rfl (by decide) (hT s (by rw [show N = (N - 1) + 1 by omega]; exact ver_n (lfr_no 24 0 (fun j _ hj => (hF j (by omega)).symm.trans (hlow j (by omega))))) lo sk kp hg wy mm fm σ hlo hsk hA hmf hmb hfr) (by decide) (by decide)
    · refine er_aload_n d_Mo_verifyMethod_147 rfl ?_
      refine er_getf d_Mo_verifyMethod_148 f_Mo_verifyMethod_66 hO rfl ?_
      refine er_iload_n d_Mo_verifyMethod_151 rfl ?_
      refine er_baldN d_Mo_verifyMethod_152 hfm (by omega) (by omega) ?_
      refine er_if_eq 197 d_Mo_verifyMethod_153 (by decide) (fun c2 => ?_) (fun c2 => ?_)
      · refine er_iinc ((nI (p + 1))) d_Mo_verifyMethod_197 (by decide) rfl (jl_inc _) ?_
        show jl_E l G m_Mo_verifyMethod (0, 0) 200 [some (.ref 22), some (.int (nI m)), some (.int (v)), some (.int (nI (p + 1)))] [] (σ) P
        refine er_goto 141 d_Mo_verifyMethod_200 (by decide) ?_
        exact ihn (p + 1) N s σ lo sk kp hg wy mm fm (by omega) (by omega) hwN hmb hfr hlo hsk hA hF hSV hmf (fun j hj => by by_cases e : j = p; (rw [e]; exact bi_0.mp c2); exact hlow j (by omega)) hT hN
      · have hfp : fm p = true := bi_nf c2
        have hsp : s.2 p = true := (hF p (by omega)).symm.trans hfp
        obtain ⟨r, hr9⟩ : ∃ r, s.1 p = some r := Option.ne_none_iff_exists'.mp (hSV.2 p hsp)
        obtain ⟨h, hrv⟩ := hSV.1 p r hr9
        have hlF : lfr s.2 24 0 = some p := lfr_at 24 0 p (fun j _ hj => (hF j (by omega)).symm.trans (hlow j hj)) (by omega) (by omega) hsp
        have hof := off_w (pc := p) (by omega) hsp
        have hF2 : frp (va_up fm p false) (va_up s.2 p false) := hF.up p false
        refine er_aload_n d_Mo_verifyMethod_156 rfl ?_
        refine er_getf d_Mo_verifyMethod_157 f_Mo_verifyMethod_66 hO rfl ?_
        refine er_iload_n d_Mo_verifyMethod_160 rfl ?_
        refine er_iconst ((nI (0))) d_Mo_verifyMethod_161 (by decide) ?_
        refine er_bastN d_Mo_verifyMethod_162 hfm (by omega) (by omega) (by decide) ?_
        rw [show upd (fun j => bi (fm j)) (p) ((nI (0))) = (fun j => bi ((va_up fm (p) (false)) j)) from bi_up fm (p) (false)]
        show jl_E l G m_Mo_verifyMethod (0, 0) 163 [some (.ref 22), some (.int (nI m)), some (.int (v)), some (.int (nI p))] [] (σ.set (39) (.inl (1, 24, .inl (fun j => bi ((va_up fm (p) (false)) j))))) P
        refine er_aload_n d_Mo_verifyMethod_163 rfl ?_
        refine er_aload_n d_Mo_verifyMethod_164 rfl ?_
        refine er_iload_n d_Mo_verifyMethod_165 rfl ?_
        refine er_iload_n d_Mo_verifyMethod_166 rfl ?_
        refine er_callVE (As := [.int (nI m), .int (nI p)]) d_Mo_verifyMethod_167 k_Mo_verifyMethod_215 (jl_sn (by decide) hO) rfl rfl rfl (Nat.le_of_ble_eq_true rfl) (by decide) (by decide) (mo_look (s := (s.1, va_up s.2 p false)) hl hmb.s39 hok hK hm (by omega) hrv hr9 hlo hsk hsg hft hsgv hA hF2 hSV.1 (fun f s1 e lo sk kp hg mm fm σ hlo hsk hA hF hAV hmf1 hmb hfr1 => ⟨_, rfl, ?_⟩))
        have hfr := (hfr.set (b := 39) (c := .inl (1, 24, .inl fun j => bi (va_up _ p false j))) (by omega)).trans hfr1
        have hmf := hmf.trans hmf1
        have hf5 : f ≤ 5 := by have z := lookA_le (tb := tb) (pr := pr) (ow := ow) (fi := fi) (ft := ft) (sg := sg) (op := (fun j => uo (24 * m + j))) (ag := (fun j => ua (24 * m + j))) (sz := ul m) (nc := uc m) (rs := ur m) (pc := p) (h := h) (fr := (fun i => us (2 * m + i) / 32)) (tt := (fun i => us (2 * m + i) % 32)) (tg := (fun i => ut (2 * m + i))) (kd := (fun i => uk (2 * m + i))) (r := r) (s := (s.1, va_up s.2 p false)); rw [e] at z; exact z
        have hlw := lookA_w (tb := tb) (pr := pr) (ow := ow) (fi := fi) (ft := ft) (sg := sg) (op := (fun j => uo (24 * m + j))) (ag := (fun j => ua (24 * m + j))) (sz := ul m) (nc := uc m) (rs := ur m) (pc := p) (h := h) (fr := (fun i => us (2 * m + i) / 32)) (tt := (fun i => us (2 * m + i) % 32)) (tg := (fun i => ut (2 * m + i))) (kd := (fun i => uk (2 * m + i))) (r := r) (s := (s.1, va_up s.2 p false)) hok (hK.2.1 _ (by omega)) hk5 (fun i hi => (hK.2.2 _ (by omega)).2.2) hft hsgv hrv (hSV.off p)
        rw [e] at hlw
        dsimp only at hlw
        obtain ⟨hO, hw, hu, hr, hkp, hmp, hfm⟩ := id hmb; obtain ⟨r1, r2⟩ := id hr
        obtain ⟨h23, h24, h25, h26, h27⟩ := id hw
        obtain ⟨h28, h29, h30, h31, h32, h33, h34, h35, h36, h37⟩ := id hu
        show jl_E l G m_Mo_verifyMethod (0, 0) 170 [some (.ref 22), some (.int (nI m)), some (.int (v)), some (.int (nI p))] [.int (nI f), .ref 22] (σ) P
        refine er_putf d_Mo_verifyMethod_170 p_Mo_verifyMethod_60 hO (Nat.le_of_ble_eq_true rfl) jl_fit_int ?_
        show jl_E l G m_Mo_verifyMethod (0, 0) 173 [some (.ref 22), some (.int (nI m)), some (.int (v)), some (.int (nI p))] [] (σ.set (22) (.inr (7, [.int (fa), .ref 23, .ref 24, .ref 25, .ref 26, .ref 27, .ref 28, .ref 29, .ref 30, .ref 31, .ref 32, .ref 33, .ref 34, .ref 35, .ref 36, .ref 37, .int (vf), .int (nI (1000 * (m / 4) + 100 * (m % 4))), .int (nI f), .ref 38, .ref 39, .ref 40, .ref 41, .int (hg), .ref 42, .ref 43, .ref 44, .ref 45, .ref 46, .ref 47, .ref 48, .ref 49, .int (dp), .ref 50, .ref 51, .ref 52, .int (md), .int (ov), .int (oh), .int (dn), .int (an)]))) P
        refine er_aload_n d_Mo_verifyMethod_173 rfl ?_
        refine er_getf d_Mo_verifyMethod_174 f_Mo_verifyMethod_60 (jl_ss hO) rfl ?_
        refine er_if_leN 192 d_Mo_verifyMethod_177 (by decide) (by omega) (fun c3 => ?_) (fun c3 => ?_)
        · have e0 : _ = (0, s1) := (show f = 0 by omega) ▸ e
          refine er_iconst ((nI (0))) d_Mo_verifyMethod_192 (by decide) ?_
          refine er_istore_n d_Mo_verifyMethod_193 (by decide) ?_
          show jl_E l G m_Mo_verifyMethod (0, 0) 194 [some (.ref 22), some (.int (nI m)), some (.int (v)), some (.int (nI 0))] [] (σ.set (22) (.inr (7, [.int (fa), .ref 23, .ref 24, .ref 25, .ref 26, .ref 27, .ref 28, .ref 29, .ref 30, .ref 31, .ref 32, .ref 33, .ref 34, .ref 35, .ref 36, .ref 37, .int (vf), .int (nI (1000 * (m / 4) + 100 * (m % 4))), .int (nI f), .ref 38, .ref 39, .ref 40, .ref 41, .int (hg), .ref 42, .ref 43, .ref 44, .ref 45, .ref 46, .ref 47, .ref 48, .ref 49, .int (dp), .ref 50, .ref 51, .ref 52, .int (md), .int (ov), .int (oh), .int (dn), .int (an)]))) P
          refine er_goto 141 d_Mo_verifyMethod_194 (by decide) ?_
          exact ihn 0 (N - 1) s1 _ lo sk kp hg (nI f) mm fm (by omega) (by omega) (by omega) hmb.s22 (hfr.set (by omega)) hlo hsk hA hF hlw.2 hmf (fun j hj => absurd hj (Nat.not_lt_zero _)) (fun s' e => hT s' (by rw [show N = (N - 1) + 1 by omega]; exact (ver_s hlF hr9 hrv e0).trans e)) (fun pc f s' e => hN pc f s' (by rw [show N = (N - 1) + 1 by omega]; exact (ver_s hlF hr9 hrv e0).trans e))
        · refine er_aload_n d_Mo_verifyMethod_180 rfl ?_
          refine er_dup d_Mo_verifyMethod_181 rfl ?_
          refine er_getf d_Mo_verifyMethod_182 f_Mo_verifyMethod_56 (jl_ss hO) rfl ?_
          refine er_iload_n d_Mo_verifyMethod_185 rfl ?_
          refine er_iaddN d_Mo_verifyMethod_186 ?_
          refine er_putf d_Mo_verifyMethod_187 p_Mo_verifyMethod_56 (jl_ss hO) (Nat.le_of_ble_eq_true rfl) jl_fit_int ?_
          show jl_E l G m_Mo_verifyMethod (0, 0) 190 [some (.ref 22), some (.int (nI m)), some (.int (v)), some (.int (nI p))] [] ((σ.set (22) (.inr (7, [.int (fa), .ref 23, .ref 24, .ref 25, .ref 26, .ref 27, .ref 28, .ref 29, .ref 30, .ref 31, .ref 32, .ref 33, .ref 34, .ref 35, .ref 36, .ref 37, .int (vf), .int (nI (1000 * (m / 4) + 100 * (m % 4))), .int (nI f), .ref 38, .ref 39, .ref 40, .ref 41, .int (hg), .ref 42, .ref 43, .ref 44, .ref 45, .ref 46, .ref 47, .ref 48, .ref 49, .int (dp), .ref 50, .ref 51, .ref 52, .int (md), .int (ov), .int (oh), .int (dn), .int (an)]))).set (22) (.inr (7, [.int (fa), .ref 23, .ref 24, .ref 25, .ref 26, .ref 27, .ref 28, .ref 29, .ref 30, .ref 31, .ref 32, .ref 33, .ref 34, .ref 35, .ref 36, .ref 37, .int (vf), .int (nI ((1000 * (m / 4) + 100 * (m % 4)) + (p))), .int (nI f), .ref 38, .ref 39, .ref 40, .ref 41, .int (hg), .ref 42, .ref 43, .ref 44, .ref 45, .ref 46, .ref 47, .ref 48, .ref 49, .int (dp), .ref 50, .ref 51, .ref 52, .int (md), .int (ov), .int (oh), .int (dn), .int (an)]))) P
          refine er_iconst ((nI (0))) d_Mo_verifyMethod_190 (by decide) ?_
          exact er_zret d_Mo_verifyMethod_191 rfl (by decide) (hN p f s1 (by rw [show N = (N - 1) + 1 by omega]; exact ver_f hlF hr9 hrv e (by omega)) lo sk kp hg mm fm _ hlo hsk hA hmf hmb.s22.s22 ((hfr.set (by omega)).set (by omega))) (by decide) (by decide)
end JNd
