/-! the model: lookAt: its end (wip/gen/p83.py) -/
section JMz
variable {l : Launch} {G : jl_G} {σ : jl_S}
variable {tb : Nat → Bool} {pr : Nat → Option Nat} {ow fi ft : Nat → Nat} {hs : Nat → Bool} {fa vf wh wy hg dp md ov oh dn an : Int32}
variable {u1 u2 : Nat → Option Nat} {ur ul uo : Nat → Nat} {ua : Nat → Int32} {uc us ut uk : Nat → Nat}
variable {lo sk kp : Rw} {mm : Nat → Int32} {fm : Nat → Bool}
variable {sg : Int32 → Option Sg}
theorem d_Mo_lookAt_178 : decode m_Mo_lookAt.2.1 178 = .ok (.aload_n 0, 1) := by decide +kernel
theorem f_Mo_lookAt_38 : jl_fd m_Mo_lookAt 38 7 10 = true := by decide +kernel
theorem d_Mo_lookAt_179 : decode m_Mo_lookAt.2.1 179 = .ok (.getfield 38, 3) := by decide +kernel
theorem d_Mo_lookAt_182 : decode m_Mo_lookAt.2.1 182 = .ok (.bipush 24, 2) := by decide +kernel
theorem d_Mo_lookAt_184 : decode m_Mo_lookAt.2.1 184 = .ok (.iload_n 1, 1) := by decide +kernel
theorem d_Mo_lookAt_185 : decode m_Mo_lookAt.2.1 185 = .ok (.imul, 1) := by decide +kernel
theorem d_Mo_lookAt_186 : decode m_Mo_lookAt.2.1 186 = .ok (.iload_n 2, 1) := by decide +kernel
theorem d_Mo_lookAt_187 : decode m_Mo_lookAt.2.1 187 = .ok (.iadd, 1) := by decide +kernel
theorem d_Mo_lookAt_188 : decode m_Mo_lookAt.2.1 188 = .ok (.iaload, 1) := by decide +kernel
theorem d_Mo_lookAt_189 : decode m_Mo_lookAt.2.1 189 = .ok (.istore 5, 2) := by decide +kernel
theorem d_Mo_lookAt_191 : decode m_Mo_lookAt.2.1 191 = .ok (.aload_n 0, 1) := by decide +kernel
theorem f_Mo_lookAt_41 : jl_fd m_Mo_lookAt 41 7 11 = true := by decide +kernel
theorem d_Mo_lookAt_192 : decode m_Mo_lookAt.2.1 192 = .ok (.getfield 41, 3) := by decide +kernel
theorem d_Mo_lookAt_195 : decode m_Mo_lookAt.2.1 195 = .ok (.bipush 24, 2) := by decide +kernel
theorem d_Mo_lookAt_197 : decode m_Mo_lookAt.2.1 197 = .ok (.iload_n 1, 1) := by decide +kernel
theorem d_Mo_lookAt_198 : decode m_Mo_lookAt.2.1 198 = .ok (.imul, 1) := by decide +kernel
theorem d_Mo_lookAt_199 : decode m_Mo_lookAt.2.1 199 = .ok (.iload_n 2, 1) := by decide +kernel
theorem d_Mo_lookAt_200 : decode m_Mo_lookAt.2.1 200 = .ok (.iadd, 1) := by decide +kernel
theorem d_Mo_lookAt_201 : decode m_Mo_lookAt.2.1 201 = .ok (.iaload, 1) := by decide +kernel
theorem d_Mo_lookAt_202 : decode m_Mo_lookAt.2.1 202 = .ok (.istore 6, 2) := by decide +kernel
theorem d_Mo_lookAt_204 : decode m_Mo_lookAt.2.1 204 = .ok (.aload_n 0, 1) := by decide +kernel
theorem d_Mo_lookAt_205 : decode m_Mo_lookAt.2.1 205 = .ok (.iload_n 1, 1) := by decide +kernel
theorem d_Mo_lookAt_206 : decode m_Mo_lookAt.2.1 206 = .ok (.iload_n 2, 1) := by decide +kernel
theorem k_Mo_lookAt_206 : jl_cv m_Mo_lookAt m_Mo_pass 206 2 = true := by decide +kernel
theorem d_Mo_lookAt_207 : decode m_Mo_lookAt.2.1 207 = .ok (.invokevirtual 206, 3) := by decide +kernel
theorem d_Mo_lookAt_210 : decode m_Mo_lookAt.2.1 210 = .ok (.aload_n 0, 1) := by decide +kernel
theorem d_Mo_lookAt_211 : decode m_Mo_lookAt.2.1 211 = .ok (.iload 5, 2) := by decide +kernel
theorem k_Mo_lookAt_148 : jl_cv m_Mo_lookAt m_Mo_jumps 148 1 = true := by decide +kernel
theorem d_Mo_lookAt_213 : decode m_Mo_lookAt.2.1 213 = .ok (.invokevirtual 148, 3) := by decide +kernel
theorem d_Mo_lookAt_216 : decode m_Mo_lookAt.2.1 216 = .ok (.ifCond .eq 15, 3) := by decide +kernel
theorem d_Mo_lookAt_231 : decode m_Mo_lookAt.2.1 231 = .ok (.aload_n 0, 1) := by decide +kernel
theorem d_Mo_lookAt_232 : decode m_Mo_lookAt.2.1 232 = .ok (.iload 5, 2) := by decide +kernel
theorem k_Mo_lookAt_151 : jl_cv m_Mo_lookAt m_Mo_falls 151 1 = true := by decide +kernel
theorem d_Mo_lookAt_234 : decode m_Mo_lookAt.2.1 234 = .ok (.invokevirtual 151, 3) := by decide +kernel
theorem d_Mo_lookAt_237 : decode m_Mo_lookAt.2.1 237 = .ok (.ifCond .eq 18, 3) := by decide +kernel
theorem d_Mo_lookAt_255 : decode m_Mo_lookAt.2.1 255 = .ok (.iconst 0, 1) := by decide +kernel
theorem d_Mo_lookAt_256 : decode m_Mo_lookAt.2.1 256 = .ok (.ireturn, 1) := by decide +kernel
theorem d_Mo_lookAt_240 : decode m_Mo_lookAt.2.1 240 = .ok (.aload_n 0, 1) := by decide +kernel
theorem d_Mo_lookAt_241 : decode m_Mo_lookAt.2.1 241 = .ok (.iload_n 1, 1) := by decide +kernel
theorem d_Mo_lookAt_242 : decode m_Mo_lookAt.2.1 242 = .ok (.iload_n 2, 1) := by decide +kernel
theorem d_Mo_lookAt_243 : decode m_Mo_lookAt.2.1 243 = .ok (.iconst 1, 1) := by decide +kernel
theorem d_Mo_lookAt_244 : decode m_Mo_lookAt.2.1 244 = .ok (.iadd, 1) := by decide +kernel
theorem k_Mo_lookAt_203 : jl_cv m_Mo_lookAt m_Mo_give 203 2 = true := by decide +kernel
theorem d_Mo_lookAt_245 : decode m_Mo_lookAt.2.1 245 = .ok (.invokevirtual 203, 3) := by decide +kernel
theorem d_Mo_lookAt_248 : decode m_Mo_lookAt.2.1 248 = .ok (.ifCond .ne 7, 3) := by decide +kernel
theorem d_Mo_lookAt_251 : decode m_Mo_lookAt.2.1 251 = .ok (.iconst 3, 1) := by decide +kernel
theorem d_Mo_lookAt_252 : decode m_Mo_lookAt.2.1 252 = .ok (.goto 4, 3) := by decide +kernel
theorem d_Mo_lookAt_219 : decode m_Mo_lookAt.2.1 219 = .ok (.aload_n 0, 1) := by decide +kernel
theorem d_Mo_lookAt_220 : decode m_Mo_lookAt.2.1 220 = .ok (.iload_n 1, 1) := by decide +kernel
theorem d_Mo_lookAt_221 : decode m_Mo_lookAt.2.1 221 = .ok (.iload 6, 2) := by decide +kernel
theorem d_Mo_lookAt_223 : decode m_Mo_lookAt.2.1 223 = .ok (.invokevirtual 203, 3) := by decide +kernel
theorem d_Mo_lookAt_226 : decode m_Mo_lookAt.2.1 226 = .ok (.ifCond .ne 5, 3) := by decide +kernel
theorem d_Mo_lookAt_229 : decode m_Mo_lookAt.2.1 229 = .ok (.iconst 3, 1) := by decide +kernel
theorem d_Mo_lookAt_230 : decode m_Mo_lookAt.2.1 230 = .ok (.ireturn, 1) := by decide +kernel
theorem mo_lk_t (hl : l.stackTraces = false) {P : jl_O → jl_S → Prop} {m pc o h : Nat} {x : Int32} {r : Rw} {s : MF} {m0 : Nat → Int32} {σ0 : jl_S} {v : Int32} (hmb : MB σ tb pr ow ft hs u1 u2 ur ul uo ua uc us ut uk fa vf wh wy (nI h) dp md ov oh dn an lo sk kp mm fm) (hok : WoOk tb pr ow fi) (hK : MoK u1 u2 ur ul uo uc us ut uk) (hm : m < 24) (hpc : pc < 24) (ho : uo (24 * m + pc) = o) (hx : ua (24 * m + pc) = x) (hrl : RlM r lo sk h) (hrv : rv r h) (hlo : ∀ j, ob 16 (lo j)) (hsk : ∀ j, ob 16 (sk j)) (hsg : SgM tb pr hs u1 u2 ur sg) (hft : ∀ k f, tyv (some (fty pr fi ft k f))) (hsgv : ∀ x g, sg x = some g → tyv (some g.2.2)) (hA : MpM mm m s.1) (hF : frp fm s.2) (hAV : AV s.1) (hmf : MmF m m0 mm) (hfr : FrM σ0 σ) (hfl : flt tb pr ow fi ft sg o x (ul m) (fun i => us (2 * m + i) / 32) (fun i => us (2 * m + i) % 32) (fun i => ut (2 * m + i)) (fun i => uk (2 * m + i)) (uc m) (ur m) pc r h = 0) (hT : ∀ s', nxtA pr o x pc (actR pr fi ft sg r o x r h) (h - tks sg o x + pts o) s = (true, s') → ∀ lo' sk' kp' hg' mm' fm' σ', (∀ j, ob 16 (lo' j)) → (∀ j, ob 16 (sk' j)) → MpM mm' m s'.1 → frp fm' s'.2 → AV s'.1 → MmF m m0 mm' → MB σ' tb pr ow ft hs u1 u2 ur ul uo ua uc us ut uk fa vf wh wy hg' dp md ov oh dn an lo' sk' kp' mm' fm' → FrM σ0 σ' → P (.inl (some (.int (nI 0)))) σ') (hN : ∀ s', nxtA pr o x pc (actR pr fi ft sg r o x r h) (h - tks sg o x + pts o) s = (false, s') → ∀ lo' sk' kp' hg' mm' fm' σ', (∀ j, ob 16 (lo' j)) → (∀ j, ob 16 (sk' j)) → MpM mm' m s'.1 → frp fm' s'.2 → AV s'.1 → MmF m m0 mm' → MB σ' tb pr ow ft hs u1 u2 ur ul uo ua uc us ut uk fa vf wh wy hg' dp md ov oh dn an lo' sk' kp' mm' fm' → FrM σ0 σ' → P (.inl (some (.int (nI 3)))) σ') : jl_E l G m_Mo_lookAt (0, 0) 178 [some (.ref 22), some (.int (nI m)), some (.int (nI pc)), some (.int (nI 0)), some (.int (nI h)), some (.int (v)), none] [] σ P := by
  obtain ⟨hO, hw, hu, hr, hkp, hmp, hfm⟩ := id hmb; obtain ⟨r1, r2⟩ := id hr
  obtain ⟨h23, h24, h25, h26, h27⟩ := id hw
  obtain ⟨h28, h29, h30, h31, h32, h33, h34, h35, h36, h37⟩ := id hu
  obtain ⟨hk1, hk2, hk3, hk4, hk5, hk6⟩ := hK.1 m hm
  have ho26 : o < 26 := ho ▸ hK.2.1 _ (by omega)
  obtain ⟨hf4, hf5, hf1, htf⟩ := flt0 hfl
  have hf5o := f5o_f hf5
  have hf1b := f1_b hf1
  have hh5 := hrv.2.1
  refine er_aload_n d_Mo_lookAt_178 rfl ?_
  refine er_getf d_Mo_lookAt_179 f_Mo_lookAt_38 hO rfl ?_
  refine er_bipush ((nI (24))) d_Mo_lookAt_182 (by decide) ?_
  refine er_iload_n d_Mo_lookAt_184 rfl ?_
  refine er_imulN d_Mo_lookAt_185 ?_
  refine er_iload_n d_Mo_lookAt_186 rfl ?_
  refine er_iaddN d_Mo_lookAt_187 ?_
  refine er_ialdQ (v := (nI (o))) d_Mo_lookAt_188 h32 (by omega) (by omega) (congrArg nI ho) ?_
  refine er_istore d_Mo_lookAt_189 (by decide) ?_
  show jl_E l G m_Mo_lookAt (0, 0) 191 [some (.ref 22), some (.int (nI m)), some (.int (nI pc)), some (.int (nI 0)), some (.int (nI h)), some (.int (nI o)), none] [] (σ) P
  refine er_aload_n d_Mo_lookAt_191 rfl ?_
  refine er_getf d_Mo_lookAt_192 f_Mo_lookAt_41 hO rfl ?_
  refine er_bipush ((nI (24))) d_Mo_lookAt_195 (by decide) ?_
  refine er_iload_n d_Mo_lookAt_197 rfl ?_
  refine er_imulN d_Mo_lookAt_198 ?_
  refine er_iload_n d_Mo_lookAt_199 rfl ?_
  refine er_iaddN d_Mo_lookAt_200 ?_
  refine er_ialdQ (v := (x)) d_Mo_lookAt_201 h33 (by omega) (by omega) (hx) ?_
  refine er_istore d_Mo_lookAt_202 (by decide) ?_
  show jl_E l G m_Mo_lookAt (0, 0) 204 [some (.ref 22), some (.int (nI m)), some (.int (nI pc)), some (.int (nI 0)), some (.int (nI h)), some (.int (nI o)), some (.int (x))] [] (σ) P
  refine er_aload_n d_Mo_lookAt_204 rfl ?_
  refine er_iload_n d_Mo_lookAt_205 rfl ?_
  refine er_iload_n d_Mo_lookAt_206 rfl ?_
  refine er_callVE (As := [.int (nI m), .int (nI pc)]) d_Mo_lookAt_207 k_Mo_lookAt_206 hO rfl rfl rfl (Nat.le_of_ble_eq_true rfl) (by decide) (by decide) (mo_pass hl hmb hok hK hm hpc ho hx hrl hrv hlo hsk hsg hf5o hf1b (fun k f => ((hft k f) _ rfl).1) (fun lo sk σ hrl hlo hsk hmb hfr1 => ⟨_, rfl, ?_⟩))
  have hfr := hfr.trans hfr1
  have hrg : rv (actR pr fi ft sg r o x r h) (h - tks sg o x + pts o) := rv_act ho26 hrv hrv hf5o hf1b htf hft hsgv
  obtain ⟨hO, hw, hu, hr, hkp, hmp, hfm⟩ := id hmb; obtain ⟨r1, r2⟩ := id hr
  obtain ⟨h23, h24, h25, h26, h27⟩ := id hw
  obtain ⟨h28, h29, h30, h31, h32, h33, h34, h35, h36, h37⟩ := id hu
  show jl_E l G m_Mo_lookAt (0, 0) 210 [some (.ref 22), some (.int (nI m)), some (.int (nI pc)), some (.int (nI 0)), some (.int (nI h)), some (.int (nI o)), some (.int (x))] [] (σ) P
  refine er_aload_n d_Mo_lookAt_210 rfl ?_
  refine er_iload d_Mo_lookAt_211 rfl ?_
  refine er_callV (As := [.int (nI o)]) d_Mo_lookAt_213 k_Mo_lookAt_148 hO rfl rfl rfl (Nat.le_of_ble_eq_true rfl) (by decide) (by decide) (mo_jumps hl hO hw ho26) ?_
  show jl_E l G m_Mo_lookAt (0, 0) 216 [some (.ref 22), some (.int (nI m)), some (.int (nI pc)), some (.int (nI 0)), some (.int (nI h)), some (.int (nI o)), some (.int (x))] [.int (bi (jmp o))] (σ) P
  refine er_if_eq 231 d_Mo_lookAt_216 (by decide) (fun c1 => ?_) (fun c1 => ?_)
  · refine er_aload_n d_Mo_lookAt_231 rfl ?_
    refine er_iload d_Mo_lookAt_232 rfl ?_
    refine er_callV (As := [.int (nI o)]) d_Mo_lookAt_234 k_Mo_lookAt_151 hO rfl rfl rfl (Nat.le_of_ble_eq_true rfl) (by decide) (by decide) (mo_falls hl hO hw ho26) ?_
    show jl_E l G m_Mo_lookAt (0, 0) 237 [some (.ref 22), some (.int (nI m)), some (.int (nI pc)), some (.int (nI 0)), some (.int (nI h)), some (.int (nI o)), some (.int (x))] [.int (bi (fal o))] (σ) P
    refine er_if_eq 255 d_Mo_lookAt_237 (by decide) (fun c2 => ?_) (fun c2 => ?_)
    · refine er_iconst ((nI (0))) d_Mo_lookAt_255 (by decide) ?_
      exact er_iret d_Mo_lookAt_256 rfl (hT s (by rw [nx_a (bi_0.mp c1), if_neg (by rw [bi_0.mp c2]; decide)]) lo sk kp _ mm fm σ hlo hsk hA hF hAV hmf hmb hfr) (by decide) (by decide)
    · have hp1 := f4_p hf4 (bi_nf c2)
      refine er_aload_n d_Mo_lookAt_240 rfl ?_
      refine er_iload_n d_Mo_lookAt_241 rfl ?_
      refine er_iload_n d_Mo_lookAt_242 rfl ?_
      refine er_iconst ((nI (1))) d_Mo_lookAt_243 (by decide) ?_
      refine er_iaddN d_Mo_lookAt_244 ?_
      refine er_callVE (As := [.int (nI m), .int (nI ((pc) + (1)))]) d_Mo_lookAt_245 k_Mo_lookAt_203 hO rfl rfl rfl (Nat.le_of_ble_eq_true rfl) (by decide) (by decide) (mo_give (A := s.1) (F := s.2) (g := (actR pr fi ft sg r o x r h)) (h := (h - tks sg o x + pts o)) hl hmb hok hm (by omega) hA hF hrg hrl hAV (fun s2 mm fm σ e2 hA hF hmf1 hmb hfr1 => ⟨_, rfl, ?_⟩) (fun e2 => ⟨_, rfl, ?_⟩))
      · skip
        have hfr := hfr.trans hfr1
        have hmf := hmf.trans hmf1
        have hAV := meetA_AV hok.1 hAV hrg e2
        show jl_E l G m_Mo_lookAt (0, 0) 248 [some (.ref 22), some (.int (nI m)), some (.int (nI pc)), some (.int (nI 0)), some (.int (nI h)), some (.int (nI o)), some (.int (x))] [.int (nI 1)] (σ) P
        refine er_if_ne 255 d_Mo_lookAt_248 (by decide) (fun _ => ?_) (fun z => absurd z (by decide))
        refine er_iconst ((nI (0))) d_Mo_lookAt_255 (by decide) ?_
        exact er_iret d_Mo_lookAt_256 rfl (hT s2 (by rw [nx_a (bi_0.mp c1), if_pos (bi_nf c2), e2]; rfl) lo sk kp _ mm fm σ hlo hsk hA hF hAV hmf hmb hfr) (by decide) (by decide)
      · skip
        show jl_E l G m_Mo_lookAt (0, 0) 248 [some (.ref 22), some (.int (nI m)), some (.int (nI pc)), some (.int (nI 0)), some (.int (nI h)), some (.int (nI o)), some (.int (x))] [.int (nI 0)] (σ) P
        refine er_if_ne 255 d_Mo_lookAt_248 (by decide) (fun z => absurd rfl z) (fun _ => ?_)
        refine er_iconst ((nI (3))) d_Mo_lookAt_251 (by decide) ?_
        refine er_goto 256 d_Mo_lookAt_252 (by decide) ?_
        exact er_iret d_Mo_lookAt_256 rfl (hN s (by rw [nx_a (bi_0.mp c1), if_pos (bi_nf c2), e2]; rfl) lo sk kp _ mm fm σ hlo hsk hA hF hAV hmf hmb hfr) (by decide) (by decide)
  · obtain ⟨n, hn, hxn⟩ := f4_x hf4 hk4 (bi_nf c1)
    refine er_aload_n d_Mo_lookAt_219 rfl ?_
    refine er_iload_n d_Mo_lookAt_220 rfl ?_
    refine er_iload d_Mo_lookAt_221 rfl ?_
    refine er_oeq (congrArg Value.int hxn) ?_
    show jl_E l G m_Mo_lookAt (0, 0) 223 [some (.ref 22), some (.int (nI m)), some (.int (nI pc)), some (.int (nI 0)), some (.int (nI h)), some (.int (nI o)), some (.int (x))] [.int (nI n), .int (nI m), .ref 22] (σ) P
    refine er_callVE (As := [.int (nI m), .int (nI n)]) d_Mo_lookAt_223 k_Mo_lookAt_203 hO rfl rfl rfl (Nat.le_of_ble_eq_true rfl) (by decide) (by decide) (mo_give (A := s.1) (F := s.2) (g := (actR pr fi ft sg r o x r h)) (h := (h - tks sg o x + pts o)) hl hmb hok hm (by omega) hA hF hrg hrl hAV (fun s1 mm fm σ e1 hA hF hmf1 hmb hfr1 => ⟨_, rfl, ?_⟩) (fun e1 => ⟨_, rfl, ?_⟩))
    · skip
      have hfr := hfr.trans hfr1
      have hmf := hmf.trans hmf1
      have hAV := meetA_AV hok.1 hAV hrg e1
      obtain ⟨hO, hw, hu, hr, hkp, hmp, hfm⟩ := id hmb; obtain ⟨r1, r2⟩ := id hr
      obtain ⟨h23, h24, h25, h26, h27⟩ := id hw
      obtain ⟨h28, h29, h30, h31, h32, h33, h34, h35, h36, h37⟩ := id hu
      show jl_E l G m_Mo_lookAt (0, 0) 226 [some (.ref 22), some (.int (nI m)), some (.int (nI pc)), some (.int (nI 0)), some (.int (nI h)), some (.int (nI o)), some (.int (x))] [.int (nI 1)] (σ) P
      refine er_if_ne 231 d_Mo_lookAt_226 (by decide) (fun _ => ?_) (fun z => absurd z (by decide))
      refine er_aload_n d_Mo_lookAt_231 rfl ?_
      refine er_iload d_Mo_lookAt_232 rfl ?_
      refine er_callV (As := [.int (nI o)]) d_Mo_lookAt_234 k_Mo_lookAt_151 hO rfl rfl rfl (Nat.le_of_ble_eq_true rfl) (by decide) (by decide) (mo_falls hl hO hw ho26) ?_
      show jl_E l G m_Mo_lookAt (0, 0) 237 [some (.ref 22), some (.int (nI m)), some (.int (nI pc)), some (.int (nI 0)), some (.int (nI h)), some (.int (nI o)), some (.int (x))] [.int (bi (fal o))] (σ) P
      refine er_if_eq 255 d_Mo_lookAt_237 (by decide) (fun c3 => ?_) (fun c3 => ?_)
      · refine er_iconst ((nI (0))) d_Mo_lookAt_255 (by decide) ?_
        exact er_iret d_Mo_lookAt_256 rfl (hT s1 (by rw [nx_b (bi_nf c1) hxn (by omega) e1, if_neg (by rw [bi_0.mp c3]; decide)]) lo sk kp _ mm fm σ hlo hsk hA hF hAV hmf hmb hfr) (by decide) (by decide)
      · have hp1 := f4_p hf4 (bi_nf c3)
        refine er_aload_n d_Mo_lookAt_240 rfl ?_
        refine er_iload_n d_Mo_lookAt_241 rfl ?_
        refine er_iload_n d_Mo_lookAt_242 rfl ?_
        refine er_iconst ((nI (1))) d_Mo_lookAt_243 (by decide) ?_
        refine er_iaddN d_Mo_lookAt_244 ?_
        refine er_callVE (As := [.int (nI m), .int (nI ((pc) + (1)))]) d_Mo_lookAt_245 k_Mo_lookAt_203 hO rfl rfl rfl (Nat.le_of_ble_eq_true rfl) (by decide) (by decide) (mo_give (A := s1.1) (F := s1.2) (g := (actR pr fi ft sg r o x r h)) (h := (h - tks sg o x + pts o)) hl hmb hok hm (by omega) hA hF hrg hrl hAV (fun s2 mm fm σ e2 hA hF hmf1 hmb hfr1 => ⟨_, rfl, ?_⟩) (fun e2 => ⟨_, rfl, ?_⟩))
        · skip
          have hfr := hfr.trans hfr1
          have hmf := hmf.trans hmf1
          have hAV := meetA_AV hok.1 hAV hrg e2
          show jl_E l G m_Mo_lookAt (0, 0) 248 [some (.ref 22), some (.int (nI m)), some (.int (nI pc)), some (.int (nI 0)), some (.int (nI h)), some (.int (nI o)), some (.int (x))] [.int (nI 1)] (σ) P
          refine er_if_ne 255 d_Mo_lookAt_248 (by decide) (fun _ => ?_) (fun z => absurd z (by decide))
          refine er_iconst ((nI (0))) d_Mo_lookAt_255 (by decide) ?_
          exact er_iret d_Mo_lookAt_256 rfl (hT s2 (by rw [nx_b (bi_nf c1) hxn (by omega) e1, if_pos (bi_nf c3), e2]; rfl) lo sk kp _ mm fm σ hlo hsk hA hF hAV hmf hmb hfr) (by decide) (by decide)
        · skip
          show jl_E l G m_Mo_lookAt (0, 0) 248 [some (.ref 22), some (.int (nI m)), some (.int (nI pc)), some (.int (nI 0)), some (.int (nI h)), some (.int (nI o)), some (.int (x))] [.int (nI 0)] (σ) P
          refine er_if_ne 255 d_Mo_lookAt_248 (by decide) (fun z => absurd rfl z) (fun _ => ?_)
          refine er_iconst ((nI (3))) d_Mo_lookAt_251 (by decide) ?_
          refine er_goto 256 d_Mo_lookAt_252 (by decide) ?_
          exact er_iret d_Mo_lookAt_256 rfl (hN s1 (by rw [nx_b (bi_nf c1) hxn (by omega) e1, if_pos (bi_nf c3), e2]; rfl) lo sk kp _ mm fm σ hlo hsk hA hF hAV hmf hmb hfr) (by decide) (by decide)
    · skip
      show jl_E l G m_Mo_lookAt (0, 0) 226 [some (.ref 22), some (.int (nI m)), some (.int (nI pc)), some (.int (nI 0)), some (.int (nI h)), some (.int (nI o)), some (.int (x))] [.int (nI 0)] (σ) P
      refine er_if_ne 231 d_Mo_lookAt_226 (by decide) (fun z => absurd rfl z) (fun _ => ?_)
      refine er_iconst ((nI (3))) d_Mo_lookAt_229 (by decide) ?_
      exact er_iret d_Mo_lookAt_230 rfl (hN s (nx_c (bi_nf c1) hxn (by omega) e1) lo sk kp _ mm fm σ hlo hsk hA hF hAV hmf hmb hfr) (by decide) (by decide)
end JMz
