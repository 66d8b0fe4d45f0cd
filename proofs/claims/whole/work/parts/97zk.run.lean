/-! the model's run: the start (wip/gen/p97zj.py) -/
section JNzk
variable {l : Launch} {G : jl_G} {σ : jl_S}
variable {tb : Nat → Bool} {pr : Nat → Option Nat} {ow fi ft : Nat → Nat} {hs : Nat → Bool} {fa vf wh wy hg dp md ov oh dn an : Int32}
variable {u1 u2 : Nat → Option Nat} {ur ul uo : Nat → Nat} {ua : Nat → Int32} {uc us ut uk : Nat → Nat}
variable {σ0 : jl_S} {N t m p h b n k : Nat} {R R2 : Rw} {V V2 : Nat → Int32} {fs : List Fm} {f : Fm} {H : Hp} {fa vf wh wy hg ov oh dn an x xa xb : Int32} {sg : Int32 → Option Sg} {D : Nat → MDt} {W : Nat → Nat → Option Rw} {gd : Bool} {d : Nat} {q1 q2 : Option Nat} {t1v t2v : Nat} {fx fp fh : Nat → Nat} {lw lk lk2 vl vk : Nat → Int32}
theorem NB.cc (h1 : NB σ0 σ N t m p h R V fs H fa vf wh wy hg ov oh dn an) (e1 : R = R2) (e2 : V = V2) : NB σ0 σ N t m p h R2 V2 fs H fa vf wh wy hg ov oh dn an := by
  subst e1 e2
  exact h1
theorem FY.start (w1 : wrt lk lk2 (6 * 0) 6 (fun _ => -1)) : FY (va_up fx 0 m) (va_up fp 0 0) (va_up fh 0 0) lw lk2 vl vk 0 0 m 0 0 (cwi (fun _ => none) 0 0) (cwj (fun _ => 0) 0 0) [] := by
  refine ⟨⟨va_up_self _ _ _, va_up_self _ _ _, fun k hk => ?_, fun j hj => absurd hj (Nat.not_lt_zero _)⟩, va_up_self _ _ _, trivial, rfl⟩
  have e : cwi (fun _ => none) 0 0 k = none := by
    unfold cwi
    rw [if_neg (show ¬ k = 6 by omega), if_neg (show ¬ (k < 6 ∧ k < 0) by omega)]
  show lk2 (6 * 0 + k) = kdI (cwi (fun _ => none) 0 0 k) ∧ (cwi (fun _ => none) 0 0 k ≠ none → lw (6 * 0 + k) = cwj (fun _ => 0) 0 0 k)
  rw [e, w1, if_pos (by omega)]
  exact ⟨rfl, fun z => absurd rfl z⟩
theorem d_Mo_run_136 : decode m_Mo_run.2.1 136 = .ok (.iload 8, 2) := by decide +kernel
theorem d_Mo_run_138 : decode m_Mo_run.2.1 138 = .ok (.aload_n 0, 1) := by decide +kernel
theorem d_Mo_run_139 : decode m_Mo_run.2.1 139 = .ok (.iload 6, 2) := by decide +kernel
theorem k_Mo_run_161 : jl_cv m_Mo_run m_Mo_parameters 161 1 = true := by decide +kernel
theorem d_Mo_run_141 : decode m_Mo_run.2.1 141 = .ok (.invokevirtual 161, 3) := by decide +kernel
theorem d_Mo_run_144 : decode m_Mo_run.2.1 144 = .ok (.if_icmp .gt 78, 3) := by decide +kernel
theorem d_Mo_run_222 : decode m_Mo_run.2.1 222 = .ok (.iload 4, 2) := by decide +kernel
theorem d_Mo_run_224 : decode m_Mo_run.2.1 224 = .ok (.istore 8, 2) := by decide +kernel
theorem mo_rp_0 (hl : l.stackTraces = false) {P : jl_O → jl_S → Prop}  (hn : NB σ0 σ 0 0 m 0 0 (R) (V) [] (H) fa vf wh wy hg ov oh dn an) (hw : MoW σ tb pr ow ft hs) (hu : MoM σ u1 u2 ur ul uo ua uc us ut uk) (hm24 : m < 24) (e1 : u1 m = none) (e2 : u2 m = none) (ho1 : ob 16 (none)) (ho2 : ob 16 (none))  (hT : ∀ σ', NB σ0 σ' 0 0 m 0 0 (R) (V) [] (H) fa vf wh wy hg ov oh dn an → jl_E l G m_Mo_run (0, 0) 226 [some (.ref 22), some (.int (nI k)), some (.int (xa)), some (.int (xb)), some (.int (nI n)), some (.int (bi gd)), some (.int (nI m)), none, some (.int (nI n)), none] [] σ' P) : jl_E l G m_Mo_run (0, 0) 136 [some (.ref 22), some (.int (nI k)), some (.int (xa)), some (.int (xb)), some (.int (nI n)), some (.int (bi gd)), some (.int (nI m)), some (.int (xa)), some (.int (nI 1)), none] [] σ P := by
  obtain ⟨fx, fp, fh, lw, lk, vl, vk, ks, kc, kv, lo, sk, hO, f1, f2, f3, f4, f5, f6, f7, hH, hB, hy1, hR1, hF⟩ := id hn
  obtain ⟨k1, k2, k3⟩ := id hH
  obtain ⟨⟨r1, r2⟩, hlo, hsk⟩ := id hR1
  obtain ⟨h23, h24, h25, h26, h27⟩ := id hw
  obtain ⟨h28, h29, h30, h31, h32, h33, h34, h35, h36, h37⟩ := id hu
  refine er_iload d_Mo_run_136 rfl ?_
  refine er_aload_n d_Mo_run_138 rfl ?_
  refine er_iload d_Mo_run_139 rfl ?_
  refine er_callV (As := [.int (nI m)]) d_Mo_run_141 k_Mo_run_161 hO rfl rfl rfl (Nat.le_of_ble_eq_true rfl) (by decide) (by decide) (mo_params hl hO hw hu hm24 e1 e2 ho1 ho2) ?_
  show jl_E l G m_Mo_run (0, 0) 144 [some (.ref 22), some (.int (nI k)), some (.int (xa)), some (.int (xb)), some (.int (nI n)), some (.int (bi gd)), some (.int (nI m)), some (.int (xa)), some (.int (nI 1)), none] [.int (nI 0), .int (nI 1)] (σ) P
  refine er_icmp_gt 222 d_Mo_run_144 (by decide) (fun _ => ?_) (fun z => absurd (by decide) z)
  refine er_iload d_Mo_run_222 rfl ?_
  refine er_istore d_Mo_run_224 (by decide) ?_
  show jl_E l G m_Mo_run (0, 0) 226 [some (.ref 22), some (.int (nI k)), some (.int (xa)), some (.int (xb)), some (.int (nI n)), some (.int (bi gd)), some (.int (nI m)), some (.int (xa)), some (.int (nI n)), none] [] (σ) P
  exact er_weak (ls' := [some (.ref 22), some (.int (nI k)), some (.int (xa)), some (.int (xb)), some (.int (nI n)), some (.int (bi gd)), some (.int (nI m)), none, some (.int (nI n)), none]) (fun q v hv => by match q, hv with | 0, hv => exact hv | 1, hv => exact hv | 2, hv => exact hv | 3, hv => exact hv | 4, hv => exact hv | 5, hv => exact hv | 6, hv => exact hv | 7, hv => cases hv | 8, hv => exact hv | 9, hv => cases hv | q + 10, hv => cases hv) (hT _ ⟨_, _, _, _, _, _, _, _, _, _, _, _, hO, f1, f2, f3, f4, f5, f6, f7, ⟨k1, k2, k3⟩, hB, hy1, ⟨⟨r1, r2⟩, hlo, hsk⟩, hF⟩)
theorem d_Mo_run_147 : decode m_Mo_run.2.1 147 = .ok (.iload 8, 2) := by decide +kernel
theorem d_Mo_run_149 : decode m_Mo_run.2.1 149 = .ok (.iconst 1, 1) := by decide +kernel
theorem d_Mo_run_150 : decode m_Mo_run.2.1 150 = .ok (.if_icmp .ne 13, 3) := by decide +kernel
theorem d_Mo_run_153 : decode m_Mo_run.2.1 153 = .ok (.aload_n 0, 1) := by decide +kernel
theorem f_Mo_run_26 : jl_fd m_Mo_run 26 7 6 = true := by decide +kernel
theorem d_Mo_run_154 : decode m_Mo_run.2.1 154 = .ok (.getfield 26, 3) := by decide +kernel
theorem d_Mo_run_157 : decode m_Mo_run.2.1 157 = .ok (.iload 6, 2) := by decide +kernel
theorem d_Mo_run_159 : decode m_Mo_run.2.1 159 = .ok (.iaload, 1) := by decide +kernel
theorem d_Mo_run_160 : decode m_Mo_run.2.1 160 = .ok (.goto 10, 3) := by decide +kernel
theorem d_Mo_run_170 : decode m_Mo_run.2.1 170 = .ok (.ifCond .ne 7, 3) := by decide +kernel
theorem d_Mo_run_173 : decode m_Mo_run.2.1 173 = .ok (.iconst 1, 1) := by decide +kernel
theorem d_Mo_run_174 : decode m_Mo_run.2.1 174 = .ok (.goto 4, 3) := by decide +kernel
theorem d_Mo_run_178 : decode m_Mo_run.2.1 178 = .ok (.istore 9, 2) := by decide +kernel
theorem d_Mo_run_180 : decode m_Mo_run.2.1 180 = .ok (.aload_n 0, 1) := by decide +kernel
theorem d_Mo_run_181 : decode m_Mo_run.2.1 181 = .ok (.iconst 0, 1) := by decide +kernel
theorem d_Mo_run_182 : decode m_Mo_run.2.1 182 = .ok (.iload 8, 2) := by decide +kernel
theorem d_Mo_run_184 : decode m_Mo_run.2.1 184 = .ok (.iload 9, 2) := by decide +kernel
theorem d_Mo_run_186 : decode m_Mo_run.2.1 186 = .ok (.ifCond .eq 7, 3) := by decide +kernel
theorem d_Mo_run_189 : decode m_Mo_run.2.1 189 = .ok (.iconst 0, 1) := by decide +kernel
theorem d_Mo_run_190 : decode m_Mo_run.2.1 190 = .ok (.goto 4, 3) := by decide +kernel
theorem d_Mo_run_194 : decode m_Mo_run.2.1 194 = .ok (.iload 9, 2) := by decide +kernel
theorem d_Mo_run_196 : decode m_Mo_run.2.1 196 = .ok (.ifCond .eq 8, 3) := by decide +kernel
theorem d_Mo_run_199 : decode m_Mo_run.2.1 199 = .ok (.iload 7, 2) := by decide +kernel
theorem d_Mo_run_201 : decode m_Mo_run.2.1 201 = .ok (.goto 4, 3) := by decide +kernel
theorem k_Mo_run_254 : jl_cv m_Mo_run m_Mo_setLocal 254 4 = true := by decide +kernel
theorem d_Mo_run_205 : decode m_Mo_run.2.1 205 = .ok (.invokevirtual 254, 3) := by decide +kernel
theorem d_Mo_run_208 : decode m_Mo_run.2.1 208 = .ok (.iload 9, 2) := by decide +kernel
theorem d_Mo_run_210 : decode m_Mo_run.2.1 210 = .ok (.ifCond .eq 6, 3) := by decide +kernel
theorem d_Mo_run_213 : decode m_Mo_run.2.1 213 = .ok (.iload_n 3, 1) := by decide +kernel
theorem d_Mo_run_214 : decode m_Mo_run.2.1 214 = .ok (.istore 7, 2) := by decide +kernel
theorem d_Mo_run_216 : decode m_Mo_run.2.1 216 = .ok (.iinc 8 1, 3) := by decide +kernel
theorem d_Mo_run_219 : decode m_Mo_run.2.1 219 = .ok (.goto (-83), 3) := by decide +kernel
theorem mo_rp_1i (hl : l.stackTraces = false) {P : jl_O → jl_S → Prop}  (hn : NB σ0 σ 0 0 m 0 0 (R) (V) [] (H) fa vf wh wy hg ov oh dn an) (hw : MoW σ tb pr ow ft hs) (hu : MoM σ u1 u2 ur ul uo ua uc us ut uk) (hm24 : m < 24) (e1 : u1 m = some 0) (e2 : u2 m = none) (ho1 : ob 16 (some 0)) (ho2 : ob 16 (none))  (hT : ∀ σ', NB σ0 σ' 0 0 m 0 0 (va_up (R) 1 (some 0)) (va_up (V) 1 (xa)) [] (H) fa vf wh wy hg ov oh dn an → jl_E l G m_Mo_run (0, 0) 226 [some (.ref 22), some (.int (nI k)), some (.int (xa)), some (.int (xb)), some (.int (nI n)), some (.int (bi gd)), some (.int (nI m)), none, some (.int (nI n)), none] [] σ' P) : jl_E l G m_Mo_run (0, 0) 136 [some (.ref 22), some (.int (nI k)), some (.int (xa)), some (.int (xb)), some (.int (nI n)), some (.int (bi gd)), some (.int (nI m)), some (.int (xa)), some (.int (nI 1)), none] [] σ P := by
  obtain ⟨fx, fp, fh, lw, lk, vl, vk, ks, kc, kv, lo, sk, hO, f1, f2, f3, f4, f5, f6, f7, hH, hB, hy1, hR1, hF⟩ := id hn
  obtain ⟨k1, k2, k3⟩ := id hH
  obtain ⟨⟨r1, r2⟩, hlo, hsk⟩ := id hR1
  obtain ⟨h23, h24, h25, h26, h27⟩ := id hw
  obtain ⟨h28, h29, h30, h31, h32, h33, h34, h35, h36, h37⟩ := id hu
  refine er_iload d_Mo_run_136 rfl ?_
  refine er_aload_n d_Mo_run_138 rfl ?_
  refine er_iload d_Mo_run_139 rfl ?_
  refine er_callV (As := [.int (nI m)]) d_Mo_run_141 k_Mo_run_161 hO rfl rfl rfl (Nat.le_of_ble_eq_true rfl) (by decide) (by decide) (mo_params hl hO hw hu hm24 e1 e2 ho1 ho2) ?_
  show jl_E l G m_Mo_run (0, 0) 144 [some (.ref 22), some (.int (nI k)), some (.int (xa)), some (.int (xb)), some (.int (nI n)), some (.int (bi gd)), some (.int (nI m)), some (.int (xa)), some (.int (nI 1)), none] [.int (nI 1), .int (nI 1)] (σ) P
  refine er_icmp_gt 222 d_Mo_run_144 (by decide) (fun z => absurd z (by decide)) (fun _ => ?_)
  refine er_iload d_Mo_run_147 rfl ?_
  refine er_iconst ((nI (1))) d_Mo_run_149 (by decide) ?_
  refine er_icmp_ne 163 d_Mo_run_150 (by decide) (fun z => absurd rfl z) (fun _ => ?_)
  refine er_aload_n d_Mo_run_153 rfl ?_
  refine er_getf d_Mo_run_154 f_Mo_run_26 hO rfl ?_
  refine er_iload d_Mo_run_157 rfl ?_
  refine er_ialdQ (v := (nI (0))) d_Mo_run_159 h28 (by omega) (by omega) (congrArg en e1) ?_
  refine er_goto 170 d_Mo_run_160 (by decide) ?_
  refine er_if_ne 177 d_Mo_run_170 (by decide) (fun z => absurd rfl z) (fun _ => ?_)
  refine er_iconst ((nI (1))) d_Mo_run_173 (by decide) ?_
  refine er_goto 178 d_Mo_run_174 (by decide) ?_
  refine er_istore d_Mo_run_178 (by decide) ?_
  show jl_E l G m_Mo_run (0, 0) 180 [some (.ref 22), some (.int (nI k)), some (.int (xa)), some (.int (xb)), some (.int (nI n)), some (.int (bi gd)), some (.int (nI m)), some (.int (xa)), some (.int (nI 1)), some (.int (nI 1))] [] (σ) P
  refine er_aload_n d_Mo_run_180 rfl ?_
  refine er_iconst ((nI (0))) d_Mo_run_181 (by decide) ?_
  refine er_iload d_Mo_run_182 rfl ?_
  refine er_iload d_Mo_run_184 rfl ?_
  refine er_if_eq 193 d_Mo_run_186 (by decide) (fun z => absurd z (by decide)) (fun _ => ?_)
  refine er_iconst ((nI (0))) d_Mo_run_189 (by decide) ?_
  refine er_goto 194 d_Mo_run_190 (by decide) ?_
  refine er_iload d_Mo_run_194 rfl ?_
  refine er_if_eq 204 d_Mo_run_196 (by decide) (fun z => absurd z (by decide)) (fun _ => ?_)
  refine er_iload d_Mo_run_199 rfl ?_
  refine er_goto 205 d_Mo_run_201 (by decide) ?_
  refine er_callV (As := [.int (nI 0), .int (nI 1), .int (nI 0), .int (xa)]) d_Mo_run_205 k_Mo_run_254 hO rfl rfl rfl (Nat.le_of_ble_eq_true rfl) (by decide) (by decide) (mo_mlocal (f := 0) (k := 1) (a := (nI (0))) (b := (xa)) hl hO f4 f5 (by decide) (by decide)) ?_
  show jl_E l G m_Mo_run (0, 0) 208 [some (.ref 22), some (.int (nI k)), some (.int (xa)), some (.int (xb)), some (.int (nI n)), some (.int (bi gd)), some (.int (nI m)), some (.int (xa)), some (.int (nI 1)), some (.int (nI 1))] [] ((σ.set (47) (.inl (0, 78, .inl (upd (lk) (6 * 0 + 1) (nI (0)))))).set (46) (.inl (0, 78, .inl (upd (lw) (6 * 0 + 1) (xa))))) P
  refine er_iload d_Mo_run_208 rfl ?_
  refine er_if_eq 216 d_Mo_run_210 (by decide) (fun z => absurd z (by decide)) (fun _ => ?_)
  refine er_iload_n d_Mo_run_213 rfl ?_
  refine er_istore d_Mo_run_214 (by decide) ?_
  show jl_E l G m_Mo_run (0, 0) 216 [some (.ref 22), some (.int (nI k)), some (.int (xa)), some (.int (xb)), some (.int (nI n)), some (.int (bi gd)), some (.int (nI m)), some (.int (xb)), some (.int (nI 1)), some (.int (nI 1))] [] ((σ.set (47) (.inl (0, 78, .inl (upd (lk) (6 * 0 + 1) (nI (0)))))).set (46) (.inl (0, 78, .inl (upd (lw) (6 * 0 + 1) (xa))))) P
  refine er_iinc ((nI (2))) d_Mo_run_216 (by decide) rfl (jl_inc 1) ?_
  show jl_E l G m_Mo_run (0, 0) 219 [some (.ref 22), some (.int (nI k)), some (.int (xa)), some (.int (xb)), some (.int (nI n)), some (.int (bi gd)), some (.int (nI m)), some (.int (xb)), some (.int (nI 2)), some (.int (nI 1))] [] ((σ.set (47) (.inl (0, 78, .inl (upd (lk) (6 * 0 + 1) (nI (0)))))).set (46) (.inl (0, 78, .inl (upd (lw) (6 * 0 + 1) (xa))))) P
  refine er_goto 136 d_Mo_run_219 (by decide) ?_
  refine er_iload d_Mo_run_136 rfl ?_
  refine er_aload_n d_Mo_run_138 rfl ?_
  refine er_iload d_Mo_run_139 rfl ?_
  refine er_callV (As := [.int (nI m)]) d_Mo_run_141 k_Mo_run_161 (jl_sn (by decide) (jl_sn (by decide) hO)) rfl rfl rfl (Nat.le_of_ble_eq_true rfl) (by decide) (by decide) (mo_params hl (jl_sn (by decide) (jl_sn (by decide) hO)) (MoW.sx (MoW.sx hw (Or.inr (by decide))) (Or.inr (by decide))) (MoM.sx (MoM.sx hu (Or.inr (by decide))) (Or.inr (by decide))) hm24 e1 e2 ho1 ho2) ?_
  show jl_E l G m_Mo_run (0, 0) 144 [some (.ref 22), some (.int (nI k)), some (.int (xa)), some (.int (xb)), some (.int (nI n)), some (.int (bi gd)), some (.int (nI m)), some (.int (xb)), some (.int (nI 2)), some (.int (nI 1))] [.int (nI 1), .int (nI 2)] ((σ.set (47) (.inl (0, 78, .inl (upd (lk) (6 * 0 + 1) (nI (0)))))).set (46) (.inl (0, 78, .inl (upd (lw) (6 * 0 + 1) (xa))))) P
  refine er_icmp_gt 222 d_Mo_run_144 (by decide) (fun _ => ?_) (fun z => absurd (by decide) z)
  refine er_iload d_Mo_run_222 rfl ?_
  refine er_istore d_Mo_run_224 (by decide) ?_
  show jl_E l G m_Mo_run (0, 0) 226 [some (.ref 22), some (.int (nI k)), some (.int (xa)), some (.int (xb)), some (.int (nI n)), some (.int (bi gd)), some (.int (nI m)), some (.int (xb)), some (.int (nI n)), some (.int (nI 1))] [] ((σ.set (47) (.inl (0, 78, .inl (upd (lk) (6 * 0 + 1) (nI (0)))))).set (46) (.inl (0, 78, .inl (upd (lw) (6 * 0 + 1) (xa))))) P
  exact er_weak (ls' := [some (.ref 22), some (.int (nI k)), some (.int (xa)), some (.int (xb)), some (.int (nI n)), some (.int (bi gd)), some (.int (nI m)), none, some (.int (nI n)), none]) (fun q v hv => by match q, hv with | 0, hv => exact hv | 1, hv => exact hv | 2, hv => exact hv | 3, hv => exact hv | 4, hv => exact hv | 5, hv => exact hv | 6, hv => exact hv | 7, hv => cases hv | 8, hv => exact hv | 9, hv => cases hv | q + 10, hv => cases hv) (hT _ ⟨_, _, _, _, _, _, _, _, _, _, _, _, (jl_sn (by decide) (jl_sn (by decide) hO)), (jl_sn (by decide) (jl_sn (by decide) f1)), (jl_sn (by decide) (jl_sn (by decide) f2)), (jl_sn (by decide) (jl_sn (by decide) f3)), (jl_ss (jl_sn (by decide) f4)), (jl_sn (by decide) (jl_ss f5)), (jl_sn (by decide) (jl_sn (by decide) f6)), (jl_sn (by decide) (jl_sn (by decide) f7)), ⟨(jl_sn (by decide) (jl_sn (by decide) k1)), (jl_sn (by decide) (jl_sn (by decide) k2)), (jl_sn (by decide) (jl_sn (by decide) k3))⟩, hB, ((hy1).locA (k := 1) (y := some 0) (v := (xa)) (by decide) rfl), ⟨⟨(jl_sn (by decide) (jl_sn (by decide) r1)), (jl_sn (by decide) (jl_sn (by decide) r2))⟩, hlo, hsk⟩, ((hF.set (by omega)).set (by omega))⟩)
theorem d_Mo_run_177 : decode m_Mo_run.2.1 177 = .ok (.iconst 0, 1) := by decide +kernel
theorem d_Mo_run_193 : decode m_Mo_run.2.1 193 = .ok (.iconst 1, 1) := by decide +kernel
theorem d_Mo_run_204 : decode m_Mo_run.2.1 204 = .ok (.iconst (-1), 1) := by decide +kernel
theorem mo_rp_1r (hl : l.stackTraces = false) {P : jl_O → jl_S → Prop}  (hn : NB σ0 σ 0 0 m 0 0 (R) (V) [] (H) fa vf wh wy hg ov oh dn an) (hw : MoW σ tb pr ow ft hs) (hu : MoM σ u1 u2 ur ul uo ua uc us ut uk) (hm24 : m < 24) (e1 : u1 m = some t1v) (e2 : u2 m = none) (ho1 : ob 16 (some t1v)) (ho2 : ob 16 (none)) (h1 : t1v ≠ 0) (h1b : t1v < 16) (hT : ∀ σ', NB σ0 σ' 0 0 m 0 0 (va_up (R) 1 (some 2)) (va_up (V) 1 (-1)) [] (H) fa vf wh wy hg ov oh dn an → jl_E l G m_Mo_run (0, 0) 226 [some (.ref 22), some (.int (nI k)), some (.int (xa)), some (.int (xb)), some (.int (nI n)), some (.int (bi gd)), some (.int (nI m)), none, some (.int (nI n)), none] [] σ' P) : jl_E l G m_Mo_run (0, 0) 136 [some (.ref 22), some (.int (nI k)), some (.int (xa)), some (.int (xb)), some (.int (nI n)), some (.int (bi gd)), some (.int (nI m)), some (.int (xa)), some (.int (nI 1)), none] [] σ P := by
  obtain ⟨fx, fp, fh, lw, lk, vl, vk, ks, kc, kv, lo, sk, hO, f1, f2, f3, f4, f5, f6, f7, hH, hB, hy1, hR1, hF⟩ := id hn
  obtain ⟨k1, k2, k3⟩ := id hH
  obtain ⟨⟨r1, r2⟩, hlo, hsk⟩ := id hR1
  obtain ⟨h23, h24, h25, h26, h27⟩ := id hw
  obtain ⟨h28, h29, h30, h31, h32, h33, h34, h35, h36, h37⟩ := id hu
  refine er_iload d_Mo_run_136 rfl ?_
  refine er_aload_n d_Mo_run_138 rfl ?_
  refine er_iload d_Mo_run_139 rfl ?_
  refine er_callV (As := [.int (nI m)]) d_Mo_run_141 k_Mo_run_161 hO rfl rfl rfl (Nat.le_of_ble_eq_true rfl) (by decide) (by decide) (mo_params hl hO hw hu hm24 e1 e2 ho1 ho2) ?_
  show jl_E l G m_Mo_run (0, 0) 144 [some (.ref 22), some (.int (nI k)), some (.int (xa)), some (.int (xb)), some (.int (nI n)), some (.int (bi gd)), some (.int (nI m)), some (.int (xa)), some (.int (nI 1)), none] [.int (nI 1), .int (nI 1)] (σ) P
  refine er_icmp_gt 222 d_Mo_run_144 (by decide) (fun z => absurd z (by decide)) (fun _ => ?_)
  refine er_iload d_Mo_run_147 rfl ?_
  refine er_iconst ((nI (1))) d_Mo_run_149 (by decide) ?_
  refine er_icmp_ne 163 d_Mo_run_150 (by decide) (fun z => absurd rfl z) (fun _ => ?_)
  refine er_aload_n d_Mo_run_153 rfl ?_
  refine er_getf d_Mo_run_154 f_Mo_run_26 hO rfl ?_
  refine er_iload d_Mo_run_157 rfl ?_
  refine er_ialdQ (v := (nI (t1v))) d_Mo_run_159 h28 (by omega) (by omega) (congrArg en e1) ?_
  refine er_goto 170 d_Mo_run_160 (by decide) ?_
  refine er_if_ne 177 d_Mo_run_170 (by decide) (fun _ => ?_) (fun z => absurd z (fun z => by rw [← nI_0, nI_eq (by omega) (by omega)] at z; omega))
  refine er_iconst ((nI (0))) d_Mo_run_177 (by decide) ?_
  refine er_istore d_Mo_run_178 (by decide) ?_
  show jl_E l G m_Mo_run (0, 0) 180 [some (.ref 22), some (.int (nI k)), some (.int (xa)), some (.int (xb)), some (.int (nI n)), some (.int (bi gd)), some (.int (nI m)), some (.int (xa)), some (.int (nI 1)), some (.int (nI 0))] [] (σ) P
  refine er_aload_n d_Mo_run_180 rfl ?_
  refine er_iconst ((nI (0))) d_Mo_run_181 (by decide) ?_
  refine er_iload d_Mo_run_182 rfl ?_
  refine er_iload d_Mo_run_184 rfl ?_
  refine er_if_eq 193 d_Mo_run_186 (by decide) (fun _ => ?_) (fun z => absurd (by decide) z)
  refine er_iconst ((nI (1))) d_Mo_run_193 (by decide) ?_
  refine er_iload d_Mo_run_194 rfl ?_
  refine er_if_eq 204 d_Mo_run_196 (by decide) (fun _ => ?_) (fun z => absurd (by decide) z)
  refine er_iconst ((-1)) d_Mo_run_204 (by decide) ?_
  refine er_callV (As := [.int (nI 0), .int (nI 1), .int (nI 1), .int (-1)]) d_Mo_run_205 k_Mo_run_254 hO rfl rfl rfl (Nat.le_of_ble_eq_true rfl) (by decide) (by decide) (mo_mlocal (f := 0) (k := 1) (a := (nI (1))) (b := (-1)) hl hO f4 f5 (by decide) (by decide)) ?_
  show jl_E l G m_Mo_run (0, 0) 208 [some (.ref 22), some (.int (nI k)), some (.int (xa)), some (.int (xb)), some (.int (nI n)), some (.int (bi gd)), some (.int (nI m)), some (.int (xa)), some (.int (nI 1)), some (.int (nI 0))] [] ((σ.set (47) (.inl (0, 78, .inl (upd (lk) (6 * 0 + 1) (nI (1)))))).set (46) (.inl (0, 78, .inl (upd (lw) (6 * 0 + 1) (-1))))) P
  refine er_iload d_Mo_run_208 rfl ?_
  refine er_if_eq 216 d_Mo_run_210 (by decide) (fun _ => ?_) (fun z => absurd (by decide) z)
  refine er_iinc ((nI (2))) d_Mo_run_216 (by decide) rfl (jl_inc 1) ?_
  show jl_E l G m_Mo_run (0, 0) 219 [some (.ref 22), some (.int (nI k)), some (.int (xa)), some (.int (xb)), some (.int (nI n)), some (.int (bi gd)), some (.int (nI m)), some (.int (xa)), some (.int (nI 2)), some (.int (nI 0))] [] ((σ.set (47) (.inl (0, 78, .inl (upd (lk) (6 * 0 + 1) (nI (1)))))).set (46) (.inl (0, 78, .inl (upd (lw) (6 * 0 + 1) (-1))))) P
  refine er_goto 136 d_Mo_run_219 (by decide) ?_
  refine er_iload d_Mo_run_136 rfl ?_
  refine er_aload_n d_Mo_run_138 rfl ?_
  refine er_iload d_Mo_run_139 rfl ?_
  refine er_callV (As := [.int (nI m)]) d_Mo_run_141 k_Mo_run_161 (jl_sn (by decide) (jl_sn (by decide) hO)) rfl rfl rfl (Nat.le_of_ble_eq_true rfl) (by decide) (by decide) (mo_params hl (jl_sn (by decide) (jl_sn (by decide) hO)) (MoW.sx (MoW.sx hw (Or.inr (by decide))) (Or.inr (by decide))) (MoM.sx (MoM.sx hu (Or.inr (by decide))) (Or.inr (by decide))) hm24 e1 e2 ho1 ho2) ?_
  show jl_E l G m_Mo_run (0, 0) 144 [some (.ref 22), some (.int (nI k)), some (.int (xa)), some (.int (xb)), some (.int (nI n)), some (.int (bi gd)), some (.int (nI m)), some (.int (xa)), some (.int (nI 2)), some (.int (nI 0))] [.int (nI 1), .int (nI 2)] ((σ.set (47) (.inl (0, 78, .inl (upd (lk) (6 * 0 + 1) (nI (1)))))).set (46) (.inl (0, 78, .inl (upd (lw) (6 * 0 + 1) (-1))))) P
  refine er_icmp_gt 222 d_Mo_run_144 (by decide) (fun _ => ?_) (fun z => absurd (by decide) z)
  refine er_iload d_Mo_run_222 rfl ?_
  refine er_istore d_Mo_run_224 (by decide) ?_
  show jl_E l G m_Mo_run (0, 0) 226 [some (.ref 22), some (.int (nI k)), some (.int (xa)), some (.int (xb)), some (.int (nI n)), some (.int (bi gd)), some (.int (nI m)), some (.int (xa)), some (.int (nI n)), some (.int (nI 0))] [] ((σ.set (47) (.inl (0, 78, .inl (upd (lk) (6 * 0 + 1) (nI (1)))))).set (46) (.inl (0, 78, .inl (upd (lw) (6 * 0 + 1) (-1))))) P
  exact er_weak (ls' := [some (.ref 22), some (.int (nI k)), some (.int (xa)), some (.int (xb)), some (.int (nI n)), some (.int (bi gd)), some (.int (nI m)), none, some (.int (nI n)), none]) (fun q v hv => by match q, hv with | 0, hv => exact hv | 1, hv => exact hv | 2, hv => exact hv | 3, hv => exact hv | 4, hv => exact hv | 5, hv => exact hv | 6, hv => exact hv | 7, hv => cases hv | 8, hv => exact hv | 9, hv => cases hv | q + 10, hv => cases hv) (hT _ ⟨_, _, _, _, _, _, _, _, _, _, _, _, (jl_sn (by decide) (jl_sn (by decide) hO)), (jl_sn (by decide) (jl_sn (by decide) f1)), (jl_sn (by decide) (jl_sn (by decide) f2)), (jl_sn (by decide) (jl_sn (by decide) f3)), (jl_ss (jl_sn (by decide) f4)), (jl_sn (by decide) (jl_ss f5)), (jl_sn (by decide) (jl_sn (by decide) f6)), (jl_sn (by decide) (jl_sn (by decide) f7)), ⟨(jl_sn (by decide) (jl_sn (by decide) k1)), (jl_sn (by decide) (jl_sn (by decide) k2)), (jl_sn (by decide) (jl_sn (by decide) k3))⟩, hB, ((hy1).locA (k := 1) (y := some 2) (v := (-1)) (by decide) rfl), ⟨⟨(jl_sn (by decide) (jl_sn (by decide) r1)), (jl_sn (by decide) (jl_sn (by decide) r2))⟩, hlo, hsk⟩, ((hF.set (by omega)).set (by omega))⟩)
theorem d_Mo_run_163 : decode m_Mo_run.2.1 163 = .ok (.aload_n 0, 1) := by decide +kernel
theorem f_Mo_run_29 : jl_fd m_Mo_run 29 7 7 = true := by decide +kernel
theorem d_Mo_run_164 : decode m_Mo_run.2.1 164 = .ok (.getfield 29, 3) := by decide +kernel
theorem d_Mo_run_167 : decode m_Mo_run.2.1 167 = .ok (.iload 6, 2) := by decide +kernel
theorem d_Mo_run_169 : decode m_Mo_run.2.1 169 = .ok (.iaload, 1) := by decide +kernel
theorem mo_rp_2ii (hl : l.stackTraces = false) {P : jl_O → jl_S → Prop}  (hn : NB σ0 σ 0 0 m 0 0 (R) (V) [] (H) fa vf wh wy hg ov oh dn an) (hw : MoW σ tb pr ow ft hs) (hu : MoM σ u1 u2 ur ul uo ua uc us ut uk) (hm24 : m < 24) (e1 : u1 m = some 0) (e2 : u2 m = some 0) (ho1 : ob 16 (some 0)) (ho2 : ob 16 (some 0))  (hT : ∀ σ', NB σ0 σ' 0 0 m 0 0 (va_up (va_up (R) 1 (some 0)) 2 (some 0)) (va_up (va_up (V) 1 (xa)) 2 (xb)) [] (H) fa vf wh wy hg ov oh dn an → jl_E l G m_Mo_run (0, 0) 226 [some (.ref 22), some (.int (nI k)), some (.int (xa)), some (.int (xb)), some (.int (nI n)), some (.int (bi gd)), some (.int (nI m)), none, some (.int (nI n)), none] [] σ' P) : jl_E l G m_Mo_run (0, 0) 136 [some (.ref 22), some (.int (nI k)), some (.int (xa)), some (.int (xb)), some (.int (nI n)), some (.int (bi gd)), some (.int (nI m)), some (.int (xa)), some (.int (nI 1)), none] [] σ P := by
  obtain ⟨fx, fp, fh, lw, lk, vl, vk, ks, kc, kv, lo, sk, hO, f1, f2, f3, f4, f5, f6, f7, hH, hB, hy1, hR1, hF⟩ := id hn
  obtain ⟨k1, k2, k3⟩ := id hH
  obtain ⟨⟨r1, r2⟩, hlo, hsk⟩ := id hR1
  obtain ⟨h23, h24, h25, h26, h27⟩ := id hw
  obtain ⟨h28, h29, h30, h31, h32, h33, h34, h35, h36, h37⟩ := id hu
  refine er_iload d_Mo_run_136 rfl ?_
  refine er_aload_n d_Mo_run_138 rfl ?_
  refine er_iload d_Mo_run_139 rfl ?_
  refine er_callV (As := [.int (nI m)]) d_Mo_run_141 k_Mo_run_161 hO rfl rfl rfl (Nat.le_of_ble_eq_true rfl) (by decide) (by decide) (mo_params hl hO hw hu hm24 e1 e2 ho1 ho2) ?_
  show jl_E l G m_Mo_run (0, 0) 144 [some (.ref 22), some (.int (nI k)), some (.int (xa)), some (.int (xb)), some (.int (nI n)), some (.int (bi gd)), some (.int (nI m)), some (.int (xa)), some (.int (nI 1)), none] [.int (nI 2), .int (nI 1)] (σ) P
  refine er_icmp_gt 222 d_Mo_run_144 (by decide) (fun z => absurd z (by decide)) (fun _ => ?_)
  refine er_iload d_Mo_run_147 rfl ?_
  refine er_iconst ((nI (1))) d_Mo_run_149 (by decide) ?_
  refine er_icmp_ne 163 d_Mo_run_150 (by decide) (fun z => absurd rfl z) (fun _ => ?_)
  refine er_aload_n d_Mo_run_153 rfl ?_
  refine er_getf d_Mo_run_154 f_Mo_run_26 hO rfl ?_
  refine er_iload d_Mo_run_157 rfl ?_
  refine er_ialdQ (v := (nI (0))) d_Mo_run_159 h28 (by omega) (by omega) (congrArg en e1) ?_
  refine er_goto 170 d_Mo_run_160 (by decide) ?_
  refine er_if_ne 177 d_Mo_run_170 (by decide) (fun z => absurd rfl z) (fun _ => ?_)
  refine er_iconst ((nI (1))) d_Mo_run_173 (by decide) ?_
  refine er_goto 178 d_Mo_run_174 (by decide) ?_
  refine er_istore d_Mo_run_178 (by decide) ?_
  show jl_E l G m_Mo_run (0, 0) 180 [some (.ref 22), some (.int (nI k)), some (.int (xa)), some (.int (xb)), some (.int (nI n)), some (.int (bi gd)), some (.int (nI m)), some (.int (xa)), some (.int (nI 1)), some (.int (nI 1))] [] (σ) P
  refine er_aload_n d_Mo_run_180 rfl ?_
  refine er_iconst ((nI (0))) d_Mo_run_181 (by decide) ?_
  refine er_iload d_Mo_run_182 rfl ?_
  refine er_iload d_Mo_run_184 rfl ?_
  refine er_if_eq 193 d_Mo_run_186 (by decide) (fun z => absurd z (by decide)) (fun _ => ?_)
  refine er_iconst ((nI (0))) d_Mo_run_189 (by decide) ?_
  refine er_goto 194 d_Mo_run_190 (by decide) ?_
  refine er_iload d_Mo_run_194 rfl ?_
  refine er_if_eq 204 d_Mo_run_196 (by decide) (fun z => absurd z (by decide)) (fun _ => ?_)
  refine er_iload d_Mo_run_199 rfl ?_
  refine er_goto 205 d_Mo_run_201 (by decide) ?_
  refine er_callV (As := [.int (nI 0), .int (nI 1), .int (nI 0), .int (xa)]) d_Mo_run_205 k_Mo_run_254 hO rfl rfl rfl (Nat.le_of_ble_eq_true rfl) (by decide) (by decide) (mo_mlocal (f := 0) (k := 1) (a := (nI (0))) (b := (xa)) hl hO f4 f5 (by decide) (by decide)) ?_
  show jl_E l G m_Mo_run (0, 0) 208 [some (.ref 22), some (.int (nI k)), some (.int (xa)), some (.int (xb)), some (.int (nI n)), some (.int (bi gd)), some (.int (nI m)), some (.int (xa)), some (.int (nI 1)), some (.int (nI 1))] [] ((σ.set (47) (.inl (0, 78, .inl (upd (lk) (6 * 0 + 1) (nI (0)))))).set (46) (.inl (0, 78, .inl (upd (lw) (6 * 0 + 1) (xa))))) P
  refine er_iload d_Mo_run_208 rfl ?_
  refine er_if_eq 216 d_Mo_run_210 (by decide) (fun z => absurd z (by decide)) (fun _ => ?_)
  refine er_iload_n d_Mo_run_213 rfl ?_
  refine er_istore d_Mo_run_214 (by decide) ?_
  show jl_E l G m_Mo_run (0, 0) 216 [some (.ref 22), some (.int (nI k)), some (.int (xa)), some (.int (xb)), some (.int (nI n)), some (.int (bi gd)), some (.int (nI m)), some (.int (xb)), some (.int (nI 1)), some (.int (nI 1))] [] ((σ.set (47) (.inl (0, 78, .inl (upd (lk) (6 * 0 + 1) (nI (0)))))).set (46) (.inl (0, 78, .inl (upd (lw) (6 * 0 + 1) (xa))))) P
  refine er_iinc ((nI (2))) d_Mo_run_216 (by decide) rfl (jl_inc 1) ?_
  show jl_E l G m_Mo_run (0, 0) 219 [some (.ref 22), some (.int (nI k)), some (.int (xa)), some (.int (xb)), some (.int (nI n)), some (.int (bi gd)), some (.int (nI m)), some (.int (xb)), some (.int (nI 2)), some (.int (nI 1))] [] ((σ.set (47) (.inl (0, 78, .inl (upd (lk) (6 * 0 + 1) (nI (0)))))).set (46) (.inl (0, 78, .inl (upd (lw) (6 * 0 + 1) (xa))))) P
  refine er_goto 136 d_Mo_run_219 (by decide) ?_
  refine er_iload d_Mo_run_136 rfl ?_
  refine er_aload_n d_Mo_run_138 rfl ?_
  refine er_iload d_Mo_run_139 rfl ?_
  refine er_callV (As := [.int (nI m)]) d_Mo_run_141 k_Mo_run_161 (jl_sn (by decide) (jl_sn (by decide) hO)) rfl rfl rfl (Nat.le_of_ble_eq_true rfl) (by decide) (by decide) (mo_params hl (jl_sn (by decide) (jl_sn (by decide) hO)) (MoW.sx (MoW.sx hw (Or.inr (by decide))) (Or.inr (by decide))) (MoM.sx (MoM.sx hu (Or.inr (by decide))) (Or.inr (by decide))) hm24 e1 e2 ho1 ho2) ?_
  show jl_E l G m_Mo_run (0, 0) 144 [some (.ref 22), some (.int (nI k)), some (.int (xa)), some (.int (xb)), some (.int (nI n)), some (.int (bi gd)), some (.int (nI m)), some (.int (xb)), some (.int (nI 2)), some (.int (nI 1))] [.int (nI 2), .int (nI 2)] ((σ.set (47) (.inl (0, 78, .inl (upd (lk) (6 * 0 + 1) (nI (0)))))).set (46) (.inl (0, 78, .inl (upd (lw) (6 * 0 + 1) (xa))))) P
  refine er_icmp_gt 222 d_Mo_run_144 (by decide) (fun z => absurd z (by decide)) (fun _ => ?_)
  refine er_iload d_Mo_run_147 rfl ?_
  refine er_iconst ((nI (1))) d_Mo_run_149 (by decide) ?_
  refine er_icmp_ne 163 d_Mo_run_150 (by decide) (fun _ => ?_) (fun z => absurd z (by decide))
  refine er_aload_n d_Mo_run_163 rfl ?_
  refine er_getf d_Mo_run_164 f_Mo_run_29 (jl_sn (by decide) (jl_sn (by decide) hO)) rfl ?_
  refine er_iload d_Mo_run_167 rfl ?_
  refine er_ialdQ (v := (nI (0))) d_Mo_run_169 (jl_sn (by decide) (jl_sn (by decide) h29)) (by omega) (by omega) (congrArg en e2) ?_
  refine er_if_ne 177 d_Mo_run_170 (by decide) (fun z => absurd rfl z) (fun _ => ?_)
  refine er_iconst ((nI (1))) d_Mo_run_173 (by decide) ?_
  refine er_goto 178 d_Mo_run_174 (by decide) ?_
  refine er_istore d_Mo_run_178 (by decide) ?_
  show jl_E l G m_Mo_run (0, 0) 180 [some (.ref 22), some (.int (nI k)), some (.int (xa)), some (.int (xb)), some (.int (nI n)), some (.int (bi gd)), some (.int (nI m)), some (.int (xb)), some (.int (nI 2)), some (.int (nI 1))] [] ((σ.set (47) (.inl (0, 78, .inl (upd (lk) (6 * 0 + 1) (nI (0)))))).set (46) (.inl (0, 78, .inl (upd (lw) (6 * 0 + 1) (xa))))) P
  refine er_aload_n d_Mo_run_180 rfl ?_
  refine er_iconst ((nI (0))) d_Mo_run_181 (by decide) ?_
  refine er_iload d_Mo_run_182 rfl ?_
  refine er_iload d_Mo_run_184 rfl ?_
  refine er_if_eq 193 d_Mo_run_186 (by decide) (fun z => absurd z (by decide)) (fun _ => ?_)
  refine er_iconst ((nI (0))) d_Mo_run_189 (by decide) ?_
  refine er_goto 194 d_Mo_run_190 (by decide) ?_
  refine er_iload d_Mo_run_194 rfl ?_
  refine er_if_eq 204 d_Mo_run_196 (by decide) (fun z => absurd z (by decide)) (fun _ => ?_)
  refine er_iload d_Mo_run_199 rfl ?_
  refine er_goto 205 d_Mo_run_201 (by decide) ?_
  refine er_callV (As := [.int (nI 0), .int (nI 2), .int (nI 0), .int (xb)]) d_Mo_run_205 k_Mo_run_254 (jl_sn (by decide) (jl_sn (by decide) hO)) rfl rfl rfl (Nat.le_of_ble_eq_true rfl) (by decide) (by decide) (mo_mlocal (f := 0) (k := 2) (a := (nI (0))) (b := (xb)) hl (jl_sn (by decide) (jl_sn (by decide) hO)) (jl_ss (jl_sn (by decide) f4)) (jl_sn (by decide) (jl_ss f5)) (by decide) (by decide)) ?_
  show jl_E l G m_Mo_run (0, 0) 208 [some (.ref 22), some (.int (nI k)), some (.int (xa)), some (.int (xb)), some (.int (nI n)), some (.int (bi gd)), some (.int (nI m)), some (.int (xb)), some (.int (nI 2)), some (.int (nI 1))] [] ((((σ.set (47) (.inl (0, 78, .inl (upd (lk) (6 * 0 + 1) (nI (0)))))).set (46) (.inl (0, 78, .inl (upd (lw) (6 * 0 + 1) (xa))))).set (47) (.inl (0, 78, .inl (upd (upd (lk) (6 * 0 + 1) (nI (0))) (6 * 0 + 2) (nI (0)))))).set (46) (.inl (0, 78, .inl (upd (upd (lw) (6 * 0 + 1) (xa)) (6 * 0 + 2) (xb))))) P
  refine er_iload d_Mo_run_208 rfl ?_
  refine er_if_eq 216 d_Mo_run_210 (by decide) (fun z => absurd z (by decide)) (fun _ => ?_)
  refine er_iload_n d_Mo_run_213 rfl ?_
  refine er_istore d_Mo_run_214 (by decide) ?_
  show jl_E l G m_Mo_run (0, 0) 216 [some (.ref 22), some (.int (nI k)), some (.int (xa)), some (.int (xb)), some (.int (nI n)), some (.int (bi gd)), some (.int (nI m)), some (.int (xb)), some (.int (nI 2)), some (.int (nI 1))] [] ((((σ.set (47) (.inl (0, 78, .inl (upd (lk) (6 * 0 + 1) (nI (0)))))).set (46) (.inl (0, 78, .inl (upd (lw) (6 * 0 + 1) (xa))))).set (47) (.inl (0, 78, .inl (upd (upd (lk) (6 * 0 + 1) (nI (0))) (6 * 0 + 2) (nI (0)))))).set (46) (.inl (0, 78, .inl (upd (upd (lw) (6 * 0 + 1) (xa)) (6 * 0 + 2) (xb))))) P
  refine er_iinc ((nI (3))) d_Mo_run_216 (by decide) rfl (jl_inc 2) ?_
  show jl_E l G m_Mo_run (0, 0) 219 [some (.ref 22), some (.int (nI k)), some (.int (xa)), some (.int (xb)), some (.int (nI n)), some (.int (bi gd)), some (.int (nI m)), some (.int (xb)), some (.int (nI 3)), some (.int (nI 1))] [] ((((σ.set (47) (.inl (0, 78, .inl (upd (lk) (6 * 0 + 1) (nI (0)))))).set (46) (.inl (0, 78, .inl (upd (lw) (6 * 0 + 1) (xa))))).set (47) (.inl (0, 78, .inl (upd (upd (lk) (6 * 0 + 1) (nI (0))) (6 * 0 + 2) (nI (0)))))).set (46) (.inl (0, 78, .inl (upd (upd (lw) (6 * 0 + 1) (xa)) (6 * 0 + 2) (xb))))) P
  refine er_goto 136 d_Mo_run_219 (by decide) ?_
  refine er_iload d_Mo_run_136 rfl ?_
  refine er_aload_n d_Mo_run_138 rfl ?_
  refine er_iload d_Mo_run_139 rfl ?_
  refine er_callV (As := [.int (nI m)]) d_Mo_run_141 k_Mo_run_161 (jl_sn (by decide) (jl_sn (by decide) (jl_sn (by decide) (jl_sn (by decide) hO)))) rfl rfl rfl (Nat.le_of_ble_eq_true rfl) (by decide) (by decide) (mo_params hl (jl_sn (by decide) (jl_sn (by decide) (jl_sn (by decide) (jl_sn (by decide) hO)))) (MoW.sx (MoW.sx (MoW.sx (MoW.sx hw (Or.inr (by decide))) (Or.inr (by decide))) (Or.inr (by decide))) (Or.inr (by decide))) (MoM.sx (MoM.sx (MoM.sx (MoM.sx hu (Or.inr (by decide))) (Or.inr (by decide))) (Or.inr (by decide))) (Or.inr (by decide))) hm24 e1 e2 ho1 ho2) ?_
  show jl_E l G m_Mo_run (0, 0) 144 [some (.ref 22), some (.int (nI k)), some (.int (xa)), some (.int (xb)), some (.int (nI n)), some (.int (bi gd)), some (.int (nI m)), some (.int (xb)), some (.int (nI 3)), some (.int (nI 1))] [.int (nI 2), .int (nI 3)] ((((σ.set (47) (.inl (0, 78, .inl (upd (lk) (6 * 0 + 1) (nI (0)))))).set (46) (.inl (0, 78, .inl (upd (lw) (6 * 0 + 1) (xa))))).set (47) (.inl (0, 78, .inl (upd (upd (lk) (6 * 0 + 1) (nI (0))) (6 * 0 + 2) (nI (0)))))).set (46) (.inl (0, 78, .inl (upd (upd (lw) (6 * 0 + 1) (xa)) (6 * 0 + 2) (xb))))) P
  refine er_icmp_gt 222 d_Mo_run_144 (by decide) (fun _ => ?_) (fun z => absurd (by decide) z)
  refine er_iload d_Mo_run_222 rfl ?_
  refine er_istore d_Mo_run_224 (by decide) ?_
  show jl_E l G m_Mo_run (0, 0) 226 [some (.ref 22), some (.int (nI k)), some (.int (xa)), some (.int (xb)), some (.int (nI n)), some (.int (bi gd)), some (.int (nI m)), some (.int (xb)), some (.int (nI n)), some (.int (nI 1))] [] ((((σ.set (47) (.inl (0, 78, .inl (upd (lk) (6 * 0 + 1) (nI (0)))))).set (46) (.inl (0, 78, .inl (upd (lw) (6 * 0 + 1) (xa))))).set (47) (.inl (0, 78, .inl (upd (upd (lk) (6 * 0 + 1) (nI (0))) (6 * 0 + 2) (nI (0)))))).set (46) (.inl (0, 78, .inl (upd (upd (lw) (6 * 0 + 1) (xa)) (6 * 0 + 2) (xb))))) P
  exact er_weak (ls' := [some (.ref 22), some (.int (nI k)), some (.int (xa)), some (.int (xb)), some (.int (nI n)), some (.int (bi gd)), some (.int (nI m)), none, some (.int (nI n)), none]) (fun q v hv => by match q, hv with | 0, hv => exact hv | 1, hv => exact hv | 2, hv => exact hv | 3, hv => exact hv | 4, hv => exact hv | 5, hv => exact hv | 6, hv => exact hv | 7, hv => cases hv | 8, hv => exact hv | 9, hv => cases hv | q + 10, hv => cases hv) (hT _ ⟨_, _, _, _, _, _, _, _, _, _, _, _, (jl_sn (by decide) (jl_sn (by decide) (jl_sn (by decide) (jl_sn (by decide) hO)))), (jl_sn (by decide) (jl_sn (by decide) (jl_sn (by decide) (jl_sn (by decide) f1)))), (jl_sn (by decide) (jl_sn (by decide) (jl_sn (by decide) (jl_sn (by decide) f2)))), (jl_sn (by decide) (jl_sn (by decide) (jl_sn (by decide) (jl_sn (by decide) f3)))), (jl_ss (jl_sn (by decide) (jl_ss (jl_sn (by decide) f4)))), (jl_sn (by decide) (jl_ss (jl_sn (by decide) (jl_ss f5)))), (jl_sn (by decide) (jl_sn (by decide) (jl_sn (by decide) (jl_sn (by decide) f6)))), (jl_sn (by decide) (jl_sn (by decide) (jl_sn (by decide) (jl_sn (by decide) f7)))), ⟨(jl_sn (by decide) (jl_sn (by decide) (jl_sn (by decide) (jl_sn (by decide) k1)))), (jl_sn (by decide) (jl_sn (by decide) (jl_sn (by decide) (jl_sn (by decide) k2)))), (jl_sn (by decide) (jl_sn (by decide) (jl_sn (by decide) (jl_sn (by decide) k3))))⟩, hB, ((((hy1).locA (k := 1) (y := some 0) (v := (xa)) (by decide) rfl)).locA (k := 2) (y := some 0) (v := (xb)) (by decide) rfl), ⟨⟨(jl_sn (by decide) (jl_sn (by decide) (jl_sn (by decide) (jl_sn (by decide) r1)))), (jl_sn (by decide) (jl_sn (by decide) (jl_sn (by decide) (jl_sn (by decide) r2))))⟩, hlo, hsk⟩, ((((hF.set (by omega)).set (by omega)).set (by omega)).set (by omega))⟩)
theorem mo_rp_2ir (hl : l.stackTraces = false) {P : jl_O → jl_S → Prop}  (hn : NB σ0 σ 0 0 m 0 0 (R) (V) [] (H) fa vf wh wy hg ov oh dn an) (hw : MoW σ tb pr ow ft hs) (hu : MoM σ u1 u2 ur ul uo ua uc us ut uk) (hm24 : m < 24) (e1 : u1 m = some 0) (e2 : u2 m = some t2v) (ho1 : ob 16 (some 0)) (ho2 : ob 16 (some t2v)) (h2 : t2v ≠ 0) (h2b : t2v < 16) (hT : ∀ σ', NB σ0 σ' 0 0 m 0 0 (va_up (va_up (R) 1 (some 0)) 2 (some 2)) (va_up (va_up (V) 1 (xa)) 2 (-1)) [] (H) fa vf wh wy hg ov oh dn an → jl_E l G m_Mo_run (0, 0) 226 [some (.ref 22), some (.int (nI k)), some (.int (xa)), some (.int (xb)), some (.int (nI n)), some (.int (bi gd)), some (.int (nI m)), none, some (.int (nI n)), none] [] σ' P) : jl_E l G m_Mo_run (0, 0) 136 [some (.ref 22), some (.int (nI k)), some (.int (xa)), some (.int (xb)), some (.int (nI n)), some (.int (bi gd)), some (.int (nI m)), some (.int (xa)), some (.int (nI 1)), none] [] σ P := by
  obtain ⟨fx, fp, fh, lw, lk, vl, vk, ks, kc, kv, lo, sk, hO, f1, f2, f3, f4, f5, f6, f7, hH, hB, hy1, hR1, hF⟩ := id hn
  obtain ⟨k1, k2, k3⟩ := id hH
  obtain ⟨⟨r1, r2⟩, hlo, hsk⟩ := id hR1
  obtain ⟨h23, h24, h25, h26, h27⟩ := id hw
  obtain ⟨h28, h29, h30, h31, h32, h33, h34, h35, h36, h37⟩ := id hu
  refine er_iload d_Mo_run_136 rfl ?_
  refine er_aload_n d_Mo_run_138 rfl ?_
  refine er_iload d_Mo_run_139 rfl ?_
  refine er_callV (As := [.int (nI m)]) d_Mo_run_141 k_Mo_run_161 hO rfl rfl rfl (Nat.le_of_ble_eq_true rfl) (by decide) (by decide) (mo_params hl hO hw hu hm24 e1 e2 ho1 ho2) ?_
  show jl_E l G m_Mo_run (0, 0) 144 [some (.ref 22), some (.int (nI k)), some (.int (xa)), some (.int (xb)), some (.int (nI n)), some (.int (bi gd)), some (.int (nI m)), some (.int (xa)), some (.int (nI 1)), none] [.int (nI 2), .int (nI 1)] (σ) P
  refine er_icmp_gt 222 d_Mo_run_144 (by decide) (fun z => absurd z (by decide)) (fun _ => ?_)
  refine er_iload d_Mo_run_147 rfl ?_
  refine er_iconst ((nI (1))) d_Mo_run_149 (by decide) ?_
  refine er_icmp_ne 163 d_Mo_run_150 (by decide) (fun z => absurd rfl z) (fun _ => ?_)
  refine er_aload_n d_Mo_run_153 rfl ?_
  refine er_getf d_Mo_run_154 f_Mo_run_26 hO rfl ?_
  refine er_iload d_Mo_run_157 rfl ?_
  refine er_ialdQ (v := (nI (0))) d_Mo_run_159 h28 (by omega) (by omega) (congrArg en e1) ?_
  refine er_goto 170 d_Mo_run_160 (by decide) ?_
  refine er_if_ne 177 d_Mo_run_170 (by decide) (fun z => absurd rfl z) (fun _ => ?_)
  refine er_iconst ((nI (1))) d_Mo_run_173 (by decide) ?_
  refine er_goto 178 d_Mo_run_174 (by decide) ?_
  refine er_istore d_Mo_run_178 (by decide) ?_
  show jl_E l G m_Mo_run (0, 0) 180 [some (.ref 22), some (.int (nI k)), some (.int (xa)), some (.int (xb)), some (.int (nI n)), some (.int (bi gd)), some (.int (nI m)), some (.int (xa)), some (.int (nI 1)), some (.int (nI 1))] [] (σ) P
  refine er_aload_n d_Mo_run_180 rfl ?_
  refine er_iconst ((nI (0))) d_Mo_run_181 (by decide) ?_
  refine er_iload d_Mo_run_182 rfl ?_
  refine er_iload d_Mo_run_184 rfl ?_
  refine er_if_eq 193 d_Mo_run_186 (by decide) (fun z => absurd z (by decide)) (fun _ => ?_)
  refine er_iconst ((nI (0))) d_Mo_run_189 (by decide) ?_
  refine er_goto 194 d_Mo_run_190 (by decide) ?_
  refine er_iload d_Mo_run_194 rfl ?_
  refine er_if_eq 204 d_Mo_run_196 (by decide) (fun z => absurd z (by decide)) (fun _ => ?_)
  refine er_iload d_Mo_run_199 rfl ?_
  refine er_goto 205 d_Mo_run_201 (by decide) ?_
  refine er_callV (As := [.int (nI 0), .int (nI 1), .int (nI 0), .int (xa)]) d_Mo_run_205 k_Mo_run_254 hO rfl rfl rfl (Nat.le_of_ble_eq_true rfl) (by decide) (by decide) (mo_mlocal (f := 0) (k := 1) (a := (nI (0))) (b := (xa)) hl hO f4 f5 (by decide) (by decide)) ?_
  show jl_E l G m_Mo_run (0, 0) 208 [some (.ref 22), some (.int (nI k)), some (.int (xa)), some (.int (xb)), some (.int (nI n)), some (.int (bi gd)), some (.int (nI m)), some (.int (xa)), some (.int (nI 1)), some (.int (nI 1))] [] ((σ.set (47) (.inl (0, 78, .inl (upd (lk) (6 * 0 + 1) (nI (0)))))).set (46) (.inl (0, 78, .inl (upd (lw) (6 * 0 + 1) (xa))))) P
  refine er_iload d_Mo_run_208 rfl ?_
  refine er_if_eq 216 d_Mo_run_210 (by decide) (fun z => absurd z (by decide)) (fun _ => ?_)
  refine er_iload_n d_Mo_run_213 rfl ?_
  refine er_istore d_Mo_run_214 (by decide) ?_
  show jl_E l G m_Mo_run (0, 0) 216 [some (.ref 22), some (.int (nI k)), some (.int (xa)), some (.int (xb)), some (.int (nI n)), some (.int (bi gd)), some (.int (nI m)), some (.int (xb)), some (.int (nI 1)), some (.int (nI 1))] [] ((σ.set (47) (.inl (0, 78, .inl (upd (lk) (6 * 0 + 1) (nI (0)))))).set (46) (.inl (0, 78, .inl (upd (lw) (6 * 0 + 1) (xa))))) P
  refine er_iinc ((nI (2))) d_Mo_run_216 (by decide) rfl (jl_inc 1) ?_
  show jl_E l G m_Mo_run (0, 0) 219 [some (.ref 22), some (.int (nI k)), some (.int (xa)), some (.int (xb)), some (.int (nI n)), some (.int (bi gd)), some (.int (nI m)), some (.int (xb)), some (.int (nI 2)), some (.int (nI 1))] [] ((σ.set (47) (.inl (0, 78, .inl (upd (lk) (6 * 0 + 1) (nI (0)))))).set (46) (.inl (0, 78, .inl (upd (lw) (6 * 0 + 1) (xa))))) P
  refine er_goto 136 d_Mo_run_219 (by decide) ?_
  refine er_iload d_Mo_run_136 rfl ?_
  refine er_aload_n d_Mo_run_138 rfl ?_
  refine er_iload d_Mo_run_139 rfl ?_
  refine er_callV (As := [.int (nI m)]) d_Mo_run_141 k_Mo_run_161 (jl_sn (by decide) (jl_sn (by decide) hO)) rfl rfl rfl (Nat.le_of_ble_eq_true rfl) (by decide) (by decide) (mo_params hl (jl_sn (by decide) (jl_sn (by decide) hO)) (MoW.sx (MoW.sx hw (Or.inr (by decide))) (Or.inr (by decide))) (MoM.sx (MoM.sx hu (Or.inr (by decide))) (Or.inr (by decide))) hm24 e1 e2 ho1 ho2) ?_
  show jl_E l G m_Mo_run (0, 0) 144 [some (.ref 22), some (.int (nI k)), some (.int (xa)), some (.int (xb)), some (.int (nI n)), some (.int (bi gd)), some (.int (nI m)), some (.int (xb)), some (.int (nI 2)), some (.int (nI 1))] [.int (nI 2), .int (nI 2)] ((σ.set (47) (.inl (0, 78, .inl (upd (lk) (6 * 0 + 1) (nI (0)))))).set (46) (.inl (0, 78, .inl (upd (lw) (6 * 0 + 1) (xa))))) P
  refine er_icmp_gt 222 d_Mo_run_144 (by decide) (fun z => absurd z (by decide)) (fun _ => ?_)
  refine er_iload d_Mo_run_147 rfl ?_
  refine er_iconst ((nI (1))) d_Mo_run_149 (by decide) ?_
  refine er_icmp_ne 163 d_Mo_run_150 (by decide) (fun _ => ?_) (fun z => absurd z (by decide))
  refine er_aload_n d_Mo_run_163 rfl ?_
  refine er_getf d_Mo_run_164 f_Mo_run_29 (jl_sn (by decide) (jl_sn (by decide) hO)) rfl ?_
  refine er_iload d_Mo_run_167 rfl ?_
  refine er_ialdQ (v := (nI (t2v))) d_Mo_run_169 (jl_sn (by decide) (jl_sn (by decide) h29)) (by omega) (by omega) (congrArg en e2) ?_
  refine er_if_ne 177 d_Mo_run_170 (by decide) (fun _ => ?_) (fun z => absurd z (fun z => by rw [← nI_0, nI_eq (by omega) (by omega)] at z; omega))
  refine er_iconst ((nI (0))) d_Mo_run_177 (by decide) ?_
  refine er_istore d_Mo_run_178 (by decide) ?_
  show jl_E l G m_Mo_run (0, 0) 180 [some (.ref 22), some (.int (nI k)), some (.int (xa)), some (.int (xb)), some (.int (nI n)), some (.int (bi gd)), some (.int (nI m)), some (.int (xb)), some (.int (nI 2)), some (.int (nI 0))] [] ((σ.set (47) (.inl (0, 78, .inl (upd (lk) (6 * 0 + 1) (nI (0)))))).set (46) (.inl (0, 78, .inl (upd (lw) (6 * 0 + 1) (xa))))) P
  refine er_aload_n d_Mo_run_180 rfl ?_
  refine er_iconst ((nI (0))) d_Mo_run_181 (by decide) ?_
  refine er_iload d_Mo_run_182 rfl ?_
  refine er_iload d_Mo_run_184 rfl ?_
  refine er_if_eq 193 d_Mo_run_186 (by decide) (fun _ => ?_) (fun z => absurd (by decide) z)
  refine er_iconst ((nI (1))) d_Mo_run_193 (by decide) ?_
  refine er_iload d_Mo_run_194 rfl ?_
  refine er_if_eq 204 d_Mo_run_196 (by decide) (fun _ => ?_) (fun z => absurd (by decide) z)
  refine er_iconst ((-1)) d_Mo_run_204 (by decide) ?_
  refine er_callV (As := [.int (nI 0), .int (nI 2), .int (nI 1), .int (-1)]) d_Mo_run_205 k_Mo_run_254 (jl_sn (by decide) (jl_sn (by decide) hO)) rfl rfl rfl (Nat.le_of_ble_eq_true rfl) (by decide) (by decide) (mo_mlocal (f := 0) (k := 2) (a := (nI (1))) (b := (-1)) hl (jl_sn (by decide) (jl_sn (by decide) hO)) (jl_ss (jl_sn (by decide) f4)) (jl_sn (by decide) (jl_ss f5)) (by decide) (by decide)) ?_
  show jl_E l G m_Mo_run (0, 0) 208 [some (.ref 22), some (.int (nI k)), some (.int (xa)), some (.int (xb)), some (.int (nI n)), some (.int (bi gd)), some (.int (nI m)), some (.int (xb)), some (.int (nI 2)), some (.int (nI 0))] [] ((((σ.set (47) (.inl (0, 78, .inl (upd (lk) (6 * 0 + 1) (nI (0)))))).set (46) (.inl (0, 78, .inl (upd (lw) (6 * 0 + 1) (xa))))).set (47) (.inl (0, 78, .inl (upd (upd (lk) (6 * 0 + 1) (nI (0))) (6 * 0 + 2) (nI (1)))))).set (46) (.inl (0, 78, .inl (upd (upd (lw) (6 * 0 + 1) (xa)) (6 * 0 + 2) (-1))))) P
  refine er_iload d_Mo_run_208 rfl ?_
  refine er_if_eq 216 d_Mo_run_210 (by decide) (fun _ => ?_) (fun z => absurd (by decide) z)
  refine er_iinc ((nI (3))) d_Mo_run_216 (by decide) rfl (jl_inc 2) ?_
  show jl_E l G m_Mo_run (0, 0) 219 [some (.ref 22), some (.int (nI k)), some (.int (xa)), some (.int (xb)), some (.int (nI n)), some (.int (bi gd)), some (.int (nI m)), some (.int (xb)), some (.int (nI 3)), some (.int (nI 0))] [] ((((σ.set (47) (.inl (0, 78, .inl (upd (lk) (6 * 0 + 1) (nI (0)))))).set (46) (.inl (0, 78, .inl (upd (lw) (6 * 0 + 1) (xa))))).set (47) (.inl (0, 78, .inl (upd (upd (lk) (6 * 0 + 1) (nI (0))) (6 * 0 + 2) (nI (1)))))).set (46) (.inl (0, 78, .inl (upd (upd (lw) (6 * 0 + 1) (xa)) (6 * 0 + 2) (-1))))) P
  refine er_goto 136 d_Mo_run_219 (by decide) ?_
  refine er_iload d_Mo_run_136 rfl ?_
  refine er_aload_n d_Mo_run_138 rfl ?_
  refine er_iload d_Mo_run_139 rfl ?_
  refine er_callV (As := [.int (nI m)]) d_Mo_run_141 k_Mo_run_161 (jl_sn (by decide) (jl_sn (by decide) (jl_sn (by decide) (jl_sn (by decide) hO)))) rfl rfl rfl (Nat.le_of_ble_eq_true rfl) (by decide) (by decide) (mo_params hl (jl_sn (by decide) (jl_sn (by decide) (jl_sn (by decide) (jl_sn (by decide) hO)))) (MoW.sx (MoW.sx (MoW.sx (MoW.sx hw (Or.inr (by decide))) (Or.inr (by decide))) (Or.inr (by decide))) (Or.inr (by decide))) (MoM.sx (MoM.sx (MoM.sx (MoM.sx hu (Or.inr (by decide))) (Or.inr (by decide))) (Or.inr (by decide))) (Or.inr (by decide))) hm24 e1 e2 ho1 ho2) ?_
  show jl_E l G m_Mo_run (0, 0) 144 [some (.ref 22), some (.int (nI k)), some (.int (xa)), some (.int (xb)), some (.int (nI n)), some (.int (bi gd)), some (.int (nI m)), some (.int (xb)), some (.int (nI 3)), some (.int (nI 0))] [.int (nI 2), .int (nI 3)] ((((σ.set (47) (.inl (0, 78, .inl (upd (lk) (6 * 0 + 1) (nI (0)))))).set (46) (.inl (0, 78, .inl (upd (lw) (6 * 0 + 1) (xa))))).set (47) (.inl (0, 78, .inl (upd (upd (lk) (6 * 0 + 1) (nI (0))) (6 * 0 + 2) (nI (1)))))).set (46) (.inl (0, 78, .inl (upd (upd (lw) (6 * 0 + 1) (xa)) (6 * 0 + 2) (-1))))) P
  refine er_icmp_gt 222 d_Mo_run_144 (by decide) (fun _ => ?_) (fun z => absurd (by decide) z)
  refine er_iload d_Mo_run_222 rfl ?_
  refine er_istore d_Mo_run_224 (by decide) ?_
  show jl_E l G m_Mo_run (0, 0) 226 [some (.ref 22), some (.int (nI k)), some (.int (xa)), some (.int (xb)), some (.int (nI n)), some (.int (bi gd)), some (.int (nI m)), some (.int (xb)), some (.int (nI n)), some (.int (nI 0))] [] ((((σ.set (47) (.inl (0, 78, .inl (upd (lk) (6 * 0 + 1) (nI (0)))))).set (46) (.inl (0, 78, .inl (upd (lw) (6 * 0 + 1) (xa))))).set (47) (.inl (0, 78, .inl (upd (upd (lk) (6 * 0 + 1) (nI (0))) (6 * 0 + 2) (nI (1)))))).set (46) (.inl (0, 78, .inl (upd (upd (lw) (6 * 0 + 1) (xa)) (6 * 0 + 2) (-1))))) P
  exact er_weak (ls' := [some (.ref 22), some (.int (nI k)), some (.int (xa)), some (.int (xb)), some (.int (nI n)), some (.int (bi gd)), some (.int (nI m)), none, some (.int (nI n)), none]) (fun q v hv => by match q, hv with | 0, hv => exact hv | 1, hv => exact hv | 2, hv => exact hv | 3, hv => exact hv | 4, hv => exact hv | 5, hv => exact hv | 6, hv => exact hv | 7, hv => cases hv | 8, hv => exact hv | 9, hv => cases hv | q + 10, hv => cases hv) (hT _ ⟨_, _, _, _, _, _, _, _, _, _, _, _, (jl_sn (by decide) (jl_sn (by decide) (jl_sn (by decide) (jl_sn (by decide) hO)))), (jl_sn (by decide) (jl_sn (by decide) (jl_sn (by decide) (jl_sn (by decide) f1)))), (jl_sn (by decide) (jl_sn (by decide) (jl_sn (by decide) (jl_sn (by decide) f2)))), (jl_sn (by decide) (jl_sn (by decide) (jl_sn (by decide) (jl_sn (by decide) f3)))), (jl_ss (jl_sn (by decide) (jl_ss (jl_sn (by decide) f4)))), (jl_sn (by decide) (jl_ss (jl_sn (by decide) (jl_ss f5)))), (jl_sn (by decide) (jl_sn (by decide) (jl_sn (by decide) (jl_sn (by decide) f6)))), (jl_sn (by decide) (jl_sn (by decide) (jl_sn (by decide) (jl_sn (by decide) f7)))), ⟨(jl_sn (by decide) (jl_sn (by decide) (jl_sn (by decide) (jl_sn (by decide) k1)))), (jl_sn (by decide) (jl_sn (by decide) (jl_sn (by decide) (jl_sn (by decide) k2)))), (jl_sn (by decide) (jl_sn (by decide) (jl_sn (by decide) (jl_sn (by decide) k3))))⟩, hB, ((((hy1).locA (k := 1) (y := some 0) (v := (xa)) (by decide) rfl)).locA (k := 2) (y := some 2) (v := (-1)) (by decide) rfl), ⟨⟨(jl_sn (by decide) (jl_sn (by decide) (jl_sn (by decide) (jl_sn (by decide) r1)))), (jl_sn (by decide) (jl_sn (by decide) (jl_sn (by decide) (jl_sn (by decide) r2))))⟩, hlo, hsk⟩, ((((hF.set (by omega)).set (by omega)).set (by omega)).set (by omega))⟩)
theorem mo_rp_2ri (hl : l.stackTraces = false) {P : jl_O → jl_S → Prop}  (hn : NB σ0 σ 0 0 m 0 0 (R) (V) [] (H) fa vf wh wy hg ov oh dn an) (hw : MoW σ tb pr ow ft hs) (hu : MoM σ u1 u2 ur ul uo ua uc us ut uk) (hm24 : m < 24) (e1 : u1 m = some t1v) (e2 : u2 m = some 0) (ho1 : ob 16 (some t1v)) (ho2 : ob 16 (some 0)) (h1 : t1v ≠ 0) (h1b : t1v < 16) (hT : ∀ σ', NB σ0 σ' 0 0 m 0 0 (va_up (va_up (R) 1 (some 2)) 2 (some 0)) (va_up (va_up (V) 1 (-1)) 2 (xa)) [] (H) fa vf wh wy hg ov oh dn an → jl_E l G m_Mo_run (0, 0) 226 [some (.ref 22), some (.int (nI k)), some (.int (xa)), some (.int (xb)), some (.int (nI n)), some (.int (bi gd)), some (.int (nI m)), none, some (.int (nI n)), none] [] σ' P) : jl_E l G m_Mo_run (0, 0) 136 [some (.ref 22), some (.int (nI k)), some (.int (xa)), some (.int (xb)), some (.int (nI n)), some (.int (bi gd)), some (.int (nI m)), some (.int (xa)), some (.int (nI 1)), none] [] σ P := by
  obtain ⟨fx, fp, fh, lw, lk, vl, vk, ks, kc, kv, lo, sk, hO, f1, f2, f3, f4, f5, f6, f7, hH, hB, hy1, hR1, hF⟩ := id hn
  obtain ⟨k1, k2, k3⟩ := id hH
  obtain ⟨⟨r1, r2⟩, hlo, hsk⟩ := id hR1
  obtain ⟨h23, h24, h25, h26, h27⟩ := id hw
  obtain ⟨h28, h29, h30, h31, h32, h33, h34, h35, h36, h37⟩ := id hu
  refine er_iload d_Mo_run_136 rfl ?_
  refine er_aload_n d_Mo_run_138 rfl ?_
  refine er_iload d_Mo_run_139 rfl ?_
  refine er_callV (As := [.int (nI m)]) d_Mo_run_141 k_Mo_run_161 hO rfl rfl rfl (Nat.le_of_ble_eq_true rfl) (by decide) (by decide) (mo_params hl hO hw hu hm24 e1 e2 ho1 ho2) ?_
  show jl_E l G m_Mo_run (0, 0) 144 [some (.ref 22), some (.int (nI k)), some (.int (xa)), some (.int (xb)), some (.int (nI n)), some (.int (bi gd)), some (.int (nI m)), some (.int (xa)), some (.int (nI 1)), none] [.int (nI 2), .int (nI 1)] (σ) P
  refine er_icmp_gt 222 d_Mo_run_144 (by decide) (fun z => absurd z (by decide)) (fun _ => ?_)
  refine er_iload d_Mo_run_147 rfl ?_
  refine er_iconst ((nI (1))) d_Mo_run_149 (by decide) ?_
  refine er_icmp_ne 163 d_Mo_run_150 (by decide) (fun z => absurd rfl z) (fun _ => ?_)
  refine er_aload_n d_Mo_run_153 rfl ?_
  refine er_getf d_Mo_run_154 f_Mo_run_26 hO rfl ?_
  refine er_iload d_Mo_run_157 rfl ?_
  refine er_ialdQ (v := (nI (t1v))) d_Mo_run_159 h28 (by omega) (by omega) (congrArg en e1) ?_
  refine er_goto 170 d_Mo_run_160 (by decide) ?_
  refine er_if_ne 177 d_Mo_run_170 (by decide) (fun _ => ?_) (fun z => absurd z (fun z => by rw [← nI_0, nI_eq (by omega) (by omega)] at z; omega))
  refine er_iconst ((nI (0))) d_Mo_run_177 (by decide) ?_
  refine er_istore d_Mo_run_178 (by decide) ?_
  show jl_E l G m_Mo_run (0, 0) 180 [some (.ref 22), some (.int (nI k)), some (.int (xa)), some (.int (xb)), some (.int (nI n)), some (.int (bi gd)), some (.int (nI m)), some (.int (xa)), some (.int (nI 1)), some (.int (nI 0))] [] (σ) P
  refine er_aload_n d_Mo_run_180 rfl ?_
  refine er_iconst ((nI (0))) d_Mo_run_181 (by decide) ?_
  refine er_iload d_Mo_run_182 rfl ?_
  refine er_iload d_Mo_run_184 rfl ?_
  refine er_if_eq 193 d_Mo_run_186 (by decide) (fun _ => ?_) (fun z => absurd (by decide) z)
  refine er_iconst ((nI (1))) d_Mo_run_193 (by decide) ?_
  refine er_iload d_Mo_run_194 rfl ?_
  refine er_if_eq 204 d_Mo_run_196 (by decide) (fun _ => ?_) (fun z => absurd (by decide) z)
  refine er_iconst ((-1)) d_Mo_run_204 (by decide) ?_
  refine er_callV (As := [.int (nI 0), .int (nI 1), .int (nI 1), .int (-1)]) d_Mo_run_205 k_Mo_run_254 hO rfl rfl rfl (Nat.le_of_ble_eq_true rfl) (by decide) (by decide) (mo_mlocal (f := 0) (k := 1) (a := (nI (1))) (b := (-1)) hl hO f4 f5 (by decide) (by decide)) ?_
  show jl_E l G m_Mo_run (0, 0) 208 [some (.ref 22), some (.int (nI k)), some (.int (xa)), some (.int (xb)), some (.int (nI n)), some (.int (bi gd)), some (.int (nI m)), some (.int (xa)), some (.int (nI 1)), some (.int (nI 0))] [] ((σ.set (47) (.inl (0, 78, .inl (upd (lk) (6 * 0 + 1) (nI (1)))))).set (46) (.inl (0, 78, .inl (upd (lw) (6 * 0 + 1) (-1))))) P
  refine er_iload d_Mo_run_208 rfl ?_
  refine er_if_eq 216 d_Mo_run_210 (by decide) (fun _ => ?_) (fun z => absurd (by decide) z)
  refine er_iinc ((nI (2))) d_Mo_run_216 (by decide) rfl (jl_inc 1) ?_
  show jl_E l G m_Mo_run (0, 0) 219 [some (.ref 22), some (.int (nI k)), some (.int (xa)), some (.int (xb)), some (.int (nI n)), some (.int (bi gd)), some (.int (nI m)), some (.int (xa)), some (.int (nI 2)), some (.int (nI 0))] [] ((σ.set (47) (.inl (0, 78, .inl (upd (lk) (6 * 0 + 1) (nI (1)))))).set (46) (.inl (0, 78, .inl (upd (lw) (6 * 0 + 1) (-1))))) P
  refine er_goto 136 d_Mo_run_219 (by decide) ?_
  refine er_iload d_Mo_run_136 rfl ?_
  refine er_aload_n d_Mo_run_138 rfl ?_
  refine er_iload d_Mo_run_139 rfl ?_
  refine er_callV (As := [.int (nI m)]) d_Mo_run_141 k_Mo_run_161 (jl_sn (by decide) (jl_sn (by decide) hO)) rfl rfl rfl (Nat.le_of_ble_eq_true rfl) (by decide) (by decide) (mo_params hl (jl_sn (by decide) (jl_sn (by decide) hO)) (MoW.sx (MoW.sx hw (Or.inr (by decide))) (Or.inr (by decide))) (MoM.sx (MoM.sx hu (Or.inr (by decide))) (Or.inr (by decide))) hm24 e1 e2 ho1 ho2) ?_
  show jl_E l G m_Mo_run (0, 0) 144 [some (.ref 22), some (.int (nI k)), some (.int (xa)), some (.int (xb)), some (.int (nI n)), some (.int (bi gd)), some (.int (nI m)), some (.int (xa)), some (.int (nI 2)), some (.int (nI 0))] [.int (nI 2), .int (nI 2)] ((σ.set (47) (.inl (0, 78, .inl (upd (lk) (6 * 0 + 1) (nI (1)))))).set (46) (.inl (0, 78, .inl (upd (lw) (6 * 0 + 1) (-1))))) P
  refine er_icmp_gt 222 d_Mo_run_144 (by decide) (fun z => absurd z (by decide)) (fun _ => ?_)
  refine er_iload d_Mo_run_147 rfl ?_
  refine er_iconst ((nI (1))) d_Mo_run_149 (by decide) ?_
  refine er_icmp_ne 163 d_Mo_run_150 (by decide) (fun _ => ?_) (fun z => absurd z (by decide))
  refine er_aload_n d_Mo_run_163 rfl ?_
  refine er_getf d_Mo_run_164 f_Mo_run_29 (jl_sn (by decide) (jl_sn (by decide) hO)) rfl ?_
  refine er_iload d_Mo_run_167 rfl ?_
  refine er_ialdQ (v := (nI (0))) d_Mo_run_169 (jl_sn (by decide) (jl_sn (by decide) h29)) (by omega) (by omega) (congrArg en e2) ?_
  refine er_if_ne 177 d_Mo_run_170 (by decide) (fun z => absurd rfl z) (fun _ => ?_)
  refine er_iconst ((nI (1))) d_Mo_run_173 (by decide) ?_
  refine er_goto 178 d_Mo_run_174 (by decide) ?_
  refine er_istore d_Mo_run_178 (by decide) ?_
  show jl_E l G m_Mo_run (0, 0) 180 [some (.ref 22), some (.int (nI k)), some (.int (xa)), some (.int (xb)), some (.int (nI n)), some (.int (bi gd)), some (.int (nI m)), some (.int (xa)), some (.int (nI 2)), some (.int (nI 1))] [] ((σ.set (47) (.inl (0, 78, .inl (upd (lk) (6 * 0 + 1) (nI (1)))))).set (46) (.inl (0, 78, .inl (upd (lw) (6 * 0 + 1) (-1))))) P
  refine er_aload_n d_Mo_run_180 rfl ?_
  refine er_iconst ((nI (0))) d_Mo_run_181 (by decide) ?_
  refine er_iload d_Mo_run_182 rfl ?_
  refine er_iload d_Mo_run_184 rfl ?_
  refine er_if_eq 193 d_Mo_run_186 (by decide) (fun z => absurd z (by decide)) (fun _ => ?_)
  refine er_iconst ((nI (0))) d_Mo_run_189 (by decide) ?_
  refine er_goto 194 d_Mo_run_190 (by decide) ?_
  refine er_iload d_Mo_run_194 rfl ?_
  refine er_if_eq 204 d_Mo_run_196 (by decide) (fun z => absurd z (by decide)) (fun _ => ?_)
  refine er_iload d_Mo_run_199 rfl ?_
  refine er_goto 205 d_Mo_run_201 (by decide) ?_
  refine er_callV (As := [.int (nI 0), .int (nI 2), .int (nI 0), .int (xa)]) d_Mo_run_205 k_Mo_run_254 (jl_sn (by decide) (jl_sn (by decide) hO)) rfl rfl rfl (Nat.le_of_ble_eq_true rfl) (by decide) (by decide) (mo_mlocal (f := 0) (k := 2) (a := (nI (0))) (b := (xa)) hl (jl_sn (by decide) (jl_sn (by decide) hO)) (jl_ss (jl_sn (by decide) f4)) (jl_sn (by decide) (jl_ss f5)) (by decide) (by decide)) ?_
  show jl_E l G m_Mo_run (0, 0) 208 [some (.ref 22), some (.int (nI k)), some (.int (xa)), some (.int (xb)), some (.int (nI n)), some (.int (bi gd)), some (.int (nI m)), some (.int (xa)), some (.int (nI 2)), some (.int (nI 1))] [] ((((σ.set (47) (.inl (0, 78, .inl (upd (lk) (6 * 0 + 1) (nI (1)))))).set (46) (.inl (0, 78, .inl (upd (lw) (6 * 0 + 1) (-1))))).set (47) (.inl (0, 78, .inl (upd (upd (lk) (6 * 0 + 1) (nI (1))) (6 * 0 + 2) (nI (0)))))).set (46) (.inl (0, 78, .inl (upd (upd (lw) (6 * 0 + 1) (-1)) (6 * 0 + 2) (xa))))) P
  refine er_iload d_Mo_run_208 rfl ?_
  refine er_if_eq 216 d_Mo_run_210 (by decide) (fun z => absurd z (by decide)) (fun _ => ?_)
  refine er_iload_n d_Mo_run_213 rfl ?_
  refine er_istore d_Mo_run_214 (by decide) ?_
  show jl_E l G m_Mo_run (0, 0) 216 [some (.ref 22), some (.int (nI k)), some (.int (xa)), some (.int (xb)), some (.int (nI n)), some (.int (bi gd)), some (.int (nI m)), some (.int (xb)), some (.int (nI 2)), some (.int (nI 1))] [] ((((σ.set (47) (.inl (0, 78, .inl (upd (lk) (6 * 0 + 1) (nI (1)))))).set (46) (.inl (0, 78, .inl (upd (lw) (6 * 0 + 1) (-1))))).set (47) (.inl (0, 78, .inl (upd (upd (lk) (6 * 0 + 1) (nI (1))) (6 * 0 + 2) (nI (0)))))).set (46) (.inl (0, 78, .inl (upd (upd (lw) (6 * 0 + 1) (-1)) (6 * 0 + 2) (xa))))) P
  refine er_iinc ((nI (3))) d_Mo_run_216 (by decide) rfl (jl_inc 2) ?_
  show jl_E l G m_Mo_run (0, 0) 219 [some (.ref 22), some (.int (nI k)), some (.int (xa)), some (.int (xb)), some (.int (nI n)), some (.int (bi gd)), some (.int (nI m)), some (.int (xb)), some (.int (nI 3)), some (.int (nI 1))] [] ((((σ.set (47) (.inl (0, 78, .inl (upd (lk) (6 * 0 + 1) (nI (1)))))).set (46) (.inl (0, 78, .inl (upd (lw) (6 * 0 + 1) (-1))))).set (47) (.inl (0, 78, .inl (upd (upd (lk) (6 * 0 + 1) (nI (1))) (6 * 0 + 2) (nI (0)))))).set (46) (.inl (0, 78, .inl (upd (upd (lw) (6 * 0 + 1) (-1)) (6 * 0 + 2) (xa))))) P
  refine er_goto 136 d_Mo_run_219 (by decide) ?_
  refine er_iload d_Mo_run_136 rfl ?_
  refine er_aload_n d_Mo_run_138 rfl ?_
  refine er_iload d_Mo_run_139 rfl ?_
  refine er_callV (As := [.int (nI m)]) d_Mo_run_141 k_Mo_run_161 (jl_sn (by decide) (jl_sn (by decide) (jl_sn (by decide) (jl_sn (by decide) hO)))) rfl rfl rfl (Nat.le_of_ble_eq_true rfl) (by decide) (by decide) (mo_params hl (jl_sn (by decide) (jl_sn (by decide) (jl_sn (by decide) (jl_sn (by decide) hO)))) (MoW.sx (MoW.sx (MoW.sx (MoW.sx hw (Or.inr (by decide))) (Or.inr (by decide))) (Or.inr (by decide))) (Or.inr (by decide))) (MoM.sx (MoM.sx (MoM.sx (MoM.sx hu (Or.inr (by decide))) (Or.inr (by decide))) (Or.inr (by decide))) (Or.inr (by decide))) hm24 e1 e2 ho1 ho2) ?_
  show jl_E l G m_Mo_run (0, 0) 144 [some (.ref 22), some (.int (nI k)), some (.int (xa)), some (.int (xb)), some (.int (nI n)), some (.int (bi gd)), some (.int (nI m)), some (.int (xb)), some (.int (nI 3)), some (.int (nI 1))] [.int (nI 2), .int (nI 3)] ((((σ.set (47) (.inl (0, 78, .inl (upd (lk) (6 * 0 + 1) (nI (1)))))).set (46) (.inl (0, 78, .inl (upd (lw) (6 * 0 + 1) (-1))))).set (47) (.inl (0, 78, .inl (upd (upd (lk) (6 * 0 + 1) (nI (1))) (6 * 0 + 2) (nI (0)))))).set (46) (.inl (0, 78, .inl (upd (upd (lw) (6 * 0 + 1) (-1)) (6 * 0 + 2) (xa))))) P
  refine er_icmp_gt 222 d_Mo_run_144 (by decide) (fun _ => ?_) (fun z => absurd (by decide) z)
  refine er_iload d_Mo_run_222 rfl ?_
  refine er_istore d_Mo_run_224 (by decide) ?_
  show jl_E l G m_Mo_run (0, 0) 226 [some (.ref 22), some (.int (nI k)), some (.int (xa)), some (.int (xb)), some (.int (nI n)), some (.int (bi gd)), some (.int (nI m)), some (.int (xb)), some (.int (nI n)), some (.int (nI 1))] [] ((((σ.set (47) (.inl (0, 78, .inl (upd (lk) (6 * 0 + 1) (nI (1)))))).set (46) (.inl (0, 78, .inl (upd (lw) (6 * 0 + 1) (-1))))).set (47) (.inl (0, 78, .inl (upd (upd (lk) (6 * 0 + 1) (nI (1))) (6 * 0 + 2) (nI (0)))))).set (46) (.inl (0, 78, .inl (upd (upd (lw) (6 * 0 + 1) (-1)) (6 * 0 + 2) (xa))))) P
  exact er_weak (ls' := [some (.ref 22), some (.int (nI k)), some (.int (xa)), some (.int (xb)), some (.int (nI n)), some (.int (bi gd)), some (.int (nI m)), none, some (.int (nI n)), none]) (fun q v hv => by match q, hv with | 0, hv => exact hv | 1, hv => exact hv | 2, hv => exact hv | 3, hv => exact hv | 4, hv => exact hv | 5, hv => exact hv | 6, hv => exact hv | 7, hv => cases hv | 8, hv => exact hv | 9, hv => cases hv | q + 10, hv => cases hv) (hT _ ⟨_, _, _, _, _, _, _, _, _, _, _, _, (jl_sn (by decide) (jl_sn (by decide) (jl_sn (by decide) (jl_sn (by decide) hO)))), (jl_sn (by decide) (jl_sn (by decide) (jl_sn (by decide) (jl_sn (by decide) f1)))), (jl_sn (by decide) (jl_sn (by decide) (jl_sn (by decide) (jl_sn (by decide) f2)))), (jl_sn (by decide) (jl_sn (by decide) (jl_sn (by decide) (jl_sn (by decide) f3)))), (jl_ss (jl_sn (by decide) (jl_ss (jl_sn (by decide) f4)))), (jl_sn (by decide) (jl_ss (jl_sn (by decide) (jl_ss f5)))), (jl_sn (by decide) (jl_sn (by decide) (jl_sn (by decide) (jl_sn (by decide) f6)))), (jl_sn (by decide) (jl_sn (by decide) (jl_sn (by decide) (jl_sn (by decide) f7)))), ⟨(jl_sn (by decide) (jl_sn (by decide) (jl_sn (by decide) (jl_sn (by decide) k1)))), (jl_sn (by decide) (jl_sn (by decide) (jl_sn (by decide) (jl_sn (by decide) k2)))), (jl_sn (by decide) (jl_sn (by decide) (jl_sn (by decide) (jl_sn (by decide) k3))))⟩, hB, ((((hy1).locA (k := 1) (y := some 2) (v := (-1)) (by decide) rfl)).locA (k := 2) (y := some 0) (v := (xa)) (by decide) rfl), ⟨⟨(jl_sn (by decide) (jl_sn (by decide) (jl_sn (by decide) (jl_sn (by decide) r1)))), (jl_sn (by decide) (jl_sn (by decide) (jl_sn (by decide) (jl_sn (by decide) r2))))⟩, hlo, hsk⟩, ((((hF.set (by omega)).set (by omega)).set (by omega)).set (by omega))⟩)
theorem mo_rp_2rr (hl : l.stackTraces = false) {P : jl_O → jl_S → Prop}  (hn : NB σ0 σ 0 0 m 0 0 (R) (V) [] (H) fa vf wh wy hg ov oh dn an) (hw : MoW σ tb pr ow ft hs) (hu : MoM σ u1 u2 ur ul uo ua uc us ut uk) (hm24 : m < 24) (e1 : u1 m = some t1v) (e2 : u2 m = some t2v) (ho1 : ob 16 (some t1v)) (ho2 : ob 16 (some t2v)) (h1 : t1v ≠ 0) (h1b : t1v < 16) (h2 : t2v ≠ 0) (h2b : t2v < 16) (hT : ∀ σ', NB σ0 σ' 0 0 m 0 0 (va_up (va_up (R) 1 (some 2)) 2 (some 2)) (va_up (va_up (V) 1 (-1)) 2 (-1)) [] (H) fa vf wh wy hg ov oh dn an → jl_E l G m_Mo_run (0, 0) 226 [some (.ref 22), some (.int (nI k)), some (.int (xa)), some (.int (xb)), some (.int (nI n)), some (.int (bi gd)), some (.int (nI m)), none, some (.int (nI n)), none] [] σ' P) : jl_E l G m_Mo_run (0, 0) 136 [some (.ref 22), some (.int (nI k)), some (.int (xa)), some (.int (xb)), some (.int (nI n)), some (.int (bi gd)), some (.int (nI m)), some (.int (xa)), some (.int (nI 1)), none] [] σ P := by
  obtain ⟨fx, fp, fh, lw, lk, vl, vk, ks, kc, kv, lo, sk, hO, f1, f2, f3, f4, f5, f6, f7, hH, hB, hy1, hR1, hF⟩ := id hn
  obtain ⟨k1, k2, k3⟩ := id hH
  obtain ⟨⟨r1, r2⟩, hlo, hsk⟩ := id hR1
  obtain ⟨h23, h24, h25, h26, h27⟩ := id hw
  obtain ⟨h28, h29, h30, h31, h32, h33, h34, h35, h36, h37⟩ := id hu
  refine er_iload d_Mo_run_136 rfl ?_
  refine er_aload_n d_Mo_run_138 rfl ?_
  refine er_iload d_Mo_run_139 rfl ?_
  refine er_callV (As := [.int (nI m)]) d_Mo_run_141 k_Mo_run_161 hO rfl rfl rfl (Nat.le_of_ble_eq_true rfl) (by decide) (by decide) (mo_params hl hO hw hu hm24 e1 e2 ho1 ho2) ?_
  show jl_E l G m_Mo_run (0, 0) 144 [some (.ref 22), some (.int (nI k)), some (.int (xa)), some (.int (xb)), some (.int (nI n)), some (.int (bi gd)), some (.int (nI m)), some (.int (xa)), some (.int (nI 1)), none] [.int (nI 2), .int (nI 1)] (σ) P
  refine er_icmp_gt 222 d_Mo_run_144 (by decide) (fun z => absurd z (by decide)) (fun _ => ?_)
  refine er_iload d_Mo_run_147 rfl ?_
  refine er_iconst ((nI (1))) d_Mo_run_149 (by decide) ?_
  refine er_icmp_ne 163 d_Mo_run_150 (by decide) (fun z => absurd rfl z) (fun _ => ?_)
  refine er_aload_n d_Mo_run_153 rfl ?_
  refine er_getf d_Mo_run_154 f_Mo_run_26 hO rfl ?_
  refine er_iload d_Mo_run_157 rfl ?_
  refine er_ialdQ (v := (nI (t1v))) d_Mo_run_159 h28 (by omega) (by omega) (congrArg en e1) ?_
  refine er_goto 170 d_Mo_run_160 (by decide) ?_
  refine er_if_ne 177 d_Mo_run_170 (by decide) (fun _ => ?_) (fun z => absurd z (fun z => by rw [← nI_0, nI_eq (by omega) (by omega)] at z; omega))
  refine er_iconst ((nI (0))) d_Mo_run_177 (by decide) ?_
  refine er_istore d_Mo_run_178 (by decide) ?_
  show jl_E l G m_Mo_run (0, 0) 180 [some (.ref 22), some (.int (nI k)), some (.int (xa)), some (.int (xb)), some (.int (nI n)), some (.int (bi gd)), some (.int (nI m)), some (.int (xa)), some (.int (nI 1)), some (.int (nI 0))] [] (σ) P
  refine er_aload_n d_Mo_run_180 rfl ?_
  refine er_iconst ((nI (0))) d_Mo_run_181 (by decide) ?_
  refine er_iload d_Mo_run_182 rfl ?_
  refine er_iload d_Mo_run_184 rfl ?_
  refine er_if_eq 193 d_Mo_run_186 (by decide) (fun _ => ?_) (fun z => absurd (by decide) z)
  refine er_iconst ((nI (1))) d_Mo_run_193 (by decide) ?_
  refine er_iload d_Mo_run_194 rfl ?_
  refine er_if_eq 204 d_Mo_run_196 (by decide) (fun _ => ?_) (fun z => absurd (by decide) z)
  refine er_iconst ((-1)) d_Mo_run_204 (by decide) ?_
  refine er_callV (As := [.int (nI 0), .int (nI 1), .int (nI 1), .int (-1)]) d_Mo_run_205 k_Mo_run_254 hO rfl rfl rfl (Nat.le_of_ble_eq_true rfl) (by decide) (by decide) (mo_mlocal (f := 0) (k := 1) (a := (nI (1))) (b := (-1)) hl hO f4 f5 (by decide) (by decide)) ?_
  show jl_E l G m_Mo_run (0, 0) 208 [some (.ref 22), some (.int (nI k)), some (.int (xa)), some (.int (xb)), some (.int (nI n)), some (.int (bi gd)), some (.int (nI m)), some (.int (xa)), some (.int (nI 1)), some (.int (nI 0))] [] ((σ.set (47) (.inl (0, 78, .inl (upd (lk) (6 * 0 + 1) (nI (1)))))).set (46) (.inl (0, 78, .inl (upd (lw) (6 * 0 + 1) (-1))))) P
  refine er_iload d_Mo_run_208 rfl ?_
  refine er_if_eq 216 d_Mo_run_210 (by decide) (fun _ => ?_) (fun z => absurd (by decide) z)
  refine er_iinc ((nI (2))) d_Mo_run_216 (by decide) rfl (jl_inc 1) ?_
  show jl_E l G m_Mo_run (0, 0) 219 [some (.ref 22), some (.int (nI k)), some (.int (xa)), some (.int (xb)), some (.int (nI n)), some (.int (bi gd)), some (.int (nI m)), some (.int (xa)), some (.int (nI 2)), some (.int (nI 0))] [] ((σ.set (47) (.inl (0, 78, .inl (upd (lk) (6 * 0 + 1) (nI (1)))))).set (46) (.inl (0, 78, .inl (upd (lw) (6 * 0 + 1) (-1))))) P
  refine er_goto 136 d_Mo_run_219 (by decide) ?_
  refine er_iload d_Mo_run_136 rfl ?_
  refine er_aload_n d_Mo_run_138 rfl ?_
  refine er_iload d_Mo_run_139 rfl ?_
  refine er_callV (As := [.int (nI m)]) d_Mo_run_141 k_Mo_run_161 (jl_sn (by decide) (jl_sn (by decide) hO)) rfl rfl rfl (Nat.le_of_ble_eq_true rfl) (by decide) (by decide) (mo_params hl (jl_sn (by decide) (jl_sn (by decide) hO)) (MoW.sx (MoW.sx hw (Or.inr (by decide))) (Or.inr (by decide))) (MoM.sx (MoM.sx hu (Or.inr (by decide))) (Or.inr (by decide))) hm24 e1 e2 ho1 ho2) ?_
  show jl_E l G m_Mo_run (0, 0) 144 [some (.ref 22), some (.int (nI k)), some (.int (xa)), some (.int (xb)), some (.int (nI n)), some (.int (bi gd)), some (.int (nI m)), some (.int (xa)), some (.int (nI 2)), some (.int (nI 0))] [.int (nI 2), .int (nI 2)] ((σ.set (47) (.inl (0, 78, .inl (upd (lk) (6 * 0 + 1) (nI (1)))))).set (46) (.inl (0, 78, .inl (upd (lw) (6 * 0 + 1) (-1))))) P
  refine er_icmp_gt 222 d_Mo_run_144 (by decide) (fun z => absurd z (by decide)) (fun _ => ?_)
  refine er_iload d_Mo_run_147 rfl ?_
  refine er_iconst ((nI (1))) d_Mo_run_149 (by decide) ?_
  refine er_icmp_ne 163 d_Mo_run_150 (by decide) (fun _ => ?_) (fun z => absurd z (by decide))
  refine er_aload_n d_Mo_run_163 rfl ?_
  refine er_getf d_Mo_run_164 f_Mo_run_29 (jl_sn (by decide) (jl_sn (by decide) hO)) rfl ?_
  refine er_iload d_Mo_run_167 rfl ?_
  refine er_ialdQ (v := (nI (t2v))) d_Mo_run_169 (jl_sn (by decide) (jl_sn (by decide) h29)) (by omega) (by omega) (congrArg en e2) ?_
  refine er_if_ne 177 d_Mo_run_170 (by decide) (fun _ => ?_) (fun z => absurd z (fun z => by rw [← nI_0, nI_eq (by omega) (by omega)] at z; omega))
  refine er_iconst ((nI (0))) d_Mo_run_177 (by decide) ?_
  refine er_istore d_Mo_run_178 (by decide) ?_
  show jl_E l G m_Mo_run (0, 0) 180 [some (.ref 22), some (.int (nI k)), some (.int (xa)), some (.int (xb)), some (.int (nI n)), some (.int (bi gd)), some (.int (nI m)), some (.int (xa)), some (.int (nI 2)), some (.int (nI 0))] [] ((σ.set (47) (.inl (0, 78, .inl (upd (lk) (6 * 0 + 1) (nI (1)))))).set (46) (.inl (0, 78, .inl (upd (lw) (6 * 0 + 1) (-1))))) P
  refine er_aload_n d_Mo_run_180 rfl ?_
  refine er_iconst ((nI (0))) d_Mo_run_181 (by decide) ?_
  refine er_iload d_Mo_run_182 rfl ?_
  refine er_iload d_Mo_run_184 rfl ?_
  refine er_if_eq 193 d_Mo_run_186 (by decide) (fun _ => ?_) (fun z => absurd (by decide) z)
  refine er_iconst ((nI (1))) d_Mo_run_193 (by decide) ?_
  refine er_iload d_Mo_run_194 rfl ?_
  refine er_if_eq 204 d_Mo_run_196 (by decide) (fun _ => ?_) (fun z => absurd (by decide) z)
  refine er_iconst ((-1)) d_Mo_run_204 (by decide) ?_
  refine er_callV (As := [.int (nI 0), .int (nI 2), .int (nI 1), .int (-1)]) d_Mo_run_205 k_Mo_run_254 (jl_sn (by decide) (jl_sn (by decide) hO)) rfl rfl rfl (Nat.le_of_ble_eq_true rfl) (by decide) (by decide) (mo_mlocal (f := 0) (k := 2) (a := (nI (1))) (b := (-1)) hl (jl_sn (by decide) (jl_sn (by decide) hO)) (jl_ss (jl_sn (by decide) f4)) (jl_sn (by decide) (jl_ss f5)) (by decide) (by decide)) ?_
  show jl_E l G m_Mo_run (0, 0) 208 [some (.ref 22), some (.int (nI k)), some (.int (xa)), some (.int (xb)), some (.int (nI n)), some (.int (bi gd)), some (.int (nI m)), some (.int (xa)), some (.int (nI 2)), some (.int (nI 0))] [] ((((σ.set (47) (.inl (0, 78, .inl (upd (lk) (6 * 0 + 1) (nI (1)))))).set (46) (.inl (0, 78, .inl (upd (lw) (6 * 0 + 1) (-1))))).set (47) (.inl (0, 78, .inl (upd (upd (lk) (6 * 0 + 1) (nI (1))) (6 * 0 + 2) (nI (1)))))).set (46) (.inl (0, 78, .inl (upd (upd (lw) (6 * 0 + 1) (-1)) (6 * 0 + 2) (-1))))) P
  refine er_iload d_Mo_run_208 rfl ?_
  refine er_if_eq 216 d_Mo_run_210 (by decide) (fun _ => ?_) (fun z => absurd (by decide) z)
  refine er_iinc ((nI (3))) d_Mo_run_216 (by decide) rfl (jl_inc 2) ?_
  show jl_E l G m_Mo_run (0, 0) 219 [some (.ref 22), some (.int (nI k)), some (.int (xa)), some (.int (xb)), some (.int (nI n)), some (.int (bi gd)), some (.int (nI m)), some (.int (xa)), some (.int (nI 3)), some (.int (nI 0))] [] ((((σ.set (47) (.inl (0, 78, .inl (upd (lk) (6 * 0 + 1) (nI (1)))))).set (46) (.inl (0, 78, .inl (upd (lw) (6 * 0 + 1) (-1))))).set (47) (.inl (0, 78, .inl (upd (upd (lk) (6 * 0 + 1) (nI (1))) (6 * 0 + 2) (nI (1)))))).set (46) (.inl (0, 78, .inl (upd (upd (lw) (6 * 0 + 1) (-1)) (6 * 0 + 2) (-1))))) P
  refine er_goto 136 d_Mo_run_219 (by decide) ?_
  refine er_iload d_Mo_run_136 rfl ?_
  refine er_aload_n d_Mo_run_138 rfl ?_
  refine er_iload d_Mo_run_139 rfl ?_
  refine er_callV (As := [.int (nI m)]) d_Mo_run_141 k_Mo_run_161 (jl_sn (by decide) (jl_sn (by decide) (jl_sn (by decide) (jl_sn (by decide) hO)))) rfl rfl rfl (Nat.le_of_ble_eq_true rfl) (by decide) (by decide) (mo_params hl (jl_sn (by decide) (jl_sn (by decide) (jl_sn (by decide) (jl_sn (by decide) hO)))) (MoW.sx (MoW.sx (MoW.sx (MoW.sx hw (Or.inr (by decide))) (Or.inr (by decide))) (Or.inr (by decide))) (Or.inr (by decide))) (MoM.sx (MoM.sx (MoM.sx (MoM.sx hu (Or.inr (by decide))) (Or.inr (by decide))) (Or.inr (by decide))) (Or.inr (by decide))) hm24 e1 e2 ho1 ho2) ?_
  show jl_E l G m_Mo_run (0, 0) 144 [some (.ref 22), some (.int (nI k)), some (.int (xa)), some (.int (xb)), some (.int (nI n)), some (.int (bi gd)), some (.int (nI m)), some (.int (xa)), some (.int (nI 3)), some (.int (nI 0))] [.int (nI 2), .int (nI 3)] ((((σ.set (47) (.inl (0, 78, .inl (upd (lk) (6 * 0 + 1) (nI (1)))))).set (46) (.inl (0, 78, .inl (upd (lw) (6 * 0 + 1) (-1))))).set (47) (.inl (0, 78, .inl (upd (upd (lk) (6 * 0 + 1) (nI (1))) (6 * 0 + 2) (nI (1)))))).set (46) (.inl (0, 78, .inl (upd (upd (lw) (6 * 0 + 1) (-1)) (6 * 0 + 2) (-1))))) P
  refine er_icmp_gt 222 d_Mo_run_144 (by decide) (fun _ => ?_) (fun z => absurd (by decide) z)
  refine er_iload d_Mo_run_222 rfl ?_
  refine er_istore d_Mo_run_224 (by decide) ?_
  show jl_E l G m_Mo_run (0, 0) 226 [some (.ref 22), some (.int (nI k)), some (.int (xa)), some (.int (xb)), some (.int (nI n)), some (.int (bi gd)), some (.int (nI m)), some (.int (xa)), some (.int (nI n)), some (.int (nI 0))] [] ((((σ.set (47) (.inl (0, 78, .inl (upd (lk) (6 * 0 + 1) (nI (1)))))).set (46) (.inl (0, 78, .inl (upd (lw) (6 * 0 + 1) (-1))))).set (47) (.inl (0, 78, .inl (upd (upd (lk) (6 * 0 + 1) (nI (1))) (6 * 0 + 2) (nI (1)))))).set (46) (.inl (0, 78, .inl (upd (upd (lw) (6 * 0 + 1) (-1)) (6 * 0 + 2) (-1))))) P
  exact er_weak (ls' := [some (.ref 22), some (.int (nI k)), some (.int (xa)), some (.int (xb)), some (.int (nI n)), some (.int (bi gd)), some (.int (nI m)), none, some (.int (nI n)), none]) (fun q v hv => by match q, hv with | 0, hv => exact hv | 1, hv => exact hv | 2, hv => exact hv | 3, hv => exact hv | 4, hv => exact hv | 5, hv => exact hv | 6, hv => exact hv | 7, hv => cases hv | 8, hv => exact hv | 9, hv => cases hv | q + 10, hv => cases hv) (hT _ ⟨_, _, _, _, _, _, _, _, _, _, _, _, (jl_sn (by decide) (jl_sn (by decide) (jl_sn (by decide) (jl_sn (by decide) hO)))), (jl_sn (by decide) (jl_sn (by decide) (jl_sn (by decide) (jl_sn (by decide) f1)))), (jl_sn (by decide) (jl_sn (by decide) (jl_sn (by decide) (jl_sn (by decide) f2)))), (jl_sn (by decide) (jl_sn (by decide) (jl_sn (by decide) (jl_sn (by decide) f3)))), (jl_ss (jl_sn (by decide) (jl_ss (jl_sn (by decide) f4)))), (jl_sn (by decide) (jl_ss (jl_sn (by decide) (jl_ss f5)))), (jl_sn (by decide) (jl_sn (by decide) (jl_sn (by decide) (jl_sn (by decide) f6)))), (jl_sn (by decide) (jl_sn (by decide) (jl_sn (by decide) (jl_sn (by decide) f7)))), ⟨(jl_sn (by decide) (jl_sn (by decide) (jl_sn (by decide) (jl_sn (by decide) k1)))), (jl_sn (by decide) (jl_sn (by decide) (jl_sn (by decide) (jl_sn (by decide) k2)))), (jl_sn (by decide) (jl_sn (by decide) (jl_sn (by decide) (jl_sn (by decide) k3))))⟩, hB, ((((hy1).locA (k := 1) (y := some 2) (v := (-1)) (by decide) rfl)).locA (k := 2) (y := some 2) (v := (-1)) (by decide) rfl), ⟨⟨(jl_sn (by decide) (jl_sn (by decide) (jl_sn (by decide) (jl_sn (by decide) r1)))), (jl_sn (by decide) (jl_sn (by decide) (jl_sn (by decide) (jl_sn (by decide) r2))))⟩, hlo, hsk⟩, ((((hF.set (by omega)).set (by omega)).set (by omega)).set (by omega))⟩)
theorem mo_rp (hl : l.stackTraces = false) {P : jl_O → jl_S → Prop} (hn : NB σ0 σ 0 0 m 0 0 (bR0 k) (bV0) [] (H) fa vf wh wy hg ov oh dn an) (hw : MoW σ tb pr ow ft hs) (hu : MoM σ u1 u2 ur ul uo ua uc us ut uk) (hm24 : m < 24) (e1 : u1 m = q1) (e2 : u2 m = q2) (h1 : tyv q1) (h2 : tyv q2) (hpq : q1 = none → q2 = none) (hT : ∀ σ', NB σ0 σ' 0 0 m 0 0 (bgR k q1 q2) (bgV q1 q2 xa xb) [] (H) fa vf wh wy hg ov oh dn an → jl_E l G m_Mo_run (0, 0) 226 [some (.ref 22), some (.int (nI k)), some (.int (xa)), some (.int (xb)), some (.int (nI n)), some (.int (bi gd)), some (.int (nI m)), none, some (.int (nI n)), none] [] σ' P) : jl_E l G m_Mo_run (0, 0) 136 [some (.ref 22), some (.int (nI k)), some (.int (xa)), some (.int (xb)), some (.int (nI n)), some (.int (bi gd)), some (.int (nI m)), some (.int (xa)), some (.int (nI 1)), none] [] σ P := by
  rw [bgR_e, bgV_e] at hT
  cases q1 with
  | none =>
    have z := hpq rfl
    subst z
    exact mo_rp_0 hl hn hw hu hm24 e1 e2 h1.ob h2.ob (fun σ2 h => hT σ2 (h.cc (by show bR0 k = _; show _ = va_up (va_up (bR0 k) 1 none) 2 none; rw [bgR_2n, bgR_1n]) (by show bV0 = _; rw [if_neg (by decide), if_neg (by decide), bgV_2n, bgV_1n])))
  | some t1v =>
    cases q2 with
    | none =>
      by_cases z1 : t1v = 0
      · subst z1
        exact mo_rp_1i hl hn hw hu hm24 e1 e2 h1.ob h2.ob (fun σ2 h => hT σ2 (h.cc (by show va_up (bR0 k) 1 (some 0) = _; show _ = va_up (va_up (bR0 k) 1 (some 0)) 2 none; rw [bgR_2n]) (by show va_up bV0 1 xa = _; rw [if_pos rfl, if_neg (by decide), bgV_2n])))
      · exact mo_rp_1r hl hn hw hu hm24 e1 e2 h1.ob h2.ob z1 (h1 t1v rfl).1 (fun σ2 h => hT σ2 (h.cc (by show va_up (bR0 k) 1 (some 2) = va_up (va_up (bR0 k) 1 (some (if t1v = 0 then 0 else 2))) 2 none; rw [if_neg z1, bgR_2n]) (by show va_up bV0 1 (-1) = _; rw [if_neg (fun q => z1 (Option.some.inj q)), if_neg (by decide), bgV_2n])))
    | some t2v =>
      by_cases z1 : t1v = 0
      · subst z1
        by_cases z2 : t2v = 0
        · subst z2
          exact mo_rp_2ii hl hn hw hu hm24 e1 e2 h1.ob h2.ob (fun σ2 h => hT σ2 (h.cc rfl (by show va_up (va_up bV0 1 xa) 2 xb = _; rw [if_pos rfl, if_pos rfl, if_pos rfl])))
        · exact mo_rp_2ir hl hn hw hu hm24 e1 e2 h1.ob h2.ob z2 (h2 t2v rfl).1 (fun σ2 h => hT σ2 (h.cc (by show va_up (va_up (bR0 k) 1 (some 0)) 2 (some 2) = va_up (va_up (bR0 k) 1 (some 0)) 2 (some (if t2v = 0 then 0 else 2)); rw [if_neg z2]) (by show va_up (va_up bV0 1 xa) 2 (-1) = _; rw [if_pos rfl, if_neg (fun q => z2 (Option.some.inj q))])))
      · by_cases z2 : t2v = 0
        · subst z2
          exact mo_rp_2ri hl hn hw hu hm24 e1 e2 h1.ob h2.ob z1 (h1 t1v rfl).1 (fun σ2 h => hT σ2 (h.cc (by show va_up (va_up (bR0 k) 1 (some 2)) 2 (some 0) = va_up (va_up (bR0 k) 1 (some (if t1v = 0 then 0 else 2))) 2 (some 0); rw [if_neg z1]) (by show va_up (va_up bV0 1 (-1)) 2 xa = _; rw [if_neg (fun q => z1 (Option.some.inj q)), if_pos rfl, if_neg (fun q => z1 (Option.some.inj q))])))
        · exact mo_rp_2rr hl hn hw hu hm24 e1 e2 h1.ob h2.ob z1 (h1 t1v rfl).1 z2 (h2 t2v rfl).1 (fun σ2 h => hT σ2 (h.cc (by show va_up (va_up (bR0 k) 1 (some 2)) 2 (some 2) = va_up (va_up (bR0 k) 1 (some (if t1v = 0 then 0 else 2))) 2 (some (if t2v = 0 then 0 else 2)); rw [if_neg z1, if_neg z2]) (by show va_up (va_up bV0 1 (-1)) 2 (-1) = _; rw [if_neg (fun q => z1 (Option.some.inj q)), if_neg (fun q => z2 (Option.some.inj q))])))
theorem d_Mo_run_87 : decode m_Mo_run.2.1 87 = .ok (.aload_n 0, 1) := by decide +kernel
theorem d_Mo_run_88 : decode m_Mo_run.2.1 88 = .ok (.iconst 0, 1) := by decide +kernel
theorem p_Mo_run_224 : jl_fp m_Mo_run 224 7 32 = true := by decide +kernel
theorem d_Mo_run_89 : decode m_Mo_run.2.1 89 = .ok (.putfield 224, 3) := by decide +kernel
theorem d_Mo_run_92 : decode m_Mo_run.2.1 92 = .ok (.aload_n 0, 1) := by decide +kernel
theorem d_Mo_run_93 : decode m_Mo_run.2.1 93 = .ok (.iconst 0, 1) := by decide +kernel
theorem p_Mo_run_227 : jl_fp m_Mo_run 227 7 36 = true := by decide +kernel
theorem d_Mo_run_94 : decode m_Mo_run.2.1 94 = .ok (.putfield 227, 3) := by decide +kernel
theorem d_Mo_run_97 : decode m_Mo_run.2.1 97 = .ok (.aload_n 0, 1) := by decide +kernel
theorem d_Mo_run_98 : decode m_Mo_run.2.1 98 = .ok (.iconst 0, 1) := by decide +kernel
theorem p_Mo_run_270 : jl_fp m_Mo_run 270 7 39 = true := by decide +kernel
theorem d_Mo_run_99 : decode m_Mo_run.2.1 99 = .ok (.putfield 270, 3) := by decide +kernel
theorem d_Mo_run_102 : decode m_Mo_run.2.1 102 = .ok (.aload_n 0, 1) := by decide +kernel
theorem d_Mo_run_103 : decode m_Mo_run.2.1 103 = .ok (.iconst (-1), 1) := by decide +kernel
theorem p_Mo_run_108 : jl_fp m_Mo_run 108 7 37 = true := by decide +kernel
theorem d_Mo_run_104 : decode m_Mo_run.2.1 104 = .ok (.putfield 108, 3) := by decide +kernel
theorem d_Mo_run_107 : decode m_Mo_run.2.1 107 = .ok (.aload_n 0, 1) := by decide +kernel
theorem d_Mo_run_108 : decode m_Mo_run.2.1 108 = .ok (.iload 6, 2) := by decide +kernel
theorem k_Mo_run_251 : jl_cv m_Mo_run m_Mo_enter 251 1 = true := by decide +kernel
theorem d_Mo_run_110 : decode m_Mo_run.2.1 110 = .ok (.invokevirtual 251, 3) := by decide +kernel
theorem d_Mo_run_113 : decode m_Mo_run.2.1 113 = .ok (.aload_n 0, 1) := by decide +kernel
theorem d_Mo_run_114 : decode m_Mo_run.2.1 114 = .ok (.iconst 0, 1) := by decide +kernel
theorem d_Mo_run_115 : decode m_Mo_run.2.1 115 = .ok (.iconst 0, 1) := by decide +kernel
theorem d_Mo_run_116 : decode m_Mo_run.2.1 116 = .ok (.iconst 1, 1) := by decide +kernel
theorem d_Mo_run_117 : decode m_Mo_run.2.1 117 = .ok (.aload_n 0, 1) := by decide +kernel
theorem d_Mo_run_118 : decode m_Mo_run.2.1 118 = .ok (.iload_n 1, 1) := by decide +kernel
theorem d_Mo_run_119 : decode m_Mo_run.2.1 119 = .ok (.aload_n 0, 1) := by decide +kernel
theorem d_Mo_run_120 : decode m_Mo_run.2.1 120 = .ok (.iload_n 1, 1) := by decide +kernel
theorem k_Mo_run_126 : jl_cv m_Mo_run m_Mo_fieldsOf 126 1 = true := by decide +kernel
theorem d_Mo_run_121 : decode m_Mo_run.2.1 121 = .ok (.invokevirtual 126, 3) := by decide +kernel
theorem k_Mo_run_267 : jl_cv m_Mo_run m_Mo_make 267 2 = true := by decide +kernel
theorem d_Mo_run_124 : decode m_Mo_run.2.1 124 = .ok (.invokevirtual 267, 3) := by decide +kernel
theorem d_Mo_run_127 : decode m_Mo_run.2.1 127 = .ok (.invokevirtual 254, 3) := by decide +kernel
theorem d_Mo_run_130 : decode m_Mo_run.2.1 130 = .ok (.iload_n 2, 1) := by decide +kernel
theorem d_Mo_run_131 : decode m_Mo_run.2.1 131 = .ok (.istore 7, 2) := by decide +kernel
theorem d_Mo_run_133 : decode m_Mo_run.2.1 133 = .ok (.iconst 1, 1) := by decide +kernel
theorem d_Mo_run_134 : decode m_Mo_run.2.1 134 = .ok (.istore 8, 2) := by decide +kernel
theorem mo_run_87 (hl : l.stackTraces = false) {P : jl_O → jl_S → Prop}  (hq : NQ σ0 σ [] H fa vf wh wy hg ov oh dn an) (hw0 : MoW σ0 tb pr ow ft hs) (hok : WoOk tb pr ow fi) (hk : k < 6) (hft6 : ∀ k f, fty pr fi ft k f < 16) (hz18 : ∀ j, H.sz j ≤ 18) (hB0 : ∀ σ', NB σ0 σ' 0 0 m 0 0 (bR0 k) bV0 [] (mkO pr ow fi ft ⟨0, H.sz, H.ty, H.va, H.so⟩ k) fa vf wh wy hg (-1) oh (nI 0) an → jl_E l G m_Mo_run (0, 0) 136 [some (.ref 22), some (.int (nI k)), some (.int (xa)), some (.int (xb)), some (.int (nI n)), some (.int (bi gd)), some (.int (nI m)), some (.int (xa)), some (.int (nI 1)), none] [] σ' P) : jl_E l G m_Mo_run (0, 0) 87 [some (.ref 22), some (.int (nI k)), some (.int (xa)), some (.int (xb)), some (.int (nI n)), some (.int (bi gd)), some (.int (nI m)), none, none, none] [] σ P := by
  obtain ⟨fx, fp, fh, lw, lk, vl, vk, ks, kc, kv, lo, sk, hO, f1, f2, f3, f4, f5, f6, f7, hH, hB, hy1, hR1, hF⟩ := id hq
  obtain ⟨k1, k2, k3⟩ := id hH
  obtain ⟨⟨r1, r2⟩, hlo, hsk⟩ := id hR1
  refine er_aload_n d_Mo_run_87 rfl ?_
  refine er_iconst ((nI (0))) d_Mo_run_88 (by decide) ?_
  refine er_putf d_Mo_run_89 p_Mo_run_224 hO (Nat.le_of_ble_eq_true rfl) jl_fit_int ?_
  show jl_E l G m_Mo_run (0, 0) 92 [some (.ref 22), some (.int (nI k)), some (.int (xa)), some (.int (xb)), some (.int (nI n)), some (.int (bi gd)), some (.int (nI m)), none, none, none] [] (σ.set (22) (.inr (7, [.int (fa), .ref 23, .ref 24, .ref 25, .ref 26, .ref 27, .ref 28, .ref 29, .ref 30, .ref 31, .ref 32, .ref 33, .ref 34, .ref 35, .ref 36, .ref 37, .int (vf), .int (wh), .int (wy), .ref 38, .ref 39, .ref 40, .ref 41, .int (hg), .ref 42, .ref 43, .ref 44, .ref 45, .ref 46, .ref 47, .ref 48, .ref 49, .int (nI 0), .ref 50, .ref 51, .ref 52, .int (nI (H.n)), .int (ov), .int (oh), .int (dn), .int (an)]))) P
  refine er_aload_n d_Mo_run_92 rfl ?_
  refine er_iconst ((nI (0))) d_Mo_run_93 (by decide) ?_
  refine er_putf d_Mo_run_94 p_Mo_run_227 (jl_ss hO) (Nat.le_of_ble_eq_true rfl) jl_fit_int ?_
  show jl_E l G m_Mo_run (0, 0) 97 [some (.ref 22), some (.int (nI k)), some (.int (xa)), some (.int (xb)), some (.int (nI n)), some (.int (bi gd)), some (.int (nI m)), none, none, none] [] ((σ.set (22) (.inr (7, [.int (fa), .ref 23, .ref 24, .ref 25, .ref 26, .ref 27, .ref 28, .ref 29, .ref 30, .ref 31, .ref 32, .ref 33, .ref 34, .ref 35, .ref 36, .ref 37, .int (vf), .int (wh), .int (wy), .ref 38, .ref 39, .ref 40, .ref 41, .int (hg), .ref 42, .ref 43, .ref 44, .ref 45, .ref 46, .ref 47, .ref 48, .ref 49, .int (nI 0), .ref 50, .ref 51, .ref 52, .int (nI (H.n)), .int (ov), .int (oh), .int (dn), .int (an)]))).set (22) (.inr (7, [.int (fa), .ref 23, .ref 24, .ref 25, .ref 26, .ref 27, .ref 28, .ref 29, .ref 30, .ref 31, .ref 32, .ref 33, .ref 34, .ref 35, .ref 36, .ref 37, .int (vf), .int (wh), .int (wy), .ref 38, .ref 39, .ref 40, .ref 41, .int (hg), .ref 42, .ref 43, .ref 44, .ref 45, .ref 46, .ref 47, .ref 48, .ref 49, .int (nI 0), .ref 50, .ref 51, .ref 52, .int (nI 0), .int (ov), .int (oh), .int (dn), .int (an)]))) P
  refine er_aload_n d_Mo_run_97 rfl ?_
  refine er_iconst ((nI (0))) d_Mo_run_98 (by decide) ?_
  refine er_putf d_Mo_run_99 p_Mo_run_270 (jl_ss (jl_ss hO)) (Nat.le_of_ble_eq_true rfl) jl_fit_int ?_
  show jl_E l G m_Mo_run (0, 0) 102 [some (.ref 22), some (.int (nI k)), some (.int (xa)), some (.int (xb)), some (.int (nI n)), some (.int (bi gd)), some (.int (nI m)), none, none, none] [] (((σ.set (22) (.inr (7, [.int (fa), .ref 23, .ref 24, .ref 25, .ref 26, .ref 27, .ref 28, .ref 29, .ref 30, .ref 31, .ref 32, .ref 33, .ref 34, .ref 35, .ref 36, .ref 37, .int (vf), .int (wh), .int (wy), .ref 38, .ref 39, .ref 40, .ref 41, .int (hg), .ref 42, .ref 43, .ref 44, .ref 45, .ref 46, .ref 47, .ref 48, .ref 49, .int (nI 0), .ref 50, .ref 51, .ref 52, .int (nI (H.n)), .int (ov), .int (oh), .int (dn), .int (an)]))).set (22) (.inr (7, [.int (fa), .ref 23, .ref 24, .ref 25, .ref 26, .ref 27, .ref 28, .ref 29, .ref 30, .ref 31, .ref 32, .ref 33, .ref 34, .ref 35, .ref 36, .ref 37, .int (vf), .int (wh), .int (wy), .ref 38, .ref 39, .ref 40, .ref 41, .int (hg), .ref 42, .ref 43, .ref 44, .ref 45, .ref 46, .ref 47, .ref 48, .ref 49, .int (nI 0), .ref 50, .ref 51, .ref 52, .int (nI 0), .int (ov), .int (oh), .int (dn), .int (an)]))).set (22) (.inr (7, [.int (fa), .ref 23, .ref 24, .ref 25, .ref 26, .ref 27, .ref 28, .ref 29, .ref 30, .ref 31, .ref 32, .ref 33, .ref 34, .ref 35, .ref 36, .ref 37, .int (vf), .int (wh), .int (wy), .ref 38, .ref 39, .ref 40, .ref 41, .int (hg), .ref 42, .ref 43, .ref 44, .ref 45, .ref 46, .ref 47, .ref 48, .ref 49, .int (nI 0), .ref 50, .ref 51, .ref 52, .int (nI 0), .int (ov), .int (oh), .int (nI 0), .int (an)]))) P
  refine er_aload_n d_Mo_run_102 rfl ?_
  refine er_iconst ((-1)) d_Mo_run_103 (by decide) ?_
  refine er_putf d_Mo_run_104 p_Mo_run_108 (jl_ss (jl_ss (jl_ss hO))) (Nat.le_of_ble_eq_true rfl) jl_fit_int ?_
  show jl_E l G m_Mo_run (0, 0) 107 [some (.ref 22), some (.int (nI k)), some (.int (xa)), some (.int (xb)), some (.int (nI n)), some (.int (bi gd)), some (.int (nI m)), none, none, none] [] ((((σ.set (22) (.inr (7, [.int (fa), .ref 23, .ref 24, .ref 25, .ref 26, .ref 27, .ref 28, .ref 29, .ref 30, .ref 31, .ref 32, .ref 33, .ref 34, .ref 35, .ref 36, .ref 37, .int (vf), .int (wh), .int (wy), .ref 38, .ref 39, .ref 40, .ref 41, .int (hg), .ref 42, .ref 43, .ref 44, .ref 45, .ref 46, .ref 47, .ref 48, .ref 49, .int (nI 0), .ref 50, .ref 51, .ref 52, .int (nI (H.n)), .int (ov), .int (oh), .int (dn), .int (an)]))).set (22) (.inr (7, [.int (fa), .ref 23, .ref 24, .ref 25, .ref 26, .ref 27, .ref 28, .ref 29, .ref 30, .ref 31, .ref 32, .ref 33, .ref 34, .ref 35, .ref 36, .ref 37, .int (vf), .int (wh), .int (wy), .ref 38, .ref 39, .ref 40, .ref 41, .int (hg), .ref 42, .ref 43, .ref 44, .ref 45, .ref 46, .ref 47, .ref 48, .ref 49, .int (nI 0), .ref 50, .ref 51, .ref 52, .int (nI 0), .int (ov), .int (oh), .int (dn), .int (an)]))).set (22) (.inr (7, [.int (fa), .ref 23, .ref 24, .ref 25, .ref 26, .ref 27, .ref 28, .ref 29, .ref 30, .ref 31, .ref 32, .ref 33, .ref 34, .ref 35, .ref 36, .ref 37, .int (vf), .int (wh), .int (wy), .ref 38, .ref 39, .ref 40, .ref 41, .int (hg), .ref 42, .ref 43, .ref 44, .ref 45, .ref 46, .ref 47, .ref 48, .ref 49, .int (nI 0), .ref 50, .ref 51, .ref 52, .int (nI 0), .int (ov), .int (oh), .int (nI 0), .int (an)]))).set (22) (.inr (7, [.int (fa), .ref 23, .ref 24, .ref 25, .ref 26, .ref 27, .ref 28, .ref 29, .ref 30, .ref 31, .ref 32, .ref 33, .ref 34, .ref 35, .ref 36, .ref 37, .int (vf), .int (wh), .int (wy), .ref 38, .ref 39, .ref 40, .ref 41, .int (hg), .ref 42, .ref 43, .ref 44, .ref 45, .ref 46, .ref 47, .ref 48, .ref 49, .int (nI 0), .ref 50, .ref 51, .ref 52, .int (nI 0), .int (-1), .int (oh), .int (nI 0), .int (an)]))) P
  refine er_aload_n d_Mo_run_107 rfl ?_
  refine er_iload d_Mo_run_108 rfl ?_
  refine er_callVE (As := [.int (nI m)]) d_Mo_run_110 k_Mo_run_251 (jl_ss (jl_ss (jl_ss (jl_ss hO)))) rfl rfl rfl (Nat.le_of_ble_eq_true rfl) (by decide) (by decide) (mo_enter (d := 0) hl (jl_ss (jl_ss (jl_ss (jl_ss hO)))) (jl_sn (by decide) (jl_sn (by decide) (jl_sn (by decide) (jl_sn (by decide) f1)))) (jl_sn (by decide) (jl_sn (by decide) (jl_sn (by decide) (jl_sn (by decide) f2)))) (jl_sn (by decide) (jl_sn (by decide) (jl_sn (by decide) (jl_sn (by decide) f3)))) (jl_sn (by decide) (jl_sn (by decide) (jl_sn (by decide) (jl_sn (by decide) f5)))) (by decide) (fun lk2 σ w1 e22 e43 e44 e45 e47 eL eF => ⟨_, rfl, ?_⟩))
  have hn : NB σ0 σ 0 0 m 0 0 (cwi (fun _ => none) 0 0) (cwj (fun _ => 0) 0 0) [] ⟨0, H.sz, H.ty, H.va, H.so⟩ fa vf wh wy hg (-1) oh (nI 0) an := ⟨_, _, _, lw, lk2, vl, vk, ks, kc, kv, lo, sk, e22, e43, e44, e45, (eF 46 (by decide) (by decide) (by decide) (by decide) (by decide)).trans (jl_sn (by decide) (jl_sn (by decide) (jl_sn (by decide) (jl_sn (by decide) f4)))), e47, (eF 48 (by decide) (by decide) (by decide) (by decide) (by decide)).trans (jl_sn (by decide) (jl_sn (by decide) (jl_sn (by decide) (jl_sn (by decide) f6)))), (eF 49 (by decide) (by decide) (by decide) (by decide) (by decide)).trans (jl_sn (by decide) (jl_sn (by decide) (jl_sn (by decide) (jl_sn (by decide) f7)))), ⟨(eF 50 (by decide) (by decide) (by decide) (by decide) (by decide)).trans (jl_sn (by decide) (jl_sn (by decide) (jl_sn (by decide) (jl_sn (by decide) k1)))), (eF 51 (by decide) (by decide) (by decide) (by decide) (by decide)).trans (jl_sn (by decide) (jl_sn (by decide) (jl_sn (by decide) (jl_sn (by decide) k2)))), (eF 52 (by decide) (by decide) (by decide) (by decide) (by decide)).trans (jl_sn (by decide) (jl_sn (by decide) (jl_sn (by decide) (jl_sn (by decide) k3))))⟩, (fun q hq => absurd hq (Nat.not_lt_zero _)), FY.start w1, ⟨⟨(eF 40 (by decide) (by decide) (by decide) (by decide) (by decide)).trans (jl_sn (by decide) (jl_sn (by decide) (jl_sn (by decide) (jl_sn (by decide) r1)))), (eF 41 (by decide) (by decide) (by decide) (by decide) (by decide)).trans (jl_sn (by decide) (jl_sn (by decide) (jl_sn (by decide) (jl_sn (by decide) r2))))⟩, hlo, hsk⟩, ⟨eL.trans (by rw [List.length_set, List.length_set, List.length_set, List.length_set]; exact hF.1), fun i h1 h2 => by rw [eF i (by omega) (by omega) (by omega) (by omega) (by omega), List.getElem?_set_ne (by omega), List.getElem?_set_ne (by omega), List.getElem?_set_ne (by omega), List.getElem?_set_ne (by omega)]; exact hF.2 i h1 h2⟩⟩
  obtain ⟨fx, fp, fh, lw, lk, vl, vk, ks, kc, kv, lo, sk, hO, f1, f2, f3, f4, f5, f6, f7, hH, hB, hy1, hR1, hF⟩ := id hn
  obtain ⟨k1, k2, k3⟩ := id hH
  obtain ⟨⟨r1, r2⟩, hlo, hsk⟩ := id hR1
  have hw := hw0.fn hn.frn
  show jl_E l G m_Mo_run (0, 0) 113 [some (.ref 22), some (.int (nI k)), some (.int (xa)), some (.int (xb)), some (.int (nI n)), some (.int (bi gd)), some (.int (nI m)), none, none, none] [] (σ) P
  refine er_aload_n d_Mo_run_113 rfl ?_
  refine er_iconst ((nI (0))) d_Mo_run_114 (by decide) ?_
  refine er_iconst ((nI (0))) d_Mo_run_115 (by decide) ?_
  refine er_iconst ((nI (1))) d_Mo_run_116 (by decide) ?_
  refine er_aload_n d_Mo_run_117 rfl ?_
  refine er_iload_n d_Mo_run_118 rfl ?_
  refine er_aload_n d_Mo_run_119 rfl ?_
  refine er_iload_n d_Mo_run_120 rfl ?_
  refine er_callV (As := [.int (nI k)]) d_Mo_run_121 k_Mo_run_126 hO rfl rfl rfl (Nat.le_of_ble_eq_true rfl) (by decide) (by decide) (mo_fields (x := some k) hl hO hw hok (ob_s hk)) ?_
  show jl_E l G m_Mo_run (0, 0) 124 [some (.ref 22), some (.int (nI k)), some (.int (xa)), some (.int (xb)), some (.int (nI n)), some (.int (bi gd)), some (.int (nI m)), none, none, none] [.int (nI (fi k + ow k)), .int (nI k), .ref 22, .int (nI 1), .int (nI 0), .int (nI 0), .ref 22] (σ) P
  refine er_callVE (As := [.int (nI k), .int (nI (fi k + ow k))]) d_Mo_run_124 k_Mo_run_267 hO rfl rfl rfl (Nat.le_of_ble_eq_true rfl) (by decide) (by decide) (mo_mk_o (k := k) (H := ⟨0, H.sz, H.ty, H.va, H.so⟩) hl hn (by show 0 < 40; decide) hw0 hok hk hft6 (fc18 hok hk) hz18 (fun σ h1 => ⟨_, rfl, ?_⟩))
  have hn := h1
  obtain ⟨fx, fp, fh, lw, lk, vl, vk, ks, kc, kv, lo, sk, hO, f1, f2, f3, f4, f5, f6, f7, hH, hB, hy1, hR1, hF⟩ := id hn
  obtain ⟨k1, k2, k3⟩ := id hH
  obtain ⟨⟨r1, r2⟩, hlo, hsk⟩ := id hR1
  show jl_E l G m_Mo_run (0, 0) 127 [some (.ref 22), some (.int (nI k)), some (.int (xa)), some (.int (xb)), some (.int (nI n)), some (.int (bi gd)), some (.int (nI m)), none, none, none] [.int (nI 0), .int (nI 1), .int (nI 0), .int (nI 0), .ref 22] (σ) P
  refine er_callV (As := [.int (nI 0), .int (nI 0), .int (nI 1), .int (nI 0)]) d_Mo_run_127 k_Mo_run_254 hO rfl rfl rfl (Nat.le_of_ble_eq_true rfl) (by decide) (by decide) (mo_mlocal (f := 0) (k := 0) (a := nI 1) (b := nI 0) hl hO f4 f5 (by decide) (by decide)) ?_
  show jl_E l G m_Mo_run (0, 0) 130 [some (.ref 22), some (.int (nI k)), some (.int (xa)), some (.int (xb)), some (.int (nI n)), some (.int (bi gd)), some (.int (nI m)), none, none, none] [] ((σ.set (47) (.inl (0, 78, .inl (upd lk (6 * 0 + 0) (nI 1))))).set (46) (.inl (0, 78, .inl (upd lw (6 * 0 + 0) (nI 0))))) P
  refine er_iload_n d_Mo_run_130 rfl ?_
  refine er_istore d_Mo_run_131 (by decide) ?_
  show jl_E l G m_Mo_run (0, 0) 133 [some (.ref 22), some (.int (nI k)), some (.int (xa)), some (.int (xb)), some (.int (nI n)), some (.int (bi gd)), some (.int (nI m)), some (.int (xa)), none, none] [] ((σ.set (47) (.inl (0, 78, .inl (upd lk (6 * 0 + 0) (nI 1))))).set (46) (.inl (0, 78, .inl (upd lw (6 * 0 + 0) (nI 0))))) P
  refine er_iconst ((nI (1))) d_Mo_run_133 (by decide) ?_
  refine er_istore d_Mo_run_134 (by decide) ?_
  show jl_E l G m_Mo_run (0, 0) 136 [some (.ref 22), some (.int (nI k)), some (.int (xa)), some (.int (xb)), some (.int (nI n)), some (.int (bi gd)), some (.int (nI m)), some (.int (xa)), some (.int (nI 1)), none] [] ((σ.set (47) (.inl (0, 78, .inl (upd lk (6 * 0 + 0) (nI 1))))).set (46) (.inl (0, 78, .inl (upd lw (6 * 0 + 0) (nI 0))))) P
  exact hB0 _ ⟨_, _, _, _, _, _, _, _, _, _, _, _, (jl_sn (by decide) (jl_sn (by decide) hO)), (jl_sn (by decide) (jl_sn (by decide) f1)), (jl_sn (by decide) (jl_sn (by decide) f2)), (jl_sn (by decide) (jl_sn (by decide) f3)), (jl_ss (jl_sn (by decide) f4)), (jl_sn (by decide) (jl_ss f5)), (jl_sn (by decide) (jl_sn (by decide) f6)), (jl_sn (by decide) (jl_sn (by decide) f7)), ⟨(jl_sn (by decide) (jl_sn (by decide) k1)), (jl_sn (by decide) (jl_sn (by decide) k2)), (jl_sn (by decide) (jl_sn (by decide) k3))⟩, hB, (hy1.locA (k := 0) (y := some (10 + k)) (v := nI 0) (by decide) (kd_o (by omega))), ⟨⟨(jl_sn (by decide) (jl_sn (by decide) r1)), (jl_sn (by decide) (jl_sn (by decide) r2))⟩, hlo, hsk⟩, ((hF.set (by omega)).set (by omega))⟩
theorem mo_run_1 (hl : l.stackTraces = false) {P : jl_O → jl_S → Prop}  (hq : NQ σ0 σ [] H fa vf wh wy hg ov oh dn an) (hw0 : MoW σ0 tb pr ow ft hs) (hu0 : MoM σ0 u1 u2 ur ul uo ua uc us ut uk) (hK : MoK u1 u2 ur ul uo uc us ut uk) (hUD : ∀ m, m < 24 → hs m = true → MdM (D m) u1 u2 ur ul uo ua uc us ut uk m) (hok : WoOk tb pr ow fi) (hft : ∀ k f, tyv (some (fty pr fi ft k f))) (hD : ∀ m, m < 24 → hs m = true → MdOk (D m)) (hsg : SgM tb pr hs (fun m => (D m).1) (fun m => (D m).2.1) (fun m => (D m).2.2.1) sg) (hW : gd = false → FixW tb pr ow fi ft sg hs D W) (hE : SgE pr hs D) (hk : k < 6) (hn1 : 1 ≤ n) (hn4 : n ≤ 400) (htb : tb k = true) (hgd : gd = true) (hmm : mmo pr hs 0 6 (some k) = some m) (hm24 : m < 24) (hhs : hs m = true) (hz18 : ∀ j, H.sz j ≤ 18) (hsf : SF tb pr ow fi ft hs D W gd ⟨m, 0, bgR k (D m).1 (D m).2.1, bgV (D m).1 (D m).2.1 xa xb⟩ [] (mkO pr ow fi ft ⟨0, H.sz, H.ty, H.va, H.so⟩ k)) (hT : ∀ how what dn an' H' aw hg' σ', mrn tb pr ow fi ft sg hs D gd n ⟨m, 0, bgR k (D m).1 (D m).2.1, bgV (D m).1 (D m).2.1 xa xb⟩ [] (mkO pr ow fi ft ⟨0, H.sz, H.ty, H.va, H.so⟩ k) 0 = (how, what, dn, an', H') → (∀ v, an' = some v → aw = v) → (how = 0 → NQ σ0 σ' [] H' (nI 0) vf wh wy hg' (nI how) (nI what) (nI dn) aw → P (.inl (some (.int aw))) σ') ∧ (how ≠ 0 → NQ σ0 σ' [] H' (nI 3) vf wh wy hg' (nI how) (nI what) (nI dn) aw → P (.inl (some (.int (nI 0)))) σ')) : jl_mE l G m_Mo_run [.ref 22, .int (nI k), .int (xa), .int (xb), .int (nI n), .int (bi gd)] σ P := by
  obtain ⟨fx, fp, fh, lw, lk, vl, vk, ks, kc, kv, lo, sk, hO, f1, f2, f3, f4, f5, f6, f7, hH, hB, hy1, hR1, hF⟩ := id hq
  obtain ⟨k1, k2, k3⟩ := id hH
  obtain ⟨⟨r1, r2⟩, hlo, hsk⟩ := id hR1
  have hw := hw0.fn hF
  obtain ⟨h23, h24, h25, h26, h27⟩ := id hw
  refine jl_ofE (as := [.ref 22, .int (nI k), .int (xa), .int (xb), .int (nI n), .int (bi gd)]) rfl (by decide) hl (jl_cc rfl (jl_cc rfl (jl_cc rfl (jl_cc rfl (jl_cc rfl (jl_cc rfl jl_ca)))))) (Nat.le_of_ble_eq_true rfl) ?_
  show jl_E l G m_Mo_run (0, 0) 0 [some (.ref 22), some (.int (nI k)), some (.int (xa)), some (.int (xb)), some (.int (nI n)), some (.int (bi gd)), none, none, none, none] [] (σ) P
  refine er_aload_n d_Mo_run_0 rfl ?_
  refine er_iconst ((nI (0))) d_Mo_run_1 (by decide) ?_
  refine er_putf d_Mo_run_2 p_Mo_run_111 hO (Nat.le_of_ble_eq_true rfl) jl_fit_int ?_
  show jl_E l G m_Mo_run (0, 0) 5 [some (.ref 22), some (.int (nI k)), some (.int (xa)), some (.int (xb)), some (.int (nI n)), some (.int (bi gd)), none, none, none, none] [] (σ.set (22) (.inr (7, [.int (nI 0), .ref 23, .ref 24, .ref 25, .ref 26, .ref 27, .ref 28, .ref 29, .ref 30, .ref 31, .ref 32, .ref 33, .ref 34, .ref 35, .ref 36, .ref 37, .int (vf), .int (wh), .int (wy), .ref 38, .ref 39, .ref 40, .ref 41, .int (hg), .ref 42, .ref 43, .ref 44, .ref 45, .ref 46, .ref 47, .ref 48, .ref 49, .int (nI 0), .ref 50, .ref 51, .ref 52, .int (nI (H.n)), .int (ov), .int (oh), .int (dn), .int (an)]))) P
  refine er_aload_n d_Mo_run_5 rfl ?_
  refine er_iload_n d_Mo_run_6 rfl ?_
  refine er_bipush ((nI (6))) d_Mo_run_7 (by decide) ?_
  refine er_callV (As := [.int (nI k), .int (nI 6)]) d_Mo_run_9 k_Mo_run_114 (jl_ss hO) rfl rfl rfl (Nat.le_of_ble_eq_true rfl) (by decide) (by decide) (mo_outN (j := k) (n := 6) hl (jl_ss hO) (MoW.sx hw (Or.inl (by decide))) (by decide) hk) ?_
  show jl_E l G m_Mo_run (0, 0) 12 [some (.ref 22), some (.int (nI k)), some (.int (xa)), some (.int (xb)), some (.int (nI n)), some (.int (bi gd)), none, none, none, none] [.int (nI 0)] (σ.set (22) (.inr (7, [.int (nI 0), .ref 23, .ref 24, .ref 25, .ref 26, .ref 27, .ref 28, .ref 29, .ref 30, .ref 31, .ref 32, .ref 33, .ref 34, .ref 35, .ref 36, .ref 37, .int (vf), .int (wh), .int (wy), .ref 38, .ref 39, .ref 40, .ref 41, .int (hg), .ref 42, .ref 43, .ref 44, .ref 45, .ref 46, .ref 47, .ref 48, .ref 49, .int (nI 0), .ref 50, .ref 51, .ref 52, .int (nI (H.n)), .int (ov), .int (oh), .int (dn), .int (an)]))) P
  refine er_if_ne 29 d_Mo_run_12 (by decide) (fun z => absurd rfl z) (fun _ => ?_)
  refine er_iload d_Mo_run_15 rfl ?_
  refine er_iconst ((nI (1))) d_Mo_run_17 (by decide) ?_
  refine er_icmp_lt 29 d_Mo_run_18 (by decide) (fun z => absurd z (fun z => by rw [nI_ltI (by omega) (by omega)] at z; omega)) (fun _ => ?_)
  refine er_iload d_Mo_run_21 rfl ?_
  refine er_sipush ((nI (400))) d_Mo_run_23 (by decide) ?_
  refine er_icmp_le 35 d_Mo_run_26 (by decide) (fun _ => ?_) (fun z => absurd ((nI_leI (by omega) (by omega)).mpr hn4) z)
  refine er_aload_n d_Mo_run_35 rfl ?_
  refine er_getf d_Mo_run_36 f_Mo_run_7 (jl_ss hO) rfl ?_
  refine er_iload_n d_Mo_run_39 rfl ?_
  refine er_baldQ (v := (nI (1))) d_Mo_run_40 (jl_sn (by decide) h23) (by omega) (by omega) ((congrArg bi htb).trans bi_t1) ?_
  refine er_if_ne 50 d_Mo_run_41 (by decide) (fun _ => ?_) (fun z => absurd z (by decide))
  refine er_iload d_Mo_run_50 rfl ?_
  refine er_if_ne 68 d_Mo_run_52 (by decide) (fun _ => ?_) (fun z => absurd z (by rw [hgd]; decide))
  refine er_aload_n d_Mo_run_68 rfl ?_
  refine er_iload_n d_Mo_run_69 rfl ?_
  refine er_iconst ((nI (0))) d_Mo_run_70 (by decide) ?_
  refine er_callV (As := [.int (nI k), .int (nI 0)]) d_Mo_run_71 k_Mo_run_157 (jl_ss hO) rfl rfl rfl (Nat.le_of_ble_eq_true rfl) (by decide) (by decide) (mo_methodOfE (k := k) (sl := 0) hl (jl_ss hO) (MoW.sx hw (Or.inl (by decide))) (by decide) (dsc_of hok) hk hmm) ?_
  show jl_E l G m_Mo_run (0, 0) 74 [some (.ref 22), some (.int (nI k)), some (.int (xa)), some (.int (xb)), some (.int (nI n)), some (.int (bi gd)), none, none, none, none] [.int (nI m)] (σ.set (22) (.inr (7, [.int (nI 0), .ref 23, .ref 24, .ref 25, .ref 26, .ref 27, .ref 28, .ref 29, .ref 30, .ref 31, .ref 32, .ref 33, .ref 34, .ref 35, .ref 36, .ref 37, .int (vf), .int (wh), .int (wy), .ref 38, .ref 39, .ref 40, .ref 41, .int (hg), .ref 42, .ref 43, .ref 44, .ref 45, .ref 46, .ref 47, .ref 48, .ref 49, .int (nI 0), .ref 50, .ref 51, .ref 52, .int (nI (H.n)), .int (ov), .int (oh), .int (dn), .int (an)]))) P
  refine er_istore d_Mo_run_74 (by decide) ?_
  show jl_E l G m_Mo_run (0, 0) 76 [some (.ref 22), some (.int (nI k)), some (.int (xa)), some (.int (xb)), some (.int (nI n)), some (.int (bi gd)), some (.int (nI m)), none, none, none] [] (σ.set (22) (.inr (7, [.int (nI 0), .ref 23, .ref 24, .ref 25, .ref 26, .ref 27, .ref 28, .ref 29, .ref 30, .ref 31, .ref 32, .ref 33, .ref 34, .ref 35, .ref 36, .ref 37, .int (vf), .int (wh), .int (wy), .ref 38, .ref 39, .ref 40, .ref 41, .int (hg), .ref 42, .ref 43, .ref 44, .ref 45, .ref 46, .ref 47, .ref 48, .ref 49, .int (nI 0), .ref 50, .ref 51, .ref 52, .int (nI (H.n)), .int (ov), .int (oh), .int (dn), .int (an)]))) P
  refine er_iload d_Mo_run_76 rfl ?_
  refine er_if_ge 87 d_Mo_run_78 (by decide) (fun _ => ?_) (fun z => absurd (Int32.not_lt.mp (nI_pos (by omega))) z)
  refine mo_run_87 (H := H) hl ⟨_, _, _, _, _, _, _, _, _, _, _, _, (jl_ss hO), (jl_sn (by decide) f1), (jl_sn (by decide) f2), (jl_sn (by decide) f3), (jl_sn (by decide) f4), (jl_sn (by decide) f5), (jl_sn (by decide) f6), (jl_sn (by decide) f7), ⟨(jl_sn (by decide) k1), (jl_sn (by decide) k2), (jl_sn (by decide) k3)⟩, hB, trivial, ⟨⟨(jl_sn (by decide) r1), (jl_sn (by decide) r2)⟩, hlo, hsk⟩, (hF.set (by omega))⟩ hw0 hok hk (fun k f => (hft k f _ rfl).1) hz18 (fun σ1 hn1 => ?_)
  have hu1 := hUD m hm24 hhs
  refine mo_rp hl hn1 (hw0.fn hn1.frn) (hu0.fn hn1.frn) hm24 hu1.1 hu1.2.1 (hD m hm24 hhs).1 (hD m hm24 hhs).2.1 (hD m hm24 hhs).2.2.2.2.2.2.2 (fun σ2 hn2 => ?_)
  refine mo_run_l (W := W) hl hw0 hu0 hK hUD hok hft hD hsg hW hE (n + 1) n 0 σ2 ⟨m, 0, bgR k (D m).1 (D m).2.1, bgV (D m).1 (D m).2.1 xa xb⟩ [] (mkO pr ow fi ft ⟨0, H.sz, H.ty, H.va, H.so⟩ k) hg an (by omega) hn4 hn2 hsf (fun how what dn an' H' aw hg' σ' em e1 hz => ?_)
  obtain ⟨t0, t1⟩ := hT how what dn an' H' aw hg' σ' em e1
  have h8 := mrn_8 n ⟨m, 0, bgR k (D m).1 (D m).2.1, bgV (D m).1 (D m).2.1 xa xb⟩ [] (mkO pr ow fi ft ⟨0, H.sz, H.ty, H.va, H.so⟩ k) 0 hok hft hD hsg hW hE hsf
  rw [em] at h8
  have h8 : how ≤ 8 := h8
  by_cases z : how = 0
  · exact mo_run_e0 hl hz hw0 z (t0 z hz)
  · exact mo_run_e1 hl hz hw0 z (by omega) (fun σ2 h2 => (hT how what dn an' H' aw hg' σ2 em e1).2 z h2)
theorem mo_run_0 (hl : l.stackTraces = false) {P : jl_O → jl_S → Prop}  (hq : NQ σ0 σ [] H fa (nI 1) wh wy hg ov oh dn an) (hw0 : MoW σ0 tb pr ow ft hs) (hu0 : MoM σ0 u1 u2 ur ul uo ua uc us ut uk) (hK : MoK u1 u2 ur ul uo uc us ut uk) (hUD : ∀ m, m < 24 → hs m = true → MdM (D m) u1 u2 ur ul uo ua uc us ut uk m) (hok : WoOk tb pr ow fi) (hft : ∀ k f, tyv (some (fty pr fi ft k f))) (hD : ∀ m, m < 24 → hs m = true → MdOk (D m)) (hsg : SgM tb pr hs (fun m => (D m).1) (fun m => (D m).2.1) (fun m => (D m).2.2.1) sg) (hW : gd = false → FixW tb pr ow fi ft sg hs D W) (hE : SgE pr hs D) (hk : k < 6) (hn1 : 1 ≤ n) (hn4 : n ≤ 400) (htb : tb k = true) (hgd : gd = false) (hmm : mmo pr hs 0 6 (some k) = some m) (hm24 : m < 24) (hhs : hs m = true) (hz18 : ∀ j, H.sz j ≤ 18) (hsf : SF tb pr ow fi ft hs D W gd ⟨m, 0, bgR k (D m).1 (D m).2.1, bgV (D m).1 (D m).2.1 xa xb⟩ [] (mkO pr ow fi ft ⟨0, H.sz, H.ty, H.va, H.so⟩ k)) (hT : ∀ how what dn an' H' aw hg' σ', mrn tb pr ow fi ft sg hs D gd n ⟨m, 0, bgR k (D m).1 (D m).2.1, bgV (D m).1 (D m).2.1 xa xb⟩ [] (mkO pr ow fi ft ⟨0, H.sz, H.ty, H.va, H.so⟩ k) 0 = (how, what, dn, an', H') → (∀ v, an' = some v → aw = v) → (how = 0 → NQ σ0 σ' [] H' (nI 0) (nI 1) wh wy hg' (nI how) (nI what) (nI dn) aw → P (.inl (some (.int aw))) σ') ∧ (how ≠ 0 → NQ σ0 σ' [] H' (nI 3) (nI 1) wh wy hg' (nI how) (nI what) (nI dn) aw → P (.inl (some (.int (nI 0)))) σ')) : jl_mE l G m_Mo_run [.ref 22, .int (nI k), .int (xa), .int (xb), .int (nI n), .int (bi gd)] σ P := by
  obtain ⟨fx, fp, fh, lw, lk, vl, vk, ks, kc, kv, lo, sk, hO, f1, f2, f3, f4, f5, f6, f7, hH, hB, hy1, hR1, hF⟩ := id hq
  obtain ⟨k1, k2, k3⟩ := id hH
  obtain ⟨⟨r1, r2⟩, hlo, hsk⟩ := id hR1
  have hw := hw0.fn hF
  obtain ⟨h23, h24, h25, h26, h27⟩ := id hw
  refine jl_ofE (as := [.ref 22, .int (nI k), .int (xa), .int (xb), .int (nI n), .int (bi gd)]) rfl (by decide) hl (jl_cc rfl (jl_cc rfl (jl_cc rfl (jl_cc rfl (jl_cc rfl (jl_cc rfl jl_ca)))))) (Nat.le_of_ble_eq_true rfl) ?_
  show jl_E l G m_Mo_run (0, 0) 0 [some (.ref 22), some (.int (nI k)), some (.int (xa)), some (.int (xb)), some (.int (nI n)), some (.int (bi gd)), none, none, none, none] [] (σ) P
  refine er_aload_n d_Mo_run_0 rfl ?_
  refine er_iconst ((nI (0))) d_Mo_run_1 (by decide) ?_
  refine er_putf d_Mo_run_2 p_Mo_run_111 hO (Nat.le_of_ble_eq_true rfl) jl_fit_int ?_
  show jl_E l G m_Mo_run (0, 0) 5 [some (.ref 22), some (.int (nI k)), some (.int (xa)), some (.int (xb)), some (.int (nI n)), some (.int (bi gd)), none, none, none, none] [] (σ.set (22) (.inr (7, [.int (nI 0), .ref 23, .ref 24, .ref 25, .ref 26, .ref 27, .ref 28, .ref 29, .ref 30, .ref 31, .ref 32, .ref 33, .ref 34, .ref 35, .ref 36, .ref 37, .int (nI 1), .int (wh), .int (wy), .ref 38, .ref 39, .ref 40, .ref 41, .int (hg), .ref 42, .ref 43, .ref 44, .ref 45, .ref 46, .ref 47, .ref 48, .ref 49, .int (nI 0), .ref 50, .ref 51, .ref 52, .int (nI (H.n)), .int (ov), .int (oh), .int (dn), .int (an)]))) P
  refine er_aload_n d_Mo_run_5 rfl ?_
  refine er_iload_n d_Mo_run_6 rfl ?_
  refine er_bipush ((nI (6))) d_Mo_run_7 (by decide) ?_
  refine er_callV (As := [.int (nI k), .int (nI 6)]) d_Mo_run_9 k_Mo_run_114 (jl_ss hO) rfl rfl rfl (Nat.le_of_ble_eq_true rfl) (by decide) (by decide) (mo_outN (j := k) (n := 6) hl (jl_ss hO) (MoW.sx hw (Or.inl (by decide))) (by decide) hk) ?_
  show jl_E l G m_Mo_run (0, 0) 12 [some (.ref 22), some (.int (nI k)), some (.int (xa)), some (.int (xb)), some (.int (nI n)), some (.int (bi gd)), none, none, none, none] [.int (nI 0)] (σ.set (22) (.inr (7, [.int (nI 0), .ref 23, .ref 24, .ref 25, .ref 26, .ref 27, .ref 28, .ref 29, .ref 30, .ref 31, .ref 32, .ref 33, .ref 34, .ref 35, .ref 36, .ref 37, .int (nI 1), .int (wh), .int (wy), .ref 38, .ref 39, .ref 40, .ref 41, .int (hg), .ref 42, .ref 43, .ref 44, .ref 45, .ref 46, .ref 47, .ref 48, .ref 49, .int (nI 0), .ref 50, .ref 51, .ref 52, .int (nI (H.n)), .int (ov), .int (oh), .int (dn), .int (an)]))) P
  refine er_if_ne 29 d_Mo_run_12 (by decide) (fun z => absurd rfl z) (fun _ => ?_)
  refine er_iload d_Mo_run_15 rfl ?_
  refine er_iconst ((nI (1))) d_Mo_run_17 (by decide) ?_
  refine er_icmp_lt 29 d_Mo_run_18 (by decide) (fun z => absurd z (fun z => by rw [nI_ltI (by omega) (by omega)] at z; omega)) (fun _ => ?_)
  refine er_iload d_Mo_run_21 rfl ?_
  refine er_sipush ((nI (400))) d_Mo_run_23 (by decide) ?_
  refine er_icmp_le 35 d_Mo_run_26 (by decide) (fun _ => ?_) (fun z => absurd ((nI_leI (by omega) (by omega)).mpr hn4) z)
  refine er_aload_n d_Mo_run_35 rfl ?_
  refine er_getf d_Mo_run_36 f_Mo_run_7 (jl_ss hO) rfl ?_
  refine er_iload_n d_Mo_run_39 rfl ?_
  refine er_baldQ (v := (nI (1))) d_Mo_run_40 (jl_sn (by decide) h23) (by omega) (by omega) ((congrArg bi htb).trans bi_t1) ?_
  refine er_if_ne 50 d_Mo_run_41 (by decide) (fun _ => ?_) (fun z => absurd z (by decide))
  refine er_iload d_Mo_run_50 rfl ?_
  refine er_if_ne 68 d_Mo_run_52 (by decide) (fun z => absurd (by rw [hgd]; rfl) z) (fun _ => ?_)
  refine er_aload_n d_Mo_run_55 rfl ?_
  refine er_getf d_Mo_run_56 f_Mo_run_122 (jl_ss hO) rfl ?_
  refine er_if_ne 68 d_Mo_run_59 (by decide) (fun _ => ?_) (fun z => absurd z (by decide))
  refine er_aload_n d_Mo_run_68 rfl ?_
  refine er_iload_n d_Mo_run_69 rfl ?_
  refine er_iconst ((nI (0))) d_Mo_run_70 (by decide) ?_
  refine er_callV (As := [.int (nI k), .int (nI 0)]) d_Mo_run_71 k_Mo_run_157 (jl_ss hO) rfl rfl rfl (Nat.le_of_ble_eq_true rfl) (by decide) (by decide) (mo_methodOfE (k := k) (sl := 0) hl (jl_ss hO) (MoW.sx hw (Or.inl (by decide))) (by decide) (dsc_of hok) hk hmm) ?_
  show jl_E l G m_Mo_run (0, 0) 74 [some (.ref 22), some (.int (nI k)), some (.int (xa)), some (.int (xb)), some (.int (nI n)), some (.int (bi gd)), none, none, none, none] [.int (nI m)] (σ.set (22) (.inr (7, [.int (nI 0), .ref 23, .ref 24, .ref 25, .ref 26, .ref 27, .ref 28, .ref 29, .ref 30, .ref 31, .ref 32, .ref 33, .ref 34, .ref 35, .ref 36, .ref 37, .int (nI 1), .int (wh), .int (wy), .ref 38, .ref 39, .ref 40, .ref 41, .int (hg), .ref 42, .ref 43, .ref 44, .ref 45, .ref 46, .ref 47, .ref 48, .ref 49, .int (nI 0), .ref 50, .ref 51, .ref 52, .int (nI (H.n)), .int (ov), .int (oh), .int (dn), .int (an)]))) P
  refine er_istore d_Mo_run_74 (by decide) ?_
  show jl_E l G m_Mo_run (0, 0) 76 [some (.ref 22), some (.int (nI k)), some (.int (xa)), some (.int (xb)), some (.int (nI n)), some (.int (bi gd)), some (.int (nI m)), none, none, none] [] (σ.set (22) (.inr (7, [.int (nI 0), .ref 23, .ref 24, .ref 25, .ref 26, .ref 27, .ref 28, .ref 29, .ref 30, .ref 31, .ref 32, .ref 33, .ref 34, .ref 35, .ref 36, .ref 37, .int (nI 1), .int (wh), .int (wy), .ref 38, .ref 39, .ref 40, .ref 41, .int (hg), .ref 42, .ref 43, .ref 44, .ref 45, .ref 46, .ref 47, .ref 48, .ref 49, .int (nI 0), .ref 50, .ref 51, .ref 52, .int (nI (H.n)), .int (ov), .int (oh), .int (dn), .int (an)]))) P
  refine er_iload d_Mo_run_76 rfl ?_
  refine er_if_ge 87 d_Mo_run_78 (by decide) (fun _ => ?_) (fun z => absurd (Int32.not_lt.mp (nI_pos (by omega))) z)
  refine mo_run_87 (H := H) hl ⟨_, _, _, _, _, _, _, _, _, _, _, _, (jl_ss hO), (jl_sn (by decide) f1), (jl_sn (by decide) f2), (jl_sn (by decide) f3), (jl_sn (by decide) f4), (jl_sn (by decide) f5), (jl_sn (by decide) f6), (jl_sn (by decide) f7), ⟨(jl_sn (by decide) k1), (jl_sn (by decide) k2), (jl_sn (by decide) k3)⟩, hB, trivial, ⟨⟨(jl_sn (by decide) r1), (jl_sn (by decide) r2)⟩, hlo, hsk⟩, (hF.set (by omega))⟩ hw0 hok hk (fun k f => (hft k f _ rfl).1) hz18 (fun σ1 hn1 => ?_)
  have hu1 := hUD m hm24 hhs
  refine mo_rp hl hn1 (hw0.fn hn1.frn) (hu0.fn hn1.frn) hm24 hu1.1 hu1.2.1 (hD m hm24 hhs).1 (hD m hm24 hhs).2.1 (hD m hm24 hhs).2.2.2.2.2.2.2 (fun σ2 hn2 => ?_)
  refine mo_run_l (W := W) hl hw0 hu0 hK hUD hok hft hD hsg hW hE (n + 1) n 0 σ2 ⟨m, 0, bgR k (D m).1 (D m).2.1, bgV (D m).1 (D m).2.1 xa xb⟩ [] (mkO pr ow fi ft ⟨0, H.sz, H.ty, H.va, H.so⟩ k) hg an (by omega) hn4 hn2 hsf (fun how what dn an' H' aw hg' σ' em e1 hz => ?_)
  obtain ⟨t0, t1⟩ := hT how what dn an' H' aw hg' σ' em e1
  have h8 := mrn_8 n ⟨m, 0, bgR k (D m).1 (D m).2.1, bgV (D m).1 (D m).2.1 xa xb⟩ [] (mkO pr ow fi ft ⟨0, H.sz, H.ty, H.va, H.so⟩ k) 0 hok hft hD hsg hW hE hsf
  rw [em] at h8
  have h8 : how ≤ 8 := h8
  by_cases z : how = 0
  · exact mo_run_e0 hl hz hw0 z (t0 z hz)
  · exact mo_run_e1 hl hz hw0 z (by omega) (fun σ2 h2 => (hT how what dn an' H' aw hg' σ2 em e1).2 z h2)
end JNzk
