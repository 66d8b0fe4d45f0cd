/-! the law's cases, 1 (wip/gen/p97zv.py) -/
section JLv
variable {l : Launch} {G : jl_G} {σ : jl_S}
variable {U : Un} {fa : Int32} {f : Nat → Int64} {n uc us : Nat}
theorem er_sldN {M : jl_M} {u : Nat × Nat} {pc i : Nat} {ls : List (Option Value)} {st : List Value} {P : jl_O → jl_S → Prop} (hd : decode M.2.1 pc = .ok (.iaload, 1)) (hi : i < G.2.2.2.2.2.2.1) (hn : G.2.2.2.2.2.2.1 < 2 ^ 31) (k : jl_E l G M u (pc + 1) ls (.int (G.2.2.2.2.2.2.2 i) :: st) σ P) : jl_E l G M u pc ls (.int (nI i) :: .retAddr G.2.2.2.2.2.1 :: st) σ P := er_sld hd (vp_in_nI hi hn) (by rw [nI_clamp (Nat.lt_trans hi hn)]; exact k)
theorem RC.j (h : RC σ U) : JcAt σ U.vf := by
  obtain ⟨mt, bf, gv, jn, MP, FH, aw, h1, _⟩ := h
  exact h1
theorem RM.o (h : RM σ U fa) : ∃ fs, σ[22]? = some (.inr (7, fs)) := by
  obtain ⟨hg, an, u1, u2, ur, ul, uo, ua, uc, us, ut, uk, kp, mm, fm, hx⟩ := h
  exact ⟨_, hx.1.o⟩
theorem RM.thr (h : RM σ U fa) (hl : l.stackTraces = false) : jl_m l G m_Mo_thrown [.ref 22] σ (.inl (some (.int fa))) σ := by
  obtain ⟨hg, an, u1, u2, ur, ul, uo, ua, uc, us, ut, uk, kp, mm, fm, hx⟩ := h
  exact mo_thrown hl hx.1.o hx.2.1
theorem lg_self (x : Int64) : lg_cmp x x = 0 := by
  unfold lg_cmp
  rw [if_neg (Int64.lt_irrefl), if_pos rfl]
theorem d_La_law_104 : decode m_La_law.2.1 104 = .ok (.aload_n 1, 1) := by decide +kernel
theorem d_La_law_105 : decode m_La_law.2.1 105 = .ok (.aload_n 0, 1) := by decide +kernel
theorem d_La_law_106 : decode m_La_law.2.1 106 = .ok (.iload 4, 2) := by decide +kernel
theorem d_La_law_108 : decode m_La_law.2.1 108 = .ok (.iconst 1, 1) := by decide +kernel
theorem d_La_law_109 : decode m_La_law.2.1 109 = .ok (.iadd, 1) := by decide +kernel
theorem d_La_law_110 : decode m_La_law.2.1 110 = .ok (.iaload, 1) := by decide +kernel
theorem d_La_law_111 : decode m_La_law.2.1 111 = .ok (.aload_n 0, 1) := by decide +kernel
theorem d_La_law_112 : decode m_La_law.2.1 112 = .ok (.iload 4, 2) := by decide +kernel
theorem d_La_law_114 : decode m_La_law.2.1 114 = .ok (.iconst 2, 1) := by decide +kernel
theorem d_La_law_115 : decode m_La_law.2.1 115 = .ok (.iadd, 1) := by decide +kernel
theorem d_La_law_116 : decode m_La_law.2.1 116 = .ok (.iaload, 1) := by decide +kernel
theorem d_La_law_117 : decode m_La_law.2.1 117 = .ok (.aload_n 3, 1) := by decide +kernel
theorem k_La_law_62 : jl_cw m_La_law m_La_define [(0, 10, 13, 13), (0, 10, 17, 15)] 62 4 = true := by decide +kernel
theorem d_La_law_118 : decode m_La_law.2.1 118 = .ok (.invokestatic 62, 3) := by decide +kernel
theorem d_La_law_121 : decode m_La_law.2.1 121 = .ok (.istore 5, 2) := by decide +kernel
theorem d_La_law_123 : decode m_La_law.2.1 123 = .ok (.aload_n 2, 1) := by decide +kernel
theorem d_La_law_124 : decode m_La_law.2.1 124 = .ok (.aload_n 0, 1) := by decide +kernel
theorem d_La_law_125 : decode m_La_law.2.1 125 = .ok (.iload 4, 2) := by decide +kernel
theorem d_La_law_127 : decode m_La_law.2.1 127 = .ok (.iconst 1, 1) := by decide +kernel
theorem d_La_law_128 : decode m_La_law.2.1 128 = .ok (.iadd, 1) := by decide +kernel
theorem d_La_law_129 : decode m_La_law.2.1 129 = .ok (.iaload, 1) := by decide +kernel
theorem d_La_law_130 : decode m_La_law.2.1 130 = .ok (.aload_n 0, 1) := by decide +kernel
theorem d_La_law_131 : decode m_La_law.2.1 131 = .ok (.iload 4, 2) := by decide +kernel
theorem d_La_law_133 : decode m_La_law.2.1 133 = .ok (.iconst 2, 1) := by decide +kernel
theorem d_La_law_134 : decode m_La_law.2.1 134 = .ok (.iadd, 1) := by decide +kernel
theorem d_La_law_135 : decode m_La_law.2.1 135 = .ok (.iaload, 1) := by decide +kernel
theorem k_La_law_67 : jl_cv m_La_law m_Mo_define 67 2 = true := by decide +kernel
theorem d_La_law_136 : decode m_La_law.2.1 136 = .ok (.invokevirtual 67, 3) := by decide +kernel
theorem d_La_law_139 : decode m_La_law.2.1 139 = .ok (.istore 6, 2) := by decide +kernel
theorem d_La_law_141 : decode m_La_law.2.1 141 = .ok (.aload_n 2, 1) := by decide +kernel
theorem k_La_law_68 : jl_cv m_La_law m_Mo_thrown 68 0 = true := by decide +kernel
theorem d_La_law_142 : decode m_La_law.2.1 142 = .ok (.invokevirtual 68, 3) := by decide +kernel
theorem d_La_law_145 : decode m_La_law.2.1 145 = .ok (.iload 5, 2) := by decide +kernel
theorem d_La_law_147 : decode m_La_law.2.1 147 = .ok (.if_icmp .eq 5, 3) := by decide +kernel
theorem d_La_law_152 : decode m_La_law.2.1 152 = .ok (.iload 5, 2) := by decide +kernel
theorem d_La_law_169 : decode m_La_law.2.1 169 = .ok (.goto 860, 3) := by decide +kernel
theorem d_La_law_154 : decode m_La_law.2.1 154 = .ok (.ifCond .ne 15, 3) := by decide +kernel
theorem d_La_law_157 : decode m_La_law.2.1 157 = .ok (.aload_n 3, 1) := by decide +kernel
theorem d_La_law_158 : decode m_La_law.2.1 158 = .ok (.iconst 0, 1) := by decide +kernel
theorem d_La_law_159 : decode m_La_law.2.1 159 = .ok (.laload, 1) := by decide +kernel
theorem d_La_law_160 : decode m_La_law.2.1 160 = .ok (.iload 6, 2) := by decide +kernel
theorem d_La_law_162 : decode m_La_law.2.1 162 = .ok (.i2l, 1) := by decide +kernel
theorem d_La_law_163 : decode m_La_law.2.1 163 = .ok (.lcmp, 1) := by decide +kernel
theorem d_La_law_164 : decode m_La_law.2.1 164 = .ok (.ifCond .eq 5, 3) := by decide +kernel
theorem law_define (hl : l.stackTraces = false) {P : jl_O → jl_S → Prop} (hL : G.2.2.2.2.2.2.1 ≤ 3072) (hn : 6 * n + 6 ≤ G.2.2.2.2.2.2.1) (hU : UI U) (hC : RC σ U) (hM : RM σ U fa) (h53 : σ[53]? = some (.inl (2, 1, .inr (.inl f)))) (hu1 : uc + 15 ≤ 601024) (hu2 : us + 417 ≤ 7293034) (k : ∀ (σ' : jl_S) (U' : Un) (fa' : Int32) (g : Nat → Int64), UI U' → RC σ' U' → RM σ' U' fa' → σ'[53]? = some (.inl (2, 1, .inr (.inl g))) → jl_E l G m_La_law (uc + 3, us + 18) 1029 [some (.retAddr G.2.2.2.2.2.1), some (.ref 0), some (.ref 22), some (.ref 53), some (.int (nI (6 * n))), none, none] [] σ' P) : jl_E l G m_La_law (uc, us) 104 [some (.retAddr G.2.2.2.2.2.1), some (.ref 0), some (.ref 22), some (.ref 53), some (.int (nI (6 * n))), none, none] [] σ P := by
  obtain ⟨c, v, U1, hU1, hc, h1, h2⟩ := co_define (G := G) hl hU hC (k := G.2.2.2.2.2.2.2 (6 * n + 1)) (b := G.2.2.2.2.2.2.2 (6 * n + 2))
  have hj := hC.j
  refine er_aload_n d_La_law_104 rfl ?_
  refine er_aload_nR d_La_law_105 rfl ?_
  refine er_iload d_La_law_106 rfl ?_
  refine er_iconst (nI 1) d_La_law_108 (by decide) ?_
  refine er_iaddN d_La_law_109 ?_
  refine er_sldN d_La_law_110 (by omega) (by omega) ?_
  refine er_aload_nR d_La_law_111 rfl ?_
  refine er_iload d_La_law_112 rfl ?_
  refine er_iconst (nI 2) d_La_law_114 (by decide) ?_
  refine er_iaddN d_La_law_115 ?_
  refine er_sldN d_La_law_116 (by omega) (by omega) ?_
  refine er_aload_n d_La_law_117 rfl ?_
  refine er_callSWE (As := [.ref 0, .int (G.2.2.2.2.2.2.2 (6 * n + 1)), .int (G.2.2.2.2.2.2.2 (6 * n + 2)), .ref 53]) d_La_law_118 k_La_law_62 rfl (Nat.le_of_ble_eq_true rfl) (by show uc + 3 ≤ 601024; omega) (by show us + 18 ≤ 7293034; omega) (la_define hl hj h53 hU1 hc h1 (fun g σ2 hrc hfr h532 hg0 => ⟨_, rfl, ?_⟩))
  show jl_E l G m_La_law (uc + 3, us + 18) 121 [some (.retAddr G.2.2.2.2.2.1), some (.ref 0), some (.ref 22), some (.ref 53), some (.int (nI (6 * n))), none, none] [.int (nI c)] σ2 P
  have hM2 : RM σ2 U fa := hM.fr hfr
  obtain ⟨fs2, hO2⟩ := hM2.o
  refine er_istore d_La_law_121 (by decide) ?_
  show jl_E l G m_La_law (uc + 3, us + 18) 123 [some (.retAddr G.2.2.2.2.2.1), some (.ref 0), some (.ref 22), some (.ref 53), some (.int (nI (6 * n))), some (.int (nI c)), none] [] σ2 P
  refine er_aload_n d_La_law_123 rfl ?_
  refine er_aload_nR d_La_law_124 rfl ?_
  refine er_iload d_La_law_125 rfl ?_
  refine er_iconst (nI 1) d_La_law_127 (by decide) ?_
  refine er_iaddN d_La_law_128 ?_
  refine er_sldN d_La_law_129 (by omega) (by omega) ?_
  refine er_aload_nR d_La_law_130 rfl ?_
  refine er_iload d_La_law_131 rfl ?_
  refine er_iconst (nI 2) d_La_law_133 (by decide) ?_
  refine er_iaddN d_La_law_134 ?_
  refine er_sldN d_La_law_135 (by omega) (by omega) ?_
  refine er_callVE (As := [.int (G.2.2.2.2.2.2.2 (6 * n + 1)), .int (G.2.2.2.2.2.2.2 (6 * n + 2))]) d_La_law_136 k_La_law_67 hO2 rfl rfl rfl (Nat.le_of_ble_eq_true rfl) (by show uc + 3 + 0 ≤ 601024; omega) (by show us + 18 + 0 ≤ 7293034; omega) (jl_mE.mono (h2 σ2 fa hM2) (fun o3 σ3 ho3 => ?_))
  obtain ⟨eo, hM3, hfx⟩ := ho3
  refine ⟨_, eo, ?_⟩
  show jl_E l G m_La_law (uc + 3, us + 18) 139 [some (.retAddr G.2.2.2.2.2.1), some (.ref 0), some (.ref 22), some (.ref 53), some (.int (nI (6 * n))), some (.int (nI c)), none] [.int v] σ3 P
  obtain ⟨fs3, hO3⟩ := hM3.o
  have h533 : σ3[53]? = some (.inl (2, 1, .inr (.inl g))) := (hfx.2 53 (by decide)).trans h532
  refine er_istore d_La_law_139 (by decide) ?_
  show jl_E l G m_La_law (uc + 3, us + 18) 141 [some (.retAddr G.2.2.2.2.2.1), some (.ref 0), some (.ref 22), some (.ref 53), some (.int (nI (6 * n))), some (.int (nI c)), some (.int v)] [] σ3 P
  refine er_aload_n d_La_law_141 rfl ?_
  refine er_callV (As := []) d_La_law_142 k_La_law_68 hO3 rfl rfl rfl (Nat.le_of_ble_eq_true rfl) (by show uc + 3 + 0 ≤ 601024; omega) (by show us + 18 + 0 ≤ 7293034; omega) (hM3.thr hl) ?_
  show jl_E l G m_La_law (uc + 3, us + 18) 145 [some (.retAddr G.2.2.2.2.2.1), some (.ref 0), some (.ref 22), some (.ref 53), some (.int (nI (6 * n))), some (.int (nI c)), some (.int v)] [.int (nI c)] σ3 P
  refine er_iload d_La_law_145 rfl ?_
  refine er_icmp_eq 152 d_La_law_147 (by decide) (fun _ => ?_) (fun z => absurd rfl z)
  refine er_iload d_La_law_152 rfl ?_
  have hk : jl_E l G m_La_law (uc + 3, us + 18) 169 [some (.retAddr G.2.2.2.2.2.1), some (.ref 0), some (.ref 22), some (.ref 53), some (.int (nI (6 * n))), some (.int (nI c)), some (.int v)] [] σ3 P := er_weak (ls' := [some (.retAddr G.2.2.2.2.2.1), some (.ref 0), some (.ref 22), some (.ref 53), some (.int (nI (6 * n))), none, none]) (fun q v hv => by match q, hv with | 0, hv => exact hv | 1, hv => exact hv | 2, hv => exact hv | 3, hv => exact hv | 4, hv => exact hv | 5, hv => cases hv | 6, hv => cases hv | q + 7, hv => cases hv) (er_goto 1029 d_La_law_169 (by decide) (k σ3 U1 (nI c) g hU1 (hrc.fr hU1 hfx) hM3 h533))
  refine er_if_ne 169 d_La_law_154 (by decide) (fun _ => hk) (fun zc => ?_)
  have c0 : c = 0 := by
    have hc5 : c ≤ 2 := hc
    rw [← nI_0, nI_eq (by omega) (by omega)] at zc
    exact zc
  refine er_aload_n d_La_law_157 rfl ?_
  refine er_iconst (nI 0) d_La_law_158 (by decide) ?_
  refine er_lald d_La_law_159 h533 vp_in0 ?_
  refine er_iload d_La_law_160 rfl ?_
  refine er_i2l d_La_law_162 ?_
  refine er_lcmp d_La_law_163 ?_
  refine er_if_eq 169 d_La_law_164 (by decide) (fun _ => hk) (fun zl => absurd ?_ zl)
  have e0 : g (nI 0).toNatClampNeg = v.toInt64 := hg0 c0
  rw [e0]
  exact lg_self _
theorem d_La_law_172 : decode m_La_law.2.1 172 = .ok (.aload_n 1, 1) := by decide +kernel
theorem d_La_law_173 : decode m_La_law.2.1 173 = .ok (.aload_n 0, 1) := by decide +kernel
theorem d_La_law_174 : decode m_La_law.2.1 174 = .ok (.iload 4, 2) := by decide +kernel
theorem d_La_law_176 : decode m_La_law.2.1 176 = .ok (.iconst 1, 1) := by decide +kernel
theorem d_La_law_177 : decode m_La_law.2.1 177 = .ok (.iadd, 1) := by decide +kernel
theorem d_La_law_178 : decode m_La_law.2.1 178 = .ok (.iaload, 1) := by decide +kernel
theorem d_La_law_179 : decode m_La_law.2.1 179 = .ok (.aload_n 0, 1) := by decide +kernel
theorem d_La_law_180 : decode m_La_law.2.1 180 = .ok (.iload 4, 2) := by decide +kernel
theorem d_La_law_182 : decode m_La_law.2.1 182 = .ok (.iconst 2, 1) := by decide +kernel
theorem d_La_law_183 : decode m_La_law.2.1 183 = .ok (.iadd, 1) := by decide +kernel
theorem d_La_law_184 : decode m_La_law.2.1 184 = .ok (.iaload, 1) := by decide +kernel
theorem d_La_law_185 : decode m_La_law.2.1 185 = .ok (.aload_n 3, 1) := by decide +kernel
theorem k_La_law_71 : jl_cw m_La_law m_La_field [(0, 10, 13, 13), (0, 10, 17, 20), (0, 10, 21, 15)] 71 4 = true := by decide +kernel
theorem d_La_law_186 : decode m_La_law.2.1 186 = .ok (.invokestatic 71, 3) := by decide +kernel
theorem d_La_law_189 : decode m_La_law.2.1 189 = .ok (.istore 5, 2) := by decide +kernel
theorem d_La_law_191 : decode m_La_law.2.1 191 = .ok (.aload_n 2, 1) := by decide +kernel
theorem d_La_law_192 : decode m_La_law.2.1 192 = .ok (.aload_n 0, 1) := by decide +kernel
theorem d_La_law_193 : decode m_La_law.2.1 193 = .ok (.iload 4, 2) := by decide +kernel
theorem d_La_law_195 : decode m_La_law.2.1 195 = .ok (.iconst 1, 1) := by decide +kernel
theorem d_La_law_196 : decode m_La_law.2.1 196 = .ok (.iadd, 1) := by decide +kernel
theorem d_La_law_197 : decode m_La_law.2.1 197 = .ok (.iaload, 1) := by decide +kernel
theorem d_La_law_198 : decode m_La_law.2.1 198 = .ok (.aload_n 0, 1) := by decide +kernel
theorem d_La_law_199 : decode m_La_law.2.1 199 = .ok (.iload 4, 2) := by decide +kernel
theorem d_La_law_201 : decode m_La_law.2.1 201 = .ok (.iconst 2, 1) := by decide +kernel
theorem d_La_law_202 : decode m_La_law.2.1 202 = .ok (.iadd, 1) := by decide +kernel
theorem d_La_law_203 : decode m_La_law.2.1 203 = .ok (.iaload, 1) := by decide +kernel
theorem k_La_law_73 : jl_cv m_La_law m_Mo_field 73 2 = true := by decide +kernel
theorem d_La_law_204 : decode m_La_law.2.1 204 = .ok (.invokevirtual 73, 3) := by decide +kernel
theorem d_La_law_207 : decode m_La_law.2.1 207 = .ok (.istore 6, 2) := by decide +kernel
theorem d_La_law_209 : decode m_La_law.2.1 209 = .ok (.aload_n 2, 1) := by decide +kernel
theorem d_La_law_210 : decode m_La_law.2.1 210 = .ok (.invokevirtual 68, 3) := by decide +kernel
theorem d_La_law_213 : decode m_La_law.2.1 213 = .ok (.iload 5, 2) := by decide +kernel
theorem d_La_law_215 : decode m_La_law.2.1 215 = .ok (.if_icmp .eq 5, 3) := by decide +kernel
theorem d_La_law_220 : decode m_La_law.2.1 220 = .ok (.iload 5, 2) := by decide +kernel
theorem d_La_law_237 : decode m_La_law.2.1 237 = .ok (.goto 792, 3) := by decide +kernel
theorem d_La_law_222 : decode m_La_law.2.1 222 = .ok (.ifCond .ne 15, 3) := by decide +kernel
theorem d_La_law_225 : decode m_La_law.2.1 225 = .ok (.aload_n 3, 1) := by decide +kernel
theorem d_La_law_226 : decode m_La_law.2.1 226 = .ok (.iconst 0, 1) := by decide +kernel
theorem d_La_law_227 : decode m_La_law.2.1 227 = .ok (.laload, 1) := by decide +kernel
theorem d_La_law_228 : decode m_La_law.2.1 228 = .ok (.iload 6, 2) := by decide +kernel
theorem d_La_law_230 : decode m_La_law.2.1 230 = .ok (.i2l, 1) := by decide +kernel
theorem d_La_law_231 : decode m_La_law.2.1 231 = .ok (.lcmp, 1) := by decide +kernel
theorem d_La_law_232 : decode m_La_law.2.1 232 = .ok (.ifCond .eq 5, 3) := by decide +kernel
theorem law_field (hl : l.stackTraces = false) {P : jl_O → jl_S → Prop} (hL : G.2.2.2.2.2.2.1 ≤ 3072) (hn : 6 * n + 6 ≤ G.2.2.2.2.2.2.1) (hU : UI U) (hC : RC σ U) (hM : RM σ U fa) (h53 : σ[53]? = some (.inl (2, 1, .inr (.inl f)))) (hu1 : uc + 15 ≤ 601024) (hu2 : us + 417 ≤ 7293034) (k : ∀ (σ' : jl_S) (U' : Un) (fa' : Int32) (g : Nat → Int64), UI U' → RC σ' U' → RM σ' U' fa' → σ'[53]? = some (.inl (2, 1, .inr (.inl g))) → jl_E l G m_La_law (uc + 4, us + 24) 1029 [some (.retAddr G.2.2.2.2.2.1), some (.ref 0), some (.ref 22), some (.ref 53), some (.int (nI (6 * n))), none, none] [] σ' P) : jl_E l G m_La_law (uc, us) 172 [some (.retAddr G.2.2.2.2.2.1), some (.ref 0), some (.ref 22), some (.ref 53), some (.int (nI (6 * n))), none, none] [] σ P := by
  obtain ⟨c, v, U1, hU1, hc, h1, h2⟩ := co_field (G := G) hl hU hC (k := G.2.2.2.2.2.2.2 (6 * n + 1)) (t := G.2.2.2.2.2.2.2 (6 * n + 2))
  have hj := hC.j
  refine er_aload_n d_La_law_172 rfl ?_
  refine er_aload_nR d_La_law_173 rfl ?_
  refine er_iload d_La_law_174 rfl ?_
  refine er_iconst (nI 1) d_La_law_176 (by decide) ?_
  refine er_iaddN d_La_law_177 ?_
  refine er_sldN d_La_law_178 (by omega) (by omega) ?_
  refine er_aload_nR d_La_law_179 rfl ?_
  refine er_iload d_La_law_180 rfl ?_
  refine er_iconst (nI 2) d_La_law_182 (by decide) ?_
  refine er_iaddN d_La_law_183 ?_
  refine er_sldN d_La_law_184 (by omega) (by omega) ?_
  refine er_aload_n d_La_law_185 rfl ?_
  refine er_callSWE (As := [.ref 0, .int (G.2.2.2.2.2.2.2 (6 * n + 1)), .int (G.2.2.2.2.2.2.2 (6 * n + 2)), .ref 53]) d_La_law_186 k_La_law_71 rfl (Nat.le_of_ble_eq_true rfl) (by show uc + 4 ≤ 601024; omega) (by show us + 24 ≤ 7293034; omega) (la_field hl hj h53 hU1 hc h1 (fun g σ2 hrc hfr h532 hg0 => ⟨_, rfl, ?_⟩))
  show jl_E l G m_La_law (uc + 4, us + 24) 189 [some (.retAddr G.2.2.2.2.2.1), some (.ref 0), some (.ref 22), some (.ref 53), some (.int (nI (6 * n))), none, none] [.int (nI c)] σ2 P
  have hM2 : RM σ2 U fa := hM.fr hfr
  obtain ⟨fs2, hO2⟩ := hM2.o
  refine er_istore d_La_law_189 (by decide) ?_
  show jl_E l G m_La_law (uc + 4, us + 24) 191 [some (.retAddr G.2.2.2.2.2.1), some (.ref 0), some (.ref 22), some (.ref 53), some (.int (nI (6 * n))), some (.int (nI c)), none] [] σ2 P
  refine er_aload_n d_La_law_191 rfl ?_
  refine er_aload_nR d_La_law_192 rfl ?_
  refine er_iload d_La_law_193 rfl ?_
  refine er_iconst (nI 1) d_La_law_195 (by decide) ?_
  refine er_iaddN d_La_law_196 ?_
  refine er_sldN d_La_law_197 (by omega) (by omega) ?_
  refine er_aload_nR d_La_law_198 rfl ?_
  refine er_iload d_La_law_199 rfl ?_
  refine er_iconst (nI 2) d_La_law_201 (by decide) ?_
  refine er_iaddN d_La_law_202 ?_
  refine er_sldN d_La_law_203 (by omega) (by omega) ?_
  refine er_callVE (As := [.int (G.2.2.2.2.2.2.2 (6 * n + 1)), .int (G.2.2.2.2.2.2.2 (6 * n + 2))]) d_La_law_204 k_La_law_73 hO2 rfl rfl rfl (Nat.le_of_ble_eq_true rfl) (by show uc + 4 + 0 ≤ 601024; omega) (by show us + 24 + 0 ≤ 7293034; omega) (jl_mE.mono (h2 σ2 fa hM2) (fun o3 σ3 ho3 => ?_))
  obtain ⟨eo, hM3, hfx⟩ := ho3
  refine ⟨_, eo, ?_⟩
  show jl_E l G m_La_law (uc + 4, us + 24) 207 [some (.retAddr G.2.2.2.2.2.1), some (.ref 0), some (.ref 22), some (.ref 53), some (.int (nI (6 * n))), some (.int (nI c)), none] [.int v] σ3 P
  obtain ⟨fs3, hO3⟩ := hM3.o
  have h533 : σ3[53]? = some (.inl (2, 1, .inr (.inl g))) := (hfx.2 53 (by decide)).trans h532
  refine er_istore d_La_law_207 (by decide) ?_
  show jl_E l G m_La_law (uc + 4, us + 24) 209 [some (.retAddr G.2.2.2.2.2.1), some (.ref 0), some (.ref 22), some (.ref 53), some (.int (nI (6 * n))), some (.int (nI c)), some (.int v)] [] σ3 P
  refine er_aload_n d_La_law_209 rfl ?_
  refine er_callV (As := []) d_La_law_210 k_La_law_68 hO3 rfl rfl rfl (Nat.le_of_ble_eq_true rfl) (by show uc + 4 + 0 ≤ 601024; omega) (by show us + 24 + 0 ≤ 7293034; omega) (hM3.thr hl) ?_
  show jl_E l G m_La_law (uc + 4, us + 24) 213 [some (.retAddr G.2.2.2.2.2.1), some (.ref 0), some (.ref 22), some (.ref 53), some (.int (nI (6 * n))), some (.int (nI c)), some (.int v)] [.int (nI c)] σ3 P
  refine er_iload d_La_law_213 rfl ?_
  refine er_icmp_eq 220 d_La_law_215 (by decide) (fun _ => ?_) (fun z => absurd rfl z)
  refine er_iload d_La_law_220 rfl ?_
  have hk : jl_E l G m_La_law (uc + 4, us + 24) 237 [some (.retAddr G.2.2.2.2.2.1), some (.ref 0), some (.ref 22), some (.ref 53), some (.int (nI (6 * n))), some (.int (nI c)), some (.int v)] [] σ3 P := er_weak (ls' := [some (.retAddr G.2.2.2.2.2.1), some (.ref 0), some (.ref 22), some (.ref 53), some (.int (nI (6 * n))), none, none]) (fun q v hv => by match q, hv with | 0, hv => exact hv | 1, hv => exact hv | 2, hv => exact hv | 3, hv => exact hv | 4, hv => exact hv | 5, hv => cases hv | 6, hv => cases hv | q + 7, hv => cases hv) (er_goto 1029 d_La_law_237 (by decide) (k σ3 U1 (nI c) g hU1 (hrc.fr hU1 hfx) hM3 h533))
  refine er_if_ne 237 d_La_law_222 (by decide) (fun _ => hk) (fun zc => ?_)
  have c0 : c = 0 := by
    have hc5 : c ≤ 3 := hc
    rw [← nI_0, nI_eq (by omega) (by omega)] at zc
    exact zc
  refine er_aload_n d_La_law_225 rfl ?_
  refine er_iconst (nI 0) d_La_law_226 (by decide) ?_
  refine er_lald d_La_law_227 h533 vp_in0 ?_
  refine er_iload d_La_law_228 rfl ?_
  refine er_i2l d_La_law_230 ?_
  refine er_lcmp d_La_law_231 ?_
  refine er_if_eq 237 d_La_law_232 (by decide) (fun _ => hk) (fun zl => absurd ?_ zl)
  have e0 : g (nI 0).toNatClampNeg = v.toInt64 := hg0 c0
  rw [e0]
  exact lg_self _
theorem d_La_law_240 : decode m_La_law.2.1 240 = .ok (.aload_n 1, 1) := by decide +kernel
theorem d_La_law_241 : decode m_La_law.2.1 241 = .ok (.aload_n 0, 1) := by decide +kernel
theorem d_La_law_242 : decode m_La_law.2.1 242 = .ok (.iload 4, 2) := by decide +kernel
theorem d_La_law_244 : decode m_La_law.2.1 244 = .ok (.iconst 1, 1) := by decide +kernel
theorem d_La_law_245 : decode m_La_law.2.1 245 = .ok (.iadd, 1) := by decide +kernel
theorem d_La_law_246 : decode m_La_law.2.1 246 = .ok (.iaload, 1) := by decide +kernel
theorem d_La_law_247 : decode m_La_law.2.1 247 = .ok (.aload_n 0, 1) := by decide +kernel
theorem d_La_law_248 : decode m_La_law.2.1 248 = .ok (.iload 4, 2) := by decide +kernel
theorem d_La_law_250 : decode m_La_law.2.1 250 = .ok (.iconst 2, 1) := by decide +kernel
theorem d_La_law_251 : decode m_La_law.2.1 251 = .ok (.iadd, 1) := by decide +kernel
theorem d_La_law_252 : decode m_La_law.2.1 252 = .ok (.iaload, 1) := by decide +kernel
theorem d_La_law_253 : decode m_La_law.2.1 253 = .ok (.aload_n 0, 1) := by decide +kernel
theorem d_La_law_254 : decode m_La_law.2.1 254 = .ok (.iload 4, 2) := by decide +kernel
theorem d_La_law_256 : decode m_La_law.2.1 256 = .ok (.iconst 3, 1) := by decide +kernel
theorem d_La_law_257 : decode m_La_law.2.1 257 = .ok (.iadd, 1) := by decide +kernel
theorem d_La_law_258 : decode m_La_law.2.1 258 = .ok (.iaload, 1) := by decide +kernel
theorem d_La_law_259 : decode m_La_law.2.1 259 = .ok (.aload_n 0, 1) := by decide +kernel
theorem d_La_law_260 : decode m_La_law.2.1 260 = .ok (.iload 4, 2) := by decide +kernel
theorem d_La_law_262 : decode m_La_law.2.1 262 = .ok (.iconst 4, 1) := by decide +kernel
theorem d_La_law_263 : decode m_La_law.2.1 263 = .ok (.iadd, 1) := by decide +kernel
theorem d_La_law_264 : decode m_La_law.2.1 264 = .ok (.iaload, 1) := by decide +kernel
theorem d_La_law_265 : decode m_La_law.2.1 265 = .ok (.aload_n 0, 1) := by decide +kernel
theorem d_La_law_266 : decode m_La_law.2.1 266 = .ok (.iload 4, 2) := by decide +kernel
theorem d_La_law_268 : decode m_La_law.2.1 268 = .ok (.iconst 5, 1) := by decide +kernel
theorem d_La_law_269 : decode m_La_law.2.1 269 = .ok (.iadd, 1) := by decide +kernel
theorem d_La_law_270 : decode m_La_law.2.1 270 = .ok (.iaload, 1) := by decide +kernel
theorem d_La_law_271 : decode m_La_law.2.1 271 = .ok (.aload_n 3, 1) := by decide +kernel
theorem k_La_law_74 : jl_cw m_La_law m_La_method [(0, 16, 19, 13), (0, 16, 23, 20), (0, 16, 27, 15)] 74 7 = true := by decide +kernel
theorem d_La_law_272 : decode m_La_law.2.1 272 = .ok (.invokestatic 74, 3) := by decide +kernel
theorem d_La_law_275 : decode m_La_law.2.1 275 = .ok (.istore 5, 2) := by decide +kernel
theorem d_La_law_277 : decode m_La_law.2.1 277 = .ok (.aload_n 2, 1) := by decide +kernel
theorem d_La_law_278 : decode m_La_law.2.1 278 = .ok (.aload_n 0, 1) := by decide +kernel
theorem d_La_law_279 : decode m_La_law.2.1 279 = .ok (.iload 4, 2) := by decide +kernel
theorem d_La_law_281 : decode m_La_law.2.1 281 = .ok (.iconst 1, 1) := by decide +kernel
theorem d_La_law_282 : decode m_La_law.2.1 282 = .ok (.iadd, 1) := by decide +kernel
theorem d_La_law_283 : decode m_La_law.2.1 283 = .ok (.iaload, 1) := by decide +kernel
theorem d_La_law_284 : decode m_La_law.2.1 284 = .ok (.aload_n 0, 1) := by decide +kernel
theorem d_La_law_285 : decode m_La_law.2.1 285 = .ok (.iload 4, 2) := by decide +kernel
theorem d_La_law_287 : decode m_La_law.2.1 287 = .ok (.iconst 2, 1) := by decide +kernel
theorem d_La_law_288 : decode m_La_law.2.1 288 = .ok (.iadd, 1) := by decide +kernel
theorem d_La_law_289 : decode m_La_law.2.1 289 = .ok (.iaload, 1) := by decide +kernel
theorem d_La_law_290 : decode m_La_law.2.1 290 = .ok (.aload_n 0, 1) := by decide +kernel
theorem d_La_law_291 : decode m_La_law.2.1 291 = .ok (.iload 4, 2) := by decide +kernel
theorem d_La_law_293 : decode m_La_law.2.1 293 = .ok (.iconst 3, 1) := by decide +kernel
theorem d_La_law_294 : decode m_La_law.2.1 294 = .ok (.iadd, 1) := by decide +kernel
theorem d_La_law_295 : decode m_La_law.2.1 295 = .ok (.iaload, 1) := by decide +kernel
theorem d_La_law_296 : decode m_La_law.2.1 296 = .ok (.aload_n 0, 1) := by decide +kernel
theorem d_La_law_297 : decode m_La_law.2.1 297 = .ok (.iload 4, 2) := by decide +kernel
theorem d_La_law_299 : decode m_La_law.2.1 299 = .ok (.iconst 4, 1) := by decide +kernel
theorem d_La_law_300 : decode m_La_law.2.1 300 = .ok (.iadd, 1) := by decide +kernel
theorem d_La_law_301 : decode m_La_law.2.1 301 = .ok (.iaload, 1) := by decide +kernel
theorem d_La_law_302 : decode m_La_law.2.1 302 = .ok (.aload_n 0, 1) := by decide +kernel
theorem d_La_law_303 : decode m_La_law.2.1 303 = .ok (.iload 4, 2) := by decide +kernel
theorem d_La_law_305 : decode m_La_law.2.1 305 = .ok (.iconst 5, 1) := by decide +kernel
theorem d_La_law_306 : decode m_La_law.2.1 306 = .ok (.iadd, 1) := by decide +kernel
theorem d_La_law_307 : decode m_La_law.2.1 307 = .ok (.iaload, 1) := by decide +kernel
theorem k_La_law_77 : jl_cv m_La_law m_Mo_method 77 5 = true := by decide +kernel
theorem d_La_law_308 : decode m_La_law.2.1 308 = .ok (.invokevirtual 77, 3) := by decide +kernel
theorem d_La_law_311 : decode m_La_law.2.1 311 = .ok (.istore 6, 2) := by decide +kernel
theorem d_La_law_313 : decode m_La_law.2.1 313 = .ok (.aload_n 2, 1) := by decide +kernel
theorem d_La_law_314 : decode m_La_law.2.1 314 = .ok (.invokevirtual 68, 3) := by decide +kernel
theorem d_La_law_317 : decode m_La_law.2.1 317 = .ok (.iload 5, 2) := by decide +kernel
theorem d_La_law_319 : decode m_La_law.2.1 319 = .ok (.if_icmp .eq 5, 3) := by decide +kernel
theorem d_La_law_324 : decode m_La_law.2.1 324 = .ok (.iload 5, 2) := by decide +kernel
theorem d_La_law_341 : decode m_La_law.2.1 341 = .ok (.goto 688, 3) := by decide +kernel
theorem d_La_law_326 : decode m_La_law.2.1 326 = .ok (.ifCond .ne 15, 3) := by decide +kernel
theorem d_La_law_329 : decode m_La_law.2.1 329 = .ok (.aload_n 3, 1) := by decide +kernel
theorem d_La_law_330 : decode m_La_law.2.1 330 = .ok (.iconst 0, 1) := by decide +kernel
theorem d_La_law_331 : decode m_La_law.2.1 331 = .ok (.laload, 1) := by decide +kernel
theorem d_La_law_332 : decode m_La_law.2.1 332 = .ok (.iload 6, 2) := by decide +kernel
theorem d_La_law_334 : decode m_La_law.2.1 334 = .ok (.i2l, 1) := by decide +kernel
theorem d_La_law_335 : decode m_La_law.2.1 335 = .ok (.lcmp, 1) := by decide +kernel
theorem d_La_law_336 : decode m_La_law.2.1 336 = .ok (.ifCond .eq 5, 3) := by decide +kernel
theorem law_method (hl : l.stackTraces = false) {P : jl_O → jl_S → Prop} (hL : G.2.2.2.2.2.2.1 ≤ 3072) (hn : 6 * n + 6 ≤ G.2.2.2.2.2.2.1) (hU : UI U) (hC : RC σ U) (hM : RM σ U fa) (h53 : σ[53]? = some (.inl (2, 1, .inr (.inl f)))) (hu1 : uc + 15 ≤ 601024) (hu2 : us + 417 ≤ 7293034) (k : ∀ (σ' : jl_S) (U' : Un) (fa' : Int32) (g : Nat → Int64), UI U' → RC σ' U' → RM σ' U' fa' → σ'[53]? = some (.inl (2, 1, .inr (.inl g))) → jl_E l G m_La_law (uc + 15, us + 417) 1029 [some (.retAddr G.2.2.2.2.2.1), some (.ref 0), some (.ref 22), some (.ref 53), some (.int (nI (6 * n))), none, none] [] σ' P) : jl_E l G m_La_law (uc, us) 240 [some (.retAddr G.2.2.2.2.2.1), some (.ref 0), some (.ref 22), some (.ref 53), some (.int (nI (6 * n))), none, none] [] σ P := by
  obtain ⟨c, v, U1, hU1, hc, h1, h2⟩ := co_method (G := G) hl hU hC (k := G.2.2.2.2.2.2.2 (6 * n + 1)) (sl := G.2.2.2.2.2.2.2 (6 * n + 2)) (p := G.2.2.2.2.2.2.2 (6 * n + 3)) (q := G.2.2.2.2.2.2.2 (6 * n + 4)) (r := G.2.2.2.2.2.2.2 (6 * n + 5))
  have hj := hC.j
  refine er_aload_n d_La_law_240 rfl ?_
  refine er_aload_nR d_La_law_241 rfl ?_
  refine er_iload d_La_law_242 rfl ?_
  refine er_iconst (nI 1) d_La_law_244 (by decide) ?_
  refine er_iaddN d_La_law_245 ?_
  refine er_sldN d_La_law_246 (by omega) (by omega) ?_
  refine er_aload_nR d_La_law_247 rfl ?_
  refine er_iload d_La_law_248 rfl ?_
  refine er_iconst (nI 2) d_La_law_250 (by decide) ?_
  refine er_iaddN d_La_law_251 ?_
  refine er_sldN d_La_law_252 (by omega) (by omega) ?_
  refine er_aload_nR d_La_law_253 rfl ?_
  refine er_iload d_La_law_254 rfl ?_
  refine er_iconst (nI 3) d_La_law_256 (by decide) ?_
  refine er_iaddN d_La_law_257 ?_
  refine er_sldN d_La_law_258 (by omega) (by omega) ?_
  refine er_aload_nR d_La_law_259 rfl ?_
  refine er_iload d_La_law_260 rfl ?_
  refine er_iconst (nI 4) d_La_law_262 (by decide) ?_
  refine er_iaddN d_La_law_263 ?_
  refine er_sldN d_La_law_264 (by omega) (by omega) ?_
  refine er_aload_nR d_La_law_265 rfl ?_
  refine er_iload d_La_law_266 rfl ?_
  refine er_iconst (nI 5) d_La_law_268 (by decide) ?_
  refine er_iaddN d_La_law_269 ?_
  refine er_sldN d_La_law_270 (by omega) (by omega) ?_
  refine er_aload_n d_La_law_271 rfl ?_
  refine er_callSWE (As := [.ref 0, .int (G.2.2.2.2.2.2.2 (6 * n + 1)), .int (G.2.2.2.2.2.2.2 (6 * n + 2)), .int (G.2.2.2.2.2.2.2 (6 * n + 3)), .int (G.2.2.2.2.2.2.2 (6 * n + 4)), .int (G.2.2.2.2.2.2.2 (6 * n + 5)), .ref 53]) d_La_law_272 k_La_law_74 rfl (Nat.le_of_ble_eq_true rfl) (by show uc + 15 ≤ 601024; omega) (by show us + 417 ≤ 7293034; omega) (la_method hl hj h53 hU1 hc h1 (fun g σ2 hrc hfr h532 hg0 => ⟨_, rfl, ?_⟩))
  show jl_E l G m_La_law (uc + 15, us + 417) 275 [some (.retAddr G.2.2.2.2.2.1), some (.ref 0), some (.ref 22), some (.ref 53), some (.int (nI (6 * n))), none, none] [.int (nI c)] σ2 P
  have hM2 : RM σ2 U fa := hM.fr hfr
  obtain ⟨fs2, hO2⟩ := hM2.o
  refine er_istore d_La_law_275 (by decide) ?_
  show jl_E l G m_La_law (uc + 15, us + 417) 277 [some (.retAddr G.2.2.2.2.2.1), some (.ref 0), some (.ref 22), some (.ref 53), some (.int (nI (6 * n))), some (.int (nI c)), none] [] σ2 P
  refine er_aload_n d_La_law_277 rfl ?_
  refine er_aload_nR d_La_law_278 rfl ?_
  refine er_iload d_La_law_279 rfl ?_
  refine er_iconst (nI 1) d_La_law_281 (by decide) ?_
  refine er_iaddN d_La_law_282 ?_
  refine er_sldN d_La_law_283 (by omega) (by omega) ?_
  refine er_aload_nR d_La_law_284 rfl ?_
  refine er_iload d_La_law_285 rfl ?_
  refine er_iconst (nI 2) d_La_law_287 (by decide) ?_
  refine er_iaddN d_La_law_288 ?_
  refine er_sldN d_La_law_289 (by omega) (by omega) ?_
  refine er_aload_nR d_La_law_290 rfl ?_
  refine er_iload d_La_law_291 rfl ?_
  refine er_iconst (nI 3) d_La_law_293 (by decide) ?_
  refine er_iaddN d_La_law_294 ?_
  refine er_sldN d_La_law_295 (by omega) (by omega) ?_
  refine er_aload_nR d_La_law_296 rfl ?_
  refine er_iload d_La_law_297 rfl ?_
  refine er_iconst (nI 4) d_La_law_299 (by decide) ?_
  refine er_iaddN d_La_law_300 ?_
  refine er_sldN d_La_law_301 (by omega) (by omega) ?_
  refine er_aload_nR d_La_law_302 rfl ?_
  refine er_iload d_La_law_303 rfl ?_
  refine er_iconst (nI 5) d_La_law_305 (by decide) ?_
  refine er_iaddN d_La_law_306 ?_
  refine er_sldN d_La_law_307 (by omega) (by omega) ?_
  refine er_callVE (As := [.int (G.2.2.2.2.2.2.2 (6 * n + 1)), .int (G.2.2.2.2.2.2.2 (6 * n + 2)), .int (G.2.2.2.2.2.2.2 (6 * n + 3)), .int (G.2.2.2.2.2.2.2 (6 * n + 4)), .int (G.2.2.2.2.2.2.2 (6 * n + 5))]) d_La_law_308 k_La_law_77 hO2 rfl rfl rfl (Nat.le_of_ble_eq_true rfl) (by show uc + 15 + 0 ≤ 601024; omega) (by show us + 417 + 0 ≤ 7293034; omega) (jl_mE.mono (h2 σ2 fa hM2) (fun o3 σ3 ho3 => ?_))
  obtain ⟨eo, hM3, hfx⟩ := ho3
  refine ⟨_, eo, ?_⟩
  show jl_E l G m_La_law (uc + 15, us + 417) 311 [some (.retAddr G.2.2.2.2.2.1), some (.ref 0), some (.ref 22), some (.ref 53), some (.int (nI (6 * n))), some (.int (nI c)), none] [.int v] σ3 P
  obtain ⟨fs3, hO3⟩ := hM3.o
  have h533 : σ3[53]? = some (.inl (2, 1, .inr (.inl g))) := (hfx.2 53 (by decide)).trans h532
  refine er_istore d_La_law_311 (by decide) ?_
  show jl_E l G m_La_law (uc + 15, us + 417) 313 [some (.retAddr G.2.2.2.2.2.1), some (.ref 0), some (.ref 22), some (.ref 53), some (.int (nI (6 * n))), some (.int (nI c)), some (.int v)] [] σ3 P
  refine er_aload_n d_La_law_313 rfl ?_
  refine er_callV (As := []) d_La_law_314 k_La_law_68 hO3 rfl rfl rfl (Nat.le_of_ble_eq_true rfl) (by show uc + 15 + 0 ≤ 601024; omega) (by show us + 417 + 0 ≤ 7293034; omega) (hM3.thr hl) ?_
  show jl_E l G m_La_law (uc + 15, us + 417) 317 [some (.retAddr G.2.2.2.2.2.1), some (.ref 0), some (.ref 22), some (.ref 53), some (.int (nI (6 * n))), some (.int (nI c)), some (.int v)] [.int (nI c)] σ3 P
  refine er_iload d_La_law_317 rfl ?_
  refine er_icmp_eq 324 d_La_law_319 (by decide) (fun _ => ?_) (fun z => absurd rfl z)
  refine er_iload d_La_law_324 rfl ?_
  have hk : jl_E l G m_La_law (uc + 15, us + 417) 341 [some (.retAddr G.2.2.2.2.2.1), some (.ref 0), some (.ref 22), some (.ref 53), some (.int (nI (6 * n))), some (.int (nI c)), some (.int v)] [] σ3 P := er_weak (ls' := [some (.retAddr G.2.2.2.2.2.1), some (.ref 0), some (.ref 22), some (.ref 53), some (.int (nI (6 * n))), none, none]) (fun q v hv => by match q, hv with | 0, hv => exact hv | 1, hv => exact hv | 2, hv => exact hv | 3, hv => exact hv | 4, hv => exact hv | 5, hv => cases hv | 6, hv => cases hv | q + 7, hv => cases hv) (er_goto 1029 d_La_law_341 (by decide) (k σ3 U1 (nI c) g hU1 (hrc.fr hU1 hfx) hM3 h533))
  refine er_if_ne 341 d_La_law_326 (by decide) (fun _ => hk) (fun zc => ?_)
  have c0 : c = 0 := by
    have hc5 : c ≤ 3 := hc
    rw [← nI_0, nI_eq (by omega) (by omega)] at zc
    exact zc
  refine er_aload_n d_La_law_329 rfl ?_
  refine er_iconst (nI 0) d_La_law_330 (by decide) ?_
  refine er_lald d_La_law_331 h533 vp_in0 ?_
  refine er_iload d_La_law_332 rfl ?_
  refine er_i2l d_La_law_334 ?_
  refine er_lcmp d_La_law_335 ?_
  refine er_if_eq 341 d_La_law_336 (by decide) (fun _ => hk) (fun zl => absurd ?_ zl)
  have e0 : g (nI 0).toNatClampNeg = v.toInt64 := hg0 c0
  rw [e0]
  exact lg_self _
theorem d_La_law_344 : decode m_La_law.2.1 344 = .ok (.aload_n 1, 1) := by decide +kernel
theorem d_La_law_345 : decode m_La_law.2.1 345 = .ok (.aload_n 0, 1) := by decide +kernel
theorem d_La_law_346 : decode m_La_law.2.1 346 = .ok (.iload 4, 2) := by decide +kernel
theorem d_La_law_348 : decode m_La_law.2.1 348 = .ok (.iconst 1, 1) := by decide +kernel
theorem d_La_law_349 : decode m_La_law.2.1 349 = .ok (.iadd, 1) := by decide +kernel
theorem d_La_law_350 : decode m_La_law.2.1 350 = .ok (.iaload, 1) := by decide +kernel
theorem d_La_law_351 : decode m_La_law.2.1 351 = .ok (.aload_n 0, 1) := by decide +kernel
theorem d_La_law_352 : decode m_La_law.2.1 352 = .ok (.iload 4, 2) := by decide +kernel
theorem d_La_law_354 : decode m_La_law.2.1 354 = .ok (.iconst 2, 1) := by decide +kernel
theorem d_La_law_355 : decode m_La_law.2.1 355 = .ok (.iadd, 1) := by decide +kernel
theorem d_La_law_356 : decode m_La_law.2.1 356 = .ok (.iaload, 1) := by decide +kernel
theorem d_La_law_357 : decode m_La_law.2.1 357 = .ok (.aload_n 0, 1) := by decide +kernel
theorem d_La_law_358 : decode m_La_law.2.1 358 = .ok (.iload 4, 2) := by decide +kernel
theorem d_La_law_360 : decode m_La_law.2.1 360 = .ok (.iconst 3, 1) := by decide +kernel
theorem d_La_law_361 : decode m_La_law.2.1 361 = .ok (.iadd, 1) := by decide +kernel
theorem d_La_law_362 : decode m_La_law.2.1 362 = .ok (.iaload, 1) := by decide +kernel
theorem d_La_law_363 : decode m_La_law.2.1 363 = .ok (.aload_n 0, 1) := by decide +kernel
theorem d_La_law_364 : decode m_La_law.2.1 364 = .ok (.iload 4, 2) := by decide +kernel
theorem d_La_law_366 : decode m_La_law.2.1 366 = .ok (.iconst 4, 1) := by decide +kernel
theorem d_La_law_367 : decode m_La_law.2.1 367 = .ok (.iadd, 1) := by decide +kernel
theorem d_La_law_368 : decode m_La_law.2.1 368 = .ok (.iaload, 1) := by decide +kernel
theorem d_La_law_369 : decode m_La_law.2.1 369 = .ok (.aload_n 3, 1) := by decide +kernel
theorem k_La_law_78 : jl_cw m_La_law m_La_code [(0, 14, 17, 13), (0, 14, 21, 20), (0, 14, 25, 15)] 78 6 = true := by decide +kernel
theorem d_La_law_370 : decode m_La_law.2.1 370 = .ok (.invokestatic 78, 3) := by decide +kernel
theorem d_La_law_373 : decode m_La_law.2.1 373 = .ok (.istore 5, 2) := by decide +kernel
theorem d_La_law_375 : decode m_La_law.2.1 375 = .ok (.aload_n 2, 1) := by decide +kernel
theorem d_La_law_376 : decode m_La_law.2.1 376 = .ok (.aload_n 0, 1) := by decide +kernel
theorem d_La_law_377 : decode m_La_law.2.1 377 = .ok (.iload 4, 2) := by decide +kernel
theorem d_La_law_379 : decode m_La_law.2.1 379 = .ok (.iconst 1, 1) := by decide +kernel
theorem d_La_law_380 : decode m_La_law.2.1 380 = .ok (.iadd, 1) := by decide +kernel
theorem d_La_law_381 : decode m_La_law.2.1 381 = .ok (.iaload, 1) := by decide +kernel
theorem d_La_law_382 : decode m_La_law.2.1 382 = .ok (.aload_n 0, 1) := by decide +kernel
theorem d_La_law_383 : decode m_La_law.2.1 383 = .ok (.iload 4, 2) := by decide +kernel
theorem d_La_law_385 : decode m_La_law.2.1 385 = .ok (.iconst 2, 1) := by decide +kernel
theorem d_La_law_386 : decode m_La_law.2.1 386 = .ok (.iadd, 1) := by decide +kernel
theorem d_La_law_387 : decode m_La_law.2.1 387 = .ok (.iaload, 1) := by decide +kernel
theorem d_La_law_388 : decode m_La_law.2.1 388 = .ok (.aload_n 0, 1) := by decide +kernel
theorem d_La_law_389 : decode m_La_law.2.1 389 = .ok (.iload 4, 2) := by decide +kernel
theorem d_La_law_391 : decode m_La_law.2.1 391 = .ok (.iconst 3, 1) := by decide +kernel
theorem d_La_law_392 : decode m_La_law.2.1 392 = .ok (.iadd, 1) := by decide +kernel
theorem d_La_law_393 : decode m_La_law.2.1 393 = .ok (.iaload, 1) := by decide +kernel
theorem d_La_law_394 : decode m_La_law.2.1 394 = .ok (.aload_n 0, 1) := by decide +kernel
theorem d_La_law_395 : decode m_La_law.2.1 395 = .ok (.iload 4, 2) := by decide +kernel
theorem d_La_law_397 : decode m_La_law.2.1 397 = .ok (.iconst 4, 1) := by decide +kernel
theorem d_La_law_398 : decode m_La_law.2.1 398 = .ok (.iadd, 1) := by decide +kernel
theorem d_La_law_399 : decode m_La_law.2.1 399 = .ok (.iaload, 1) := by decide +kernel
theorem k_La_law_81 : jl_cv m_La_law m_Mo_code 81 4 = true := by decide +kernel
theorem d_La_law_400 : decode m_La_law.2.1 400 = .ok (.invokevirtual 81, 3) := by decide +kernel
theorem d_La_law_403 : decode m_La_law.2.1 403 = .ok (.istore 6, 2) := by decide +kernel
theorem d_La_law_405 : decode m_La_law.2.1 405 = .ok (.aload_n 2, 1) := by decide +kernel
theorem d_La_law_406 : decode m_La_law.2.1 406 = .ok (.invokevirtual 68, 3) := by decide +kernel
theorem d_La_law_409 : decode m_La_law.2.1 409 = .ok (.iload 5, 2) := by decide +kernel
theorem d_La_law_411 : decode m_La_law.2.1 411 = .ok (.if_icmp .eq 5, 3) := by decide +kernel
theorem d_La_law_416 : decode m_La_law.2.1 416 = .ok (.iload 5, 2) := by decide +kernel
theorem d_La_law_433 : decode m_La_law.2.1 433 = .ok (.goto 596, 3) := by decide +kernel
theorem d_La_law_418 : decode m_La_law.2.1 418 = .ok (.ifCond .ne 15, 3) := by decide +kernel
theorem d_La_law_421 : decode m_La_law.2.1 421 = .ok (.aload_n 3, 1) := by decide +kernel
theorem d_La_law_422 : decode m_La_law.2.1 422 = .ok (.iconst 0, 1) := by decide +kernel
theorem d_La_law_423 : decode m_La_law.2.1 423 = .ok (.laload, 1) := by decide +kernel
theorem d_La_law_424 : decode m_La_law.2.1 424 = .ok (.iload 6, 2) := by decide +kernel
theorem d_La_law_426 : decode m_La_law.2.1 426 = .ok (.i2l, 1) := by decide +kernel
theorem d_La_law_427 : decode m_La_law.2.1 427 = .ok (.lcmp, 1) := by decide +kernel
theorem d_La_law_428 : decode m_La_law.2.1 428 = .ok (.ifCond .eq 5, 3) := by decide +kernel
theorem law_code (hl : l.stackTraces = false) {P : jl_O → jl_S → Prop} (hL : G.2.2.2.2.2.2.1 ≤ 3072) (hn : 6 * n + 6 ≤ G.2.2.2.2.2.2.1) (hU : UI U) (hC : RC σ U) (hM : RM σ U fa) (h53 : σ[53]? = some (.inl (2, 1, .inr (.inl f)))) (hu1 : uc + 15 ≤ 601024) (hu2 : us + 417 ≤ 7293034) (k : ∀ (σ' : jl_S) (U' : Un) (fa' : Int32) (g : Nat → Int64), UI U' → RC σ' U' → RM σ' U' fa' → σ'[53]? = some (.inl (2, 1, .inr (.inl g))) → jl_E l G m_La_law (uc + 5, us + 30) 1029 [some (.retAddr G.2.2.2.2.2.1), some (.ref 0), some (.ref 22), some (.ref 53), some (.int (nI (6 * n))), none, none] [] σ' P) : jl_E l G m_La_law (uc, us) 344 [some (.retAddr G.2.2.2.2.2.1), some (.ref 0), some (.ref 22), some (.ref 53), some (.int (nI (6 * n))), none, none] [] σ P := by
  obtain ⟨c, v, U1, hU1, hc, h1, h2⟩ := co_code (G := G) hl hU hC (k := G.2.2.2.2.2.2.2 (6 * n + 1)) (sl := G.2.2.2.2.2.2.2 (6 * n + 2)) (o := G.2.2.2.2.2.2.2 (6 * n + 3)) (x := G.2.2.2.2.2.2.2 (6 * n + 4))
  have hj := hC.j
  refine er_aload_n d_La_law_344 rfl ?_
  refine er_aload_nR d_La_law_345 rfl ?_
  refine er_iload d_La_law_346 rfl ?_
  refine er_iconst (nI 1) d_La_law_348 (by decide) ?_
  refine er_iaddN d_La_law_349 ?_
  refine er_sldN d_La_law_350 (by omega) (by omega) ?_
  refine er_aload_nR d_La_law_351 rfl ?_
  refine er_iload d_La_law_352 rfl ?_
  refine er_iconst (nI 2) d_La_law_354 (by decide) ?_
  refine er_iaddN d_La_law_355 ?_
  refine er_sldN d_La_law_356 (by omega) (by omega) ?_
  refine er_aload_nR d_La_law_357 rfl ?_
  refine er_iload d_La_law_358 rfl ?_
  refine er_iconst (nI 3) d_La_law_360 (by decide) ?_
  refine er_iaddN d_La_law_361 ?_
  refine er_sldN d_La_law_362 (by omega) (by omega) ?_
  refine er_aload_nR d_La_law_363 rfl ?_
  refine er_iload d_La_law_364 rfl ?_
  refine er_iconst (nI 4) d_La_law_366 (by decide) ?_
  refine er_iaddN d_La_law_367 ?_
  refine er_sldN d_La_law_368 (by omega) (by omega) ?_
  refine er_aload_n d_La_law_369 rfl ?_
  refine er_callSWE (As := [.ref 0, .int (G.2.2.2.2.2.2.2 (6 * n + 1)), .int (G.2.2.2.2.2.2.2 (6 * n + 2)), .int (G.2.2.2.2.2.2.2 (6 * n + 3)), .int (G.2.2.2.2.2.2.2 (6 * n + 4)), .ref 53]) d_La_law_370 k_La_law_78 rfl (Nat.le_of_ble_eq_true rfl) (by show uc + 5 ≤ 601024; omega) (by show us + 30 ≤ 7293034; omega) (la_code hl hj h53 hU1 hc h1 (fun g σ2 hrc hfr h532 hg0 => ⟨_, rfl, ?_⟩))
  show jl_E l G m_La_law (uc + 5, us + 30) 373 [some (.retAddr G.2.2.2.2.2.1), some (.ref 0), some (.ref 22), some (.ref 53), some (.int (nI (6 * n))), none, none] [.int (nI c)] σ2 P
  have hM2 : RM σ2 U fa := hM.fr hfr
  obtain ⟨fs2, hO2⟩ := hM2.o
  refine er_istore d_La_law_373 (by decide) ?_
  show jl_E l G m_La_law (uc + 5, us + 30) 375 [some (.retAddr G.2.2.2.2.2.1), some (.ref 0), some (.ref 22), some (.ref 53), some (.int (nI (6 * n))), some (.int (nI c)), none] [] σ2 P
  refine er_aload_n d_La_law_375 rfl ?_
  refine er_aload_nR d_La_law_376 rfl ?_
  refine er_iload d_La_law_377 rfl ?_
  refine er_iconst (nI 1) d_La_law_379 (by decide) ?_
  refine er_iaddN d_La_law_380 ?_
  refine er_sldN d_La_law_381 (by omega) (by omega) ?_
  refine er_aload_nR d_La_law_382 rfl ?_
  refine er_iload d_La_law_383 rfl ?_
  refine er_iconst (nI 2) d_La_law_385 (by decide) ?_
  refine er_iaddN d_La_law_386 ?_
  refine er_sldN d_La_law_387 (by omega) (by omega) ?_
  refine er_aload_nR d_La_law_388 rfl ?_
  refine er_iload d_La_law_389 rfl ?_
  refine er_iconst (nI 3) d_La_law_391 (by decide) ?_
  refine er_iaddN d_La_law_392 ?_
  refine er_sldN d_La_law_393 (by omega) (by omega) ?_
  refine er_aload_nR d_La_law_394 rfl ?_
  refine er_iload d_La_law_395 rfl ?_
  refine er_iconst (nI 4) d_La_law_397 (by decide) ?_
  refine er_iaddN d_La_law_398 ?_
  refine er_sldN d_La_law_399 (by omega) (by omega) ?_
  refine er_callVE (As := [.int (G.2.2.2.2.2.2.2 (6 * n + 1)), .int (G.2.2.2.2.2.2.2 (6 * n + 2)), .int (G.2.2.2.2.2.2.2 (6 * n + 3)), .int (G.2.2.2.2.2.2.2 (6 * n + 4))]) d_La_law_400 k_La_law_81 hO2 rfl rfl rfl (Nat.le_of_ble_eq_true rfl) (by show uc + 5 + 0 ≤ 601024; omega) (by show us + 30 + 0 ≤ 7293034; omega) (jl_mE.mono (h2 σ2 fa hM2) (fun o3 σ3 ho3 => ?_))
  obtain ⟨eo, hM3, hfx⟩ := ho3
  refine ⟨_, eo, ?_⟩
  show jl_E l G m_La_law (uc + 5, us + 30) 403 [some (.retAddr G.2.2.2.2.2.1), some (.ref 0), some (.ref 22), some (.ref 53), some (.int (nI (6 * n))), some (.int (nI c)), none] [.int v] σ3 P
  obtain ⟨fs3, hO3⟩ := hM3.o
  have h533 : σ3[53]? = some (.inl (2, 1, .inr (.inl g))) := (hfx.2 53 (by decide)).trans h532
  refine er_istore d_La_law_403 (by decide) ?_
  show jl_E l G m_La_law (uc + 5, us + 30) 405 [some (.retAddr G.2.2.2.2.2.1), some (.ref 0), some (.ref 22), some (.ref 53), some (.int (nI (6 * n))), some (.int (nI c)), some (.int v)] [] σ3 P
  refine er_aload_n d_La_law_405 rfl ?_
  refine er_callV (As := []) d_La_law_406 k_La_law_68 hO3 rfl rfl rfl (Nat.le_of_ble_eq_true rfl) (by show uc + 5 + 0 ≤ 601024; omega) (by show us + 30 + 0 ≤ 7293034; omega) (hM3.thr hl) ?_
  show jl_E l G m_La_law (uc + 5, us + 30) 409 [some (.retAddr G.2.2.2.2.2.1), some (.ref 0), some (.ref 22), some (.ref 53), some (.int (nI (6 * n))), some (.int (nI c)), some (.int v)] [.int (nI c)] σ3 P
  refine er_iload d_La_law_409 rfl ?_
  refine er_icmp_eq 416 d_La_law_411 (by decide) (fun _ => ?_) (fun z => absurd rfl z)
  refine er_iload d_La_law_416 rfl ?_
  have hk : jl_E l G m_La_law (uc + 5, us + 30) 433 [some (.retAddr G.2.2.2.2.2.1), some (.ref 0), some (.ref 22), some (.ref 53), some (.int (nI (6 * n))), some (.int (nI c)), some (.int v)] [] σ3 P := er_weak (ls' := [some (.retAddr G.2.2.2.2.2.1), some (.ref 0), some (.ref 22), some (.ref 53), some (.int (nI (6 * n))), none, none]) (fun q v hv => by match q, hv with | 0, hv => exact hv | 1, hv => exact hv | 2, hv => exact hv | 3, hv => exact hv | 4, hv => exact hv | 5, hv => cases hv | 6, hv => cases hv | q + 7, hv => cases hv) (er_goto 1029 d_La_law_433 (by decide) (k σ3 U1 (nI c) g hU1 (hrc.fr hU1 hfx) hM3 h533))
  refine er_if_ne 433 d_La_law_418 (by decide) (fun _ => hk) (fun zc => ?_)
  have c0 : c = 0 := by
    have hc5 : c ≤ 3 := hc
    rw [← nI_0, nI_eq (by omega) (by omega)] at zc
    exact zc
  refine er_aload_n d_La_law_421 rfl ?_
  refine er_iconst (nI 0) d_La_law_422 (by decide) ?_
  refine er_lald d_La_law_423 h533 vp_in0 ?_
  refine er_iload d_La_law_424 rfl ?_
  refine er_i2l d_La_law_426 ?_
  refine er_lcmp d_La_law_427 ?_
  refine er_if_eq 433 d_La_law_428 (by decide) (fun _ => hk) (fun zl => absurd ?_ zl)
  have e0 : g (nI 0).toNatClampNeg = v.toInt64 := hg0 c0
  rw [e0]
  exact lg_self _
theorem d_La_law_436 : decode m_La_law.2.1 436 = .ok (.aload_n 1, 1) := by decide +kernel
theorem d_La_law_437 : decode m_La_law.2.1 437 = .ok (.aload_n 0, 1) := by decide +kernel
theorem d_La_law_438 : decode m_La_law.2.1 438 = .ok (.iload 4, 2) := by decide +kernel
theorem d_La_law_440 : decode m_La_law.2.1 440 = .ok (.iconst 1, 1) := by decide +kernel
theorem d_La_law_441 : decode m_La_law.2.1 441 = .ok (.iadd, 1) := by decide +kernel
theorem d_La_law_442 : decode m_La_law.2.1 442 = .ok (.iaload, 1) := by decide +kernel
theorem d_La_law_443 : decode m_La_law.2.1 443 = .ok (.aload_n 0, 1) := by decide +kernel
theorem d_La_law_444 : decode m_La_law.2.1 444 = .ok (.iload 4, 2) := by decide +kernel
theorem d_La_law_446 : decode m_La_law.2.1 446 = .ok (.iconst 2, 1) := by decide +kernel
theorem d_La_law_447 : decode m_La_law.2.1 447 = .ok (.iadd, 1) := by decide +kernel
theorem d_La_law_448 : decode m_La_law.2.1 448 = .ok (.iaload, 1) := by decide +kernel
theorem d_La_law_449 : decode m_La_law.2.1 449 = .ok (.aload_n 0, 1) := by decide +kernel
theorem d_La_law_450 : decode m_La_law.2.1 450 = .ok (.iload 4, 2) := by decide +kernel
theorem d_La_law_452 : decode m_La_law.2.1 452 = .ok (.iconst 3, 1) := by decide +kernel
theorem d_La_law_453 : decode m_La_law.2.1 453 = .ok (.iadd, 1) := by decide +kernel
theorem d_La_law_454 : decode m_La_law.2.1 454 = .ok (.iaload, 1) := by decide +kernel
theorem d_La_law_455 : decode m_La_law.2.1 455 = .ok (.aload_n 0, 1) := by decide +kernel
theorem d_La_law_456 : decode m_La_law.2.1 456 = .ok (.iload 4, 2) := by decide +kernel
theorem d_La_law_458 : decode m_La_law.2.1 458 = .ok (.iconst 4, 1) := by decide +kernel
theorem d_La_law_459 : decode m_La_law.2.1 459 = .ok (.iadd, 1) := by decide +kernel
theorem d_La_law_460 : decode m_La_law.2.1 460 = .ok (.iaload, 1) := by decide +kernel
theorem d_La_law_461 : decode m_La_law.2.1 461 = .ok (.aload_n 0, 1) := by decide +kernel
theorem d_La_law_462 : decode m_La_law.2.1 462 = .ok (.iload 4, 2) := by decide +kernel
theorem d_La_law_464 : decode m_La_law.2.1 464 = .ok (.iconst 5, 1) := by decide +kernel
theorem d_La_law_465 : decode m_La_law.2.1 465 = .ok (.iadd, 1) := by decide +kernel
theorem d_La_law_466 : decode m_La_law.2.1 466 = .ok (.iaload, 1) := by decide +kernel
theorem d_La_law_467 : decode m_La_law.2.1 467 = .ok (.aload_n 3, 1) := by decide +kernel
theorem k_La_law_82 : jl_cw m_La_law m_La_catcher [(0, 16, 19, 13), (0, 16, 23, 20), (0, 16, 27, 15)] 82 7 = true := by decide +kernel
theorem d_La_law_468 : decode m_La_law.2.1 468 = .ok (.invokestatic 82, 3) := by decide +kernel
theorem d_La_law_471 : decode m_La_law.2.1 471 = .ok (.istore 5, 2) := by decide +kernel
theorem d_La_law_473 : decode m_La_law.2.1 473 = .ok (.aload_n 2, 1) := by decide +kernel
theorem d_La_law_474 : decode m_La_law.2.1 474 = .ok (.aload_n 0, 1) := by decide +kernel
theorem d_La_law_475 : decode m_La_law.2.1 475 = .ok (.iload 4, 2) := by decide +kernel
theorem d_La_law_477 : decode m_La_law.2.1 477 = .ok (.iconst 1, 1) := by decide +kernel
theorem d_La_law_478 : decode m_La_law.2.1 478 = .ok (.iadd, 1) := by decide +kernel
theorem d_La_law_479 : decode m_La_law.2.1 479 = .ok (.iaload, 1) := by decide +kernel
theorem d_La_law_480 : decode m_La_law.2.1 480 = .ok (.aload_n 0, 1) := by decide +kernel
theorem d_La_law_481 : decode m_La_law.2.1 481 = .ok (.iload 4, 2) := by decide +kernel
theorem d_La_law_483 : decode m_La_law.2.1 483 = .ok (.iconst 2, 1) := by decide +kernel
theorem d_La_law_484 : decode m_La_law.2.1 484 = .ok (.iadd, 1) := by decide +kernel
theorem d_La_law_485 : decode m_La_law.2.1 485 = .ok (.iaload, 1) := by decide +kernel
theorem d_La_law_486 : decode m_La_law.2.1 486 = .ok (.aload_n 0, 1) := by decide +kernel
theorem d_La_law_487 : decode m_La_law.2.1 487 = .ok (.iload 4, 2) := by decide +kernel
theorem d_La_law_489 : decode m_La_law.2.1 489 = .ok (.iconst 3, 1) := by decide +kernel
theorem d_La_law_490 : decode m_La_law.2.1 490 = .ok (.iadd, 1) := by decide +kernel
theorem d_La_law_491 : decode m_La_law.2.1 491 = .ok (.iaload, 1) := by decide +kernel
theorem d_La_law_492 : decode m_La_law.2.1 492 = .ok (.aload_n 0, 1) := by decide +kernel
theorem d_La_law_493 : decode m_La_law.2.1 493 = .ok (.iload 4, 2) := by decide +kernel
theorem d_La_law_495 : decode m_La_law.2.1 495 = .ok (.iconst 4, 1) := by decide +kernel
theorem d_La_law_496 : decode m_La_law.2.1 496 = .ok (.iadd, 1) := by decide +kernel
theorem d_La_law_497 : decode m_La_law.2.1 497 = .ok (.iaload, 1) := by decide +kernel
theorem d_La_law_498 : decode m_La_law.2.1 498 = .ok (.aload_n 0, 1) := by decide +kernel
theorem d_La_law_499 : decode m_La_law.2.1 499 = .ok (.iload 4, 2) := by decide +kernel
theorem d_La_law_501 : decode m_La_law.2.1 501 = .ok (.iconst 5, 1) := by decide +kernel
theorem d_La_law_502 : decode m_La_law.2.1 502 = .ok (.iadd, 1) := by decide +kernel
theorem d_La_law_503 : decode m_La_law.2.1 503 = .ok (.iaload, 1) := by decide +kernel
theorem k_La_law_84 : jl_cv m_La_law m_Mo_catcher 84 5 = true := by decide +kernel
theorem d_La_law_504 : decode m_La_law.2.1 504 = .ok (.invokevirtual 84, 3) := by decide +kernel
theorem d_La_law_507 : decode m_La_law.2.1 507 = .ok (.istore 6, 2) := by decide +kernel
theorem d_La_law_509 : decode m_La_law.2.1 509 = .ok (.aload_n 2, 1) := by decide +kernel
theorem d_La_law_510 : decode m_La_law.2.1 510 = .ok (.invokevirtual 68, 3) := by decide +kernel
theorem d_La_law_513 : decode m_La_law.2.1 513 = .ok (.iload 5, 2) := by decide +kernel
theorem d_La_law_515 : decode m_La_law.2.1 515 = .ok (.if_icmp .eq 5, 3) := by decide +kernel
theorem d_La_law_520 : decode m_La_law.2.1 520 = .ok (.iload 5, 2) := by decide +kernel
theorem d_La_law_537 : decode m_La_law.2.1 537 = .ok (.goto 492, 3) := by decide +kernel
theorem d_La_law_522 : decode m_La_law.2.1 522 = .ok (.ifCond .ne 15, 3) := by decide +kernel
theorem d_La_law_525 : decode m_La_law.2.1 525 = .ok (.aload_n 3, 1) := by decide +kernel
theorem d_La_law_526 : decode m_La_law.2.1 526 = .ok (.iconst 0, 1) := by decide +kernel
theorem d_La_law_527 : decode m_La_law.2.1 527 = .ok (.laload, 1) := by decide +kernel
theorem d_La_law_528 : decode m_La_law.2.1 528 = .ok (.iload 6, 2) := by decide +kernel
theorem d_La_law_530 : decode m_La_law.2.1 530 = .ok (.i2l, 1) := by decide +kernel
theorem d_La_law_531 : decode m_La_law.2.1 531 = .ok (.lcmp, 1) := by decide +kernel
theorem d_La_law_532 : decode m_La_law.2.1 532 = .ok (.ifCond .eq 5, 3) := by decide +kernel
theorem law_catcher (hl : l.stackTraces = false) {P : jl_O → jl_S → Prop} (hL : G.2.2.2.2.2.2.1 ≤ 3072) (hn : 6 * n + 6 ≤ G.2.2.2.2.2.2.1) (hU : UI U) (hC : RC σ U) (hM : RM σ U fa) (h53 : σ[53]? = some (.inl (2, 1, .inr (.inl f)))) (hu1 : uc + 15 ≤ 601024) (hu2 : us + 417 ≤ 7293034) (k : ∀ (σ' : jl_S) (U' : Un) (fa' : Int32) (g : Nat → Int64), UI U' → RC σ' U' → RM σ' U' fa' → σ'[53]? = some (.inl (2, 1, .inr (.inl g))) → jl_E l G m_La_law (uc + 7, us + 42) 1029 [some (.retAddr G.2.2.2.2.2.1), some (.ref 0), some (.ref 22), some (.ref 53), some (.int (nI (6 * n))), none, none] [] σ' P) : jl_E l G m_La_law (uc, us) 436 [some (.retAddr G.2.2.2.2.2.1), some (.ref 0), some (.ref 22), some (.ref 53), some (.int (nI (6 * n))), none, none] [] σ P := by
  obtain ⟨c, v, U1, hU1, hc, h1, h2⟩ := co_catcher (G := G) hl hU hC (k := G.2.2.2.2.2.2.2 (6 * n + 1)) (sl := G.2.2.2.2.2.2.2 (6 * n + 2)) (sp := G.2.2.2.2.2.2.2 (6 * n + 3)) (tr := G.2.2.2.2.2.2.2 (6 * n + 4)) (ki := G.2.2.2.2.2.2.2 (6 * n + 5))
  have hj := hC.j
  refine er_aload_n d_La_law_436 rfl ?_
  refine er_aload_nR d_La_law_437 rfl ?_
  refine er_iload d_La_law_438 rfl ?_
  refine er_iconst (nI 1) d_La_law_440 (by decide) ?_
  refine er_iaddN d_La_law_441 ?_
  refine er_sldN d_La_law_442 (by omega) (by omega) ?_
  refine er_aload_nR d_La_law_443 rfl ?_
  refine er_iload d_La_law_444 rfl ?_
  refine er_iconst (nI 2) d_La_law_446 (by decide) ?_
  refine er_iaddN d_La_law_447 ?_
  refine er_sldN d_La_law_448 (by omega) (by omega) ?_
  refine er_aload_nR d_La_law_449 rfl ?_
  refine er_iload d_La_law_450 rfl ?_
  refine er_iconst (nI 3) d_La_law_452 (by decide) ?_
  refine er_iaddN d_La_law_453 ?_
  refine er_sldN d_La_law_454 (by omega) (by omega) ?_
  refine er_aload_nR d_La_law_455 rfl ?_
  refine er_iload d_La_law_456 rfl ?_
  refine er_iconst (nI 4) d_La_law_458 (by decide) ?_
  refine er_iaddN d_La_law_459 ?_
  refine er_sldN d_La_law_460 (by omega) (by omega) ?_
  refine er_aload_nR d_La_law_461 rfl ?_
  refine er_iload d_La_law_462 rfl ?_
  refine er_iconst (nI 5) d_La_law_464 (by decide) ?_
  refine er_iaddN d_La_law_465 ?_
  refine er_sldN d_La_law_466 (by omega) (by omega) ?_
  refine er_aload_n d_La_law_467 rfl ?_
  refine er_callSWE (As := [.ref 0, .int (G.2.2.2.2.2.2.2 (6 * n + 1)), .int (G.2.2.2.2.2.2.2 (6 * n + 2)), .int (G.2.2.2.2.2.2.2 (6 * n + 3)), .int (G.2.2.2.2.2.2.2 (6 * n + 4)), .int (G.2.2.2.2.2.2.2 (6 * n + 5)), .ref 53]) d_La_law_468 k_La_law_82 rfl (Nat.le_of_ble_eq_true rfl) (by show uc + 7 ≤ 601024; omega) (by show us + 42 ≤ 7293034; omega) (la_catcher hl hj h53 hU1 hc h1 (fun g σ2 hrc hfr h532 hg0 => ⟨_, rfl, ?_⟩))
  show jl_E l G m_La_law (uc + 7, us + 42) 471 [some (.retAddr G.2.2.2.2.2.1), some (.ref 0), some (.ref 22), some (.ref 53), some (.int (nI (6 * n))), none, none] [.int (nI c)] σ2 P
  have hM2 : RM σ2 U fa := hM.fr hfr
  obtain ⟨fs2, hO2⟩ := hM2.o
  refine er_istore d_La_law_471 (by decide) ?_
  show jl_E l G m_La_law (uc + 7, us + 42) 473 [some (.retAddr G.2.2.2.2.2.1), some (.ref 0), some (.ref 22), some (.ref 53), some (.int (nI (6 * n))), some (.int (nI c)), none] [] σ2 P
  refine er_aload_n d_La_law_473 rfl ?_
  refine er_aload_nR d_La_law_474 rfl ?_
  refine er_iload d_La_law_475 rfl ?_
  refine er_iconst (nI 1) d_La_law_477 (by decide) ?_
  refine er_iaddN d_La_law_478 ?_
  refine er_sldN d_La_law_479 (by omega) (by omega) ?_
  refine er_aload_nR d_La_law_480 rfl ?_
  refine er_iload d_La_law_481 rfl ?_
  refine er_iconst (nI 2) d_La_law_483 (by decide) ?_
  refine er_iaddN d_La_law_484 ?_
  refine er_sldN d_La_law_485 (by omega) (by omega) ?_
  refine er_aload_nR d_La_law_486 rfl ?_
  refine er_iload d_La_law_487 rfl ?_
  refine er_iconst (nI 3) d_La_law_489 (by decide) ?_
  refine er_iaddN d_La_law_490 ?_
  refine er_sldN d_La_law_491 (by omega) (by omega) ?_
  refine er_aload_nR d_La_law_492 rfl ?_
  refine er_iload d_La_law_493 rfl ?_
  refine er_iconst (nI 4) d_La_law_495 (by decide) ?_
  refine er_iaddN d_La_law_496 ?_
  refine er_sldN d_La_law_497 (by omega) (by omega) ?_
  refine er_aload_nR d_La_law_498 rfl ?_
  refine er_iload d_La_law_499 rfl ?_
  refine er_iconst (nI 5) d_La_law_501 (by decide) ?_
  refine er_iaddN d_La_law_502 ?_
  refine er_sldN d_La_law_503 (by omega) (by omega) ?_
  refine er_callVE (As := [.int (G.2.2.2.2.2.2.2 (6 * n + 1)), .int (G.2.2.2.2.2.2.2 (6 * n + 2)), .int (G.2.2.2.2.2.2.2 (6 * n + 3)), .int (G.2.2.2.2.2.2.2 (6 * n + 4)), .int (G.2.2.2.2.2.2.2 (6 * n + 5))]) d_La_law_504 k_La_law_84 hO2 rfl rfl rfl (Nat.le_of_ble_eq_true rfl) (by show uc + 7 + 0 ≤ 601024; omega) (by show us + 42 + 0 ≤ 7293034; omega) (jl_mE.mono (h2 σ2 fa hM2) (fun o3 σ3 ho3 => ?_))
  obtain ⟨eo, hM3, hfx⟩ := ho3
  refine ⟨_, eo, ?_⟩
  show jl_E l G m_La_law (uc + 7, us + 42) 507 [some (.retAddr G.2.2.2.2.2.1), some (.ref 0), some (.ref 22), some (.ref 53), some (.int (nI (6 * n))), some (.int (nI c)), none] [.int v] σ3 P
  obtain ⟨fs3, hO3⟩ := hM3.o
  have h533 : σ3[53]? = some (.inl (2, 1, .inr (.inl g))) := (hfx.2 53 (by decide)).trans h532
  refine er_istore d_La_law_507 (by decide) ?_
  show jl_E l G m_La_law (uc + 7, us + 42) 509 [some (.retAddr G.2.2.2.2.2.1), some (.ref 0), some (.ref 22), some (.ref 53), some (.int (nI (6 * n))), some (.int (nI c)), some (.int v)] [] σ3 P
  refine er_aload_n d_La_law_509 rfl ?_
  refine er_callV (As := []) d_La_law_510 k_La_law_68 hO3 rfl rfl rfl (Nat.le_of_ble_eq_true rfl) (by show uc + 7 + 0 ≤ 601024; omega) (by show us + 42 + 0 ≤ 7293034; omega) (hM3.thr hl) ?_
  show jl_E l G m_La_law (uc + 7, us + 42) 513 [some (.retAddr G.2.2.2.2.2.1), some (.ref 0), some (.ref 22), some (.ref 53), some (.int (nI (6 * n))), some (.int (nI c)), some (.int v)] [.int (nI c)] σ3 P
  refine er_iload d_La_law_513 rfl ?_
  refine er_icmp_eq 520 d_La_law_515 (by decide) (fun _ => ?_) (fun z => absurd rfl z)
  refine er_iload d_La_law_520 rfl ?_
  have hk : jl_E l G m_La_law (uc + 7, us + 42) 537 [some (.retAddr G.2.2.2.2.2.1), some (.ref 0), some (.ref 22), some (.ref 53), some (.int (nI (6 * n))), some (.int (nI c)), some (.int v)] [] σ3 P := er_weak (ls' := [some (.retAddr G.2.2.2.2.2.1), some (.ref 0), some (.ref 22), some (.ref 53), some (.int (nI (6 * n))), none, none]) (fun q v hv => by match q, hv with | 0, hv => exact hv | 1, hv => exact hv | 2, hv => exact hv | 3, hv => exact hv | 4, hv => exact hv | 5, hv => cases hv | 6, hv => cases hv | q + 7, hv => cases hv) (er_goto 1029 d_La_law_537 (by decide) (k σ3 U1 (nI c) g hU1 (hrc.fr hU1 hfx) hM3 h533))
  refine er_if_ne 537 d_La_law_522 (by decide) (fun _ => hk) (fun zc => ?_)
  have c0 : c = 0 := by
    have hc5 : c ≤ 3 := hc
    rw [← nI_0, nI_eq (by omega) (by omega)] at zc
    exact zc
  refine er_aload_n d_La_law_525 rfl ?_
  refine er_iconst (nI 0) d_La_law_526 (by decide) ?_
  refine er_lald d_La_law_527 h533 vp_in0 ?_
  refine er_iload d_La_law_528 rfl ?_
  refine er_i2l d_La_law_530 ?_
  refine er_lcmp d_La_law_531 ?_
  refine er_if_eq 537 d_La_law_532 (by decide) (fun _ => hk) (fun zl => absurd ?_ zl)
  have e0 : g (nI 0).toNatClampNeg = v.toInt64 := hg0 c0
  rw [e0]
  exact lg_self _
end JLv
