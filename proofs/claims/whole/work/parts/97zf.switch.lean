/-! the model's machine: step, the switch (wip/gen/p97zf.py) -/
section JNzf
variable {l : Launch} {G : jl_G} {σ : jl_S}
variable {tb : Nat → Bool} {pr : Nat → Option Nat} {ow fi ft : Nat → Nat} {hs : Nat → Bool} {fa vf wh wy hg dp md ov oh dn an : Int32}
variable {u1 u2 : Nat → Option Nat} {ur ul uo : Nat → Nat} {ua : Nat → Int32} {uc us ut uk : Nat → Nat}
variable {σ0 : jl_S} {N t m p h b n : Nat} {R : Rw} {V : Nat → Int32} {fs : List Fm} {H : Hp} {fa vf wh wy hg ov oh dn an x a v : Int32} {y : Option Nat}
variable {d : Nat}
theorem NB.frn (h1 : NB σ0 σ N t m p h R V fs H fa vf wh wy hg ov oh dn an) : FrN σ0 σ := by
  obtain ⟨fx, fp, fh, lw, lk, vl, vk, ks, kc, kv, lo, sk, hO, f1, f2, f3, f4, f5, f6, f7, hH, hB, hy1, hR1, hF⟩ := h1
  exact hF
theorem NB.done {dn2 : Int32} (h1 : NB σ0 σ N t m p h R V fs H fa vf wh wy hg ov oh dn an) : NB σ0 (σ.set 22 (.inr (7, MoF fa vf wh wy hg (nI (t + 1)) (nI H.n) ov oh dn2 an))) N t m p h R V fs H fa vf wh wy hg ov oh dn2 an := by
  obtain ⟨fx, fp, fh, lw, lk, vl, vk, ks, kc, kv, lo, sk, hO, f1, f2, f3, f4, f5, f6, f7, ⟨k1, k2, k3⟩, hB, hy1, ⟨⟨r1, r2⟩, hlo, hsk⟩, hF⟩ := h1
  exact ⟨fx, fp, fh, lw, lk, vl, vk, ks, kc, kv, lo, sk, jl_ss hO, jl_sn (by decide) f1, jl_sn (by decide) f2, jl_sn (by decide) f3, jl_sn (by decide) f4, jl_sn (by decide) f5, jl_sn (by decide) f6, jl_sn (by decide) f7, ⟨jl_sn (by decide) k1, jl_sn (by decide) k2, jl_sn (by decide) k3⟩, hB, hy1, ⟨⟨jl_sn (by decide) r1, jl_sn (by decide) r2⟩, hlo, hsk⟩, hF.set (by omega)⟩
theorem d_Mo_step_0 : decode m_Mo_step.2.1 0 = .ok (.aload_n 0, 1) := by decide +kernel
theorem f_Mo_step_224 : jl_fd m_Mo_step 224 7 32 = true := by decide +kernel
theorem d_Mo_step_1 : decode m_Mo_step.2.1 1 = .ok (.getfield 224, 3) := by decide +kernel
theorem d_Mo_step_4 : decode m_Mo_step.2.1 4 = .ok (.iconst 1, 1) := by decide +kernel
theorem d_Mo_step_5 : decode m_Mo_step.2.1 5 = .ok (.isub, 1) := by decide +kernel
theorem d_Mo_step_6 : decode m_Mo_step.2.1 6 = .ok (.istore_n 1, 1) := by decide +kernel
theorem d_Mo_step_7 : decode m_Mo_step.2.1 7 = .ok (.bipush 24, 2) := by decide +kernel
theorem d_Mo_step_9 : decode m_Mo_step.2.1 9 = .ok (.aload_n 0, 1) := by decide +kernel
theorem f_Mo_step_78 : jl_fd m_Mo_step 78 7 25 = true := by decide +kernel
theorem d_Mo_step_10 : decode m_Mo_step.2.1 10 = .ok (.getfield 78, 3) := by decide +kernel
theorem d_Mo_step_13 : decode m_Mo_step.2.1 13 = .ok (.iload_n 1, 1) := by decide +kernel
theorem d_Mo_step_14 : decode m_Mo_step.2.1 14 = .ok (.iaload, 1) := by decide +kernel
theorem d_Mo_step_15 : decode m_Mo_step.2.1 15 = .ok (.imul, 1) := by decide +kernel
theorem d_Mo_step_16 : decode m_Mo_step.2.1 16 = .ok (.aload_n 0, 1) := by decide +kernel
theorem f_Mo_step_81 : jl_fd m_Mo_step 81 7 26 = true := by decide +kernel
theorem d_Mo_step_17 : decode m_Mo_step.2.1 17 = .ok (.getfield 81, 3) := by decide +kernel
theorem d_Mo_step_20 : decode m_Mo_step.2.1 20 = .ok (.iload_n 1, 1) := by decide +kernel
theorem d_Mo_step_21 : decode m_Mo_step.2.1 21 = .ok (.iaload, 1) := by decide +kernel
theorem d_Mo_step_22 : decode m_Mo_step.2.1 22 = .ok (.iadd, 1) := by decide +kernel
theorem d_Mo_step_23 : decode m_Mo_step.2.1 23 = .ok (.istore_n 2, 1) := by decide +kernel
theorem d_Mo_step_24 : decode m_Mo_step.2.1 24 = .ok (.aload_n 0, 1) := by decide +kernel
theorem f_Mo_step_38 : jl_fd m_Mo_step 38 7 10 = true := by decide +kernel
theorem d_Mo_step_25 : decode m_Mo_step.2.1 25 = .ok (.getfield 38, 3) := by decide +kernel
theorem d_Mo_step_28 : decode m_Mo_step.2.1 28 = .ok (.iload_n 2, 1) := by decide +kernel
theorem d_Mo_step_29 : decode m_Mo_step.2.1 29 = .ok (.iaload, 1) := by decide +kernel
theorem d_Mo_step_30 : decode m_Mo_step.2.1 30 = .ok (.istore_n 3, 1) := by decide +kernel
theorem d_Mo_step_31 : decode m_Mo_step.2.1 31 = .ok (.aload_n 0, 1) := by decide +kernel
theorem f_Mo_step_41 : jl_fd m_Mo_step 41 7 11 = true := by decide +kernel
theorem d_Mo_step_32 : decode m_Mo_step.2.1 32 = .ok (.getfield 41, 3) := by decide +kernel
theorem d_Mo_step_35 : decode m_Mo_step.2.1 35 = .ok (.iload_n 2, 1) := by decide +kernel
theorem d_Mo_step_36 : decode m_Mo_step.2.1 36 = .ok (.iaload, 1) := by decide +kernel
theorem d_Mo_step_37 : decode m_Mo_step.2.1 37 = .ok (.istore 4, 2) := by decide +kernel
theorem d_Mo_step_39 : decode m_Mo_step.2.1 39 = .ok (.aload_n 0, 1) := by decide +kernel
theorem d_Mo_step_40 : decode m_Mo_step.2.1 40 = .ok (.dup, 1) := by decide +kernel
theorem f_Mo_step_270 : jl_fd m_Mo_step 270 7 39 = true := by decide +kernel
theorem d_Mo_step_41 : decode m_Mo_step.2.1 41 = .ok (.getfield 270, 3) := by decide +kernel
theorem d_Mo_step_44 : decode m_Mo_step.2.1 44 = .ok (.iconst 1, 1) := by decide +kernel
theorem d_Mo_step_45 : decode m_Mo_step.2.1 45 = .ok (.iadd, 1) := by decide +kernel
theorem p_Mo_step_270 : jl_fp m_Mo_step 270 7 39 = true := by decide +kernel
theorem d_Mo_step_46 : decode m_Mo_step.2.1 46 = .ok (.putfield 270, 3) := by decide +kernel
theorem d_Mo_step_49 : decode m_Mo_step.2.1 49 = .ok (.iload_n 3, 1) := by decide +kernel
theorem d_Mo_step_50 : decode m_Mo_step.2.1 50 = .ok (.tableswitch 172 3 22 #[94, 94, 94, 94, 102, 102, 102, 172, 112, 122, 122, 132, 141, 102, 150, 157, 112, 164, 164, 164], 94) := by decide +kernel
theorem d_Mo_step_222 : decode m_Mo_step.2.1 222 = .ok (.aload_n 0, 1) := by decide +kernel
theorem d_Mo_step_223 : decode m_Mo_step.2.1 223 = .ok (.iload_n 3, 1) := by decide +kernel
theorem d_Mo_step_224 : decode m_Mo_step.2.1 224 = .ok (.iload 4, 2) := by decide +kernel
theorem k_Mo_step_300 : jl_cv m_Mo_step m_Mo_simple 300 2 = true := by decide +kernel
theorem d_Mo_step_226 : decode m_Mo_step.2.1 226 = .ok (.invokevirtual 300, 3) := by decide +kernel
theorem d_Mo_step_229 : decode m_Mo_step.2.1 229 = .ok (.return_, 1) := by decide +kernel
theorem mo_sw_0 (hl : l.stackTraces = false) {P : jl_O → jl_S → Prop}  (hn : NB σ0 σ (N) t m (p) (h) (R) (V) (fs) (H) fa vf wh wy hg ov oh (nI d) an) (hu : MoM σ u1 u2 ur ul uo ua uc us ut uk) (ht : t < 12) (hm24 : m < 24) (hp24 : p < 24) (ho : uo (24 * m + p) = 0) (hx : ua (24 * m + p) = x) (hC : ∀ σ1, NB σ0 σ1 (N) t m (p) (h) (R) (V) (fs) (H) fa vf wh wy hg ov oh (nI (d + 1)) an → jl_mE l G m_Mo_simple [.ref 22, .int (nI 0), .int x] σ1 (fun r σ' => r = .inl none ∧ P (.inl none) σ')) : jl_mE l G m_Mo_step [.ref 22] σ P := by
  obtain ⟨fx, fp, fh, lw, lk, vl, vk, ks, kc, kv, lo, sk, hO, f1, f2, f3, f4, f5, f6, f7, hH, hB, hy1, hR1, hF⟩ := id hn
  obtain ⟨k1, k2, k3⟩ := id hH
  obtain ⟨⟨r1, r2⟩, hlo, hsk⟩ := id hR1
  obtain ⟨⟨hfx, hfp, hlc, hst⟩, hfh, hfs, hln⟩ := id hy1
  have hfx : fx t = m := hfx
  have hfp : fp t = p := hfp
  have hlc : ∀ k, k < 6 → lk (6 * t + k) = kdI (R k) ∧ (R k ≠ none → lw (6 * t + k) = V k) := hlc
  have hst : ∀ j, j < _ → vk (5 * t + j) = kdI (R (7 + j)) ∧ vl (5 * t + j) = V (7 + j) := hst
  obtain ⟨h28, h29, h30, h31, h32, h33, h34, h35, h36, h37⟩ := id hu
  refine jl_ofE (as := [.ref 22]) rfl (by decide) hl (jl_cc rfl jl_ca) (Nat.le_of_ble_eq_true rfl) ?_
  show jl_E l G m_Mo_step (0, 0) 0 [some (.ref 22), none, none, none, none] [] (σ) P
  refine er_aload_n d_Mo_step_0 rfl ?_
  refine er_getf d_Mo_step_1 f_Mo_step_224 hO rfl ?_
  refine er_iconst ((nI (1))) d_Mo_step_4 (by decide) ?_
  refine er_isubN d_Mo_step_5 (by omega) ?_
  rw [show (t + 1) - (1) = t by omega]
  show jl_E l G m_Mo_step (0, 0) 6 [some (.ref 22), none, none, none, none] [.int (nI t)] (σ) P
  refine er_istore_n d_Mo_step_6 (by decide) ?_
  show jl_E l G m_Mo_step (0, 0) 7 [some (.ref 22), some (.int (nI t)), none, none, none] [] (σ) P
  refine er_bipush ((nI (24))) d_Mo_step_7 (by decide) ?_
  refine er_aload_n d_Mo_step_9 rfl ?_
  refine er_getf d_Mo_step_10 f_Mo_step_78 hO rfl ?_
  refine er_iload_n d_Mo_step_13 rfl ?_
  refine er_ialdQ (v := (nI (m))) d_Mo_step_14 f1 (by omega) (by omega) (congrArg nI hfx) ?_
  refine er_imulN d_Mo_step_15 ?_
  refine er_aload_n d_Mo_step_16 rfl ?_
  refine er_getf d_Mo_step_17 f_Mo_step_81 hO rfl ?_
  refine er_iload_n d_Mo_step_20 rfl ?_
  refine er_ialdQ (v := (nI (p))) d_Mo_step_21 f2 (by omega) (by omega) (congrArg nI hfp) ?_
  refine er_iaddN d_Mo_step_22 ?_
  refine er_istore_n d_Mo_step_23 (by decide) ?_
  show jl_E l G m_Mo_step (0, 0) 24 [some (.ref 22), some (.int (nI t)), some (.int (nI (((24) * (m)) + (p)))), none, none] [] (σ) P
  refine er_aload_n d_Mo_step_24 rfl ?_
  refine er_getf d_Mo_step_25 f_Mo_step_38 hO rfl ?_
  refine er_iload_n d_Mo_step_28 rfl ?_
  refine er_ialdQ (v := (nI (0))) d_Mo_step_29 h32 (by omega) (by omega) (congrArg nI ho) ?_
  refine er_istore_n d_Mo_step_30 (by decide) ?_
  show jl_E l G m_Mo_step (0, 0) 31 [some (.ref 22), some (.int (nI t)), some (.int (nI (((24) * (m)) + (p)))), some (.int (nI 0)), none] [] (σ) P
  refine er_aload_n d_Mo_step_31 rfl ?_
  refine er_getf d_Mo_step_32 f_Mo_step_41 hO rfl ?_
  refine er_iload_n d_Mo_step_35 rfl ?_
  refine er_ialdQ (v := (x)) d_Mo_step_36 h33 (by omega) (by omega) (hx) ?_
  refine er_istore d_Mo_step_37 (by decide) ?_
  show jl_E l G m_Mo_step (0, 0) 39 [some (.ref 22), some (.int (nI t)), some (.int (nI (((24) * (m)) + (p)))), some (.int (nI 0)), some (.int (x))] [] (σ) P
  refine er_aload_n d_Mo_step_39 rfl ?_
  refine er_dup d_Mo_step_40 rfl ?_
  refine er_getf d_Mo_step_41 f_Mo_step_270 hO rfl ?_
  refine er_iconst ((nI (1))) d_Mo_step_44 (by decide) ?_
  refine er_iaddN d_Mo_step_45 ?_
  refine er_putf d_Mo_step_46 p_Mo_step_270 hO (Nat.le_of_ble_eq_true rfl) jl_fit_int ?_
  show jl_E l G m_Mo_step (0, 0) 49 [some (.ref 22), some (.int (nI t)), some (.int (nI (((24) * (m)) + (p)))), some (.int (nI 0)), some (.int (x))] [] (σ.set (22) (.inr (7, [.int (fa), .ref 23, .ref 24, .ref 25, .ref 26, .ref 27, .ref 28, .ref 29, .ref 30, .ref 31, .ref 32, .ref 33, .ref 34, .ref 35, .ref 36, .ref 37, .int (vf), .int (wh), .int (wy), .ref 38, .ref 39, .ref 40, .ref 41, .int (hg), .ref 42, .ref 43, .ref 44, .ref 45, .ref 46, .ref 47, .ref 48, .ref 49, .int (nI (t + 1)), .ref 50, .ref 51, .ref 52, .int (nI (H.n)), .int (ov), .int (oh), .int (nI ((d) + (1))), .int (an)]))) P
  refine er_iload_n d_Mo_step_49 rfl ?_
  refine er_tableOut 222 d_Mo_step_50 (by decide +kernel) (by decide) ?_
  refine er_aload_n d_Mo_step_222 rfl ?_
  refine er_iload_n d_Mo_step_223 rfl ?_
  refine er_iload d_Mo_step_224 rfl ?_
  refine er_callVE (As := [.int (nI 0), .int (x)]) d_Mo_step_226 k_Mo_step_300 (jl_ss hO) rfl rfl rfl (Nat.le_of_ble_eq_true rfl) (by decide) (by decide) (jl_mE.mono (hC _ (hn.done (dn2 := nI (d + 1)))) (fun r σ z => ⟨none, z.1, ?_⟩))
  show jl_E l G m_Mo_step (0, 0) 229 [some (.ref 22), some (.int (nI t)), some (.int (nI (((24) * (m)) + (p)))), some (.int (nI 0)), some (.int (x))] [] (σ) P
  exact er_vret d_Mo_step_229 rfl (z.2) (by decide) (by decide)
theorem mo_sw_1 (hl : l.stackTraces = false) {P : jl_O → jl_S → Prop}  (hn : NB σ0 σ (N) t m (p) (h) (R) (V) (fs) (H) fa vf wh wy hg ov oh (nI d) an) (hu : MoM σ u1 u2 ur ul uo ua uc us ut uk) (ht : t < 12) (hm24 : m < 24) (hp24 : p < 24) (ho : uo (24 * m + p) = 1) (hx : ua (24 * m + p) = x) (hC : ∀ σ1, NB σ0 σ1 (N) t m (p) (h) (R) (V) (fs) (H) fa vf wh wy hg ov oh (nI (d + 1)) an → jl_mE l G m_Mo_simple [.ref 22, .int (nI 1), .int x] σ1 (fun r σ' => r = .inl none ∧ P (.inl none) σ')) : jl_mE l G m_Mo_step [.ref 22] σ P := by
  obtain ⟨fx, fp, fh, lw, lk, vl, vk, ks, kc, kv, lo, sk, hO, f1, f2, f3, f4, f5, f6, f7, hH, hB, hy1, hR1, hF⟩ := id hn
  obtain ⟨k1, k2, k3⟩ := id hH
  obtain ⟨⟨r1, r2⟩, hlo, hsk⟩ := id hR1
  obtain ⟨⟨hfx, hfp, hlc, hst⟩, hfh, hfs, hln⟩ := id hy1
  have hfx : fx t = m := hfx
  have hfp : fp t = p := hfp
  have hlc : ∀ k, k < 6 → lk (6 * t + k) = kdI (R k) ∧ (R k ≠ none → lw (6 * t + k) = V k) := hlc
  have hst : ∀ j, j < _ → vk (5 * t + j) = kdI (R (7 + j)) ∧ vl (5 * t + j) = V (7 + j) := hst
  obtain ⟨h28, h29, h30, h31, h32, h33, h34, h35, h36, h37⟩ := id hu
  refine jl_ofE (as := [.ref 22]) rfl (by decide) hl (jl_cc rfl jl_ca) (Nat.le_of_ble_eq_true rfl) ?_
  show jl_E l G m_Mo_step (0, 0) 0 [some (.ref 22), none, none, none, none] [] (σ) P
  refine er_aload_n d_Mo_step_0 rfl ?_
  refine er_getf d_Mo_step_1 f_Mo_step_224 hO rfl ?_
  refine er_iconst ((nI (1))) d_Mo_step_4 (by decide) ?_
  refine er_isubN d_Mo_step_5 (by omega) ?_
  rw [show (t + 1) - (1) = t by omega]
  show jl_E l G m_Mo_step (0, 0) 6 [some (.ref 22), none, none, none, none] [.int (nI t)] (σ) P
  refine er_istore_n d_Mo_step_6 (by decide) ?_
  show jl_E l G m_Mo_step (0, 0) 7 [some (.ref 22), some (.int (nI t)), none, none, none] [] (σ) P
  refine er_bipush ((nI (24))) d_Mo_step_7 (by decide) ?_
  refine er_aload_n d_Mo_step_9 rfl ?_
  refine er_getf d_Mo_step_10 f_Mo_step_78 hO rfl ?_
  refine er_iload_n d_Mo_step_13 rfl ?_
  refine er_ialdQ (v := (nI (m))) d_Mo_step_14 f1 (by omega) (by omega) (congrArg nI hfx) ?_
  refine er_imulN d_Mo_step_15 ?_
  refine er_aload_n d_Mo_step_16 rfl ?_
  refine er_getf d_Mo_step_17 f_Mo_step_81 hO rfl ?_
  refine er_iload_n d_Mo_step_20 rfl ?_
  refine er_ialdQ (v := (nI (p))) d_Mo_step_21 f2 (by omega) (by omega) (congrArg nI hfp) ?_
  refine er_iaddN d_Mo_step_22 ?_
  refine er_istore_n d_Mo_step_23 (by decide) ?_
  show jl_E l G m_Mo_step (0, 0) 24 [some (.ref 22), some (.int (nI t)), some (.int (nI (((24) * (m)) + (p)))), none, none] [] (σ) P
  refine er_aload_n d_Mo_step_24 rfl ?_
  refine er_getf d_Mo_step_25 f_Mo_step_38 hO rfl ?_
  refine er_iload_n d_Mo_step_28 rfl ?_
  refine er_ialdQ (v := (nI (1))) d_Mo_step_29 h32 (by omega) (by omega) (congrArg nI ho) ?_
  refine er_istore_n d_Mo_step_30 (by decide) ?_
  show jl_E l G m_Mo_step (0, 0) 31 [some (.ref 22), some (.int (nI t)), some (.int (nI (((24) * (m)) + (p)))), some (.int (nI 1)), none] [] (σ) P
  refine er_aload_n d_Mo_step_31 rfl ?_
  refine er_getf d_Mo_step_32 f_Mo_step_41 hO rfl ?_
  refine er_iload_n d_Mo_step_35 rfl ?_
  refine er_ialdQ (v := (x)) d_Mo_step_36 h33 (by omega) (by omega) (hx) ?_
  refine er_istore d_Mo_step_37 (by decide) ?_
  show jl_E l G m_Mo_step (0, 0) 39 [some (.ref 22), some (.int (nI t)), some (.int (nI (((24) * (m)) + (p)))), some (.int (nI 1)), some (.int (x))] [] (σ) P
  refine er_aload_n d_Mo_step_39 rfl ?_
  refine er_dup d_Mo_step_40 rfl ?_
  refine er_getf d_Mo_step_41 f_Mo_step_270 hO rfl ?_
  refine er_iconst ((nI (1))) d_Mo_step_44 (by decide) ?_
  refine er_iaddN d_Mo_step_45 ?_
  refine er_putf d_Mo_step_46 p_Mo_step_270 hO (Nat.le_of_ble_eq_true rfl) jl_fit_int ?_
  show jl_E l G m_Mo_step (0, 0) 49 [some (.ref 22), some (.int (nI t)), some (.int (nI (((24) * (m)) + (p)))), some (.int (nI 1)), some (.int (x))] [] (σ.set (22) (.inr (7, [.int (fa), .ref 23, .ref 24, .ref 25, .ref 26, .ref 27, .ref 28, .ref 29, .ref 30, .ref 31, .ref 32, .ref 33, .ref 34, .ref 35, .ref 36, .ref 37, .int (vf), .int (wh), .int (wy), .ref 38, .ref 39, .ref 40, .ref 41, .int (hg), .ref 42, .ref 43, .ref 44, .ref 45, .ref 46, .ref 47, .ref 48, .ref 49, .int (nI (t + 1)), .ref 50, .ref 51, .ref 52, .int (nI (H.n)), .int (ov), .int (oh), .int (nI ((d) + (1))), .int (an)]))) P
  refine er_iload_n d_Mo_step_49 rfl ?_
  refine er_tableOut 222 d_Mo_step_50 (by decide +kernel) (by decide) ?_
  refine er_aload_n d_Mo_step_222 rfl ?_
  refine er_iload_n d_Mo_step_223 rfl ?_
  refine er_iload d_Mo_step_224 rfl ?_
  refine er_callVE (As := [.int (nI 1), .int (x)]) d_Mo_step_226 k_Mo_step_300 (jl_ss hO) rfl rfl rfl (Nat.le_of_ble_eq_true rfl) (by decide) (by decide) (jl_mE.mono (hC _ (hn.done (dn2 := nI (d + 1)))) (fun r σ z => ⟨none, z.1, ?_⟩))
  show jl_E l G m_Mo_step (0, 0) 229 [some (.ref 22), some (.int (nI t)), some (.int (nI (((24) * (m)) + (p)))), some (.int (nI 1)), some (.int (x))] [] (σ) P
  exact er_vret d_Mo_step_229 rfl (z.2) (by decide) (by decide)
theorem mo_sw_2 (hl : l.stackTraces = false) {P : jl_O → jl_S → Prop}  (hn : NB σ0 σ (N) t m (p) (h) (R) (V) (fs) (H) fa vf wh wy hg ov oh (nI d) an) (hu : MoM σ u1 u2 ur ul uo ua uc us ut uk) (ht : t < 12) (hm24 : m < 24) (hp24 : p < 24) (ho : uo (24 * m + p) = 2) (hx : ua (24 * m + p) = x) (hC : ∀ σ1, NB σ0 σ1 (N) t m (p) (h) (R) (V) (fs) (H) fa vf wh wy hg ov oh (nI (d + 1)) an → jl_mE l G m_Mo_simple [.ref 22, .int (nI 2), .int x] σ1 (fun r σ' => r = .inl none ∧ P (.inl none) σ')) : jl_mE l G m_Mo_step [.ref 22] σ P := by
  obtain ⟨fx, fp, fh, lw, lk, vl, vk, ks, kc, kv, lo, sk, hO, f1, f2, f3, f4, f5, f6, f7, hH, hB, hy1, hR1, hF⟩ := id hn
  obtain ⟨k1, k2, k3⟩ := id hH
  obtain ⟨⟨r1, r2⟩, hlo, hsk⟩ := id hR1
  obtain ⟨⟨hfx, hfp, hlc, hst⟩, hfh, hfs, hln⟩ := id hy1
  have hfx : fx t = m := hfx
  have hfp : fp t = p := hfp
  have hlc : ∀ k, k < 6 → lk (6 * t + k) = kdI (R k) ∧ (R k ≠ none → lw (6 * t + k) = V k) := hlc
  have hst : ∀ j, j < _ → vk (5 * t + j) = kdI (R (7 + j)) ∧ vl (5 * t + j) = V (7 + j) := hst
  obtain ⟨h28, h29, h30, h31, h32, h33, h34, h35, h36, h37⟩ := id hu
  refine jl_ofE (as := [.ref 22]) rfl (by decide) hl (jl_cc rfl jl_ca) (Nat.le_of_ble_eq_true rfl) ?_
  show jl_E l G m_Mo_step (0, 0) 0 [some (.ref 22), none, none, none, none] [] (σ) P
  refine er_aload_n d_Mo_step_0 rfl ?_
  refine er_getf d_Mo_step_1 f_Mo_step_224 hO rfl ?_
  refine er_iconst ((nI (1))) d_Mo_step_4 (by decide) ?_
  refine er_isubN d_Mo_step_5 (by omega) ?_
  rw [show (t + 1) - (1) = t by omega]
  show jl_E l G m_Mo_step (0, 0) 6 [some (.ref 22), none, none, none, none] [.int (nI t)] (σ) P
  refine er_istore_n d_Mo_step_6 (by decide) ?_
  show jl_E l G m_Mo_step (0, 0) 7 [some (.ref 22), some (.int (nI t)), none, none, none] [] (σ) P
  refine er_bipush ((nI (24))) d_Mo_step_7 (by decide) ?_
  refine er_aload_n d_Mo_step_9 rfl ?_
  refine er_getf d_Mo_step_10 f_Mo_step_78 hO rfl ?_
  refine er_iload_n d_Mo_step_13 rfl ?_
  refine er_ialdQ (v := (nI (m))) d_Mo_step_14 f1 (by omega) (by omega) (congrArg nI hfx) ?_
  refine er_imulN d_Mo_step_15 ?_
  refine er_aload_n d_Mo_step_16 rfl ?_
  refine er_getf d_Mo_step_17 f_Mo_step_81 hO rfl ?_
  refine er_iload_n d_Mo_step_20 rfl ?_
  refine er_ialdQ (v := (nI (p))) d_Mo_step_21 f2 (by omega) (by omega) (congrArg nI hfp) ?_
  refine er_iaddN d_Mo_step_22 ?_
  refine er_istore_n d_Mo_step_23 (by decide) ?_
  show jl_E l G m_Mo_step (0, 0) 24 [some (.ref 22), some (.int (nI t)), some (.int (nI (((24) * (m)) + (p)))), none, none] [] (σ) P
  refine er_aload_n d_Mo_step_24 rfl ?_
  refine er_getf d_Mo_step_25 f_Mo_step_38 hO rfl ?_
  refine er_iload_n d_Mo_step_28 rfl ?_
  refine er_ialdQ (v := (nI (2))) d_Mo_step_29 h32 (by omega) (by omega) (congrArg nI ho) ?_
  refine er_istore_n d_Mo_step_30 (by decide) ?_
  show jl_E l G m_Mo_step (0, 0) 31 [some (.ref 22), some (.int (nI t)), some (.int (nI (((24) * (m)) + (p)))), some (.int (nI 2)), none] [] (σ) P
  refine er_aload_n d_Mo_step_31 rfl ?_
  refine er_getf d_Mo_step_32 f_Mo_step_41 hO rfl ?_
  refine er_iload_n d_Mo_step_35 rfl ?_
  refine er_ialdQ (v := (x)) d_Mo_step_36 h33 (by omega) (by omega) (hx) ?_
  refine er_istore d_Mo_step_37 (by decide) ?_
  show jl_E l G m_Mo_step (0, 0) 39 [some (.ref 22), some (.int (nI t)), some (.int (nI (((24) * (m)) + (p)))), some (.int (nI 2)), some (.int (x))] [] (σ) P
  refine er_aload_n d_Mo_step_39 rfl ?_
  refine er_dup d_Mo_step_40 rfl ?_
  refine er_getf d_Mo_step_41 f_Mo_step_270 hO rfl ?_
  refine er_iconst ((nI (1))) d_Mo_step_44 (by decide) ?_
  refine er_iaddN d_Mo_step_45 ?_
  refine er_putf d_Mo_step_46 p_Mo_step_270 hO (Nat.le_of_ble_eq_true rfl) jl_fit_int ?_
  show jl_E l G m_Mo_step (0, 0) 49 [some (.ref 22), some (.int (nI t)), some (.int (nI (((24) * (m)) + (p)))), some (.int (nI 2)), some (.int (x))] [] (σ.set (22) (.inr (7, [.int (fa), .ref 23, .ref 24, .ref 25, .ref 26, .ref 27, .ref 28, .ref 29, .ref 30, .ref 31, .ref 32, .ref 33, .ref 34, .ref 35, .ref 36, .ref 37, .int (vf), .int (wh), .int (wy), .ref 38, .ref 39, .ref 40, .ref 41, .int (hg), .ref 42, .ref 43, .ref 44, .ref 45, .ref 46, .ref 47, .ref 48, .ref 49, .int (nI (t + 1)), .ref 50, .ref 51, .ref 52, .int (nI (H.n)), .int (ov), .int (oh), .int (nI ((d) + (1))), .int (an)]))) P
  refine er_iload_n d_Mo_step_49 rfl ?_
  refine er_tableOut 222 d_Mo_step_50 (by decide +kernel) (by decide) ?_
  refine er_aload_n d_Mo_step_222 rfl ?_
  refine er_iload_n d_Mo_step_223 rfl ?_
  refine er_iload d_Mo_step_224 rfl ?_
  refine er_callVE (As := [.int (nI 2), .int (x)]) d_Mo_step_226 k_Mo_step_300 (jl_ss hO) rfl rfl rfl (Nat.le_of_ble_eq_true rfl) (by decide) (by decide) (jl_mE.mono (hC _ (hn.done (dn2 := nI (d + 1)))) (fun r σ z => ⟨none, z.1, ?_⟩))
  show jl_E l G m_Mo_step (0, 0) 229 [some (.ref 22), some (.int (nI t)), some (.int (nI (((24) * (m)) + (p)))), some (.int (nI 2)), some (.int (x))] [] (σ) P
  exact er_vret d_Mo_step_229 rfl (z.2) (by decide) (by decide)
theorem d_Mo_step_144 : decode m_Mo_step.2.1 144 = .ok (.aload_n 0, 1) := by decide +kernel
theorem d_Mo_step_145 : decode m_Mo_step.2.1 145 = .ok (.iload_n 3, 1) := by decide +kernel
theorem k_Mo_step_273 : jl_cv m_Mo_step m_Mo_arithmetic 273 1 = true := by decide +kernel
theorem d_Mo_step_146 : decode m_Mo_step.2.1 146 = .ok (.invokevirtual 273, 3) := by decide +kernel
theorem d_Mo_step_149 : decode m_Mo_step.2.1 149 = .ok (.goto 80, 3) := by decide +kernel
theorem mo_sw_3 (hl : l.stackTraces = false) {P : jl_O → jl_S → Prop}  (hn : NB σ0 σ (N) t m (p) (h) (R) (V) (fs) (H) fa vf wh wy hg ov oh (nI d) an) (hu : MoM σ u1 u2 ur ul uo ua uc us ut uk) (ht : t < 12) (hm24 : m < 24) (hp24 : p < 24) (ho : uo (24 * m + p) = 3) (hx : ua (24 * m + p) = x) (hC : ∀ σ1, NB σ0 σ1 (N) t m (p) (h) (R) (V) (fs) (H) fa vf wh wy hg ov oh (nI (d + 1)) an → jl_mE l G m_Mo_arithmetic [.ref 22, .int (nI 3)] σ1 (fun r σ' => r = .inl none ∧ P (.inl none) σ')) : jl_mE l G m_Mo_step [.ref 22] σ P := by
  obtain ⟨fx, fp, fh, lw, lk, vl, vk, ks, kc, kv, lo, sk, hO, f1, f2, f3, f4, f5, f6, f7, hH, hB, hy1, hR1, hF⟩ := id hn
  obtain ⟨k1, k2, k3⟩ := id hH
  obtain ⟨⟨r1, r2⟩, hlo, hsk⟩ := id hR1
  obtain ⟨⟨hfx, hfp, hlc, hst⟩, hfh, hfs, hln⟩ := id hy1
  have hfx : fx t = m := hfx
  have hfp : fp t = p := hfp
  have hlc : ∀ k, k < 6 → lk (6 * t + k) = kdI (R k) ∧ (R k ≠ none → lw (6 * t + k) = V k) := hlc
  have hst : ∀ j, j < _ → vk (5 * t + j) = kdI (R (7 + j)) ∧ vl (5 * t + j) = V (7 + j) := hst
  obtain ⟨h28, h29, h30, h31, h32, h33, h34, h35, h36, h37⟩ := id hu
  refine jl_ofE (as := [.ref 22]) rfl (by decide) hl (jl_cc rfl jl_ca) (Nat.le_of_ble_eq_true rfl) ?_
  show jl_E l G m_Mo_step (0, 0) 0 [some (.ref 22), none, none, none, none] [] (σ) P
  refine er_aload_n d_Mo_step_0 rfl ?_
  refine er_getf d_Mo_step_1 f_Mo_step_224 hO rfl ?_
  refine er_iconst ((nI (1))) d_Mo_step_4 (by decide) ?_
  refine er_isubN d_Mo_step_5 (by omega) ?_
  rw [show (t + 1) - (1) = t by omega]
  show jl_E l G m_Mo_step (0, 0) 6 [some (.ref 22), none, none, none, none] [.int (nI t)] (σ) P
  refine er_istore_n d_Mo_step_6 (by decide) ?_
  show jl_E l G m_Mo_step (0, 0) 7 [some (.ref 22), some (.int (nI t)), none, none, none] [] (σ) P
  refine er_bipush ((nI (24))) d_Mo_step_7 (by decide) ?_
  refine er_aload_n d_Mo_step_9 rfl ?_
  refine er_getf d_Mo_step_10 f_Mo_step_78 hO rfl ?_
  refine er_iload_n d_Mo_step_13 rfl ?_
  refine er_ialdQ (v := (nI (m))) d_Mo_step_14 f1 (by omega) (by omega) (congrArg nI hfx) ?_
  refine er_imulN d_Mo_step_15 ?_
  refine er_aload_n d_Mo_step_16 rfl ?_
  refine er_getf d_Mo_step_17 f_Mo_step_81 hO rfl ?_
  refine er_iload_n d_Mo_step_20 rfl ?_
  refine er_ialdQ (v := (nI (p))) d_Mo_step_21 f2 (by omega) (by omega) (congrArg nI hfp) ?_
  refine er_iaddN d_Mo_step_22 ?_
  refine er_istore_n d_Mo_step_23 (by decide) ?_
  show jl_E l G m_Mo_step (0, 0) 24 [some (.ref 22), some (.int (nI t)), some (.int (nI (((24) * (m)) + (p)))), none, none] [] (σ) P
  refine er_aload_n d_Mo_step_24 rfl ?_
  refine er_getf d_Mo_step_25 f_Mo_step_38 hO rfl ?_
  refine er_iload_n d_Mo_step_28 rfl ?_
  refine er_ialdQ (v := (nI (3))) d_Mo_step_29 h32 (by omega) (by omega) (congrArg nI ho) ?_
  refine er_istore_n d_Mo_step_30 (by decide) ?_
  show jl_E l G m_Mo_step (0, 0) 31 [some (.ref 22), some (.int (nI t)), some (.int (nI (((24) * (m)) + (p)))), some (.int (nI 3)), none] [] (σ) P
  refine er_aload_n d_Mo_step_31 rfl ?_
  refine er_getf d_Mo_step_32 f_Mo_step_41 hO rfl ?_
  refine er_iload_n d_Mo_step_35 rfl ?_
  refine er_ialdQ (v := (x)) d_Mo_step_36 h33 (by omega) (by omega) (hx) ?_
  refine er_istore d_Mo_step_37 (by decide) ?_
  show jl_E l G m_Mo_step (0, 0) 39 [some (.ref 22), some (.int (nI t)), some (.int (nI (((24) * (m)) + (p)))), some (.int (nI 3)), some (.int (x))] [] (σ) P
  refine er_aload_n d_Mo_step_39 rfl ?_
  refine er_dup d_Mo_step_40 rfl ?_
  refine er_getf d_Mo_step_41 f_Mo_step_270 hO rfl ?_
  refine er_iconst ((nI (1))) d_Mo_step_44 (by decide) ?_
  refine er_iaddN d_Mo_step_45 ?_
  refine er_putf d_Mo_step_46 p_Mo_step_270 hO (Nat.le_of_ble_eq_true rfl) jl_fit_int ?_
  show jl_E l G m_Mo_step (0, 0) 49 [some (.ref 22), some (.int (nI t)), some (.int (nI (((24) * (m)) + (p)))), some (.int (nI 3)), some (.int (x))] [] (σ.set (22) (.inr (7, [.int (fa), .ref 23, .ref 24, .ref 25, .ref 26, .ref 27, .ref 28, .ref 29, .ref 30, .ref 31, .ref 32, .ref 33, .ref 34, .ref 35, .ref 36, .ref 37, .int (vf), .int (wh), .int (wy), .ref 38, .ref 39, .ref 40, .ref 41, .int (hg), .ref 42, .ref 43, .ref 44, .ref 45, .ref 46, .ref 47, .ref 48, .ref 49, .int (nI (t + 1)), .ref 50, .ref 51, .ref 52, .int (nI (H.n)), .int (ov), .int (oh), .int (nI ((d) + (1))), .int (an)]))) P
  refine er_iload_n d_Mo_step_49 rfl ?_
  refine er_tableIn (off := 94) 144 d_Mo_step_50 (by decide +kernel) (by decide +kernel) (by decide +kernel) (by decide) ?_
  refine er_aload_n d_Mo_step_144 rfl ?_
  refine er_iload_n d_Mo_step_145 rfl ?_
  refine er_callVE (As := [.int (nI 3)]) d_Mo_step_146 k_Mo_step_273 (jl_ss hO) rfl rfl rfl (Nat.le_of_ble_eq_true rfl) (by decide) (by decide) (jl_mE.mono (hC _ (hn.done (dn2 := nI (d + 1)))) (fun r σ z => ⟨none, z.1, ?_⟩))
  show jl_E l G m_Mo_step (0, 0) 149 [some (.ref 22), some (.int (nI t)), some (.int (nI (((24) * (m)) + (p)))), some (.int (nI 3)), some (.int (x))] [] (σ) P
  refine er_goto 229 d_Mo_step_149 (by decide) ?_
  exact er_vret d_Mo_step_229 rfl (z.2) (by decide) (by decide)
theorem mo_sw_4 (hl : l.stackTraces = false) {P : jl_O → jl_S → Prop}  (hn : NB σ0 σ (N) t m (p) (h) (R) (V) (fs) (H) fa vf wh wy hg ov oh (nI d) an) (hu : MoM σ u1 u2 ur ul uo ua uc us ut uk) (ht : t < 12) (hm24 : m < 24) (hp24 : p < 24) (ho : uo (24 * m + p) = 4) (hx : ua (24 * m + p) = x) (hC : ∀ σ1, NB σ0 σ1 (N) t m (p) (h) (R) (V) (fs) (H) fa vf wh wy hg ov oh (nI (d + 1)) an → jl_mE l G m_Mo_arithmetic [.ref 22, .int (nI 4)] σ1 (fun r σ' => r = .inl none ∧ P (.inl none) σ')) : jl_mE l G m_Mo_step [.ref 22] σ P := by
  obtain ⟨fx, fp, fh, lw, lk, vl, vk, ks, kc, kv, lo, sk, hO, f1, f2, f3, f4, f5, f6, f7, hH, hB, hy1, hR1, hF⟩ := id hn
  obtain ⟨k1, k2, k3⟩ := id hH
  obtain ⟨⟨r1, r2⟩, hlo, hsk⟩ := id hR1
  obtain ⟨⟨hfx, hfp, hlc, hst⟩, hfh, hfs, hln⟩ := id hy1
  have hfx : fx t = m := hfx
  have hfp : fp t = p := hfp
  have hlc : ∀ k, k < 6 → lk (6 * t + k) = kdI (R k) ∧ (R k ≠ none → lw (6 * t + k) = V k) := hlc
  have hst : ∀ j, j < _ → vk (5 * t + j) = kdI (R (7 + j)) ∧ vl (5 * t + j) = V (7 + j) := hst
  obtain ⟨h28, h29, h30, h31, h32, h33, h34, h35, h36, h37⟩ := id hu
  refine jl_ofE (as := [.ref 22]) rfl (by decide) hl (jl_cc rfl jl_ca) (Nat.le_of_ble_eq_true rfl) ?_
  show jl_E l G m_Mo_step (0, 0) 0 [some (.ref 22), none, none, none, none] [] (σ) P
  refine er_aload_n d_Mo_step_0 rfl ?_
  refine er_getf d_Mo_step_1 f_Mo_step_224 hO rfl ?_
  refine er_iconst ((nI (1))) d_Mo_step_4 (by decide) ?_
  refine er_isubN d_Mo_step_5 (by omega) ?_
  rw [show (t + 1) - (1) = t by omega]
  show jl_E l G m_Mo_step (0, 0) 6 [some (.ref 22), none, none, none, none] [.int (nI t)] (σ) P
  refine er_istore_n d_Mo_step_6 (by decide) ?_
  show jl_E l G m_Mo_step (0, 0) 7 [some (.ref 22), some (.int (nI t)), none, none, none] [] (σ) P
  refine er_bipush ((nI (24))) d_Mo_step_7 (by decide) ?_
  refine er_aload_n d_Mo_step_9 rfl ?_
  refine er_getf d_Mo_step_10 f_Mo_step_78 hO rfl ?_
  refine er_iload_n d_Mo_step_13 rfl ?_
  refine er_ialdQ (v := (nI (m))) d_Mo_step_14 f1 (by omega) (by omega) (congrArg nI hfx) ?_
  refine er_imulN d_Mo_step_15 ?_
  refine er_aload_n d_Mo_step_16 rfl ?_
  refine er_getf d_Mo_step_17 f_Mo_step_81 hO rfl ?_
  refine er_iload_n d_Mo_step_20 rfl ?_
  refine er_ialdQ (v := (nI (p))) d_Mo_step_21 f2 (by omega) (by omega) (congrArg nI hfp) ?_
  refine er_iaddN d_Mo_step_22 ?_
  refine er_istore_n d_Mo_step_23 (by decide) ?_
  show jl_E l G m_Mo_step (0, 0) 24 [some (.ref 22), some (.int (nI t)), some (.int (nI (((24) * (m)) + (p)))), none, none] [] (σ) P
  refine er_aload_n d_Mo_step_24 rfl ?_
  refine er_getf d_Mo_step_25 f_Mo_step_38 hO rfl ?_
  refine er_iload_n d_Mo_step_28 rfl ?_
  refine er_ialdQ (v := (nI (4))) d_Mo_step_29 h32 (by omega) (by omega) (congrArg nI ho) ?_
  refine er_istore_n d_Mo_step_30 (by decide) ?_
  show jl_E l G m_Mo_step (0, 0) 31 [some (.ref 22), some (.int (nI t)), some (.int (nI (((24) * (m)) + (p)))), some (.int (nI 4)), none] [] (σ) P
  refine er_aload_n d_Mo_step_31 rfl ?_
  refine er_getf d_Mo_step_32 f_Mo_step_41 hO rfl ?_
  refine er_iload_n d_Mo_step_35 rfl ?_
  refine er_ialdQ (v := (x)) d_Mo_step_36 h33 (by omega) (by omega) (hx) ?_
  refine er_istore d_Mo_step_37 (by decide) ?_
  show jl_E l G m_Mo_step (0, 0) 39 [some (.ref 22), some (.int (nI t)), some (.int (nI (((24) * (m)) + (p)))), some (.int (nI 4)), some (.int (x))] [] (σ) P
  refine er_aload_n d_Mo_step_39 rfl ?_
  refine er_dup d_Mo_step_40 rfl ?_
  refine er_getf d_Mo_step_41 f_Mo_step_270 hO rfl ?_
  refine er_iconst ((nI (1))) d_Mo_step_44 (by decide) ?_
  refine er_iaddN d_Mo_step_45 ?_
  refine er_putf d_Mo_step_46 p_Mo_step_270 hO (Nat.le_of_ble_eq_true rfl) jl_fit_int ?_
  show jl_E l G m_Mo_step (0, 0) 49 [some (.ref 22), some (.int (nI t)), some (.int (nI (((24) * (m)) + (p)))), some (.int (nI 4)), some (.int (x))] [] (σ.set (22) (.inr (7, [.int (fa), .ref 23, .ref 24, .ref 25, .ref 26, .ref 27, .ref 28, .ref 29, .ref 30, .ref 31, .ref 32, .ref 33, .ref 34, .ref 35, .ref 36, .ref 37, .int (vf), .int (wh), .int (wy), .ref 38, .ref 39, .ref 40, .ref 41, .int (hg), .ref 42, .ref 43, .ref 44, .ref 45, .ref 46, .ref 47, .ref 48, .ref 49, .int (nI (t + 1)), .ref 50, .ref 51, .ref 52, .int (nI (H.n)), .int (ov), .int (oh), .int (nI ((d) + (1))), .int (an)]))) P
  refine er_iload_n d_Mo_step_49 rfl ?_
  refine er_tableIn (off := 94) 144 d_Mo_step_50 (by decide +kernel) (by decide +kernel) (by decide +kernel) (by decide) ?_
  refine er_aload_n d_Mo_step_144 rfl ?_
  refine er_iload_n d_Mo_step_145 rfl ?_
  refine er_callVE (As := [.int (nI 4)]) d_Mo_step_146 k_Mo_step_273 (jl_ss hO) rfl rfl rfl (Nat.le_of_ble_eq_true rfl) (by decide) (by decide) (jl_mE.mono (hC _ (hn.done (dn2 := nI (d + 1)))) (fun r σ z => ⟨none, z.1, ?_⟩))
  show jl_E l G m_Mo_step (0, 0) 149 [some (.ref 22), some (.int (nI t)), some (.int (nI (((24) * (m)) + (p)))), some (.int (nI 4)), some (.int (x))] [] (σ) P
  refine er_goto 229 d_Mo_step_149 (by decide) ?_
  exact er_vret d_Mo_step_229 rfl (z.2) (by decide) (by decide)
theorem mo_sw_5 (hl : l.stackTraces = false) {P : jl_O → jl_S → Prop}  (hn : NB σ0 σ (N) t m (p) (h) (R) (V) (fs) (H) fa vf wh wy hg ov oh (nI d) an) (hu : MoM σ u1 u2 ur ul uo ua uc us ut uk) (ht : t < 12) (hm24 : m < 24) (hp24 : p < 24) (ho : uo (24 * m + p) = 5) (hx : ua (24 * m + p) = x) (hC : ∀ σ1, NB σ0 σ1 (N) t m (p) (h) (R) (V) (fs) (H) fa vf wh wy hg ov oh (nI (d + 1)) an → jl_mE l G m_Mo_arithmetic [.ref 22, .int (nI 5)] σ1 (fun r σ' => r = .inl none ∧ P (.inl none) σ')) : jl_mE l G m_Mo_step [.ref 22] σ P := by
  obtain ⟨fx, fp, fh, lw, lk, vl, vk, ks, kc, kv, lo, sk, hO, f1, f2, f3, f4, f5, f6, f7, hH, hB, hy1, hR1, hF⟩ := id hn
  obtain ⟨k1, k2, k3⟩ := id hH
  obtain ⟨⟨r1, r2⟩, hlo, hsk⟩ := id hR1
  obtain ⟨⟨hfx, hfp, hlc, hst⟩, hfh, hfs, hln⟩ := id hy1
  have hfx : fx t = m := hfx
  have hfp : fp t = p := hfp
  have hlc : ∀ k, k < 6 → lk (6 * t + k) = kdI (R k) ∧ (R k ≠ none → lw (6 * t + k) = V k) := hlc
  have hst : ∀ j, j < _ → vk (5 * t + j) = kdI (R (7 + j)) ∧ vl (5 * t + j) = V (7 + j) := hst
  obtain ⟨h28, h29, h30, h31, h32, h33, h34, h35, h36, h37⟩ := id hu
  refine jl_ofE (as := [.ref 22]) rfl (by decide) hl (jl_cc rfl jl_ca) (Nat.le_of_ble_eq_true rfl) ?_
  show jl_E l G m_Mo_step (0, 0) 0 [some (.ref 22), none, none, none, none] [] (σ) P
  refine er_aload_n d_Mo_step_0 rfl ?_
  refine er_getf d_Mo_step_1 f_Mo_step_224 hO rfl ?_
  refine er_iconst ((nI (1))) d_Mo_step_4 (by decide) ?_
  refine er_isubN d_Mo_step_5 (by omega) ?_
  rw [show (t + 1) - (1) = t by omega]
  show jl_E l G m_Mo_step (0, 0) 6 [some (.ref 22), none, none, none, none] [.int (nI t)] (σ) P
  refine er_istore_n d_Mo_step_6 (by decide) ?_
  show jl_E l G m_Mo_step (0, 0) 7 [some (.ref 22), some (.int (nI t)), none, none, none] [] (σ) P
  refine er_bipush ((nI (24))) d_Mo_step_7 (by decide) ?_
  refine er_aload_n d_Mo_step_9 rfl ?_
  refine er_getf d_Mo_step_10 f_Mo_step_78 hO rfl ?_
  refine er_iload_n d_Mo_step_13 rfl ?_
  refine er_ialdQ (v := (nI (m))) d_Mo_step_14 f1 (by omega) (by omega) (congrArg nI hfx) ?_
  refine er_imulN d_Mo_step_15 ?_
  refine er_aload_n d_Mo_step_16 rfl ?_
  refine er_getf d_Mo_step_17 f_Mo_step_81 hO rfl ?_
  refine er_iload_n d_Mo_step_20 rfl ?_
  refine er_ialdQ (v := (nI (p))) d_Mo_step_21 f2 (by omega) (by omega) (congrArg nI hfp) ?_
  refine er_iaddN d_Mo_step_22 ?_
  refine er_istore_n d_Mo_step_23 (by decide) ?_
  show jl_E l G m_Mo_step (0, 0) 24 [some (.ref 22), some (.int (nI t)), some (.int (nI (((24) * (m)) + (p)))), none, none] [] (σ) P
  refine er_aload_n d_Mo_step_24 rfl ?_
  refine er_getf d_Mo_step_25 f_Mo_step_38 hO rfl ?_
  refine er_iload_n d_Mo_step_28 rfl ?_
  refine er_ialdQ (v := (nI (5))) d_Mo_step_29 h32 (by omega) (by omega) (congrArg nI ho) ?_
  refine er_istore_n d_Mo_step_30 (by decide) ?_
  show jl_E l G m_Mo_step (0, 0) 31 [some (.ref 22), some (.int (nI t)), some (.int (nI (((24) * (m)) + (p)))), some (.int (nI 5)), none] [] (σ) P
  refine er_aload_n d_Mo_step_31 rfl ?_
  refine er_getf d_Mo_step_32 f_Mo_step_41 hO rfl ?_
  refine er_iload_n d_Mo_step_35 rfl ?_
  refine er_ialdQ (v := (x)) d_Mo_step_36 h33 (by omega) (by omega) (hx) ?_
  refine er_istore d_Mo_step_37 (by decide) ?_
  show jl_E l G m_Mo_step (0, 0) 39 [some (.ref 22), some (.int (nI t)), some (.int (nI (((24) * (m)) + (p)))), some (.int (nI 5)), some (.int (x))] [] (σ) P
  refine er_aload_n d_Mo_step_39 rfl ?_
  refine er_dup d_Mo_step_40 rfl ?_
  refine er_getf d_Mo_step_41 f_Mo_step_270 hO rfl ?_
  refine er_iconst ((nI (1))) d_Mo_step_44 (by decide) ?_
  refine er_iaddN d_Mo_step_45 ?_
  refine er_putf d_Mo_step_46 p_Mo_step_270 hO (Nat.le_of_ble_eq_true rfl) jl_fit_int ?_
  show jl_E l G m_Mo_step (0, 0) 49 [some (.ref 22), some (.int (nI t)), some (.int (nI (((24) * (m)) + (p)))), some (.int (nI 5)), some (.int (x))] [] (σ.set (22) (.inr (7, [.int (fa), .ref 23, .ref 24, .ref 25, .ref 26, .ref 27, .ref 28, .ref 29, .ref 30, .ref 31, .ref 32, .ref 33, .ref 34, .ref 35, .ref 36, .ref 37, .int (vf), .int (wh), .int (wy), .ref 38, .ref 39, .ref 40, .ref 41, .int (hg), .ref 42, .ref 43, .ref 44, .ref 45, .ref 46, .ref 47, .ref 48, .ref 49, .int (nI (t + 1)), .ref 50, .ref 51, .ref 52, .int (nI (H.n)), .int (ov), .int (oh), .int (nI ((d) + (1))), .int (an)]))) P
  refine er_iload_n d_Mo_step_49 rfl ?_
  refine er_tableIn (off := 94) 144 d_Mo_step_50 (by decide +kernel) (by decide +kernel) (by decide +kernel) (by decide) ?_
  refine er_aload_n d_Mo_step_144 rfl ?_
  refine er_iload_n d_Mo_step_145 rfl ?_
  refine er_callVE (As := [.int (nI 5)]) d_Mo_step_146 k_Mo_step_273 (jl_ss hO) rfl rfl rfl (Nat.le_of_ble_eq_true rfl) (by decide) (by decide) (jl_mE.mono (hC _ (hn.done (dn2 := nI (d + 1)))) (fun r σ z => ⟨none, z.1, ?_⟩))
  show jl_E l G m_Mo_step (0, 0) 149 [some (.ref 22), some (.int (nI t)), some (.int (nI (((24) * (m)) + (p)))), some (.int (nI 5)), some (.int (x))] [] (σ) P
  refine er_goto 229 d_Mo_step_149 (by decide) ?_
  exact er_vret d_Mo_step_229 rfl (z.2) (by decide) (by decide)
theorem mo_sw_6 (hl : l.stackTraces = false) {P : jl_O → jl_S → Prop}  (hn : NB σ0 σ (N) t m (p) (h) (R) (V) (fs) (H) fa vf wh wy hg ov oh (nI d) an) (hu : MoM σ u1 u2 ur ul uo ua uc us ut uk) (ht : t < 12) (hm24 : m < 24) (hp24 : p < 24) (ho : uo (24 * m + p) = 6) (hx : ua (24 * m + p) = x) (hC : ∀ σ1, NB σ0 σ1 (N) t m (p) (h) (R) (V) (fs) (H) fa vf wh wy hg ov oh (nI (d + 1)) an → jl_mE l G m_Mo_arithmetic [.ref 22, .int (nI 6)] σ1 (fun r σ' => r = .inl none ∧ P (.inl none) σ')) : jl_mE l G m_Mo_step [.ref 22] σ P := by
  obtain ⟨fx, fp, fh, lw, lk, vl, vk, ks, kc, kv, lo, sk, hO, f1, f2, f3, f4, f5, f6, f7, hH, hB, hy1, hR1, hF⟩ := id hn
  obtain ⟨k1, k2, k3⟩ := id hH
  obtain ⟨⟨r1, r2⟩, hlo, hsk⟩ := id hR1
  obtain ⟨⟨hfx, hfp, hlc, hst⟩, hfh, hfs, hln⟩ := id hy1
  have hfx : fx t = m := hfx
  have hfp : fp t = p := hfp
  have hlc : ∀ k, k < 6 → lk (6 * t + k) = kdI (R k) ∧ (R k ≠ none → lw (6 * t + k) = V k) := hlc
  have hst : ∀ j, j < _ → vk (5 * t + j) = kdI (R (7 + j)) ∧ vl (5 * t + j) = V (7 + j) := hst
  obtain ⟨h28, h29, h30, h31, h32, h33, h34, h35, h36, h37⟩ := id hu
  refine jl_ofE (as := [.ref 22]) rfl (by decide) hl (jl_cc rfl jl_ca) (Nat.le_of_ble_eq_true rfl) ?_
  show jl_E l G m_Mo_step (0, 0) 0 [some (.ref 22), none, none, none, none] [] (σ) P
  refine er_aload_n d_Mo_step_0 rfl ?_
  refine er_getf d_Mo_step_1 f_Mo_step_224 hO rfl ?_
  refine er_iconst ((nI (1))) d_Mo_step_4 (by decide) ?_
  refine er_isubN d_Mo_step_5 (by omega) ?_
  rw [show (t + 1) - (1) = t by omega]
  show jl_E l G m_Mo_step (0, 0) 6 [some (.ref 22), none, none, none, none] [.int (nI t)] (σ) P
  refine er_istore_n d_Mo_step_6 (by decide) ?_
  show jl_E l G m_Mo_step (0, 0) 7 [some (.ref 22), some (.int (nI t)), none, none, none] [] (σ) P
  refine er_bipush ((nI (24))) d_Mo_step_7 (by decide) ?_
  refine er_aload_n d_Mo_step_9 rfl ?_
  refine er_getf d_Mo_step_10 f_Mo_step_78 hO rfl ?_
  refine er_iload_n d_Mo_step_13 rfl ?_
  refine er_ialdQ (v := (nI (m))) d_Mo_step_14 f1 (by omega) (by omega) (congrArg nI hfx) ?_
  refine er_imulN d_Mo_step_15 ?_
  refine er_aload_n d_Mo_step_16 rfl ?_
  refine er_getf d_Mo_step_17 f_Mo_step_81 hO rfl ?_
  refine er_iload_n d_Mo_step_20 rfl ?_
  refine er_ialdQ (v := (nI (p))) d_Mo_step_21 f2 (by omega) (by omega) (congrArg nI hfp) ?_
  refine er_iaddN d_Mo_step_22 ?_
  refine er_istore_n d_Mo_step_23 (by decide) ?_
  show jl_E l G m_Mo_step (0, 0) 24 [some (.ref 22), some (.int (nI t)), some (.int (nI (((24) * (m)) + (p)))), none, none] [] (σ) P
  refine er_aload_n d_Mo_step_24 rfl ?_
  refine er_getf d_Mo_step_25 f_Mo_step_38 hO rfl ?_
  refine er_iload_n d_Mo_step_28 rfl ?_
  refine er_ialdQ (v := (nI (6))) d_Mo_step_29 h32 (by omega) (by omega) (congrArg nI ho) ?_
  refine er_istore_n d_Mo_step_30 (by decide) ?_
  show jl_E l G m_Mo_step (0, 0) 31 [some (.ref 22), some (.int (nI t)), some (.int (nI (((24) * (m)) + (p)))), some (.int (nI 6)), none] [] (σ) P
  refine er_aload_n d_Mo_step_31 rfl ?_
  refine er_getf d_Mo_step_32 f_Mo_step_41 hO rfl ?_
  refine er_iload_n d_Mo_step_35 rfl ?_
  refine er_ialdQ (v := (x)) d_Mo_step_36 h33 (by omega) (by omega) (hx) ?_
  refine er_istore d_Mo_step_37 (by decide) ?_
  show jl_E l G m_Mo_step (0, 0) 39 [some (.ref 22), some (.int (nI t)), some (.int (nI (((24) * (m)) + (p)))), some (.int (nI 6)), some (.int (x))] [] (σ) P
  refine er_aload_n d_Mo_step_39 rfl ?_
  refine er_dup d_Mo_step_40 rfl ?_
  refine er_getf d_Mo_step_41 f_Mo_step_270 hO rfl ?_
  refine er_iconst ((nI (1))) d_Mo_step_44 (by decide) ?_
  refine er_iaddN d_Mo_step_45 ?_
  refine er_putf d_Mo_step_46 p_Mo_step_270 hO (Nat.le_of_ble_eq_true rfl) jl_fit_int ?_
  show jl_E l G m_Mo_step (0, 0) 49 [some (.ref 22), some (.int (nI t)), some (.int (nI (((24) * (m)) + (p)))), some (.int (nI 6)), some (.int (x))] [] (σ.set (22) (.inr (7, [.int (fa), .ref 23, .ref 24, .ref 25, .ref 26, .ref 27, .ref 28, .ref 29, .ref 30, .ref 31, .ref 32, .ref 33, .ref 34, .ref 35, .ref 36, .ref 37, .int (vf), .int (wh), .int (wy), .ref 38, .ref 39, .ref 40, .ref 41, .int (hg), .ref 42, .ref 43, .ref 44, .ref 45, .ref 46, .ref 47, .ref 48, .ref 49, .int (nI (t + 1)), .ref 50, .ref 51, .ref 52, .int (nI (H.n)), .int (ov), .int (oh), .int (nI ((d) + (1))), .int (an)]))) P
  refine er_iload_n d_Mo_step_49 rfl ?_
  refine er_tableIn (off := 94) 144 d_Mo_step_50 (by decide +kernel) (by decide +kernel) (by decide +kernel) (by decide) ?_
  refine er_aload_n d_Mo_step_144 rfl ?_
  refine er_iload_n d_Mo_step_145 rfl ?_
  refine er_callVE (As := [.int (nI 6)]) d_Mo_step_146 k_Mo_step_273 (jl_ss hO) rfl rfl rfl (Nat.le_of_ble_eq_true rfl) (by decide) (by decide) (jl_mE.mono (hC _ (hn.done (dn2 := nI (d + 1)))) (fun r σ z => ⟨none, z.1, ?_⟩))
  show jl_E l G m_Mo_step (0, 0) 149 [some (.ref 22), some (.int (nI t)), some (.int (nI (((24) * (m)) + (p)))), some (.int (nI 6)), some (.int (x))] [] (σ) P
  refine er_goto 229 d_Mo_step_149 (by decide) ?_
  exact er_vret d_Mo_step_229 rfl (z.2) (by decide) (by decide)
theorem d_Mo_step_152 : decode m_Mo_step.2.1 152 = .ok (.aload_n 0, 1) := by decide +kernel
theorem d_Mo_step_153 : decode m_Mo_step.2.1 153 = .ok (.iload_n 3, 1) := by decide +kernel
theorem d_Mo_step_154 : decode m_Mo_step.2.1 154 = .ok (.iload 4, 2) := by decide +kernel
theorem k_Mo_step_276 : jl_cv m_Mo_step m_Mo_branch 276 2 = true := by decide +kernel
theorem d_Mo_step_156 : decode m_Mo_step.2.1 156 = .ok (.invokevirtual 276, 3) := by decide +kernel
theorem d_Mo_step_159 : decode m_Mo_step.2.1 159 = .ok (.goto 70, 3) := by decide +kernel
theorem mo_sw_7 (hl : l.stackTraces = false) {P : jl_O → jl_S → Prop}  (hn : NB σ0 σ (N) t m (p) (h) (R) (V) (fs) (H) fa vf wh wy hg ov oh (nI d) an) (hu : MoM σ u1 u2 ur ul uo ua uc us ut uk) (ht : t < 12) (hm24 : m < 24) (hp24 : p < 24) (ho : uo (24 * m + p) = 7) (hx : ua (24 * m + p) = x) (hC : ∀ σ1, NB σ0 σ1 (N) t m (p) (h) (R) (V) (fs) (H) fa vf wh wy hg ov oh (nI (d + 1)) an → jl_mE l G m_Mo_branch [.ref 22, .int (nI 7), .int x] σ1 (fun r σ' => r = .inl none ∧ P (.inl none) σ')) : jl_mE l G m_Mo_step [.ref 22] σ P := by
  obtain ⟨fx, fp, fh, lw, lk, vl, vk, ks, kc, kv, lo, sk, hO, f1, f2, f3, f4, f5, f6, f7, hH, hB, hy1, hR1, hF⟩ := id hn
  obtain ⟨k1, k2, k3⟩ := id hH
  obtain ⟨⟨r1, r2⟩, hlo, hsk⟩ := id hR1
  obtain ⟨⟨hfx, hfp, hlc, hst⟩, hfh, hfs, hln⟩ := id hy1
  have hfx : fx t = m := hfx
  have hfp : fp t = p := hfp
  have hlc : ∀ k, k < 6 → lk (6 * t + k) = kdI (R k) ∧ (R k ≠ none → lw (6 * t + k) = V k) := hlc
  have hst : ∀ j, j < _ → vk (5 * t + j) = kdI (R (7 + j)) ∧ vl (5 * t + j) = V (7 + j) := hst
  obtain ⟨h28, h29, h30, h31, h32, h33, h34, h35, h36, h37⟩ := id hu
  refine jl_ofE (as := [.ref 22]) rfl (by decide) hl (jl_cc rfl jl_ca) (Nat.le_of_ble_eq_true rfl) ?_
  show jl_E l G m_Mo_step (0, 0) 0 [some (.ref 22), none, none, none, none] [] (σ) P
  refine er_aload_n d_Mo_step_0 rfl ?_
  refine er_getf d_Mo_step_1 f_Mo_step_224 hO rfl ?_
  refine er_iconst ((nI (1))) d_Mo_step_4 (by decide) ?_
  refine er_isubN d_Mo_step_5 (by omega) ?_
  rw [show (t + 1) - (1) = t by omega]
  show jl_E l G m_Mo_step (0, 0) 6 [some (.ref 22), none, none, none, none] [.int (nI t)] (σ) P
  refine er_istore_n d_Mo_step_6 (by decide) ?_
  show jl_E l G m_Mo_step (0, 0) 7 [some (.ref 22), some (.int (nI t)), none, none, none] [] (σ) P
  refine er_bipush ((nI (24))) d_Mo_step_7 (by decide) ?_
  refine er_aload_n d_Mo_step_9 rfl ?_
  refine er_getf d_Mo_step_10 f_Mo_step_78 hO rfl ?_
  refine er_iload_n d_Mo_step_13 rfl ?_
  refine er_ialdQ (v := (nI (m))) d_Mo_step_14 f1 (by omega) (by omega) (congrArg nI hfx) ?_
  refine er_imulN d_Mo_step_15 ?_
  refine er_aload_n d_Mo_step_16 rfl ?_
  refine er_getf d_Mo_step_17 f_Mo_step_81 hO rfl ?_
  refine er_iload_n d_Mo_step_20 rfl ?_
  refine er_ialdQ (v := (nI (p))) d_Mo_step_21 f2 (by omega) (by omega) (congrArg nI hfp) ?_
  refine er_iaddN d_Mo_step_22 ?_
  refine er_istore_n d_Mo_step_23 (by decide) ?_
  show jl_E l G m_Mo_step (0, 0) 24 [some (.ref 22), some (.int (nI t)), some (.int (nI (((24) * (m)) + (p)))), none, none] [] (σ) P
  refine er_aload_n d_Mo_step_24 rfl ?_
  refine er_getf d_Mo_step_25 f_Mo_step_38 hO rfl ?_
  refine er_iload_n d_Mo_step_28 rfl ?_
  refine er_ialdQ (v := (nI (7))) d_Mo_step_29 h32 (by omega) (by omega) (congrArg nI ho) ?_
  refine er_istore_n d_Mo_step_30 (by decide) ?_
  show jl_E l G m_Mo_step (0, 0) 31 [some (.ref 22), some (.int (nI t)), some (.int (nI (((24) * (m)) + (p)))), some (.int (nI 7)), none] [] (σ) P
  refine er_aload_n d_Mo_step_31 rfl ?_
  refine er_getf d_Mo_step_32 f_Mo_step_41 hO rfl ?_
  refine er_iload_n d_Mo_step_35 rfl ?_
  refine er_ialdQ (v := (x)) d_Mo_step_36 h33 (by omega) (by omega) (hx) ?_
  refine er_istore d_Mo_step_37 (by decide) ?_
  show jl_E l G m_Mo_step (0, 0) 39 [some (.ref 22), some (.int (nI t)), some (.int (nI (((24) * (m)) + (p)))), some (.int (nI 7)), some (.int (x))] [] (σ) P
  refine er_aload_n d_Mo_step_39 rfl ?_
  refine er_dup d_Mo_step_40 rfl ?_
  refine er_getf d_Mo_step_41 f_Mo_step_270 hO rfl ?_
  refine er_iconst ((nI (1))) d_Mo_step_44 (by decide) ?_
  refine er_iaddN d_Mo_step_45 ?_
  refine er_putf d_Mo_step_46 p_Mo_step_270 hO (Nat.le_of_ble_eq_true rfl) jl_fit_int ?_
  show jl_E l G m_Mo_step (0, 0) 49 [some (.ref 22), some (.int (nI t)), some (.int (nI (((24) * (m)) + (p)))), some (.int (nI 7)), some (.int (x))] [] (σ.set (22) (.inr (7, [.int (fa), .ref 23, .ref 24, .ref 25, .ref 26, .ref 27, .ref 28, .ref 29, .ref 30, .ref 31, .ref 32, .ref 33, .ref 34, .ref 35, .ref 36, .ref 37, .int (vf), .int (wh), .int (wy), .ref 38, .ref 39, .ref 40, .ref 41, .int (hg), .ref 42, .ref 43, .ref 44, .ref 45, .ref 46, .ref 47, .ref 48, .ref 49, .int (nI (t + 1)), .ref 50, .ref 51, .ref 52, .int (nI (H.n)), .int (ov), .int (oh), .int (nI ((d) + (1))), .int (an)]))) P
  refine er_iload_n d_Mo_step_49 rfl ?_
  refine er_tableIn (off := 102) 152 d_Mo_step_50 (by decide +kernel) (by decide +kernel) (by decide +kernel) (by decide) ?_
  refine er_aload_n d_Mo_step_152 rfl ?_
  refine er_iload_n d_Mo_step_153 rfl ?_
  refine er_iload d_Mo_step_154 rfl ?_
  refine er_callVE (As := [.int (nI 7), .int (x)]) d_Mo_step_156 k_Mo_step_276 (jl_ss hO) rfl rfl rfl (Nat.le_of_ble_eq_true rfl) (by decide) (by decide) (jl_mE.mono (hC _ (hn.done (dn2 := nI (d + 1)))) (fun r σ z => ⟨none, z.1, ?_⟩))
  show jl_E l G m_Mo_step (0, 0) 159 [some (.ref 22), some (.int (nI t)), some (.int (nI (((24) * (m)) + (p)))), some (.int (nI 7)), some (.int (x))] [] (σ) P
  refine er_goto 229 d_Mo_step_159 (by decide) ?_
  exact er_vret d_Mo_step_229 rfl (z.2) (by decide) (by decide)
theorem mo_sw_8 (hl : l.stackTraces = false) {P : jl_O → jl_S → Prop}  (hn : NB σ0 σ (N) t m (p) (h) (R) (V) (fs) (H) fa vf wh wy hg ov oh (nI d) an) (hu : MoM σ u1 u2 ur ul uo ua uc us ut uk) (ht : t < 12) (hm24 : m < 24) (hp24 : p < 24) (ho : uo (24 * m + p) = 8) (hx : ua (24 * m + p) = x) (hC : ∀ σ1, NB σ0 σ1 (N) t m (p) (h) (R) (V) (fs) (H) fa vf wh wy hg ov oh (nI (d + 1)) an → jl_mE l G m_Mo_branch [.ref 22, .int (nI 8), .int x] σ1 (fun r σ' => r = .inl none ∧ P (.inl none) σ')) : jl_mE l G m_Mo_step [.ref 22] σ P := by
  obtain ⟨fx, fp, fh, lw, lk, vl, vk, ks, kc, kv, lo, sk, hO, f1, f2, f3, f4, f5, f6, f7, hH, hB, hy1, hR1, hF⟩ := id hn
  obtain ⟨k1, k2, k3⟩ := id hH
  obtain ⟨⟨r1, r2⟩, hlo, hsk⟩ := id hR1
  obtain ⟨⟨hfx, hfp, hlc, hst⟩, hfh, hfs, hln⟩ := id hy1
  have hfx : fx t = m := hfx
  have hfp : fp t = p := hfp
  have hlc : ∀ k, k < 6 → lk (6 * t + k) = kdI (R k) ∧ (R k ≠ none → lw (6 * t + k) = V k) := hlc
  have hst : ∀ j, j < _ → vk (5 * t + j) = kdI (R (7 + j)) ∧ vl (5 * t + j) = V (7 + j) := hst
  obtain ⟨h28, h29, h30, h31, h32, h33, h34, h35, h36, h37⟩ := id hu
  refine jl_ofE (as := [.ref 22]) rfl (by decide) hl (jl_cc rfl jl_ca) (Nat.le_of_ble_eq_true rfl) ?_
  show jl_E l G m_Mo_step (0, 0) 0 [some (.ref 22), none, none, none, none] [] (σ) P
  refine er_aload_n d_Mo_step_0 rfl ?_
  refine er_getf d_Mo_step_1 f_Mo_step_224 hO rfl ?_
  refine er_iconst ((nI (1))) d_Mo_step_4 (by decide) ?_
  refine er_isubN d_Mo_step_5 (by omega) ?_
  rw [show (t + 1) - (1) = t by omega]
  show jl_E l G m_Mo_step (0, 0) 6 [some (.ref 22), none, none, none, none] [.int (nI t)] (σ) P
  refine er_istore_n d_Mo_step_6 (by decide) ?_
  show jl_E l G m_Mo_step (0, 0) 7 [some (.ref 22), some (.int (nI t)), none, none, none] [] (σ) P
  refine er_bipush ((nI (24))) d_Mo_step_7 (by decide) ?_
  refine er_aload_n d_Mo_step_9 rfl ?_
  refine er_getf d_Mo_step_10 f_Mo_step_78 hO rfl ?_
  refine er_iload_n d_Mo_step_13 rfl ?_
  refine er_ialdQ (v := (nI (m))) d_Mo_step_14 f1 (by omega) (by omega) (congrArg nI hfx) ?_
  refine er_imulN d_Mo_step_15 ?_
  refine er_aload_n d_Mo_step_16 rfl ?_
  refine er_getf d_Mo_step_17 f_Mo_step_81 hO rfl ?_
  refine er_iload_n d_Mo_step_20 rfl ?_
  refine er_ialdQ (v := (nI (p))) d_Mo_step_21 f2 (by omega) (by omega) (congrArg nI hfp) ?_
  refine er_iaddN d_Mo_step_22 ?_
  refine er_istore_n d_Mo_step_23 (by decide) ?_
  show jl_E l G m_Mo_step (0, 0) 24 [some (.ref 22), some (.int (nI t)), some (.int (nI (((24) * (m)) + (p)))), none, none] [] (σ) P
  refine er_aload_n d_Mo_step_24 rfl ?_
  refine er_getf d_Mo_step_25 f_Mo_step_38 hO rfl ?_
  refine er_iload_n d_Mo_step_28 rfl ?_
  refine er_ialdQ (v := (nI (8))) d_Mo_step_29 h32 (by omega) (by omega) (congrArg nI ho) ?_
  refine er_istore_n d_Mo_step_30 (by decide) ?_
  show jl_E l G m_Mo_step (0, 0) 31 [some (.ref 22), some (.int (nI t)), some (.int (nI (((24) * (m)) + (p)))), some (.int (nI 8)), none] [] (σ) P
  refine er_aload_n d_Mo_step_31 rfl ?_
  refine er_getf d_Mo_step_32 f_Mo_step_41 hO rfl ?_
  refine er_iload_n d_Mo_step_35 rfl ?_
  refine er_ialdQ (v := (x)) d_Mo_step_36 h33 (by omega) (by omega) (hx) ?_
  refine er_istore d_Mo_step_37 (by decide) ?_
  show jl_E l G m_Mo_step (0, 0) 39 [some (.ref 22), some (.int (nI t)), some (.int (nI (((24) * (m)) + (p)))), some (.int (nI 8)), some (.int (x))] [] (σ) P
  refine er_aload_n d_Mo_step_39 rfl ?_
  refine er_dup d_Mo_step_40 rfl ?_
  refine er_getf d_Mo_step_41 f_Mo_step_270 hO rfl ?_
  refine er_iconst ((nI (1))) d_Mo_step_44 (by decide) ?_
  refine er_iaddN d_Mo_step_45 ?_
  refine er_putf d_Mo_step_46 p_Mo_step_270 hO (Nat.le_of_ble_eq_true rfl) jl_fit_int ?_
  show jl_E l G m_Mo_step (0, 0) 49 [some (.ref 22), some (.int (nI t)), some (.int (nI (((24) * (m)) + (p)))), some (.int (nI 8)), some (.int (x))] [] (σ.set (22) (.inr (7, [.int (fa), .ref 23, .ref 24, .ref 25, .ref 26, .ref 27, .ref 28, .ref 29, .ref 30, .ref 31, .ref 32, .ref 33, .ref 34, .ref 35, .ref 36, .ref 37, .int (vf), .int (wh), .int (wy), .ref 38, .ref 39, .ref 40, .ref 41, .int (hg), .ref 42, .ref 43, .ref 44, .ref 45, .ref 46, .ref 47, .ref 48, .ref 49, .int (nI (t + 1)), .ref 50, .ref 51, .ref 52, .int (nI (H.n)), .int (ov), .int (oh), .int (nI ((d) + (1))), .int (an)]))) P
  refine er_iload_n d_Mo_step_49 rfl ?_
  refine er_tableIn (off := 102) 152 d_Mo_step_50 (by decide +kernel) (by decide +kernel) (by decide +kernel) (by decide) ?_
  refine er_aload_n d_Mo_step_152 rfl ?_
  refine er_iload_n d_Mo_step_153 rfl ?_
  refine er_iload d_Mo_step_154 rfl ?_
  refine er_callVE (As := [.int (nI 8), .int (x)]) d_Mo_step_156 k_Mo_step_276 (jl_ss hO) rfl rfl rfl (Nat.le_of_ble_eq_true rfl) (by decide) (by decide) (jl_mE.mono (hC _ (hn.done (dn2 := nI (d + 1)))) (fun r σ z => ⟨none, z.1, ?_⟩))
  show jl_E l G m_Mo_step (0, 0) 159 [some (.ref 22), some (.int (nI t)), some (.int (nI (((24) * (m)) + (p)))), some (.int (nI 8)), some (.int (x))] [] (σ) P
  refine er_goto 229 d_Mo_step_159 (by decide) ?_
  exact er_vret d_Mo_step_229 rfl (z.2) (by decide) (by decide)
theorem mo_sw_9 (hl : l.stackTraces = false) {P : jl_O → jl_S → Prop}  (hn : NB σ0 σ (N) t m (p) (h) (R) (V) (fs) (H) fa vf wh wy hg ov oh (nI d) an) (hu : MoM σ u1 u2 ur ul uo ua uc us ut uk) (ht : t < 12) (hm24 : m < 24) (hp24 : p < 24) (ho : uo (24 * m + p) = 9) (hx : ua (24 * m + p) = x) (hC : ∀ σ1, NB σ0 σ1 (N) t m (p) (h) (R) (V) (fs) (H) fa vf wh wy hg ov oh (nI (d + 1)) an → jl_mE l G m_Mo_branch [.ref 22, .int (nI 9), .int x] σ1 (fun r σ' => r = .inl none ∧ P (.inl none) σ')) : jl_mE l G m_Mo_step [.ref 22] σ P := by
  obtain ⟨fx, fp, fh, lw, lk, vl, vk, ks, kc, kv, lo, sk, hO, f1, f2, f3, f4, f5, f6, f7, hH, hB, hy1, hR1, hF⟩ := id hn
  obtain ⟨k1, k2, k3⟩ := id hH
  obtain ⟨⟨r1, r2⟩, hlo, hsk⟩ := id hR1
  obtain ⟨⟨hfx, hfp, hlc, hst⟩, hfh, hfs, hln⟩ := id hy1
  have hfx : fx t = m := hfx
  have hfp : fp t = p := hfp
  have hlc : ∀ k, k < 6 → lk (6 * t + k) = kdI (R k) ∧ (R k ≠ none → lw (6 * t + k) = V k) := hlc
  have hst : ∀ j, j < _ → vk (5 * t + j) = kdI (R (7 + j)) ∧ vl (5 * t + j) = V (7 + j) := hst
  obtain ⟨h28, h29, h30, h31, h32, h33, h34, h35, h36, h37⟩ := id hu
  refine jl_ofE (as := [.ref 22]) rfl (by decide) hl (jl_cc rfl jl_ca) (Nat.le_of_ble_eq_true rfl) ?_
  show jl_E l G m_Mo_step (0, 0) 0 [some (.ref 22), none, none, none, none] [] (σ) P
  refine er_aload_n d_Mo_step_0 rfl ?_
  refine er_getf d_Mo_step_1 f_Mo_step_224 hO rfl ?_
  refine er_iconst ((nI (1))) d_Mo_step_4 (by decide) ?_
  refine er_isubN d_Mo_step_5 (by omega) ?_
  rw [show (t + 1) - (1) = t by omega]
  show jl_E l G m_Mo_step (0, 0) 6 [some (.ref 22), none, none, none, none] [.int (nI t)] (σ) P
  refine er_istore_n d_Mo_step_6 (by decide) ?_
  show jl_E l G m_Mo_step (0, 0) 7 [some (.ref 22), some (.int (nI t)), none, none, none] [] (σ) P
  refine er_bipush ((nI (24))) d_Mo_step_7 (by decide) ?_
  refine er_aload_n d_Mo_step_9 rfl ?_
  refine er_getf d_Mo_step_10 f_Mo_step_78 hO rfl ?_
  refine er_iload_n d_Mo_step_13 rfl ?_
  refine er_ialdQ (v := (nI (m))) d_Mo_step_14 f1 (by omega) (by omega) (congrArg nI hfx) ?_
  refine er_imulN d_Mo_step_15 ?_
  refine er_aload_n d_Mo_step_16 rfl ?_
  refine er_getf d_Mo_step_17 f_Mo_step_81 hO rfl ?_
  refine er_iload_n d_Mo_step_20 rfl ?_
  refine er_ialdQ (v := (nI (p))) d_Mo_step_21 f2 (by omega) (by omega) (congrArg nI hfp) ?_
  refine er_iaddN d_Mo_step_22 ?_
  refine er_istore_n d_Mo_step_23 (by decide) ?_
  show jl_E l G m_Mo_step (0, 0) 24 [some (.ref 22), some (.int (nI t)), some (.int (nI (((24) * (m)) + (p)))), none, none] [] (σ) P
  refine er_aload_n d_Mo_step_24 rfl ?_
  refine er_getf d_Mo_step_25 f_Mo_step_38 hO rfl ?_
  refine er_iload_n d_Mo_step_28 rfl ?_
  refine er_ialdQ (v := (nI (9))) d_Mo_step_29 h32 (by omega) (by omega) (congrArg nI ho) ?_
  refine er_istore_n d_Mo_step_30 (by decide) ?_
  show jl_E l G m_Mo_step (0, 0) 31 [some (.ref 22), some (.int (nI t)), some (.int (nI (((24) * (m)) + (p)))), some (.int (nI 9)), none] [] (σ) P
  refine er_aload_n d_Mo_step_31 rfl ?_
  refine er_getf d_Mo_step_32 f_Mo_step_41 hO rfl ?_
  refine er_iload_n d_Mo_step_35 rfl ?_
  refine er_ialdQ (v := (x)) d_Mo_step_36 h33 (by omega) (by omega) (hx) ?_
  refine er_istore d_Mo_step_37 (by decide) ?_
  show jl_E l G m_Mo_step (0, 0) 39 [some (.ref 22), some (.int (nI t)), some (.int (nI (((24) * (m)) + (p)))), some (.int (nI 9)), some (.int (x))] [] (σ) P
  refine er_aload_n d_Mo_step_39 rfl ?_
  refine er_dup d_Mo_step_40 rfl ?_
  refine er_getf d_Mo_step_41 f_Mo_step_270 hO rfl ?_
  refine er_iconst ((nI (1))) d_Mo_step_44 (by decide) ?_
  refine er_iaddN d_Mo_step_45 ?_
  refine er_putf d_Mo_step_46 p_Mo_step_270 hO (Nat.le_of_ble_eq_true rfl) jl_fit_int ?_
  show jl_E l G m_Mo_step (0, 0) 49 [some (.ref 22), some (.int (nI t)), some (.int (nI (((24) * (m)) + (p)))), some (.int (nI 9)), some (.int (x))] [] (σ.set (22) (.inr (7, [.int (fa), .ref 23, .ref 24, .ref 25, .ref 26, .ref 27, .ref 28, .ref 29, .ref 30, .ref 31, .ref 32, .ref 33, .ref 34, .ref 35, .ref 36, .ref 37, .int (vf), .int (wh), .int (wy), .ref 38, .ref 39, .ref 40, .ref 41, .int (hg), .ref 42, .ref 43, .ref 44, .ref 45, .ref 46, .ref 47, .ref 48, .ref 49, .int (nI (t + 1)), .ref 50, .ref 51, .ref 52, .int (nI (H.n)), .int (ov), .int (oh), .int (nI ((d) + (1))), .int (an)]))) P
  refine er_iload_n d_Mo_step_49 rfl ?_
  refine er_tableIn (off := 102) 152 d_Mo_step_50 (by decide +kernel) (by decide +kernel) (by decide +kernel) (by decide) ?_
  refine er_aload_n d_Mo_step_152 rfl ?_
  refine er_iload_n d_Mo_step_153 rfl ?_
  refine er_iload d_Mo_step_154 rfl ?_
  refine er_callVE (As := [.int (nI 9), .int (x)]) d_Mo_step_156 k_Mo_step_276 (jl_ss hO) rfl rfl rfl (Nat.le_of_ble_eq_true rfl) (by decide) (by decide) (jl_mE.mono (hC _ (hn.done (dn2 := nI (d + 1)))) (fun r σ z => ⟨none, z.1, ?_⟩))
  show jl_E l G m_Mo_step (0, 0) 159 [some (.ref 22), some (.int (nI t)), some (.int (nI (((24) * (m)) + (p)))), some (.int (nI 9)), some (.int (x))] [] (σ) P
  refine er_goto 229 d_Mo_step_159 (by decide) ?_
  exact er_vret d_Mo_step_229 rfl (z.2) (by decide) (by decide)
theorem mo_sw_10 (hl : l.stackTraces = false) {P : jl_O → jl_S → Prop}  (hn : NB σ0 σ (N) t m (p) (h) (R) (V) (fs) (H) fa vf wh wy hg ov oh (nI d) an) (hu : MoM σ u1 u2 ur ul uo ua uc us ut uk) (ht : t < 12) (hm24 : m < 24) (hp24 : p < 24) (ho : uo (24 * m + p) = 10) (hx : ua (24 * m + p) = x) (hC : ∀ σ1, NB σ0 σ1 (N) t m (p) (h) (R) (V) (fs) (H) fa vf wh wy hg ov oh (nI (d + 1)) an → jl_mE l G m_Mo_simple [.ref 22, .int (nI 10), .int x] σ1 (fun r σ' => r = .inl none ∧ P (.inl none) σ')) : jl_mE l G m_Mo_step [.ref 22] σ P := by
  obtain ⟨fx, fp, fh, lw, lk, vl, vk, ks, kc, kv, lo, sk, hO, f1, f2, f3, f4, f5, f6, f7, hH, hB, hy1, hR1, hF⟩ := id hn
  obtain ⟨k1, k2, k3⟩ := id hH
  obtain ⟨⟨r1, r2⟩, hlo, hsk⟩ := id hR1
  obtain ⟨⟨hfx, hfp, hlc, hst⟩, hfh, hfs, hln⟩ := id hy1
  have hfx : fx t = m := hfx
  have hfp : fp t = p := hfp
  have hlc : ∀ k, k < 6 → lk (6 * t + k) = kdI (R k) ∧ (R k ≠ none → lw (6 * t + k) = V k) := hlc
  have hst : ∀ j, j < _ → vk (5 * t + j) = kdI (R (7 + j)) ∧ vl (5 * t + j) = V (7 + j) := hst
  obtain ⟨h28, h29, h30, h31, h32, h33, h34, h35, h36, h37⟩ := id hu
  refine jl_ofE (as := [.ref 22]) rfl (by decide) hl (jl_cc rfl jl_ca) (Nat.le_of_ble_eq_true rfl) ?_
  show jl_E l G m_Mo_step (0, 0) 0 [some (.ref 22), none, none, none, none] [] (σ) P
  refine er_aload_n d_Mo_step_0 rfl ?_
  refine er_getf d_Mo_step_1 f_Mo_step_224 hO rfl ?_
  refine er_iconst ((nI (1))) d_Mo_step_4 (by decide) ?_
  refine er_isubN d_Mo_step_5 (by omega) ?_
  rw [show (t + 1) - (1) = t by omega]
  show jl_E l G m_Mo_step (0, 0) 6 [some (.ref 22), none, none, none, none] [.int (nI t)] (σ) P
  refine er_istore_n d_Mo_step_6 (by decide) ?_
  show jl_E l G m_Mo_step (0, 0) 7 [some (.ref 22), some (.int (nI t)), none, none, none] [] (σ) P
  refine er_bipush ((nI (24))) d_Mo_step_7 (by decide) ?_
  refine er_aload_n d_Mo_step_9 rfl ?_
  refine er_getf d_Mo_step_10 f_Mo_step_78 hO rfl ?_
  refine er_iload_n d_Mo_step_13 rfl ?_
  refine er_ialdQ (v := (nI (m))) d_Mo_step_14 f1 (by omega) (by omega) (congrArg nI hfx) ?_
  refine er_imulN d_Mo_step_15 ?_
  refine er_aload_n d_Mo_step_16 rfl ?_
  refine er_getf d_Mo_step_17 f_Mo_step_81 hO rfl ?_
  refine er_iload_n d_Mo_step_20 rfl ?_
  refine er_ialdQ (v := (nI (p))) d_Mo_step_21 f2 (by omega) (by omega) (congrArg nI hfp) ?_
  refine er_iaddN d_Mo_step_22 ?_
  refine er_istore_n d_Mo_step_23 (by decide) ?_
  show jl_E l G m_Mo_step (0, 0) 24 [some (.ref 22), some (.int (nI t)), some (.int (nI (((24) * (m)) + (p)))), none, none] [] (σ) P
  refine er_aload_n d_Mo_step_24 rfl ?_
  refine er_getf d_Mo_step_25 f_Mo_step_38 hO rfl ?_
  refine er_iload_n d_Mo_step_28 rfl ?_
  refine er_ialdQ (v := (nI (10))) d_Mo_step_29 h32 (by omega) (by omega) (congrArg nI ho) ?_
  refine er_istore_n d_Mo_step_30 (by decide) ?_
  show jl_E l G m_Mo_step (0, 0) 31 [some (.ref 22), some (.int (nI t)), some (.int (nI (((24) * (m)) + (p)))), some (.int (nI 10)), none] [] (σ) P
  refine er_aload_n d_Mo_step_31 rfl ?_
  refine er_getf d_Mo_step_32 f_Mo_step_41 hO rfl ?_
  refine er_iload_n d_Mo_step_35 rfl ?_
  refine er_ialdQ (v := (x)) d_Mo_step_36 h33 (by omega) (by omega) (hx) ?_
  refine er_istore d_Mo_step_37 (by decide) ?_
  show jl_E l G m_Mo_step (0, 0) 39 [some (.ref 22), some (.int (nI t)), some (.int (nI (((24) * (m)) + (p)))), some (.int (nI 10)), some (.int (x))] [] (σ) P
  refine er_aload_n d_Mo_step_39 rfl ?_
  refine er_dup d_Mo_step_40 rfl ?_
  refine er_getf d_Mo_step_41 f_Mo_step_270 hO rfl ?_
  refine er_iconst ((nI (1))) d_Mo_step_44 (by decide) ?_
  refine er_iaddN d_Mo_step_45 ?_
  refine er_putf d_Mo_step_46 p_Mo_step_270 hO (Nat.le_of_ble_eq_true rfl) jl_fit_int ?_
  show jl_E l G m_Mo_step (0, 0) 49 [some (.ref 22), some (.int (nI t)), some (.int (nI (((24) * (m)) + (p)))), some (.int (nI 10)), some (.int (x))] [] (σ.set (22) (.inr (7, [.int (fa), .ref 23, .ref 24, .ref 25, .ref 26, .ref 27, .ref 28, .ref 29, .ref 30, .ref 31, .ref 32, .ref 33, .ref 34, .ref 35, .ref 36, .ref 37, .int (vf), .int (wh), .int (wy), .ref 38, .ref 39, .ref 40, .ref 41, .int (hg), .ref 42, .ref 43, .ref 44, .ref 45, .ref 46, .ref 47, .ref 48, .ref 49, .int (nI (t + 1)), .ref 50, .ref 51, .ref 52, .int (nI (H.n)), .int (ov), .int (oh), .int (nI ((d) + (1))), .int (an)]))) P
  refine er_iload_n d_Mo_step_49 rfl ?_
  refine er_tableIn (off := 172) 222 d_Mo_step_50 (by decide +kernel) (by decide +kernel) (by decide +kernel) (by decide) ?_
  refine er_aload_n d_Mo_step_222 rfl ?_
  refine er_iload_n d_Mo_step_223 rfl ?_
  refine er_iload d_Mo_step_224 rfl ?_
  refine er_callVE (As := [.int (nI 10), .int (x)]) d_Mo_step_226 k_Mo_step_300 (jl_ss hO) rfl rfl rfl (Nat.le_of_ble_eq_true rfl) (by decide) (by decide) (jl_mE.mono (hC _ (hn.done (dn2 := nI (d + 1)))) (fun r σ z => ⟨none, z.1, ?_⟩))
  show jl_E l G m_Mo_step (0, 0) 229 [some (.ref 22), some (.int (nI t)), some (.int (nI (((24) * (m)) + (p)))), some (.int (nI 10)), some (.int (x))] [] (σ) P
  exact er_vret d_Mo_step_229 rfl (z.2) (by decide) (by decide)
theorem d_Mo_step_162 : decode m_Mo_step.2.1 162 = .ok (.aload_n 0, 1) := by decide +kernel
theorem d_Mo_step_163 : decode m_Mo_step.2.1 163 = .ok (.iload_n 3, 1) := by decide +kernel
theorem d_Mo_step_164 : decode m_Mo_step.2.1 164 = .ok (.iload 4, 2) := by decide +kernel
theorem k_Mo_step_279 : jl_cv m_Mo_step m_Mo_create 279 2 = true := by decide +kernel
theorem d_Mo_step_166 : decode m_Mo_step.2.1 166 = .ok (.invokevirtual 279, 3) := by decide +kernel
theorem d_Mo_step_169 : decode m_Mo_step.2.1 169 = .ok (.goto 60, 3) := by decide +kernel
theorem mo_sw_11 (hl : l.stackTraces = false) {P : jl_O → jl_S → Prop}  (hn : NB σ0 σ (N) t m (p) (h) (R) (V) (fs) (H) fa vf wh wy hg ov oh (nI d) an) (hu : MoM σ u1 u2 ur ul uo ua uc us ut uk) (ht : t < 12) (hm24 : m < 24) (hp24 : p < 24) (ho : uo (24 * m + p) = 11) (hx : ua (24 * m + p) = x) (hC : ∀ σ1, NB σ0 σ1 (N) t m (p) (h) (R) (V) (fs) (H) fa vf wh wy hg ov oh (nI (d + 1)) an → jl_mE l G m_Mo_create [.ref 22, .int (nI 11), .int x] σ1 (fun r σ' => r = .inl none ∧ P (.inl none) σ')) : jl_mE l G m_Mo_step [.ref 22] σ P := by
  obtain ⟨fx, fp, fh, lw, lk, vl, vk, ks, kc, kv, lo, sk, hO, f1, f2, f3, f4, f5, f6, f7, hH, hB, hy1, hR1, hF⟩ := id hn
  obtain ⟨k1, k2, k3⟩ := id hH
  obtain ⟨⟨r1, r2⟩, hlo, hsk⟩ := id hR1
  obtain ⟨⟨hfx, hfp, hlc, hst⟩, hfh, hfs, hln⟩ := id hy1
  have hfx : fx t = m := hfx
  have hfp : fp t = p := hfp
  have hlc : ∀ k, k < 6 → lk (6 * t + k) = kdI (R k) ∧ (R k ≠ none → lw (6 * t + k) = V k) := hlc
  have hst : ∀ j, j < _ → vk (5 * t + j) = kdI (R (7 + j)) ∧ vl (5 * t + j) = V (7 + j) := hst
  obtain ⟨h28, h29, h30, h31, h32, h33, h34, h35, h36, h37⟩ := id hu
  refine jl_ofE (as := [.ref 22]) rfl (by decide) hl (jl_cc rfl jl_ca) (Nat.le_of_ble_eq_true rfl) ?_
  show jl_E l G m_Mo_step (0, 0) 0 [some (.ref 22), none, none, none, none] [] (σ) P
  refine er_aload_n d_Mo_step_0 rfl ?_
  refine er_getf d_Mo_step_1 f_Mo_step_224 hO rfl ?_
  refine er_iconst ((nI (1))) d_Mo_step_4 (by decide) ?_
  refine er_isubN d_Mo_step_5 (by omega) ?_
  rw [show (t + 1) - (1) = t by omega]
  show jl_E l G m_Mo_step (0, 0) 6 [some (.ref 22), none, none, none, none] [.int (nI t)] (σ) P
  refine er_istore_n d_Mo_step_6 (by decide) ?_
  show jl_E l G m_Mo_step (0, 0) 7 [some (.ref 22), some (.int (nI t)), none, none, none] [] (σ) P
  refine er_bipush ((nI (24))) d_Mo_step_7 (by decide) ?_
  refine er_aload_n d_Mo_step_9 rfl ?_
  refine er_getf d_Mo_step_10 f_Mo_step_78 hO rfl ?_
  refine er_iload_n d_Mo_step_13 rfl ?_
  refine er_ialdQ (v := (nI (m))) d_Mo_step_14 f1 (by omega) (by omega) (congrArg nI hfx) ?_
  refine er_imulN d_Mo_step_15 ?_
  refine er_aload_n d_Mo_step_16 rfl ?_
  refine er_getf d_Mo_step_17 f_Mo_step_81 hO rfl ?_
  refine er_iload_n d_Mo_step_20 rfl ?_
  refine er_ialdQ (v := (nI (p))) d_Mo_step_21 f2 (by omega) (by omega) (congrArg nI hfp) ?_
  refine er_iaddN d_Mo_step_22 ?_
  refine er_istore_n d_Mo_step_23 (by decide) ?_
  show jl_E l G m_Mo_step (0, 0) 24 [some (.ref 22), some (.int (nI t)), some (.int (nI (((24) * (m)) + (p)))), none, none] [] (σ) P
  refine er_aload_n d_Mo_step_24 rfl ?_
  refine er_getf d_Mo_step_25 f_Mo_step_38 hO rfl ?_
  refine er_iload_n d_Mo_step_28 rfl ?_
  refine er_ialdQ (v := (nI (11))) d_Mo_step_29 h32 (by omega) (by omega) (congrArg nI ho) ?_
  refine er_istore_n d_Mo_step_30 (by decide) ?_
  show jl_E l G m_Mo_step (0, 0) 31 [some (.ref 22), some (.int (nI t)), some (.int (nI (((24) * (m)) + (p)))), some (.int (nI 11)), none] [] (σ) P
  refine er_aload_n d_Mo_step_31 rfl ?_
  refine er_getf d_Mo_step_32 f_Mo_step_41 hO rfl ?_
  refine er_iload_n d_Mo_step_35 rfl ?_
  refine er_ialdQ (v := (x)) d_Mo_step_36 h33 (by omega) (by omega) (hx) ?_
  refine er_istore d_Mo_step_37 (by decide) ?_
  show jl_E l G m_Mo_step (0, 0) 39 [some (.ref 22), some (.int (nI t)), some (.int (nI (((24) * (m)) + (p)))), some (.int (nI 11)), some (.int (x))] [] (σ) P
  refine er_aload_n d_Mo_step_39 rfl ?_
  refine er_dup d_Mo_step_40 rfl ?_
  refine er_getf d_Mo_step_41 f_Mo_step_270 hO rfl ?_
  refine er_iconst ((nI (1))) d_Mo_step_44 (by decide) ?_
  refine er_iaddN d_Mo_step_45 ?_
  refine er_putf d_Mo_step_46 p_Mo_step_270 hO (Nat.le_of_ble_eq_true rfl) jl_fit_int ?_
  show jl_E l G m_Mo_step (0, 0) 49 [some (.ref 22), some (.int (nI t)), some (.int (nI (((24) * (m)) + (p)))), some (.int (nI 11)), some (.int (x))] [] (σ.set (22) (.inr (7, [.int (fa), .ref 23, .ref 24, .ref 25, .ref 26, .ref 27, .ref 28, .ref 29, .ref 30, .ref 31, .ref 32, .ref 33, .ref 34, .ref 35, .ref 36, .ref 37, .int (vf), .int (wh), .int (wy), .ref 38, .ref 39, .ref 40, .ref 41, .int (hg), .ref 42, .ref 43, .ref 44, .ref 45, .ref 46, .ref 47, .ref 48, .ref 49, .int (nI (t + 1)), .ref 50, .ref 51, .ref 52, .int (nI (H.n)), .int (ov), .int (oh), .int (nI ((d) + (1))), .int (an)]))) P
  refine er_iload_n d_Mo_step_49 rfl ?_
  refine er_tableIn (off := 112) 162 d_Mo_step_50 (by decide +kernel) (by decide +kernel) (by decide +kernel) (by decide) ?_
  refine er_aload_n d_Mo_step_162 rfl ?_
  refine er_iload_n d_Mo_step_163 rfl ?_
  refine er_iload d_Mo_step_164 rfl ?_
  refine er_callVE (As := [.int (nI 11), .int (x)]) d_Mo_step_166 k_Mo_step_279 (jl_ss hO) rfl rfl rfl (Nat.le_of_ble_eq_true rfl) (by decide) (by decide) (jl_mE.mono (hC _ (hn.done (dn2 := nI (d + 1)))) (fun r σ z => ⟨none, z.1, ?_⟩))
  show jl_E l G m_Mo_step (0, 0) 169 [some (.ref 22), some (.int (nI t)), some (.int (nI (((24) * (m)) + (p)))), some (.int (nI 11)), some (.int (x))] [] (σ) P
  refine er_goto 229 d_Mo_step_169 (by decide) ?_
  exact er_vret d_Mo_step_229 rfl (z.2) (by decide) (by decide)
theorem d_Mo_step_172 : decode m_Mo_step.2.1 172 = .ok (.aload_n 0, 1) := by decide +kernel
theorem d_Mo_step_173 : decode m_Mo_step.2.1 173 = .ok (.iload_n 3, 1) := by decide +kernel
theorem d_Mo_step_174 : decode m_Mo_step.2.1 174 = .ok (.iload 4, 2) := by decide +kernel
theorem k_Mo_step_282 : jl_cv m_Mo_step m_Mo_fieldOf 282 2 = true := by decide +kernel
theorem d_Mo_step_176 : decode m_Mo_step.2.1 176 = .ok (.invokevirtual 282, 3) := by decide +kernel
theorem d_Mo_step_179 : decode m_Mo_step.2.1 179 = .ok (.goto 50, 3) := by decide +kernel
theorem mo_sw_12 (hl : l.stackTraces = false) {P : jl_O → jl_S → Prop}  (hn : NB σ0 σ (N) t m (p) (h) (R) (V) (fs) (H) fa vf wh wy hg ov oh (nI d) an) (hu : MoM σ u1 u2 ur ul uo ua uc us ut uk) (ht : t < 12) (hm24 : m < 24) (hp24 : p < 24) (ho : uo (24 * m + p) = 12) (hx : ua (24 * m + p) = x) (hC : ∀ σ1, NB σ0 σ1 (N) t m (p) (h) (R) (V) (fs) (H) fa vf wh wy hg ov oh (nI (d + 1)) an → jl_mE l G m_Mo_fieldOf [.ref 22, .int (nI 12), .int x] σ1 (fun r σ' => r = .inl none ∧ P (.inl none) σ')) : jl_mE l G m_Mo_step [.ref 22] σ P := by
  obtain ⟨fx, fp, fh, lw, lk, vl, vk, ks, kc, kv, lo, sk, hO, f1, f2, f3, f4, f5, f6, f7, hH, hB, hy1, hR1, hF⟩ := id hn
  obtain ⟨k1, k2, k3⟩ := id hH
  obtain ⟨⟨r1, r2⟩, hlo, hsk⟩ := id hR1
  obtain ⟨⟨hfx, hfp, hlc, hst⟩, hfh, hfs, hln⟩ := id hy1
  have hfx : fx t = m := hfx
  have hfp : fp t = p := hfp
  have hlc : ∀ k, k < 6 → lk (6 * t + k) = kdI (R k) ∧ (R k ≠ none → lw (6 * t + k) = V k) := hlc
  have hst : ∀ j, j < _ → vk (5 * t + j) = kdI (R (7 + j)) ∧ vl (5 * t + j) = V (7 + j) := hst
  obtain ⟨h28, h29, h30, h31, h32, h33, h34, h35, h36, h37⟩ := id hu
  refine jl_ofE (as := [.ref 22]) rfl (by decide) hl (jl_cc rfl jl_ca) (Nat.le_of_ble_eq_true rfl) ?_
  show jl_E l G m_Mo_step (0, 0) 0 [some (.ref 22), none, none, none, none] [] (σ) P
  refine er_aload_n d_Mo_step_0 rfl ?_
  refine er_getf d_Mo_step_1 f_Mo_step_224 hO rfl ?_
  refine er_iconst ((nI (1))) d_Mo_step_4 (by decide) ?_
  refine er_isubN d_Mo_step_5 (by omega) ?_
  rw [show (t + 1) - (1) = t by omega]
  show jl_E l G m_Mo_step (0, 0) 6 [some (.ref 22), none, none, none, none] [.int (nI t)] (σ) P
  refine er_istore_n d_Mo_step_6 (by decide) ?_
  show jl_E l G m_Mo_step (0, 0) 7 [some (.ref 22), some (.int (nI t)), none, none, none] [] (σ) P
  refine er_bipush ((nI (24))) d_Mo_step_7 (by decide) ?_
  refine er_aload_n d_Mo_step_9 rfl ?_
  refine er_getf d_Mo_step_10 f_Mo_step_78 hO rfl ?_
  refine er_iload_n d_Mo_step_13 rfl ?_
  refine er_ialdQ (v := (nI (m))) d_Mo_step_14 f1 (by omega) (by omega) (congrArg nI hfx) ?_
  refine er_imulN d_Mo_step_15 ?_
  refine er_aload_n d_Mo_step_16 rfl ?_
  refine er_getf d_Mo_step_17 f_Mo_step_81 hO rfl ?_
  refine er_iload_n d_Mo_step_20 rfl ?_
  refine er_ialdQ (v := (nI (p))) d_Mo_step_21 f2 (by omega) (by omega) (congrArg nI hfp) ?_
  refine er_iaddN d_Mo_step_22 ?_
  refine er_istore_n d_Mo_step_23 (by decide) ?_
  show jl_E l G m_Mo_step (0, 0) 24 [some (.ref 22), some (.int (nI t)), some (.int (nI (((24) * (m)) + (p)))), none, none] [] (σ) P
  refine er_aload_n d_Mo_step_24 rfl ?_
  refine er_getf d_Mo_step_25 f_Mo_step_38 hO rfl ?_
  refine er_iload_n d_Mo_step_28 rfl ?_
  refine er_ialdQ (v := (nI (12))) d_Mo_step_29 h32 (by omega) (by omega) (congrArg nI ho) ?_
  refine er_istore_n d_Mo_step_30 (by decide) ?_
  show jl_E l G m_Mo_step (0, 0) 31 [some (.ref 22), some (.int (nI t)), some (.int (nI (((24) * (m)) + (p)))), some (.int (nI 12)), none] [] (σ) P
  refine er_aload_n d_Mo_step_31 rfl ?_
  refine er_getf d_Mo_step_32 f_Mo_step_41 hO rfl ?_
  refine er_iload_n d_Mo_step_35 rfl ?_
  refine er_ialdQ (v := (x)) d_Mo_step_36 h33 (by omega) (by omega) (hx) ?_
  refine er_istore d_Mo_step_37 (by decide) ?_
  show jl_E l G m_Mo_step (0, 0) 39 [some (.ref 22), some (.int (nI t)), some (.int (nI (((24) * (m)) + (p)))), some (.int (nI 12)), some (.int (x))] [] (σ) P
  refine er_aload_n d_Mo_step_39 rfl ?_
  refine er_dup d_Mo_step_40 rfl ?_
  refine er_getf d_Mo_step_41 f_Mo_step_270 hO rfl ?_
  refine er_iconst ((nI (1))) d_Mo_step_44 (by decide) ?_
  refine er_iaddN d_Mo_step_45 ?_
  refine er_putf d_Mo_step_46 p_Mo_step_270 hO (Nat.le_of_ble_eq_true rfl) jl_fit_int ?_
  show jl_E l G m_Mo_step (0, 0) 49 [some (.ref 22), some (.int (nI t)), some (.int (nI (((24) * (m)) + (p)))), some (.int (nI 12)), some (.int (x))] [] (σ.set (22) (.inr (7, [.int (fa), .ref 23, .ref 24, .ref 25, .ref 26, .ref 27, .ref 28, .ref 29, .ref 30, .ref 31, .ref 32, .ref 33, .ref 34, .ref 35, .ref 36, .ref 37, .int (vf), .int (wh), .int (wy), .ref 38, .ref 39, .ref 40, .ref 41, .int (hg), .ref 42, .ref 43, .ref 44, .ref 45, .ref 46, .ref 47, .ref 48, .ref 49, .int (nI (t + 1)), .ref 50, .ref 51, .ref 52, .int (nI (H.n)), .int (ov), .int (oh), .int (nI ((d) + (1))), .int (an)]))) P
  refine er_iload_n d_Mo_step_49 rfl ?_
  refine er_tableIn (off := 122) 172 d_Mo_step_50 (by decide +kernel) (by decide +kernel) (by decide +kernel) (by decide) ?_
  refine er_aload_n d_Mo_step_172 rfl ?_
  refine er_iload_n d_Mo_step_173 rfl ?_
  refine er_iload d_Mo_step_174 rfl ?_
  refine er_callVE (As := [.int (nI 12), .int (x)]) d_Mo_step_176 k_Mo_step_282 (jl_ss hO) rfl rfl rfl (Nat.le_of_ble_eq_true rfl) (by decide) (by decide) (jl_mE.mono (hC _ (hn.done (dn2 := nI (d + 1)))) (fun r σ z => ⟨none, z.1, ?_⟩))
  show jl_E l G m_Mo_step (0, 0) 179 [some (.ref 22), some (.int (nI t)), some (.int (nI (((24) * (m)) + (p)))), some (.int (nI 12)), some (.int (x))] [] (σ) P
  refine er_goto 229 d_Mo_step_179 (by decide) ?_
  exact er_vret d_Mo_step_229 rfl (z.2) (by decide) (by decide)
theorem mo_sw_13 (hl : l.stackTraces = false) {P : jl_O → jl_S → Prop}  (hn : NB σ0 σ (N) t m (p) (h) (R) (V) (fs) (H) fa vf wh wy hg ov oh (nI d) an) (hu : MoM σ u1 u2 ur ul uo ua uc us ut uk) (ht : t < 12) (hm24 : m < 24) (hp24 : p < 24) (ho : uo (24 * m + p) = 13) (hx : ua (24 * m + p) = x) (hC : ∀ σ1, NB σ0 σ1 (N) t m (p) (h) (R) (V) (fs) (H) fa vf wh wy hg ov oh (nI (d + 1)) an → jl_mE l G m_Mo_fieldOf [.ref 22, .int (nI 13), .int x] σ1 (fun r σ' => r = .inl none ∧ P (.inl none) σ')) : jl_mE l G m_Mo_step [.ref 22] σ P := by
  obtain ⟨fx, fp, fh, lw, lk, vl, vk, ks, kc, kv, lo, sk, hO, f1, f2, f3, f4, f5, f6, f7, hH, hB, hy1, hR1, hF⟩ := id hn
  obtain ⟨k1, k2, k3⟩ := id hH
  obtain ⟨⟨r1, r2⟩, hlo, hsk⟩ := id hR1
  obtain ⟨⟨hfx, hfp, hlc, hst⟩, hfh, hfs, hln⟩ := id hy1
  have hfx : fx t = m := hfx
  have hfp : fp t = p := hfp
  have hlc : ∀ k, k < 6 → lk (6 * t + k) = kdI (R k) ∧ (R k ≠ none → lw (6 * t + k) = V k) := hlc
  have hst : ∀ j, j < _ → vk (5 * t + j) = kdI (R (7 + j)) ∧ vl (5 * t + j) = V (7 + j) := hst
  obtain ⟨h28, h29, h30, h31, h32, h33, h34, h35, h36, h37⟩ := id hu
  refine jl_ofE (as := [.ref 22]) rfl (by decide) hl (jl_cc rfl jl_ca) (Nat.le_of_ble_eq_true rfl) ?_
  show jl_E l G m_Mo_step (0, 0) 0 [some (.ref 22), none, none, none, none] [] (σ) P
  refine er_aload_n d_Mo_step_0 rfl ?_
  refine er_getf d_Mo_step_1 f_Mo_step_224 hO rfl ?_
  refine er_iconst ((nI (1))) d_Mo_step_4 (by decide) ?_
  refine er_isubN d_Mo_step_5 (by omega) ?_
  rw [show (t + 1) - (1) = t by omega]
  show jl_E l G m_Mo_step (0, 0) 6 [some (.ref 22), none, none, none, none] [.int (nI t)] (σ) P
  refine er_istore_n d_Mo_step_6 (by decide) ?_
  show jl_E l G m_Mo_step (0, 0) 7 [some (.ref 22), some (.int (nI t)), none, none, none] [] (σ) P
  refine er_bipush ((nI (24))) d_Mo_step_7 (by decide) ?_
  refine er_aload_n d_Mo_step_9 rfl ?_
  refine er_getf d_Mo_step_10 f_Mo_step_78 hO rfl ?_
  refine er_iload_n d_Mo_step_13 rfl ?_
  refine er_ialdQ (v := (nI (m))) d_Mo_step_14 f1 (by omega) (by omega) (congrArg nI hfx) ?_
  refine er_imulN d_Mo_step_15 ?_
  refine er_aload_n d_Mo_step_16 rfl ?_
  refine er_getf d_Mo_step_17 f_Mo_step_81 hO rfl ?_
  refine er_iload_n d_Mo_step_20 rfl ?_
  refine er_ialdQ (v := (nI (p))) d_Mo_step_21 f2 (by omega) (by omega) (congrArg nI hfp) ?_
  refine er_iaddN d_Mo_step_22 ?_
  refine er_istore_n d_Mo_step_23 (by decide) ?_
  show jl_E l G m_Mo_step (0, 0) 24 [some (.ref 22), some (.int (nI t)), some (.int (nI (((24) * (m)) + (p)))), none, none] [] (σ) P
  refine er_aload_n d_Mo_step_24 rfl ?_
  refine er_getf d_Mo_step_25 f_Mo_step_38 hO rfl ?_
  refine er_iload_n d_Mo_step_28 rfl ?_
  refine er_ialdQ (v := (nI (13))) d_Mo_step_29 h32 (by omega) (by omega) (congrArg nI ho) ?_
  refine er_istore_n d_Mo_step_30 (by decide) ?_
  show jl_E l G m_Mo_step (0, 0) 31 [some (.ref 22), some (.int (nI t)), some (.int (nI (((24) * (m)) + (p)))), some (.int (nI 13)), none] [] (σ) P
  refine er_aload_n d_Mo_step_31 rfl ?_
  refine er_getf d_Mo_step_32 f_Mo_step_41 hO rfl ?_
  refine er_iload_n d_Mo_step_35 rfl ?_
  refine er_ialdQ (v := (x)) d_Mo_step_36 h33 (by omega) (by omega) (hx) ?_
  refine er_istore d_Mo_step_37 (by decide) ?_
  show jl_E l G m_Mo_step (0, 0) 39 [some (.ref 22), some (.int (nI t)), some (.int (nI (((24) * (m)) + (p)))), some (.int (nI 13)), some (.int (x))] [] (σ) P
  refine er_aload_n d_Mo_step_39 rfl ?_
  refine er_dup d_Mo_step_40 rfl ?_
  refine er_getf d_Mo_step_41 f_Mo_step_270 hO rfl ?_
  refine er_iconst ((nI (1))) d_Mo_step_44 (by decide) ?_
  refine er_iaddN d_Mo_step_45 ?_
  refine er_putf d_Mo_step_46 p_Mo_step_270 hO (Nat.le_of_ble_eq_true rfl) jl_fit_int ?_
  show jl_E l G m_Mo_step (0, 0) 49 [some (.ref 22), some (.int (nI t)), some (.int (nI (((24) * (m)) + (p)))), some (.int (nI 13)), some (.int (x))] [] (σ.set (22) (.inr (7, [.int (fa), .ref 23, .ref 24, .ref 25, .ref 26, .ref 27, .ref 28, .ref 29, .ref 30, .ref 31, .ref 32, .ref 33, .ref 34, .ref 35, .ref 36, .ref 37, .int (vf), .int (wh), .int (wy), .ref 38, .ref 39, .ref 40, .ref 41, .int (hg), .ref 42, .ref 43, .ref 44, .ref 45, .ref 46, .ref 47, .ref 48, .ref 49, .int (nI (t + 1)), .ref 50, .ref 51, .ref 52, .int (nI (H.n)), .int (ov), .int (oh), .int (nI ((d) + (1))), .int (an)]))) P
  refine er_iload_n d_Mo_step_49 rfl ?_
  refine er_tableIn (off := 122) 172 d_Mo_step_50 (by decide +kernel) (by decide +kernel) (by decide +kernel) (by decide) ?_
  refine er_aload_n d_Mo_step_172 rfl ?_
  refine er_iload_n d_Mo_step_173 rfl ?_
  refine er_iload d_Mo_step_174 rfl ?_
  refine er_callVE (As := [.int (nI 13), .int (x)]) d_Mo_step_176 k_Mo_step_282 (jl_ss hO) rfl rfl rfl (Nat.le_of_ble_eq_true rfl) (by decide) (by decide) (jl_mE.mono (hC _ (hn.done (dn2 := nI (d + 1)))) (fun r σ z => ⟨none, z.1, ?_⟩))
  show jl_E l G m_Mo_step (0, 0) 179 [some (.ref 22), some (.int (nI t)), some (.int (nI (((24) * (m)) + (p)))), some (.int (nI 13)), some (.int (x))] [] (σ) P
  refine er_goto 229 d_Mo_step_179 (by decide) ?_
  exact er_vret d_Mo_step_229 rfl (z.2) (by decide) (by decide)
theorem d_Mo_step_182 : decode m_Mo_step.2.1 182 = .ok (.aload_n 0, 1) := by decide +kernel
theorem d_Mo_step_183 : decode m_Mo_step.2.1 183 = .ok (.iload 4, 2) := by decide +kernel
theorem k_Mo_step_285 : jl_cv m_Mo_step m_Mo_call 285 1 = true := by decide +kernel
theorem d_Mo_step_185 : decode m_Mo_step.2.1 185 = .ok (.invokevirtual 285, 3) := by decide +kernel
theorem d_Mo_step_188 : decode m_Mo_step.2.1 188 = .ok (.goto 41, 3) := by decide +kernel
theorem mo_sw_14 (hl : l.stackTraces = false) {P : jl_O → jl_S → Prop}  (hn : NB σ0 σ (N) t m (p) (h) (R) (V) (fs) (H) fa vf wh wy hg ov oh (nI d) an) (hu : MoM σ u1 u2 ur ul uo ua uc us ut uk) (ht : t < 12) (hm24 : m < 24) (hp24 : p < 24) (ho : uo (24 * m + p) = 14) (hx : ua (24 * m + p) = x) (hC : ∀ σ1, NB σ0 σ1 (N) t m (p) (h) (R) (V) (fs) (H) fa vf wh wy hg ov oh (nI (d + 1)) an → jl_mE l G m_Mo_call [.ref 22, .int x] σ1 (fun r σ' => r = .inl none ∧ P (.inl none) σ')) : jl_mE l G m_Mo_step [.ref 22] σ P := by
  obtain ⟨fx, fp, fh, lw, lk, vl, vk, ks, kc, kv, lo, sk, hO, f1, f2, f3, f4, f5, f6, f7, hH, hB, hy1, hR1, hF⟩ := id hn
  obtain ⟨k1, k2, k3⟩ := id hH
  obtain ⟨⟨r1, r2⟩, hlo, hsk⟩ := id hR1
  obtain ⟨⟨hfx, hfp, hlc, hst⟩, hfh, hfs, hln⟩ := id hy1
  have hfx : fx t = m := hfx
  have hfp : fp t = p := hfp
  have hlc : ∀ k, k < 6 → lk (6 * t + k) = kdI (R k) ∧ (R k ≠ none → lw (6 * t + k) = V k) := hlc
  have hst : ∀ j, j < _ → vk (5 * t + j) = kdI (R (7 + j)) ∧ vl (5 * t + j) = V (7 + j) := hst
  obtain ⟨h28, h29, h30, h31, h32, h33, h34, h35, h36, h37⟩ := id hu
  refine jl_ofE (as := [.ref 22]) rfl (by decide) hl (jl_cc rfl jl_ca) (Nat.le_of_ble_eq_true rfl) ?_
  show jl_E l G m_Mo_step (0, 0) 0 [some (.ref 22), none, none, none, none] [] (σ) P
  refine er_aload_n d_Mo_step_0 rfl ?_
  refine er_getf d_Mo_step_1 f_Mo_step_224 hO rfl ?_
  refine er_iconst ((nI (1))) d_Mo_step_4 (by decide) ?_
  refine er_isubN d_Mo_step_5 (by omega) ?_
  rw [show (t + 1) - (1) = t by omega]
  show jl_E l G m_Mo_step (0, 0) 6 [some (.ref 22), none, none, none, none] [.int (nI t)] (σ) P
  refine er_istore_n d_Mo_step_6 (by decide) ?_
  show jl_E l G m_Mo_step (0, 0) 7 [some (.ref 22), some (.int (nI t)), none, none, none] [] (σ) P
  refine er_bipush ((nI (24))) d_Mo_step_7 (by decide) ?_
  refine er_aload_n d_Mo_step_9 rfl ?_
  refine er_getf d_Mo_step_10 f_Mo_step_78 hO rfl ?_
  refine er_iload_n d_Mo_step_13 rfl ?_
  refine er_ialdQ (v := (nI (m))) d_Mo_step_14 f1 (by omega) (by omega) (congrArg nI hfx) ?_
  refine er_imulN d_Mo_step_15 ?_
  refine er_aload_n d_Mo_step_16 rfl ?_
  refine er_getf d_Mo_step_17 f_Mo_step_81 hO rfl ?_
  refine er_iload_n d_Mo_step_20 rfl ?_
  refine er_ialdQ (v := (nI (p))) d_Mo_step_21 f2 (by omega) (by omega) (congrArg nI hfp) ?_
  refine er_iaddN d_Mo_step_22 ?_
  refine er_istore_n d_Mo_step_23 (by decide) ?_
  show jl_E l G m_Mo_step (0, 0) 24 [some (.ref 22), some (.int (nI t)), some (.int (nI (((24) * (m)) + (p)))), none, none] [] (σ) P
  refine er_aload_n d_Mo_step_24 rfl ?_
  refine er_getf d_Mo_step_25 f_Mo_step_38 hO rfl ?_
  refine er_iload_n d_Mo_step_28 rfl ?_
  refine er_ialdQ (v := (nI (14))) d_Mo_step_29 h32 (by omega) (by omega) (congrArg nI ho) ?_
  refine er_istore_n d_Mo_step_30 (by decide) ?_
  show jl_E l G m_Mo_step (0, 0) 31 [some (.ref 22), some (.int (nI t)), some (.int (nI (((24) * (m)) + (p)))), some (.int (nI 14)), none] [] (σ) P
  refine er_aload_n d_Mo_step_31 rfl ?_
  refine er_getf d_Mo_step_32 f_Mo_step_41 hO rfl ?_
  refine er_iload_n d_Mo_step_35 rfl ?_
  refine er_ialdQ (v := (x)) d_Mo_step_36 h33 (by omega) (by omega) (hx) ?_
  refine er_istore d_Mo_step_37 (by decide) ?_
  show jl_E l G m_Mo_step (0, 0) 39 [some (.ref 22), some (.int (nI t)), some (.int (nI (((24) * (m)) + (p)))), some (.int (nI 14)), some (.int (x))] [] (σ) P
  refine er_aload_n d_Mo_step_39 rfl ?_
  refine er_dup d_Mo_step_40 rfl ?_
  refine er_getf d_Mo_step_41 f_Mo_step_270 hO rfl ?_
  refine er_iconst ((nI (1))) d_Mo_step_44 (by decide) ?_
  refine er_iaddN d_Mo_step_45 ?_
  refine er_putf d_Mo_step_46 p_Mo_step_270 hO (Nat.le_of_ble_eq_true rfl) jl_fit_int ?_
  show jl_E l G m_Mo_step (0, 0) 49 [some (.ref 22), some (.int (nI t)), some (.int (nI (((24) * (m)) + (p)))), some (.int (nI 14)), some (.int (x))] [] (σ.set (22) (.inr (7, [.int (fa), .ref 23, .ref 24, .ref 25, .ref 26, .ref 27, .ref 28, .ref 29, .ref 30, .ref 31, .ref 32, .ref 33, .ref 34, .ref 35, .ref 36, .ref 37, .int (vf), .int (wh), .int (wy), .ref 38, .ref 39, .ref 40, .ref 41, .int (hg), .ref 42, .ref 43, .ref 44, .ref 45, .ref 46, .ref 47, .ref 48, .ref 49, .int (nI (t + 1)), .ref 50, .ref 51, .ref 52, .int (nI (H.n)), .int (ov), .int (oh), .int (nI ((d) + (1))), .int (an)]))) P
  refine er_iload_n d_Mo_step_49 rfl ?_
  refine er_tableIn (off := 132) 182 d_Mo_step_50 (by decide +kernel) (by decide +kernel) (by decide +kernel) (by decide) ?_
  refine er_aload_n d_Mo_step_182 rfl ?_
  refine er_iload d_Mo_step_183 rfl ?_
  refine er_callVE (As := [.int (x)]) d_Mo_step_185 k_Mo_step_285 (jl_ss hO) rfl rfl rfl (Nat.le_of_ble_eq_true rfl) (by decide) (by decide) (jl_mE.mono (hC _ (hn.done (dn2 := nI (d + 1)))) (fun r σ z => ⟨none, z.1, ?_⟩))
  show jl_E l G m_Mo_step (0, 0) 188 [some (.ref 22), some (.int (nI t)), some (.int (nI (((24) * (m)) + (p)))), some (.int (nI 14)), some (.int (x))] [] (σ) P
  refine er_goto 229 d_Mo_step_188 (by decide) ?_
  exact er_vret d_Mo_step_229 rfl (z.2) (by decide) (by decide)
theorem d_Mo_step_191 : decode m_Mo_step.2.1 191 = .ok (.aload_n 0, 1) := by decide +kernel
theorem d_Mo_step_192 : decode m_Mo_step.2.1 192 = .ok (.iload 4, 2) := by decide +kernel
theorem k_Mo_step_288 : jl_cv m_Mo_step m_Mo_castTo 288 1 = true := by decide +kernel
theorem d_Mo_step_194 : decode m_Mo_step.2.1 194 = .ok (.invokevirtual 288, 3) := by decide +kernel
theorem d_Mo_step_197 : decode m_Mo_step.2.1 197 = .ok (.goto 32, 3) := by decide +kernel
theorem mo_sw_15 (hl : l.stackTraces = false) {P : jl_O → jl_S → Prop}  (hn : NB σ0 σ (N) t m (p) (h) (R) (V) (fs) (H) fa vf wh wy hg ov oh (nI d) an) (hu : MoM σ u1 u2 ur ul uo ua uc us ut uk) (ht : t < 12) (hm24 : m < 24) (hp24 : p < 24) (ho : uo (24 * m + p) = 15) (hx : ua (24 * m + p) = x) (hC : ∀ σ1, NB σ0 σ1 (N) t m (p) (h) (R) (V) (fs) (H) fa vf wh wy hg ov oh (nI (d + 1)) an → jl_mE l G m_Mo_castTo [.ref 22, .int x] σ1 (fun r σ' => r = .inl none ∧ P (.inl none) σ')) : jl_mE l G m_Mo_step [.ref 22] σ P := by
  obtain ⟨fx, fp, fh, lw, lk, vl, vk, ks, kc, kv, lo, sk, hO, f1, f2, f3, f4, f5, f6, f7, hH, hB, hy1, hR1, hF⟩ := id hn
  obtain ⟨k1, k2, k3⟩ := id hH
  obtain ⟨⟨r1, r2⟩, hlo, hsk⟩ := id hR1
  obtain ⟨⟨hfx, hfp, hlc, hst⟩, hfh, hfs, hln⟩ := id hy1
  have hfx : fx t = m := hfx
  have hfp : fp t = p := hfp
  have hlc : ∀ k, k < 6 → lk (6 * t + k) = kdI (R k) ∧ (R k ≠ none → lw (6 * t + k) = V k) := hlc
  have hst : ∀ j, j < _ → vk (5 * t + j) = kdI (R (7 + j)) ∧ vl (5 * t + j) = V (7 + j) := hst
  obtain ⟨h28, h29, h30, h31, h32, h33, h34, h35, h36, h37⟩ := id hu
  refine jl_ofE (as := [.ref 22]) rfl (by decide) hl (jl_cc rfl jl_ca) (Nat.le_of_ble_eq_true rfl) ?_
  show jl_E l G m_Mo_step (0, 0) 0 [some (.ref 22), none, none, none, none] [] (σ) P
  refine er_aload_n d_Mo_step_0 rfl ?_
  refine er_getf d_Mo_step_1 f_Mo_step_224 hO rfl ?_
  refine er_iconst ((nI (1))) d_Mo_step_4 (by decide) ?_
  refine er_isubN d_Mo_step_5 (by omega) ?_
  rw [show (t + 1) - (1) = t by omega]
  show jl_E l G m_Mo_step (0, 0) 6 [some (.ref 22), none, none, none, none] [.int (nI t)] (σ) P
  refine er_istore_n d_Mo_step_6 (by decide) ?_
  show jl_E l G m_Mo_step (0, 0) 7 [some (.ref 22), some (.int (nI t)), none, none, none] [] (σ) P
  refine er_bipush ((nI (24))) d_Mo_step_7 (by decide) ?_
  refine er_aload_n d_Mo_step_9 rfl ?_
  refine er_getf d_Mo_step_10 f_Mo_step_78 hO rfl ?_
  refine er_iload_n d_Mo_step_13 rfl ?_
  refine er_ialdQ (v := (nI (m))) d_Mo_step_14 f1 (by omega) (by omega) (congrArg nI hfx) ?_
  refine er_imulN d_Mo_step_15 ?_
  refine er_aload_n d_Mo_step_16 rfl ?_
  refine er_getf d_Mo_step_17 f_Mo_step_81 hO rfl ?_
  refine er_iload_n d_Mo_step_20 rfl ?_
  refine er_ialdQ (v := (nI (p))) d_Mo_step_21 f2 (by omega) (by omega) (congrArg nI hfp) ?_
  refine er_iaddN d_Mo_step_22 ?_
  refine er_istore_n d_Mo_step_23 (by decide) ?_
  show jl_E l G m_Mo_step (0, 0) 24 [some (.ref 22), some (.int (nI t)), some (.int (nI (((24) * (m)) + (p)))), none, none] [] (σ) P
  refine er_aload_n d_Mo_step_24 rfl ?_
  refine er_getf d_Mo_step_25 f_Mo_step_38 hO rfl ?_
  refine er_iload_n d_Mo_step_28 rfl ?_
  refine er_ialdQ (v := (nI (15))) d_Mo_step_29 h32 (by omega) (by omega) (congrArg nI ho) ?_
  refine er_istore_n d_Mo_step_30 (by decide) ?_
  show jl_E l G m_Mo_step (0, 0) 31 [some (.ref 22), some (.int (nI t)), some (.int (nI (((24) * (m)) + (p)))), some (.int (nI 15)), none] [] (σ) P
  refine er_aload_n d_Mo_step_31 rfl ?_
  refine er_getf d_Mo_step_32 f_Mo_step_41 hO rfl ?_
  refine er_iload_n d_Mo_step_35 rfl ?_
  refine er_ialdQ (v := (x)) d_Mo_step_36 h33 (by omega) (by omega) (hx) ?_
  refine er_istore d_Mo_step_37 (by decide) ?_
  show jl_E l G m_Mo_step (0, 0) 39 [some (.ref 22), some (.int (nI t)), some (.int (nI (((24) * (m)) + (p)))), some (.int (nI 15)), some (.int (x))] [] (σ) P
  refine er_aload_n d_Mo_step_39 rfl ?_
  refine er_dup d_Mo_step_40 rfl ?_
  refine er_getf d_Mo_step_41 f_Mo_step_270 hO rfl ?_
  refine er_iconst ((nI (1))) d_Mo_step_44 (by decide) ?_
  refine er_iaddN d_Mo_step_45 ?_
  refine er_putf d_Mo_step_46 p_Mo_step_270 hO (Nat.le_of_ble_eq_true rfl) jl_fit_int ?_
  show jl_E l G m_Mo_step (0, 0) 49 [some (.ref 22), some (.int (nI t)), some (.int (nI (((24) * (m)) + (p)))), some (.int (nI 15)), some (.int (x))] [] (σ.set (22) (.inr (7, [.int (fa), .ref 23, .ref 24, .ref 25, .ref 26, .ref 27, .ref 28, .ref 29, .ref 30, .ref 31, .ref 32, .ref 33, .ref 34, .ref 35, .ref 36, .ref 37, .int (vf), .int (wh), .int (wy), .ref 38, .ref 39, .ref 40, .ref 41, .int (hg), .ref 42, .ref 43, .ref 44, .ref 45, .ref 46, .ref 47, .ref 48, .ref 49, .int (nI (t + 1)), .ref 50, .ref 51, .ref 52, .int (nI (H.n)), .int (ov), .int (oh), .int (nI ((d) + (1))), .int (an)]))) P
  refine er_iload_n d_Mo_step_49 rfl ?_
  refine er_tableIn (off := 141) 191 d_Mo_step_50 (by decide +kernel) (by decide +kernel) (by decide +kernel) (by decide) ?_
  refine er_aload_n d_Mo_step_191 rfl ?_
  refine er_iload d_Mo_step_192 rfl ?_
  refine er_callVE (As := [.int (x)]) d_Mo_step_194 k_Mo_step_288 (jl_ss hO) rfl rfl rfl (Nat.le_of_ble_eq_true rfl) (by decide) (by decide) (jl_mE.mono (hC _ (hn.done (dn2 := nI (d + 1)))) (fun r σ z => ⟨none, z.1, ?_⟩))
  show jl_E l G m_Mo_step (0, 0) 197 [some (.ref 22), some (.int (nI t)), some (.int (nI (((24) * (m)) + (p)))), some (.int (nI 15)), some (.int (x))] [] (σ) P
  refine er_goto 229 d_Mo_step_197 (by decide) ?_
  exact er_vret d_Mo_step_229 rfl (z.2) (by decide) (by decide)
theorem mo_sw_16 (hl : l.stackTraces = false) {P : jl_O → jl_S → Prop}  (hn : NB σ0 σ (N) t m (p) (h) (R) (V) (fs) (H) fa vf wh wy hg ov oh (nI d) an) (hu : MoM σ u1 u2 ur ul uo ua uc us ut uk) (ht : t < 12) (hm24 : m < 24) (hp24 : p < 24) (ho : uo (24 * m + p) = 16) (hx : ua (24 * m + p) = x) (hC : ∀ σ1, NB σ0 σ1 (N) t m (p) (h) (R) (V) (fs) (H) fa vf wh wy hg ov oh (nI (d + 1)) an → jl_mE l G m_Mo_branch [.ref 22, .int (nI 16), .int x] σ1 (fun r σ' => r = .inl none ∧ P (.inl none) σ')) : jl_mE l G m_Mo_step [.ref 22] σ P := by
  obtain ⟨fx, fp, fh, lw, lk, vl, vk, ks, kc, kv, lo, sk, hO, f1, f2, f3, f4, f5, f6, f7, hH, hB, hy1, hR1, hF⟩ := id hn
  obtain ⟨k1, k2, k3⟩ := id hH
  obtain ⟨⟨r1, r2⟩, hlo, hsk⟩ := id hR1
  obtain ⟨⟨hfx, hfp, hlc, hst⟩, hfh, hfs, hln⟩ := id hy1
  have hfx : fx t = m := hfx
  have hfp : fp t = p := hfp
  have hlc : ∀ k, k < 6 → lk (6 * t + k) = kdI (R k) ∧ (R k ≠ none → lw (6 * t + k) = V k) := hlc
  have hst : ∀ j, j < _ → vk (5 * t + j) = kdI (R (7 + j)) ∧ vl (5 * t + j) = V (7 + j) := hst
  obtain ⟨h28, h29, h30, h31, h32, h33, h34, h35, h36, h37⟩ := id hu
  refine jl_ofE (as := [.ref 22]) rfl (by decide) hl (jl_cc rfl jl_ca) (Nat.le_of_ble_eq_true rfl) ?_
  show jl_E l G m_Mo_step (0, 0) 0 [some (.ref 22), none, none, none, none] [] (σ) P
  refine er_aload_n d_Mo_step_0 rfl ?_
  refine er_getf d_Mo_step_1 f_Mo_step_224 hO rfl ?_
  refine er_iconst ((nI (1))) d_Mo_step_4 (by decide) ?_
  refine er_isubN d_Mo_step_5 (by omega) ?_
  rw [show (t + 1) - (1) = t by omega]
  show jl_E l G m_Mo_step (0, 0) 6 [some (.ref 22), none, none, none, none] [.int (nI t)] (σ) P
  refine er_istore_n d_Mo_step_6 (by decide) ?_
  show jl_E l G m_Mo_step (0, 0) 7 [some (.ref 22), some (.int (nI t)), none, none, none] [] (σ) P
  refine er_bipush ((nI (24))) d_Mo_step_7 (by decide) ?_
  refine er_aload_n d_Mo_step_9 rfl ?_
  refine er_getf d_Mo_step_10 f_Mo_step_78 hO rfl ?_
  refine er_iload_n d_Mo_step_13 rfl ?_
  refine er_ialdQ (v := (nI (m))) d_Mo_step_14 f1 (by omega) (by omega) (congrArg nI hfx) ?_
  refine er_imulN d_Mo_step_15 ?_
  refine er_aload_n d_Mo_step_16 rfl ?_
  refine er_getf d_Mo_step_17 f_Mo_step_81 hO rfl ?_
  refine er_iload_n d_Mo_step_20 rfl ?_
  refine er_ialdQ (v := (nI (p))) d_Mo_step_21 f2 (by omega) (by omega) (congrArg nI hfp) ?_
  refine er_iaddN d_Mo_step_22 ?_
  refine er_istore_n d_Mo_step_23 (by decide) ?_
  show jl_E l G m_Mo_step (0, 0) 24 [some (.ref 22), some (.int (nI t)), some (.int (nI (((24) * (m)) + (p)))), none, none] [] (σ) P
  refine er_aload_n d_Mo_step_24 rfl ?_
  refine er_getf d_Mo_step_25 f_Mo_step_38 hO rfl ?_
  refine er_iload_n d_Mo_step_28 rfl ?_
  refine er_ialdQ (v := (nI (16))) d_Mo_step_29 h32 (by omega) (by omega) (congrArg nI ho) ?_
  refine er_istore_n d_Mo_step_30 (by decide) ?_
  show jl_E l G m_Mo_step (0, 0) 31 [some (.ref 22), some (.int (nI t)), some (.int (nI (((24) * (m)) + (p)))), some (.int (nI 16)), none] [] (σ) P
  refine er_aload_n d_Mo_step_31 rfl ?_
  refine er_getf d_Mo_step_32 f_Mo_step_41 hO rfl ?_
  refine er_iload_n d_Mo_step_35 rfl ?_
  refine er_ialdQ (v := (x)) d_Mo_step_36 h33 (by omega) (by omega) (hx) ?_
  refine er_istore d_Mo_step_37 (by decide) ?_
  show jl_E l G m_Mo_step (0, 0) 39 [some (.ref 22), some (.int (nI t)), some (.int (nI (((24) * (m)) + (p)))), some (.int (nI 16)), some (.int (x))] [] (σ) P
  refine er_aload_n d_Mo_step_39 rfl ?_
  refine er_dup d_Mo_step_40 rfl ?_
  refine er_getf d_Mo_step_41 f_Mo_step_270 hO rfl ?_
  refine er_iconst ((nI (1))) d_Mo_step_44 (by decide) ?_
  refine er_iaddN d_Mo_step_45 ?_
  refine er_putf d_Mo_step_46 p_Mo_step_270 hO (Nat.le_of_ble_eq_true rfl) jl_fit_int ?_
  show jl_E l G m_Mo_step (0, 0) 49 [some (.ref 22), some (.int (nI t)), some (.int (nI (((24) * (m)) + (p)))), some (.int (nI 16)), some (.int (x))] [] (σ.set (22) (.inr (7, [.int (fa), .ref 23, .ref 24, .ref 25, .ref 26, .ref 27, .ref 28, .ref 29, .ref 30, .ref 31, .ref 32, .ref 33, .ref 34, .ref 35, .ref 36, .ref 37, .int (vf), .int (wh), .int (wy), .ref 38, .ref 39, .ref 40, .ref 41, .int (hg), .ref 42, .ref 43, .ref 44, .ref 45, .ref 46, .ref 47, .ref 48, .ref 49, .int (nI (t + 1)), .ref 50, .ref 51, .ref 52, .int (nI (H.n)), .int (ov), .int (oh), .int (nI ((d) + (1))), .int (an)]))) P
  refine er_iload_n d_Mo_step_49 rfl ?_
  refine er_tableIn (off := 102) 152 d_Mo_step_50 (by decide +kernel) (by decide +kernel) (by decide +kernel) (by decide) ?_
  refine er_aload_n d_Mo_step_152 rfl ?_
  refine er_iload_n d_Mo_step_153 rfl ?_
  refine er_iload d_Mo_step_154 rfl ?_
  refine er_callVE (As := [.int (nI 16), .int (x)]) d_Mo_step_156 k_Mo_step_276 (jl_ss hO) rfl rfl rfl (Nat.le_of_ble_eq_true rfl) (by decide) (by decide) (jl_mE.mono (hC _ (hn.done (dn2 := nI (d + 1)))) (fun r σ z => ⟨none, z.1, ?_⟩))
  show jl_E l G m_Mo_step (0, 0) 159 [some (.ref 22), some (.int (nI t)), some (.int (nI (((24) * (m)) + (p)))), some (.int (nI 16)), some (.int (x))] [] (σ) P
  refine er_goto 229 d_Mo_step_159 (by decide) ?_
  exact er_vret d_Mo_step_229 rfl (z.2) (by decide) (by decide)
theorem d_Mo_step_200 : decode m_Mo_step.2.1 200 = .ok (.aload_n 0, 1) := by decide +kernel
theorem k_Mo_step_291 : jl_cv m_Mo_step m_Mo_raise 291 0 = true := by decide +kernel
theorem d_Mo_step_201 : decode m_Mo_step.2.1 201 = .ok (.invokevirtual 291, 3) := by decide +kernel
theorem d_Mo_step_204 : decode m_Mo_step.2.1 204 = .ok (.goto 25, 3) := by decide +kernel
theorem mo_sw_17 (hl : l.stackTraces = false) {P : jl_O → jl_S → Prop}  (hn : NB σ0 σ (N) t m (p) (h) (R) (V) (fs) (H) fa vf wh wy hg ov oh (nI d) an) (hu : MoM σ u1 u2 ur ul uo ua uc us ut uk) (ht : t < 12) (hm24 : m < 24) (hp24 : p < 24) (ho : uo (24 * m + p) = 17) (hx : ua (24 * m + p) = x) (hC : ∀ σ1, NB σ0 σ1 (N) t m (p) (h) (R) (V) (fs) (H) fa vf wh wy hg ov oh (nI (d + 1)) an → jl_mE l G m_Mo_raise [.ref 22] σ1 (fun r σ' => r = .inl none ∧ P (.inl none) σ')) : jl_mE l G m_Mo_step [.ref 22] σ P := by
  obtain ⟨fx, fp, fh, lw, lk, vl, vk, ks, kc, kv, lo, sk, hO, f1, f2, f3, f4, f5, f6, f7, hH, hB, hy1, hR1, hF⟩ := id hn
  obtain ⟨k1, k2, k3⟩ := id hH
  obtain ⟨⟨r1, r2⟩, hlo, hsk⟩ := id hR1
  obtain ⟨⟨hfx, hfp, hlc, hst⟩, hfh, hfs, hln⟩ := id hy1
  have hfx : fx t = m := hfx
  have hfp : fp t = p := hfp
  have hlc : ∀ k, k < 6 → lk (6 * t + k) = kdI (R k) ∧ (R k ≠ none → lw (6 * t + k) = V k) := hlc
  have hst : ∀ j, j < _ → vk (5 * t + j) = kdI (R (7 + j)) ∧ vl (5 * t + j) = V (7 + j) := hst
  obtain ⟨h28, h29, h30, h31, h32, h33, h34, h35, h36, h37⟩ := id hu
  refine jl_ofE (as := [.ref 22]) rfl (by decide) hl (jl_cc rfl jl_ca) (Nat.le_of_ble_eq_true rfl) ?_
  show jl_E l G m_Mo_step (0, 0) 0 [some (.ref 22), none, none, none, none] [] (σ) P
  refine er_aload_n d_Mo_step_0 rfl ?_
  refine er_getf d_Mo_step_1 f_Mo_step_224 hO rfl ?_
  refine er_iconst ((nI (1))) d_Mo_step_4 (by decide) ?_
  refine er_isubN d_Mo_step_5 (by omega) ?_
  rw [show (t + 1) - (1) = t by omega]
  show jl_E l G m_Mo_step (0, 0) 6 [some (.ref 22), none, none, none, none] [.int (nI t)] (σ) P
  refine er_istore_n d_Mo_step_6 (by decide) ?_
  show jl_E l G m_Mo_step (0, 0) 7 [some (.ref 22), some (.int (nI t)), none, none, none] [] (σ) P
  refine er_bipush ((nI (24))) d_Mo_step_7 (by decide) ?_
  refine er_aload_n d_Mo_step_9 rfl ?_
  refine er_getf d_Mo_step_10 f_Mo_step_78 hO rfl ?_
  refine er_iload_n d_Mo_step_13 rfl ?_
  refine er_ialdQ (v := (nI (m))) d_Mo_step_14 f1 (by omega) (by omega) (congrArg nI hfx) ?_
  refine er_imulN d_Mo_step_15 ?_
  refine er_aload_n d_Mo_step_16 rfl ?_
  refine er_getf d_Mo_step_17 f_Mo_step_81 hO rfl ?_
  refine er_iload_n d_Mo_step_20 rfl ?_
  refine er_ialdQ (v := (nI (p))) d_Mo_step_21 f2 (by omega) (by omega) (congrArg nI hfp) ?_
  refine er_iaddN d_Mo_step_22 ?_
  refine er_istore_n d_Mo_step_23 (by decide) ?_
  show jl_E l G m_Mo_step (0, 0) 24 [some (.ref 22), some (.int (nI t)), some (.int (nI (((24) * (m)) + (p)))), none, none] [] (σ) P
  refine er_aload_n d_Mo_step_24 rfl ?_
  refine er_getf d_Mo_step_25 f_Mo_step_38 hO rfl ?_
  refine er_iload_n d_Mo_step_28 rfl ?_
  refine er_ialdQ (v := (nI (17))) d_Mo_step_29 h32 (by omega) (by omega) (congrArg nI ho) ?_
  refine er_istore_n d_Mo_step_30 (by decide) ?_
  show jl_E l G m_Mo_step (0, 0) 31 [some (.ref 22), some (.int (nI t)), some (.int (nI (((24) * (m)) + (p)))), some (.int (nI 17)), none] [] (σ) P
  refine er_aload_n d_Mo_step_31 rfl ?_
  refine er_getf d_Mo_step_32 f_Mo_step_41 hO rfl ?_
  refine er_iload_n d_Mo_step_35 rfl ?_
  refine er_ialdQ (v := (x)) d_Mo_step_36 h33 (by omega) (by omega) (hx) ?_
  refine er_istore d_Mo_step_37 (by decide) ?_
  show jl_E l G m_Mo_step (0, 0) 39 [some (.ref 22), some (.int (nI t)), some (.int (nI (((24) * (m)) + (p)))), some (.int (nI 17)), some (.int (x))] [] (σ) P
  refine er_aload_n d_Mo_step_39 rfl ?_
  refine er_dup d_Mo_step_40 rfl ?_
  refine er_getf d_Mo_step_41 f_Mo_step_270 hO rfl ?_
  refine er_iconst ((nI (1))) d_Mo_step_44 (by decide) ?_
  refine er_iaddN d_Mo_step_45 ?_
  refine er_putf d_Mo_step_46 p_Mo_step_270 hO (Nat.le_of_ble_eq_true rfl) jl_fit_int ?_
  show jl_E l G m_Mo_step (0, 0) 49 [some (.ref 22), some (.int (nI t)), some (.int (nI (((24) * (m)) + (p)))), some (.int (nI 17)), some (.int (x))] [] (σ.set (22) (.inr (7, [.int (fa), .ref 23, .ref 24, .ref 25, .ref 26, .ref 27, .ref 28, .ref 29, .ref 30, .ref 31, .ref 32, .ref 33, .ref 34, .ref 35, .ref 36, .ref 37, .int (vf), .int (wh), .int (wy), .ref 38, .ref 39, .ref 40, .ref 41, .int (hg), .ref 42, .ref 43, .ref 44, .ref 45, .ref 46, .ref 47, .ref 48, .ref 49, .int (nI (t + 1)), .ref 50, .ref 51, .ref 52, .int (nI (H.n)), .int (ov), .int (oh), .int (nI ((d) + (1))), .int (an)]))) P
  refine er_iload_n d_Mo_step_49 rfl ?_
  refine er_tableIn (off := 150) 200 d_Mo_step_50 (by decide +kernel) (by decide +kernel) (by decide +kernel) (by decide) ?_
  refine er_aload_n d_Mo_step_200 rfl ?_
  refine er_callVE (As := []) d_Mo_step_201 k_Mo_step_291 (jl_ss hO) rfl rfl rfl (Nat.le_of_ble_eq_true rfl) (by decide) (by decide) (jl_mE.mono (hC _ (hn.done (dn2 := nI (d + 1)))) (fun r σ z => ⟨none, z.1, ?_⟩))
  show jl_E l G m_Mo_step (0, 0) 204 [some (.ref 22), some (.int (nI t)), some (.int (nI (((24) * (m)) + (p)))), some (.int (nI 17)), some (.int (x))] [] (σ) P
  refine er_goto 229 d_Mo_step_204 (by decide) ?_
  exact er_vret d_Mo_step_229 rfl (z.2) (by decide) (by decide)
theorem d_Mo_step_207 : decode m_Mo_step.2.1 207 = .ok (.aload_n 0, 1) := by decide +kernel
theorem k_Mo_step_294 : jl_cv m_Mo_step m_Mo_giveBack 294 0 = true := by decide +kernel
theorem d_Mo_step_208 : decode m_Mo_step.2.1 208 = .ok (.invokevirtual 294, 3) := by decide +kernel
theorem d_Mo_step_211 : decode m_Mo_step.2.1 211 = .ok (.goto 18, 3) := by decide +kernel
theorem mo_sw_18 (hl : l.stackTraces = false) {P : jl_O → jl_S → Prop}  (hn : NB σ0 σ (N) t m (p) (h) (R) (V) (fs) (H) fa vf wh wy hg ov oh (nI d) an) (hu : MoM σ u1 u2 ur ul uo ua uc us ut uk) (ht : t < 12) (hm24 : m < 24) (hp24 : p < 24) (ho : uo (24 * m + p) = 18) (hx : ua (24 * m + p) = x) (hC : ∀ σ1, NB σ0 σ1 (N) t m (p) (h) (R) (V) (fs) (H) fa vf wh wy hg ov oh (nI (d + 1)) an → jl_mE l G m_Mo_giveBack [.ref 22] σ1 (fun r σ' => r = .inl none ∧ P (.inl none) σ')) : jl_mE l G m_Mo_step [.ref 22] σ P := by
  obtain ⟨fx, fp, fh, lw, lk, vl, vk, ks, kc, kv, lo, sk, hO, f1, f2, f3, f4, f5, f6, f7, hH, hB, hy1, hR1, hF⟩ := id hn
  obtain ⟨k1, k2, k3⟩ := id hH
  obtain ⟨⟨r1, r2⟩, hlo, hsk⟩ := id hR1
  obtain ⟨⟨hfx, hfp, hlc, hst⟩, hfh, hfs, hln⟩ := id hy1
  have hfx : fx t = m := hfx
  have hfp : fp t = p := hfp
  have hlc : ∀ k, k < 6 → lk (6 * t + k) = kdI (R k) ∧ (R k ≠ none → lw (6 * t + k) = V k) := hlc
  have hst : ∀ j, j < _ → vk (5 * t + j) = kdI (R (7 + j)) ∧ vl (5 * t + j) = V (7 + j) := hst
  obtain ⟨h28, h29, h30, h31, h32, h33, h34, h35, h36, h37⟩ := id hu
  refine jl_ofE (as := [.ref 22]) rfl (by decide) hl (jl_cc rfl jl_ca) (Nat.le_of_ble_eq_true rfl) ?_
  show jl_E l G m_Mo_step (0, 0) 0 [some (.ref 22), none, none, none, none] [] (σ) P
  refine er_aload_n d_Mo_step_0 rfl ?_
  refine er_getf d_Mo_step_1 f_Mo_step_224 hO rfl ?_
  refine er_iconst ((nI (1))) d_Mo_step_4 (by decide) ?_
  refine er_isubN d_Mo_step_5 (by omega) ?_
  rw [show (t + 1) - (1) = t by omega]
  show jl_E l G m_Mo_step (0, 0) 6 [some (.ref 22), none, none, none, none] [.int (nI t)] (σ) P
  refine er_istore_n d_Mo_step_6 (by decide) ?_
  show jl_E l G m_Mo_step (0, 0) 7 [some (.ref 22), some (.int (nI t)), none, none, none] [] (σ) P
  refine er_bipush ((nI (24))) d_Mo_step_7 (by decide) ?_
  refine er_aload_n d_Mo_step_9 rfl ?_
  refine er_getf d_Mo_step_10 f_Mo_step_78 hO rfl ?_
  refine er_iload_n d_Mo_step_13 rfl ?_
  refine er_ialdQ (v := (nI (m))) d_Mo_step_14 f1 (by omega) (by omega) (congrArg nI hfx) ?_
  refine er_imulN d_Mo_step_15 ?_
  refine er_aload_n d_Mo_step_16 rfl ?_
  refine er_getf d_Mo_step_17 f_Mo_step_81 hO rfl ?_
  refine er_iload_n d_Mo_step_20 rfl ?_
  refine er_ialdQ (v := (nI (p))) d_Mo_step_21 f2 (by omega) (by omega) (congrArg nI hfp) ?_
  refine er_iaddN d_Mo_step_22 ?_
  refine er_istore_n d_Mo_step_23 (by decide) ?_
  show jl_E l G m_Mo_step (0, 0) 24 [some (.ref 22), some (.int (nI t)), some (.int (nI (((24) * (m)) + (p)))), none, none] [] (σ) P
  refine er_aload_n d_Mo_step_24 rfl ?_
  refine er_getf d_Mo_step_25 f_Mo_step_38 hO rfl ?_
  refine er_iload_n d_Mo_step_28 rfl ?_
  refine er_ialdQ (v := (nI (18))) d_Mo_step_29 h32 (by omega) (by omega) (congrArg nI ho) ?_
  refine er_istore_n d_Mo_step_30 (by decide) ?_
  show jl_E l G m_Mo_step (0, 0) 31 [some (.ref 22), some (.int (nI t)), some (.int (nI (((24) * (m)) + (p)))), some (.int (nI 18)), none] [] (σ) P
  refine er_aload_n d_Mo_step_31 rfl ?_
  refine er_getf d_Mo_step_32 f_Mo_step_41 hO rfl ?_
  refine er_iload_n d_Mo_step_35 rfl ?_
  refine er_ialdQ (v := (x)) d_Mo_step_36 h33 (by omega) (by omega) (hx) ?_
  refine er_istore d_Mo_step_37 (by decide) ?_
  show jl_E l G m_Mo_step (0, 0) 39 [some (.ref 22), some (.int (nI t)), some (.int (nI (((24) * (m)) + (p)))), some (.int (nI 18)), some (.int (x))] [] (σ) P
  refine er_aload_n d_Mo_step_39 rfl ?_
  refine er_dup d_Mo_step_40 rfl ?_
  refine er_getf d_Mo_step_41 f_Mo_step_270 hO rfl ?_
  refine er_iconst ((nI (1))) d_Mo_step_44 (by decide) ?_
  refine er_iaddN d_Mo_step_45 ?_
  refine er_putf d_Mo_step_46 p_Mo_step_270 hO (Nat.le_of_ble_eq_true rfl) jl_fit_int ?_
  show jl_E l G m_Mo_step (0, 0) 49 [some (.ref 22), some (.int (nI t)), some (.int (nI (((24) * (m)) + (p)))), some (.int (nI 18)), some (.int (x))] [] (σ.set (22) (.inr (7, [.int (fa), .ref 23, .ref 24, .ref 25, .ref 26, .ref 27, .ref 28, .ref 29, .ref 30, .ref 31, .ref 32, .ref 33, .ref 34, .ref 35, .ref 36, .ref 37, .int (vf), .int (wh), .int (wy), .ref 38, .ref 39, .ref 40, .ref 41, .int (hg), .ref 42, .ref 43, .ref 44, .ref 45, .ref 46, .ref 47, .ref 48, .ref 49, .int (nI (t + 1)), .ref 50, .ref 51, .ref 52, .int (nI (H.n)), .int (ov), .int (oh), .int (nI ((d) + (1))), .int (an)]))) P
  refine er_iload_n d_Mo_step_49 rfl ?_
  refine er_tableIn (off := 157) 207 d_Mo_step_50 (by decide +kernel) (by decide +kernel) (by decide +kernel) (by decide) ?_
  refine er_aload_n d_Mo_step_207 rfl ?_
  refine er_callVE (As := []) d_Mo_step_208 k_Mo_step_294 (jl_ss hO) rfl rfl rfl (Nat.le_of_ble_eq_true rfl) (by decide) (by decide) (jl_mE.mono (hC _ (hn.done (dn2 := nI (d + 1)))) (fun r σ z => ⟨none, z.1, ?_⟩))
  show jl_E l G m_Mo_step (0, 0) 211 [some (.ref 22), some (.int (nI t)), some (.int (nI (((24) * (m)) + (p)))), some (.int (nI 18)), some (.int (x))] [] (σ) P
  refine er_goto 229 d_Mo_step_211 (by decide) ?_
  exact er_vret d_Mo_step_229 rfl (z.2) (by decide) (by decide)
theorem mo_sw_19 (hl : l.stackTraces = false) {P : jl_O → jl_S → Prop}  (hn : NB σ0 σ (N) t m (p) (h) (R) (V) (fs) (H) fa vf wh wy hg ov oh (nI d) an) (hu : MoM σ u1 u2 ur ul uo ua uc us ut uk) (ht : t < 12) (hm24 : m < 24) (hp24 : p < 24) (ho : uo (24 * m + p) = 19) (hx : ua (24 * m + p) = x) (hC : ∀ σ1, NB σ0 σ1 (N) t m (p) (h) (R) (V) (fs) (H) fa vf wh wy hg ov oh (nI (d + 1)) an → jl_mE l G m_Mo_create [.ref 22, .int (nI 19), .int x] σ1 (fun r σ' => r = .inl none ∧ P (.inl none) σ')) : jl_mE l G m_Mo_step [.ref 22] σ P := by
  obtain ⟨fx, fp, fh, lw, lk, vl, vk, ks, kc, kv, lo, sk, hO, f1, f2, f3, f4, f5, f6, f7, hH, hB, hy1, hR1, hF⟩ := id hn
  obtain ⟨k1, k2, k3⟩ := id hH
  obtain ⟨⟨r1, r2⟩, hlo, hsk⟩ := id hR1
  obtain ⟨⟨hfx, hfp, hlc, hst⟩, hfh, hfs, hln⟩ := id hy1
  have hfx : fx t = m := hfx
  have hfp : fp t = p := hfp
  have hlc : ∀ k, k < 6 → lk (6 * t + k) = kdI (R k) ∧ (R k ≠ none → lw (6 * t + k) = V k) := hlc
  have hst : ∀ j, j < _ → vk (5 * t + j) = kdI (R (7 + j)) ∧ vl (5 * t + j) = V (7 + j) := hst
  obtain ⟨h28, h29, h30, h31, h32, h33, h34, h35, h36, h37⟩ := id hu
  refine jl_ofE (as := [.ref 22]) rfl (by decide) hl (jl_cc rfl jl_ca) (Nat.le_of_ble_eq_true rfl) ?_
  show jl_E l G m_Mo_step (0, 0) 0 [some (.ref 22), none, none, none, none] [] (σ) P
  refine er_aload_n d_Mo_step_0 rfl ?_
  refine er_getf d_Mo_step_1 f_Mo_step_224 hO rfl ?_
  refine er_iconst ((nI (1))) d_Mo_step_4 (by decide) ?_
  refine er_isubN d_Mo_step_5 (by omega) ?_
  rw [show (t + 1) - (1) = t by omega]
  show jl_E l G m_Mo_step (0, 0) 6 [some (.ref 22), none, none, none, none] [.int (nI t)] (σ) P
  refine er_istore_n d_Mo_step_6 (by decide) ?_
  show jl_E l G m_Mo_step (0, 0) 7 [some (.ref 22), some (.int (nI t)), none, none, none] [] (σ) P
  refine er_bipush ((nI (24))) d_Mo_step_7 (by decide) ?_
  refine er_aload_n d_Mo_step_9 rfl ?_
  refine er_getf d_Mo_step_10 f_Mo_step_78 hO rfl ?_
  refine er_iload_n d_Mo_step_13 rfl ?_
  refine er_ialdQ (v := (nI (m))) d_Mo_step_14 f1 (by omega) (by omega) (congrArg nI hfx) ?_
  refine er_imulN d_Mo_step_15 ?_
  refine er_aload_n d_Mo_step_16 rfl ?_
  refine er_getf d_Mo_step_17 f_Mo_step_81 hO rfl ?_
  refine er_iload_n d_Mo_step_20 rfl ?_
  refine er_ialdQ (v := (nI (p))) d_Mo_step_21 f2 (by omega) (by omega) (congrArg nI hfp) ?_
  refine er_iaddN d_Mo_step_22 ?_
  refine er_istore_n d_Mo_step_23 (by decide) ?_
  show jl_E l G m_Mo_step (0, 0) 24 [some (.ref 22), some (.int (nI t)), some (.int (nI (((24) * (m)) + (p)))), none, none] [] (σ) P
  refine er_aload_n d_Mo_step_24 rfl ?_
  refine er_getf d_Mo_step_25 f_Mo_step_38 hO rfl ?_
  refine er_iload_n d_Mo_step_28 rfl ?_
  refine er_ialdQ (v := (nI (19))) d_Mo_step_29 h32 (by omega) (by omega) (congrArg nI ho) ?_
  refine er_istore_n d_Mo_step_30 (by decide) ?_
  show jl_E l G m_Mo_step (0, 0) 31 [some (.ref 22), some (.int (nI t)), some (.int (nI (((24) * (m)) + (p)))), some (.int (nI 19)), none] [] (σ) P
  refine er_aload_n d_Mo_step_31 rfl ?_
  refine er_getf d_Mo_step_32 f_Mo_step_41 hO rfl ?_
  refine er_iload_n d_Mo_step_35 rfl ?_
  refine er_ialdQ (v := (x)) d_Mo_step_36 h33 (by omega) (by omega) (hx) ?_
  refine er_istore d_Mo_step_37 (by decide) ?_
  show jl_E l G m_Mo_step (0, 0) 39 [some (.ref 22), some (.int (nI t)), some (.int (nI (((24) * (m)) + (p)))), some (.int (nI 19)), some (.int (x))] [] (σ) P
  refine er_aload_n d_Mo_step_39 rfl ?_
  refine er_dup d_Mo_step_40 rfl ?_
  refine er_getf d_Mo_step_41 f_Mo_step_270 hO rfl ?_
  refine er_iconst ((nI (1))) d_Mo_step_44 (by decide) ?_
  refine er_iaddN d_Mo_step_45 ?_
  refine er_putf d_Mo_step_46 p_Mo_step_270 hO (Nat.le_of_ble_eq_true rfl) jl_fit_int ?_
  show jl_E l G m_Mo_step (0, 0) 49 [some (.ref 22), some (.int (nI t)), some (.int (nI (((24) * (m)) + (p)))), some (.int (nI 19)), some (.int (x))] [] (σ.set (22) (.inr (7, [.int (fa), .ref 23, .ref 24, .ref 25, .ref 26, .ref 27, .ref 28, .ref 29, .ref 30, .ref 31, .ref 32, .ref 33, .ref 34, .ref 35, .ref 36, .ref 37, .int (vf), .int (wh), .int (wy), .ref 38, .ref 39, .ref 40, .ref 41, .int (hg), .ref 42, .ref 43, .ref 44, .ref 45, .ref 46, .ref 47, .ref 48, .ref 49, .int (nI (t + 1)), .ref 50, .ref 51, .ref 52, .int (nI (H.n)), .int (ov), .int (oh), .int (nI ((d) + (1))), .int (an)]))) P
  refine er_iload_n d_Mo_step_49 rfl ?_
  refine er_tableIn (off := 112) 162 d_Mo_step_50 (by decide +kernel) (by decide +kernel) (by decide +kernel) (by decide) ?_
  refine er_aload_n d_Mo_step_162 rfl ?_
  refine er_iload_n d_Mo_step_163 rfl ?_
  refine er_iload d_Mo_step_164 rfl ?_
  refine er_callVE (As := [.int (nI 19), .int (x)]) d_Mo_step_166 k_Mo_step_279 (jl_ss hO) rfl rfl rfl (Nat.le_of_ble_eq_true rfl) (by decide) (by decide) (jl_mE.mono (hC _ (hn.done (dn2 := nI (d + 1)))) (fun r σ z => ⟨none, z.1, ?_⟩))
  show jl_E l G m_Mo_step (0, 0) 169 [some (.ref 22), some (.int (nI t)), some (.int (nI (((24) * (m)) + (p)))), some (.int (nI 19)), some (.int (x))] [] (σ) P
  refine er_goto 229 d_Mo_step_169 (by decide) ?_
  exact er_vret d_Mo_step_229 rfl (z.2) (by decide) (by decide)
theorem d_Mo_step_214 : decode m_Mo_step.2.1 214 = .ok (.aload_n 0, 1) := by decide +kernel
theorem d_Mo_step_215 : decode m_Mo_step.2.1 215 = .ok (.iload_n 3, 1) := by decide +kernel
theorem k_Mo_step_297 : jl_cv m_Mo_step m_Mo_rowOf 297 1 = true := by decide +kernel
theorem d_Mo_step_216 : decode m_Mo_step.2.1 216 = .ok (.invokevirtual 297, 3) := by decide +kernel
theorem d_Mo_step_219 : decode m_Mo_step.2.1 219 = .ok (.goto 10, 3) := by decide +kernel
theorem mo_sw_20 (hl : l.stackTraces = false) {P : jl_O → jl_S → Prop}  (hn : NB σ0 σ (N) t m (p) (h) (R) (V) (fs) (H) fa vf wh wy hg ov oh (nI d) an) (hu : MoM σ u1 u2 ur ul uo ua uc us ut uk) (ht : t < 12) (hm24 : m < 24) (hp24 : p < 24) (ho : uo (24 * m + p) = 20) (hx : ua (24 * m + p) = x) (hC : ∀ σ1, NB σ0 σ1 (N) t m (p) (h) (R) (V) (fs) (H) fa vf wh wy hg ov oh (nI (d + 1)) an → jl_mE l G m_Mo_rowOf [.ref 22, .int (nI 20)] σ1 (fun r σ' => r = .inl none ∧ P (.inl none) σ')) : jl_mE l G m_Mo_step [.ref 22] σ P := by
  obtain ⟨fx, fp, fh, lw, lk, vl, vk, ks, kc, kv, lo, sk, hO, f1, f2, f3, f4, f5, f6, f7, hH, hB, hy1, hR1, hF⟩ := id hn
  obtain ⟨k1, k2, k3⟩ := id hH
  obtain ⟨⟨r1, r2⟩, hlo, hsk⟩ := id hR1
  obtain ⟨⟨hfx, hfp, hlc, hst⟩, hfh, hfs, hln⟩ := id hy1
  have hfx : fx t = m := hfx
  have hfp : fp t = p := hfp
  have hlc : ∀ k, k < 6 → lk (6 * t + k) = kdI (R k) ∧ (R k ≠ none → lw (6 * t + k) = V k) := hlc
  have hst : ∀ j, j < _ → vk (5 * t + j) = kdI (R (7 + j)) ∧ vl (5 * t + j) = V (7 + j) := hst
  obtain ⟨h28, h29, h30, h31, h32, h33, h34, h35, h36, h37⟩ := id hu
  refine jl_ofE (as := [.ref 22]) rfl (by decide) hl (jl_cc rfl jl_ca) (Nat.le_of_ble_eq_true rfl) ?_
  show jl_E l G m_Mo_step (0, 0) 0 [some (.ref 22), none, none, none, none] [] (σ) P
  refine er_aload_n d_Mo_step_0 rfl ?_
  refine er_getf d_Mo_step_1 f_Mo_step_224 hO rfl ?_
  refine er_iconst ((nI (1))) d_Mo_step_4 (by decide) ?_
  refine er_isubN d_Mo_step_5 (by omega) ?_
  rw [show (t + 1) - (1) = t by omega]
  show jl_E l G m_Mo_step (0, 0) 6 [some (.ref 22), none, none, none, none] [.int (nI t)] (σ) P
  refine er_istore_n d_Mo_step_6 (by decide) ?_
  show jl_E l G m_Mo_step (0, 0) 7 [some (.ref 22), some (.int (nI t)), none, none, none] [] (σ) P
  refine er_bipush ((nI (24))) d_Mo_step_7 (by decide) ?_
  refine er_aload_n d_Mo_step_9 rfl ?_
  refine er_getf d_Mo_step_10 f_Mo_step_78 hO rfl ?_
  refine er_iload_n d_Mo_step_13 rfl ?_
  refine er_ialdQ (v := (nI (m))) d_Mo_step_14 f1 (by omega) (by omega) (congrArg nI hfx) ?_
  refine er_imulN d_Mo_step_15 ?_
  refine er_aload_n d_Mo_step_16 rfl ?_
  refine er_getf d_Mo_step_17 f_Mo_step_81 hO rfl ?_
  refine er_iload_n d_Mo_step_20 rfl ?_
  refine er_ialdQ (v := (nI (p))) d_Mo_step_21 f2 (by omega) (by omega) (congrArg nI hfp) ?_
  refine er_iaddN d_Mo_step_22 ?_
  refine er_istore_n d_Mo_step_23 (by decide) ?_
  show jl_E l G m_Mo_step (0, 0) 24 [some (.ref 22), some (.int (nI t)), some (.int (nI (((24) * (m)) + (p)))), none, none] [] (σ) P
  refine er_aload_n d_Mo_step_24 rfl ?_
  refine er_getf d_Mo_step_25 f_Mo_step_38 hO rfl ?_
  refine er_iload_n d_Mo_step_28 rfl ?_
  refine er_ialdQ (v := (nI (20))) d_Mo_step_29 h32 (by omega) (by omega) (congrArg nI ho) ?_
  refine er_istore_n d_Mo_step_30 (by decide) ?_
  show jl_E l G m_Mo_step (0, 0) 31 [some (.ref 22), some (.int (nI t)), some (.int (nI (((24) * (m)) + (p)))), some (.int (nI 20)), none] [] (σ) P
  refine er_aload_n d_Mo_step_31 rfl ?_
  refine er_getf d_Mo_step_32 f_Mo_step_41 hO rfl ?_
  refine er_iload_n d_Mo_step_35 rfl ?_
  refine er_ialdQ (v := (x)) d_Mo_step_36 h33 (by omega) (by omega) (hx) ?_
  refine er_istore d_Mo_step_37 (by decide) ?_
  show jl_E l G m_Mo_step (0, 0) 39 [some (.ref 22), some (.int (nI t)), some (.int (nI (((24) * (m)) + (p)))), some (.int (nI 20)), some (.int (x))] [] (σ) P
  refine er_aload_n d_Mo_step_39 rfl ?_
  refine er_dup d_Mo_step_40 rfl ?_
  refine er_getf d_Mo_step_41 f_Mo_step_270 hO rfl ?_
  refine er_iconst ((nI (1))) d_Mo_step_44 (by decide) ?_
  refine er_iaddN d_Mo_step_45 ?_
  refine er_putf d_Mo_step_46 p_Mo_step_270 hO (Nat.le_of_ble_eq_true rfl) jl_fit_int ?_
  show jl_E l G m_Mo_step (0, 0) 49 [some (.ref 22), some (.int (nI t)), some (.int (nI (((24) * (m)) + (p)))), some (.int (nI 20)), some (.int (x))] [] (σ.set (22) (.inr (7, [.int (fa), .ref 23, .ref 24, .ref 25, .ref 26, .ref 27, .ref 28, .ref 29, .ref 30, .ref 31, .ref 32, .ref 33, .ref 34, .ref 35, .ref 36, .ref 37, .int (vf), .int (wh), .int (wy), .ref 38, .ref 39, .ref 40, .ref 41, .int (hg), .ref 42, .ref 43, .ref 44, .ref 45, .ref 46, .ref 47, .ref 48, .ref 49, .int (nI (t + 1)), .ref 50, .ref 51, .ref 52, .int (nI (H.n)), .int (ov), .int (oh), .int (nI ((d) + (1))), .int (an)]))) P
  refine er_iload_n d_Mo_step_49 rfl ?_
  refine er_tableIn (off := 164) 214 d_Mo_step_50 (by decide +kernel) (by decide +kernel) (by decide +kernel) (by decide) ?_
  refine er_aload_n d_Mo_step_214 rfl ?_
  refine er_iload_n d_Mo_step_215 rfl ?_
  refine er_callVE (As := [.int (nI 20)]) d_Mo_step_216 k_Mo_step_297 (jl_ss hO) rfl rfl rfl (Nat.le_of_ble_eq_true rfl) (by decide) (by decide) (jl_mE.mono (hC _ (hn.done (dn2 := nI (d + 1)))) (fun r σ z => ⟨none, z.1, ?_⟩))
  show jl_E l G m_Mo_step (0, 0) 219 [some (.ref 22), some (.int (nI t)), some (.int (nI (((24) * (m)) + (p)))), some (.int (nI 20)), some (.int (x))] [] (σ) P
  refine er_goto 229 d_Mo_step_219 (by decide) ?_
  exact er_vret d_Mo_step_229 rfl (z.2) (by decide) (by decide)
theorem mo_sw_21 (hl : l.stackTraces = false) {P : jl_O → jl_S → Prop}  (hn : NB σ0 σ (N) t m (p) (h) (R) (V) (fs) (H) fa vf wh wy hg ov oh (nI d) an) (hu : MoM σ u1 u2 ur ul uo ua uc us ut uk) (ht : t < 12) (hm24 : m < 24) (hp24 : p < 24) (ho : uo (24 * m + p) = 21) (hx : ua (24 * m + p) = x) (hC : ∀ σ1, NB σ0 σ1 (N) t m (p) (h) (R) (V) (fs) (H) fa vf wh wy hg ov oh (nI (d + 1)) an → jl_mE l G m_Mo_rowOf [.ref 22, .int (nI 21)] σ1 (fun r σ' => r = .inl none ∧ P (.inl none) σ')) : jl_mE l G m_Mo_step [.ref 22] σ P := by
  obtain ⟨fx, fp, fh, lw, lk, vl, vk, ks, kc, kv, lo, sk, hO, f1, f2, f3, f4, f5, f6, f7, hH, hB, hy1, hR1, hF⟩ := id hn
  obtain ⟨k1, k2, k3⟩ := id hH
  obtain ⟨⟨r1, r2⟩, hlo, hsk⟩ := id hR1
  obtain ⟨⟨hfx, hfp, hlc, hst⟩, hfh, hfs, hln⟩ := id hy1
  have hfx : fx t = m := hfx
  have hfp : fp t = p := hfp
  have hlc : ∀ k, k < 6 → lk (6 * t + k) = kdI (R k) ∧ (R k ≠ none → lw (6 * t + k) = V k) := hlc
  have hst : ∀ j, j < _ → vk (5 * t + j) = kdI (R (7 + j)) ∧ vl (5 * t + j) = V (7 + j) := hst
  obtain ⟨h28, h29, h30, h31, h32, h33, h34, h35, h36, h37⟩ := id hu
  refine jl_ofE (as := [.ref 22]) rfl (by decide) hl (jl_cc rfl jl_ca) (Nat.le_of_ble_eq_true rfl) ?_
  show jl_E l G m_Mo_step (0, 0) 0 [some (.ref 22), none, none, none, none] [] (σ) P
  refine er_aload_n d_Mo_step_0 rfl ?_
  refine er_getf d_Mo_step_1 f_Mo_step_224 hO rfl ?_
  refine er_iconst ((nI (1))) d_Mo_step_4 (by decide) ?_
  refine er_isubN d_Mo_step_5 (by omega) ?_
  rw [show (t + 1) - (1) = t by omega]
  show jl_E l G m_Mo_step (0, 0) 6 [some (.ref 22), none, none, none, none] [.int (nI t)] (σ) P
  refine er_istore_n d_Mo_step_6 (by decide) ?_
  show jl_E l G m_Mo_step (0, 0) 7 [some (.ref 22), some (.int (nI t)), none, none, none] [] (σ) P
  refine er_bipush ((nI (24))) d_Mo_step_7 (by decide) ?_
  refine er_aload_n d_Mo_step_9 rfl ?_
  refine er_getf d_Mo_step_10 f_Mo_step_78 hO rfl ?_
  refine er_iload_n d_Mo_step_13 rfl ?_
  refine er_ialdQ (v := (nI (m))) d_Mo_step_14 f1 (by omega) (by omega) (congrArg nI hfx) ?_
  refine er_imulN d_Mo_step_15 ?_
  refine er_aload_n d_Mo_step_16 rfl ?_
  refine er_getf d_Mo_step_17 f_Mo_step_81 hO rfl ?_
  refine er_iload_n d_Mo_step_20 rfl ?_
  refine er_ialdQ (v := (nI (p))) d_Mo_step_21 f2 (by omega) (by omega) (congrArg nI hfp) ?_
  refine er_iaddN d_Mo_step_22 ?_
  refine er_istore_n d_Mo_step_23 (by decide) ?_
  show jl_E l G m_Mo_step (0, 0) 24 [some (.ref 22), some (.int (nI t)), some (.int (nI (((24) * (m)) + (p)))), none, none] [] (σ) P
  refine er_aload_n d_Mo_step_24 rfl ?_
  refine er_getf d_Mo_step_25 f_Mo_step_38 hO rfl ?_
  refine er_iload_n d_Mo_step_28 rfl ?_
  refine er_ialdQ (v := (nI (21))) d_Mo_step_29 h32 (by omega) (by omega) (congrArg nI ho) ?_
  refine er_istore_n d_Mo_step_30 (by decide) ?_
  show jl_E l G m_Mo_step (0, 0) 31 [some (.ref 22), some (.int (nI t)), some (.int (nI (((24) * (m)) + (p)))), some (.int (nI 21)), none] [] (σ) P
  refine er_aload_n d_Mo_step_31 rfl ?_
  refine er_getf d_Mo_step_32 f_Mo_step_41 hO rfl ?_
  refine er_iload_n d_Mo_step_35 rfl ?_
  refine er_ialdQ (v := (x)) d_Mo_step_36 h33 (by omega) (by omega) (hx) ?_
  refine er_istore d_Mo_step_37 (by decide) ?_
  show jl_E l G m_Mo_step (0, 0) 39 [some (.ref 22), some (.int (nI t)), some (.int (nI (((24) * (m)) + (p)))), some (.int (nI 21)), some (.int (x))] [] (σ) P
  refine er_aload_n d_Mo_step_39 rfl ?_
  refine er_dup d_Mo_step_40 rfl ?_
  refine er_getf d_Mo_step_41 f_Mo_step_270 hO rfl ?_
  refine er_iconst ((nI (1))) d_Mo_step_44 (by decide) ?_
  refine er_iaddN d_Mo_step_45 ?_
  refine er_putf d_Mo_step_46 p_Mo_step_270 hO (Nat.le_of_ble_eq_true rfl) jl_fit_int ?_
  show jl_E l G m_Mo_step (0, 0) 49 [some (.ref 22), some (.int (nI t)), some (.int (nI (((24) * (m)) + (p)))), some (.int (nI 21)), some (.int (x))] [] (σ.set (22) (.inr (7, [.int (fa), .ref 23, .ref 24, .ref 25, .ref 26, .ref 27, .ref 28, .ref 29, .ref 30, .ref 31, .ref 32, .ref 33, .ref 34, .ref 35, .ref 36, .ref 37, .int (vf), .int (wh), .int (wy), .ref 38, .ref 39, .ref 40, .ref 41, .int (hg), .ref 42, .ref 43, .ref 44, .ref 45, .ref 46, .ref 47, .ref 48, .ref 49, .int (nI (t + 1)), .ref 50, .ref 51, .ref 52, .int (nI (H.n)), .int (ov), .int (oh), .int (nI ((d) + (1))), .int (an)]))) P
  refine er_iload_n d_Mo_step_49 rfl ?_
  refine er_tableIn (off := 164) 214 d_Mo_step_50 (by decide +kernel) (by decide +kernel) (by decide +kernel) (by decide) ?_
  refine er_aload_n d_Mo_step_214 rfl ?_
  refine er_iload_n d_Mo_step_215 rfl ?_
  refine er_callVE (As := [.int (nI 21)]) d_Mo_step_216 k_Mo_step_297 (jl_ss hO) rfl rfl rfl (Nat.le_of_ble_eq_true rfl) (by decide) (by decide) (jl_mE.mono (hC _ (hn.done (dn2 := nI (d + 1)))) (fun r σ z => ⟨none, z.1, ?_⟩))
  show jl_E l G m_Mo_step (0, 0) 219 [some (.ref 22), some (.int (nI t)), some (.int (nI (((24) * (m)) + (p)))), some (.int (nI 21)), some (.int (x))] [] (σ) P
  refine er_goto 229 d_Mo_step_219 (by decide) ?_
  exact er_vret d_Mo_step_229 rfl (z.2) (by decide) (by decide)
theorem mo_sw_22 (hl : l.stackTraces = false) {P : jl_O → jl_S → Prop}  (hn : NB σ0 σ (N) t m (p) (h) (R) (V) (fs) (H) fa vf wh wy hg ov oh (nI d) an) (hu : MoM σ u1 u2 ur ul uo ua uc us ut uk) (ht : t < 12) (hm24 : m < 24) (hp24 : p < 24) (ho : uo (24 * m + p) = 22) (hx : ua (24 * m + p) = x) (hC : ∀ σ1, NB σ0 σ1 (N) t m (p) (h) (R) (V) (fs) (H) fa vf wh wy hg ov oh (nI (d + 1)) an → jl_mE l G m_Mo_rowOf [.ref 22, .int (nI 22)] σ1 (fun r σ' => r = .inl none ∧ P (.inl none) σ')) : jl_mE l G m_Mo_step [.ref 22] σ P := by
  obtain ⟨fx, fp, fh, lw, lk, vl, vk, ks, kc, kv, lo, sk, hO, f1, f2, f3, f4, f5, f6, f7, hH, hB, hy1, hR1, hF⟩ := id hn
  obtain ⟨k1, k2, k3⟩ := id hH
  obtain ⟨⟨r1, r2⟩, hlo, hsk⟩ := id hR1
  obtain ⟨⟨hfx, hfp, hlc, hst⟩, hfh, hfs, hln⟩ := id hy1
  have hfx : fx t = m := hfx
  have hfp : fp t = p := hfp
  have hlc : ∀ k, k < 6 → lk (6 * t + k) = kdI (R k) ∧ (R k ≠ none → lw (6 * t + k) = V k) := hlc
  have hst : ∀ j, j < _ → vk (5 * t + j) = kdI (R (7 + j)) ∧ vl (5 * t + j) = V (7 + j) := hst
  obtain ⟨h28, h29, h30, h31, h32, h33, h34, h35, h36, h37⟩ := id hu
  refine jl_ofE (as := [.ref 22]) rfl (by decide) hl (jl_cc rfl jl_ca) (Nat.le_of_ble_eq_true rfl) ?_
  show jl_E l G m_Mo_step (0, 0) 0 [some (.ref 22), none, none, none, none] [] (σ) P
  refine er_aload_n d_Mo_step_0 rfl ?_
  refine er_getf d_Mo_step_1 f_Mo_step_224 hO rfl ?_
  refine er_iconst ((nI (1))) d_Mo_step_4 (by decide) ?_
  refine er_isubN d_Mo_step_5 (by omega) ?_
  rw [show (t + 1) - (1) = t by omega]
  show jl_E l G m_Mo_step (0, 0) 6 [some (.ref 22), none, none, none, none] [.int (nI t)] (σ) P
  refine er_istore_n d_Mo_step_6 (by decide) ?_
  show jl_E l G m_Mo_step (0, 0) 7 [some (.ref 22), some (.int (nI t)), none, none, none] [] (σ) P
  refine er_bipush ((nI (24))) d_Mo_step_7 (by decide) ?_
  refine er_aload_n d_Mo_step_9 rfl ?_
  refine er_getf d_Mo_step_10 f_Mo_step_78 hO rfl ?_
  refine er_iload_n d_Mo_step_13 rfl ?_
  refine er_ialdQ (v := (nI (m))) d_Mo_step_14 f1 (by omega) (by omega) (congrArg nI hfx) ?_
  refine er_imulN d_Mo_step_15 ?_
  refine er_aload_n d_Mo_step_16 rfl ?_
  refine er_getf d_Mo_step_17 f_Mo_step_81 hO rfl ?_
  refine er_iload_n d_Mo_step_20 rfl ?_
  refine er_ialdQ (v := (nI (p))) d_Mo_step_21 f2 (by omega) (by omega) (congrArg nI hfp) ?_
  refine er_iaddN d_Mo_step_22 ?_
  refine er_istore_n d_Mo_step_23 (by decide) ?_
  show jl_E l G m_Mo_step (0, 0) 24 [some (.ref 22), some (.int (nI t)), some (.int (nI (((24) * (m)) + (p)))), none, none] [] (σ) P
  refine er_aload_n d_Mo_step_24 rfl ?_
  refine er_getf d_Mo_step_25 f_Mo_step_38 hO rfl ?_
  refine er_iload_n d_Mo_step_28 rfl ?_
  refine er_ialdQ (v := (nI (22))) d_Mo_step_29 h32 (by omega) (by omega) (congrArg nI ho) ?_
  refine er_istore_n d_Mo_step_30 (by decide) ?_
  show jl_E l G m_Mo_step (0, 0) 31 [some (.ref 22), some (.int (nI t)), some (.int (nI (((24) * (m)) + (p)))), some (.int (nI 22)), none] [] (σ) P
  refine er_aload_n d_Mo_step_31 rfl ?_
  refine er_getf d_Mo_step_32 f_Mo_step_41 hO rfl ?_
  refine er_iload_n d_Mo_step_35 rfl ?_
  refine er_ialdQ (v := (x)) d_Mo_step_36 h33 (by omega) (by omega) (hx) ?_
  refine er_istore d_Mo_step_37 (by decide) ?_
  show jl_E l G m_Mo_step (0, 0) 39 [some (.ref 22), some (.int (nI t)), some (.int (nI (((24) * (m)) + (p)))), some (.int (nI 22)), some (.int (x))] [] (σ) P
  refine er_aload_n d_Mo_step_39 rfl ?_
  refine er_dup d_Mo_step_40 rfl ?_
  refine er_getf d_Mo_step_41 f_Mo_step_270 hO rfl ?_
  refine er_iconst ((nI (1))) d_Mo_step_44 (by decide) ?_
  refine er_iaddN d_Mo_step_45 ?_
  refine er_putf d_Mo_step_46 p_Mo_step_270 hO (Nat.le_of_ble_eq_true rfl) jl_fit_int ?_
  show jl_E l G m_Mo_step (0, 0) 49 [some (.ref 22), some (.int (nI t)), some (.int (nI (((24) * (m)) + (p)))), some (.int (nI 22)), some (.int (x))] [] (σ.set (22) (.inr (7, [.int (fa), .ref 23, .ref 24, .ref 25, .ref 26, .ref 27, .ref 28, .ref 29, .ref 30, .ref 31, .ref 32, .ref 33, .ref 34, .ref 35, .ref 36, .ref 37, .int (vf), .int (wh), .int (wy), .ref 38, .ref 39, .ref 40, .ref 41, .int (hg), .ref 42, .ref 43, .ref 44, .ref 45, .ref 46, .ref 47, .ref 48, .ref 49, .int (nI (t + 1)), .ref 50, .ref 51, .ref 52, .int (nI (H.n)), .int (ov), .int (oh), .int (nI ((d) + (1))), .int (an)]))) P
  refine er_iload_n d_Mo_step_49 rfl ?_
  refine er_tableIn (off := 164) 214 d_Mo_step_50 (by decide +kernel) (by decide +kernel) (by decide +kernel) (by decide) ?_
  refine er_aload_n d_Mo_step_214 rfl ?_
  refine er_iload_n d_Mo_step_215 rfl ?_
  refine er_callVE (As := [.int (nI 22)]) d_Mo_step_216 k_Mo_step_297 (jl_ss hO) rfl rfl rfl (Nat.le_of_ble_eq_true rfl) (by decide) (by decide) (jl_mE.mono (hC _ (hn.done (dn2 := nI (d + 1)))) (fun r σ z => ⟨none, z.1, ?_⟩))
  show jl_E l G m_Mo_step (0, 0) 219 [some (.ref 22), some (.int (nI t)), some (.int (nI (((24) * (m)) + (p)))), some (.int (nI 22)), some (.int (x))] [] (σ) P
  refine er_goto 229 d_Mo_step_219 (by decide) ?_
  exact er_vret d_Mo_step_229 rfl (z.2) (by decide) (by decide)
theorem mo_sw_23 (hl : l.stackTraces = false) {P : jl_O → jl_S → Prop}  (hn : NB σ0 σ (N) t m (p) (h) (R) (V) (fs) (H) fa vf wh wy hg ov oh (nI d) an) (hu : MoM σ u1 u2 ur ul uo ua uc us ut uk) (ht : t < 12) (hm24 : m < 24) (hp24 : p < 24) (ho : uo (24 * m + p) = 23) (hx : ua (24 * m + p) = x) (hC : ∀ σ1, NB σ0 σ1 (N) t m (p) (h) (R) (V) (fs) (H) fa vf wh wy hg ov oh (nI (d + 1)) an → jl_mE l G m_Mo_simple [.ref 22, .int (nI 23), .int x] σ1 (fun r σ' => r = .inl none ∧ P (.inl none) σ')) : jl_mE l G m_Mo_step [.ref 22] σ P := by
  obtain ⟨fx, fp, fh, lw, lk, vl, vk, ks, kc, kv, lo, sk, hO, f1, f2, f3, f4, f5, f6, f7, hH, hB, hy1, hR1, hF⟩ := id hn
  obtain ⟨k1, k2, k3⟩ := id hH
  obtain ⟨⟨r1, r2⟩, hlo, hsk⟩ := id hR1
  obtain ⟨⟨hfx, hfp, hlc, hst⟩, hfh, hfs, hln⟩ := id hy1
  have hfx : fx t = m := hfx
  have hfp : fp t = p := hfp
  have hlc : ∀ k, k < 6 → lk (6 * t + k) = kdI (R k) ∧ (R k ≠ none → lw (6 * t + k) = V k) := hlc
  have hst : ∀ j, j < _ → vk (5 * t + j) = kdI (R (7 + j)) ∧ vl (5 * t + j) = V (7 + j) := hst
  obtain ⟨h28, h29, h30, h31, h32, h33, h34, h35, h36, h37⟩ := id hu
  refine jl_ofE (as := [.ref 22]) rfl (by decide) hl (jl_cc rfl jl_ca) (Nat.le_of_ble_eq_true rfl) ?_
  show jl_E l G m_Mo_step (0, 0) 0 [some (.ref 22), none, none, none, none] [] (σ) P
  refine er_aload_n d_Mo_step_0 rfl ?_
  refine er_getf d_Mo_step_1 f_Mo_step_224 hO rfl ?_
  refine er_iconst ((nI (1))) d_Mo_step_4 (by decide) ?_
  refine er_isubN d_Mo_step_5 (by omega) ?_
  rw [show (t + 1) - (1) = t by omega]
  show jl_E l G m_Mo_step (0, 0) 6 [some (.ref 22), none, none, none, none] [.int (nI t)] (σ) P
  refine er_istore_n d_Mo_step_6 (by decide) ?_
  show jl_E l G m_Mo_step (0, 0) 7 [some (.ref 22), some (.int (nI t)), none, none, none] [] (σ) P
  refine er_bipush ((nI (24))) d_Mo_step_7 (by decide) ?_
  refine er_aload_n d_Mo_step_9 rfl ?_
  refine er_getf d_Mo_step_10 f_Mo_step_78 hO rfl ?_
  refine er_iload_n d_Mo_step_13 rfl ?_
  refine er_ialdQ (v := (nI (m))) d_Mo_step_14 f1 (by omega) (by omega) (congrArg nI hfx) ?_
  refine er_imulN d_Mo_step_15 ?_
  refine er_aload_n d_Mo_step_16 rfl ?_
  refine er_getf d_Mo_step_17 f_Mo_step_81 hO rfl ?_
  refine er_iload_n d_Mo_step_20 rfl ?_
  refine er_ialdQ (v := (nI (p))) d_Mo_step_21 f2 (by omega) (by omega) (congrArg nI hfp) ?_
  refine er_iaddN d_Mo_step_22 ?_
  refine er_istore_n d_Mo_step_23 (by decide) ?_
  show jl_E l G m_Mo_step (0, 0) 24 [some (.ref 22), some (.int (nI t)), some (.int (nI (((24) * (m)) + (p)))), none, none] [] (σ) P
  refine er_aload_n d_Mo_step_24 rfl ?_
  refine er_getf d_Mo_step_25 f_Mo_step_38 hO rfl ?_
  refine er_iload_n d_Mo_step_28 rfl ?_
  refine er_ialdQ (v := (nI (23))) d_Mo_step_29 h32 (by omega) (by omega) (congrArg nI ho) ?_
  refine er_istore_n d_Mo_step_30 (by decide) ?_
  show jl_E l G m_Mo_step (0, 0) 31 [some (.ref 22), some (.int (nI t)), some (.int (nI (((24) * (m)) + (p)))), some (.int (nI 23)), none] [] (σ) P
  refine er_aload_n d_Mo_step_31 rfl ?_
  refine er_getf d_Mo_step_32 f_Mo_step_41 hO rfl ?_
  refine er_iload_n d_Mo_step_35 rfl ?_
  refine er_ialdQ (v := (x)) d_Mo_step_36 h33 (by omega) (by omega) (hx) ?_
  refine er_istore d_Mo_step_37 (by decide) ?_
  show jl_E l G m_Mo_step (0, 0) 39 [some (.ref 22), some (.int (nI t)), some (.int (nI (((24) * (m)) + (p)))), some (.int (nI 23)), some (.int (x))] [] (σ) P
  refine er_aload_n d_Mo_step_39 rfl ?_
  refine er_dup d_Mo_step_40 rfl ?_
  refine er_getf d_Mo_step_41 f_Mo_step_270 hO rfl ?_
  refine er_iconst ((nI (1))) d_Mo_step_44 (by decide) ?_
  refine er_iaddN d_Mo_step_45 ?_
  refine er_putf d_Mo_step_46 p_Mo_step_270 hO (Nat.le_of_ble_eq_true rfl) jl_fit_int ?_
  show jl_E l G m_Mo_step (0, 0) 49 [some (.ref 22), some (.int (nI t)), some (.int (nI (((24) * (m)) + (p)))), some (.int (nI 23)), some (.int (x))] [] (σ.set (22) (.inr (7, [.int (fa), .ref 23, .ref 24, .ref 25, .ref 26, .ref 27, .ref 28, .ref 29, .ref 30, .ref 31, .ref 32, .ref 33, .ref 34, .ref 35, .ref 36, .ref 37, .int (vf), .int (wh), .int (wy), .ref 38, .ref 39, .ref 40, .ref 41, .int (hg), .ref 42, .ref 43, .ref 44, .ref 45, .ref 46, .ref 47, .ref 48, .ref 49, .int (nI (t + 1)), .ref 50, .ref 51, .ref 52, .int (nI (H.n)), .int (ov), .int (oh), .int (nI ((d) + (1))), .int (an)]))) P
  refine er_iload_n d_Mo_step_49 rfl ?_
  refine er_tableOut 222 d_Mo_step_50 (by decide +kernel) (by decide) ?_
  refine er_aload_n d_Mo_step_222 rfl ?_
  refine er_iload_n d_Mo_step_223 rfl ?_
  refine er_iload d_Mo_step_224 rfl ?_
  refine er_callVE (As := [.int (nI 23), .int (x)]) d_Mo_step_226 k_Mo_step_300 (jl_ss hO) rfl rfl rfl (Nat.le_of_ble_eq_true rfl) (by decide) (by decide) (jl_mE.mono (hC _ (hn.done (dn2 := nI (d + 1)))) (fun r σ z => ⟨none, z.1, ?_⟩))
  show jl_E l G m_Mo_step (0, 0) 229 [some (.ref 22), some (.int (nI t)), some (.int (nI (((24) * (m)) + (p)))), some (.int (nI 23)), some (.int (x))] [] (σ) P
  exact er_vret d_Mo_step_229 rfl (z.2) (by decide) (by decide)
theorem mo_sw_24 (hl : l.stackTraces = false) {P : jl_O → jl_S → Prop}  (hn : NB σ0 σ (N) t m (p) (h) (R) (V) (fs) (H) fa vf wh wy hg ov oh (nI d) an) (hu : MoM σ u1 u2 ur ul uo ua uc us ut uk) (ht : t < 12) (hm24 : m < 24) (hp24 : p < 24) (ho : uo (24 * m + p) = 24) (hx : ua (24 * m + p) = x) (hC : ∀ σ1, NB σ0 σ1 (N) t m (p) (h) (R) (V) (fs) (H) fa vf wh wy hg ov oh (nI (d + 1)) an → jl_mE l G m_Mo_simple [.ref 22, .int (nI 24), .int x] σ1 (fun r σ' => r = .inl none ∧ P (.inl none) σ')) : jl_mE l G m_Mo_step [.ref 22] σ P := by
  obtain ⟨fx, fp, fh, lw, lk, vl, vk, ks, kc, kv, lo, sk, hO, f1, f2, f3, f4, f5, f6, f7, hH, hB, hy1, hR1, hF⟩ := id hn
  obtain ⟨k1, k2, k3⟩ := id hH
  obtain ⟨⟨r1, r2⟩, hlo, hsk⟩ := id hR1
  obtain ⟨⟨hfx, hfp, hlc, hst⟩, hfh, hfs, hln⟩ := id hy1
  have hfx : fx t = m := hfx
  have hfp : fp t = p := hfp
  have hlc : ∀ k, k < 6 → lk (6 * t + k) = kdI (R k) ∧ (R k ≠ none → lw (6 * t + k) = V k) := hlc
  have hst : ∀ j, j < _ → vk (5 * t + j) = kdI (R (7 + j)) ∧ vl (5 * t + j) = V (7 + j) := hst
  obtain ⟨h28, h29, h30, h31, h32, h33, h34, h35, h36, h37⟩ := id hu
  refine jl_ofE (as := [.ref 22]) rfl (by decide) hl (jl_cc rfl jl_ca) (Nat.le_of_ble_eq_true rfl) ?_
  show jl_E l G m_Mo_step (0, 0) 0 [some (.ref 22), none, none, none, none] [] (σ) P
  refine er_aload_n d_Mo_step_0 rfl ?_
  refine er_getf d_Mo_step_1 f_Mo_step_224 hO rfl ?_
  refine er_iconst ((nI (1))) d_Mo_step_4 (by decide) ?_
  refine er_isubN d_Mo_step_5 (by omega) ?_
  rw [show (t + 1) - (1) = t by omega]
  show jl_E l G m_Mo_step (0, 0) 6 [some (.ref 22), none, none, none, none] [.int (nI t)] (σ) P
  refine er_istore_n d_Mo_step_6 (by decide) ?_
  show jl_E l G m_Mo_step (0, 0) 7 [some (.ref 22), some (.int (nI t)), none, none, none] [] (σ) P
  refine er_bipush ((nI (24))) d_Mo_step_7 (by decide) ?_
  refine er_aload_n d_Mo_step_9 rfl ?_
  refine er_getf d_Mo_step_10 f_Mo_step_78 hO rfl ?_
  refine er_iload_n d_Mo_step_13 rfl ?_
  refine er_ialdQ (v := (nI (m))) d_Mo_step_14 f1 (by omega) (by omega) (congrArg nI hfx) ?_
  refine er_imulN d_Mo_step_15 ?_
  refine er_aload_n d_Mo_step_16 rfl ?_
  refine er_getf d_Mo_step_17 f_Mo_step_81 hO rfl ?_
  refine er_iload_n d_Mo_step_20 rfl ?_
  refine er_ialdQ (v := (nI (p))) d_Mo_step_21 f2 (by omega) (by omega) (congrArg nI hfp) ?_
  refine er_iaddN d_Mo_step_22 ?_
  refine er_istore_n d_Mo_step_23 (by decide) ?_
  show jl_E l G m_Mo_step (0, 0) 24 [some (.ref 22), some (.int (nI t)), some (.int (nI (((24) * (m)) + (p)))), none, none] [] (σ) P
  refine er_aload_n d_Mo_step_24 rfl ?_
  refine er_getf d_Mo_step_25 f_Mo_step_38 hO rfl ?_
  refine er_iload_n d_Mo_step_28 rfl ?_
  refine er_ialdQ (v := (nI (24))) d_Mo_step_29 h32 (by omega) (by omega) (congrArg nI ho) ?_
  refine er_istore_n d_Mo_step_30 (by decide) ?_
  show jl_E l G m_Mo_step (0, 0) 31 [some (.ref 22), some (.int (nI t)), some (.int (nI (((24) * (m)) + (p)))), some (.int (nI 24)), none] [] (σ) P
  refine er_aload_n d_Mo_step_31 rfl ?_
  refine er_getf d_Mo_step_32 f_Mo_step_41 hO rfl ?_
  refine er_iload_n d_Mo_step_35 rfl ?_
  refine er_ialdQ (v := (x)) d_Mo_step_36 h33 (by omega) (by omega) (hx) ?_
  refine er_istore d_Mo_step_37 (by decide) ?_
  show jl_E l G m_Mo_step (0, 0) 39 [some (.ref 22), some (.int (nI t)), some (.int (nI (((24) * (m)) + (p)))), some (.int (nI 24)), some (.int (x))] [] (σ) P
  refine er_aload_n d_Mo_step_39 rfl ?_
  refine er_dup d_Mo_step_40 rfl ?_
  refine er_getf d_Mo_step_41 f_Mo_step_270 hO rfl ?_
  refine er_iconst ((nI (1))) d_Mo_step_44 (by decide) ?_
  refine er_iaddN d_Mo_step_45 ?_
  refine er_putf d_Mo_step_46 p_Mo_step_270 hO (Nat.le_of_ble_eq_true rfl) jl_fit_int ?_
  show jl_E l G m_Mo_step (0, 0) 49 [some (.ref 22), some (.int (nI t)), some (.int (nI (((24) * (m)) + (p)))), some (.int (nI 24)), some (.int (x))] [] (σ.set (22) (.inr (7, [.int (fa), .ref 23, .ref 24, .ref 25, .ref 26, .ref 27, .ref 28, .ref 29, .ref 30, .ref 31, .ref 32, .ref 33, .ref 34, .ref 35, .ref 36, .ref 37, .int (vf), .int (wh), .int (wy), .ref 38, .ref 39, .ref 40, .ref 41, .int (hg), .ref 42, .ref 43, .ref 44, .ref 45, .ref 46, .ref 47, .ref 48, .ref 49, .int (nI (t + 1)), .ref 50, .ref 51, .ref 52, .int (nI (H.n)), .int (ov), .int (oh), .int (nI ((d) + (1))), .int (an)]))) P
  refine er_iload_n d_Mo_step_49 rfl ?_
  refine er_tableOut 222 d_Mo_step_50 (by decide +kernel) (by decide) ?_
  refine er_aload_n d_Mo_step_222 rfl ?_
  refine er_iload_n d_Mo_step_223 rfl ?_
  refine er_iload d_Mo_step_224 rfl ?_
  refine er_callVE (As := [.int (nI 24), .int (x)]) d_Mo_step_226 k_Mo_step_300 (jl_ss hO) rfl rfl rfl (Nat.le_of_ble_eq_true rfl) (by decide) (by decide) (jl_mE.mono (hC _ (hn.done (dn2 := nI (d + 1)))) (fun r σ z => ⟨none, z.1, ?_⟩))
  show jl_E l G m_Mo_step (0, 0) 229 [some (.ref 22), some (.int (nI t)), some (.int (nI (((24) * (m)) + (p)))), some (.int (nI 24)), some (.int (x))] [] (σ) P
  exact er_vret d_Mo_step_229 rfl (z.2) (by decide) (by decide)
theorem mo_sw_25 (hl : l.stackTraces = false) {P : jl_O → jl_S → Prop}  (hn : NB σ0 σ (N) t m (p) (h) (R) (V) (fs) (H) fa vf wh wy hg ov oh (nI d) an) (hu : MoM σ u1 u2 ur ul uo ua uc us ut uk) (ht : t < 12) (hm24 : m < 24) (hp24 : p < 24) (ho : uo (24 * m + p) = 25) (hx : ua (24 * m + p) = x) (hC : ∀ σ1, NB σ0 σ1 (N) t m (p) (h) (R) (V) (fs) (H) fa vf wh wy hg ov oh (nI (d + 1)) an → jl_mE l G m_Mo_simple [.ref 22, .int (nI 25), .int x] σ1 (fun r σ' => r = .inl none ∧ P (.inl none) σ')) : jl_mE l G m_Mo_step [.ref 22] σ P := by
  obtain ⟨fx, fp, fh, lw, lk, vl, vk, ks, kc, kv, lo, sk, hO, f1, f2, f3, f4, f5, f6, f7, hH, hB, hy1, hR1, hF⟩ := id hn
  obtain ⟨k1, k2, k3⟩ := id hH
  obtain ⟨⟨r1, r2⟩, hlo, hsk⟩ := id hR1
  obtain ⟨⟨hfx, hfp, hlc, hst⟩, hfh, hfs, hln⟩ := id hy1
  have hfx : fx t = m := hfx
  have hfp : fp t = p := hfp
  have hlc : ∀ k, k < 6 → lk (6 * t + k) = kdI (R k) ∧ (R k ≠ none → lw (6 * t + k) = V k) := hlc
  have hst : ∀ j, j < _ → vk (5 * t + j) = kdI (R (7 + j)) ∧ vl (5 * t + j) = V (7 + j) := hst
  obtain ⟨h28, h29, h30, h31, h32, h33, h34, h35, h36, h37⟩ := id hu
  refine jl_ofE (as := [.ref 22]) rfl (by decide) hl (jl_cc rfl jl_ca) (Nat.le_of_ble_eq_true rfl) ?_
  show jl_E l G m_Mo_step (0, 0) 0 [some (.ref 22), none, none, none, none] [] (σ) P
  refine er_aload_n d_Mo_step_0 rfl ?_
  refine er_getf d_Mo_step_1 f_Mo_step_224 hO rfl ?_
  refine er_iconst ((nI (1))) d_Mo_step_4 (by decide) ?_
  refine er_isubN d_Mo_step_5 (by omega) ?_
  rw [show (t + 1) - (1) = t by omega]
  show jl_E l G m_Mo_step (0, 0) 6 [some (.ref 22), none, none, none, none] [.int (nI t)] (σ) P
  refine er_istore_n d_Mo_step_6 (by decide) ?_
  show jl_E l G m_Mo_step (0, 0) 7 [some (.ref 22), some (.int (nI t)), none, none, none] [] (σ) P
  refine er_bipush ((nI (24))) d_Mo_step_7 (by decide) ?_
  refine er_aload_n d_Mo_step_9 rfl ?_
  refine er_getf d_Mo_step_10 f_Mo_step_78 hO rfl ?_
  refine er_iload_n d_Mo_step_13 rfl ?_
  refine er_ialdQ (v := (nI (m))) d_Mo_step_14 f1 (by omega) (by omega) (congrArg nI hfx) ?_
  refine er_imulN d_Mo_step_15 ?_
  refine er_aload_n d_Mo_step_16 rfl ?_
  refine er_getf d_Mo_step_17 f_Mo_step_81 hO rfl ?_
  refine er_iload_n d_Mo_step_20 rfl ?_
  refine er_ialdQ (v := (nI (p))) d_Mo_step_21 f2 (by omega) (by omega) (congrArg nI hfp) ?_
  refine er_iaddN d_Mo_step_22 ?_
  refine er_istore_n d_Mo_step_23 (by decide) ?_
  show jl_E l G m_Mo_step (0, 0) 24 [some (.ref 22), some (.int (nI t)), some (.int (nI (((24) * (m)) + (p)))), none, none] [] (σ) P
  refine er_aload_n d_Mo_step_24 rfl ?_
  refine er_getf d_Mo_step_25 f_Mo_step_38 hO rfl ?_
  refine er_iload_n d_Mo_step_28 rfl ?_
  refine er_ialdQ (v := (nI (25))) d_Mo_step_29 h32 (by omega) (by omega) (congrArg nI ho) ?_
  refine er_istore_n d_Mo_step_30 (by decide) ?_
  show jl_E l G m_Mo_step (0, 0) 31 [some (.ref 22), some (.int (nI t)), some (.int (nI (((24) * (m)) + (p)))), some (.int (nI 25)), none] [] (σ) P
  refine er_aload_n d_Mo_step_31 rfl ?_
  refine er_getf d_Mo_step_32 f_Mo_step_41 hO rfl ?_
  refine er_iload_n d_Mo_step_35 rfl ?_
  refine er_ialdQ (v := (x)) d_Mo_step_36 h33 (by omega) (by omega) (hx) ?_
  refine er_istore d_Mo_step_37 (by decide) ?_
  show jl_E l G m_Mo_step (0, 0) 39 [some (.ref 22), some (.int (nI t)), some (.int (nI (((24) * (m)) + (p)))), some (.int (nI 25)), some (.int (x))] [] (σ) P
  refine er_aload_n d_Mo_step_39 rfl ?_
  refine er_dup d_Mo_step_40 rfl ?_
  refine er_getf d_Mo_step_41 f_Mo_step_270 hO rfl ?_
  refine er_iconst ((nI (1))) d_Mo_step_44 (by decide) ?_
  refine er_iaddN d_Mo_step_45 ?_
  refine er_putf d_Mo_step_46 p_Mo_step_270 hO (Nat.le_of_ble_eq_true rfl) jl_fit_int ?_
  show jl_E l G m_Mo_step (0, 0) 49 [some (.ref 22), some (.int (nI t)), some (.int (nI (((24) * (m)) + (p)))), some (.int (nI 25)), some (.int (x))] [] (σ.set (22) (.inr (7, [.int (fa), .ref 23, .ref 24, .ref 25, .ref 26, .ref 27, .ref 28, .ref 29, .ref 30, .ref 31, .ref 32, .ref 33, .ref 34, .ref 35, .ref 36, .ref 37, .int (vf), .int (wh), .int (wy), .ref 38, .ref 39, .ref 40, .ref 41, .int (hg), .ref 42, .ref 43, .ref 44, .ref 45, .ref 46, .ref 47, .ref 48, .ref 49, .int (nI (t + 1)), .ref 50, .ref 51, .ref 52, .int (nI (H.n)), .int (ov), .int (oh), .int (nI ((d) + (1))), .int (an)]))) P
  refine er_iload_n d_Mo_step_49 rfl ?_
  refine er_tableOut 222 d_Mo_step_50 (by decide +kernel) (by decide) ?_
  refine er_aload_n d_Mo_step_222 rfl ?_
  refine er_iload_n d_Mo_step_223 rfl ?_
  refine er_iload d_Mo_step_224 rfl ?_
  refine er_callVE (As := [.int (nI 25), .int (x)]) d_Mo_step_226 k_Mo_step_300 (jl_ss hO) rfl rfl rfl (Nat.le_of_ble_eq_true rfl) (by decide) (by decide) (jl_mE.mono (hC _ (hn.done (dn2 := nI (d + 1)))) (fun r σ z => ⟨none, z.1, ?_⟩))
  show jl_E l G m_Mo_step (0, 0) 229 [some (.ref 22), some (.int (nI t)), some (.int (nI (((24) * (m)) + (p)))), some (.int (nI 25)), some (.int (x))] [] (σ) P
  exact er_vret d_Mo_step_229 rfl (z.2) (by decide) (by decide)
end JNzf
