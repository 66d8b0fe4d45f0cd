/-! the model's machine: giveBack (wip/gen/p97xi.py) -/
section JNxi
variable {l : Launch} {G : jl_G} {σ : jl_S}
variable {tb : Nat → Bool} {pr : Nat → Option Nat} {ow fi ft : Nat → Nat} {hs : Nat → Bool} {fa vf wh wy hg dp md ov oh dn an : Int32}
variable {u1 u2 : Nat → Option Nat} {ur ul uo : Nat → Nat} {ua : Nat → Int32} {uc us ut uk : Nat → Nat}
variable {σ0 : jl_S} {N t m p h b n : Nat} {R : Rw} {V : Nat → Int32} {fs : List Fm} {H : Hp} {fa vf wh wy hg ov oh dn an x a v : Int32} {y : Option Nat}
variable {g : Fm}
theorem FY.below {fx fp fh : Nat → Nat} {lw lk vl vk : Nat → Int32} (h1 : FY fx fp fh lw lk vl vk N t m p h R V (g :: fs)) : FY fx fp fh lw lk vl vk (hgt g.R) fs.length g.m g.p (hgt g.R) g.R g.V fs ∧ hgt g.R ≤ 5 ∧ t = fs.length + 1 := ⟨⟨h1.2.2.1.1, h1.2.2.1.2.1, h1.2.2.1.2.2.2, rfl⟩, h1.2.2.1.2.2.1, h1.2.2.2.symm⟩
theorem d_Mo_giveBack_0 : decode m_Mo_giveBack.2.1 0 = .ok (.aload_n 0, 1) := by decide +kernel
theorem f_Mo_giveBack_224 : jl_fd m_Mo_giveBack 224 7 32 = true := by decide +kernel
theorem d_Mo_giveBack_1 : decode m_Mo_giveBack.2.1 1 = .ok (.getfield 224, 3) := by decide +kernel
theorem d_Mo_giveBack_4 : decode m_Mo_giveBack.2.1 4 = .ok (.iconst 1, 1) := by decide +kernel
theorem d_Mo_giveBack_5 : decode m_Mo_giveBack.2.1 5 = .ok (.isub, 1) := by decide +kernel
theorem d_Mo_giveBack_6 : decode m_Mo_giveBack.2.1 6 = .ok (.istore_n 1, 1) := by decide +kernel
theorem d_Mo_giveBack_7 : decode m_Mo_giveBack.2.1 7 = .ok (.aload_n 0, 1) := by decide +kernel
theorem f_Mo_giveBack_96 : jl_fd m_Mo_giveBack 96 7 31 = true := by decide +kernel
theorem d_Mo_giveBack_8 : decode m_Mo_giveBack.2.1 8 = .ok (.getfield 96, 3) := by decide +kernel
theorem d_Mo_giveBack_11 : decode m_Mo_giveBack.2.1 11 = .ok (.iconst 5, 1) := by decide +kernel
theorem d_Mo_giveBack_12 : decode m_Mo_giveBack.2.1 12 = .ok (.iload_n 1, 1) := by decide +kernel
theorem d_Mo_giveBack_13 : decode m_Mo_giveBack.2.1 13 = .ok (.imul, 1) := by decide +kernel
theorem d_Mo_giveBack_14 : decode m_Mo_giveBack.2.1 14 = .ok (.aload_n 0, 1) := by decide +kernel
theorem f_Mo_giveBack_84 : jl_fd m_Mo_giveBack 84 7 27 = true := by decide +kernel
theorem d_Mo_giveBack_15 : decode m_Mo_giveBack.2.1 15 = .ok (.getfield 84, 3) := by decide +kernel
theorem d_Mo_giveBack_18 : decode m_Mo_giveBack.2.1 18 = .ok (.iload_n 1, 1) := by decide +kernel
theorem d_Mo_giveBack_19 : decode m_Mo_giveBack.2.1 19 = .ok (.iaload, 1) := by decide +kernel
theorem d_Mo_giveBack_20 : decode m_Mo_giveBack.2.1 20 = .ok (.iadd, 1) := by decide +kernel
theorem d_Mo_giveBack_21 : decode m_Mo_giveBack.2.1 21 = .ok (.iconst 1, 1) := by decide +kernel
theorem d_Mo_giveBack_22 : decode m_Mo_giveBack.2.1 22 = .ok (.isub, 1) := by decide +kernel
theorem d_Mo_giveBack_23 : decode m_Mo_giveBack.2.1 23 = .ok (.iaload, 1) := by decide +kernel
theorem d_Mo_giveBack_24 : decode m_Mo_giveBack.2.1 24 = .ok (.istore_n 2, 1) := by decide +kernel
theorem d_Mo_giveBack_25 : decode m_Mo_giveBack.2.1 25 = .ok (.aload_n 0, 1) := by decide +kernel
theorem d_Mo_giveBack_26 : decode m_Mo_giveBack.2.1 26 = .ok (.iconst 1, 1) := by decide +kernel
theorem k_Mo_giveBack_245 : jl_cv m_Mo_giveBack m_Mo_top 245 1 = true := by decide +kernel
theorem d_Mo_giveBack_27 : decode m_Mo_giveBack.2.1 27 = .ok (.invokevirtual 245, 3) := by decide +kernel
theorem d_Mo_giveBack_30 : decode m_Mo_giveBack.2.1 30 = .ok (.istore_n 3, 1) := by decide +kernel
theorem d_Mo_giveBack_31 : decode m_Mo_giveBack.2.1 31 = .ok (.aload_n 0, 1) := by decide +kernel
theorem d_Mo_giveBack_32 : decode m_Mo_giveBack.2.1 32 = .ok (.dup, 1) := by decide +kernel
theorem d_Mo_giveBack_33 : decode m_Mo_giveBack.2.1 33 = .ok (.getfield 224, 3) := by decide +kernel
theorem d_Mo_giveBack_36 : decode m_Mo_giveBack.2.1 36 = .ok (.iconst 1, 1) := by decide +kernel
theorem d_Mo_giveBack_37 : decode m_Mo_giveBack.2.1 37 = .ok (.isub, 1) := by decide +kernel
theorem p_Mo_giveBack_224 : jl_fp m_Mo_giveBack 224 7 32 = true := by decide +kernel
theorem d_Mo_giveBack_38 : decode m_Mo_giveBack.2.1 38 = .ok (.putfield 224, 3) := by decide +kernel
theorem d_Mo_giveBack_41 : decode m_Mo_giveBack.2.1 41 = .ok (.aload_n 0, 1) := by decide +kernel
theorem d_Mo_giveBack_42 : decode m_Mo_giveBack.2.1 42 = .ok (.getfield 224, 3) := by decide +kernel
theorem d_Mo_giveBack_45 : decode m_Mo_giveBack.2.1 45 = .ok (.ifCond .ne 15, 3) := by decide +kernel
theorem d_Mo_giveBack_48 : decode m_Mo_giveBack.2.1 48 = .ok (.aload_n 0, 1) := by decide +kernel
theorem d_Mo_giveBack_49 : decode m_Mo_giveBack.2.1 49 = .ok (.iload_n 3, 1) := by decide +kernel
theorem p_Mo_giveBack_258 : jl_fp m_Mo_giveBack 258 7 40 = true := by decide +kernel
theorem d_Mo_giveBack_50 : decode m_Mo_giveBack.2.1 50 = .ok (.putfield 258, 3) := by decide +kernel
theorem d_Mo_giveBack_53 : decode m_Mo_giveBack.2.1 53 = .ok (.aload_n 0, 1) := by decide +kernel
theorem d_Mo_giveBack_54 : decode m_Mo_giveBack.2.1 54 = .ok (.iconst 0, 1) := by decide +kernel
theorem d_Mo_giveBack_55 : decode m_Mo_giveBack.2.1 55 = .ok (.iconst 0, 1) := by decide +kernel
theorem k_Mo_giveBack_230 : jl_cv m_Mo_giveBack m_Mo_end 230 2 = true := by decide +kernel
theorem d_Mo_giveBack_56 : decode m_Mo_giveBack.2.1 56 = .ok (.invokevirtual 230, 3) := by decide +kernel
theorem d_Mo_giveBack_59 : decode m_Mo_giveBack.2.1 59 = .ok (.return_, 1) := by decide +kernel
theorem mo_gb_z (hl : l.stackTraces = false) {P : jl_O → jl_S → Prop}  (hn : NB σ0 σ (b + 1) t m (p) (b + 1) (R) (V) (fs) (H) fa vf wh wy hg ov oh dn an) (ht : t < 12) (hb : b + 1 ≤ 5) (h0 : t = 0) (hT : ∀ σ', NQ σ0 σ' [] H fa vf wh wy hg (nI 0) (nI 0) dn (V (7 + b)) → P (.inl none) σ') : jl_mE l G m_Mo_giveBack [.ref 22] σ P := by
  obtain ⟨fx, fp, fh, lw, lk, vl, vk, ks, kc, kv, lo, sk, hO, f1, f2, f3, f4, f5, f6, f7, hH, hB, hy1, hR1, hF⟩ := id hn
  obtain ⟨k1, k2, k3⟩ := id hH
  obtain ⟨⟨r1, r2⟩, hlo, hsk⟩ := id hR1
  obtain ⟨⟨hfx, hfp, hlc, hst⟩, hfh, hfs, hln⟩ := id hy1
  have hfx : fx t = m := hfx
  have hfp : fp t = p := hfp
  have hlc : ∀ k, k < 6 → lk (6 * t + k) = kdI (R k) ∧ (R k ≠ none → lw (6 * t + k) = V k) := hlc
  have hst : ∀ j, j < _ → vk (5 * t + j) = kdI (R (7 + j)) ∧ vl (5 * t + j) = V (7 + j) := hst
  have hS0 : vl (5 * t + (b)) = V (7 + b) := by rw [show 7 + b = 7 + (b) by omega]; exact (hst _ (by omega)).2
  have hK0 : vk (5 * t + (b)) = kdI (R (7 + b)) := by rw [show 7 + b = 7 + (b) by omega]; exact (hst _ (by omega)).1
  refine jl_ofE (as := [.ref 22]) rfl (by decide) hl (jl_cc rfl jl_ca) (Nat.le_of_ble_eq_true rfl) ?_
  show jl_E l G m_Mo_giveBack (0, 0) 0 [some (.ref 22), none, none, none] [] (σ) P
  refine er_aload_n d_Mo_giveBack_0 rfl ?_
  refine er_getf d_Mo_giveBack_1 f_Mo_giveBack_224 hO rfl ?_
  refine er_iconst ((nI (1))) d_Mo_giveBack_4 (by decide) ?_
  refine er_isubN d_Mo_giveBack_5 (by omega) ?_
  rw [show (t + 1) - (1) = t by omega]
  show jl_E l G m_Mo_giveBack (0, 0) 6 [some (.ref 22), none, none, none] [.int (nI t)] (σ) P
  refine er_istore_n d_Mo_giveBack_6 (by decide) ?_
  show jl_E l G m_Mo_giveBack (0, 0) 7 [some (.ref 22), some (.int (nI t)), none, none] [] (σ) P
  refine er_aload_n d_Mo_giveBack_7 rfl ?_
  refine er_getf d_Mo_giveBack_8 f_Mo_giveBack_96 hO rfl ?_
  refine er_iconst ((nI (5))) d_Mo_giveBack_11 (by decide) ?_
  refine er_iload_n d_Mo_giveBack_12 rfl ?_
  refine er_imulN d_Mo_giveBack_13 ?_
  refine er_aload_n d_Mo_giveBack_14 rfl ?_
  refine er_getf d_Mo_giveBack_15 f_Mo_giveBack_84 hO rfl ?_
  refine er_iload_n d_Mo_giveBack_18 rfl ?_
  refine er_ialdQ (v := (nI (b + 1))) d_Mo_giveBack_19 f3 (by omega) (by omega) (congrArg nI hfh) ?_
  refine er_iaddN d_Mo_giveBack_20 ?_
  refine er_iconst ((nI (1))) d_Mo_giveBack_21 (by decide) ?_
  refine er_isubN d_Mo_giveBack_22 (by omega) ?_
  refine er_ialdQ (v := (kdI (R (7 + b)))) d_Mo_giveBack_23 f7 (by omega) (by omega) ((congrArg vk (by omega)).trans hK0) ?_
  refine er_istore_n d_Mo_giveBack_24 (by decide) ?_
  show jl_E l G m_Mo_giveBack (0, 0) 25 [some (.ref 22), some (.int (nI t)), some (.int (kdI (R (7 + b)))), none] [] (σ) P
  refine er_aload_n d_Mo_giveBack_25 rfl ?_
  refine er_iconst ((nI (1))) d_Mo_giveBack_26 (by decide) ?_
  refine er_callV (As := [.int (nI 1)]) d_Mo_giveBack_27 k_Mo_giveBack_245 hO rfl rfl rfl (Nat.le_of_ble_eq_true rfl) (by decide) (by decide) (mo_topE (h := b + 1) (n := 1) (v := (V (7 + b))) hl hO f3 f6 ht hfh (by omega) (by omega) (by omega) (by rw [show 5 * t + (b + 1) - 1 = 5 * t + (b) by omega]; exact hS0)) ?_
  show jl_E l G m_Mo_giveBack (0, 0) 30 [some (.ref 22), some (.int (nI t)), some (.int (kdI (R (7 + b)))), none] [.int (V (7 + b))] (σ) P
  refine er_istore_n d_Mo_giveBack_30 (by decide) ?_
  show jl_E l G m_Mo_giveBack (0, 0) 31 [some (.ref 22), some (.int (nI t)), some (.int (kdI (R (7 + b)))), some (.int (V (7 + b)))] [] (σ) P
  refine er_aload_n d_Mo_giveBack_31 rfl ?_
  refine er_dup d_Mo_giveBack_32 rfl ?_
  refine er_getf d_Mo_giveBack_33 f_Mo_giveBack_224 hO rfl ?_
  refine er_iconst ((nI (1))) d_Mo_giveBack_36 (by decide) ?_
  refine er_isubN d_Mo_giveBack_37 (by omega) ?_
  rw [show (t + 1) - (1) = t by omega]
  show jl_E l G m_Mo_giveBack (0, 0) 38 [some (.ref 22), some (.int (nI t)), some (.int (kdI (R (7 + b)))), some (.int (V (7 + b)))] [.int (nI t), .ref 22] (σ) P
  refine er_putf d_Mo_giveBack_38 p_Mo_giveBack_224 hO (Nat.le_of_ble_eq_true rfl) jl_fit_int ?_
  show jl_E l G m_Mo_giveBack (0, 0) 41 [some (.ref 22), some (.int (nI t)), some (.int (kdI (R (7 + b)))), some (.int (V (7 + b)))] [] (σ.set (22) (.inr (7, [.int (fa), .ref 23, .ref 24, .ref 25, .ref 26, .ref 27, .ref 28, .ref 29, .ref 30, .ref 31, .ref 32, .ref 33, .ref 34, .ref 35, .ref 36, .ref 37, .int (vf), .int (wh), .int (wy), .ref 38, .ref 39, .ref 40, .ref 41, .int (hg), .ref 42, .ref 43, .ref 44, .ref 45, .ref 46, .ref 47, .ref 48, .ref 49, .int (nI t), .ref 50, .ref 51, .ref 52, .int (nI (H.n)), .int (ov), .int (oh), .int (dn), .int (an)]))) P
  refine er_aload_n d_Mo_giveBack_41 rfl ?_
  refine er_getf d_Mo_giveBack_42 f_Mo_giveBack_224 (jl_ss hO) rfl ?_
  refine er_if_ne 60 d_Mo_giveBack_45 (by decide) (fun z => absurd ((show nI t = 0 by rw [h0]; decide +kernel)) z) (fun _ => ?_)
  refine er_aload_n d_Mo_giveBack_48 rfl ?_
  refine er_iload_n d_Mo_giveBack_49 rfl ?_
  refine er_putf d_Mo_giveBack_50 p_Mo_giveBack_258 (jl_ss hO) (Nat.le_of_ble_eq_true rfl) jl_fit_int ?_
  show jl_E l G m_Mo_giveBack (0, 0) 53 [some (.ref 22), some (.int (nI t)), some (.int (kdI (R (7 + b)))), some (.int (V (7 + b)))] [] ((σ.set (22) (.inr (7, [.int (fa), .ref 23, .ref 24, .ref 25, .ref 26, .ref 27, .ref 28, .ref 29, .ref 30, .ref 31, .ref 32, .ref 33, .ref 34, .ref 35, .ref 36, .ref 37, .int (vf), .int (wh), .int (wy), .ref 38, .ref 39, .ref 40, .ref 41, .int (hg), .ref 42, .ref 43, .ref 44, .ref 45, .ref 46, .ref 47, .ref 48, .ref 49, .int (nI t), .ref 50, .ref 51, .ref 52, .int (nI (H.n)), .int (ov), .int (oh), .int (dn), .int (an)]))).set (22) (.inr (7, [.int (fa), .ref 23, .ref 24, .ref 25, .ref 26, .ref 27, .ref 28, .ref 29, .ref 30, .ref 31, .ref 32, .ref 33, .ref 34, .ref 35, .ref 36, .ref 37, .int (vf), .int (wh), .int (wy), .ref 38, .ref 39, .ref 40, .ref 41, .int (hg), .ref 42, .ref 43, .ref 44, .ref 45, .ref 46, .ref 47, .ref 48, .ref 49, .int (nI t), .ref 50, .ref 51, .ref 52, .int (nI (H.n)), .int (ov), .int (oh), .int (dn), .int (V (7 + b))]))) P
  refine er_aload_n d_Mo_giveBack_53 rfl ?_
  refine er_iconst ((nI (0))) d_Mo_giveBack_54 (by decide) ?_
  refine er_iconst ((nI (0))) d_Mo_giveBack_55 (by decide) ?_
  refine er_callV (As := [.int (nI 0), .int (nI 0)]) d_Mo_giveBack_56 k_Mo_giveBack_230 (jl_ss (jl_ss hO)) rfl rfl rfl (Nat.le_of_ble_eq_true rfl) (by decide) (by decide) (mo_mend hl (jl_ss (jl_ss hO))) ?_
  show jl_E l G m_Mo_giveBack (0, 0) 59 [some (.ref 22), some (.int (nI t)), some (.int (kdI (R (7 + b)))), some (.int (V (7 + b)))] [] (((σ.set (22) (.inr (7, [.int (fa), .ref 23, .ref 24, .ref 25, .ref 26, .ref 27, .ref 28, .ref 29, .ref 30, .ref 31, .ref 32, .ref 33, .ref 34, .ref 35, .ref 36, .ref 37, .int (vf), .int (wh), .int (wy), .ref 38, .ref 39, .ref 40, .ref 41, .int (hg), .ref 42, .ref 43, .ref 44, .ref 45, .ref 46, .ref 47, .ref 48, .ref 49, .int (nI t), .ref 50, .ref 51, .ref 52, .int (nI (H.n)), .int (ov), .int (oh), .int (dn), .int (an)]))).set (22) (.inr (7, [.int (fa), .ref 23, .ref 24, .ref 25, .ref 26, .ref 27, .ref 28, .ref 29, .ref 30, .ref 31, .ref 32, .ref 33, .ref 34, .ref 35, .ref 36, .ref 37, .int (vf), .int (wh), .int (wy), .ref 38, .ref 39, .ref 40, .ref 41, .int (hg), .ref 42, .ref 43, .ref 44, .ref 45, .ref 46, .ref 47, .ref 48, .ref 49, .int (nI t), .ref 50, .ref 51, .ref 52, .int (nI (H.n)), .int (ov), .int (oh), .int (dn), .int (V (7 + b))]))).set (22) (.inr (7, [.int (fa), .ref 23, .ref 24, .ref 25, .ref 26, .ref 27, .ref 28, .ref 29, .ref 30, .ref 31, .ref 32, .ref 33, .ref 34, .ref 35, .ref 36, .ref 37, .int (vf), .int (wh), .int (wy), .ref 38, .ref 39, .ref 40, .ref 41, .int (hg), .ref 42, .ref 43, .ref 44, .ref 45, .ref 46, .ref 47, .ref 48, .ref 49, .int (nI 0), .ref 50, .ref 51, .ref 52, .int (nI (H.n)), .int (nI 0), .int (nI 0), .int (dn), .int (V (7 + b))]))) P
  exact er_vret d_Mo_giveBack_59 rfl (hT _ ⟨_, _, _, _, _, _, _, _, _, _, _, _, (jl_ss (jl_ss (jl_ss hO))), (jl_sn (by decide) (jl_sn (by decide) (jl_sn (by decide) f1))), (jl_sn (by decide) (jl_sn (by decide) (jl_sn (by decide) f2))), (jl_sn (by decide) (jl_sn (by decide) (jl_sn (by decide) f3))), (jl_sn (by decide) (jl_sn (by decide) (jl_sn (by decide) f4))), (jl_sn (by decide) (jl_sn (by decide) (jl_sn (by decide) f5))), (jl_sn (by decide) (jl_sn (by decide) (jl_sn (by decide) f6))), (jl_sn (by decide) (jl_sn (by decide) (jl_sn (by decide) f7))), ⟨(jl_sn (by decide) (jl_sn (by decide) (jl_sn (by decide) k1))), (jl_sn (by decide) (jl_sn (by decide) (jl_sn (by decide) k2))), (jl_sn (by decide) (jl_sn (by decide) (jl_sn (by decide) k3)))⟩, hB, trivial, ⟨⟨(jl_sn (by decide) (jl_sn (by decide) (jl_sn (by decide) r1))), (jl_sn (by decide) (jl_sn (by decide) (jl_sn (by decide) r2)))⟩, hlo, hsk⟩, (((hF.set (by omega)).set (by omega)).set (by omega))⟩) (by decide) (by decide)
theorem d_Mo_giveBack_60 : decode m_Mo_giveBack.2.1 60 = .ok (.aload_n 0, 1) := by decide +kernel
theorem d_Mo_giveBack_61 : decode m_Mo_giveBack.2.1 61 = .ok (.iload_n 2, 1) := by decide +kernel
theorem d_Mo_giveBack_62 : decode m_Mo_giveBack.2.1 62 = .ok (.iload_n 3, 1) := by decide +kernel
theorem k_Mo_giveBack_236 : jl_cv m_Mo_giveBack m_Mo_put 236 2 = true := by decide +kernel
theorem d_Mo_giveBack_63 : decode m_Mo_giveBack.2.1 63 = .ok (.invokevirtual 236, 3) := by decide +kernel
theorem d_Mo_giveBack_66 : decode m_Mo_giveBack.2.1 66 = .ok (.aload_n 0, 1) := by decide +kernel
theorem k_Mo_giveBack_261 : jl_cv m_Mo_giveBack m_Mo_next 261 0 = true := by decide +kernel
theorem d_Mo_giveBack_67 : decode m_Mo_giveBack.2.1 67 = .ok (.invokevirtual 261, 3) := by decide +kernel
theorem d_Mo_giveBack_70 : decode m_Mo_giveBack.2.1 70 = .ok (.return_, 1) := by decide +kernel
theorem mo_gb_s (hl : l.stackTraces = false) {P : jl_O → jl_S → Prop}  (hn : NB σ0 σ (b + 1) t m (p) (b + 1) (R) (V) (g :: fs) (H) fa vf wh wy hg ov oh dn an) (ht : t < 12) (hb : b + 1 ≤ 5) (hg4 : hgt g.R ≤ 4) (hT : ∀ σ', NB σ0 σ' (hgt g.R + 1) fs.length g.m (g.p + 1) (hgt g.R + 1) (psh g.R (hgt g.R) (R (7 + b))) (va_up g.V (7 + hgt g.R) (V (7 + b))) (fs) (H) fa vf wh wy hg ov oh dn an → P (.inl none) σ') : jl_mE l G m_Mo_giveBack [.ref 22] σ P := by
  obtain ⟨fx, fp, fh, lw, lk, vl, vk, ks, kc, kv, lo, sk, hO, f1, f2, f3, f4, f5, f6, f7, hH, hB, hy1, hR1, hF⟩ := id hn
  obtain ⟨k1, k2, k3⟩ := id hH
  obtain ⟨⟨r1, r2⟩, hlo, hsk⟩ := id hR1
  obtain ⟨⟨hfx, hfp, hlc, hst⟩, hfh, hfs, hln⟩ := id hy1
  have hfx : fx t = m := hfx
  have hfp : fp t = p := hfp
  have hlc : ∀ k, k < 6 → lk (6 * t + k) = kdI (R k) ∧ (R k ≠ none → lw (6 * t + k) = V k) := hlc
  have hst : ∀ j, j < _ → vk (5 * t + j) = kdI (R (7 + j)) ∧ vl (5 * t + j) = V (7 + j) := hst
  obtain ⟨hx2, hg5, hte⟩ := hy1.below
  have hS0 : vl (5 * t + (b)) = V (7 + b) := by rw [show 7 + b = 7 + (b) by omega]; exact (hst _ (by omega)).2
  have hK0 : vk (5 * t + (b)) = kdI (R (7 + b)) := by rw [show 7 + b = 7 + (b) by omega]; exact (hst _ (by omega)).1
  refine jl_ofE (as := [.ref 22]) rfl (by decide) hl (jl_cc rfl jl_ca) (Nat.le_of_ble_eq_true rfl) ?_
  show jl_E l G m_Mo_giveBack (0, 0) 0 [some (.ref 22), none, none, none] [] (σ) P
  refine er_aload_n d_Mo_giveBack_0 rfl ?_
  refine er_getf d_Mo_giveBack_1 f_Mo_giveBack_224 hO rfl ?_
  refine er_iconst ((nI (1))) d_Mo_giveBack_4 (by decide) ?_
  refine er_isubN d_Mo_giveBack_5 (by omega) ?_
  rw [show (t + 1) - (1) = t by omega]
  show jl_E l G m_Mo_giveBack (0, 0) 6 [some (.ref 22), none, none, none] [.int (nI t)] (σ) P
  refine er_istore_n d_Mo_giveBack_6 (by decide) ?_
  show jl_E l G m_Mo_giveBack (0, 0) 7 [some (.ref 22), some (.int (nI t)), none, none] [] (σ) P
  refine er_aload_n d_Mo_giveBack_7 rfl ?_
  refine er_getf d_Mo_giveBack_8 f_Mo_giveBack_96 hO rfl ?_
  refine er_iconst ((nI (5))) d_Mo_giveBack_11 (by decide) ?_
  refine er_iload_n d_Mo_giveBack_12 rfl ?_
  refine er_imulN d_Mo_giveBack_13 ?_
  refine er_aload_n d_Mo_giveBack_14 rfl ?_
  refine er_getf d_Mo_giveBack_15 f_Mo_giveBack_84 hO rfl ?_
  refine er_iload_n d_Mo_giveBack_18 rfl ?_
  refine er_ialdQ (v := (nI (b + 1))) d_Mo_giveBack_19 f3 (by omega) (by omega) (congrArg nI hfh) ?_
  refine er_iaddN d_Mo_giveBack_20 ?_
  refine er_iconst ((nI (1))) d_Mo_giveBack_21 (by decide) ?_
  refine er_isubN d_Mo_giveBack_22 (by omega) ?_
  refine er_ialdQ (v := (kdI (R (7 + b)))) d_Mo_giveBack_23 f7 (by omega) (by omega) ((congrArg vk (by omega)).trans hK0) ?_
  refine er_istore_n d_Mo_giveBack_24 (by decide) ?_
  show jl_E l G m_Mo_giveBack (0, 0) 25 [some (.ref 22), some (.int (nI t)), some (.int (kdI (R (7 + b)))), none] [] (σ) P
  refine er_aload_n d_Mo_giveBack_25 rfl ?_
  refine er_iconst ((nI (1))) d_Mo_giveBack_26 (by decide) ?_
  refine er_callV (As := [.int (nI 1)]) d_Mo_giveBack_27 k_Mo_giveBack_245 hO rfl rfl rfl (Nat.le_of_ble_eq_true rfl) (by decide) (by decide) (mo_topE (h := b + 1) (n := 1) (v := (V (7 + b))) hl hO f3 f6 ht hfh (by omega) (by omega) (by omega) (by rw [show 5 * t + (b + 1) - 1 = 5 * t + (b) by omega]; exact hS0)) ?_
  show jl_E l G m_Mo_giveBack (0, 0) 30 [some (.ref 22), some (.int (nI t)), some (.int (kdI (R (7 + b)))), none] [.int (V (7 + b))] (σ) P
  refine er_istore_n d_Mo_giveBack_30 (by decide) ?_
  show jl_E l G m_Mo_giveBack (0, 0) 31 [some (.ref 22), some (.int (nI t)), some (.int (kdI (R (7 + b)))), some (.int (V (7 + b)))] [] (σ) P
  refine er_aload_n d_Mo_giveBack_31 rfl ?_
  refine er_dup d_Mo_giveBack_32 rfl ?_
  refine er_getf d_Mo_giveBack_33 f_Mo_giveBack_224 hO rfl ?_
  refine er_iconst ((nI (1))) d_Mo_giveBack_36 (by decide) ?_
  refine er_isubN d_Mo_giveBack_37 (by omega) ?_
  rw [show (t + 1) - (1) = fs.length + 1 by omega]
  show jl_E l G m_Mo_giveBack (0, 0) 38 [some (.ref 22), some (.int (nI t)), some (.int (kdI (R (7 + b)))), some (.int (V (7 + b)))] [.int (nI (fs.length + 1)), .ref 22] (σ) P
  refine er_putf d_Mo_giveBack_38 p_Mo_giveBack_224 hO (Nat.le_of_ble_eq_true rfl) jl_fit_int ?_
  show jl_E l G m_Mo_giveBack (0, 0) 41 [some (.ref 22), some (.int (nI t)), some (.int (kdI (R (7 + b)))), some (.int (V (7 + b)))] [] (σ.set (22) (.inr (7, [.int (fa), .ref 23, .ref 24, .ref 25, .ref 26, .ref 27, .ref 28, .ref 29, .ref 30, .ref 31, .ref 32, .ref 33, .ref 34, .ref 35, .ref 36, .ref 37, .int (vf), .int (wh), .int (wy), .ref 38, .ref 39, .ref 40, .ref 41, .int (hg), .ref 42, .ref 43, .ref 44, .ref 45, .ref 46, .ref 47, .ref 48, .ref 49, .int (nI (fs.length + 1)), .ref 50, .ref 51, .ref 52, .int (nI (H.n)), .int (ov), .int (oh), .int (dn), .int (an)]))) P
  refine er_aload_n d_Mo_giveBack_41 rfl ?_
  refine er_getf d_Mo_giveBack_42 f_Mo_giveBack_224 (jl_ss hO) rfl ?_
  refine er_if_ne 60 d_Mo_giveBack_45 (by decide) (fun _ => ?_) (fun z => absurd z ((fun z => by have z2 : nI (fs.length + 1) = nI 0 := z.trans (by decide +kernel); rw [nI_eq (by omega) (by omega)] at z2; omega)))
  refine er_aload_n d_Mo_giveBack_60 rfl ?_
  refine er_iload_n d_Mo_giveBack_61 rfl ?_
  refine er_iload_n d_Mo_giveBack_62 rfl ?_
  refine er_callV (As := [.int (kdI (R (7 + b))), .int (V (7 + b))]) d_Mo_giveBack_63 k_Mo_giveBack_236 (jl_ss hO) rfl rfl rfl (Nat.le_of_ble_eq_true rfl) (by decide) (by decide) (mo_mput (d := fs.length) (h := hgt g.R) (a := (kdI (R (7 + b)))) (b := (V (7 + b))) hl (jl_ss hO) (jl_sn (by decide) f3) (jl_sn (by decide) f6) (jl_sn (by decide) f7) (by omega) hx2.2.1 (by omega)) ?_
  show jl_E l G m_Mo_giveBack (0, 0) 66 [some (.ref 22), some (.int (nI t)), some (.int (kdI (R (7 + b)))), some (.int (V (7 + b)))] [] ((((σ.set (22) (.inr (7, [.int (fa), .ref 23, .ref 24, .ref 25, .ref 26, .ref 27, .ref 28, .ref 29, .ref 30, .ref 31, .ref 32, .ref 33, .ref 34, .ref 35, .ref 36, .ref 37, .int (vf), .int (wh), .int (wy), .ref 38, .ref 39, .ref 40, .ref 41, .int (hg), .ref 42, .ref 43, .ref 44, .ref 45, .ref 46, .ref 47, .ref 48, .ref 49, .int (nI (fs.length + 1)), .ref 50, .ref 51, .ref 52, .int (nI (H.n)), .int (ov), .int (oh), .int (dn), .int (an)]))).set (49) (.inl (0, 65, .inl (upd vk (5 * fs.length + hgt g.R) (kdI (R (7 + b))))))).set (48) (.inl (0, 65, .inl (upd vl (5 * fs.length + hgt g.R) (V (7 + b)))))).set (45) (.inl (0, 13, .inl (fun j => nI ((va_up fh fs.length (hgt g.R + 1)) j))))) P
  refine er_aload_n d_Mo_giveBack_66 rfl ?_
  refine er_callV (As := []) d_Mo_giveBack_67 k_Mo_giveBack_261 (jl_sn (by decide) (jl_sn (by decide) (jl_sn (by decide) (jl_ss hO)))) rfl rfl rfl (Nat.le_of_ble_eq_true rfl) (by decide) (by decide) (mo_mnext (d := fs.length) (p := g.p) hl (jl_sn (by decide) (jl_sn (by decide) (jl_sn (by decide) (jl_ss hO)))) (jl_sn (by decide) (jl_sn (by decide) (jl_sn (by decide) (jl_sn (by decide) f2)))) (by omega) hx2.1.2.1) ?_
  show jl_E l G m_Mo_giveBack (0, 0) 70 [some (.ref 22), some (.int (nI t)), some (.int (kdI (R (7 + b)))), some (.int (V (7 + b)))] [] (((((σ.set (22) (.inr (7, [.int (fa), .ref 23, .ref 24, .ref 25, .ref 26, .ref 27, .ref 28, .ref 29, .ref 30, .ref 31, .ref 32, .ref 33, .ref 34, .ref 35, .ref 36, .ref 37, .int (vf), .int (wh), .int (wy), .ref 38, .ref 39, .ref 40, .ref 41, .int (hg), .ref 42, .ref 43, .ref 44, .ref 45, .ref 46, .ref 47, .ref 48, .ref 49, .int (nI (fs.length + 1)), .ref 50, .ref 51, .ref 52, .int (nI (H.n)), .int (ov), .int (oh), .int (dn), .int (an)]))).set (49) (.inl (0, 65, .inl (upd vk (5 * fs.length + hgt g.R) (kdI (R (7 + b))))))).set (48) (.inl (0, 65, .inl (upd vl (5 * fs.length + hgt g.R) (V (7 + b)))))).set (45) (.inl (0, 13, .inl (fun j => nI ((va_up fh fs.length (hgt g.R + 1)) j))))).set (44) (.inl (0, 13, .inl (fun j => nI ((va_up fp fs.length (g.p + 1)) j))))) P
  exact er_vret d_Mo_giveBack_70 rfl (hT _ ⟨_, _, _, _, _, _, _, _, _, _, _, _, (jl_sn (by decide) (jl_sn (by decide) (jl_sn (by decide) (jl_sn (by decide) (jl_ss hO))))), (jl_sn (by decide) (jl_sn (by decide) (jl_sn (by decide) (jl_sn (by decide) (jl_sn (by decide) f1))))), (jl_ss (jl_sn (by decide) (jl_sn (by decide) (jl_sn (by decide) (jl_sn (by decide) f2))))), (jl_sn (by decide) (jl_ss (jl_sn (by decide) (jl_sn (by decide) (jl_sn (by decide) f3))))), (jl_sn (by decide) (jl_sn (by decide) (jl_sn (by decide) (jl_sn (by decide) (jl_sn (by decide) f4))))), (jl_sn (by decide) (jl_sn (by decide) (jl_sn (by decide) (jl_sn (by decide) (jl_sn (by decide) f5))))), (jl_sn (by decide) (jl_sn (by decide) (jl_ss (jl_sn (by decide) (jl_sn (by decide) f6))))), (jl_sn (by decide) (jl_sn (by decide) (jl_sn (by decide) (jl_ss (jl_sn (by decide) f7))))), ⟨(jl_sn (by decide) (jl_sn (by decide) (jl_sn (by decide) (jl_sn (by decide) (jl_sn (by decide) k1))))), (jl_sn (by decide) (jl_sn (by decide) (jl_sn (by decide) (jl_sn (by decide) (jl_sn (by decide) k2))))), (jl_sn (by decide) (jl_sn (by decide) (jl_sn (by decide) (jl_sn (by decide) (jl_sn (by decide) k3)))))⟩, hB, ((hx2.putA (y := R (7 + b)) (v := V (7 + b)) (Nat.le_refl _) rfl).pc), ⟨⟨(jl_sn (by decide) (jl_sn (by decide) (jl_sn (by decide) (jl_sn (by decide) (jl_sn (by decide) r1))))), (jl_sn (by decide) (jl_sn (by decide) (jl_sn (by decide) (jl_sn (by decide) (jl_sn (by decide) r2)))))⟩, hlo, hsk⟩, (((((hF.set (by omega)).set (by omega)).set (by omega)).set (by omega)).set (by omega))⟩) (by decide) (by decide)
end JNxi
