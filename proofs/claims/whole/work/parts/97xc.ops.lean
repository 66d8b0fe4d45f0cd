/-! the model's machine: INSTRUCTIONS without SIGNALS (wip/gen/p97xc.py) -/
section JNxc
variable {l : Launch} {G : jl_G} {σ : jl_S}
variable {tb : Nat → Bool} {pr : Nat → Option Nat} {ow fi ft : Nat → Nat} {hs : Nat → Bool} {fa vf wh wy hg dp md ov oh dn an : Int32}
variable {u1 u2 : Nat → Option Nat} {ur ul uo : Nat → Nat} {ua : Nat → Int32} {uc us ut uk : Nat → Nat}
variable {σ0 : jl_S} {N t m p h b n : Nat} {R : Rw} {V : Nat → Int32} {fs : List Fm} {H : Hp} {fa vf wh wy hg ov oh dn an x a v : Int32} {y : Option Nat}
variable {fh : Nat → Nat} {vl vk : Nat → Int32} {dp md : Int32}
theorem mo_dropE {c : Nat} (hl : l.stackTraces = false) (hO : MoO σ fa vf wh wy hg (nI (t + 1)) md ov oh dn an) (f3 : σ[45]? = some (.inl (0, 13, .inl fun j => nI (fh j)))) (ht : t < 12) (hh : fh t = h) (hn : n ≤ h) (hc : h - n = c) : jl_m l G m_Mo_drop [.ref 22, .int (nI n)] σ (.inl none) (σ.set 45 (.inl (0, 13, .inl fun j => nI (va_up fh t c j)))) := by
  subst hc
  exact mo_mdrop hl hO f3 ht hh hn
theorem mo_topE (hl : l.stackTraces = false) (hO : MoO σ fa vf wh wy hg (nI (t + 1)) md ov oh dn an) (f3 : σ[45]? = some (.inl (0, 13, .inl fun j => nI (fh j)))) (f6 : σ[48]? = some (.inl (0, 65, .inl vl))) (ht : t < 12) (hh : fh t = h) (h5 : h ≤ 5) (h1 : 1 ≤ n) (hn : n ≤ h) (hv : vl (5 * t + h - n) = v) : jl_m l G m_Mo_top [.ref 22, .int (nI n)] σ (.inl (some (.int v))) σ := by
  subst hv
  exact mo_mtop hl hO f3 f6 ht hh h5 h1 hn
theorem d_Mo_become_0 : decode m_Mo_become.2.1 0 = .ok (.aload_n 0, 1) := by decide +kernel
theorem d_Mo_become_1 : decode m_Mo_become.2.1 1 = .ok (.iload_n 1, 1) := by decide +kernel
theorem k_Mo_become_242 : jl_cv m_Mo_become m_Mo_drop 242 1 = true := by decide +kernel
theorem d_Mo_become_2 : decode m_Mo_become.2.1 2 = .ok (.invokevirtual 242, 3) := by decide +kernel
theorem d_Mo_become_5 : decode m_Mo_become.2.1 5 = .ok (.aload_n 0, 1) := by decide +kernel
theorem d_Mo_become_6 : decode m_Mo_become.2.1 6 = .ok (.iconst 0, 1) := by decide +kernel
theorem d_Mo_become_7 : decode m_Mo_become.2.1 7 = .ok (.iload_n 2, 1) := by decide +kernel
theorem k_Mo_become_236 : jl_cv m_Mo_become m_Mo_put 236 2 = true := by decide +kernel
theorem d_Mo_become_8 : decode m_Mo_become.2.1 8 = .ok (.invokevirtual 236, 3) := by decide +kernel
theorem d_Mo_become_11 : decode m_Mo_become.2.1 11 = .ok (.return_, 1) := by decide +kernel
theorem mo_bec (hl : l.stackTraces = false)  (hO : MoO σ fa vf wh wy hg (nI (t + 1)) md ov oh dn an) (f3 : σ[45]? = some (.inl (0, 13, .inl fun j => nI (fh j)))) (f6 : σ[48]? = some (.inl (0, 65, .inl vl))) (f7 : σ[49]? = some (.inl (0, 65, .inl vk))) (ht : t < 12) (hfh : fh t = h + n) (h5 : h < 5) : jl_m l G m_Mo_become [.ref 22, .int (nI n), .int (v)] σ (.inl none) ((((σ.set 45 (.inl (0, 13, .inl fun j => nI (va_up fh t h j)))).set 49 (.inl (0, 65, .inl (upd vk (5 * t + h) (nI 0))))).set 48 (.inl (0, 65, .inl (upd vl (5 * t + h) v)))).set 45 (.inl (0, 13, .inl fun j => nI (va_up (va_up fh t h) t (h + 1) j)))) := by
  refine jl_of (as := [.ref 22, .int (nI n), .int (v)]) rfl (by decide) hl (jl_cc rfl (jl_cc rfl (jl_cc rfl jl_ca))) (Nat.le_of_ble_eq_true rfl) ?_
  show jl_W l G m_Mo_become (0, 0) 0 [some (.ref 22), some (.int (nI n)), some (.int (v))] [] (σ) (.inl none) ((((σ.set 45 (.inl (0, 13, .inl fun j => nI (va_up fh t h j)))).set 49 (.inl (0, 65, .inl (upd vk (5 * t + h) (nI 0))))).set 48 (.inl (0, 65, .inl (upd vl (5 * t + h) v)))).set 45 (.inl (0, 13, .inl fun j => nI (va_up (va_up fh t h) t (h + 1) j))))
  refine jr_aload_n d_Mo_become_0 rfl ?_
  refine jr_iload_n d_Mo_become_1 rfl ?_
  refine jr_callV (As := [.int (nI n)]) d_Mo_become_2 k_Mo_become_242 hO rfl rfl rfl (Nat.le_of_ble_eq_true rfl) (by decide) (by decide) ((by have z := mo_mdrop (G := G) (h := h + n) (n := n) hl hO f3 ht hfh (by omega); rw [Nat.add_sub_cancel] at z; exact z)) ?_
  show jl_W l G m_Mo_become (0, 0) 5 [some (.ref 22), some (.int (nI n)), some (.int (v))] [] (σ.set (45) (.inl (0, 13, .inl (fun j => nI ((va_up fh t h) j))))) (.inl none) ((((σ.set 45 (.inl (0, 13, .inl fun j => nI (va_up fh t h j)))).set 49 (.inl (0, 65, .inl (upd vk (5 * t + h) (nI 0))))).set 48 (.inl (0, 65, .inl (upd vl (5 * t + h) v)))).set 45 (.inl (0, 13, .inl fun j => nI (va_up (va_up fh t h) t (h + 1) j))))
  refine jr_aload_n d_Mo_become_5 rfl ?_
  refine jr_iconst ((nI (0))) d_Mo_become_6 (by decide) ?_
  refine jr_iload_n d_Mo_become_7 rfl ?_
  refine jr_callV (As := [.int (nI 0), .int (v)]) d_Mo_become_8 k_Mo_become_236 (jl_sn (by decide) hO) rfl rfl rfl (Nat.le_of_ble_eq_true rfl) (by decide) (by decide) (mo_mput (h := h) (a := nI 0) (b := v) hl (jl_sn (by decide) hO) (jl_ss f3) (jl_sn (by decide) f6) (jl_sn (by decide) f7) ht (va_up_self _ _ _) (by omega)) ?_
  show jl_W l G m_Mo_become (0, 0) 11 [some (.ref 22), some (.int (nI n)), some (.int (v))] [] ((((σ.set (45) (.inl (0, 13, .inl (fun j => nI ((va_up fh t h) j))))).set (49) (.inl (0, 65, .inl (upd vk (5 * t + h) (nI 0))))).set (48) (.inl (0, 65, .inl (upd vl (5 * t + h) v)))).set (45) (.inl (0, 13, .inl (fun j => nI ((va_up (va_up fh t h) t (h + 1)) j))))) (.inl none) ((((σ.set 45 (.inl (0, 13, .inl fun j => nI (va_up fh t h j)))).set 49 (.inl (0, 65, .inl (upd vk (5 * t + h) (nI 0))))).set 48 (.inl (0, 65, .inl (upd vl (5 * t + h) v)))).set 45 (.inl (0, 13, .inl fun j => nI (va_up (va_up fh t h) t (h + 1) j))))
  exact jr_vretE d_Mo_become_11 rfl (rfl) (rfl) (by decide) (by decide)
theorem d_Mo_arithmetic_0 : decode m_Mo_arithmetic.2.1 0 = .ok (.aload_n 0, 1) := by decide +kernel
theorem d_Mo_arithmetic_1 : decode m_Mo_arithmetic.2.1 1 = .ok (.iconst 2, 1) := by decide +kernel
theorem k_Mo_arithmetic_245 : jl_cv m_Mo_arithmetic m_Mo_top 245 1 = true := by decide +kernel
theorem d_Mo_arithmetic_2 : decode m_Mo_arithmetic.2.1 2 = .ok (.invokevirtual 245, 3) := by decide +kernel
theorem d_Mo_arithmetic_5 : decode m_Mo_arithmetic.2.1 5 = .ok (.istore_n 2, 1) := by decide +kernel
theorem d_Mo_arithmetic_6 : decode m_Mo_arithmetic.2.1 6 = .ok (.aload_n 0, 1) := by decide +kernel
theorem d_Mo_arithmetic_7 : decode m_Mo_arithmetic.2.1 7 = .ok (.iconst 1, 1) := by decide +kernel
theorem d_Mo_arithmetic_8 : decode m_Mo_arithmetic.2.1 8 = .ok (.invokevirtual 245, 3) := by decide +kernel
theorem d_Mo_arithmetic_11 : decode m_Mo_arithmetic.2.1 11 = .ok (.istore_n 3, 1) := by decide +kernel
theorem d_Mo_arithmetic_12 : decode m_Mo_arithmetic.2.1 12 = .ok (.iload_n 1, 1) := by decide +kernel
theorem d_Mo_arithmetic_13 : decode m_Mo_arithmetic.2.1 13 = .ok (.bipush 6, 2) := by decide +kernel
theorem d_Mo_arithmetic_15 : decode m_Mo_arithmetic.2.1 15 = .ok (.if_icmp .ne 13, 3) := by decide +kernel
theorem d_Mo_arithmetic_28 : decode m_Mo_arithmetic.2.1 28 = .ok (.aload_n 0, 1) := by decide +kernel
theorem d_Mo_arithmetic_29 : decode m_Mo_arithmetic.2.1 29 = .ok (.iconst 2, 1) := by decide +kernel
theorem d_Mo_arithmetic_30 : decode m_Mo_arithmetic.2.1 30 = .ok (.iload_n 1, 1) := by decide +kernel
theorem d_Mo_arithmetic_31 : decode m_Mo_arithmetic.2.1 31 = .ok (.iconst 3, 1) := by decide +kernel
theorem d_Mo_arithmetic_32 : decode m_Mo_arithmetic.2.1 32 = .ok (.if_icmp .ne 9, 3) := by decide +kernel
theorem d_Mo_arithmetic_35 : decode m_Mo_arithmetic.2.1 35 = .ok (.iload_n 2, 1) := by decide +kernel
theorem d_Mo_arithmetic_36 : decode m_Mo_arithmetic.2.1 36 = .ok (.iload_n 3, 1) := by decide +kernel
theorem d_Mo_arithmetic_37 : decode m_Mo_arithmetic.2.1 37 = .ok (.iadd, 1) := by decide +kernel
theorem d_Mo_arithmetic_38 : decode m_Mo_arithmetic.2.1 38 = .ok (.goto 28, 3) := by decide +kernel
theorem k_Mo_arithmetic_264 : jl_cv m_Mo_arithmetic m_Mo_become 264 2 = true := by decide +kernel
theorem d_Mo_arithmetic_66 : decode m_Mo_arithmetic.2.1 66 = .ok (.invokevirtual 264, 3) := by decide +kernel
theorem d_Mo_arithmetic_69 : decode m_Mo_arithmetic.2.1 69 = .ok (.aload_n 0, 1) := by decide +kernel
theorem k_Mo_arithmetic_261 : jl_cv m_Mo_arithmetic m_Mo_next 261 0 = true := by decide +kernel
theorem d_Mo_arithmetic_70 : decode m_Mo_arithmetic.2.1 70 = .ok (.invokevirtual 261, 3) := by decide +kernel
theorem d_Mo_arithmetic_73 : decode m_Mo_arithmetic.2.1 73 = .ok (.return_, 1) := by decide +kernel
theorem mo_ar_3 (hl : l.stackTraces = false) {P : jl_O → jl_S → Prop}  (hn : NB σ0 σ (b + 2) t m (p) (b + 2) (R) (V) (fs) (H) fa vf wh wy hg ov oh dn an) (ht : t < 12) (hb : b + 2 ≤ 5) (hp : b + 1 ≤ 5)  (hT : ∀ σ', NB σ0 σ' (b + 1) t m (p + 1) (b + 1) (psh R b (some 0)) (va_up V (7 + b) (V (7 + b) + V (8 + b))) (fs) (H) fa vf wh wy hg ov oh dn an → P (.inl none) σ') : jl_mE l G m_Mo_arithmetic [.ref 22, .int (nI 3)] σ P := by
  obtain ⟨fx, fp, fh, lw, lk, vl, vk, ks, kc, kv, lo, sk, hO, f1, f2, f3, f4, f5, f6, f7, hH, hB, hy1, hR1, hF⟩ := id hn
  obtain ⟨k1, k2, k3⟩ := id hH
  obtain ⟨⟨r1, r2⟩, hlo, hsk⟩ := id hR1
  obtain ⟨⟨hfx, hfp, hlc, hst⟩, hfh, hfs, hln⟩ := id hy1
  have hfx : fx t = m := hfx
  have hfp : fp t = p := hfp
  have hlc : ∀ k, k < 6 → lk (6 * t + k) = kdI (R k) ∧ (R k ≠ none → lw (6 * t + k) = V k) := hlc
  have hst : ∀ j, j < _ → vk (5 * t + j) = kdI (R (7 + j)) ∧ vl (5 * t + j) = V (7 + j) := hst
  have hS0 : vl (5 * t + (b)) = V (7 + b) := by rw [show 7 + b = 7 + (b) by omega]; exact (hst _ (by omega)).2
  have hK0 : vk (5 * t + (b)) = kdI (R (7 + b)) := by rw [show 7 + b = 7 + (b) by omega]; exact (hst _ (by omega)).1
  have hS1 : vl (5 * t + (b + 1)) = V (8 + b) := by rw [show 8 + b = 7 + (b + 1) by omega]; exact (hst _ (by omega)).2
  have hK1 : vk (5 * t + (b + 1)) = kdI (R (8 + b)) := by rw [show 8 + b = 7 + (b + 1) by omega]; exact (hst _ (by omega)).1
  refine jl_ofE (as := [.ref 22, .int (nI 3)]) rfl (by decide) hl (jl_cc rfl (jl_cc rfl jl_ca)) (Nat.le_of_ble_eq_true rfl) ?_
  show jl_E l G m_Mo_arithmetic (0, 0) 0 [some (.ref 22), some (.int (nI 3)), none, none] [] (σ) P
  refine er_aload_n d_Mo_arithmetic_0 rfl ?_
  refine er_iconst ((nI (2))) d_Mo_arithmetic_1 (by decide) ?_
  refine er_callV (As := [.int (nI 2)]) d_Mo_arithmetic_2 k_Mo_arithmetic_245 hO rfl rfl rfl (Nat.le_of_ble_eq_true rfl) (by decide) (by decide) (mo_topE (h := b + 2) (n := 2) (v := (V (7 + b))) hl hO f3 f6 ht hfh (by omega) (by omega) (by omega) (by rw [show 5 * t + (b + 2) - 2 = 5 * t + (b) by omega]; exact hS0)) ?_
  show jl_E l G m_Mo_arithmetic (0, 0) 5 [some (.ref 22), some (.int (nI 3)), none, none] [.int (V (7 + b))] (σ) P
  refine er_istore_n d_Mo_arithmetic_5 (by decide) ?_
  show jl_E l G m_Mo_arithmetic (0, 0) 6 [some (.ref 22), some (.int (nI 3)), some (.int (V (7 + b))), none] [] (σ) P
  refine er_aload_n d_Mo_arithmetic_6 rfl ?_
  refine er_iconst ((nI (1))) d_Mo_arithmetic_7 (by decide) ?_
  refine er_callV (As := [.int (nI 1)]) d_Mo_arithmetic_8 k_Mo_arithmetic_245 hO rfl rfl rfl (Nat.le_of_ble_eq_true rfl) (by decide) (by decide) (mo_topE (h := b + 2) (n := 1) (v := (V (8 + b))) hl hO f3 f6 ht hfh (by omega) (by omega) (by omega) (by rw [show 5 * t + (b + 2) - 1 = 5 * t + (b + 1) by omega]; exact hS1)) ?_
  show jl_E l G m_Mo_arithmetic (0, 0) 11 [some (.ref 22), some (.int (nI 3)), some (.int (V (7 + b))), none] [.int (V (8 + b))] (σ) P
  refine er_istore_n d_Mo_arithmetic_11 (by decide) ?_
  show jl_E l G m_Mo_arithmetic (0, 0) 12 [some (.ref 22), some (.int (nI 3)), some (.int (V (7 + b))), some (.int (V (8 + b)))] [] (σ) P
  refine er_iload_n d_Mo_arithmetic_12 rfl ?_
  refine er_bipush ((nI (6))) d_Mo_arithmetic_13 (by decide) ?_
  refine er_icmp_ne 28 d_Mo_arithmetic_15 (by decide) (fun _ => ?_) (fun z => absurd z (by decide))
  refine er_aload_n d_Mo_arithmetic_28 rfl ?_
  refine er_iconst ((nI (2))) d_Mo_arithmetic_29 (by decide) ?_
  refine er_iload_n d_Mo_arithmetic_30 rfl ?_
  refine er_iconst ((nI (3))) d_Mo_arithmetic_31 (by decide) ?_
  refine er_icmp_ne 41 d_Mo_arithmetic_32 (by decide) (fun z => absurd rfl z) (fun _ => ?_)
  refine er_iload_n d_Mo_arithmetic_35 rfl ?_
  refine er_iload_n d_Mo_arithmetic_36 rfl ?_
  refine er_iadd d_Mo_arithmetic_37 ?_
  refine er_goto 66 d_Mo_arithmetic_38 (by decide) ?_
  refine er_callV (As := [.int (nI 2), .int ((V (7 + b)) + (V (8 + b)))]) d_Mo_arithmetic_66 k_Mo_arithmetic_264 hO rfl rfl rfl (Nat.le_of_ble_eq_true rfl) (by decide) (by decide) (mo_bec (h := b) (n := 2) (v := ((V (7 + b)) + (V (8 + b)))) hl hO f3 f6 f7 ht hfh (by omega)) ?_
  show jl_E l G m_Mo_arithmetic (0, 0) 69 [some (.ref 22), some (.int (nI 3)), some (.int (V (7 + b))), some (.int (V (8 + b)))] [] ((((σ.set (45) (.inl (0, 13, .inl (fun j => nI ((va_up fh t (b)) j))))).set (49) (.inl (0, 65, .inl (upd vk (5 * t + (b)) (nI 0))))).set (48) (.inl (0, 65, .inl (upd vl (5 * t + (b)) ((V (7 + b)) + (V (8 + b))))))).set (45) (.inl (0, 13, .inl (fun j => nI ((va_up (va_up fh t (b)) t (b + 1)) j))))) P
  refine er_aload_n d_Mo_arithmetic_69 rfl ?_
  refine er_callV (As := []) d_Mo_arithmetic_70 k_Mo_arithmetic_261 (jl_sn (by decide) (jl_sn (by decide) (jl_sn (by decide) (jl_sn (by decide) hO)))) rfl rfl rfl (Nat.le_of_ble_eq_true rfl) (by decide) (by decide) (mo_mnext hl (jl_sn (by decide) (jl_sn (by decide) (jl_sn (by decide) (jl_sn (by decide) hO)))) (jl_sn (by decide) (jl_sn (by decide) (jl_sn (by decide) (jl_sn (by decide) f2)))) ht hfp) ?_
  show jl_E l G m_Mo_arithmetic (0, 0) 73 [some (.ref 22), some (.int (nI 3)), some (.int (V (7 + b))), some (.int (V (8 + b)))] [] (((((σ.set (45) (.inl (0, 13, .inl (fun j => nI ((va_up fh t (b)) j))))).set (49) (.inl (0, 65, .inl (upd vk (5 * t + (b)) (nI 0))))).set (48) (.inl (0, 65, .inl (upd vl (5 * t + (b)) ((V (7 + b)) + (V (8 + b))))))).set (45) (.inl (0, 13, .inl (fun j => nI ((va_up (va_up fh t (b)) t (b + 1)) j))))).set (44) (.inl (0, 13, .inl (fun j => nI ((va_up fp t (p + 1)) j))))) P
  exact er_vret d_Mo_arithmetic_73 rfl (hT _ ⟨_, _, _, _, _, _, _, _, _, _, _, _, (jl_sn (by decide) (jl_sn (by decide) (jl_sn (by decide) (jl_sn (by decide) (jl_sn (by decide) hO))))), (jl_sn (by decide) (jl_sn (by decide) (jl_sn (by decide) (jl_sn (by decide) (jl_sn (by decide) f1))))), (jl_ss (jl_sn (by decide) (jl_sn (by decide) (jl_sn (by decide) (jl_sn (by decide) f2))))), (jl_sn (by decide) (jl_ss (jl_sn (by decide) (jl_sn (by decide) (jl_ss f3))))), (jl_sn (by decide) (jl_sn (by decide) (jl_sn (by decide) (jl_sn (by decide) (jl_sn (by decide) f4))))), (jl_sn (by decide) (jl_sn (by decide) (jl_sn (by decide) (jl_sn (by decide) (jl_sn (by decide) f5))))), (jl_sn (by decide) (jl_sn (by decide) (jl_ss (jl_sn (by decide) (jl_sn (by decide) f6))))), (jl_sn (by decide) (jl_sn (by decide) (jl_sn (by decide) (jl_ss (jl_sn (by decide) f7))))), ⟨(jl_sn (by decide) (jl_sn (by decide) (jl_sn (by decide) (jl_sn (by decide) (jl_sn (by decide) k1))))), (jl_sn (by decide) (jl_sn (by decide) (jl_sn (by decide) (jl_sn (by decide) (jl_sn (by decide) k2))))), (jl_sn (by decide) (jl_sn (by decide) (jl_sn (by decide) (jl_sn (by decide) (jl_sn (by decide) k3)))))⟩, hB, (((((hy1).hg.putA (y := some 0) (by omega) rfl)).pc).le (by omega)), ⟨⟨(jl_sn (by decide) (jl_sn (by decide) (jl_sn (by decide) (jl_sn (by decide) (jl_sn (by decide) r1))))), (jl_sn (by decide) (jl_sn (by decide) (jl_sn (by decide) (jl_sn (by decide) (jl_sn (by decide) r2)))))⟩, hlo, hsk⟩, (((((hF.set (by omega)).set (by omega)).set (by omega)).set (by omega)).set (by omega))⟩) (by decide) (by decide)
theorem d_Mo_arithmetic_41 : decode m_Mo_arithmetic.2.1 41 = .ok (.iload_n 1, 1) := by decide +kernel
theorem d_Mo_arithmetic_42 : decode m_Mo_arithmetic.2.1 42 = .ok (.iconst 4, 1) := by decide +kernel
theorem d_Mo_arithmetic_43 : decode m_Mo_arithmetic.2.1 43 = .ok (.if_icmp .ne 9, 3) := by decide +kernel
theorem d_Mo_arithmetic_46 : decode m_Mo_arithmetic.2.1 46 = .ok (.iload_n 2, 1) := by decide +kernel
theorem d_Mo_arithmetic_47 : decode m_Mo_arithmetic.2.1 47 = .ok (.iload_n 3, 1) := by decide +kernel
theorem d_Mo_arithmetic_48 : decode m_Mo_arithmetic.2.1 48 = .ok (.isub, 1) := by decide +kernel
theorem d_Mo_arithmetic_49 : decode m_Mo_arithmetic.2.1 49 = .ok (.goto 17, 3) := by decide +kernel
theorem mo_ar_4 (hl : l.stackTraces = false) {P : jl_O → jl_S → Prop}  (hn : NB σ0 σ (b + 2) t m (p) (b + 2) (R) (V) (fs) (H) fa vf wh wy hg ov oh dn an) (ht : t < 12) (hb : b + 2 ≤ 5) (hp : b + 1 ≤ 5)  (hT : ∀ σ', NB σ0 σ' (b + 1) t m (p + 1) (b + 1) (psh R b (some 0)) (va_up V (7 + b) (V (7 + b) - V (8 + b))) (fs) (H) fa vf wh wy hg ov oh dn an → P (.inl none) σ') : jl_mE l G m_Mo_arithmetic [.ref 22, .int (nI 4)] σ P := by
  obtain ⟨fx, fp, fh, lw, lk, vl, vk, ks, kc, kv, lo, sk, hO, f1, f2, f3, f4, f5, f6, f7, hH, hB, hy1, hR1, hF⟩ := id hn
  obtain ⟨k1, k2, k3⟩ := id hH
  obtain ⟨⟨r1, r2⟩, hlo, hsk⟩ := id hR1
  obtain ⟨⟨hfx, hfp, hlc, hst⟩, hfh, hfs, hln⟩ := id hy1
  have hfx : fx t = m := hfx
  have hfp : fp t = p := hfp
  have hlc : ∀ k, k < 6 → lk (6 * t + k) = kdI (R k) ∧ (R k ≠ none → lw (6 * t + k) = V k) := hlc
  have hst : ∀ j, j < _ → vk (5 * t + j) = kdI (R (7 + j)) ∧ vl (5 * t + j) = V (7 + j) := hst
  have hS0 : vl (5 * t + (b)) = V (7 + b) := by rw [show 7 + b = 7 + (b) by omega]; exact (hst _ (by omega)).2
  have hK0 : vk (5 * t + (b)) = kdI (R (7 + b)) := by rw [show 7 + b = 7 + (b) by omega]; exact (hst _ (by omega)).1
  have hS1 : vl (5 * t + (b + 1)) = V (8 + b) := by rw [show 8 + b = 7 + (b + 1) by omega]; exact (hst _ (by omega)).2
  have hK1 : vk (5 * t + (b + 1)) = kdI (R (8 + b)) := by rw [show 8 + b = 7 + (b + 1) by omega]; exact (hst _ (by omega)).1
  refine jl_ofE (as := [.ref 22, .int (nI 4)]) rfl (by decide) hl (jl_cc rfl (jl_cc rfl jl_ca)) (Nat.le_of_ble_eq_true rfl) ?_
  show jl_E l G m_Mo_arithmetic (0, 0) 0 [some (.ref 22), some (.int (nI 4)), none, none] [] (σ) P
  refine er_aload_n d_Mo_arithmetic_0 rfl ?_
  refine er_iconst ((nI (2))) d_Mo_arithmetic_1 (by decide) ?_
  refine er_callV (As := [.int (nI 2)]) d_Mo_arithmetic_2 k_Mo_arithmetic_245 hO rfl rfl rfl (Nat.le_of_ble_eq_true rfl) (by decide) (by decide) (mo_topE (h := b + 2) (n := 2) (v := (V (7 + b))) hl hO f3 f6 ht hfh (by omega) (by omega) (by omega) (by rw [show 5 * t + (b + 2) - 2 = 5 * t + (b) by omega]; exact hS0)) ?_
  show jl_E l G m_Mo_arithmetic (0, 0) 5 [some (.ref 22), some (.int (nI 4)), none, none] [.int (V (7 + b))] (σ) P
  refine er_istore_n d_Mo_arithmetic_5 (by decide) ?_
  show jl_E l G m_Mo_arithmetic (0, 0) 6 [some (.ref 22), some (.int (nI 4)), some (.int (V (7 + b))), none] [] (σ) P
  refine er_aload_n d_Mo_arithmetic_6 rfl ?_
  refine er_iconst ((nI (1))) d_Mo_arithmetic_7 (by decide) ?_
  refine er_callV (As := [.int (nI 1)]) d_Mo_arithmetic_8 k_Mo_arithmetic_245 hO rfl rfl rfl (Nat.le_of_ble_eq_true rfl) (by decide) (by decide) (mo_topE (h := b + 2) (n := 1) (v := (V (8 + b))) hl hO f3 f6 ht hfh (by omega) (by omega) (by omega) (by rw [show 5 * t + (b + 2) - 1 = 5 * t + (b + 1) by omega]; exact hS1)) ?_
  show jl_E l G m_Mo_arithmetic (0, 0) 11 [some (.ref 22), some (.int (nI 4)), some (.int (V (7 + b))), none] [.int (V (8 + b))] (σ) P
  refine er_istore_n d_Mo_arithmetic_11 (by decide) ?_
  show jl_E l G m_Mo_arithmetic (0, 0) 12 [some (.ref 22), some (.int (nI 4)), some (.int (V (7 + b))), some (.int (V (8 + b)))] [] (σ) P
  refine er_iload_n d_Mo_arithmetic_12 rfl ?_
  refine er_bipush ((nI (6))) d_Mo_arithmetic_13 (by decide) ?_
  refine er_icmp_ne 28 d_Mo_arithmetic_15 (by decide) (fun _ => ?_) (fun z => absurd z (by decide))
  refine er_aload_n d_Mo_arithmetic_28 rfl ?_
  refine er_iconst ((nI (2))) d_Mo_arithmetic_29 (by decide) ?_
  refine er_iload_n d_Mo_arithmetic_30 rfl ?_
  refine er_iconst ((nI (3))) d_Mo_arithmetic_31 (by decide) ?_
  refine er_icmp_ne 41 d_Mo_arithmetic_32 (by decide) (fun _ => ?_) (fun z => absurd z (by decide))
  refine er_iload_n d_Mo_arithmetic_41 rfl ?_
  refine er_iconst ((nI (4))) d_Mo_arithmetic_42 (by decide) ?_
  refine er_icmp_ne 52 d_Mo_arithmetic_43 (by decide) (fun z => absurd rfl z) (fun _ => ?_)
  refine er_iload_n d_Mo_arithmetic_46 rfl ?_
  refine er_iload_n d_Mo_arithmetic_47 rfl ?_
  refine er_isub d_Mo_arithmetic_48 ?_
  refine er_goto 66 d_Mo_arithmetic_49 (by decide) ?_
  refine er_callV (As := [.int (nI 2), .int ((V (7 + b)) - (V (8 + b)))]) d_Mo_arithmetic_66 k_Mo_arithmetic_264 hO rfl rfl rfl (Nat.le_of_ble_eq_true rfl) (by decide) (by decide) (mo_bec (h := b) (n := 2) (v := ((V (7 + b)) - (V (8 + b)))) hl hO f3 f6 f7 ht hfh (by omega)) ?_
  show jl_E l G m_Mo_arithmetic (0, 0) 69 [some (.ref 22), some (.int (nI 4)), some (.int (V (7 + b))), some (.int (V (8 + b)))] [] ((((σ.set (45) (.inl (0, 13, .inl (fun j => nI ((va_up fh t (b)) j))))).set (49) (.inl (0, 65, .inl (upd vk (5 * t + (b)) (nI 0))))).set (48) (.inl (0, 65, .inl (upd vl (5 * t + (b)) ((V (7 + b)) - (V (8 + b))))))).set (45) (.inl (0, 13, .inl (fun j => nI ((va_up (va_up fh t (b)) t (b + 1)) j))))) P
  refine er_aload_n d_Mo_arithmetic_69 rfl ?_
  refine er_callV (As := []) d_Mo_arithmetic_70 k_Mo_arithmetic_261 (jl_sn (by decide) (jl_sn (by decide) (jl_sn (by decide) (jl_sn (by decide) hO)))) rfl rfl rfl (Nat.le_of_ble_eq_true rfl) (by decide) (by decide) (mo_mnext hl (jl_sn (by decide) (jl_sn (by decide) (jl_sn (by decide) (jl_sn (by decide) hO)))) (jl_sn (by decide) (jl_sn (by decide) (jl_sn (by decide) (jl_sn (by decide) f2)))) ht hfp) ?_
  show jl_E l G m_Mo_arithmetic (0, 0) 73 [some (.ref 22), some (.int (nI 4)), some (.int (V (7 + b))), some (.int (V (8 + b)))] [] (((((σ.set (45) (.inl (0, 13, .inl (fun j => nI ((va_up fh t (b)) j))))).set (49) (.inl (0, 65, .inl (upd vk (5 * t + (b)) (nI 0))))).set (48) (.inl (0, 65, .inl (upd vl (5 * t + (b)) ((V (7 + b)) - (V (8 + b))))))).set (45) (.inl (0, 13, .inl (fun j => nI ((va_up (va_up fh t (b)) t (b + 1)) j))))).set (44) (.inl (0, 13, .inl (fun j => nI ((va_up fp t (p + 1)) j))))) P
  exact er_vret d_Mo_arithmetic_73 rfl (hT _ ⟨_, _, _, _, _, _, _, _, _, _, _, _, (jl_sn (by decide) (jl_sn (by decide) (jl_sn (by decide) (jl_sn (by decide) (jl_sn (by decide) hO))))), (jl_sn (by decide) (jl_sn (by decide) (jl_sn (by decide) (jl_sn (by decide) (jl_sn (by decide) f1))))), (jl_ss (jl_sn (by decide) (jl_sn (by decide) (jl_sn (by decide) (jl_sn (by decide) f2))))), (jl_sn (by decide) (jl_ss (jl_sn (by decide) (jl_sn (by decide) (jl_ss f3))))), (jl_sn (by decide) (jl_sn (by decide) (jl_sn (by decide) (jl_sn (by decide) (jl_sn (by decide) f4))))), (jl_sn (by decide) (jl_sn (by decide) (jl_sn (by decide) (jl_sn (by decide) (jl_sn (by decide) f5))))), (jl_sn (by decide) (jl_sn (by decide) (jl_ss (jl_sn (by decide) (jl_sn (by decide) f6))))), (jl_sn (by decide) (jl_sn (by decide) (jl_sn (by decide) (jl_ss (jl_sn (by decide) f7))))), ⟨(jl_sn (by decide) (jl_sn (by decide) (jl_sn (by decide) (jl_sn (by decide) (jl_sn (by decide) k1))))), (jl_sn (by decide) (jl_sn (by decide) (jl_sn (by decide) (jl_sn (by decide) (jl_sn (by decide) k2))))), (jl_sn (by decide) (jl_sn (by decide) (jl_sn (by decide) (jl_sn (by decide) (jl_sn (by decide) k3)))))⟩, hB, (((((hy1).hg.putA (y := some 0) (by omega) rfl)).pc).le (by omega)), ⟨⟨(jl_sn (by decide) (jl_sn (by decide) (jl_sn (by decide) (jl_sn (by decide) (jl_sn (by decide) r1))))), (jl_sn (by decide) (jl_sn (by decide) (jl_sn (by decide) (jl_sn (by decide) (jl_sn (by decide) r2)))))⟩, hlo, hsk⟩, (((((hF.set (by omega)).set (by omega)).set (by omega)).set (by omega)).set (by omega))⟩) (by decide) (by decide)
theorem d_Mo_arithmetic_52 : decode m_Mo_arithmetic.2.1 52 = .ok (.iload_n 1, 1) := by decide +kernel
theorem d_Mo_arithmetic_53 : decode m_Mo_arithmetic.2.1 53 = .ok (.iconst 5, 1) := by decide +kernel
theorem d_Mo_arithmetic_54 : decode m_Mo_arithmetic.2.1 54 = .ok (.if_icmp .ne 9, 3) := by decide +kernel
theorem d_Mo_arithmetic_57 : decode m_Mo_arithmetic.2.1 57 = .ok (.iload_n 2, 1) := by decide +kernel
theorem d_Mo_arithmetic_58 : decode m_Mo_arithmetic.2.1 58 = .ok (.iload_n 3, 1) := by decide +kernel
theorem d_Mo_arithmetic_59 : decode m_Mo_arithmetic.2.1 59 = .ok (.imul, 1) := by decide +kernel
theorem d_Mo_arithmetic_60 : decode m_Mo_arithmetic.2.1 60 = .ok (.goto 6, 3) := by decide +kernel
theorem mo_ar_5 (hl : l.stackTraces = false) {P : jl_O → jl_S → Prop}  (hn : NB σ0 σ (b + 2) t m (p) (b + 2) (R) (V) (fs) (H) fa vf wh wy hg ov oh dn an) (ht : t < 12) (hb : b + 2 ≤ 5) (hp : b + 1 ≤ 5)  (hT : ∀ σ', NB σ0 σ' (b + 1) t m (p + 1) (b + 1) (psh R b (some 0)) (va_up V (7 + b) (V (7 + b) * V (8 + b))) (fs) (H) fa vf wh wy hg ov oh dn an → P (.inl none) σ') : jl_mE l G m_Mo_arithmetic [.ref 22, .int (nI 5)] σ P := by
  obtain ⟨fx, fp, fh, lw, lk, vl, vk, ks, kc, kv, lo, sk, hO, f1, f2, f3, f4, f5, f6, f7, hH, hB, hy1, hR1, hF⟩ := id hn
  obtain ⟨k1, k2, k3⟩ := id hH
  obtain ⟨⟨r1, r2⟩, hlo, hsk⟩ := id hR1
  obtain ⟨⟨hfx, hfp, hlc, hst⟩, hfh, hfs, hln⟩ := id hy1
  have hfx : fx t = m := hfx
  have hfp : fp t = p := hfp
  have hlc : ∀ k, k < 6 → lk (6 * t + k) = kdI (R k) ∧ (R k ≠ none → lw (6 * t + k) = V k) := hlc
  have hst : ∀ j, j < _ → vk (5 * t + j) = kdI (R (7 + j)) ∧ vl (5 * t + j) = V (7 + j) := hst
  have hS0 : vl (5 * t + (b)) = V (7 + b) := by rw [show 7 + b = 7 + (b) by omega]; exact (hst _ (by omega)).2
  have hK0 : vk (5 * t + (b)) = kdI (R (7 + b)) := by rw [show 7 + b = 7 + (b) by omega]; exact (hst _ (by omega)).1
  have hS1 : vl (5 * t + (b + 1)) = V (8 + b) := by rw [show 8 + b = 7 + (b + 1) by omega]; exact (hst _ (by omega)).2
  have hK1 : vk (5 * t + (b + 1)) = kdI (R (8 + b)) := by rw [show 8 + b = 7 + (b + 1) by omega]; exact (hst _ (by omega)).1
  refine jl_ofE (as := [.ref 22, .int (nI 5)]) rfl (by decide) hl (jl_cc rfl (jl_cc rfl jl_ca)) (Nat.le_of_ble_eq_true rfl) ?_
  show jl_E l G m_Mo_arithmetic (0, 0) 0 [some (.ref 22), some (.int (nI 5)), none, none] [] (σ) P
  refine er_aload_n d_Mo_arithmetic_0 rfl ?_
  refine er_iconst ((nI (2))) d_Mo_arithmetic_1 (by decide) ?_
  refine er_callV (As := [.int (nI 2)]) d_Mo_arithmetic_2 k_Mo_arithmetic_245 hO rfl rfl rfl (Nat.le_of_ble_eq_true rfl) (by decide) (by decide) (mo_topE (h := b + 2) (n := 2) (v := (V (7 + b))) hl hO f3 f6 ht hfh (by omega) (by omega) (by omega) (by rw [show 5 * t + (b + 2) - 2 = 5 * t + (b) by omega]; exact hS0)) ?_
  show jl_E l G m_Mo_arithmetic (0, 0) 5 [some (.ref 22), some (.int (nI 5)), none, none] [.int (V (7 + b))] (σ) P
  refine er_istore_n d_Mo_arithmetic_5 (by decide) ?_
  show jl_E l G m_Mo_arithmetic (0, 0) 6 [some (.ref 22), some (.int (nI 5)), some (.int (V (7 + b))), none] [] (σ) P
  refine er_aload_n d_Mo_arithmetic_6 rfl ?_
  refine er_iconst ((nI (1))) d_Mo_arithmetic_7 (by decide) ?_
  refine er_callV (As := [.int (nI 1)]) d_Mo_arithmetic_8 k_Mo_arithmetic_245 hO rfl rfl rfl (Nat.le_of_ble_eq_true rfl) (by decide) (by decide) (mo_topE (h := b + 2) (n := 1) (v := (V (8 + b))) hl hO f3 f6 ht hfh (by omega) (by omega) (by omega) (by rw [show 5 * t + (b + 2) - 1 = 5 * t + (b + 1) by omega]; exact hS1)) ?_
  show jl_E l G m_Mo_arithmetic (0, 0) 11 [some (.ref 22), some (.int (nI 5)), some (.int (V (7 + b))), none] [.int (V (8 + b))] (σ) P
  refine er_istore_n d_Mo_arithmetic_11 (by decide) ?_
  show jl_E l G m_Mo_arithmetic (0, 0) 12 [some (.ref 22), some (.int (nI 5)), some (.int (V (7 + b))), some (.int (V (8 + b)))] [] (σ) P
  refine er_iload_n d_Mo_arithmetic_12 rfl ?_
  refine er_bipush ((nI (6))) d_Mo_arithmetic_13 (by decide) ?_
  refine er_icmp_ne 28 d_Mo_arithmetic_15 (by decide) (fun _ => ?_) (fun z => absurd z (by decide))
  refine er_aload_n d_Mo_arithmetic_28 rfl ?_
  refine er_iconst ((nI (2))) d_Mo_arithmetic_29 (by decide) ?_
  refine er_iload_n d_Mo_arithmetic_30 rfl ?_
  refine er_iconst ((nI (3))) d_Mo_arithmetic_31 (by decide) ?_
  refine er_icmp_ne 41 d_Mo_arithmetic_32 (by decide) (fun _ => ?_) (fun z => absurd z (by decide))
  refine er_iload_n d_Mo_arithmetic_41 rfl ?_
  refine er_iconst ((nI (4))) d_Mo_arithmetic_42 (by decide) ?_
  refine er_icmp_ne 52 d_Mo_arithmetic_43 (by decide) (fun _ => ?_) (fun z => absurd z (by decide))
  refine er_iload_n d_Mo_arithmetic_52 rfl ?_
  refine er_iconst ((nI (5))) d_Mo_arithmetic_53 (by decide) ?_
  refine er_icmp_ne 63 d_Mo_arithmetic_54 (by decide) (fun z => absurd rfl z) (fun _ => ?_)
  refine er_iload_n d_Mo_arithmetic_57 rfl ?_
  refine er_iload_n d_Mo_arithmetic_58 rfl ?_
  refine er_imul d_Mo_arithmetic_59 ?_
  refine er_goto 66 d_Mo_arithmetic_60 (by decide) ?_
  refine er_callV (As := [.int (nI 2), .int ((V (7 + b)) * (V (8 + b)))]) d_Mo_arithmetic_66 k_Mo_arithmetic_264 hO rfl rfl rfl (Nat.le_of_ble_eq_true rfl) (by decide) (by decide) (mo_bec (h := b) (n := 2) (v := ((V (7 + b)) * (V (8 + b)))) hl hO f3 f6 f7 ht hfh (by omega)) ?_
  show jl_E l G m_Mo_arithmetic (0, 0) 69 [some (.ref 22), some (.int (nI 5)), some (.int (V (7 + b))), some (.int (V (8 + b)))] [] ((((σ.set (45) (.inl (0, 13, .inl (fun j => nI ((va_up fh t (b)) j))))).set (49) (.inl (0, 65, .inl (upd vk (5 * t + (b)) (nI 0))))).set (48) (.inl (0, 65, .inl (upd vl (5 * t + (b)) ((V (7 + b)) * (V (8 + b))))))).set (45) (.inl (0, 13, .inl (fun j => nI ((va_up (va_up fh t (b)) t (b + 1)) j))))) P
  refine er_aload_n d_Mo_arithmetic_69 rfl ?_
  refine er_callV (As := []) d_Mo_arithmetic_70 k_Mo_arithmetic_261 (jl_sn (by decide) (jl_sn (by decide) (jl_sn (by decide) (jl_sn (by decide) hO)))) rfl rfl rfl (Nat.le_of_ble_eq_true rfl) (by decide) (by decide) (mo_mnext hl (jl_sn (by decide) (jl_sn (by decide) (jl_sn (by decide) (jl_sn (by decide) hO)))) (jl_sn (by decide) (jl_sn (by decide) (jl_sn (by decide) (jl_sn (by decide) f2)))) ht hfp) ?_
  show jl_E l G m_Mo_arithmetic (0, 0) 73 [some (.ref 22), some (.int (nI 5)), some (.int (V (7 + b))), some (.int (V (8 + b)))] [] (((((σ.set (45) (.inl (0, 13, .inl (fun j => nI ((va_up fh t (b)) j))))).set (49) (.inl (0, 65, .inl (upd vk (5 * t + (b)) (nI 0))))).set (48) (.inl (0, 65, .inl (upd vl (5 * t + (b)) ((V (7 + b)) * (V (8 + b))))))).set (45) (.inl (0, 13, .inl (fun j => nI ((va_up (va_up fh t (b)) t (b + 1)) j))))).set (44) (.inl (0, 13, .inl (fun j => nI ((va_up fp t (p + 1)) j))))) P
  exact er_vret d_Mo_arithmetic_73 rfl (hT _ ⟨_, _, _, _, _, _, _, _, _, _, _, _, (jl_sn (by decide) (jl_sn (by decide) (jl_sn (by decide) (jl_sn (by decide) (jl_sn (by decide) hO))))), (jl_sn (by decide) (jl_sn (by decide) (jl_sn (by decide) (jl_sn (by decide) (jl_sn (by decide) f1))))), (jl_ss (jl_sn (by decide) (jl_sn (by decide) (jl_sn (by decide) (jl_sn (by decide) f2))))), (jl_sn (by decide) (jl_ss (jl_sn (by decide) (jl_sn (by decide) (jl_ss f3))))), (jl_sn (by decide) (jl_sn (by decide) (jl_sn (by decide) (jl_sn (by decide) (jl_sn (by decide) f4))))), (jl_sn (by decide) (jl_sn (by decide) (jl_sn (by decide) (jl_sn (by decide) (jl_sn (by decide) f5))))), (jl_sn (by decide) (jl_sn (by decide) (jl_ss (jl_sn (by decide) (jl_sn (by decide) f6))))), (jl_sn (by decide) (jl_sn (by decide) (jl_sn (by decide) (jl_ss (jl_sn (by decide) f7))))), ⟨(jl_sn (by decide) (jl_sn (by decide) (jl_sn (by decide) (jl_sn (by decide) (jl_sn (by decide) k1))))), (jl_sn (by decide) (jl_sn (by decide) (jl_sn (by decide) (jl_sn (by decide) (jl_sn (by decide) k2))))), (jl_sn (by decide) (jl_sn (by decide) (jl_sn (by decide) (jl_sn (by decide) (jl_sn (by decide) k3)))))⟩, hB, (((((hy1).hg.putA (y := some 0) (by omega) rfl)).pc).le (by omega)), ⟨⟨(jl_sn (by decide) (jl_sn (by decide) (jl_sn (by decide) (jl_sn (by decide) (jl_sn (by decide) r1))))), (jl_sn (by decide) (jl_sn (by decide) (jl_sn (by decide) (jl_sn (by decide) (jl_sn (by decide) r2)))))⟩, hlo, hsk⟩, (((((hF.set (by omega)).set (by omega)).set (by omega)).set (by omega)).set (by omega))⟩) (by decide) (by decide)
theorem d_Mo_arithmetic_18 : decode m_Mo_arithmetic.2.1 18 = .ok (.iload_n 3, 1) := by decide +kernel
theorem d_Mo_arithmetic_19 : decode m_Mo_arithmetic.2.1 19 = .ok (.ifCond .ne 9, 3) := by decide +kernel
theorem d_Mo_arithmetic_63 : decode m_Mo_arithmetic.2.1 63 = .ok (.iload_n 2, 1) := by decide +kernel
theorem d_Mo_arithmetic_64 : decode m_Mo_arithmetic.2.1 64 = .ok (.iload_n 3, 1) := by decide +kernel
theorem d_Mo_arithmetic_65 : decode m_Mo_arithmetic.2.1 65 = .ok (.idiv, 1) := by decide +kernel
theorem mo_ar_6 (hl : l.stackTraces = false) {P : jl_O → jl_S → Prop}  (hn : NB σ0 σ (b + 2) t m (p) (b + 2) (R) (V) (fs) (H) fa vf wh wy hg ov oh dn an) (ht : t < 12) (hb : b + 2 ≤ 5) (hp : b + 1 ≤ 5) (hq0 : ¬ V (8 + b) = 0) (hT : ∀ σ', NB σ0 σ' (b + 1) t m (p + 1) (b + 1) (psh R b (some 0)) (va_up V (7 + b) (V (7 + b) / V (8 + b))) (fs) (H) fa vf wh wy hg ov oh dn an → P (.inl none) σ') : jl_mE l G m_Mo_arithmetic [.ref 22, .int (nI 6)] σ P := by
  obtain ⟨fx, fp, fh, lw, lk, vl, vk, ks, kc, kv, lo, sk, hO, f1, f2, f3, f4, f5, f6, f7, hH, hB, hy1, hR1, hF⟩ := id hn
  obtain ⟨k1, k2, k3⟩ := id hH
  obtain ⟨⟨r1, r2⟩, hlo, hsk⟩ := id hR1
  obtain ⟨⟨hfx, hfp, hlc, hst⟩, hfh, hfs, hln⟩ := id hy1
  have hfx : fx t = m := hfx
  have hfp : fp t = p := hfp
  have hlc : ∀ k, k < 6 → lk (6 * t + k) = kdI (R k) ∧ (R k ≠ none → lw (6 * t + k) = V k) := hlc
  have hst : ∀ j, j < _ → vk (5 * t + j) = kdI (R (7 + j)) ∧ vl (5 * t + j) = V (7 + j) := hst
  have hS0 : vl (5 * t + (b)) = V (7 + b) := by rw [show 7 + b = 7 + (b) by omega]; exact (hst _ (by omega)).2
  have hK0 : vk (5 * t + (b)) = kdI (R (7 + b)) := by rw [show 7 + b = 7 + (b) by omega]; exact (hst _ (by omega)).1
  have hS1 : vl (5 * t + (b + 1)) = V (8 + b) := by rw [show 8 + b = 7 + (b + 1) by omega]; exact (hst _ (by omega)).2
  have hK1 : vk (5 * t + (b + 1)) = kdI (R (8 + b)) := by rw [show 8 + b = 7 + (b + 1) by omega]; exact (hst _ (by omega)).1
  refine jl_ofE (as := [.ref 22, .int (nI 6)]) rfl (by decide) hl (jl_cc rfl (jl_cc rfl jl_ca)) (Nat.le_of_ble_eq_true rfl) ?_
  show jl_E l G m_Mo_arithmetic (0, 0) 0 [some (.ref 22), some (.int (nI 6)), none, none] [] (σ) P
  refine er_aload_n d_Mo_arithmetic_0 rfl ?_
  refine er_iconst ((nI (2))) d_Mo_arithmetic_1 (by decide) ?_
  refine er_callV (As := [.int (nI 2)]) d_Mo_arithmetic_2 k_Mo_arithmetic_245 hO rfl rfl rfl (Nat.le_of_ble_eq_true rfl) (by decide) (by decide) (mo_topE (h := b + 2) (n := 2) (v := (V (7 + b))) hl hO f3 f6 ht hfh (by omega) (by omega) (by omega) (by rw [show 5 * t + (b + 2) - 2 = 5 * t + (b) by omega]; exact hS0)) ?_
  show jl_E l G m_Mo_arithmetic (0, 0) 5 [some (.ref 22), some (.int (nI 6)), none, none] [.int (V (7 + b))] (σ) P
  refine er_istore_n d_Mo_arithmetic_5 (by decide) ?_
  show jl_E l G m_Mo_arithmetic (0, 0) 6 [some (.ref 22), some (.int (nI 6)), some (.int (V (7 + b))), none] [] (σ) P
  refine er_aload_n d_Mo_arithmetic_6 rfl ?_
  refine er_iconst ((nI (1))) d_Mo_arithmetic_7 (by decide) ?_
  refine er_callV (As := [.int (nI 1)]) d_Mo_arithmetic_8 k_Mo_arithmetic_245 hO rfl rfl rfl (Nat.le_of_ble_eq_true rfl) (by decide) (by decide) (mo_topE (h := b + 2) (n := 1) (v := (V (8 + b))) hl hO f3 f6 ht hfh (by omega) (by omega) (by omega) (by rw [show 5 * t + (b + 2) - 1 = 5 * t + (b + 1) by omega]; exact hS1)) ?_
  show jl_E l G m_Mo_arithmetic (0, 0) 11 [some (.ref 22), some (.int (nI 6)), some (.int (V (7 + b))), none] [.int (V (8 + b))] (σ) P
  refine er_istore_n d_Mo_arithmetic_11 (by decide) ?_
  show jl_E l G m_Mo_arithmetic (0, 0) 12 [some (.ref 22), some (.int (nI 6)), some (.int (V (7 + b))), some (.int (V (8 + b)))] [] (σ) P
  refine er_iload_n d_Mo_arithmetic_12 rfl ?_
  refine er_bipush ((nI (6))) d_Mo_arithmetic_13 (by decide) ?_
  refine er_icmp_ne 28 d_Mo_arithmetic_15 (by decide) (fun z => absurd rfl z) (fun _ => ?_)
  refine er_iload_n d_Mo_arithmetic_18 rfl ?_
  refine er_if_ne 28 d_Mo_arithmetic_19 (by decide) (fun _ => ?_) (fun z => absurd z (hq0))
  refine er_aload_n d_Mo_arithmetic_28 rfl ?_
  refine er_iconst ((nI (2))) d_Mo_arithmetic_29 (by decide) ?_
  refine er_iload_n d_Mo_arithmetic_30 rfl ?_
  refine er_iconst ((nI (3))) d_Mo_arithmetic_31 (by decide) ?_
  refine er_icmp_ne 41 d_Mo_arithmetic_32 (by decide) (fun _ => ?_) (fun z => absurd z (by decide))
  refine er_iload_n d_Mo_arithmetic_41 rfl ?_
  refine er_iconst ((nI (4))) d_Mo_arithmetic_42 (by decide) ?_
  refine er_icmp_ne 52 d_Mo_arithmetic_43 (by decide) (fun _ => ?_) (fun z => absurd z (by decide))
  refine er_iload_n d_Mo_arithmetic_52 rfl ?_
  refine er_iconst ((nI (5))) d_Mo_arithmetic_53 (by decide) ?_
  refine er_icmp_ne 63 d_Mo_arithmetic_54 (by decide) (fun _ => ?_) (fun z => absurd z (by decide))
  refine er_iload_n d_Mo_arithmetic_63 rfl ?_
  refine er_iload_n d_Mo_arithmetic_64 rfl ?_
  refine er_idiv d_Mo_arithmetic_65 (by assumption) ?_
  refine er_callV (As := [.int (nI 2), .int ((V (7 + b)) / (V (8 + b)))]) d_Mo_arithmetic_66 k_Mo_arithmetic_264 hO rfl rfl rfl (Nat.le_of_ble_eq_true rfl) (by decide) (by decide) (mo_bec (h := b) (n := 2) (v := ((V (7 + b)) / (V (8 + b)))) hl hO f3 f6 f7 ht hfh (by omega)) ?_
  show jl_E l G m_Mo_arithmetic (0, 0) 69 [some (.ref 22), some (.int (nI 6)), some (.int (V (7 + b))), some (.int (V (8 + b)))] [] ((((σ.set (45) (.inl (0, 13, .inl (fun j => nI ((va_up fh t (b)) j))))).set (49) (.inl (0, 65, .inl (upd vk (5 * t + (b)) (nI 0))))).set (48) (.inl (0, 65, .inl (upd vl (5 * t + (b)) ((V (7 + b)) / (V (8 + b))))))).set (45) (.inl (0, 13, .inl (fun j => nI ((va_up (va_up fh t (b)) t (b + 1)) j))))) P
  refine er_aload_n d_Mo_arithmetic_69 rfl ?_
  refine er_callV (As := []) d_Mo_arithmetic_70 k_Mo_arithmetic_261 (jl_sn (by decide) (jl_sn (by decide) (jl_sn (by decide) (jl_sn (by decide) hO)))) rfl rfl rfl (Nat.le_of_ble_eq_true rfl) (by decide) (by decide) (mo_mnext hl (jl_sn (by decide) (jl_sn (by decide) (jl_sn (by decide) (jl_sn (by decide) hO)))) (jl_sn (by decide) (jl_sn (by decide) (jl_sn (by decide) (jl_sn (by decide) f2)))) ht hfp) ?_
  show jl_E l G m_Mo_arithmetic (0, 0) 73 [some (.ref 22), some (.int (nI 6)), some (.int (V (7 + b))), some (.int (V (8 + b)))] [] (((((σ.set (45) (.inl (0, 13, .inl (fun j => nI ((va_up fh t (b)) j))))).set (49) (.inl (0, 65, .inl (upd vk (5 * t + (b)) (nI 0))))).set (48) (.inl (0, 65, .inl (upd vl (5 * t + (b)) ((V (7 + b)) / (V (8 + b))))))).set (45) (.inl (0, 13, .inl (fun j => nI ((va_up (va_up fh t (b)) t (b + 1)) j))))).set (44) (.inl (0, 13, .inl (fun j => nI ((va_up fp t (p + 1)) j))))) P
  exact er_vret d_Mo_arithmetic_73 rfl (hT _ ⟨_, _, _, _, _, _, _, _, _, _, _, _, (jl_sn (by decide) (jl_sn (by decide) (jl_sn (by decide) (jl_sn (by decide) (jl_sn (by decide) hO))))), (jl_sn (by decide) (jl_sn (by decide) (jl_sn (by decide) (jl_sn (by decide) (jl_sn (by decide) f1))))), (jl_ss (jl_sn (by decide) (jl_sn (by decide) (jl_sn (by decide) (jl_sn (by decide) f2))))), (jl_sn (by decide) (jl_ss (jl_sn (by decide) (jl_sn (by decide) (jl_ss f3))))), (jl_sn (by decide) (jl_sn (by decide) (jl_sn (by decide) (jl_sn (by decide) (jl_sn (by decide) f4))))), (jl_sn (by decide) (jl_sn (by decide) (jl_sn (by decide) (jl_sn (by decide) (jl_sn (by decide) f5))))), (jl_sn (by decide) (jl_sn (by decide) (jl_ss (jl_sn (by decide) (jl_sn (by decide) f6))))), (jl_sn (by decide) (jl_sn (by decide) (jl_sn (by decide) (jl_ss (jl_sn (by decide) f7))))), ⟨(jl_sn (by decide) (jl_sn (by decide) (jl_sn (by decide) (jl_sn (by decide) (jl_sn (by decide) k1))))), (jl_sn (by decide) (jl_sn (by decide) (jl_sn (by decide) (jl_sn (by decide) (jl_sn (by decide) k2))))), (jl_sn (by decide) (jl_sn (by decide) (jl_sn (by decide) (jl_sn (by decide) (jl_sn (by decide) k3)))))⟩, hB, (((((hy1).hg.putA (y := some 0) (by omega) rfl)).pc).le (by omega)), ⟨⟨(jl_sn (by decide) (jl_sn (by decide) (jl_sn (by decide) (jl_sn (by decide) (jl_sn (by decide) r1))))), (jl_sn (by decide) (jl_sn (by decide) (jl_sn (by decide) (jl_sn (by decide) (jl_sn (by decide) r2)))))⟩, hlo, hsk⟩, (((((hF.set (by omega)).set (by omega)).set (by omega)).set (by omega)).set (by omega))⟩) (by decide) (by decide)
theorem d_Mo_simple_0 : decode m_Mo_simple.2.1 0 = .ok (.aload_n 0, 1) := by decide +kernel
theorem f_Mo_simple_224 : jl_fd m_Mo_simple 224 7 32 = true := by decide +kernel
theorem d_Mo_simple_1 : decode m_Mo_simple.2.1 1 = .ok (.getfield 224, 3) := by decide +kernel
theorem d_Mo_simple_4 : decode m_Mo_simple.2.1 4 = .ok (.iconst 1, 1) := by decide +kernel
theorem d_Mo_simple_5 : decode m_Mo_simple.2.1 5 = .ok (.isub, 1) := by decide +kernel
theorem d_Mo_simple_6 : decode m_Mo_simple.2.1 6 = .ok (.istore_n 3, 1) := by decide +kernel
theorem d_Mo_simple_7 : decode m_Mo_simple.2.1 7 = .ok (.iload_n 1, 1) := by decide +kernel
theorem d_Mo_simple_8 : decode m_Mo_simple.2.1 8 = .ok (.ifCond .ne 12, 3) := by decide +kernel
theorem d_Mo_simple_11 : decode m_Mo_simple.2.1 11 = .ok (.aload_n 0, 1) := by decide +kernel
theorem d_Mo_simple_12 : decode m_Mo_simple.2.1 12 = .ok (.iconst 0, 1) := by decide +kernel
theorem d_Mo_simple_13 : decode m_Mo_simple.2.1 13 = .ok (.iload_n 2, 1) := by decide +kernel
theorem k_Mo_simple_236 : jl_cv m_Mo_simple m_Mo_put 236 2 = true := by decide +kernel
theorem d_Mo_simple_14 : decode m_Mo_simple.2.1 14 = .ok (.invokevirtual 236, 3) := by decide +kernel
theorem d_Mo_simple_17 : decode m_Mo_simple.2.1 17 = .ok (.goto 165, 3) := by decide +kernel
theorem d_Mo_simple_182 : decode m_Mo_simple.2.1 182 = .ok (.aload_n 0, 1) := by decide +kernel
theorem k_Mo_simple_261 : jl_cv m_Mo_simple m_Mo_next 261 0 = true := by decide +kernel
theorem d_Mo_simple_183 : decode m_Mo_simple.2.1 183 = .ok (.invokevirtual 261, 3) := by decide +kernel
theorem d_Mo_simple_186 : decode m_Mo_simple.2.1 186 = .ok (.return_, 1) := by decide +kernel
theorem mo_si_0 (hl : l.stackTraces = false) {P : jl_O → jl_S → Prop}  (hn : NB σ0 σ (b) t m (p) (b) (R) (V) (fs) (H) fa vf wh wy hg ov oh dn an) (ht : t < 12) (hb : b ≤ 5) (hp : b + 1 ≤ 5)  (hT : ∀ σ', NB σ0 σ' (b + 1) t m (p + 1) (b + 1) (psh R b (some 0)) (va_up V (7 + b) x) (fs) (H) fa vf wh wy hg ov oh dn an → P (.inl none) σ') : jl_mE l G m_Mo_simple [.ref 22, .int (nI 0), .int (x)] σ P := by
  obtain ⟨fx, fp, fh, lw, lk, vl, vk, ks, kc, kv, lo, sk, hO, f1, f2, f3, f4, f5, f6, f7, hH, hB, hy1, hR1, hF⟩ := id hn
  obtain ⟨k1, k2, k3⟩ := id hH
  obtain ⟨⟨r1, r2⟩, hlo, hsk⟩ := id hR1
  obtain ⟨⟨hfx, hfp, hlc, hst⟩, hfh, hfs, hln⟩ := id hy1
  have hfx : fx t = m := hfx
  have hfp : fp t = p := hfp
  have hlc : ∀ k, k < 6 → lk (6 * t + k) = kdI (R k) ∧ (R k ≠ none → lw (6 * t + k) = V k) := hlc
  have hst : ∀ j, j < _ → vk (5 * t + j) = kdI (R (7 + j)) ∧ vl (5 * t + j) = V (7 + j) := hst
  refine jl_ofE (as := [.ref 22, .int (nI 0), .int (x)]) rfl (by decide) hl (jl_cc rfl (jl_cc rfl (jl_cc rfl jl_ca))) (Nat.le_of_ble_eq_true rfl) ?_
  show jl_E l G m_Mo_simple (0, 0) 0 [some (.ref 22), some (.int (nI 0)), some (.int (x)), none] [] (σ) P
  refine er_aload_n d_Mo_simple_0 rfl ?_
  refine er_getf d_Mo_simple_1 f_Mo_simple_224 hO rfl ?_
  refine er_iconst ((nI (1))) d_Mo_simple_4 (by decide) ?_
  refine er_isubN d_Mo_simple_5 (by omega) ?_
  rw [show (t + 1) - (1) = t by omega]
  show jl_E l G m_Mo_simple (0, 0) 6 [some (.ref 22), some (.int (nI 0)), some (.int (x)), none] [.int (nI t)] (σ) P
  refine er_istore_n d_Mo_simple_6 (by decide) ?_
  show jl_E l G m_Mo_simple (0, 0) 7 [some (.ref 22), some (.int (nI 0)), some (.int (x)), some (.int (nI t))] [] (σ) P
  refine er_iload_n d_Mo_simple_7 rfl ?_
  refine er_if_ne 20 d_Mo_simple_8 (by decide) (fun z => absurd rfl z) (fun _ => ?_)
  refine er_aload_n d_Mo_simple_11 rfl ?_
  refine er_iconst ((nI (0))) d_Mo_simple_12 (by decide) ?_
  refine er_iload_n d_Mo_simple_13 rfl ?_
  refine er_callV (As := [.int (nI 0), .int (x)]) d_Mo_simple_14 k_Mo_simple_236 hO rfl rfl rfl (Nat.le_of_ble_eq_true rfl) (by decide) (by decide) (mo_mput (h := b) (a := (nI (0))) (b := (x)) hl hO f3 f6 f7 ht hfh (by omega)) ?_
  show jl_E l G m_Mo_simple (0, 0) 17 [some (.ref 22), some (.int (nI 0)), some (.int (x)), some (.int (nI t))] [] (((σ.set (49) (.inl (0, 65, .inl (upd vk (5 * t + (b)) (nI (0)))))).set (48) (.inl (0, 65, .inl (upd vl (5 * t + (b)) (x))))).set (45) (.inl (0, 13, .inl (fun j => nI ((va_up fh t (b + 1)) j))))) P
  refine er_goto 182 d_Mo_simple_17 (by decide) ?_
  refine er_aload_n d_Mo_simple_182 rfl ?_
  refine er_callV (As := []) d_Mo_simple_183 k_Mo_simple_261 (jl_sn (by decide) (jl_sn (by decide) (jl_sn (by decide) hO))) rfl rfl rfl (Nat.le_of_ble_eq_true rfl) (by decide) (by decide) (mo_mnext hl (jl_sn (by decide) (jl_sn (by decide) (jl_sn (by decide) hO))) (jl_sn (by decide) (jl_sn (by decide) (jl_sn (by decide) f2))) ht hfp) ?_
  show jl_E l G m_Mo_simple (0, 0) 186 [some (.ref 22), some (.int (nI 0)), some (.int (x)), some (.int (nI t))] [] ((((σ.set (49) (.inl (0, 65, .inl (upd vk (5 * t + (b)) (nI (0)))))).set (48) (.inl (0, 65, .inl (upd vl (5 * t + (b)) (x))))).set (45) (.inl (0, 13, .inl (fun j => nI ((va_up fh t (b + 1)) j))))).set (44) (.inl (0, 13, .inl (fun j => nI ((va_up fp t (p + 1)) j))))) P
  exact er_vret d_Mo_simple_186 rfl (hT _ ⟨_, _, _, _, _, _, _, _, _, _, _, _, (jl_sn (by decide) (jl_sn (by decide) (jl_sn (by decide) (jl_sn (by decide) hO)))), (jl_sn (by decide) (jl_sn (by decide) (jl_sn (by decide) (jl_sn (by decide) f1)))), (jl_ss (jl_sn (by decide) (jl_sn (by decide) (jl_sn (by decide) f2)))), (jl_sn (by decide) (jl_ss (jl_sn (by decide) (jl_sn (by decide) f3)))), (jl_sn (by decide) (jl_sn (by decide) (jl_sn (by decide) (jl_sn (by decide) f4)))), (jl_sn (by decide) (jl_sn (by decide) (jl_sn (by decide) (jl_sn (by decide) f5)))), (jl_sn (by decide) (jl_sn (by decide) (jl_ss (jl_sn (by decide) f6)))), (jl_sn (by decide) (jl_sn (by decide) (jl_sn (by decide) (jl_ss f7)))), ⟨(jl_sn (by decide) (jl_sn (by decide) (jl_sn (by decide) (jl_sn (by decide) k1)))), (jl_sn (by decide) (jl_sn (by decide) (jl_sn (by decide) (jl_sn (by decide) k2)))), (jl_sn (by decide) (jl_sn (by decide) (jl_sn (by decide) (jl_sn (by decide) k3))))⟩, hB, (((((hy1).putA (y := (some 0)) (by omega) rfl)).pc).le (by omega)), ⟨⟨(jl_sn (by decide) (jl_sn (by decide) (jl_sn (by decide) (jl_sn (by decide) r1)))), (jl_sn (by decide) (jl_sn (by decide) (jl_sn (by decide) (jl_sn (by decide) r2))))⟩, hlo, hsk⟩, ((((hF.set (by omega)).set (by omega)).set (by omega)).set (by omega))⟩) (by decide) (by decide)
theorem d_Mo_simple_20 : decode m_Mo_simple.2.1 20 = .ok (.iload_n 1, 1) := by decide +kernel
theorem d_Mo_simple_21 : decode m_Mo_simple.2.1 21 = .ok (.iconst 1, 1) := by decide +kernel
theorem d_Mo_simple_22 : decode m_Mo_simple.2.1 22 = .ok (.if_icmp .ne 32, 3) := by decide +kernel
theorem d_Mo_simple_25 : decode m_Mo_simple.2.1 25 = .ok (.aload_n 0, 1) := by decide +kernel
theorem d_Mo_simple_26 : decode m_Mo_simple.2.1 26 = .ok (.aload_n 0, 1) := by decide +kernel
theorem f_Mo_simple_90 : jl_fd m_Mo_simple 90 7 29 = true := by decide +kernel
theorem d_Mo_simple_27 : decode m_Mo_simple.2.1 27 = .ok (.getfield 90, 3) := by decide +kernel
theorem d_Mo_simple_30 : decode m_Mo_simple.2.1 30 = .ok (.bipush 6, 2) := by decide +kernel
theorem d_Mo_simple_32 : decode m_Mo_simple.2.1 32 = .ok (.iload_n 3, 1) := by decide +kernel
theorem d_Mo_simple_33 : decode m_Mo_simple.2.1 33 = .ok (.imul, 1) := by decide +kernel
theorem d_Mo_simple_34 : decode m_Mo_simple.2.1 34 = .ok (.iload_n 2, 1) := by decide +kernel
theorem d_Mo_simple_35 : decode m_Mo_simple.2.1 35 = .ok (.iadd, 1) := by decide +kernel
theorem d_Mo_simple_36 : decode m_Mo_simple.2.1 36 = .ok (.iaload, 1) := by decide +kernel
theorem d_Mo_simple_37 : decode m_Mo_simple.2.1 37 = .ok (.aload_n 0, 1) := by decide +kernel
theorem f_Mo_simple_87 : jl_fd m_Mo_simple 87 7 28 = true := by decide +kernel
theorem d_Mo_simple_38 : decode m_Mo_simple.2.1 38 = .ok (.getfield 87, 3) := by decide +kernel
theorem d_Mo_simple_41 : decode m_Mo_simple.2.1 41 = .ok (.bipush 6, 2) := by decide +kernel
theorem d_Mo_simple_43 : decode m_Mo_simple.2.1 43 = .ok (.iload_n 3, 1) := by decide +kernel
theorem d_Mo_simple_44 : decode m_Mo_simple.2.1 44 = .ok (.imul, 1) := by decide +kernel
theorem d_Mo_simple_45 : decode m_Mo_simple.2.1 45 = .ok (.iload_n 2, 1) := by decide +kernel
theorem d_Mo_simple_46 : decode m_Mo_simple.2.1 46 = .ok (.iadd, 1) := by decide +kernel
theorem d_Mo_simple_47 : decode m_Mo_simple.2.1 47 = .ok (.iaload, 1) := by decide +kernel
theorem d_Mo_simple_48 : decode m_Mo_simple.2.1 48 = .ok (.invokevirtual 236, 3) := by decide +kernel
theorem d_Mo_simple_51 : decode m_Mo_simple.2.1 51 = .ok (.goto 131, 3) := by decide +kernel
theorem mo_si_1 (hl : l.stackTraces = false) {P : jl_O → jl_S → Prop}  (hn : NB σ0 σ (b) t m (p) (b) (R) (V) (fs) (H) fa vf wh wy hg ov oh dn an) (ht : t < 12) (hb : b ≤ 5) (hp : b + 1 ≤ 5) (hn6 : n < 6) (hRn : R n ≠ none) (hT : ∀ σ', NB σ0 σ' (b + 1) t m (p + 1) (b + 1) (psh R b (R n)) (va_up V (7 + b) (V n)) (fs) (H) fa vf wh wy hg ov oh dn an → P (.inl none) σ') : jl_mE l G m_Mo_simple [.ref 22, .int (nI 1), .int (nI n)] σ P := by
  obtain ⟨fx, fp, fh, lw, lk, vl, vk, ks, kc, kv, lo, sk, hO, f1, f2, f3, f4, f5, f6, f7, hH, hB, hy1, hR1, hF⟩ := id hn
  obtain ⟨k1, k2, k3⟩ := id hH
  obtain ⟨⟨r1, r2⟩, hlo, hsk⟩ := id hR1
  obtain ⟨⟨hfx, hfp, hlc, hst⟩, hfh, hfs, hln⟩ := id hy1
  have hfx : fx t = m := hfx
  have hfp : fp t = p := hfp
  have hlc : ∀ k, k < 6 → lk (6 * t + k) = kdI (R k) ∧ (R k ≠ none → lw (6 * t + k) = V k) := hlc
  have hst : ∀ j, j < _ → vk (5 * t + j) = kdI (R (7 + j)) ∧ vl (5 * t + j) = V (7 + j) := hst
  refine jl_ofE (as := [.ref 22, .int (nI 1), .int (nI n)]) rfl (by decide) hl (jl_cc rfl (jl_cc rfl (jl_cc rfl jl_ca))) (Nat.le_of_ble_eq_true rfl) ?_
  show jl_E l G m_Mo_simple (0, 0) 0 [some (.ref 22), some (.int (nI 1)), some (.int (nI n)), none] [] (σ) P
  refine er_aload_n d_Mo_simple_0 rfl ?_
  refine er_getf d_Mo_simple_1 f_Mo_simple_224 hO rfl ?_
  refine er_iconst ((nI (1))) d_Mo_simple_4 (by decide) ?_
  refine er_isubN d_Mo_simple_5 (by omega) ?_
  rw [show (t + 1) - (1) = t by omega]
  show jl_E l G m_Mo_simple (0, 0) 6 [some (.ref 22), some (.int (nI 1)), some (.int (nI n)), none] [.int (nI t)] (σ) P
  refine er_istore_n d_Mo_simple_6 (by decide) ?_
  show jl_E l G m_Mo_simple (0, 0) 7 [some (.ref 22), some (.int (nI 1)), some (.int (nI n)), some (.int (nI t))] [] (σ) P
  refine er_iload_n d_Mo_simple_7 rfl ?_
  refine er_if_ne 20 d_Mo_simple_8 (by decide) (fun _ => ?_) (fun z => absurd z (by decide))
  refine er_iload_n d_Mo_simple_20 rfl ?_
  refine er_iconst ((nI (1))) d_Mo_simple_21 (by decide) ?_
  refine er_icmp_ne 54 d_Mo_simple_22 (by decide) (fun z => absurd rfl z) (fun _ => ?_)
  refine er_aload_n d_Mo_simple_25 rfl ?_
  refine er_aload_n d_Mo_simple_26 rfl ?_
  refine er_getf d_Mo_simple_27 f_Mo_simple_90 hO rfl ?_
  refine er_bipush ((nI (6))) d_Mo_simple_30 (by decide) ?_
  refine er_iload_n d_Mo_simple_32 rfl ?_
  refine er_imulN d_Mo_simple_33 ?_
  refine er_iload_n d_Mo_simple_34 rfl ?_
  refine er_iaddN d_Mo_simple_35 ?_
  refine er_ialdQ (v := (kdI (R n))) d_Mo_simple_36 f5 (by omega) (by omega) ((hlc n (by omega)).1) ?_
  refine er_aload_n d_Mo_simple_37 rfl ?_
  refine er_getf d_Mo_simple_38 f_Mo_simple_87 hO rfl ?_
  refine er_bipush ((nI (6))) d_Mo_simple_41 (by decide) ?_
  refine er_iload_n d_Mo_simple_43 rfl ?_
  refine er_imulN d_Mo_simple_44 ?_
  refine er_iload_n d_Mo_simple_45 rfl ?_
  refine er_iaddN d_Mo_simple_46 ?_
  refine er_ialdQ (v := (V n)) d_Mo_simple_47 f4 (by omega) (by omega) ((hlc n (by omega)).2 hRn) ?_
  refine er_callV (As := [.int (kdI (R n)), .int (V n)]) d_Mo_simple_48 k_Mo_simple_236 hO rfl rfl rfl (Nat.le_of_ble_eq_true rfl) (by decide) (by decide) (mo_mput (h := b) (a := (kdI (R n))) (b := (V n)) hl hO f3 f6 f7 ht hfh (by omega)) ?_
  show jl_E l G m_Mo_simple (0, 0) 51 [some (.ref 22), some (.int (nI 1)), some (.int (nI n)), some (.int (nI t))] [] (((σ.set (49) (.inl (0, 65, .inl (upd vk (5 * t + (b)) (kdI (R n)))))).set (48) (.inl (0, 65, .inl (upd vl (5 * t + (b)) (V n))))).set (45) (.inl (0, 13, .inl (fun j => nI ((va_up fh t (b + 1)) j))))) P
  refine er_goto 182 d_Mo_simple_51 (by decide) ?_
  refine er_aload_n d_Mo_simple_182 rfl ?_
  refine er_callV (As := []) d_Mo_simple_183 k_Mo_simple_261 (jl_sn (by decide) (jl_sn (by decide) (jl_sn (by decide) hO))) rfl rfl rfl (Nat.le_of_ble_eq_true rfl) (by decide) (by decide) (mo_mnext hl (jl_sn (by decide) (jl_sn (by decide) (jl_sn (by decide) hO))) (jl_sn (by decide) (jl_sn (by decide) (jl_sn (by decide) f2))) ht hfp) ?_
  show jl_E l G m_Mo_simple (0, 0) 186 [some (.ref 22), some (.int (nI 1)), some (.int (nI n)), some (.int (nI t))] [] ((((σ.set (49) (.inl (0, 65, .inl (upd vk (5 * t + (b)) (kdI (R n)))))).set (48) (.inl (0, 65, .inl (upd vl (5 * t + (b)) (V n))))).set (45) (.inl (0, 13, .inl (fun j => nI ((va_up fh t (b + 1)) j))))).set (44) (.inl (0, 13, .inl (fun j => nI ((va_up fp t (p + 1)) j))))) P
  exact er_vret d_Mo_simple_186 rfl (hT _ ⟨_, _, _, _, _, _, _, _, _, _, _, _, (jl_sn (by decide) (jl_sn (by decide) (jl_sn (by decide) (jl_sn (by decide) hO)))), (jl_sn (by decide) (jl_sn (by decide) (jl_sn (by decide) (jl_sn (by decide) f1)))), (jl_ss (jl_sn (by decide) (jl_sn (by decide) (jl_sn (by decide) f2)))), (jl_sn (by decide) (jl_ss (jl_sn (by decide) (jl_sn (by decide) f3)))), (jl_sn (by decide) (jl_sn (by decide) (jl_sn (by decide) (jl_sn (by decide) f4)))), (jl_sn (by decide) (jl_sn (by decide) (jl_sn (by decide) (jl_sn (by decide) f5)))), (jl_sn (by decide) (jl_sn (by decide) (jl_ss (jl_sn (by decide) f6)))), (jl_sn (by decide) (jl_sn (by decide) (jl_sn (by decide) (jl_ss f7)))), ⟨(jl_sn (by decide) (jl_sn (by decide) (jl_sn (by decide) (jl_sn (by decide) k1)))), (jl_sn (by decide) (jl_sn (by decide) (jl_sn (by decide) (jl_sn (by decide) k2)))), (jl_sn (by decide) (jl_sn (by decide) (jl_sn (by decide) (jl_sn (by decide) k3))))⟩, hB, (((((hy1).putA (y := (R n)) (by omega) rfl)).pc).le (by omega)), ⟨⟨(jl_sn (by decide) (jl_sn (by decide) (jl_sn (by decide) (jl_sn (by decide) r1)))), (jl_sn (by decide) (jl_sn (by decide) (jl_sn (by decide) (jl_sn (by decide) r2))))⟩, hlo, hsk⟩, ((((hF.set (by omega)).set (by omega)).set (by omega)).set (by omega))⟩) (by decide) (by decide)
theorem d_Mo_simple_54 : decode m_Mo_simple.2.1 54 = .ok (.iload_n 1, 1) := by decide +kernel
theorem d_Mo_simple_55 : decode m_Mo_simple.2.1 55 = .ok (.iconst 2, 1) := by decide +kernel
theorem d_Mo_simple_56 : decode m_Mo_simple.2.1 56 = .ok (.if_icmp .ne 39, 3) := by decide +kernel
theorem d_Mo_simple_95 : decode m_Mo_simple.2.1 95 = .ok (.iload_n 1, 1) := by decide +kernel
theorem d_Mo_simple_96 : decode m_Mo_simple.2.1 96 = .ok (.bipush 10, 2) := by decide +kernel
theorem d_Mo_simple_98 : decode m_Mo_simple.2.1 98 = .ok (.if_icmp .ne 12, 3) := by decide +kernel
theorem d_Mo_simple_101 : decode m_Mo_simple.2.1 101 = .ok (.aload_n 0, 1) := by decide +kernel
theorem d_Mo_simple_102 : decode m_Mo_simple.2.1 102 = .ok (.iconst 1, 1) := by decide +kernel
theorem d_Mo_simple_103 : decode m_Mo_simple.2.1 103 = .ok (.iconst (-1), 1) := by decide +kernel
theorem d_Mo_simple_104 : decode m_Mo_simple.2.1 104 = .ok (.invokevirtual 236, 3) := by decide +kernel
theorem d_Mo_simple_107 : decode m_Mo_simple.2.1 107 = .ok (.goto 75, 3) := by decide +kernel
theorem mo_si_10 (hl : l.stackTraces = false) {P : jl_O → jl_S → Prop}  (hn : NB σ0 σ (b) t m (p) (b) (R) (V) (fs) (H) fa vf wh wy hg ov oh dn an) (ht : t < 12) (hb : b ≤ 5) (hp : b + 1 ≤ 5)  (hT : ∀ σ', NB σ0 σ' (b + 1) t m (p + 1) (b + 1) (psh R b (some 2)) (va_up V (7 + b) (-1)) (fs) (H) fa vf wh wy hg ov oh dn an → P (.inl none) σ') : jl_mE l G m_Mo_simple [.ref 22, .int (nI 10), .int (x)] σ P := by
  obtain ⟨fx, fp, fh, lw, lk, vl, vk, ks, kc, kv, lo, sk, hO, f1, f2, f3, f4, f5, f6, f7, hH, hB, hy1, hR1, hF⟩ := id hn
  obtain ⟨k1, k2, k3⟩ := id hH
  obtain ⟨⟨r1, r2⟩, hlo, hsk⟩ := id hR1
  obtain ⟨⟨hfx, hfp, hlc, hst⟩, hfh, hfs, hln⟩ := id hy1
  have hfx : fx t = m := hfx
  have hfp : fp t = p := hfp
  have hlc : ∀ k, k < 6 → lk (6 * t + k) = kdI (R k) ∧ (R k ≠ none → lw (6 * t + k) = V k) := hlc
  have hst : ∀ j, j < _ → vk (5 * t + j) = kdI (R (7 + j)) ∧ vl (5 * t + j) = V (7 + j) := hst
  refine jl_ofE (as := [.ref 22, .int (nI 10), .int (x)]) rfl (by decide) hl (jl_cc rfl (jl_cc rfl (jl_cc rfl jl_ca))) (Nat.le_of_ble_eq_true rfl) ?_
  show jl_E l G m_Mo_simple (0, 0) 0 [some (.ref 22), some (.int (nI 10)), some (.int (x)), none] [] (σ) P
  refine er_aload_n d_Mo_simple_0 rfl ?_
  refine er_getf d_Mo_simple_1 f_Mo_simple_224 hO rfl ?_
  refine er_iconst ((nI (1))) d_Mo_simple_4 (by decide) ?_
  refine er_isubN d_Mo_simple_5 (by omega) ?_
  rw [show (t + 1) - (1) = t by omega]
  show jl_E l G m_Mo_simple (0, 0) 6 [some (.ref 22), some (.int (nI 10)), some (.int (x)), none] [.int (nI t)] (σ) P
  refine er_istore_n d_Mo_simple_6 (by decide) ?_
  show jl_E l G m_Mo_simple (0, 0) 7 [some (.ref 22), some (.int (nI 10)), some (.int (x)), some (.int (nI t))] [] (σ) P
  refine er_iload_n d_Mo_simple_7 rfl ?_
  refine er_if_ne 20 d_Mo_simple_8 (by decide) (fun _ => ?_) (fun z => absurd z (by decide))
  refine er_iload_n d_Mo_simple_20 rfl ?_
  refine er_iconst ((nI (1))) d_Mo_simple_21 (by decide) ?_
  refine er_icmp_ne 54 d_Mo_simple_22 (by decide) (fun _ => ?_) (fun z => absurd z (by decide))
  refine er_iload_n d_Mo_simple_54 rfl ?_
  refine er_iconst ((nI (2))) d_Mo_simple_55 (by decide) ?_
  refine er_icmp_ne 95 d_Mo_simple_56 (by decide) (fun _ => ?_) (fun z => absurd z (by decide))
  refine er_iload_n d_Mo_simple_95 rfl ?_
  refine er_bipush ((nI (10))) d_Mo_simple_96 (by decide) ?_
  refine er_icmp_ne 110 d_Mo_simple_98 (by decide) (fun z => absurd rfl z) (fun _ => ?_)
  refine er_aload_n d_Mo_simple_101 rfl ?_
  refine er_iconst ((nI (1))) d_Mo_simple_102 (by decide) ?_
  refine er_iconst ((-1)) d_Mo_simple_103 (by decide) ?_
  refine er_callV (As := [.int (nI 1), .int (-1)]) d_Mo_simple_104 k_Mo_simple_236 hO rfl rfl rfl (Nat.le_of_ble_eq_true rfl) (by decide) (by decide) (mo_mput (h := b) (a := (nI (1))) (b := (-1)) hl hO f3 f6 f7 ht hfh (by omega)) ?_
  show jl_E l G m_Mo_simple (0, 0) 107 [some (.ref 22), some (.int (nI 10)), some (.int (x)), some (.int (nI t))] [] (((σ.set (49) (.inl (0, 65, .inl (upd vk (5 * t + (b)) (nI (1)))))).set (48) (.inl (0, 65, .inl (upd vl (5 * t + (b)) (-1))))).set (45) (.inl (0, 13, .inl (fun j => nI ((va_up fh t (b + 1)) j))))) P
  refine er_goto 182 d_Mo_simple_107 (by decide) ?_
  refine er_aload_n d_Mo_simple_182 rfl ?_
  refine er_callV (As := []) d_Mo_simple_183 k_Mo_simple_261 (jl_sn (by decide) (jl_sn (by decide) (jl_sn (by decide) hO))) rfl rfl rfl (Nat.le_of_ble_eq_true rfl) (by decide) (by decide) (mo_mnext hl (jl_sn (by decide) (jl_sn (by decide) (jl_sn (by decide) hO))) (jl_sn (by decide) (jl_sn (by decide) (jl_sn (by decide) f2))) ht hfp) ?_
  show jl_E l G m_Mo_simple (0, 0) 186 [some (.ref 22), some (.int (nI 10)), some (.int (x)), some (.int (nI t))] [] ((((σ.set (49) (.inl (0, 65, .inl (upd vk (5 * t + (b)) (nI (1)))))).set (48) (.inl (0, 65, .inl (upd vl (5 * t + (b)) (-1))))).set (45) (.inl (0, 13, .inl (fun j => nI ((va_up fh t (b + 1)) j))))).set (44) (.inl (0, 13, .inl (fun j => nI ((va_up fp t (p + 1)) j))))) P
  exact er_vret d_Mo_simple_186 rfl (hT _ ⟨_, _, _, _, _, _, _, _, _, _, _, _, (jl_sn (by decide) (jl_sn (by decide) (jl_sn (by decide) (jl_sn (by decide) hO)))), (jl_sn (by decide) (jl_sn (by decide) (jl_sn (by decide) (jl_sn (by decide) f1)))), (jl_ss (jl_sn (by decide) (jl_sn (by decide) (jl_sn (by decide) f2)))), (jl_sn (by decide) (jl_ss (jl_sn (by decide) (jl_sn (by decide) f3)))), (jl_sn (by decide) (jl_sn (by decide) (jl_sn (by decide) (jl_sn (by decide) f4)))), (jl_sn (by decide) (jl_sn (by decide) (jl_sn (by decide) (jl_sn (by decide) f5)))), (jl_sn (by decide) (jl_sn (by decide) (jl_ss (jl_sn (by decide) f6)))), (jl_sn (by decide) (jl_sn (by decide) (jl_sn (by decide) (jl_ss f7)))), ⟨(jl_sn (by decide) (jl_sn (by decide) (jl_sn (by decide) (jl_sn (by decide) k1)))), (jl_sn (by decide) (jl_sn (by decide) (jl_sn (by decide) (jl_sn (by decide) k2)))), (jl_sn (by decide) (jl_sn (by decide) (jl_sn (by decide) (jl_sn (by decide) k3))))⟩, hB, (((((hy1).putA (y := (some 2)) (by omega) rfl)).pc).le (by omega)), ⟨⟨(jl_sn (by decide) (jl_sn (by decide) (jl_sn (by decide) (jl_sn (by decide) r1)))), (jl_sn (by decide) (jl_sn (by decide) (jl_sn (by decide) (jl_sn (by decide) r2))))⟩, hlo, hsk⟩, ((((hF.set (by omega)).set (by omega)).set (by omega)).set (by omega))⟩) (by decide) (by decide)
theorem d_Mo_simple_110 : decode m_Mo_simple.2.1 110 = .ok (.iload_n 1, 1) := by decide +kernel
theorem d_Mo_simple_111 : decode m_Mo_simple.2.1 111 = .ok (.bipush 23, 2) := by decide +kernel
theorem d_Mo_simple_113 : decode m_Mo_simple.2.1 113 = .ok (.if_icmp .ne 11, 3) := by decide +kernel
theorem d_Mo_simple_116 : decode m_Mo_simple.2.1 116 = .ok (.aload_n 0, 1) := by decide +kernel
theorem d_Mo_simple_117 : decode m_Mo_simple.2.1 117 = .ok (.iconst 1, 1) := by decide +kernel
theorem k_Mo_simple_242 : jl_cv m_Mo_simple m_Mo_drop 242 1 = true := by decide +kernel
theorem d_Mo_simple_118 : decode m_Mo_simple.2.1 118 = .ok (.invokevirtual 242, 3) := by decide +kernel
theorem d_Mo_simple_121 : decode m_Mo_simple.2.1 121 = .ok (.goto 61, 3) := by decide +kernel
theorem mo_si_23 (hl : l.stackTraces = false) {P : jl_O → jl_S → Prop}  (hn : NB σ0 σ (b + 1) t m (p) (b + 1) (R) (V) (fs) (H) fa vf wh wy hg ov oh dn an) (ht : t < 12) (hb : b + 1 ≤ 5) (hp : b ≤ 5)  (hT : ∀ σ', NB σ0 σ' (b) t m (p + 1) (b) (va_up R 6 (some b)) (V) (fs) (H) fa vf wh wy hg ov oh dn an → P (.inl none) σ') : jl_mE l G m_Mo_simple [.ref 22, .int (nI 23), .int (x)] σ P := by
  obtain ⟨fx, fp, fh, lw, lk, vl, vk, ks, kc, kv, lo, sk, hO, f1, f2, f3, f4, f5, f6, f7, hH, hB, hy1, hR1, hF⟩ := id hn
  obtain ⟨k1, k2, k3⟩ := id hH
  obtain ⟨⟨r1, r2⟩, hlo, hsk⟩ := id hR1
  obtain ⟨⟨hfx, hfp, hlc, hst⟩, hfh, hfs, hln⟩ := id hy1
  have hfx : fx t = m := hfx
  have hfp : fp t = p := hfp
  have hlc : ∀ k, k < 6 → lk (6 * t + k) = kdI (R k) ∧ (R k ≠ none → lw (6 * t + k) = V k) := hlc
  have hst : ∀ j, j < _ → vk (5 * t + j) = kdI (R (7 + j)) ∧ vl (5 * t + j) = V (7 + j) := hst
  have hS0 : vl (5 * t + (b)) = V (7 + b) := by rw [show 7 + b = 7 + (b) by omega]; exact (hst _ (by omega)).2
  have hK0 : vk (5 * t + (b)) = kdI (R (7 + b)) := by rw [show 7 + b = 7 + (b) by omega]; exact (hst _ (by omega)).1
  refine jl_ofE (as := [.ref 22, .int (nI 23), .int (x)]) rfl (by decide) hl (jl_cc rfl (jl_cc rfl (jl_cc rfl jl_ca))) (Nat.le_of_ble_eq_true rfl) ?_
  show jl_E l G m_Mo_simple (0, 0) 0 [some (.ref 22), some (.int (nI 23)), some (.int (x)), none] [] (σ) P
  refine er_aload_n d_Mo_simple_0 rfl ?_
  refine er_getf d_Mo_simple_1 f_Mo_simple_224 hO rfl ?_
  refine er_iconst ((nI (1))) d_Mo_simple_4 (by decide) ?_
  refine er_isubN d_Mo_simple_5 (by omega) ?_
  rw [show (t + 1) - (1) = t by omega]
  show jl_E l G m_Mo_simple (0, 0) 6 [some (.ref 22), some (.int (nI 23)), some (.int (x)), none] [.int (nI t)] (σ) P
  refine er_istore_n d_Mo_simple_6 (by decide) ?_
  show jl_E l G m_Mo_simple (0, 0) 7 [some (.ref 22), some (.int (nI 23)), some (.int (x)), some (.int (nI t))] [] (σ) P
  refine er_iload_n d_Mo_simple_7 rfl ?_
  refine er_if_ne 20 d_Mo_simple_8 (by decide) (fun _ => ?_) (fun z => absurd z (by decide))
  refine er_iload_n d_Mo_simple_20 rfl ?_
  refine er_iconst ((nI (1))) d_Mo_simple_21 (by decide) ?_
  refine er_icmp_ne 54 d_Mo_simple_22 (by decide) (fun _ => ?_) (fun z => absurd z (by decide))
  refine er_iload_n d_Mo_simple_54 rfl ?_
  refine er_iconst ((nI (2))) d_Mo_simple_55 (by decide) ?_
  refine er_icmp_ne 95 d_Mo_simple_56 (by decide) (fun _ => ?_) (fun z => absurd z (by decide))
  refine er_iload_n d_Mo_simple_95 rfl ?_
  refine er_bipush ((nI (10))) d_Mo_simple_96 (by decide) ?_
  refine er_icmp_ne 110 d_Mo_simple_98 (by decide) (fun _ => ?_) (fun z => absurd z (by decide))
  refine er_iload_n d_Mo_simple_110 rfl ?_
  refine er_bipush ((nI (23))) d_Mo_simple_111 (by decide) ?_
  refine er_icmp_ne 124 d_Mo_simple_113 (by decide) (fun z => absurd rfl z) (fun _ => ?_)
  refine er_aload_n d_Mo_simple_116 rfl ?_
  refine er_iconst ((nI (1))) d_Mo_simple_117 (by decide) ?_
  refine er_callV (As := [.int (nI 1)]) d_Mo_simple_118 k_Mo_simple_242 hO rfl rfl rfl (Nat.le_of_ble_eq_true rfl) (by decide) (by decide) (mo_dropE (h := b + 1) (n := 1) (c := b) hl hO f3 ht hfh (by omega) (by omega)) ?_
  show jl_E l G m_Mo_simple (0, 0) 121 [some (.ref 22), some (.int (nI 23)), some (.int (x)), some (.int (nI t))] [] (σ.set (45) (.inl (0, 13, .inl (fun j => nI ((va_up fh t (b)) j))))) P
  refine er_goto 182 d_Mo_simple_121 (by decide) ?_
  refine er_aload_n d_Mo_simple_182 rfl ?_
  refine er_callV (As := []) d_Mo_simple_183 k_Mo_simple_261 (jl_sn (by decide) hO) rfl rfl rfl (Nat.le_of_ble_eq_true rfl) (by decide) (by decide) (mo_mnext hl (jl_sn (by decide) hO) (jl_sn (by decide) f2) ht hfp) ?_
  show jl_E l G m_Mo_simple (0, 0) 186 [some (.ref 22), some (.int (nI 23)), some (.int (x)), some (.int (nI t))] [] ((σ.set (45) (.inl (0, 13, .inl (fun j => nI ((va_up fh t (b)) j))))).set (44) (.inl (0, 13, .inl (fun j => nI ((va_up fp t (p + 1)) j))))) P
  exact er_vret d_Mo_simple_186 rfl (hT _ ⟨_, _, _, _, _, _, _, _, _, _, _, _, (jl_sn (by decide) (jl_sn (by decide) hO)), (jl_sn (by decide) (jl_sn (by decide) f1)), (jl_ss (jl_sn (by decide) f2)), (jl_sn (by decide) (jl_ss f3)), (jl_sn (by decide) (jl_sn (by decide) f4)), (jl_sn (by decide) (jl_sn (by decide) f5)), (jl_sn (by decide) (jl_sn (by decide) f6)), (jl_sn (by decide) (jl_sn (by decide) f7)), ⟨(jl_sn (by decide) (jl_sn (by decide) k1)), (jl_sn (by decide) (jl_sn (by decide) k2)), (jl_sn (by decide) (jl_sn (by decide) k3))⟩, hB, (((((hy1).hg).pc).six).le (by omega)), ⟨⟨(jl_sn (by decide) (jl_sn (by decide) r1)), (jl_sn (by decide) (jl_sn (by decide) r2))⟩, hlo, hsk⟩, ((hF.set (by omega)).set (by omega))⟩) (by decide) (by decide)
end JNxc
