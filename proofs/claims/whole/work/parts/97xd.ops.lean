/-! the model's machine: INSTRUCTIONS without SIGNALS, 2 (wip/gen/p97xd.py) -/
section JNxd
variable {l : Launch} {G : jl_G} {σ : jl_S}
variable {tb : Nat → Bool} {pr : Nat → Option Nat} {ow fi ft : Nat → Nat} {hs : Nat → Bool} {fa vf wh wy hg dp md ov oh dn an : Int32}
variable {u1 u2 : Nat → Option Nat} {ur ul uo : Nat → Nat} {ua : Nat → Int32} {uc us ut uk : Nat → Nat}
variable {σ0 : jl_S} {N t m p h b n : Nat} {R : Rw} {V : Nat → Int32} {fs : List Fm} {H : Hp} {fa vf wh wy hg ov oh dn an x a v : Int32} {y : Option Nat}
theorem HpB.set {q j : Nat} {v : Int32} {ks : Nat → Int32} {kc : Nat → Nat} {kv : Nat → Int32} (h : HpB H ks kc kv) (hz : ∀ j, H.sz j ≤ 18) (hj : j < 18) (ty : Nat → Option Nat) : HpB ⟨H.n, H.sz, ty, va_up H.va (q * 18 + j) v, H.so⟩ ks kc (upd kv (18 * q + j) v) := by
  intro q' hq'
  obtain ⟨a, b, c⟩ := h q' hq'
  refine ⟨a, b, fun i hi => ?_⟩
  have hi : i < H.sz q' := hi
  have := hz q'
  show upd kv (18 * q + j) v (18 * q' + i) = va_up H.va (q * 18 + j) v (q' * 18 + i)
  rw [upd_up]
  by_cases e : q' * 18 + i = q * 18 + j
  · rw [e, va_up_self, show 18 * q' + i = 18 * q + j by omega, va_up_self]
  · rw [va_up_ne _ _ e, va_up_ne _ _ (by omega)]; exact c i hi
theorem d_Mo_simple_59 : decode m_Mo_simple.2.1 59 = .ok (.aload_n 0, 1) := by decide +kernel
theorem d_Mo_simple_60 : decode m_Mo_simple.2.1 60 = .ok (.iload_n 3, 1) := by decide +kernel
theorem d_Mo_simple_61 : decode m_Mo_simple.2.1 61 = .ok (.iload_n 2, 1) := by decide +kernel
theorem d_Mo_simple_62 : decode m_Mo_simple.2.1 62 = .ok (.aload_n 0, 1) := by decide +kernel
theorem f_Mo_simple_96 : jl_fd m_Mo_simple 96 7 31 = true := by decide +kernel
theorem d_Mo_simple_63 : decode m_Mo_simple.2.1 63 = .ok (.getfield 96, 3) := by decide +kernel
theorem d_Mo_simple_66 : decode m_Mo_simple.2.1 66 = .ok (.iconst 5, 1) := by decide +kernel
theorem d_Mo_simple_67 : decode m_Mo_simple.2.1 67 = .ok (.iload_n 3, 1) := by decide +kernel
theorem d_Mo_simple_68 : decode m_Mo_simple.2.1 68 = .ok (.imul, 1) := by decide +kernel
theorem d_Mo_simple_69 : decode m_Mo_simple.2.1 69 = .ok (.aload_n 0, 1) := by decide +kernel
theorem f_Mo_simple_84 : jl_fd m_Mo_simple 84 7 27 = true := by decide +kernel
theorem d_Mo_simple_70 : decode m_Mo_simple.2.1 70 = .ok (.getfield 84, 3) := by decide +kernel
theorem d_Mo_simple_73 : decode m_Mo_simple.2.1 73 = .ok (.iload_n 3, 1) := by decide +kernel
theorem d_Mo_simple_74 : decode m_Mo_simple.2.1 74 = .ok (.iaload, 1) := by decide +kernel
theorem d_Mo_simple_75 : decode m_Mo_simple.2.1 75 = .ok (.iadd, 1) := by decide +kernel
theorem d_Mo_simple_76 : decode m_Mo_simple.2.1 76 = .ok (.iconst 1, 1) := by decide +kernel
theorem d_Mo_simple_77 : decode m_Mo_simple.2.1 77 = .ok (.isub, 1) := by decide +kernel
theorem d_Mo_simple_78 : decode m_Mo_simple.2.1 78 = .ok (.iaload, 1) := by decide +kernel
theorem d_Mo_simple_79 : decode m_Mo_simple.2.1 79 = .ok (.aload_n 0, 1) := by decide +kernel
theorem d_Mo_simple_80 : decode m_Mo_simple.2.1 80 = .ok (.iconst 1, 1) := by decide +kernel
theorem k_Mo_simple_245 : jl_cv m_Mo_simple m_Mo_top 245 1 = true := by decide +kernel
theorem d_Mo_simple_81 : decode m_Mo_simple.2.1 81 = .ok (.invokevirtual 245, 3) := by decide +kernel
theorem k_Mo_simple_254 : jl_cv m_Mo_simple m_Mo_setLocal 254 4 = true := by decide +kernel
theorem d_Mo_simple_84 : decode m_Mo_simple.2.1 84 = .ok (.invokevirtual 254, 3) := by decide +kernel
theorem d_Mo_simple_87 : decode m_Mo_simple.2.1 87 = .ok (.aload_n 0, 1) := by decide +kernel
theorem d_Mo_simple_88 : decode m_Mo_simple.2.1 88 = .ok (.iconst 1, 1) := by decide +kernel
theorem d_Mo_simple_89 : decode m_Mo_simple.2.1 89 = .ok (.invokevirtual 242, 3) := by decide +kernel
theorem d_Mo_simple_92 : decode m_Mo_simple.2.1 92 = .ok (.goto 90, 3) := by decide +kernel
theorem mo_si_2 (hl : l.stackTraces = false) {P : jl_O → jl_S → Prop}  (hn : NB σ0 σ (b + 1) t m (p) (b + 1) (R) (V) (fs) (H) fa vf wh wy hg ov oh dn an) (ht : t < 12) (hb : b + 1 ≤ 5) (hp : b ≤ 5) (hn6 : n < 6) (hT : ∀ σ', NB σ0 σ' (b) t m (p + 1) (b) (va_up (va_up R 6 (some b)) n (R (7 + b))) (va_up V n (V (7 + b))) (fs) (H) fa vf wh wy hg ov oh dn an → P (.inl none) σ') : jl_mE l G m_Mo_simple [.ref 22, .int (nI 2), .int (nI n)] σ P := by
  obtain ⟨fx, fp, fh, lw, lk, vl, vk, ks, kc, kv, lo, sk, hO, f1, f2, f3, f4, f5, f6, f7, hH, hB, hy1, hR1, hF⟩ := id hn
  obtain ⟨k1, k2, k3⟩ := id hH
  obtain ⟨⟨r1, r2⟩, hlo, hsk⟩ := id hR1
  obtain ⟨⟨hfx, hfp, hlc, hst⟩, hfh, hfs, hln⟩ := id hy1
  have hfx : fx t = m := hfx
  have hfp : fp t = p := hfp
  have hlc : ∀ k, k < 6 → lk (6 * t + k) = kdI (R k) ∧ (R k ≠ none → lw (6 * t + k) = V k) := hlc
  have hst : ∀ j, j < _ → vk (5 * t + j) = kdI (R (7 + j)) ∧ vl (5 * t + j) = V (7 + j) := hst
  have hS0 : vl (5 * t + (b)) = V (7 + b) := by rw [show 7 + b = 7 + (b) by omega]; exact (hst _ (by omega)).2
  have hK0 : vk (5 * t + (b)) = kdI (R (7 + b)) := by rw [show 7 + b = 7 + (b) by omega]; exact (hst _ (by omega)).1
  refine jl_ofE (as := [.ref 22, .int (nI 2), .int (nI n)]) rfl (by decide) hl (jl_cc rfl (jl_cc rfl (jl_cc rfl jl_ca))) (Nat.le_of_ble_eq_true rfl) ?_
  show jl_E l G m_Mo_simple (0, 0) 0 [some (.ref 22), some (.int (nI 2)), some (.int (nI n)), none] [] (σ) P
  refine er_aload_n d_Mo_simple_0 rfl ?_
  refine er_getf d_Mo_simple_1 f_Mo_simple_224 hO rfl ?_
  refine er_iconst ((nI (1))) d_Mo_simple_4 (by decide) ?_
  refine er_isubN d_Mo_simple_5 (by omega) ?_
  rw [show (t + 1) - (1) = t by omega]
  show jl_E l G m_Mo_simple (0, 0) 6 [some (.ref 22), some (.int (nI 2)), some (.int (nI n)), none] [.int (nI t)] (σ) P
  refine er_istore_n d_Mo_simple_6 (by decide) ?_
  show jl_E l G m_Mo_simple (0, 0) 7 [some (.ref 22), some (.int (nI 2)), some (.int (nI n)), some (.int (nI t))] [] (σ) P
  refine er_iload_n d_Mo_simple_7 rfl ?_
  refine er_if_ne 20 d_Mo_simple_8 (by decide) (fun _ => ?_) (fun z => absurd z (by decide))
  refine er_iload_n d_Mo_simple_20 rfl ?_
  refine er_iconst ((nI (1))) d_Mo_simple_21 (by decide) ?_
  refine er_icmp_ne 54 d_Mo_simple_22 (by decide) (fun _ => ?_) (fun z => absurd z (by decide))
  refine er_iload_n d_Mo_simple_54 rfl ?_
  refine er_iconst ((nI (2))) d_Mo_simple_55 (by decide) ?_
  refine er_icmp_ne 95 d_Mo_simple_56 (by decide) (fun z => absurd rfl z) (fun _ => ?_)
  refine er_aload_n d_Mo_simple_59 rfl ?_
  refine er_iload_n d_Mo_simple_60 rfl ?_
  refine er_iload_n d_Mo_simple_61 rfl ?_
  refine er_aload_n d_Mo_simple_62 rfl ?_
  refine er_getf d_Mo_simple_63 f_Mo_simple_96 hO rfl ?_
  refine er_iconst ((nI (5))) d_Mo_simple_66 (by decide) ?_
  refine er_iload_n d_Mo_simple_67 rfl ?_
  refine er_imulN d_Mo_simple_68 ?_
  refine er_aload_n d_Mo_simple_69 rfl ?_
  refine er_getf d_Mo_simple_70 f_Mo_simple_84 hO rfl ?_
  refine er_iload_n d_Mo_simple_73 rfl ?_
  refine er_ialdQ (v := (nI (b + 1))) d_Mo_simple_74 f3 (by omega) (by omega) (congrArg nI hfh) ?_
  refine er_iaddN d_Mo_simple_75 ?_
  refine er_iconst ((nI (1))) d_Mo_simple_76 (by decide) ?_
  refine er_isubN d_Mo_simple_77 (by omega) ?_
  refine er_ialdQ (v := (kdI (R (7 + b)))) d_Mo_simple_78 f7 (by omega) (by omega) ((congrArg vk (by omega)).trans hK0) ?_
  refine er_aload_n d_Mo_simple_79 rfl ?_
  refine er_iconst ((nI (1))) d_Mo_simple_80 (by decide) ?_
  refine er_callV (As := [.int (nI 1)]) d_Mo_simple_81 k_Mo_simple_245 hO rfl rfl rfl (Nat.le_of_ble_eq_true rfl) (by decide) (by decide) (mo_topE (h := b + 1) (n := 1) (v := (V (7 + b))) hl hO f3 f6 ht hfh (by omega) (by omega) (by omega) (by rw [show 5 * t + (b + 1) - 1 = 5 * t + (b) by omega]; exact hS0)) ?_
  show jl_E l G m_Mo_simple (0, 0) 84 [some (.ref 22), some (.int (nI 2)), some (.int (nI n)), some (.int (nI t))] [.int (V (7 + b)), .int (kdI (R (7 + b))), .int (nI n), .int (nI t), .ref 22] (σ) P
  refine er_callV (As := [.int (nI t), .int (nI n), .int (kdI (R (7 + b))), .int (V (7 + b))]) d_Mo_simple_84 k_Mo_simple_254 hO rfl rfl rfl (Nat.le_of_ble_eq_true rfl) (by decide) (by decide) (mo_mlocal (f := t) (k := n) (a := (kdI (R (7 + b)))) (b := (V (7 + b))) hl hO f4 f5 (by omega) (by omega)) ?_
  show jl_E l G m_Mo_simple (0, 0) 87 [some (.ref 22), some (.int (nI 2)), some (.int (nI n)), some (.int (nI t))] [] ((σ.set (47) (.inl (0, 78, .inl (upd lk (6 * t + n) (kdI (R (7 + b))))))).set (46) (.inl (0, 78, .inl (upd lw (6 * t + n) (V (7 + b)))))) P
  refine er_aload_n d_Mo_simple_87 rfl ?_
  refine er_iconst ((nI (1))) d_Mo_simple_88 (by decide) ?_
  refine er_callV (As := [.int (nI 1)]) d_Mo_simple_89 k_Mo_simple_242 (jl_sn (by decide) (jl_sn (by decide) hO)) rfl rfl rfl (Nat.le_of_ble_eq_true rfl) (by decide) (by decide) (mo_dropE (h := b + 1) (n := 1) (c := b) hl (jl_sn (by decide) (jl_sn (by decide) hO)) (jl_sn (by decide) (jl_sn (by decide) f3)) ht hfh (by omega) (by omega)) ?_
  show jl_E l G m_Mo_simple (0, 0) 92 [some (.ref 22), some (.int (nI 2)), some (.int (nI n)), some (.int (nI t))] [] (((σ.set (47) (.inl (0, 78, .inl (upd lk (6 * t + n) (kdI (R (7 + b))))))).set (46) (.inl (0, 78, .inl (upd lw (6 * t + n) (V (7 + b)))))).set (45) (.inl (0, 13, .inl (fun j => nI ((va_up fh t (b)) j))))) P
  refine er_goto 182 d_Mo_simple_92 (by decide) ?_
  refine er_aload_n d_Mo_simple_182 rfl ?_
  refine er_callV (As := []) d_Mo_simple_183 k_Mo_simple_261 (jl_sn (by decide) (jl_sn (by decide) (jl_sn (by decide) hO))) rfl rfl rfl (Nat.le_of_ble_eq_true rfl) (by decide) (by decide) (mo_mnext hl (jl_sn (by decide) (jl_sn (by decide) (jl_sn (by decide) hO))) (jl_sn (by decide) (jl_sn (by decide) (jl_sn (by decide) f2))) ht hfp) ?_
  show jl_E l G m_Mo_simple (0, 0) 186 [some (.ref 22), some (.int (nI 2)), some (.int (nI n)), some (.int (nI t))] [] ((((σ.set (47) (.inl (0, 78, .inl (upd lk (6 * t + n) (kdI (R (7 + b))))))).set (46) (.inl (0, 78, .inl (upd lw (6 * t + n) (V (7 + b)))))).set (45) (.inl (0, 13, .inl (fun j => nI ((va_up fh t (b)) j))))).set (44) (.inl (0, 13, .inl (fun j => nI ((va_up fp t (p + 1)) j))))) P
  exact er_vret d_Mo_simple_186 rfl (hT _ ⟨_, _, _, _, _, _, _, _, _, _, _, _, (jl_sn (by decide) (jl_sn (by decide) (jl_sn (by decide) (jl_sn (by decide) hO)))), (jl_sn (by decide) (jl_sn (by decide) (jl_sn (by decide) (jl_sn (by decide) f1)))), (jl_ss (jl_sn (by decide) (jl_sn (by decide) (jl_sn (by decide) f2)))), (jl_sn (by decide) (jl_ss (jl_sn (by decide) (jl_sn (by decide) f3)))), (jl_sn (by decide) (jl_sn (by decide) (jl_ss (jl_sn (by decide) f4)))), (jl_sn (by decide) (jl_sn (by decide) (jl_sn (by decide) (jl_ss f5)))), (jl_sn (by decide) (jl_sn (by decide) (jl_sn (by decide) (jl_sn (by decide) f6)))), (jl_sn (by decide) (jl_sn (by decide) (jl_sn (by decide) (jl_sn (by decide) f7)))), ⟨(jl_sn (by decide) (jl_sn (by decide) (jl_sn (by decide) (jl_sn (by decide) k1)))), (jl_sn (by decide) (jl_sn (by decide) (jl_sn (by decide) (jl_sn (by decide) k2)))), (jl_sn (by decide) (jl_sn (by decide) (jl_sn (by decide) (jl_sn (by decide) k3))))⟩, hB, (((((((hy1.six (y := some b))).locA (k := n) (y := (R (7 + b))) (v := (V (7 + b))) (by omega) rfl)).hg).pc).le (by omega)), ⟨⟨(jl_sn (by decide) (jl_sn (by decide) (jl_sn (by decide) (jl_sn (by decide) r1)))), (jl_sn (by decide) (jl_sn (by decide) (jl_sn (by decide) (jl_sn (by decide) r2))))⟩, hlo, hsk⟩, ((((hF.set (by omega)).set (by omega)).set (by omega)).set (by omega))⟩) (by decide) (by decide)
theorem d_Mo_simple_124 : decode m_Mo_simple.2.1 124 = .ok (.iload_n 1, 1) := by decide +kernel
theorem d_Mo_simple_125 : decode m_Mo_simple.2.1 125 = .ok (.bipush 24, 2) := by decide +kernel
theorem d_Mo_simple_127 : decode m_Mo_simple.2.1 127 = .ok (.if_icmp .ne 32, 3) := by decide +kernel
theorem d_Mo_simple_130 : decode m_Mo_simple.2.1 130 = .ok (.aload_n 0, 1) := by decide +kernel
theorem d_Mo_simple_131 : decode m_Mo_simple.2.1 131 = .ok (.aload_n 0, 1) := by decide +kernel
theorem d_Mo_simple_132 : decode m_Mo_simple.2.1 132 = .ok (.getfield 96, 3) := by decide +kernel
theorem d_Mo_simple_135 : decode m_Mo_simple.2.1 135 = .ok (.iconst 5, 1) := by decide +kernel
theorem d_Mo_simple_136 : decode m_Mo_simple.2.1 136 = .ok (.iload_n 3, 1) := by decide +kernel
theorem d_Mo_simple_137 : decode m_Mo_simple.2.1 137 = .ok (.imul, 1) := by decide +kernel
theorem d_Mo_simple_138 : decode m_Mo_simple.2.1 138 = .ok (.aload_n 0, 1) := by decide +kernel
theorem d_Mo_simple_139 : decode m_Mo_simple.2.1 139 = .ok (.getfield 84, 3) := by decide +kernel
theorem d_Mo_simple_142 : decode m_Mo_simple.2.1 142 = .ok (.iload_n 3, 1) := by decide +kernel
theorem d_Mo_simple_143 : decode m_Mo_simple.2.1 143 = .ok (.iaload, 1) := by decide +kernel
theorem d_Mo_simple_144 : decode m_Mo_simple.2.1 144 = .ok (.iadd, 1) := by decide +kernel
theorem d_Mo_simple_145 : decode m_Mo_simple.2.1 145 = .ok (.iconst 1, 1) := by decide +kernel
theorem d_Mo_simple_146 : decode m_Mo_simple.2.1 146 = .ok (.isub, 1) := by decide +kernel
theorem d_Mo_simple_147 : decode m_Mo_simple.2.1 147 = .ok (.iaload, 1) := by decide +kernel
theorem d_Mo_simple_148 : decode m_Mo_simple.2.1 148 = .ok (.aload_n 0, 1) := by decide +kernel
theorem d_Mo_simple_149 : decode m_Mo_simple.2.1 149 = .ok (.iconst 1, 1) := by decide +kernel
theorem d_Mo_simple_150 : decode m_Mo_simple.2.1 150 = .ok (.invokevirtual 245, 3) := by decide +kernel
theorem d_Mo_simple_153 : decode m_Mo_simple.2.1 153 = .ok (.invokevirtual 236, 3) := by decide +kernel
theorem d_Mo_simple_156 : decode m_Mo_simple.2.1 156 = .ok (.goto 26, 3) := by decide +kernel
theorem mo_si_24 (hl : l.stackTraces = false) {P : jl_O → jl_S → Prop}  (hn : NB σ0 σ (b + 1) t m (p) (b + 1) (R) (V) (fs) (H) fa vf wh wy hg ov oh dn an) (ht : t < 12) (hb : b + 1 ≤ 5) (hp : b + 2 ≤ 5)  (hT : ∀ σ', NB σ0 σ' (b + 2) t m (p + 1) (b + 2) (psh R (b + 1) (R (7 + b))) (va_up V (7 + (b + 1)) (V (7 + b))) (fs) (H) fa vf wh wy hg ov oh dn an → P (.inl none) σ') : jl_mE l G m_Mo_simple [.ref 22, .int (nI 24), .int (x)] σ P := by
  obtain ⟨fx, fp, fh, lw, lk, vl, vk, ks, kc, kv, lo, sk, hO, f1, f2, f3, f4, f5, f6, f7, hH, hB, hy1, hR1, hF⟩ := id hn
  obtain ⟨k1, k2, k3⟩ := id hH
  obtain ⟨⟨r1, r2⟩, hlo, hsk⟩ := id hR1
  obtain ⟨⟨hfx, hfp, hlc, hst⟩, hfh, hfs, hln⟩ := id hy1
  have hfx : fx t = m := hfx
  have hfp : fp t = p := hfp
  have hlc : ∀ k, k < 6 → lk (6 * t + k) = kdI (R k) ∧ (R k ≠ none → lw (6 * t + k) = V k) := hlc
  have hst : ∀ j, j < _ → vk (5 * t + j) = kdI (R (7 + j)) ∧ vl (5 * t + j) = V (7 + j) := hst
  have hS0 : vl (5 * t + (b)) = V (7 + b) := by rw [show 7 + b = 7 + (b) by omega]; exact (hst _ (by omega)).2
  have hK0 : vk (5 * t + (b)) = kdI (R (7 + b)) := by rw [show 7 + b = 7 + (b) by omega]; exact (hst _ (by omega)).1
  refine jl_ofE (as := [.ref 22, .int (nI 24), .int (x)]) rfl (by decide) hl (jl_cc rfl (jl_cc rfl (jl_cc rfl jl_ca))) (Nat.le_of_ble_eq_true rfl) ?_
  show jl_E l G m_Mo_simple (0, 0) 0 [some (.ref 22), some (.int (nI 24)), some (.int (x)), none] [] (σ) P
  refine er_aload_n d_Mo_simple_0 rfl ?_
  refine er_getf d_Mo_simple_1 f_Mo_simple_224 hO rfl ?_
  refine er_iconst ((nI (1))) d_Mo_simple_4 (by decide) ?_
  refine er_isubN d_Mo_simple_5 (by omega) ?_
  rw [show (t + 1) - (1) = t by omega]
  show jl_E l G m_Mo_simple (0, 0) 6 [some (.ref 22), some (.int (nI 24)), some (.int (x)), none] [.int (nI t)] (σ) P
  refine er_istore_n d_Mo_simple_6 (by decide) ?_
  show jl_E l G m_Mo_simple (0, 0) 7 [some (.ref 22), some (.int (nI 24)), some (.int (x)), some (.int (nI t))] [] (σ) P
  refine er_iload_n d_Mo_simple_7 rfl ?_
  refine er_if_ne 20 d_Mo_simple_8 (by decide) (fun _ => ?_) (fun z => absurd z (by decide))
  refine er_iload_n d_Mo_simple_20 rfl ?_
  refine er_iconst ((nI (1))) d_Mo_simple_21 (by decide) ?_
  refine er_icmp_ne 54 d_Mo_simple_22 (by decide) (fun _ => ?_) (fun z => absurd z (by decide))
  refine er_iload_n d_Mo_simple_54 rfl ?_
  refine er_iconst ((nI (2))) d_Mo_simple_55 (by decide) ?_
  refine er_icmp_ne 95 d_Mo_simple_56 (by decide) (fun _ => ?_) (fun z => absurd z (by decide))
  refine er_iload_n d_Mo_simple_95 rfl ?_
  refine er_bipush ((nI (10))) d_Mo_simple_96 (by decide) ?_
  refine er_icmp_ne 110 d_Mo_simple_98 (by decide) (fun _ => ?_) (fun z => absurd z (by decide))
  refine er_iload_n d_Mo_simple_110 rfl ?_
  refine er_bipush ((nI (23))) d_Mo_simple_111 (by decide) ?_
  refine er_icmp_ne 124 d_Mo_simple_113 (by decide) (fun _ => ?_) (fun z => absurd z (by decide))
  refine er_iload_n d_Mo_simple_124 rfl ?_
  refine er_bipush ((nI (24))) d_Mo_simple_125 (by decide) ?_
  refine er_icmp_ne 159 d_Mo_simple_127 (by decide) (fun z => absurd rfl z) (fun _ => ?_)
  refine er_aload_n d_Mo_simple_130 rfl ?_
  refine er_aload_n d_Mo_simple_131 rfl ?_
  refine er_getf d_Mo_simple_132 f_Mo_simple_96 hO rfl ?_
  refine er_iconst ((nI (5))) d_Mo_simple_135 (by decide) ?_
  refine er_iload_n d_Mo_simple_136 rfl ?_
  refine er_imulN d_Mo_simple_137 ?_
  refine er_aload_n d_Mo_simple_138 rfl ?_
  refine er_getf d_Mo_simple_139 f_Mo_simple_84 hO rfl ?_
  refine er_iload_n d_Mo_simple_142 rfl ?_
  refine er_ialdQ (v := (nI (b + 1))) d_Mo_simple_143 f3 (by omega) (by omega) (congrArg nI hfh) ?_
  refine er_iaddN d_Mo_simple_144 ?_
  refine er_iconst ((nI (1))) d_Mo_simple_145 (by decide) ?_
  refine er_isubN d_Mo_simple_146 (by omega) ?_
  refine er_ialdQ (v := (kdI (R (7 + b)))) d_Mo_simple_147 f7 (by omega) (by omega) ((congrArg vk (by omega)).trans hK0) ?_
  refine er_aload_n d_Mo_simple_148 rfl ?_
  refine er_iconst ((nI (1))) d_Mo_simple_149 (by decide) ?_
  refine er_callV (As := [.int (nI 1)]) d_Mo_simple_150 k_Mo_simple_245 hO rfl rfl rfl (Nat.le_of_ble_eq_true rfl) (by decide) (by decide) (mo_topE (h := b + 1) (n := 1) (v := (V (7 + b))) hl hO f3 f6 ht hfh (by omega) (by omega) (by omega) (by rw [show 5 * t + (b + 1) - 1 = 5 * t + (b) by omega]; exact hS0)) ?_
  show jl_E l G m_Mo_simple (0, 0) 153 [some (.ref 22), some (.int (nI 24)), some (.int (x)), some (.int (nI t))] [.int (V (7 + b)), .int (kdI (R (7 + b))), .ref 22] (σ) P
  refine er_callV (As := [.int (kdI (R (7 + b))), .int (V (7 + b))]) d_Mo_simple_153 k_Mo_simple_236 hO rfl rfl rfl (Nat.le_of_ble_eq_true rfl) (by decide) (by decide) (mo_mput (h := b + 1) (a := (kdI (R (7 + b)))) (b := (V (7 + b))) hl hO f3 f6 f7 ht hfh (by omega)) ?_
  show jl_E l G m_Mo_simple (0, 0) 156 [some (.ref 22), some (.int (nI 24)), some (.int (x)), some (.int (nI t))] [] (((σ.set (49) (.inl (0, 65, .inl (upd vk (5 * t + (b + 1)) (kdI (R (7 + b))))))).set (48) (.inl (0, 65, .inl (upd vl (5 * t + (b + 1)) (V (7 + b)))))).set (45) (.inl (0, 13, .inl (fun j => nI ((va_up fh t (b + 2)) j))))) P
  refine er_goto 182 d_Mo_simple_156 (by decide) ?_
  refine er_aload_n d_Mo_simple_182 rfl ?_
  refine er_callV (As := []) d_Mo_simple_183 k_Mo_simple_261 (jl_sn (by decide) (jl_sn (by decide) (jl_sn (by decide) hO))) rfl rfl rfl (Nat.le_of_ble_eq_true rfl) (by decide) (by decide) (mo_mnext hl (jl_sn (by decide) (jl_sn (by decide) (jl_sn (by decide) hO))) (jl_sn (by decide) (jl_sn (by decide) (jl_sn (by decide) f2))) ht hfp) ?_
  show jl_E l G m_Mo_simple (0, 0) 186 [some (.ref 22), some (.int (nI 24)), some (.int (x)), some (.int (nI t))] [] ((((σ.set (49) (.inl (0, 65, .inl (upd vk (5 * t + (b + 1)) (kdI (R (7 + b))))))).set (48) (.inl (0, 65, .inl (upd vl (5 * t + (b + 1)) (V (7 + b)))))).set (45) (.inl (0, 13, .inl (fun j => nI ((va_up fh t (b + 2)) j))))).set (44) (.inl (0, 13, .inl (fun j => nI ((va_up fp t (p + 1)) j))))) P
  exact er_vret d_Mo_simple_186 rfl (hT _ ⟨_, _, _, _, _, _, _, _, _, _, _, _, (jl_sn (by decide) (jl_sn (by decide) (jl_sn (by decide) (jl_sn (by decide) hO)))), (jl_sn (by decide) (jl_sn (by decide) (jl_sn (by decide) (jl_sn (by decide) f1)))), (jl_ss (jl_sn (by decide) (jl_sn (by decide) (jl_sn (by decide) f2)))), (jl_sn (by decide) (jl_ss (jl_sn (by decide) (jl_sn (by decide) f3)))), (jl_sn (by decide) (jl_sn (by decide) (jl_sn (by decide) (jl_sn (by decide) f4)))), (jl_sn (by decide) (jl_sn (by decide) (jl_sn (by decide) (jl_sn (by decide) f5)))), (jl_sn (by decide) (jl_sn (by decide) (jl_ss (jl_sn (by decide) f6)))), (jl_sn (by decide) (jl_sn (by decide) (jl_sn (by decide) (jl_ss f7)))), ⟨(jl_sn (by decide) (jl_sn (by decide) (jl_sn (by decide) (jl_sn (by decide) k1)))), (jl_sn (by decide) (jl_sn (by decide) (jl_sn (by decide) (jl_sn (by decide) k2)))), (jl_sn (by decide) (jl_sn (by decide) (jl_sn (by decide) (jl_sn (by decide) k3))))⟩, hB, (((((hy1).putA (y := (R (7 + b))) (by omega) rfl)).pc).le (by omega)), ⟨⟨(jl_sn (by decide) (jl_sn (by decide) (jl_sn (by decide) (jl_sn (by decide) r1)))), (jl_sn (by decide) (jl_sn (by decide) (jl_sn (by decide) (jl_sn (by decide) r2))))⟩, hlo, hsk⟩, ((((hF.set (by omega)).set (by omega)).set (by omega)).set (by omega))⟩) (by decide) (by decide)
theorem d_Mo_simple_159 : decode m_Mo_simple.2.1 159 = .ok (.aload_n 0, 1) := by decide +kernel
theorem d_Mo_simple_160 : decode m_Mo_simple.2.1 160 = .ok (.iconst 2, 1) := by decide +kernel
theorem d_Mo_simple_161 : decode m_Mo_simple.2.1 161 = .ok (.aload_n 0, 1) := by decide +kernel
theorem d_Mo_simple_162 : decode m_Mo_simple.2.1 162 = .ok (.iconst 1, 1) := by decide +kernel
theorem d_Mo_simple_163 : decode m_Mo_simple.2.1 163 = .ok (.invokevirtual 245, 3) := by decide +kernel
theorem d_Mo_simple_166 : decode m_Mo_simple.2.1 166 = .ok (.aload_n 0, 1) := by decide +kernel
theorem d_Mo_simple_167 : decode m_Mo_simple.2.1 167 = .ok (.iconst 2, 1) := by decide +kernel
theorem d_Mo_simple_168 : decode m_Mo_simple.2.1 168 = .ok (.invokevirtual 245, 3) := by decide +kernel
theorem d_Mo_simple_171 : decode m_Mo_simple.2.1 171 = .ok (.if_icmp .ne 7, 3) := by decide +kernel
theorem d_Mo_simple_174 : decode m_Mo_simple.2.1 174 = .ok (.iconst 1, 1) := by decide +kernel
theorem d_Mo_simple_175 : decode m_Mo_simple.2.1 175 = .ok (.goto 4, 3) := by decide +kernel
theorem k_Mo_simple_264 : jl_cv m_Mo_simple m_Mo_become 264 2 = true := by decide +kernel
theorem d_Mo_simple_179 : decode m_Mo_simple.2.1 179 = .ok (.invokevirtual 264, 3) := by decide +kernel
theorem mo_si_25e (hl : l.stackTraces = false) {P : jl_O → jl_S → Prop}  (hn : NB σ0 σ (b + 2) t m (p) (b + 2) (R) (V) (fs) (H) fa vf wh wy hg ov oh dn an) (ht : t < 12) (hb : b + 2 ≤ 5) (hp : b + 1 ≤ 5) (he : V (7 + b) = V (8 + b)) (hT : ∀ σ', NB σ0 σ' (b + 1) t m (p + 1) (b + 1) (psh R b (some 0)) (va_up V (7 + b) (nI 1)) (fs) (H) fa vf wh wy hg ov oh dn an → P (.inl none) σ') : jl_mE l G m_Mo_simple [.ref 22, .int (nI 25), .int (x)] σ P := by
  obtain ⟨fx, fp, fh, lw, lk, vl, vk, ks, kc, kv, lo, sk, hO, f1, f2, f3, f4, f5, f6, f7, hH, hB, hy1, hR1, hF⟩ := id hn
  obtain ⟨k1, k2, k3⟩ := id hH
  obtain ⟨⟨r1, r2⟩, hlo, hsk⟩ := id hR1
  obtain ⟨⟨hfx, hfp, hlc, hst⟩, hfh, hfs, hln⟩ := id hy1
  have hfx : fx t = m := hfx
  have hfp : fp t = p := hfp
  have hlc : ∀ k, k < 6 → lk (6 * t + k) = kdI (R k) ∧ (R k ≠ none → lw (6 * t + k) = V k) := hlc
  have hst : ∀ j, j < _ → vk (5 * t + j) = kdI (R (7 + j)) ∧ vl (5 * t + j) = V (7 + j) := hst
  have hS0 : vl (5 * t + (b)) = V (7 + b) := by rw [show 7 + b = 7 + (b) by omega]; exact (hst _ (by omega)).2
  have hK0 : vk (5 * t + (b)) = kdI (R (7 + b)) := by rw [show 7 + b = 7 + (b) by omega]; exact (hst _ (by omega)).1
  have hS1 : vl (5 * t + (b + 1)) = V (8 + b) := by rw [show 8 + b = 7 + (b + 1) by omega]; exact (hst _ (by omega)).2
  have hK1 : vk (5 * t + (b + 1)) = kdI (R (8 + b)) := by rw [show 8 + b = 7 + (b + 1) by omega]; exact (hst _ (by omega)).1
  refine jl_ofE (as := [.ref 22, .int (nI 25), .int (x)]) rfl (by decide) hl (jl_cc rfl (jl_cc rfl (jl_cc rfl jl_ca))) (Nat.le_of_ble_eq_true rfl) ?_
  show jl_E l G m_Mo_simple (0, 0) 0 [some (.ref 22), some (.int (nI 25)), some (.int (x)), none] [] (σ) P
  refine er_aload_n d_Mo_simple_0 rfl ?_
  refine er_getf d_Mo_simple_1 f_Mo_simple_224 hO rfl ?_
  refine er_iconst ((nI (1))) d_Mo_simple_4 (by decide) ?_
  refine er_isubN d_Mo_simple_5 (by omega) ?_
  rw [show (t + 1) - (1) = t by omega]
  show jl_E l G m_Mo_simple (0, 0) 6 [some (.ref 22), some (.int (nI 25)), some (.int (x)), none] [.int (nI t)] (σ) P
  refine er_istore_n d_Mo_simple_6 (by decide) ?_
  show jl_E l G m_Mo_simple (0, 0) 7 [some (.ref 22), some (.int (nI 25)), some (.int (x)), some (.int (nI t))] [] (σ) P
  refine er_iload_n d_Mo_simple_7 rfl ?_
  refine er_if_ne 20 d_Mo_simple_8 (by decide) (fun _ => ?_) (fun z => absurd z (by decide))
  refine er_iload_n d_Mo_simple_20 rfl ?_
  refine er_iconst ((nI (1))) d_Mo_simple_21 (by decide) ?_
  refine er_icmp_ne 54 d_Mo_simple_22 (by decide) (fun _ => ?_) (fun z => absurd z (by decide))
  refine er_iload_n d_Mo_simple_54 rfl ?_
  refine er_iconst ((nI (2))) d_Mo_simple_55 (by decide) ?_
  refine er_icmp_ne 95 d_Mo_simple_56 (by decide) (fun _ => ?_) (fun z => absurd z (by decide))
  refine er_iload_n d_Mo_simple_95 rfl ?_
  refine er_bipush ((nI (10))) d_Mo_simple_96 (by decide) ?_
  refine er_icmp_ne 110 d_Mo_simple_98 (by decide) (fun _ => ?_) (fun z => absurd z (by decide))
  refine er_iload_n d_Mo_simple_110 rfl ?_
  refine er_bipush ((nI (23))) d_Mo_simple_111 (by decide) ?_
  refine er_icmp_ne 124 d_Mo_simple_113 (by decide) (fun _ => ?_) (fun z => absurd z (by decide))
  refine er_iload_n d_Mo_simple_124 rfl ?_
  refine er_bipush ((nI (24))) d_Mo_simple_125 (by decide) ?_
  refine er_icmp_ne 159 d_Mo_simple_127 (by decide) (fun _ => ?_) (fun z => absurd z (by decide))
  refine er_aload_n d_Mo_simple_159 rfl ?_
  refine er_iconst ((nI (2))) d_Mo_simple_160 (by decide) ?_
  refine er_aload_n d_Mo_simple_161 rfl ?_
  refine er_iconst ((nI (1))) d_Mo_simple_162 (by decide) ?_
  refine er_callV (As := [.int (nI 1)]) d_Mo_simple_163 k_Mo_simple_245 hO rfl rfl rfl (Nat.le_of_ble_eq_true rfl) (by decide) (by decide) (mo_topE (h := b + 2) (n := 1) (v := (V (8 + b))) hl hO f3 f6 ht hfh (by omega) (by omega) (by omega) (by rw [show 5 * t + (b + 2) - 1 = 5 * t + (b + 1) by omega]; exact hS1)) ?_
  show jl_E l G m_Mo_simple (0, 0) 166 [some (.ref 22), some (.int (nI 25)), some (.int (x)), some (.int (nI t))] [.int (V (8 + b)), .int (nI 2), .ref 22] (σ) P
  refine er_aload_n d_Mo_simple_166 rfl ?_
  refine er_iconst ((nI (2))) d_Mo_simple_167 (by decide) ?_
  refine er_callV (As := [.int (nI 2)]) d_Mo_simple_168 k_Mo_simple_245 hO rfl rfl rfl (Nat.le_of_ble_eq_true rfl) (by decide) (by decide) (mo_topE (h := b + 2) (n := 2) (v := (V (7 + b))) hl hO f3 f6 ht hfh (by omega) (by omega) (by omega) (by rw [show 5 * t + (b + 2) - 2 = 5 * t + (b) by omega]; exact hS0)) ?_
  show jl_E l G m_Mo_simple (0, 0) 171 [some (.ref 22), some (.int (nI 25)), some (.int (x)), some (.int (nI t))] [.int (V (7 + b)), .int (V (8 + b)), .int (nI 2), .ref 22] (σ) P
  refine er_icmp_ne 178 d_Mo_simple_171 (by decide) (fun z => absurd (he.symm) z) (fun _ => ?_)
  refine er_iconst ((nI (1))) d_Mo_simple_174 (by decide) ?_
  refine er_goto 179 d_Mo_simple_175 (by decide) ?_
  refine er_callV (As := [.int (nI 2), .int (nI 1)]) d_Mo_simple_179 k_Mo_simple_264 hO rfl rfl rfl (Nat.le_of_ble_eq_true rfl) (by decide) (by decide) (mo_bec (h := b) (n := 2) (v := (nI (1))) hl hO f3 f6 f7 ht hfh (by omega)) ?_
  show jl_E l G m_Mo_simple (0, 0) 182 [some (.ref 22), some (.int (nI 25)), some (.int (x)), some (.int (nI t))] [] ((((σ.set (45) (.inl (0, 13, .inl (fun j => nI ((va_up fh t (b)) j))))).set (49) (.inl (0, 65, .inl (upd vk (5 * t + (b)) (nI 0))))).set (48) (.inl (0, 65, .inl (upd vl (5 * t + (b)) (nI (1)))))).set (45) (.inl (0, 13, .inl (fun j => nI ((va_up (va_up fh t (b)) t (b + 1)) j))))) P
  refine er_aload_n d_Mo_simple_182 rfl ?_
  refine er_callV (As := []) d_Mo_simple_183 k_Mo_simple_261 (jl_sn (by decide) (jl_sn (by decide) (jl_sn (by decide) (jl_sn (by decide) hO)))) rfl rfl rfl (Nat.le_of_ble_eq_true rfl) (by decide) (by decide) (mo_mnext hl (jl_sn (by decide) (jl_sn (by decide) (jl_sn (by decide) (jl_sn (by decide) hO)))) (jl_sn (by decide) (jl_sn (by decide) (jl_sn (by decide) (jl_sn (by decide) f2)))) ht hfp) ?_
  show jl_E l G m_Mo_simple (0, 0) 186 [some (.ref 22), some (.int (nI 25)), some (.int (x)), some (.int (nI t))] [] (((((σ.set (45) (.inl (0, 13, .inl (fun j => nI ((va_up fh t (b)) j))))).set (49) (.inl (0, 65, .inl (upd vk (5 * t + (b)) (nI 0))))).set (48) (.inl (0, 65, .inl (upd vl (5 * t + (b)) (nI (1)))))).set (45) (.inl (0, 13, .inl (fun j => nI ((va_up (va_up fh t (b)) t (b + 1)) j))))).set (44) (.inl (0, 13, .inl (fun j => nI ((va_up fp t (p + 1)) j))))) P
  exact er_vret d_Mo_simple_186 rfl (hT _ ⟨_, _, _, _, _, _, _, _, _, _, _, _, (jl_sn (by decide) (jl_sn (by decide) (jl_sn (by decide) (jl_sn (by decide) (jl_sn (by decide) hO))))), (jl_sn (by decide) (jl_sn (by decide) (jl_sn (by decide) (jl_sn (by decide) (jl_sn (by decide) f1))))), (jl_ss (jl_sn (by decide) (jl_sn (by decide) (jl_sn (by decide) (jl_sn (by decide) f2))))), (jl_sn (by decide) (jl_ss (jl_sn (by decide) (jl_sn (by decide) (jl_ss f3))))), (jl_sn (by decide) (jl_sn (by decide) (jl_sn (by decide) (jl_sn (by decide) (jl_sn (by decide) f4))))), (jl_sn (by decide) (jl_sn (by decide) (jl_sn (by decide) (jl_sn (by decide) (jl_sn (by decide) f5))))), (jl_sn (by decide) (jl_sn (by decide) (jl_ss (jl_sn (by decide) (jl_sn (by decide) f6))))), (jl_sn (by decide) (jl_sn (by decide) (jl_sn (by decide) (jl_ss (jl_sn (by decide) f7))))), ⟨(jl_sn (by decide) (jl_sn (by decide) (jl_sn (by decide) (jl_sn (by decide) (jl_sn (by decide) k1))))), (jl_sn (by decide) (jl_sn (by decide) (jl_sn (by decide) (jl_sn (by decide) (jl_sn (by decide) k2))))), (jl_sn (by decide) (jl_sn (by decide) (jl_sn (by decide) (jl_sn (by decide) (jl_sn (by decide) k3)))))⟩, hB, (((((hy1).hg.putA (y := some 0) (by omega) rfl)).pc).le (by omega)), ⟨⟨(jl_sn (by decide) (jl_sn (by decide) (jl_sn (by decide) (jl_sn (by decide) (jl_sn (by decide) r1))))), (jl_sn (by decide) (jl_sn (by decide) (jl_sn (by decide) (jl_sn (by decide) (jl_sn (by decide) r2)))))⟩, hlo, hsk⟩, (((((hF.set (by omega)).set (by omega)).set (by omega)).set (by omega)).set (by omega))⟩) (by decide) (by decide)
theorem d_Mo_simple_178 : decode m_Mo_simple.2.1 178 = .ok (.iconst 0, 1) := by decide +kernel
theorem mo_si_25d (hl : l.stackTraces = false) {P : jl_O → jl_S → Prop}  (hn : NB σ0 σ (b + 2) t m (p) (b + 2) (R) (V) (fs) (H) fa vf wh wy hg ov oh dn an) (ht : t < 12) (hb : b + 2 ≤ 5) (hp : b + 1 ≤ 5) (he : ¬ V (7 + b) = V (8 + b)) (hT : ∀ σ', NB σ0 σ' (b + 1) t m (p + 1) (b + 1) (psh R b (some 0)) (va_up V (7 + b) (nI 0)) (fs) (H) fa vf wh wy hg ov oh dn an → P (.inl none) σ') : jl_mE l G m_Mo_simple [.ref 22, .int (nI 25), .int (x)] σ P := by
  obtain ⟨fx, fp, fh, lw, lk, vl, vk, ks, kc, kv, lo, sk, hO, f1, f2, f3, f4, f5, f6, f7, hH, hB, hy1, hR1, hF⟩ := id hn
  obtain ⟨k1, k2, k3⟩ := id hH
  obtain ⟨⟨r1, r2⟩, hlo, hsk⟩ := id hR1
  obtain ⟨⟨hfx, hfp, hlc, hst⟩, hfh, hfs, hln⟩ := id hy1
  have hfx : fx t = m := hfx
  have hfp : fp t = p := hfp
  have hlc : ∀ k, k < 6 → lk (6 * t + k) = kdI (R k) ∧ (R k ≠ none → lw (6 * t + k) = V k) := hlc
  have hst : ∀ j, j < _ → vk (5 * t + j) = kdI (R (7 + j)) ∧ vl (5 * t + j) = V (7 + j) := hst
  have hS0 : vl (5 * t + (b)) = V (7 + b) := by rw [show 7 + b = 7 + (b) by omega]; exact (hst _ (by omega)).2
  have hK0 : vk (5 * t + (b)) = kdI (R (7 + b)) := by rw [show 7 + b = 7 + (b) by omega]; exact (hst _ (by omega)).1
  have hS1 : vl (5 * t + (b + 1)) = V (8 + b) := by rw [show 8 + b = 7 + (b + 1) by omega]; exact (hst _ (by omega)).2
  have hK1 : vk (5 * t + (b + 1)) = kdI (R (8 + b)) := by rw [show 8 + b = 7 + (b + 1) by omega]; exact (hst _ (by omega)).1
  refine jl_ofE (as := [.ref 22, .int (nI 25), .int (x)]) rfl (by decide) hl (jl_cc rfl (jl_cc rfl (jl_cc rfl jl_ca))) (Nat.le_of_ble_eq_true rfl) ?_
  show jl_E l G m_Mo_simple (0, 0) 0 [some (.ref 22), some (.int (nI 25)), some (.int (x)), none] [] (σ) P
  refine er_aload_n d_Mo_simple_0 rfl ?_
  refine er_getf d_Mo_simple_1 f_Mo_simple_224 hO rfl ?_
  refine er_iconst ((nI (1))) d_Mo_simple_4 (by decide) ?_
  refine er_isubN d_Mo_simple_5 (by omega) ?_
  rw [show (t + 1) - (1) = t by omega]
  show jl_E l G m_Mo_simple (0, 0) 6 [some (.ref 22), some (.int (nI 25)), some (.int (x)), none] [.int (nI t)] (σ) P
  refine er_istore_n d_Mo_simple_6 (by decide) ?_
  show jl_E l G m_Mo_simple (0, 0) 7 [some (.ref 22), some (.int (nI 25)), some (.int (x)), some (.int (nI t))] [] (σ) P
  refine er_iload_n d_Mo_simple_7 rfl ?_
  refine er_if_ne 20 d_Mo_simple_8 (by decide) (fun _ => ?_) (fun z => absurd z (by decide))
  refine er_iload_n d_Mo_simple_20 rfl ?_
  refine er_iconst ((nI (1))) d_Mo_simple_21 (by decide) ?_
  refine er_icmp_ne 54 d_Mo_simple_22 (by decide) (fun _ => ?_) (fun z => absurd z (by decide))
  refine er_iload_n d_Mo_simple_54 rfl ?_
  refine er_iconst ((nI (2))) d_Mo_simple_55 (by decide) ?_
  refine er_icmp_ne 95 d_Mo_simple_56 (by decide) (fun _ => ?_) (fun z => absurd z (by decide))
  refine er_iload_n d_Mo_simple_95 rfl ?_
  refine er_bipush ((nI (10))) d_Mo_simple_96 (by decide) ?_
  refine er_icmp_ne 110 d_Mo_simple_98 (by decide) (fun _ => ?_) (fun z => absurd z (by decide))
  refine er_iload_n d_Mo_simple_110 rfl ?_
  refine er_bipush ((nI (23))) d_Mo_simple_111 (by decide) ?_
  refine er_icmp_ne 124 d_Mo_simple_113 (by decide) (fun _ => ?_) (fun z => absurd z (by decide))
  refine er_iload_n d_Mo_simple_124 rfl ?_
  refine er_bipush ((nI (24))) d_Mo_simple_125 (by decide) ?_
  refine er_icmp_ne 159 d_Mo_simple_127 (by decide) (fun _ => ?_) (fun z => absurd z (by decide))
  refine er_aload_n d_Mo_simple_159 rfl ?_
  refine er_iconst ((nI (2))) d_Mo_simple_160 (by decide) ?_
  refine er_aload_n d_Mo_simple_161 rfl ?_
  refine er_iconst ((nI (1))) d_Mo_simple_162 (by decide) ?_
  refine er_callV (As := [.int (nI 1)]) d_Mo_simple_163 k_Mo_simple_245 hO rfl rfl rfl (Nat.le_of_ble_eq_true rfl) (by decide) (by decide) (mo_topE (h := b + 2) (n := 1) (v := (V (8 + b))) hl hO f3 f6 ht hfh (by omega) (by omega) (by omega) (by rw [show 5 * t + (b + 2) - 1 = 5 * t + (b + 1) by omega]; exact hS1)) ?_
  show jl_E l G m_Mo_simple (0, 0) 166 [some (.ref 22), some (.int (nI 25)), some (.int (x)), some (.int (nI t))] [.int (V (8 + b)), .int (nI 2), .ref 22] (σ) P
  refine er_aload_n d_Mo_simple_166 rfl ?_
  refine er_iconst ((nI (2))) d_Mo_simple_167 (by decide) ?_
  refine er_callV (As := [.int (nI 2)]) d_Mo_simple_168 k_Mo_simple_245 hO rfl rfl rfl (Nat.le_of_ble_eq_true rfl) (by decide) (by decide) (mo_topE (h := b + 2) (n := 2) (v := (V (7 + b))) hl hO f3 f6 ht hfh (by omega) (by omega) (by omega) (by rw [show 5 * t + (b + 2) - 2 = 5 * t + (b) by omega]; exact hS0)) ?_
  show jl_E l G m_Mo_simple (0, 0) 171 [some (.ref 22), some (.int (nI 25)), some (.int (x)), some (.int (nI t))] [.int (V (7 + b)), .int (V (8 + b)), .int (nI 2), .ref 22] (σ) P
  refine er_icmp_ne 178 d_Mo_simple_171 (by decide) (fun _ => ?_) (fun z => absurd z (fun z => he z.symm))
  refine er_iconst ((nI (0))) d_Mo_simple_178 (by decide) ?_
  refine er_callV (As := [.int (nI 2), .int (nI 0)]) d_Mo_simple_179 k_Mo_simple_264 hO rfl rfl rfl (Nat.le_of_ble_eq_true rfl) (by decide) (by decide) (mo_bec (h := b) (n := 2) (v := (nI (0))) hl hO f3 f6 f7 ht hfh (by omega)) ?_
  show jl_E l G m_Mo_simple (0, 0) 182 [some (.ref 22), some (.int (nI 25)), some (.int (x)), some (.int (nI t))] [] ((((σ.set (45) (.inl (0, 13, .inl (fun j => nI ((va_up fh t (b)) j))))).set (49) (.inl (0, 65, .inl (upd vk (5 * t + (b)) (nI 0))))).set (48) (.inl (0, 65, .inl (upd vl (5 * t + (b)) (nI (0)))))).set (45) (.inl (0, 13, .inl (fun j => nI ((va_up (va_up fh t (b)) t (b + 1)) j))))) P
  refine er_aload_n d_Mo_simple_182 rfl ?_
  refine er_callV (As := []) d_Mo_simple_183 k_Mo_simple_261 (jl_sn (by decide) (jl_sn (by decide) (jl_sn (by decide) (jl_sn (by decide) hO)))) rfl rfl rfl (Nat.le_of_ble_eq_true rfl) (by decide) (by decide) (mo_mnext hl (jl_sn (by decide) (jl_sn (by decide) (jl_sn (by decide) (jl_sn (by decide) hO)))) (jl_sn (by decide) (jl_sn (by decide) (jl_sn (by decide) (jl_sn (by decide) f2)))) ht hfp) ?_
  show jl_E l G m_Mo_simple (0, 0) 186 [some (.ref 22), some (.int (nI 25)), some (.int (x)), some (.int (nI t))] [] (((((σ.set (45) (.inl (0, 13, .inl (fun j => nI ((va_up fh t (b)) j))))).set (49) (.inl (0, 65, .inl (upd vk (5 * t + (b)) (nI 0))))).set (48) (.inl (0, 65, .inl (upd vl (5 * t + (b)) (nI (0)))))).set (45) (.inl (0, 13, .inl (fun j => nI ((va_up (va_up fh t (b)) t (b + 1)) j))))).set (44) (.inl (0, 13, .inl (fun j => nI ((va_up fp t (p + 1)) j))))) P
  exact er_vret d_Mo_simple_186 rfl (hT _ ⟨_, _, _, _, _, _, _, _, _, _, _, _, (jl_sn (by decide) (jl_sn (by decide) (jl_sn (by decide) (jl_sn (by decide) (jl_sn (by decide) hO))))), (jl_sn (by decide) (jl_sn (by decide) (jl_sn (by decide) (jl_sn (by decide) (jl_sn (by decide) f1))))), (jl_ss (jl_sn (by decide) (jl_sn (by decide) (jl_sn (by decide) (jl_sn (by decide) f2))))), (jl_sn (by decide) (jl_ss (jl_sn (by decide) (jl_sn (by decide) (jl_ss f3))))), (jl_sn (by decide) (jl_sn (by decide) (jl_sn (by decide) (jl_sn (by decide) (jl_sn (by decide) f4))))), (jl_sn (by decide) (jl_sn (by decide) (jl_sn (by decide) (jl_sn (by decide) (jl_sn (by decide) f5))))), (jl_sn (by decide) (jl_sn (by decide) (jl_ss (jl_sn (by decide) (jl_sn (by decide) f6))))), (jl_sn (by decide) (jl_sn (by decide) (jl_sn (by decide) (jl_ss (jl_sn (by decide) f7))))), ⟨(jl_sn (by decide) (jl_sn (by decide) (jl_sn (by decide) (jl_sn (by decide) (jl_sn (by decide) k1))))), (jl_sn (by decide) (jl_sn (by decide) (jl_sn (by decide) (jl_sn (by decide) (jl_sn (by decide) k2))))), (jl_sn (by decide) (jl_sn (by decide) (jl_sn (by decide) (jl_sn (by decide) (jl_sn (by decide) k3)))))⟩, hB, (((((hy1).hg.putA (y := some 0) (by omega) rfl)).pc).le (by omega)), ⟨⟨(jl_sn (by decide) (jl_sn (by decide) (jl_sn (by decide) (jl_sn (by decide) (jl_sn (by decide) r1))))), (jl_sn (by decide) (jl_sn (by decide) (jl_sn (by decide) (jl_sn (by decide) (jl_sn (by decide) r2)))))⟩, hlo, hsk⟩, (((((hF.set (by omega)).set (by omega)).set (by omega)).set (by omega)).set (by omega))⟩) (by decide) (by decide)
theorem d_Mo_castTo_0 : decode m_Mo_castTo.2.1 0 = .ok (.aload_n 0, 1) := by decide +kernel
theorem d_Mo_castTo_1 : decode m_Mo_castTo.2.1 1 = .ok (.iconst 1, 1) := by decide +kernel
theorem k_Mo_castTo_245 : jl_cv m_Mo_castTo m_Mo_top 245 1 = true := by decide +kernel
theorem d_Mo_castTo_2 : decode m_Mo_castTo.2.1 2 = .ok (.invokevirtual 245, 3) := by decide +kernel
theorem d_Mo_castTo_5 : decode m_Mo_castTo.2.1 5 = .ok (.istore_n 2, 1) := by decide +kernel
theorem d_Mo_castTo_6 : decode m_Mo_castTo.2.1 6 = .ok (.iload_n 2, 1) := by decide +kernel
theorem d_Mo_castTo_7 : decode m_Mo_castTo.2.1 7 = .ok (.ifCond .lt 25, 3) := by decide +kernel
theorem d_Mo_castTo_32 : decode m_Mo_castTo.2.1 32 = .ok (.aload_n 0, 1) := by decide +kernel
theorem k_Mo_castTo_261 : jl_cv m_Mo_castTo m_Mo_next 261 0 = true := by decide +kernel
theorem d_Mo_castTo_33 : decode m_Mo_castTo.2.1 33 = .ok (.invokevirtual 261, 3) := by decide +kernel
theorem d_Mo_castTo_36 : decode m_Mo_castTo.2.1 36 = .ok (.return_, 1) := by decide +kernel
theorem mo_ca_n (hl : l.stackTraces = false) {P : jl_O → jl_S → Prop}  (hn : NB σ0 σ (b + 1) t m (p) (b + 1) (R) (V) (fs) (H) fa vf wh wy hg ov oh dn an) (ht : t < 12) (hb : b + 1 ≤ 5) (hp : b + 1 ≤ 5) (hv : V (7 + b) = -1) (hT : ∀ σ', NB σ0 σ' (b + 1) t m (p + 1) (b + 1) (R) (V) (fs) (H) fa vf wh wy hg ov oh dn an → P (.inl none) σ') : jl_mE l G m_Mo_castTo [.ref 22, .int (nI n)] σ P := by
  obtain ⟨fx, fp, fh, lw, lk, vl, vk, ks, kc, kv, lo, sk, hO, f1, f2, f3, f4, f5, f6, f7, hH, hB, hy1, hR1, hF⟩ := id hn
  obtain ⟨k1, k2, k3⟩ := id hH
  obtain ⟨⟨r1, r2⟩, hlo, hsk⟩ := id hR1
  obtain ⟨⟨hfx, hfp, hlc, hst⟩, hfh, hfs, hln⟩ := id hy1
  have hfx : fx t = m := hfx
  have hfp : fp t = p := hfp
  have hlc : ∀ k, k < 6 → lk (6 * t + k) = kdI (R k) ∧ (R k ≠ none → lw (6 * t + k) = V k) := hlc
  have hst : ∀ j, j < _ → vk (5 * t + j) = kdI (R (7 + j)) ∧ vl (5 * t + j) = V (7 + j) := hst
  have hS0 : vl (5 * t + (b)) = V (7 + b) := by rw [show 7 + b = 7 + (b) by omega]; exact (hst _ (by omega)).2
  have hK0 : vk (5 * t + (b)) = kdI (R (7 + b)) := by rw [show 7 + b = 7 + (b) by omega]; exact (hst _ (by omega)).1
  refine jl_ofE (as := [.ref 22, .int (nI n)]) rfl (by decide) hl (jl_cc rfl (jl_cc rfl jl_ca)) (Nat.le_of_ble_eq_true rfl) ?_
  show jl_E l G m_Mo_castTo (0, 0) 0 [some (.ref 22), some (.int (nI n)), none] [] (σ) P
  refine er_aload_n d_Mo_castTo_0 rfl ?_
  refine er_iconst ((nI (1))) d_Mo_castTo_1 (by decide) ?_
  refine er_callV (As := [.int (nI 1)]) d_Mo_castTo_2 k_Mo_castTo_245 hO rfl rfl rfl (Nat.le_of_ble_eq_true rfl) (by decide) (by decide) (mo_topE (h := b + 1) (n := 1) (v := (-1)) hl hO f3 f6 ht hfh (by omega) (by omega) (by omega) (by rw [show 5 * t + (b + 1) - 1 = 5 * t + (b) by omega]; exact hS0.trans hv)) ?_
  show jl_E l G m_Mo_castTo (0, 0) 5 [some (.ref 22), some (.int (nI n)), none] [.int (-1)] (σ) P
  refine er_istore_n d_Mo_castTo_5 (by decide) ?_
  show jl_E l G m_Mo_castTo (0, 0) 6 [some (.ref 22), some (.int (nI n)), some (.int (-1))] [] (σ) P
  refine er_iload_n d_Mo_castTo_6 rfl ?_
  refine er_if_lt 32 d_Mo_castTo_7 (by decide) (fun _ => ?_) (fun z => absurd (by decide) z)
  refine er_aload_n d_Mo_castTo_32 rfl ?_
  refine er_callV (As := []) d_Mo_castTo_33 k_Mo_castTo_261 hO rfl rfl rfl (Nat.le_of_ble_eq_true rfl) (by decide) (by decide) (mo_mnext hl hO f2 ht hfp) ?_
  show jl_E l G m_Mo_castTo (0, 0) 36 [some (.ref 22), some (.int (nI n)), some (.int (-1))] [] (σ.set (44) (.inl (0, 13, .inl (fun j => nI ((va_up fp t (p + 1)) j))))) P
  exact er_vret d_Mo_castTo_36 rfl (hT _ ⟨_, _, _, _, _, _, _, _, _, _, _, _, (jl_sn (by decide) hO), (jl_sn (by decide) f1), (jl_ss f2), (jl_sn (by decide) f3), (jl_sn (by decide) f4), (jl_sn (by decide) f5), (jl_sn (by decide) f6), (jl_sn (by decide) f7), ⟨(jl_sn (by decide) k1), (jl_sn (by decide) k2), (jl_sn (by decide) k3)⟩, hB, (((hy1).pc).le (by omega)), ⟨⟨(jl_sn (by decide) r1), (jl_sn (by decide) r2)⟩, hlo, hsk⟩, (hF.set (by omega))⟩) (by decide) (by decide)
theorem mo_aboveT (hl : l.stackTraces = false) {h k : Nat} {dp md : Int32} (hO : MoO σ fa vf wh wy hg dp md ov oh dn an) (hw : MoW σ tb pr ow ft hs) (hh : h < 100) (hd : dsc pr) (hk : k < 6) (e : ab pr h (some k) = true) : jl_m l G m_Mo_above [.ref 22, .int (nI h), .int (nI k)] σ (.inl (some (.int (nI 1)))) σ := by
  have z := mo_above (G := G) (x := some k) hl hO hw hh hd (ob_s hk)
  rw [e, bi_t1] at z
  exact z
theorem mo_aboveF (hl : l.stackTraces = false) {h k : Nat} {dp md : Int32} (hO : MoO σ fa vf wh wy hg dp md ov oh dn an) (hw : MoW σ tb pr ow ft hs) (hh : h < 100) (hd : dsc pr) (hk : k < 6) (e : ab pr h (some k) = false) : jl_m l G m_Mo_above [.ref 22, .int (nI h), .int (nI k)] σ (.inl (some (.int (nI 0)))) σ := by
  have z := mo_above (G := G) (x := some k) hl hO hw hh hd (ob_s hk)
  rw [e, bi_f0] at z
  exact z
theorem d_Mo_castTo_10 : decode m_Mo_castTo.2.1 10 = .ok (.aload_n 0, 1) := by decide +kernel
theorem d_Mo_castTo_11 : decode m_Mo_castTo.2.1 11 = .ok (.iload_n 1, 1) := by decide +kernel
theorem d_Mo_castTo_12 : decode m_Mo_castTo.2.1 12 = .ok (.aload_n 0, 1) := by decide +kernel
theorem f_Mo_castTo_99 : jl_fd m_Mo_castTo 99 7 33 = true := by decide +kernel
theorem d_Mo_castTo_13 : decode m_Mo_castTo.2.1 13 = .ok (.getfield 99, 3) := by decide +kernel
theorem d_Mo_castTo_16 : decode m_Mo_castTo.2.1 16 = .ok (.iload_n 2, 1) := by decide +kernel
theorem d_Mo_castTo_17 : decode m_Mo_castTo.2.1 17 = .ok (.iaload, 1) := by decide +kernel
theorem k_Mo_castTo_136 : jl_cv m_Mo_castTo m_Mo_above 136 2 = true := by decide +kernel
theorem d_Mo_castTo_18 : decode m_Mo_castTo.2.1 18 = .ok (.invokevirtual 136, 3) := by decide +kernel
theorem d_Mo_castTo_21 : decode m_Mo_castTo.2.1 21 = .ok (.ifCond .ne 11, 3) := by decide +kernel
theorem mo_ca_o (hl : l.stackTraces = false) {P : jl_O → jl_S → Prop} {q k : Nat} (hn : NB σ0 σ (b + 1) t m (p) (b + 1) (R) (V) (fs) (H) fa vf wh wy hg ov oh dn an) (hw : MoW σ tb pr ow ft hs) (ht : t < 12) (hb : b + 1 ≤ 5) (hp : b + 1 ≤ 5) (hq : q < H.n) (hn40 : H.n ≤ 40) (hv : V (7 + b) = nI q) (hso : H.so q = some k) (hk6 : k < 6) (hn6 : n < 6) (hd : dsc pr) (hab : ab pr n (some k) = true) (hT : ∀ σ', NB σ0 σ' (b + 1) t m (p + 1) (b + 1) (R) (V) (fs) (H) fa vf wh wy hg ov oh dn an → P (.inl none) σ') : jl_mE l G m_Mo_castTo [.ref 22, .int (nI n)] σ P := by
  obtain ⟨fx, fp, fh, lw, lk, vl, vk, ks, kc, kv, lo, sk, hO, f1, f2, f3, f4, f5, f6, f7, hH, hB, hy1, hR1, hF⟩ := id hn
  obtain ⟨k1, k2, k3⟩ := id hH
  obtain ⟨⟨r1, r2⟩, hlo, hsk⟩ := id hR1
  obtain ⟨⟨hfx, hfp, hlc, hst⟩, hfh, hfs, hln⟩ := id hy1
  have hfx : fx t = m := hfx
  have hfp : fp t = p := hfp
  have hlc : ∀ k, k < 6 → lk (6 * t + k) = kdI (R k) ∧ (R k ≠ none → lw (6 * t + k) = V k) := hlc
  have hst : ∀ j, j < _ → vk (5 * t + j) = kdI (R (7 + j)) ∧ vl (5 * t + j) = V (7 + j) := hst
  obtain ⟨h23, h24, h25, h26, h27⟩ := id hw
  have hS0 : vl (5 * t + (b)) = V (7 + b) := by rw [show 7 + b = 7 + (b) by omega]; exact (hst _ (by omega)).2
  have hK0 : vk (5 * t + (b)) = kdI (R (7 + b)) := by rw [show 7 + b = 7 + (b) by omega]; exact (hst _ (by omega)).1
  refine jl_ofE (as := [.ref 22, .int (nI n)]) rfl (by decide) hl (jl_cc rfl (jl_cc rfl jl_ca)) (Nat.le_of_ble_eq_true rfl) ?_
  show jl_E l G m_Mo_castTo (0, 0) 0 [some (.ref 22), some (.int (nI n)), none] [] (σ) P
  refine er_aload_n d_Mo_castTo_0 rfl ?_
  refine er_iconst ((nI (1))) d_Mo_castTo_1 (by decide) ?_
  refine er_callV (As := [.int (nI 1)]) d_Mo_castTo_2 k_Mo_castTo_245 hO rfl rfl rfl (Nat.le_of_ble_eq_true rfl) (by decide) (by decide) (mo_topE (h := b + 1) (n := 1) (v := (nI (q))) hl hO f3 f6 ht hfh (by omega) (by omega) (by omega) (by rw [show 5 * t + (b + 1) - 1 = 5 * t + (b) by omega]; exact hS0.trans hv)) ?_
  show jl_E l G m_Mo_castTo (0, 0) 5 [some (.ref 22), some (.int (nI n)), none] [.int (nI q)] (σ) P
  refine er_istore_n d_Mo_castTo_5 (by decide) ?_
  show jl_E l G m_Mo_castTo (0, 0) 6 [some (.ref 22), some (.int (nI n)), some (.int (nI q))] [] (σ) P
  refine er_iload_n d_Mo_castTo_6 rfl ?_
  refine er_if_lt 32 d_Mo_castTo_7 (by decide) (fun z => absurd z (nI_pos (by omega))) (fun _ => ?_)
  refine er_aload_n d_Mo_castTo_10 rfl ?_
  refine er_iload_n d_Mo_castTo_11 rfl ?_
  refine er_aload_n d_Mo_castTo_12 rfl ?_
  refine er_getf d_Mo_castTo_13 f_Mo_castTo_99 hO rfl ?_
  refine er_iload_n d_Mo_castTo_16 rfl ?_
  refine er_ialdQ (v := (nI (k))) d_Mo_castTo_17 k1 (by omega) (by omega) ((hB q hq).1.trans (congrArg soI hso)) ?_
  refine er_callV (As := [.int (nI n), .int (nI k)]) d_Mo_castTo_18 k_Mo_castTo_136 hO rfl rfl rfl (Nat.le_of_ble_eq_true rfl) (by decide) (by decide) (mo_aboveT (h := n) (k := k) hl hO hw (by omega) hd hk6 hab) ?_
  show jl_E l G m_Mo_castTo (0, 0) 21 [some (.ref 22), some (.int (nI n)), some (.int (nI q))] [.int (nI 1)] (σ) P
  refine er_if_ne 32 d_Mo_castTo_21 (by decide) (fun _ => ?_) (fun z => absurd z (by decide))
  refine er_aload_n d_Mo_castTo_32 rfl ?_
  refine er_callV (As := []) d_Mo_castTo_33 k_Mo_castTo_261 hO rfl rfl rfl (Nat.le_of_ble_eq_true rfl) (by decide) (by decide) (mo_mnext hl hO f2 ht hfp) ?_
  show jl_E l G m_Mo_castTo (0, 0) 36 [some (.ref 22), some (.int (nI n)), some (.int (nI q))] [] (σ.set (44) (.inl (0, 13, .inl (fun j => nI ((va_up fp t (p + 1)) j))))) P
  exact er_vret d_Mo_castTo_36 rfl (hT _ ⟨_, _, _, _, _, _, _, _, _, _, _, _, (jl_sn (by decide) hO), (jl_sn (by decide) f1), (jl_ss f2), (jl_sn (by decide) f3), (jl_sn (by decide) f4), (jl_sn (by decide) f5), (jl_sn (by decide) f6), (jl_sn (by decide) f7), ⟨(jl_sn (by decide) k1), (jl_sn (by decide) k2), (jl_sn (by decide) k3)⟩, hB, (((hy1).pc).le (by omega)), ⟨⟨(jl_sn (by decide) r1), (jl_sn (by decide) r2)⟩, hlo, hsk⟩, (hF.set (by omega))⟩) (by decide) (by decide)
theorem d_Mo_rowOf_0 : decode m_Mo_rowOf.2.1 0 = .ok (.iload_n 1, 1) := by decide +kernel
theorem d_Mo_rowOf_1 : decode m_Mo_rowOf.2.1 1 = .ok (.bipush 20, 2) := by decide +kernel
theorem d_Mo_rowOf_3 : decode m_Mo_rowOf.2.1 3 = .ok (.if_icmp .ne 7, 3) := by decide +kernel
theorem d_Mo_rowOf_6 : decode m_Mo_rowOf.2.1 6 = .ok (.iconst 2, 1) := by decide +kernel
theorem d_Mo_rowOf_7 : decode m_Mo_rowOf.2.1 7 = .ok (.goto 14, 3) := by decide +kernel
theorem d_Mo_rowOf_21 : decode m_Mo_rowOf.2.1 21 = .ok (.istore_n 2, 1) := by decide +kernel
theorem d_Mo_rowOf_22 : decode m_Mo_rowOf.2.1 22 = .ok (.aload_n 0, 1) := by decide +kernel
theorem d_Mo_rowOf_23 : decode m_Mo_rowOf.2.1 23 = .ok (.iload_n 2, 1) := by decide +kernel
theorem k_Mo_rowOf_245 : jl_cv m_Mo_rowOf m_Mo_top 245 1 = true := by decide +kernel
theorem d_Mo_rowOf_24 : decode m_Mo_rowOf.2.1 24 = .ok (.invokevirtual 245, 3) := by decide +kernel
theorem d_Mo_rowOf_27 : decode m_Mo_rowOf.2.1 27 = .ok (.istore_n 3, 1) := by decide +kernel
theorem d_Mo_rowOf_28 : decode m_Mo_rowOf.2.1 28 = .ok (.iload_n 1, 1) := by decide +kernel
theorem d_Mo_rowOf_29 : decode m_Mo_rowOf.2.1 29 = .ok (.bipush 22, 2) := by decide +kernel
theorem d_Mo_rowOf_31 : decode m_Mo_rowOf.2.1 31 = .ok (.if_icmp .ne 7, 3) := by decide +kernel
theorem d_Mo_rowOf_38 : decode m_Mo_rowOf.2.1 38 = .ok (.aload_n 0, 1) := by decide +kernel
theorem d_Mo_rowOf_39 : decode m_Mo_rowOf.2.1 39 = .ok (.iload_n 2, 1) := by decide +kernel
theorem d_Mo_rowOf_40 : decode m_Mo_rowOf.2.1 40 = .ok (.iconst 1, 1) := by decide +kernel
theorem d_Mo_rowOf_41 : decode m_Mo_rowOf.2.1 41 = .ok (.isub, 1) := by decide +kernel
theorem d_Mo_rowOf_42 : decode m_Mo_rowOf.2.1 42 = .ok (.invokevirtual 245, 3) := by decide +kernel
theorem d_Mo_rowOf_45 : decode m_Mo_rowOf.2.1 45 = .ok (.istore 4, 2) := by decide +kernel
theorem d_Mo_rowOf_47 : decode m_Mo_rowOf.2.1 47 = .ok (.iload_n 3, 1) := by decide +kernel
theorem d_Mo_rowOf_48 : decode m_Mo_rowOf.2.1 48 = .ok (.ifCond .ge 9, 3) := by decide +kernel
theorem d_Mo_rowOf_57 : decode m_Mo_rowOf.2.1 57 = .ok (.iload_n 1, 1) := by decide +kernel
theorem d_Mo_rowOf_58 : decode m_Mo_rowOf.2.1 58 = .ok (.bipush 22, 2) := by decide +kernel
theorem d_Mo_rowOf_60 : decode m_Mo_rowOf.2.1 60 = .ok (.if_icmp .eq 24, 3) := by decide +kernel
theorem d_Mo_rowOf_63 : decode m_Mo_rowOf.2.1 63 = .ok (.aload_n 0, 1) := by decide +kernel
theorem d_Mo_rowOf_64 : decode m_Mo_rowOf.2.1 64 = .ok (.iload 4, 2) := by decide +kernel
theorem d_Mo_rowOf_66 : decode m_Mo_rowOf.2.1 66 = .ok (.aload_n 0, 1) := by decide +kernel
theorem f_Mo_rowOf_102 : jl_fd m_Mo_rowOf 102 7 34 = true := by decide +kernel
theorem d_Mo_rowOf_67 : decode m_Mo_rowOf.2.1 67 = .ok (.getfield 102, 3) := by decide +kernel
theorem d_Mo_rowOf_70 : decode m_Mo_rowOf.2.1 70 = .ok (.iload_n 3, 1) := by decide +kernel
theorem d_Mo_rowOf_71 : decode m_Mo_rowOf.2.1 71 = .ok (.iaload, 1) := by decide +kernel
theorem k_Mo_rowOf_114 : jl_cv m_Mo_rowOf m_Mo_out 114 2 = true := by decide +kernel
theorem d_Mo_rowOf_72 : decode m_Mo_rowOf.2.1 72 = .ok (.invokevirtual 114, 3) := by decide +kernel
theorem d_Mo_rowOf_75 : decode m_Mo_rowOf.2.1 75 = .ok (.ifCond .eq 9, 3) := by decide +kernel
theorem d_Mo_rowOf_84 : decode m_Mo_rowOf.2.1 84 = .ok (.iload_n 1, 1) := by decide +kernel
theorem d_Mo_rowOf_85 : decode m_Mo_rowOf.2.1 85 = .ok (.bipush 22, 2) := by decide +kernel
theorem d_Mo_rowOf_87 : decode m_Mo_rowOf.2.1 87 = .ok (.if_icmp .ne 12, 3) := by decide +kernel
theorem d_Mo_rowOf_99 : decode m_Mo_rowOf.2.1 99 = .ok (.aload_n 0, 1) := by decide +kernel
theorem f_Mo_rowOf_105 : jl_fd m_Mo_rowOf 105 7 35 = true := by decide +kernel
theorem d_Mo_rowOf_100 : decode m_Mo_rowOf.2.1 100 = .ok (.getfield 105, 3) := by decide +kernel
theorem d_Mo_rowOf_103 : decode m_Mo_rowOf.2.1 103 = .ok (.bipush 18, 2) := by decide +kernel
theorem d_Mo_rowOf_105 : decode m_Mo_rowOf.2.1 105 = .ok (.iload_n 3, 1) := by decide +kernel
theorem d_Mo_rowOf_106 : decode m_Mo_rowOf.2.1 106 = .ok (.imul, 1) := by decide +kernel
theorem d_Mo_rowOf_107 : decode m_Mo_rowOf.2.1 107 = .ok (.iload 4, 2) := by decide +kernel
theorem d_Mo_rowOf_109 : decode m_Mo_rowOf.2.1 109 = .ok (.iadd, 1) := by decide +kernel
theorem d_Mo_rowOf_110 : decode m_Mo_rowOf.2.1 110 = .ok (.iaload, 1) := by decide +kernel
theorem d_Mo_rowOf_111 : decode m_Mo_rowOf.2.1 111 = .ok (.istore 5, 2) := by decide +kernel
theorem d_Mo_rowOf_113 : decode m_Mo_rowOf.2.1 113 = .ok (.iload_n 1, 1) := by decide +kernel
theorem d_Mo_rowOf_114 : decode m_Mo_rowOf.2.1 114 = .ok (.bipush 21, 2) := by decide +kernel
theorem d_Mo_rowOf_116 : decode m_Mo_rowOf.2.1 116 = .ok (.if_icmp .ne 20, 3) := by decide +kernel
theorem d_Mo_rowOf_136 : decode m_Mo_rowOf.2.1 136 = .ok (.aload_n 0, 1) := by decide +kernel
theorem d_Mo_rowOf_137 : decode m_Mo_rowOf.2.1 137 = .ok (.iload_n 2, 1) := by decide +kernel
theorem k_Mo_rowOf_242 : jl_cv m_Mo_rowOf m_Mo_drop 242 1 = true := by decide +kernel
theorem d_Mo_rowOf_138 : decode m_Mo_rowOf.2.1 138 = .ok (.invokevirtual 242, 3) := by decide +kernel
theorem d_Mo_rowOf_141 : decode m_Mo_rowOf.2.1 141 = .ok (.iload_n 1, 1) := by decide +kernel
theorem d_Mo_rowOf_142 : decode m_Mo_rowOf.2.1 142 = .ok (.bipush 21, 2) := by decide +kernel
theorem d_Mo_rowOf_144 : decode m_Mo_rowOf.2.1 144 = .ok (.if_icmp .eq 10, 3) := by decide +kernel
theorem d_Mo_rowOf_147 : decode m_Mo_rowOf.2.1 147 = .ok (.aload_n 0, 1) := by decide +kernel
theorem d_Mo_rowOf_148 : decode m_Mo_rowOf.2.1 148 = .ok (.iconst 0, 1) := by decide +kernel
theorem d_Mo_rowOf_149 : decode m_Mo_rowOf.2.1 149 = .ok (.iload 5, 2) := by decide +kernel
theorem k_Mo_rowOf_236 : jl_cv m_Mo_rowOf m_Mo_put 236 2 = true := by decide +kernel
theorem d_Mo_rowOf_151 : decode m_Mo_rowOf.2.1 151 = .ok (.invokevirtual 236, 3) := by decide +kernel
theorem d_Mo_rowOf_154 : decode m_Mo_rowOf.2.1 154 = .ok (.aload_n 0, 1) := by decide +kernel
theorem k_Mo_rowOf_261 : jl_cv m_Mo_rowOf m_Mo_next 261 0 = true := by decide +kernel
theorem d_Mo_rowOf_155 : decode m_Mo_rowOf.2.1 155 = .ok (.invokevirtual 261, 3) := by decide +kernel
theorem d_Mo_rowOf_158 : decode m_Mo_rowOf.2.1 158 = .ok (.return_, 1) := by decide +kernel
theorem mo_ro_20 (hl : l.stackTraces = false) {P : jl_O → jl_S → Prop} {q j : Nat} (hn : NB σ0 σ (b + 2) t m (p) (b + 2) (R) (V) (fs) (H) fa vf wh wy hg ov oh dn an) (hw : MoW σ tb pr ow ft hs) (ht : t < 12) (hb : b + 2 ≤ 5) (hp : b + 1 ≤ 5) (hq : q < H.n) (hn40 : H.n ≤ 40) (hv : V (7 + b) = nI q) (hi : V (8 + b) = nI j) (hjz : j < H.sz q) (hz18 : ∀ j, H.sz j ≤ 18) (hT : ∀ σ', NB σ0 σ' (b + 1) t m (p + 1) (b + 1) (psh R b (some 0)) (va_up V (7 + b) (H.va (q * 18 + j))) (fs) (H) fa vf wh wy hg ov oh dn an → P (.inl none) σ') : jl_mE l G m_Mo_rowOf [.ref 22, .int (nI 20)] σ P := by
  obtain ⟨fx, fp, fh, lw, lk, vl, vk, ks, kc, kv, lo, sk, hO, f1, f2, f3, f4, f5, f6, f7, hH, hB, hy1, hR1, hF⟩ := id hn
  obtain ⟨k1, k2, k3⟩ := id hH
  obtain ⟨⟨r1, r2⟩, hlo, hsk⟩ := id hR1
  obtain ⟨⟨hfx, hfp, hlc, hst⟩, hfh, hfs, hln⟩ := id hy1
  have hfx : fx t = m := hfx
  have hfp : fp t = p := hfp
  have hlc : ∀ k, k < 6 → lk (6 * t + k) = kdI (R k) ∧ (R k ≠ none → lw (6 * t + k) = V k) := hlc
  have hst : ∀ j, j < _ → vk (5 * t + j) = kdI (R (7 + j)) ∧ vl (5 * t + j) = V (7 + j) := hst
  obtain ⟨h23, h24, h25, h26, h27⟩ := id hw
  have hS0 : vl (5 * t + (b)) = V (7 + b) := by rw [show 7 + b = 7 + (b) by omega]; exact (hst _ (by omega)).2
  have hK0 : vk (5 * t + (b)) = kdI (R (7 + b)) := by rw [show 7 + b = 7 + (b) by omega]; exact (hst _ (by omega)).1
  have hS1 : vl (5 * t + (b + 1)) = V (8 + b) := by rw [show 8 + b = 7 + (b + 1) by omega]; exact (hst _ (by omega)).2
  have hK1 : vk (5 * t + (b + 1)) = kdI (R (8 + b)) := by rw [show 8 + b = 7 + (b + 1) by omega]; exact (hst _ (by omega)).1
  have hz1 := hz18 q
  refine jl_ofE (as := [.ref 22, .int (nI 20)]) rfl (by decide) hl (jl_cc rfl (jl_cc rfl jl_ca)) (Nat.le_of_ble_eq_true rfl) ?_
  show jl_E l G m_Mo_rowOf (0, 0) 0 [some (.ref 22), some (.int (nI 20)), none, none, none, none] [] (σ) P
  refine er_iload_n d_Mo_rowOf_0 rfl ?_
  refine er_bipush ((nI (20))) d_Mo_rowOf_1 (by decide) ?_
  refine er_icmp_ne 10 d_Mo_rowOf_3 (by decide) (fun z => absurd rfl z) (fun _ => ?_)
  refine er_iconst ((nI (2))) d_Mo_rowOf_6 (by decide) ?_
  refine er_goto 21 d_Mo_rowOf_7 (by decide) ?_
  refine er_istore_n d_Mo_rowOf_21 (by decide) ?_
  show jl_E l G m_Mo_rowOf (0, 0) 22 [some (.ref 22), some (.int (nI 20)), some (.int (nI 2)), none, none, none] [] (σ) P
  refine er_aload_n d_Mo_rowOf_22 rfl ?_
  refine er_iload_n d_Mo_rowOf_23 rfl ?_
  refine er_callV (As := [.int (nI 2)]) d_Mo_rowOf_24 k_Mo_rowOf_245 hO rfl rfl rfl (Nat.le_of_ble_eq_true rfl) (by decide) (by decide) (mo_topE (h := b + 2) (n := 2) (v := (nI (q))) hl hO f3 f6 ht hfh (by omega) (by omega) (by omega) (by rw [show 5 * t + (b + 2) - 2 = 5 * t + (b) by omega]; exact hS0.trans hv)) ?_
  show jl_E l G m_Mo_rowOf (0, 0) 27 [some (.ref 22), some (.int (nI 20)), some (.int (nI 2)), none, none, none] [.int (nI q)] (σ) P
  refine er_istore_n d_Mo_rowOf_27 (by decide) ?_
  show jl_E l G m_Mo_rowOf (0, 0) 28 [some (.ref 22), some (.int (nI 20)), some (.int (nI 2)), some (.int (nI q)), none, none] [] (σ) P
  refine er_iload_n d_Mo_rowOf_28 rfl ?_
  refine er_bipush ((nI (22))) d_Mo_rowOf_29 (by decide) ?_
  refine er_icmp_ne 38 d_Mo_rowOf_31 (by decide) (fun _ => ?_) (fun z => absurd z (by decide))
  refine er_aload_n d_Mo_rowOf_38 rfl ?_
  refine er_iload_n d_Mo_rowOf_39 rfl ?_
  refine er_iconst ((nI (1))) d_Mo_rowOf_40 (by decide) ?_
  refine er_isubN d_Mo_rowOf_41 (by omega) ?_
  rw [show (2) - (1) = 1 by omega]
  show jl_E l G m_Mo_rowOf (0, 0) 42 [some (.ref 22), some (.int (nI 20)), some (.int (nI 2)), some (.int (nI q)), none, none] [.int (nI 1), .ref 22] (σ) P
  refine er_callV (As := [.int (nI 1)]) d_Mo_rowOf_42 k_Mo_rowOf_245 hO rfl rfl rfl (Nat.le_of_ble_eq_true rfl) (by decide) (by decide) (mo_topE (h := b + 2) (n := 1) (v := (nI (j))) hl hO f3 f6 ht hfh (by omega) (by omega) (by omega) (by rw [show 5 * t + (b + 2) - 1 = 5 * t + (b + 1) by omega]; exact hS1.trans hi)) ?_
  show jl_E l G m_Mo_rowOf (0, 0) 45 [some (.ref 22), some (.int (nI 20)), some (.int (nI 2)), some (.int (nI q)), none, none] [.int (nI j)] (σ) P
  refine er_istore d_Mo_rowOf_45 (by decide) ?_
  show jl_E l G m_Mo_rowOf (0, 0) 47 [some (.ref 22), some (.int (nI 20)), some (.int (nI 2)), some (.int (nI q)), some (.int (nI j)), none] [] (σ) P
  refine er_iload_n d_Mo_rowOf_47 rfl ?_
  refine er_if_ge 57 d_Mo_rowOf_48 (by decide) (fun _ => ?_) (fun z => absurd (Int32.not_lt.mp (nI_pos (by omega))) z)
  refine er_iload_n d_Mo_rowOf_57 rfl ?_
  refine er_bipush ((nI (22))) d_Mo_rowOf_58 (by decide) ?_
  refine er_icmp_eq 84 d_Mo_rowOf_60 (by decide) (fun z => absurd z (by decide)) (fun _ => ?_)
  refine er_aload_n d_Mo_rowOf_63 rfl ?_
  refine er_iload d_Mo_rowOf_64 rfl ?_
  refine er_aload_n d_Mo_rowOf_66 rfl ?_
  refine er_getf d_Mo_rowOf_67 f_Mo_rowOf_102 hO rfl ?_
  refine er_iload_n d_Mo_rowOf_70 rfl ?_
  refine er_ialdQ (v := (nI (H.sz q))) d_Mo_rowOf_71 k2 (by omega) (by omega) (congrArg nI (hB q hq).2.1) ?_
  refine er_callV (As := [.int (nI j), .int (nI (H.sz q))]) d_Mo_rowOf_72 k_Mo_rowOf_114 hO rfl rfl rfl (Nat.le_of_ble_eq_true rfl) (by decide) (by decide) (mo_outN (j := j) (n := H.sz q) hl hO hw (by omega) hjz) ?_
  show jl_E l G m_Mo_rowOf (0, 0) 75 [some (.ref 22), some (.int (nI 20)), some (.int (nI 2)), some (.int (nI q)), some (.int (nI j)), none] [.int (nI 0)] (σ) P
  refine er_if_eq 84 d_Mo_rowOf_75 (by decide) (fun _ => ?_) (fun z => absurd (by decide) z)
  refine er_iload_n d_Mo_rowOf_84 rfl ?_
  refine er_bipush ((nI (22))) d_Mo_rowOf_85 (by decide) ?_
  refine er_icmp_ne 99 d_Mo_rowOf_87 (by decide) (fun _ => ?_) (fun z => absurd z (by decide))
  refine er_aload_n d_Mo_rowOf_99 rfl ?_
  refine er_getf d_Mo_rowOf_100 f_Mo_rowOf_105 hO rfl ?_
  refine er_bipush ((nI (18))) d_Mo_rowOf_103 (by decide) ?_
  refine er_iload_n d_Mo_rowOf_105 rfl ?_
  refine er_imulN d_Mo_rowOf_106 ?_
  refine er_iload d_Mo_rowOf_107 rfl ?_
  refine er_iaddN d_Mo_rowOf_109 ?_
  refine er_ialdQ (v := (H.va (q * 18 + j))) d_Mo_rowOf_110 k3 (by omega) (by omega) ((hB q hq).2.2 j hjz) ?_
  refine er_istore d_Mo_rowOf_111 (by decide) ?_
  show jl_E l G m_Mo_rowOf (0, 0) 113 [some (.ref 22), some (.int (nI 20)), some (.int (nI 2)), some (.int (nI q)), some (.int (nI j)), some (.int (H.va (q * 18 + j)))] [] (σ) P
  refine er_iload_n d_Mo_rowOf_113 rfl ?_
  refine er_bipush ((nI (21))) d_Mo_rowOf_114 (by decide) ?_
  refine er_icmp_ne 136 d_Mo_rowOf_116 (by decide) (fun _ => ?_) (fun z => absurd z (by decide))
  refine er_aload_n d_Mo_rowOf_136 rfl ?_
  refine er_iload_n d_Mo_rowOf_137 rfl ?_
  refine er_callV (As := [.int (nI 2)]) d_Mo_rowOf_138 k_Mo_rowOf_242 hO rfl rfl rfl (Nat.le_of_ble_eq_true rfl) (by decide) (by decide) (mo_dropE (h := b + 2) (n := 2) (c := b) hl hO f3 ht hfh (by omega) (by omega)) ?_
  show jl_E l G m_Mo_rowOf (0, 0) 141 [some (.ref 22), some (.int (nI 20)), some (.int (nI 2)), some (.int (nI q)), some (.int (nI j)), some (.int (H.va (q * 18 + j)))] [] (σ.set (45) (.inl (0, 13, .inl (fun j => nI ((va_up fh t (b)) j))))) P
  refine er_iload_n d_Mo_rowOf_141 rfl ?_
  refine er_bipush ((nI (21))) d_Mo_rowOf_142 (by decide) ?_
  refine er_icmp_eq 154 d_Mo_rowOf_144 (by decide) (fun z => absurd z (by decide)) (fun _ => ?_)
  refine er_aload_n d_Mo_rowOf_147 rfl ?_
  refine er_iconst ((nI (0))) d_Mo_rowOf_148 (by decide) ?_
  refine er_iload d_Mo_rowOf_149 rfl ?_
  refine er_callV (As := [.int (nI 0), .int (H.va (q * 18 + j))]) d_Mo_rowOf_151 k_Mo_rowOf_236 (jl_sn (by decide) hO) rfl rfl rfl (Nat.le_of_ble_eq_true rfl) (by decide) (by decide) (mo_mput (h := b) (a := (nI (0))) (b := (H.va (q * 18 + j))) hl (jl_sn (by decide) hO) (jl_ss f3) (jl_sn (by decide) f6) (jl_sn (by decide) f7) ht (va_up_self _ _ _) (by omega)) ?_
  show jl_E l G m_Mo_rowOf (0, 0) 154 [some (.ref 22), some (.int (nI 20)), some (.int (nI 2)), some (.int (nI q)), some (.int (nI j)), some (.int (H.va (q * 18 + j)))] [] ((((σ.set (45) (.inl (0, 13, .inl (fun j => nI ((va_up fh t (b)) j))))).set (49) (.inl (0, 65, .inl (upd vk (5 * t + (b)) (nI (0)))))).set (48) (.inl (0, 65, .inl (upd vl (5 * t + (b)) (H.va (q * 18 + j)))))).set (45) (.inl (0, 13, .inl (fun j => nI ((va_up (va_up fh t (b)) t (b + 1)) j))))) P
  refine er_aload_n d_Mo_rowOf_154 rfl ?_
  refine er_callV (As := []) d_Mo_rowOf_155 k_Mo_rowOf_261 (jl_sn (by decide) (jl_sn (by decide) (jl_sn (by decide) (jl_sn (by decide) hO)))) rfl rfl rfl (Nat.le_of_ble_eq_true rfl) (by decide) (by decide) (mo_mnext hl (jl_sn (by decide) (jl_sn (by decide) (jl_sn (by decide) (jl_sn (by decide) hO)))) (jl_sn (by decide) (jl_sn (by decide) (jl_sn (by decide) (jl_sn (by decide) f2)))) ht hfp) ?_
  show jl_E l G m_Mo_rowOf (0, 0) 158 [some (.ref 22), some (.int (nI 20)), some (.int (nI 2)), some (.int (nI q)), some (.int (nI j)), some (.int (H.va (q * 18 + j)))] [] (((((σ.set (45) (.inl (0, 13, .inl (fun j => nI ((va_up fh t (b)) j))))).set (49) (.inl (0, 65, .inl (upd vk (5 * t + (b)) (nI (0)))))).set (48) (.inl (0, 65, .inl (upd vl (5 * t + (b)) (H.va (q * 18 + j)))))).set (45) (.inl (0, 13, .inl (fun j => nI ((va_up (va_up fh t (b)) t (b + 1)) j))))).set (44) (.inl (0, 13, .inl (fun j => nI ((va_up fp t (p + 1)) j))))) P
  exact er_vret d_Mo_rowOf_158 rfl (hT _ ⟨_, _, _, _, _, _, _, _, _, _, _, _, (jl_sn (by decide) (jl_sn (by decide) (jl_sn (by decide) (jl_sn (by decide) (jl_sn (by decide) hO))))), (jl_sn (by decide) (jl_sn (by decide) (jl_sn (by decide) (jl_sn (by decide) (jl_sn (by decide) f1))))), (jl_ss (jl_sn (by decide) (jl_sn (by decide) (jl_sn (by decide) (jl_sn (by decide) f2))))), (jl_sn (by decide) (jl_ss (jl_sn (by decide) (jl_sn (by decide) (jl_ss f3))))), (jl_sn (by decide) (jl_sn (by decide) (jl_sn (by decide) (jl_sn (by decide) (jl_sn (by decide) f4))))), (jl_sn (by decide) (jl_sn (by decide) (jl_sn (by decide) (jl_sn (by decide) (jl_sn (by decide) f5))))), (jl_sn (by decide) (jl_sn (by decide) (jl_ss (jl_sn (by decide) (jl_sn (by decide) f6))))), (jl_sn (by decide) (jl_sn (by decide) (jl_sn (by decide) (jl_ss (jl_sn (by decide) f7))))), ⟨(jl_sn (by decide) (jl_sn (by decide) (jl_sn (by decide) (jl_sn (by decide) (jl_sn (by decide) k1))))), (jl_sn (by decide) (jl_sn (by decide) (jl_sn (by decide) (jl_sn (by decide) (jl_sn (by decide) k2))))), (jl_sn (by decide) (jl_sn (by decide) (jl_sn (by decide) (jl_sn (by decide) (jl_sn (by decide) k3)))))⟩, hB, ((((((hy1).hg).putA (y := (some 0)) (by omega) rfl)).pc).le (by omega)), ⟨⟨(jl_sn (by decide) (jl_sn (by decide) (jl_sn (by decide) (jl_sn (by decide) (jl_sn (by decide) r1))))), (jl_sn (by decide) (jl_sn (by decide) (jl_sn (by decide) (jl_sn (by decide) (jl_sn (by decide) r2)))))⟩, hlo, hsk⟩, (((((hF.set (by omega)).set (by omega)).set (by omega)).set (by omega)).set (by omega))⟩) (by decide) (by decide)
theorem d_Mo_rowOf_10 : decode m_Mo_rowOf.2.1 10 = .ok (.iload_n 1, 1) := by decide +kernel
theorem d_Mo_rowOf_11 : decode m_Mo_rowOf.2.1 11 = .ok (.bipush 21, 2) := by decide +kernel
theorem d_Mo_rowOf_13 : decode m_Mo_rowOf.2.1 13 = .ok (.if_icmp .ne 7, 3) := by decide +kernel
theorem d_Mo_rowOf_16 : decode m_Mo_rowOf.2.1 16 = .ok (.iconst 3, 1) := by decide +kernel
theorem d_Mo_rowOf_17 : decode m_Mo_rowOf.2.1 17 = .ok (.goto 4, 3) := by decide +kernel
theorem d_Mo_rowOf_119 : decode m_Mo_rowOf.2.1 119 = .ok (.aload_n 0, 1) := by decide +kernel
theorem d_Mo_rowOf_120 : decode m_Mo_rowOf.2.1 120 = .ok (.getfield 105, 3) := by decide +kernel
theorem d_Mo_rowOf_123 : decode m_Mo_rowOf.2.1 123 = .ok (.bipush 18, 2) := by decide +kernel
theorem d_Mo_rowOf_125 : decode m_Mo_rowOf.2.1 125 = .ok (.iload_n 3, 1) := by decide +kernel
theorem d_Mo_rowOf_126 : decode m_Mo_rowOf.2.1 126 = .ok (.imul, 1) := by decide +kernel
theorem d_Mo_rowOf_127 : decode m_Mo_rowOf.2.1 127 = .ok (.iload 4, 2) := by decide +kernel
theorem d_Mo_rowOf_129 : decode m_Mo_rowOf.2.1 129 = .ok (.iadd, 1) := by decide +kernel
theorem d_Mo_rowOf_130 : decode m_Mo_rowOf.2.1 130 = .ok (.aload_n 0, 1) := by decide +kernel
theorem d_Mo_rowOf_131 : decode m_Mo_rowOf.2.1 131 = .ok (.iconst 1, 1) := by decide +kernel
theorem d_Mo_rowOf_132 : decode m_Mo_rowOf.2.1 132 = .ok (.invokevirtual 245, 3) := by decide +kernel
theorem d_Mo_rowOf_135 : decode m_Mo_rowOf.2.1 135 = .ok (.iastore, 1) := by decide +kernel
theorem mo_ro_21 (hl : l.stackTraces = false) {P : jl_O → jl_S → Prop} {q j : Nat} (hn : NB σ0 σ (b + 3) t m (p) (b + 3) (R) (V) (fs) (H) fa vf wh wy hg ov oh dn an) (hw : MoW σ tb pr ow ft hs) (ht : t < 12) (hb : b + 3 ≤ 5) (hp : b ≤ 5) (hq : q < H.n) (hn40 : H.n ≤ 40) (hv : V (7 + b) = nI q) (hi : V (8 + b) = nI j) (hjz : j < H.sz q) (hz18 : ∀ j, H.sz j ≤ 18) (hT : ∀ σ', NB σ0 σ' (b) t m (p + 1) (b) (va_up R 6 (some b)) (V) (fs) (⟨H.n, H.sz, H.ty, va_up H.va (q * 18 + j) (V (9 + b)), H.so⟩) fa vf wh wy hg ov oh dn an → P (.inl none) σ') : jl_mE l G m_Mo_rowOf [.ref 22, .int (nI 21)] σ P := by
  obtain ⟨fx, fp, fh, lw, lk, vl, vk, ks, kc, kv, lo, sk, hO, f1, f2, f3, f4, f5, f6, f7, hH, hB, hy1, hR1, hF⟩ := id hn
  obtain ⟨k1, k2, k3⟩ := id hH
  obtain ⟨⟨r1, r2⟩, hlo, hsk⟩ := id hR1
  obtain ⟨⟨hfx, hfp, hlc, hst⟩, hfh, hfs, hln⟩ := id hy1
  have hfx : fx t = m := hfx
  have hfp : fp t = p := hfp
  have hlc : ∀ k, k < 6 → lk (6 * t + k) = kdI (R k) ∧ (R k ≠ none → lw (6 * t + k) = V k) := hlc
  have hst : ∀ j, j < _ → vk (5 * t + j) = kdI (R (7 + j)) ∧ vl (5 * t + j) = V (7 + j) := hst
  obtain ⟨h23, h24, h25, h26, h27⟩ := id hw
  have hS0 : vl (5 * t + (b)) = V (7 + b) := by rw [show 7 + b = 7 + (b) by omega]; exact (hst _ (by omega)).2
  have hK0 : vk (5 * t + (b)) = kdI (R (7 + b)) := by rw [show 7 + b = 7 + (b) by omega]; exact (hst _ (by omega)).1
  have hS1 : vl (5 * t + (b + 1)) = V (8 + b) := by rw [show 8 + b = 7 + (b + 1) by omega]; exact (hst _ (by omega)).2
  have hK1 : vk (5 * t + (b + 1)) = kdI (R (8 + b)) := by rw [show 8 + b = 7 + (b + 1) by omega]; exact (hst _ (by omega)).1
  have hS2 : vl (5 * t + (b + 2)) = V (9 + b) := by rw [show 9 + b = 7 + (b + 2) by omega]; exact (hst _ (by omega)).2
  have hK2 : vk (5 * t + (b + 2)) = kdI (R (9 + b)) := by rw [show 9 + b = 7 + (b + 2) by omega]; exact (hst _ (by omega)).1
  have hz1 := hz18 q
  refine jl_ofE (as := [.ref 22, .int (nI 21)]) rfl (by decide) hl (jl_cc rfl (jl_cc rfl jl_ca)) (Nat.le_of_ble_eq_true rfl) ?_
  show jl_E l G m_Mo_rowOf (0, 0) 0 [some (.ref 22), some (.int (nI 21)), none, none, none, none] [] (σ) P
  refine er_iload_n d_Mo_rowOf_0 rfl ?_
  refine er_bipush ((nI (20))) d_Mo_rowOf_1 (by decide) ?_
  refine er_icmp_ne 10 d_Mo_rowOf_3 (by decide) (fun _ => ?_) (fun z => absurd z (by decide))
  refine er_iload_n d_Mo_rowOf_10 rfl ?_
  refine er_bipush ((nI (21))) d_Mo_rowOf_11 (by decide) ?_
  refine er_icmp_ne 20 d_Mo_rowOf_13 (by decide) (fun z => absurd rfl z) (fun _ => ?_)
  refine er_iconst ((nI (3))) d_Mo_rowOf_16 (by decide) ?_
  refine er_goto 21 d_Mo_rowOf_17 (by decide) ?_
  refine er_istore_n d_Mo_rowOf_21 (by decide) ?_
  show jl_E l G m_Mo_rowOf (0, 0) 22 [some (.ref 22), some (.int (nI 21)), some (.int (nI 3)), none, none, none] [] (σ) P
  refine er_aload_n d_Mo_rowOf_22 rfl ?_
  refine er_iload_n d_Mo_rowOf_23 rfl ?_
  refine er_callV (As := [.int (nI 3)]) d_Mo_rowOf_24 k_Mo_rowOf_245 hO rfl rfl rfl (Nat.le_of_ble_eq_true rfl) (by decide) (by decide) (mo_topE (h := b + 3) (n := 3) (v := (nI (q))) hl hO f3 f6 ht hfh (by omega) (by omega) (by omega) (by rw [show 5 * t + (b + 3) - 3 = 5 * t + (b) by omega]; exact hS0.trans hv)) ?_
  show jl_E l G m_Mo_rowOf (0, 0) 27 [some (.ref 22), some (.int (nI 21)), some (.int (nI 3)), none, none, none] [.int (nI q)] (σ) P
  refine er_istore_n d_Mo_rowOf_27 (by decide) ?_
  show jl_E l G m_Mo_rowOf (0, 0) 28 [some (.ref 22), some (.int (nI 21)), some (.int (nI 3)), some (.int (nI q)), none, none] [] (σ) P
  refine er_iload_n d_Mo_rowOf_28 rfl ?_
  refine er_bipush ((nI (22))) d_Mo_rowOf_29 (by decide) ?_
  refine er_icmp_ne 38 d_Mo_rowOf_31 (by decide) (fun _ => ?_) (fun z => absurd z (by decide))
  refine er_aload_n d_Mo_rowOf_38 rfl ?_
  refine er_iload_n d_Mo_rowOf_39 rfl ?_
  refine er_iconst ((nI (1))) d_Mo_rowOf_40 (by decide) ?_
  refine er_isubN d_Mo_rowOf_41 (by omega) ?_
  rw [show (3) - (1) = 2 by omega]
  show jl_E l G m_Mo_rowOf (0, 0) 42 [some (.ref 22), some (.int (nI 21)), some (.int (nI 3)), some (.int (nI q)), none, none] [.int (nI 2), .ref 22] (σ) P
  refine er_callV (As := [.int (nI 2)]) d_Mo_rowOf_42 k_Mo_rowOf_245 hO rfl rfl rfl (Nat.le_of_ble_eq_true rfl) (by decide) (by decide) (mo_topE (h := b + 3) (n := 2) (v := (nI (j))) hl hO f3 f6 ht hfh (by omega) (by omega) (by omega) (by rw [show 5 * t + (b + 3) - 2 = 5 * t + (b + 1) by omega]; exact hS1.trans hi)) ?_
  show jl_E l G m_Mo_rowOf (0, 0) 45 [some (.ref 22), some (.int (nI 21)), some (.int (nI 3)), some (.int (nI q)), none, none] [.int (nI j)] (σ) P
  refine er_istore d_Mo_rowOf_45 (by decide) ?_
  show jl_E l G m_Mo_rowOf (0, 0) 47 [some (.ref 22), some (.int (nI 21)), some (.int (nI 3)), some (.int (nI q)), some (.int (nI j)), none] [] (σ) P
  refine er_iload_n d_Mo_rowOf_47 rfl ?_
  refine er_if_ge 57 d_Mo_rowOf_48 (by decide) (fun _ => ?_) (fun z => absurd (Int32.not_lt.mp (nI_pos (by omega))) z)
  refine er_iload_n d_Mo_rowOf_57 rfl ?_
  refine er_bipush ((nI (22))) d_Mo_rowOf_58 (by decide) ?_
  refine er_icmp_eq 84 d_Mo_rowOf_60 (by decide) (fun z => absurd z (by decide)) (fun _ => ?_)
  refine er_aload_n d_Mo_rowOf_63 rfl ?_
  refine er_iload d_Mo_rowOf_64 rfl ?_
  refine er_aload_n d_Mo_rowOf_66 rfl ?_
  refine er_getf d_Mo_rowOf_67 f_Mo_rowOf_102 hO rfl ?_
  refine er_iload_n d_Mo_rowOf_70 rfl ?_
  refine er_ialdQ (v := (nI (H.sz q))) d_Mo_rowOf_71 k2 (by omega) (by omega) (congrArg nI (hB q hq).2.1) ?_
  refine er_callV (As := [.int (nI j), .int (nI (H.sz q))]) d_Mo_rowOf_72 k_Mo_rowOf_114 hO rfl rfl rfl (Nat.le_of_ble_eq_true rfl) (by decide) (by decide) (mo_outN (j := j) (n := H.sz q) hl hO hw (by omega) hjz) ?_
  show jl_E l G m_Mo_rowOf (0, 0) 75 [some (.ref 22), some (.int (nI 21)), some (.int (nI 3)), some (.int (nI q)), some (.int (nI j)), none] [.int (nI 0)] (σ) P
  refine er_if_eq 84 d_Mo_rowOf_75 (by decide) (fun _ => ?_) (fun z => absurd (by decide) z)
  refine er_iload_n d_Mo_rowOf_84 rfl ?_
  refine er_bipush ((nI (22))) d_Mo_rowOf_85 (by decide) ?_
  refine er_icmp_ne 99 d_Mo_rowOf_87 (by decide) (fun _ => ?_) (fun z => absurd z (by decide))
  refine er_aload_n d_Mo_rowOf_99 rfl ?_
  refine er_getf d_Mo_rowOf_100 f_Mo_rowOf_105 hO rfl ?_
  refine er_bipush ((nI (18))) d_Mo_rowOf_103 (by decide) ?_
  refine er_iload_n d_Mo_rowOf_105 rfl ?_
  refine er_imulN d_Mo_rowOf_106 ?_
  refine er_iload d_Mo_rowOf_107 rfl ?_
  refine er_iaddN d_Mo_rowOf_109 ?_
  refine er_ialdQ (v := (H.va (q * 18 + j))) d_Mo_rowOf_110 k3 (by omega) (by omega) ((hB q hq).2.2 j hjz) ?_
  refine er_istore d_Mo_rowOf_111 (by decide) ?_
  show jl_E l G m_Mo_rowOf (0, 0) 113 [some (.ref 22), some (.int (nI 21)), some (.int (nI 3)), some (.int (nI q)), some (.int (nI j)), some (.int (H.va (q * 18 + j)))] [] (σ) P
  refine er_iload_n d_Mo_rowOf_113 rfl ?_
  refine er_bipush ((nI (21))) d_Mo_rowOf_114 (by decide) ?_
  refine er_icmp_ne 136 d_Mo_rowOf_116 (by decide) (fun z => absurd rfl z) (fun _ => ?_)
  refine er_aload_n d_Mo_rowOf_119 rfl ?_
  refine er_getf d_Mo_rowOf_120 f_Mo_rowOf_105 hO rfl ?_
  refine er_bipush ((nI (18))) d_Mo_rowOf_123 (by decide) ?_
  refine er_iload_n d_Mo_rowOf_125 rfl ?_
  refine er_imulN d_Mo_rowOf_126 ?_
  refine er_iload d_Mo_rowOf_127 rfl ?_
  refine er_iaddN d_Mo_rowOf_129 ?_
  refine er_aload_n d_Mo_rowOf_130 rfl ?_
  refine er_iconst ((nI (1))) d_Mo_rowOf_131 (by decide) ?_
  refine er_callV (As := [.int (nI 1)]) d_Mo_rowOf_132 k_Mo_rowOf_245 hO rfl rfl rfl (Nat.le_of_ble_eq_true rfl) (by decide) (by decide) (mo_topE (h := b + 3) (n := 1) (v := (V (9 + b))) hl hO f3 f6 ht hfh (by omega) (by omega) (by omega) (by rw [show 5 * t + (b + 3) - 1 = 5 * t + (b + 2) by omega]; exact hS2)) ?_
  show jl_E l G m_Mo_rowOf (0, 0) 135 [some (.ref 22), some (.int (nI 21)), some (.int (nI 3)), some (.int (nI q)), some (.int (nI j)), some (.int (H.va (q * 18 + j)))] [.int (V (9 + b)), .int (nI (((18) * (q)) + (j))), .ref 52] (σ) P
  refine er_iastN d_Mo_rowOf_135 k3 (by omega) (by omega) ?_
  show jl_E l G m_Mo_rowOf (0, 0) 136 [some (.ref 22), some (.int (nI 21)), some (.int (nI 3)), some (.int (nI q)), some (.int (nI j)), some (.int (H.va (q * 18 + j)))] [] (σ.set (52) (.inl (0, 738, .inl (upd (kv) (((18) * (q)) + (j)) ((V (9 + b))))))) P
  refine er_aload_n d_Mo_rowOf_136 rfl ?_
  refine er_iload_n d_Mo_rowOf_137 rfl ?_
  refine er_callV (As := [.int (nI 3)]) d_Mo_rowOf_138 k_Mo_rowOf_242 (jl_sn (by decide) hO) rfl rfl rfl (Nat.le_of_ble_eq_true rfl) (by decide) (by decide) (mo_dropE (h := b + 3) (n := 3) (c := b) hl (jl_sn (by decide) hO) (jl_sn (by decide) f3) ht hfh (by omega) (by omega)) ?_
  show jl_E l G m_Mo_rowOf (0, 0) 141 [some (.ref 22), some (.int (nI 21)), some (.int (nI 3)), some (.int (nI q)), some (.int (nI j)), some (.int (H.va (q * 18 + j)))] [] ((σ.set (52) (.inl (0, 738, .inl (upd (kv) (((18) * (q)) + (j)) ((V (9 + b))))))).set (45) (.inl (0, 13, .inl (fun j => nI ((va_up fh t (b)) j))))) P
  refine er_iload_n d_Mo_rowOf_141 rfl ?_
  refine er_bipush ((nI (21))) d_Mo_rowOf_142 (by decide) ?_
  refine er_icmp_eq 154 d_Mo_rowOf_144 (by decide) (fun _ => ?_) (fun z => absurd (by decide) z)
  refine er_aload_n d_Mo_rowOf_154 rfl ?_
  refine er_callV (As := []) d_Mo_rowOf_155 k_Mo_rowOf_261 (jl_sn (by decide) (jl_sn (by decide) hO)) rfl rfl rfl (Nat.le_of_ble_eq_true rfl) (by decide) (by decide) (mo_mnext hl (jl_sn (by decide) (jl_sn (by decide) hO)) (jl_sn (by decide) (jl_sn (by decide) f2)) ht hfp) ?_
  show jl_E l G m_Mo_rowOf (0, 0) 158 [some (.ref 22), some (.int (nI 21)), some (.int (nI 3)), some (.int (nI q)), some (.int (nI j)), some (.int (H.va (q * 18 + j)))] [] (((σ.set (52) (.inl (0, 738, .inl (upd (kv) (((18) * (q)) + (j)) ((V (9 + b))))))).set (45) (.inl (0, 13, .inl (fun j => nI ((va_up fh t (b)) j))))).set (44) (.inl (0, 13, .inl (fun j => nI ((va_up fp t (p + 1)) j))))) P
  exact er_vret d_Mo_rowOf_158 rfl (hT _ ⟨_, _, _, _, _, _, _, _, _, _, _, _, (jl_sn (by decide) (jl_sn (by decide) (jl_sn (by decide) hO))), (jl_sn (by decide) (jl_sn (by decide) (jl_sn (by decide) f1))), (jl_ss (jl_sn (by decide) (jl_sn (by decide) f2))), (jl_sn (by decide) (jl_ss (jl_sn (by decide) f3))), (jl_sn (by decide) (jl_sn (by decide) (jl_sn (by decide) f4))), (jl_sn (by decide) (jl_sn (by decide) (jl_sn (by decide) f5))), (jl_sn (by decide) (jl_sn (by decide) (jl_sn (by decide) f6))), (jl_sn (by decide) (jl_sn (by decide) (jl_sn (by decide) f7))), ⟨(jl_sn (by decide) (jl_sn (by decide) (jl_sn (by decide) k1))), (jl_sn (by decide) (jl_sn (by decide) (jl_sn (by decide) k2))), (jl_sn (by decide) (jl_sn (by decide) (jl_ss k3)))⟩, (hB.set hz18 (by omega) H.ty), (((((hy1).hg).pc).six).le (by omega)), ⟨⟨(jl_sn (by decide) (jl_sn (by decide) (jl_sn (by decide) r1))), (jl_sn (by decide) (jl_sn (by decide) (jl_sn (by decide) r2)))⟩, hlo, hsk⟩, (((hF.set (by omega)).set (by omega)).set (by omega))⟩) (by decide) (by decide)
theorem d_Mo_rowOf_20 : decode m_Mo_rowOf.2.1 20 = .ok (.iconst 1, 1) := by decide +kernel
theorem d_Mo_rowOf_34 : decode m_Mo_rowOf.2.1 34 = .ok (.iconst 0, 1) := by decide +kernel
theorem d_Mo_rowOf_35 : decode m_Mo_rowOf.2.1 35 = .ok (.goto 10, 3) := by decide +kernel
theorem d_Mo_rowOf_90 : decode m_Mo_rowOf.2.1 90 = .ok (.aload_n 0, 1) := by decide +kernel
theorem d_Mo_rowOf_91 : decode m_Mo_rowOf.2.1 91 = .ok (.getfield 102, 3) := by decide +kernel
theorem d_Mo_rowOf_94 : decode m_Mo_rowOf.2.1 94 = .ok (.iload_n 3, 1) := by decide +kernel
theorem d_Mo_rowOf_95 : decode m_Mo_rowOf.2.1 95 = .ok (.iaload, 1) := by decide +kernel
theorem d_Mo_rowOf_96 : decode m_Mo_rowOf.2.1 96 = .ok (.goto 15, 3) := by decide +kernel
theorem mo_ro_22 (hl : l.stackTraces = false) {P : jl_O → jl_S → Prop} {q : Nat} (hn : NB σ0 σ (b + 1) t m (p) (b + 1) (R) (V) (fs) (H) fa vf wh wy hg ov oh dn an) (hw : MoW σ tb pr ow ft hs) (ht : t < 12) (hb : b + 1 ≤ 5) (hp : b + 1 ≤ 5) (hq : q < H.n) (hn40 : H.n ≤ 40) (hv : V (7 + b) = nI q) (hT : ∀ σ', NB σ0 σ' (b + 1) t m (p + 1) (b + 1) (psh R b (some 0)) (va_up V (7 + b) (nI (H.sz q))) (fs) (H) fa vf wh wy hg ov oh dn an → P (.inl none) σ') : jl_mE l G m_Mo_rowOf [.ref 22, .int (nI 22)] σ P := by
  obtain ⟨fx, fp, fh, lw, lk, vl, vk, ks, kc, kv, lo, sk, hO, f1, f2, f3, f4, f5, f6, f7, hH, hB, hy1, hR1, hF⟩ := id hn
  obtain ⟨k1, k2, k3⟩ := id hH
  obtain ⟨⟨r1, r2⟩, hlo, hsk⟩ := id hR1
  obtain ⟨⟨hfx, hfp, hlc, hst⟩, hfh, hfs, hln⟩ := id hy1
  have hfx : fx t = m := hfx
  have hfp : fp t = p := hfp
  have hlc : ∀ k, k < 6 → lk (6 * t + k) = kdI (R k) ∧ (R k ≠ none → lw (6 * t + k) = V k) := hlc
  have hst : ∀ j, j < _ → vk (5 * t + j) = kdI (R (7 + j)) ∧ vl (5 * t + j) = V (7 + j) := hst
  obtain ⟨h23, h24, h25, h26, h27⟩ := id hw
  have hS0 : vl (5 * t + (b)) = V (7 + b) := by rw [show 7 + b = 7 + (b) by omega]; exact (hst _ (by omega)).2
  have hK0 : vk (5 * t + (b)) = kdI (R (7 + b)) := by rw [show 7 + b = 7 + (b) by omega]; exact (hst _ (by omega)).1
  refine jl_ofE (as := [.ref 22, .int (nI 22)]) rfl (by decide) hl (jl_cc rfl (jl_cc rfl jl_ca)) (Nat.le_of_ble_eq_true rfl) ?_
  show jl_E l G m_Mo_rowOf (0, 0) 0 [some (.ref 22), some (.int (nI 22)), none, none, none, none] [] (σ) P
  refine er_iload_n d_Mo_rowOf_0 rfl ?_
  refine er_bipush ((nI (20))) d_Mo_rowOf_1 (by decide) ?_
  refine er_icmp_ne 10 d_Mo_rowOf_3 (by decide) (fun _ => ?_) (fun z => absurd z (by decide))
  refine er_iload_n d_Mo_rowOf_10 rfl ?_
  refine er_bipush ((nI (21))) d_Mo_rowOf_11 (by decide) ?_
  refine er_icmp_ne 20 d_Mo_rowOf_13 (by decide) (fun _ => ?_) (fun z => absurd z (by decide))
  refine er_iconst ((nI (1))) d_Mo_rowOf_20 (by decide) ?_
  refine er_istore_n d_Mo_rowOf_21 (by decide) ?_
  show jl_E l G m_Mo_rowOf (0, 0) 22 [some (.ref 22), some (.int (nI 22)), some (.int (nI 1)), none, none, none] [] (σ) P
  refine er_aload_n d_Mo_rowOf_22 rfl ?_
  refine er_iload_n d_Mo_rowOf_23 rfl ?_
  refine er_callV (As := [.int (nI 1)]) d_Mo_rowOf_24 k_Mo_rowOf_245 hO rfl rfl rfl (Nat.le_of_ble_eq_true rfl) (by decide) (by decide) (mo_topE (h := b + 1) (n := 1) (v := (nI (q))) hl hO f3 f6 ht hfh (by omega) (by omega) (by omega) (by rw [show 5 * t + (b + 1) - 1 = 5 * t + (b) by omega]; exact hS0.trans hv)) ?_
  show jl_E l G m_Mo_rowOf (0, 0) 27 [some (.ref 22), some (.int (nI 22)), some (.int (nI 1)), none, none, none] [.int (nI q)] (σ) P
  refine er_istore_n d_Mo_rowOf_27 (by decide) ?_
  show jl_E l G m_Mo_rowOf (0, 0) 28 [some (.ref 22), some (.int (nI 22)), some (.int (nI 1)), some (.int (nI q)), none, none] [] (σ) P
  refine er_iload_n d_Mo_rowOf_28 rfl ?_
  refine er_bipush ((nI (22))) d_Mo_rowOf_29 (by decide) ?_
  refine er_icmp_ne 38 d_Mo_rowOf_31 (by decide) (fun z => absurd rfl z) (fun _ => ?_)
  refine er_iconst ((nI (0))) d_Mo_rowOf_34 (by decide) ?_
  refine er_goto 45 d_Mo_rowOf_35 (by decide) ?_
  refine er_istore d_Mo_rowOf_45 (by decide) ?_
  show jl_E l G m_Mo_rowOf (0, 0) 47 [some (.ref 22), some (.int (nI 22)), some (.int (nI 1)), some (.int (nI q)), some (.int (nI 0)), none] [] (σ) P
  refine er_iload_n d_Mo_rowOf_47 rfl ?_
  refine er_if_ge 57 d_Mo_rowOf_48 (by decide) (fun _ => ?_) (fun z => absurd (Int32.not_lt.mp (nI_pos (by omega))) z)
  refine er_iload_n d_Mo_rowOf_57 rfl ?_
  refine er_bipush ((nI (22))) d_Mo_rowOf_58 (by decide) ?_
  refine er_icmp_eq 84 d_Mo_rowOf_60 (by decide) (fun _ => ?_) (fun z => absurd (by decide) z)
  refine er_iload_n d_Mo_rowOf_84 rfl ?_
  refine er_bipush ((nI (22))) d_Mo_rowOf_85 (by decide) ?_
  refine er_icmp_ne 99 d_Mo_rowOf_87 (by decide) (fun z => absurd rfl z) (fun _ => ?_)
  refine er_aload_n d_Mo_rowOf_90 rfl ?_
  refine er_getf d_Mo_rowOf_91 f_Mo_rowOf_102 hO rfl ?_
  refine er_iload_n d_Mo_rowOf_94 rfl ?_
  refine er_ialdQ (v := (nI (H.sz q))) d_Mo_rowOf_95 k2 (by omega) (by omega) (congrArg nI (hB q hq).2.1) ?_
  refine er_goto 111 d_Mo_rowOf_96 (by decide) ?_
  refine er_istore d_Mo_rowOf_111 (by decide) ?_
  show jl_E l G m_Mo_rowOf (0, 0) 113 [some (.ref 22), some (.int (nI 22)), some (.int (nI 1)), some (.int (nI q)), some (.int (nI 0)), some (.int (nI (H.sz q)))] [] (σ) P
  refine er_iload_n d_Mo_rowOf_113 rfl ?_
  refine er_bipush ((nI (21))) d_Mo_rowOf_114 (by decide) ?_
  refine er_icmp_ne 136 d_Mo_rowOf_116 (by decide) (fun _ => ?_) (fun z => absurd z (by decide))
  refine er_aload_n d_Mo_rowOf_136 rfl ?_
  refine er_iload_n d_Mo_rowOf_137 rfl ?_
  refine er_callV (As := [.int (nI 1)]) d_Mo_rowOf_138 k_Mo_rowOf_242 hO rfl rfl rfl (Nat.le_of_ble_eq_true rfl) (by decide) (by decide) (mo_dropE (h := b + 1) (n := 1) (c := b) hl hO f3 ht hfh (by omega) (by omega)) ?_
  show jl_E l G m_Mo_rowOf (0, 0) 141 [some (.ref 22), some (.int (nI 22)), some (.int (nI 1)), some (.int (nI q)), some (.int (nI 0)), some (.int (nI (H.sz q)))] [] (σ.set (45) (.inl (0, 13, .inl (fun j => nI ((va_up fh t (b)) j))))) P
  refine er_iload_n d_Mo_rowOf_141 rfl ?_
  refine er_bipush ((nI (21))) d_Mo_rowOf_142 (by decide) ?_
  refine er_icmp_eq 154 d_Mo_rowOf_144 (by decide) (fun z => absurd z (by decide)) (fun _ => ?_)
  refine er_aload_n d_Mo_rowOf_147 rfl ?_
  refine er_iconst ((nI (0))) d_Mo_rowOf_148 (by decide) ?_
  refine er_iload d_Mo_rowOf_149 rfl ?_
  refine er_callV (As := [.int (nI 0), .int (nI (H.sz q))]) d_Mo_rowOf_151 k_Mo_rowOf_236 (jl_sn (by decide) hO) rfl rfl rfl (Nat.le_of_ble_eq_true rfl) (by decide) (by decide) (mo_mput (h := b) (a := (nI (0))) (b := (nI (H.sz q))) hl (jl_sn (by decide) hO) (jl_ss f3) (jl_sn (by decide) f6) (jl_sn (by decide) f7) ht (va_up_self _ _ _) (by omega)) ?_
  show jl_E l G m_Mo_rowOf (0, 0) 154 [some (.ref 22), some (.int (nI 22)), some (.int (nI 1)), some (.int (nI q)), some (.int (nI 0)), some (.int (nI (H.sz q)))] [] ((((σ.set (45) (.inl (0, 13, .inl (fun j => nI ((va_up fh t (b)) j))))).set (49) (.inl (0, 65, .inl (upd vk (5 * t + (b)) (nI (0)))))).set (48) (.inl (0, 65, .inl (upd vl (5 * t + (b)) (nI (H.sz q)))))).set (45) (.inl (0, 13, .inl (fun j => nI ((va_up (va_up fh t (b)) t (b + 1)) j))))) P
  refine er_aload_n d_Mo_rowOf_154 rfl ?_
  refine er_callV (As := []) d_Mo_rowOf_155 k_Mo_rowOf_261 (jl_sn (by decide) (jl_sn (by decide) (jl_sn (by decide) (jl_sn (by decide) hO)))) rfl rfl rfl (Nat.le_of_ble_eq_true rfl) (by decide) (by decide) (mo_mnext hl (jl_sn (by decide) (jl_sn (by decide) (jl_sn (by decide) (jl_sn (by decide) hO)))) (jl_sn (by decide) (jl_sn (by decide) (jl_sn (by decide) (jl_sn (by decide) f2)))) ht hfp) ?_
  show jl_E l G m_Mo_rowOf (0, 0) 158 [some (.ref 22), some (.int (nI 22)), some (.int (nI 1)), some (.int (nI q)), some (.int (nI 0)), some (.int (nI (H.sz q)))] [] (((((σ.set (45) (.inl (0, 13, .inl (fun j => nI ((va_up fh t (b)) j))))).set (49) (.inl (0, 65, .inl (upd vk (5 * t + (b)) (nI (0)))))).set (48) (.inl (0, 65, .inl (upd vl (5 * t + (b)) (nI (H.sz q)))))).set (45) (.inl (0, 13, .inl (fun j => nI ((va_up (va_up fh t (b)) t (b + 1)) j))))).set (44) (.inl (0, 13, .inl (fun j => nI ((va_up fp t (p + 1)) j))))) P
  exact er_vret d_Mo_rowOf_158 rfl (hT _ ⟨_, _, _, _, _, _, _, _, _, _, _, _, (jl_sn (by decide) (jl_sn (by decide) (jl_sn (by decide) (jl_sn (by decide) (jl_sn (by decide) hO))))), (jl_sn (by decide) (jl_sn (by decide) (jl_sn (by decide) (jl_sn (by decide) (jl_sn (by decide) f1))))), (jl_ss (jl_sn (by decide) (jl_sn (by decide) (jl_sn (by decide) (jl_sn (by decide) f2))))), (jl_sn (by decide) (jl_ss (jl_sn (by decide) (jl_sn (by decide) (jl_ss f3))))), (jl_sn (by decide) (jl_sn (by decide) (jl_sn (by decide) (jl_sn (by decide) (jl_sn (by decide) f4))))), (jl_sn (by decide) (jl_sn (by decide) (jl_sn (by decide) (jl_sn (by decide) (jl_sn (by decide) f5))))), (jl_sn (by decide) (jl_sn (by decide) (jl_ss (jl_sn (by decide) (jl_sn (by decide) f6))))), (jl_sn (by decide) (jl_sn (by decide) (jl_sn (by decide) (jl_ss (jl_sn (by decide) f7))))), ⟨(jl_sn (by decide) (jl_sn (by decide) (jl_sn (by decide) (jl_sn (by decide) (jl_sn (by decide) k1))))), (jl_sn (by decide) (jl_sn (by decide) (jl_sn (by decide) (jl_sn (by decide) (jl_sn (by decide) k2))))), (jl_sn (by decide) (jl_sn (by decide) (jl_sn (by decide) (jl_sn (by decide) (jl_sn (by decide) k3)))))⟩, hB, ((((((hy1).hg).putA (y := (some 0)) (by omega) rfl)).pc).le (by omega)), ⟨⟨(jl_sn (by decide) (jl_sn (by decide) (jl_sn (by decide) (jl_sn (by decide) (jl_sn (by decide) r1))))), (jl_sn (by decide) (jl_sn (by decide) (jl_sn (by decide) (jl_sn (by decide) (jl_sn (by decide) r2)))))⟩, hlo, hsk⟩, (((((hF.set (by omega)).set (by omega)).set (by omega)).set (by omega)).set (by omega))⟩) (by decide) (by decide)
end JNxd
