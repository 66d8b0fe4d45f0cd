/-! the model's machine: INSTRUCTIONS without SIGNALS, 3 (wip/gen/p97xe.py) -/
section JNxe
variable {l : Launch} {G : jl_G} {σ : jl_S}
variable {tb : Nat → Bool} {pr : Nat → Option Nat} {ow fi ft : Nat → Nat} {hs : Nat → Bool} {fa vf wh wy hg dp md ov oh dn an : Int32}
variable {u1 u2 : Nat → Option Nat} {ur ul uo : Nat → Nat} {ua : Nat → Int32} {uc us ut uk : Nat → Nat}
variable {σ0 : jl_S} {N t m p h b n : Nat} {R : Rw} {V : Nat → Int32} {fs : List Fm} {H : Hp} {fa vf wh wy hg ov oh dn an x a v : Int32} {y : Option Nat}
theorem d_Mo_fieldOf_0 : decode m_Mo_fieldOf.2.1 0 = .ok (.iload_n 1, 1) := by decide +kernel
theorem d_Mo_fieldOf_1 : decode m_Mo_fieldOf.2.1 1 = .ok (.bipush 12, 2) := by decide +kernel
theorem d_Mo_fieldOf_3 : decode m_Mo_fieldOf.2.1 3 = .ok (.if_icmp .ne 7, 3) := by decide +kernel
theorem d_Mo_fieldOf_6 : decode m_Mo_fieldOf.2.1 6 = .ok (.iconst 1, 1) := by decide +kernel
theorem d_Mo_fieldOf_7 : decode m_Mo_fieldOf.2.1 7 = .ok (.goto 4, 3) := by decide +kernel
theorem d_Mo_fieldOf_11 : decode m_Mo_fieldOf.2.1 11 = .ok (.istore_n 3, 1) := by decide +kernel
theorem d_Mo_fieldOf_12 : decode m_Mo_fieldOf.2.1 12 = .ok (.aload_n 0, 1) := by decide +kernel
theorem d_Mo_fieldOf_13 : decode m_Mo_fieldOf.2.1 13 = .ok (.iload_n 3, 1) := by decide +kernel
theorem k_Mo_fieldOf_245 : jl_cv m_Mo_fieldOf m_Mo_top 245 1 = true := by decide +kernel
theorem d_Mo_fieldOf_14 : decode m_Mo_fieldOf.2.1 14 = .ok (.invokevirtual 245, 3) := by decide +kernel
theorem d_Mo_fieldOf_17 : decode m_Mo_fieldOf.2.1 17 = .ok (.istore 4, 2) := by decide +kernel
theorem d_Mo_fieldOf_19 : decode m_Mo_fieldOf.2.1 19 = .ok (.iload 4, 2) := by decide +kernel
theorem d_Mo_fieldOf_21 : decode m_Mo_fieldOf.2.1 21 = .ok (.ifCond .ge 9, 3) := by decide +kernel
theorem d_Mo_fieldOf_30 : decode m_Mo_fieldOf.2.1 30 = .ok (.bipush 18, 2) := by decide +kernel
theorem d_Mo_fieldOf_32 : decode m_Mo_fieldOf.2.1 32 = .ok (.iload 4, 2) := by decide +kernel
theorem d_Mo_fieldOf_34 : decode m_Mo_fieldOf.2.1 34 = .ok (.imul, 1) := by decide +kernel
theorem d_Mo_fieldOf_35 : decode m_Mo_fieldOf.2.1 35 = .ok (.iload_n 2, 1) := by decide +kernel
theorem d_Mo_fieldOf_36 : decode m_Mo_fieldOf.2.1 36 = .ok (.bipush 32, 2) := by decide +kernel
theorem d_Mo_fieldOf_38 : decode m_Mo_fieldOf.2.1 38 = .ok (.irem, 1) := by decide +kernel
theorem d_Mo_fieldOf_39 : decode m_Mo_fieldOf.2.1 39 = .ok (.iadd, 1) := by decide +kernel
theorem d_Mo_fieldOf_40 : decode m_Mo_fieldOf.2.1 40 = .ok (.istore 5, 2) := by decide +kernel
theorem d_Mo_fieldOf_42 : decode m_Mo_fieldOf.2.1 42 = .ok (.aload_n 0, 1) := by decide +kernel
theorem f_Mo_fieldOf_105 : jl_fd m_Mo_fieldOf 105 7 35 = true := by decide +kernel
theorem d_Mo_fieldOf_43 : decode m_Mo_fieldOf.2.1 43 = .ok (.getfield 105, 3) := by decide +kernel
theorem d_Mo_fieldOf_46 : decode m_Mo_fieldOf.2.1 46 = .ok (.iload 5, 2) := by decide +kernel
theorem d_Mo_fieldOf_48 : decode m_Mo_fieldOf.2.1 48 = .ok (.iaload, 1) := by decide +kernel
theorem d_Mo_fieldOf_49 : decode m_Mo_fieldOf.2.1 49 = .ok (.istore 6, 2) := by decide +kernel
theorem d_Mo_fieldOf_51 : decode m_Mo_fieldOf.2.1 51 = .ok (.iload_n 1, 1) := by decide +kernel
theorem d_Mo_fieldOf_52 : decode m_Mo_fieldOf.2.1 52 = .ok (.bipush 13, 2) := by decide +kernel
theorem d_Mo_fieldOf_54 : decode m_Mo_fieldOf.2.1 54 = .ok (.if_icmp .ne 15, 3) := by decide +kernel
theorem d_Mo_fieldOf_69 : decode m_Mo_fieldOf.2.1 69 = .ok (.aload_n 0, 1) := by decide +kernel
theorem d_Mo_fieldOf_70 : decode m_Mo_fieldOf.2.1 70 = .ok (.iload_n 3, 1) := by decide +kernel
theorem k_Mo_fieldOf_242 : jl_cv m_Mo_fieldOf m_Mo_drop 242 1 = true := by decide +kernel
theorem d_Mo_fieldOf_71 : decode m_Mo_fieldOf.2.1 71 = .ok (.invokevirtual 242, 3) := by decide +kernel
theorem d_Mo_fieldOf_74 : decode m_Mo_fieldOf.2.1 74 = .ok (.iload_n 1, 1) := by decide +kernel
theorem d_Mo_fieldOf_75 : decode m_Mo_fieldOf.2.1 75 = .ok (.bipush 12, 2) := by decide +kernel
theorem d_Mo_fieldOf_77 : decode m_Mo_fieldOf.2.1 77 = .ok (.if_icmp .ne 32, 3) := by decide +kernel
theorem d_Mo_fieldOf_80 : decode m_Mo_fieldOf.2.1 80 = .ok (.aload_n 0, 1) := by decide +kernel
theorem d_Mo_fieldOf_81 : decode m_Mo_fieldOf.2.1 81 = .ok (.aload_n 0, 1) := by decide +kernel
theorem d_Mo_fieldOf_82 : decode m_Mo_fieldOf.2.1 82 = .ok (.aload_n 0, 1) := by decide +kernel
theorem f_Mo_fieldOf_99 : jl_fd m_Mo_fieldOf 99 7 33 = true := by decide +kernel
theorem d_Mo_fieldOf_83 : decode m_Mo_fieldOf.2.1 83 = .ok (.getfield 99, 3) := by decide +kernel
theorem d_Mo_fieldOf_86 : decode m_Mo_fieldOf.2.1 86 = .ok (.iload 4, 2) := by decide +kernel
theorem d_Mo_fieldOf_88 : decode m_Mo_fieldOf.2.1 88 = .ok (.iaload, 1) := by decide +kernel
theorem d_Mo_fieldOf_89 : decode m_Mo_fieldOf.2.1 89 = .ok (.iload_n 2, 1) := by decide +kernel
theorem d_Mo_fieldOf_90 : decode m_Mo_fieldOf.2.1 90 = .ok (.bipush 32, 2) := by decide +kernel
theorem d_Mo_fieldOf_92 : decode m_Mo_fieldOf.2.1 92 = .ok (.irem, 1) := by decide +kernel
theorem k_Mo_fieldOf_164 : jl_cv m_Mo_fieldOf m_Mo_typeOfField 164 2 = true := by decide +kernel
theorem d_Mo_fieldOf_93 : decode m_Mo_fieldOf.2.1 93 = .ok (.invokevirtual 164, 3) := by decide +kernel
theorem d_Mo_fieldOf_96 : decode m_Mo_fieldOf.2.1 96 = .ok (.ifCond .ne 7, 3) := by decide +kernel
theorem d_Mo_fieldOf_103 : decode m_Mo_fieldOf.2.1 103 = .ok (.iconst 1, 1) := by decide +kernel
theorem d_Mo_fieldOf_104 : decode m_Mo_fieldOf.2.1 104 = .ok (.iload 6, 2) := by decide +kernel
theorem k_Mo_fieldOf_236 : jl_cv m_Mo_fieldOf m_Mo_put 236 2 = true := by decide +kernel
theorem d_Mo_fieldOf_106 : decode m_Mo_fieldOf.2.1 106 = .ok (.invokevirtual 236, 3) := by decide +kernel
theorem d_Mo_fieldOf_109 : decode m_Mo_fieldOf.2.1 109 = .ok (.aload_n 0, 1) := by decide +kernel
theorem k_Mo_fieldOf_261 : jl_cv m_Mo_fieldOf m_Mo_next 261 0 = true := by decide +kernel
theorem d_Mo_fieldOf_110 : decode m_Mo_fieldOf.2.1 110 = .ok (.invokevirtual 261, 3) := by decide +kernel
theorem d_Mo_fieldOf_113 : decode m_Mo_fieldOf.2.1 113 = .ok (.return_, 1) := by decide +kernel
theorem d_Mo_fieldOf_99 : decode m_Mo_fieldOf.2.1 99 = .ok (.iconst 0, 1) := by decide +kernel
theorem d_Mo_fieldOf_100 : decode m_Mo_fieldOf.2.1 100 = .ok (.goto 4, 3) := by decide +kernel
theorem mo_fi_12 (hl : l.stackTraces = false) {P : jl_O → jl_S → Prop} {q k : Nat} (hn : NB σ0 σ (b + 1) t m (p) (b + 1) (R) (V) (fs) (H) fa vf wh wy hg ov oh dn an) (hw : MoW σ tb pr ow ft hs) (ht : t < 12) (hb : b + 1 ≤ 5) (hp : b + 1 ≤ 5) (hq : q < H.n) (hn40 : H.n ≤ 40) (hv : V (7 + b) = nI q) (hso : H.so q = some k) (hk6 : k < 6) (hjz : n % 32 < H.sz q) (hn2 : n < 2 ^ 31) (hz18 : ∀ j, H.sz j ≤ 18) (hok : WoOk tb pr ow fi) (hff : n % 32 < fi k + ow k) (hft : ∀ k f, fty pr fi ft k f < 16) (hkd : kdI (H.ty (q * 18 + n % 32)) = if fty pr fi ft k (n % 32) = 0 then nI 0 else nI 1) (hT : ∀ σ', NB σ0 σ' (b + 1) t m (p + 1) (b + 1) (psh R b (H.ty (q * 18 + n % 32))) (va_up V (7 + b) (H.va (q * 18 + n % 32))) (fs) (H) fa vf wh wy hg ov oh dn an → P (.inl none) σ') : jl_mE l G m_Mo_fieldOf [.ref 22, .int (nI 12), .int (nI n)] σ P := by
  obtain ⟨fx, fp, fh, lw, lk, vl, vk, ks, kc, kv, lo, sk, hO, f1, f2, f3, f4, f5, f6, f7, hH, hB, hy1, hR1, hF⟩ := id hn
  obtain ⟨k1, k2, k3⟩ := id hH
  obtain ⟨⟨r1, r2⟩, hlo, hsk⟩ := id hR1
  obtain ⟨⟨hfx, hfp, hlc, hst⟩, hfh, hfs, hln⟩ := id hy1
  have hfx : fx t = m := hfx
  have hfp : fp t = p := hfp
  have hlc : ∀ k, k < 6 → lk (6 * t + k) = kdI (R k) ∧ (R k ≠ none → lw (6 * t + k) = V k) := hlc
  have hst : ∀ j, j < _ → vk (5 * t + j) = kdI (R (7 + j)) ∧ vl (5 * t + j) = V (7 + j) := hst
  obtain ⟨h23, h24, h25, h26, h27⟩ := id hw
  have hS0 : vl (5 * t + (b)) = V (7 + b) := by rw [show 7 + b = 7 + (b) by omega]; exact (hst _ (by omega)).2
  have hK0 : vk (5 * t + (b)) = kdI (R (7 + b)) := by rw [show 7 + b = 7 + (b) by omega]; exact (hst _ (by omega)).1
  have hz1 := hz18 q
  have hf16 := hft k (n % 32)
  refine jl_ofE (as := [.ref 22, .int (nI 12), .int (nI n)]) rfl (by decide) hl (jl_cc rfl (jl_cc rfl (jl_cc rfl jl_ca))) (Nat.le_of_ble_eq_true rfl) ?_
  show jl_E l G m_Mo_fieldOf (0, 0) 0 [some (.ref 22), some (.int (nI 12)), some (.int (nI n)), none, none, none, none] [] (σ) P
  refine er_iload_n d_Mo_fieldOf_0 rfl ?_
  refine er_bipush ((nI (12))) d_Mo_fieldOf_1 (by decide) ?_
  refine er_icmp_ne 10 d_Mo_fieldOf_3 (by decide) (fun z => absurd rfl z) (fun _ => ?_)
  refine er_iconst ((nI (1))) d_Mo_fieldOf_6 (by decide) ?_
  refine er_goto 11 d_Mo_fieldOf_7 (by decide) ?_
  refine er_istore_n d_Mo_fieldOf_11 (by decide) ?_
  show jl_E l G m_Mo_fieldOf (0, 0) 12 [some (.ref 22), some (.int (nI 12)), some (.int (nI n)), some (.int (nI 1)), none, none, none] [] (σ) P
  refine er_aload_n d_Mo_fieldOf_12 rfl ?_
  refine er_iload_n d_Mo_fieldOf_13 rfl ?_
  refine er_callV (As := [.int (nI 1)]) d_Mo_fieldOf_14 k_Mo_fieldOf_245 hO rfl rfl rfl (Nat.le_of_ble_eq_true rfl) (by decide) (by decide) (mo_topE (h := b + 1) (n := 1) (v := (nI (q))) hl hO f3 f6 ht hfh (by omega) (by omega) (by omega) (by rw [show 5 * t + (b + 1) - 1 = 5 * t + (b) by omega]; exact hS0.trans hv)) ?_
  show jl_E l G m_Mo_fieldOf (0, 0) 17 [some (.ref 22), some (.int (nI 12)), some (.int (nI n)), some (.int (nI 1)), none, none, none] [.int (nI q)] (σ) P
  refine er_istore d_Mo_fieldOf_17 (by decide) ?_
  show jl_E l G m_Mo_fieldOf (0, 0) 19 [some (.ref 22), some (.int (nI 12)), some (.int (nI n)), some (.int (nI 1)), some (.int (nI q)), none, none] [] (σ) P
  refine er_iload d_Mo_fieldOf_19 rfl ?_
  refine er_if_ge 30 d_Mo_fieldOf_21 (by decide) (fun _ => ?_) (fun z => absurd (Int32.not_lt.mp (nI_pos (by omega))) z)
  refine er_bipush ((nI (18))) d_Mo_fieldOf_30 (by decide) ?_
  refine er_iload d_Mo_fieldOf_32 rfl ?_
  refine er_imulN d_Mo_fieldOf_34 ?_
  refine er_iload_n d_Mo_fieldOf_35 rfl ?_
  refine er_bipush ((nI (32))) d_Mo_fieldOf_36 (by decide) ?_
  refine er_iremN d_Mo_fieldOf_38 (by omega) (by omega) (by omega) ?_
  refine er_iaddN d_Mo_fieldOf_39 ?_
  refine er_istore d_Mo_fieldOf_40 (by decide) ?_
  show jl_E l G m_Mo_fieldOf (0, 0) 42 [some (.ref 22), some (.int (nI 12)), some (.int (nI n)), some (.int (nI 1)), some (.int (nI q)), some (.int (nI (((18) * (q)) + ((n) % (32))))), none] [] (σ) P
  refine er_aload_n d_Mo_fieldOf_42 rfl ?_
  refine er_getf d_Mo_fieldOf_43 f_Mo_fieldOf_105 hO rfl ?_
  refine er_iload d_Mo_fieldOf_46 rfl ?_
  refine er_ialdQ (v := (H.va (q * 18 + n % 32))) d_Mo_fieldOf_48 k3 (by omega) (by omega) ((hB q hq).2.2 (n % 32) hjz) ?_
  refine er_istore d_Mo_fieldOf_49 (by decide) ?_
  show jl_E l G m_Mo_fieldOf (0, 0) 51 [some (.ref 22), some (.int (nI 12)), some (.int (nI n)), some (.int (nI 1)), some (.int (nI q)), some (.int (nI (((18) * (q)) + ((n) % (32))))), some (.int (H.va (q * 18 + n % 32)))] [] (σ) P
  refine er_iload_n d_Mo_fieldOf_51 rfl ?_
  refine er_bipush ((nI (13))) d_Mo_fieldOf_52 (by decide) ?_
  refine er_icmp_ne 69 d_Mo_fieldOf_54 (by decide) (fun _ => ?_) (fun z => absurd z (by decide))
  refine er_aload_n d_Mo_fieldOf_69 rfl ?_
  refine er_iload_n d_Mo_fieldOf_70 rfl ?_
  refine er_callV (As := [.int (nI 1)]) d_Mo_fieldOf_71 k_Mo_fieldOf_242 hO rfl rfl rfl (Nat.le_of_ble_eq_true rfl) (by decide) (by decide) (mo_dropE (h := b + 1) (n := 1) (c := b) hl hO f3 ht hfh (by omega) (by omega)) ?_
  show jl_E l G m_Mo_fieldOf (0, 0) 74 [some (.ref 22), some (.int (nI 12)), some (.int (nI n)), some (.int (nI 1)), some (.int (nI q)), some (.int (nI (((18) * (q)) + ((n) % (32))))), some (.int (H.va (q * 18 + n % 32)))] [] (σ.set (45) (.inl (0, 13, .inl (fun j => nI ((va_up fh t (b)) j))))) P
  refine er_iload_n d_Mo_fieldOf_74 rfl ?_
  refine er_bipush ((nI (12))) d_Mo_fieldOf_75 (by decide) ?_
  refine er_icmp_ne 109 d_Mo_fieldOf_77 (by decide) (fun z => absurd rfl z) (fun _ => ?_)
  refine er_aload_n d_Mo_fieldOf_80 rfl ?_
  refine er_aload_n d_Mo_fieldOf_81 rfl ?_
  refine er_aload_n d_Mo_fieldOf_82 rfl ?_
  refine er_getf d_Mo_fieldOf_83 f_Mo_fieldOf_99 (jl_sn (by decide) hO) rfl ?_
  refine er_iload d_Mo_fieldOf_86 rfl ?_
  refine er_ialdQ (v := (nI (k))) d_Mo_fieldOf_88 (jl_sn (by decide) k1) (by omega) (by omega) ((hB q hq).1.trans (congrArg soI hso)) ?_
  refine er_iload_n d_Mo_fieldOf_89 rfl ?_
  refine er_bipush ((nI (32))) d_Mo_fieldOf_90 (by decide) ?_
  refine er_iremN d_Mo_fieldOf_92 (by omega) (by omega) (by omega) ?_
  refine er_callV (As := [.int (nI k), .int (nI ((n) % (32)))]) d_Mo_fieldOf_93 k_Mo_fieldOf_164 (jl_sn (by decide) hO) rfl rfl rfl (Nat.le_of_ble_eq_true rfl) (by decide) (by decide) (mo_tf (f := n % 32) hl (jl_sn (by decide) hO) (MoW.sx hw (Or.inr (by decide))) hok hk6 hff) ?_
  show jl_E l G m_Mo_fieldOf (0, 0) 96 [some (.ref 22), some (.int (nI 12)), some (.int (nI n)), some (.int (nI 1)), some (.int (nI q)), some (.int (nI (((18) * (q)) + ((n) % (32))))), some (.int (H.va (q * 18 + n % 32)))] [.int (nI (fty pr fi ft k (n % 32))), .ref 22] (σ.set (45) (.inl (0, 13, .inl (fun j => nI ((va_up fh t (b)) j))))) P
  refine er_if_neN 103 d_Mo_fieldOf_96 (by decide) (by omega) (fun c1 => ?_) (fun c1 => ?_)
  · refine er_iconst ((nI (1))) d_Mo_fieldOf_103 (by decide) ?_
    refine er_iload d_Mo_fieldOf_104 rfl ?_
    refine er_callV (As := [.int (nI 1), .int (H.va (q * 18 + n % 32))]) d_Mo_fieldOf_106 k_Mo_fieldOf_236 (jl_sn (by decide) hO) rfl rfl rfl (Nat.le_of_ble_eq_true rfl) (by decide) (by decide) (mo_mput (h := b) (a := (nI (1))) (b := (H.va (q * 18 + n % 32))) hl (jl_sn (by decide) hO) (jl_ss f3) (jl_sn (by decide) f6) (jl_sn (by decide) f7) ht (va_up_self _ _ _) (by omega)) ?_
    show jl_E l G m_Mo_fieldOf (0, 0) 109 [some (.ref 22), some (.int (nI 12)), some (.int (nI n)), some (.int (nI 1)), some (.int (nI q)), some (.int (nI (((18) * (q)) + ((n) % (32))))), some (.int (H.va (q * 18 + n % 32)))] [] ((((σ.set (45) (.inl (0, 13, .inl (fun j => nI ((va_up fh t (b)) j))))).set (49) (.inl (0, 65, .inl (upd vk (5 * t + (b)) (nI (1)))))).set (48) (.inl (0, 65, .inl (upd vl (5 * t + (b)) (H.va (q * 18 + n % 32)))))).set (45) (.inl (0, 13, .inl (fun j => nI ((va_up (va_up fh t (b)) t (b + 1)) j))))) P
    refine er_aload_n d_Mo_fieldOf_109 rfl ?_
    refine er_callV (As := []) d_Mo_fieldOf_110 k_Mo_fieldOf_261 (jl_sn (by decide) (jl_sn (by decide) (jl_sn (by decide) (jl_sn (by decide) hO)))) rfl rfl rfl (Nat.le_of_ble_eq_true rfl) (by decide) (by decide) (mo_mnext hl (jl_sn (by decide) (jl_sn (by decide) (jl_sn (by decide) (jl_sn (by decide) hO)))) (jl_sn (by decide) (jl_sn (by decide) (jl_sn (by decide) (jl_sn (by decide) f2)))) ht hfp) ?_
    show jl_E l G m_Mo_fieldOf (0, 0) 113 [some (.ref 22), some (.int (nI 12)), some (.int (nI n)), some (.int (nI 1)), some (.int (nI q)), some (.int (nI (((18) * (q)) + ((n) % (32))))), some (.int (H.va (q * 18 + n % 32)))] [] (((((σ.set (45) (.inl (0, 13, .inl (fun j => nI ((va_up fh t (b)) j))))).set (49) (.inl (0, 65, .inl (upd vk (5 * t + (b)) (nI (1)))))).set (48) (.inl (0, 65, .inl (upd vl (5 * t + (b)) (H.va (q * 18 + n % 32)))))).set (45) (.inl (0, 13, .inl (fun j => nI ((va_up (va_up fh t (b)) t (b + 1)) j))))).set (44) (.inl (0, 13, .inl (fun j => nI ((va_up fp t (p + 1)) j))))) P
    exact er_vret d_Mo_fieldOf_113 rfl (hT _ ⟨_, _, _, _, _, _, _, _, _, _, _, _, (jl_sn (by decide) (jl_sn (by decide) (jl_sn (by decide) (jl_sn (by decide) (jl_sn (by decide) hO))))), (jl_sn (by decide) (jl_sn (by decide) (jl_sn (by decide) (jl_sn (by decide) (jl_sn (by decide) f1))))), (jl_ss (jl_sn (by decide) (jl_sn (by decide) (jl_sn (by decide) (jl_sn (by decide) f2))))), (jl_sn (by decide) (jl_ss (jl_sn (by decide) (jl_sn (by decide) (jl_ss f3))))), (jl_sn (by decide) (jl_sn (by decide) (jl_sn (by decide) (jl_sn (by decide) (jl_sn (by decide) f4))))), (jl_sn (by decide) (jl_sn (by decide) (jl_sn (by decide) (jl_sn (by decide) (jl_sn (by decide) f5))))), (jl_sn (by decide) (jl_sn (by decide) (jl_ss (jl_sn (by decide) (jl_sn (by decide) f6))))), (jl_sn (by decide) (jl_sn (by decide) (jl_sn (by decide) (jl_ss (jl_sn (by decide) f7))))), ⟨(jl_sn (by decide) (jl_sn (by decide) (jl_sn (by decide) (jl_sn (by decide) (jl_sn (by decide) k1))))), (jl_sn (by decide) (jl_sn (by decide) (jl_sn (by decide) (jl_sn (by decide) (jl_sn (by decide) k2))))), (jl_sn (by decide) (jl_sn (by decide) (jl_sn (by decide) (jl_sn (by decide) (jl_sn (by decide) k3)))))⟩, hB, ((((((hy1).hg).putA (y := (H.ty (q * 18 + n % 32))) (by omega) (by rw [hkd, if_neg (by omega)]))).pc).le (by omega)), ⟨⟨(jl_sn (by decide) (jl_sn (by decide) (jl_sn (by decide) (jl_sn (by decide) (jl_sn (by decide) r1))))), (jl_sn (by decide) (jl_sn (by decide) (jl_sn (by decide) (jl_sn (by decide) (jl_sn (by decide) r2)))))⟩, hlo, hsk⟩, (((((hF.set (by omega)).set (by omega)).set (by omega)).set (by omega)).set (by omega))⟩) (by decide) (by decide)
  · refine er_iconst ((nI (0))) d_Mo_fieldOf_99 (by decide) ?_
    refine er_goto 104 d_Mo_fieldOf_100 (by decide) ?_
    refine er_iload d_Mo_fieldOf_104 rfl ?_
    refine er_callV (As := [.int (nI 0), .int (H.va (q * 18 + n % 32))]) d_Mo_fieldOf_106 k_Mo_fieldOf_236 (jl_sn (by decide) hO) rfl rfl rfl (Nat.le_of_ble_eq_true rfl) (by decide) (by decide) (mo_mput (h := b) (a := (nI (0))) (b := (H.va (q * 18 + n % 32))) hl (jl_sn (by decide) hO) (jl_ss f3) (jl_sn (by decide) f6) (jl_sn (by decide) f7) ht (va_up_self _ _ _) (by omega)) ?_
    show jl_E l G m_Mo_fieldOf (0, 0) 109 [some (.ref 22), some (.int (nI 12)), some (.int (nI n)), some (.int (nI 1)), some (.int (nI q)), some (.int (nI (((18) * (q)) + ((n) % (32))))), some (.int (H.va (q * 18 + n % 32)))] [] ((((σ.set (45) (.inl (0, 13, .inl (fun j => nI ((va_up fh t (b)) j))))).set (49) (.inl (0, 65, .inl (upd vk (5 * t + (b)) (nI (0)))))).set (48) (.inl (0, 65, .inl (upd vl (5 * t + (b)) (H.va (q * 18 + n % 32)))))).set (45) (.inl (0, 13, .inl (fun j => nI ((va_up (va_up fh t (b)) t (b + 1)) j))))) P
    refine er_aload_n d_Mo_fieldOf_109 rfl ?_
    refine er_callV (As := []) d_Mo_fieldOf_110 k_Mo_fieldOf_261 (jl_sn (by decide) (jl_sn (by decide) (jl_sn (by decide) (jl_sn (by decide) hO)))) rfl rfl rfl (Nat.le_of_ble_eq_true rfl) (by decide) (by decide) (mo_mnext hl (jl_sn (by decide) (jl_sn (by decide) (jl_sn (by decide) (jl_sn (by decide) hO)))) (jl_sn (by decide) (jl_sn (by decide) (jl_sn (by decide) (jl_sn (by decide) f2)))) ht hfp) ?_
    show jl_E l G m_Mo_fieldOf (0, 0) 113 [some (.ref 22), some (.int (nI 12)), some (.int (nI n)), some (.int (nI 1)), some (.int (nI q)), some (.int (nI (((18) * (q)) + ((n) % (32))))), some (.int (H.va (q * 18 + n % 32)))] [] (((((σ.set (45) (.inl (0, 13, .inl (fun j => nI ((va_up fh t (b)) j))))).set (49) (.inl (0, 65, .inl (upd vk (5 * t + (b)) (nI (0)))))).set (48) (.inl (0, 65, .inl (upd vl (5 * t + (b)) (H.va (q * 18 + n % 32)))))).set (45) (.inl (0, 13, .inl (fun j => nI ((va_up (va_up fh t (b)) t (b + 1)) j))))).set (44) (.inl (0, 13, .inl (fun j => nI ((va_up fp t (p + 1)) j))))) P
    exact er_vret d_Mo_fieldOf_113 rfl (hT _ ⟨_, _, _, _, _, _, _, _, _, _, _, _, (jl_sn (by decide) (jl_sn (by decide) (jl_sn (by decide) (jl_sn (by decide) (jl_sn (by decide) hO))))), (jl_sn (by decide) (jl_sn (by decide) (jl_sn (by decide) (jl_sn (by decide) (jl_sn (by decide) f1))))), (jl_ss (jl_sn (by decide) (jl_sn (by decide) (jl_sn (by decide) (jl_sn (by decide) f2))))), (jl_sn (by decide) (jl_ss (jl_sn (by decide) (jl_sn (by decide) (jl_ss f3))))), (jl_sn (by decide) (jl_sn (by decide) (jl_sn (by decide) (jl_sn (by decide) (jl_sn (by decide) f4))))), (jl_sn (by decide) (jl_sn (by decide) (jl_sn (by decide) (jl_sn (by decide) (jl_sn (by decide) f5))))), (jl_sn (by decide) (jl_sn (by decide) (jl_ss (jl_sn (by decide) (jl_sn (by decide) f6))))), (jl_sn (by decide) (jl_sn (by decide) (jl_sn (by decide) (jl_ss (jl_sn (by decide) f7))))), ⟨(jl_sn (by decide) (jl_sn (by decide) (jl_sn (by decide) (jl_sn (by decide) (jl_sn (by decide) k1))))), (jl_sn (by decide) (jl_sn (by decide) (jl_sn (by decide) (jl_sn (by decide) (jl_sn (by decide) k2))))), (jl_sn (by decide) (jl_sn (by decide) (jl_sn (by decide) (jl_sn (by decide) (jl_sn (by decide) k3)))))⟩, hB, ((((((hy1).hg).putA (y := (H.ty (q * 18 + n % 32))) (by omega) (by rw [hkd, if_pos (by omega)]))).pc).le (by omega)), ⟨⟨(jl_sn (by decide) (jl_sn (by decide) (jl_sn (by decide) (jl_sn (by decide) (jl_sn (by decide) r1))))), (jl_sn (by decide) (jl_sn (by decide) (jl_sn (by decide) (jl_sn (by decide) (jl_sn (by decide) r2)))))⟩, hlo, hsk⟩, (((((hF.set (by omega)).set (by omega)).set (by omega)).set (by omega)).set (by omega))⟩) (by decide) (by decide)
theorem d_Mo_fieldOf_10 : decode m_Mo_fieldOf.2.1 10 = .ok (.iconst 2, 1) := by decide +kernel
theorem d_Mo_fieldOf_57 : decode m_Mo_fieldOf.2.1 57 = .ok (.aload_n 0, 1) := by decide +kernel
theorem d_Mo_fieldOf_58 : decode m_Mo_fieldOf.2.1 58 = .ok (.getfield 105, 3) := by decide +kernel
theorem d_Mo_fieldOf_61 : decode m_Mo_fieldOf.2.1 61 = .ok (.iload 5, 2) := by decide +kernel
theorem d_Mo_fieldOf_63 : decode m_Mo_fieldOf.2.1 63 = .ok (.aload_n 0, 1) := by decide +kernel
theorem d_Mo_fieldOf_64 : decode m_Mo_fieldOf.2.1 64 = .ok (.iconst 1, 1) := by decide +kernel
theorem d_Mo_fieldOf_65 : decode m_Mo_fieldOf.2.1 65 = .ok (.invokevirtual 245, 3) := by decide +kernel
theorem d_Mo_fieldOf_68 : decode m_Mo_fieldOf.2.1 68 = .ok (.iastore, 1) := by decide +kernel
theorem mo_fi_13 (hl : l.stackTraces = false) {P : jl_O → jl_S → Prop} {q k : Nat} (hn : NB σ0 σ (b + 2) t m (p) (b + 2) (R) (V) (fs) (H) fa vf wh wy hg ov oh dn an) (ht : t < 12) (hb : b + 2 ≤ 5) (hp : b ≤ 5) (hq : q < H.n) (hn40 : H.n ≤ 40) (hv : V (7 + b) = nI q) (hso : H.so q = some k) (hk6 : k < 6) (hjz : n % 32 < H.sz q) (hn2 : n < 2 ^ 31) (hz18 : ∀ j, H.sz j ≤ 18) (hT : ∀ σ', NB σ0 σ' (b) t m (p + 1) (b) (va_up R 6 (some b)) (V) (fs) (⟨H.n, H.sz, va_up H.ty (q * 18 + n % 32) (R (8 + b)), va_up H.va (q * 18 + n % 32) (V (8 + b)), H.so⟩) fa vf wh wy hg ov oh dn an → P (.inl none) σ') : jl_mE l G m_Mo_fieldOf [.ref 22, .int (nI 13), .int (nI n)] σ P := by
  obtain ⟨fx, fp, fh, lw, lk, vl, vk, ks, kc, kv, lo, sk, hO, f1, f2, f3, f4, f5, f6, f7, hH, hB, hy1, hR1, hF⟩ := id hn
  obtain ⟨k1, k2, k3⟩ := id hH
  obtain ⟨⟨r1, r2⟩, hlo, hsk⟩ := id hR1
  obtain ⟨⟨hfx, hfp, hlc, hst⟩, hfh, hfs, hln⟩ := id hy1
  have hfx : fx t = m := hfx
  have hfp : fp t = p := hfp
  have hlc : ∀ k, k < 6 → lk (6 * t + k) = kdI (R k) ∧ (R k ≠ none → lw (6 * t + k) = V k) := hlc
  have hst : ∀ j, j < _ → vk (5 * t + j) = kdI (R (7 + j)) ∧ vl (5 * t + j) = V (7 + j) := hst
  have hS0 : vl (5 * t + (b)) = V (7 + b) := by rw [show 7 + b = 7 + (b) by omega]; exact (hst _ (by omega)).2
  have hK0 : vk (5 * t + (b)) = kdI (R (7 + b)) := by rw [show 7 + b = 7 + (b) by omega]; exact (hst _ (by omega)).1
  have hS1 : vl (5 * t + (b + 1)) = V (8 + b) := by rw [show 8 + b = 7 + (b + 1) by omega]; exact (hst _ (by omega)).2
  have hK1 : vk (5 * t + (b + 1)) = kdI (R (8 + b)) := by rw [show 8 + b = 7 + (b + 1) by omega]; exact (hst _ (by omega)).1
  have hz1 := hz18 q
  refine jl_ofE (as := [.ref 22, .int (nI 13), .int (nI n)]) rfl (by decide) hl (jl_cc rfl (jl_cc rfl (jl_cc rfl jl_ca))) (Nat.le_of_ble_eq_true rfl) ?_
  show jl_E l G m_Mo_fieldOf (0, 0) 0 [some (.ref 22), some (.int (nI 13)), some (.int (nI n)), none, none, none, none] [] (σ) P
  refine er_iload_n d_Mo_fieldOf_0 rfl ?_
  refine er_bipush ((nI (12))) d_Mo_fieldOf_1 (by decide) ?_
  refine er_icmp_ne 10 d_Mo_fieldOf_3 (by decide) (fun _ => ?_) (fun z => absurd z (by decide))
  refine er_iconst ((nI (2))) d_Mo_fieldOf_10 (by decide) ?_
  refine er_istore_n d_Mo_fieldOf_11 (by decide) ?_
  show jl_E l G m_Mo_fieldOf (0, 0) 12 [some (.ref 22), some (.int (nI 13)), some (.int (nI n)), some (.int (nI 2)), none, none, none] [] (σ) P
  refine er_aload_n d_Mo_fieldOf_12 rfl ?_
  refine er_iload_n d_Mo_fieldOf_13 rfl ?_
  refine er_callV (As := [.int (nI 2)]) d_Mo_fieldOf_14 k_Mo_fieldOf_245 hO rfl rfl rfl (Nat.le_of_ble_eq_true rfl) (by decide) (by decide) (mo_topE (h := b + 2) (n := 2) (v := (nI (q))) hl hO f3 f6 ht hfh (by omega) (by omega) (by omega) (by rw [show 5 * t + (b + 2) - 2 = 5 * t + (b) by omega]; exact hS0.trans hv)) ?_
  show jl_E l G m_Mo_fieldOf (0, 0) 17 [some (.ref 22), some (.int (nI 13)), some (.int (nI n)), some (.int (nI 2)), none, none, none] [.int (nI q)] (σ) P
  refine er_istore d_Mo_fieldOf_17 (by decide) ?_
  show jl_E l G m_Mo_fieldOf (0, 0) 19 [some (.ref 22), some (.int (nI 13)), some (.int (nI n)), some (.int (nI 2)), some (.int (nI q)), none, none] [] (σ) P
  refine er_iload d_Mo_fieldOf_19 rfl ?_
  refine er_if_ge 30 d_Mo_fieldOf_21 (by decide) (fun _ => ?_) (fun z => absurd (Int32.not_lt.mp (nI_pos (by omega))) z)
  refine er_bipush ((nI (18))) d_Mo_fieldOf_30 (by decide) ?_
  refine er_iload d_Mo_fieldOf_32 rfl ?_
  refine er_imulN d_Mo_fieldOf_34 ?_
  refine er_iload_n d_Mo_fieldOf_35 rfl ?_
  refine er_bipush ((nI (32))) d_Mo_fieldOf_36 (by decide) ?_
  refine er_iremN d_Mo_fieldOf_38 (by omega) (by omega) (by omega) ?_
  refine er_iaddN d_Mo_fieldOf_39 ?_
  refine er_istore d_Mo_fieldOf_40 (by decide) ?_
  show jl_E l G m_Mo_fieldOf (0, 0) 42 [some (.ref 22), some (.int (nI 13)), some (.int (nI n)), some (.int (nI 2)), some (.int (nI q)), some (.int (nI (((18) * (q)) + ((n) % (32))))), none] [] (σ) P
  refine er_aload_n d_Mo_fieldOf_42 rfl ?_
  refine er_getf d_Mo_fieldOf_43 f_Mo_fieldOf_105 hO rfl ?_
  refine er_iload d_Mo_fieldOf_46 rfl ?_
  refine er_ialdQ (v := (H.va (q * 18 + n % 32))) d_Mo_fieldOf_48 k3 (by omega) (by omega) ((hB q hq).2.2 (n % 32) hjz) ?_
  refine er_istore d_Mo_fieldOf_49 (by decide) ?_
  show jl_E l G m_Mo_fieldOf (0, 0) 51 [some (.ref 22), some (.int (nI 13)), some (.int (nI n)), some (.int (nI 2)), some (.int (nI q)), some (.int (nI (((18) * (q)) + ((n) % (32))))), some (.int (H.va (q * 18 + n % 32)))] [] (σ) P
  refine er_iload_n d_Mo_fieldOf_51 rfl ?_
  refine er_bipush ((nI (13))) d_Mo_fieldOf_52 (by decide) ?_
  refine er_icmp_ne 69 d_Mo_fieldOf_54 (by decide) (fun z => absurd rfl z) (fun _ => ?_)
  refine er_aload_n d_Mo_fieldOf_57 rfl ?_
  refine er_getf d_Mo_fieldOf_58 f_Mo_fieldOf_105 hO rfl ?_
  refine er_iload d_Mo_fieldOf_61 rfl ?_
  refine er_aload_n d_Mo_fieldOf_63 rfl ?_
  refine er_iconst ((nI (1))) d_Mo_fieldOf_64 (by decide) ?_
  refine er_callV (As := [.int (nI 1)]) d_Mo_fieldOf_65 k_Mo_fieldOf_245 hO rfl rfl rfl (Nat.le_of_ble_eq_true rfl) (by decide) (by decide) (mo_topE (h := b + 2) (n := 1) (v := (V (8 + b))) hl hO f3 f6 ht hfh (by omega) (by omega) (by omega) (by rw [show 5 * t + (b + 2) - 1 = 5 * t + (b + 1) by omega]; exact hS1)) ?_
  show jl_E l G m_Mo_fieldOf (0, 0) 68 [some (.ref 22), some (.int (nI 13)), some (.int (nI n)), some (.int (nI 2)), some (.int (nI q)), some (.int (nI (((18) * (q)) + ((n) % (32))))), some (.int (H.va (q * 18 + n % 32)))] [.int (V (8 + b)), .int (nI (((18) * (q)) + ((n) % (32)))), .ref 52] (σ) P
  refine er_iastN d_Mo_fieldOf_68 k3 (by omega) (by omega) ?_
  show jl_E l G m_Mo_fieldOf (0, 0) 69 [some (.ref 22), some (.int (nI 13)), some (.int (nI n)), some (.int (nI 2)), some (.int (nI q)), some (.int (nI (((18) * (q)) + ((n) % (32))))), some (.int (H.va (q * 18 + n % 32)))] [] (σ.set (52) (.inl (0, 738, .inl (upd (kv) (((18) * (q)) + ((n) % (32))) ((V (8 + b))))))) P
  refine er_aload_n d_Mo_fieldOf_69 rfl ?_
  refine er_iload_n d_Mo_fieldOf_70 rfl ?_
  refine er_callV (As := [.int (nI 2)]) d_Mo_fieldOf_71 k_Mo_fieldOf_242 (jl_sn (by decide) hO) rfl rfl rfl (Nat.le_of_ble_eq_true rfl) (by decide) (by decide) (mo_dropE (h := b + 2) (n := 2) (c := b) hl (jl_sn (by decide) hO) (jl_sn (by decide) f3) ht hfh (by omega) (by omega)) ?_
  show jl_E l G m_Mo_fieldOf (0, 0) 74 [some (.ref 22), some (.int (nI 13)), some (.int (nI n)), some (.int (nI 2)), some (.int (nI q)), some (.int (nI (((18) * (q)) + ((n) % (32))))), some (.int (H.va (q * 18 + n % 32)))] [] ((σ.set (52) (.inl (0, 738, .inl (upd (kv) (((18) * (q)) + ((n) % (32))) ((V (8 + b))))))).set (45) (.inl (0, 13, .inl (fun j => nI ((va_up fh t (b)) j))))) P
  refine er_iload_n d_Mo_fieldOf_74 rfl ?_
  refine er_bipush ((nI (12))) d_Mo_fieldOf_75 (by decide) ?_
  refine er_icmp_ne 109 d_Mo_fieldOf_77 (by decide) (fun _ => ?_) (fun z => absurd z (by decide))
  refine er_aload_n d_Mo_fieldOf_109 rfl ?_
  refine er_callV (As := []) d_Mo_fieldOf_110 k_Mo_fieldOf_261 (jl_sn (by decide) (jl_sn (by decide) hO)) rfl rfl rfl (Nat.le_of_ble_eq_true rfl) (by decide) (by decide) (mo_mnext hl (jl_sn (by decide) (jl_sn (by decide) hO)) (jl_sn (by decide) (jl_sn (by decide) f2)) ht hfp) ?_
  show jl_E l G m_Mo_fieldOf (0, 0) 113 [some (.ref 22), some (.int (nI 13)), some (.int (nI n)), some (.int (nI 2)), some (.int (nI q)), some (.int (nI (((18) * (q)) + ((n) % (32))))), some (.int (H.va (q * 18 + n % 32)))] [] (((σ.set (52) (.inl (0, 738, .inl (upd (kv) (((18) * (q)) + ((n) % (32))) ((V (8 + b))))))).set (45) (.inl (0, 13, .inl (fun j => nI ((va_up fh t (b)) j))))).set (44) (.inl (0, 13, .inl (fun j => nI ((va_up fp t (p + 1)) j))))) P
  exact er_vret d_Mo_fieldOf_113 rfl (hT _ ⟨_, _, _, _, _, _, _, _, _, _, _, _, (jl_sn (by decide) (jl_sn (by decide) (jl_sn (by decide) hO))), (jl_sn (by decide) (jl_sn (by decide) (jl_sn (by decide) f1))), (jl_ss (jl_sn (by decide) (jl_sn (by decide) f2))), (jl_sn (by decide) (jl_ss (jl_sn (by decide) f3))), (jl_sn (by decide) (jl_sn (by decide) (jl_sn (by decide) f4))), (jl_sn (by decide) (jl_sn (by decide) (jl_sn (by decide) f5))), (jl_sn (by decide) (jl_sn (by decide) (jl_sn (by decide) f6))), (jl_sn (by decide) (jl_sn (by decide) (jl_sn (by decide) f7))), ⟨(jl_sn (by decide) (jl_sn (by decide) (jl_sn (by decide) k1))), (jl_sn (by decide) (jl_sn (by decide) (jl_sn (by decide) k2))), (jl_sn (by decide) (jl_sn (by decide) (jl_ss k3)))⟩, (hB.set hz18 (by omega) (va_up H.ty (q * 18 + n % 32) (R (8 + b)))), (((((hy1).hg).pc).six).le (by omega)), ⟨⟨(jl_sn (by decide) (jl_sn (by decide) (jl_sn (by decide) r1))), (jl_sn (by decide) (jl_sn (by decide) (jl_sn (by decide) r2)))⟩, hlo, hsk⟩, (((hF.set (by omega)).set (by omega)).set (by omega))⟩) (by decide) (by decide)
theorem d_Mo_branch_0 : decode m_Mo_branch.2.1 0 = .ok (.iload_n 1, 1) := by decide +kernel
theorem d_Mo_branch_1 : decode m_Mo_branch.2.1 1 = .ok (.bipush 7, 2) := by decide +kernel
theorem d_Mo_branch_3 : decode m_Mo_branch.2.1 3 = .ok (.if_icmp .eq 50, 3) := by decide +kernel
theorem d_Mo_branch_53 : decode m_Mo_branch.2.1 53 = .ok (.iconst 1, 1) := by decide +kernel
theorem d_Mo_branch_54 : decode m_Mo_branch.2.1 54 = .ok (.goto 4, 3) := by decide +kernel
theorem d_Mo_branch_58 : decode m_Mo_branch.2.1 58 = .ok (.istore_n 3, 1) := by decide +kernel
theorem d_Mo_branch_59 : decode m_Mo_branch.2.1 59 = .ok (.aload_n 0, 1) := by decide +kernel
theorem d_Mo_branch_60 : decode m_Mo_branch.2.1 60 = .ok (.aload_n 0, 1) := by decide +kernel
theorem d_Mo_branch_61 : decode m_Mo_branch.2.1 61 = .ok (.iload_n 1, 1) := by decide +kernel
theorem d_Mo_branch_62 : decode m_Mo_branch.2.1 62 = .ok (.iload_n 2, 1) := by decide +kernel
theorem k_Mo_branch_176 : jl_cv m_Mo_branch m_Mo_takes 176 2 = true := by decide +kernel
theorem d_Mo_branch_63 : decode m_Mo_branch.2.1 63 = .ok (.invokevirtual 176, 3) := by decide +kernel
theorem k_Mo_branch_242 : jl_cv m_Mo_branch m_Mo_drop 242 1 = true := by decide +kernel
theorem d_Mo_branch_66 : decode m_Mo_branch.2.1 66 = .ok (.invokevirtual 242, 3) := by decide +kernel
theorem d_Mo_branch_69 : decode m_Mo_branch.2.1 69 = .ok (.iload_n 3, 1) := by decide +kernel
theorem d_Mo_branch_70 : decode m_Mo_branch.2.1 70 = .ok (.ifCond .eq 18, 3) := by decide +kernel
theorem d_Mo_branch_73 : decode m_Mo_branch.2.1 73 = .ok (.aload_n 0, 1) := by decide +kernel
theorem f_Mo_branch_81 : jl_fd m_Mo_branch 81 7 26 = true := by decide +kernel
theorem d_Mo_branch_74 : decode m_Mo_branch.2.1 74 = .ok (.getfield 81, 3) := by decide +kernel
theorem d_Mo_branch_77 : decode m_Mo_branch.2.1 77 = .ok (.aload_n 0, 1) := by decide +kernel
theorem f_Mo_branch_224 : jl_fd m_Mo_branch 224 7 32 = true := by decide +kernel
theorem d_Mo_branch_78 : decode m_Mo_branch.2.1 78 = .ok (.getfield 224, 3) := by decide +kernel
theorem d_Mo_branch_81 : decode m_Mo_branch.2.1 81 = .ok (.iconst 1, 1) := by decide +kernel
theorem d_Mo_branch_82 : decode m_Mo_branch.2.1 82 = .ok (.isub, 1) := by decide +kernel
theorem d_Mo_branch_83 : decode m_Mo_branch.2.1 83 = .ok (.iload_n 2, 1) := by decide +kernel
theorem d_Mo_branch_84 : decode m_Mo_branch.2.1 84 = .ok (.iastore, 1) := by decide +kernel
theorem d_Mo_branch_85 : decode m_Mo_branch.2.1 85 = .ok (.goto 7, 3) := by decide +kernel
theorem d_Mo_branch_92 : decode m_Mo_branch.2.1 92 = .ok (.return_, 1) := by decide +kernel
theorem mo_br_7 (hl : l.stackTraces = false) {P : jl_O → jl_S → Prop}  (hn : NB σ0 σ (b) t m (p) (b) (R) (V) (fs) (H) fa vf wh wy hg ov oh dn an) (hw : MoW σ tb pr ow ft hs) (hu : MoM σ u1 u2 ur ul uo ua uc us ut uk) (ht : t < 12) (hb : b ≤ 5) (hn24 : n < 24)  (hT : ∀ σ', NB σ0 σ' (b) t m (n) (b) (va_up R 6 (some b)) (V) (fs) (H) fa vf wh wy hg ov oh dn an → P (.inl none) σ') : jl_mE l G m_Mo_branch [.ref 22, .int (nI 7), .int (nI n)] σ P := by
  obtain ⟨fx, fp, fh, lw, lk, vl, vk, ks, kc, kv, lo, sk, hO, f1, f2, f3, f4, f5, f6, f7, hH, hB, hy1, hR1, hF⟩ := id hn
  obtain ⟨k1, k2, k3⟩ := id hH
  obtain ⟨⟨r1, r2⟩, hlo, hsk⟩ := id hR1
  obtain ⟨⟨hfx, hfp, hlc, hst⟩, hfh, hfs, hln⟩ := id hy1
  have hfx : fx t = m := hfx
  have hfp : fp t = p := hfp
  have hlc : ∀ k, k < 6 → lk (6 * t + k) = kdI (R k) ∧ (R k ≠ none → lw (6 * t + k) = V k) := hlc
  have hst : ∀ j, j < _ → vk (5 * t + j) = kdI (R (7 + j)) ∧ vl (5 * t + j) = V (7 + j) := hst
  obtain ⟨h23, h24, h25, h26, h27⟩ := id hw
  obtain ⟨h28, h29, h30, h31, h32, h33, h34, h35, h36, h37⟩ := id hu
  refine jl_ofE (as := [.ref 22, .int (nI 7), .int (nI n)]) rfl (by decide) hl (jl_cc rfl (jl_cc rfl (jl_cc rfl jl_ca))) (Nat.le_of_ble_eq_true rfl) ?_
  show jl_E l G m_Mo_branch (0, 0) 0 [some (.ref 22), some (.int (nI 7)), some (.int (nI n)), none] [] (σ) P
  refine er_iload_n d_Mo_branch_0 rfl ?_
  refine er_bipush ((nI (7))) d_Mo_branch_1 (by decide) ?_
  refine er_icmp_eq 53 d_Mo_branch_3 (by decide) (fun _ => ?_) (fun z => absurd (by decide) z)
  refine er_iconst ((nI (1))) d_Mo_branch_53 (by decide) ?_
  refine er_goto 58 d_Mo_branch_54 (by decide) ?_
  refine er_istore_n d_Mo_branch_58 (by decide) ?_
  show jl_E l G m_Mo_branch (0, 0) 59 [some (.ref 22), some (.int (nI 7)), some (.int (nI n)), some (.int (nI 1))] [] (σ) P
  refine er_aload_n d_Mo_branch_59 rfl ?_
  refine er_aload_n d_Mo_branch_60 rfl ?_
  refine er_iload_n d_Mo_branch_61 rfl ?_
  refine er_iload_n d_Mo_branch_62 rfl ?_
  refine er_callV (As := [.int (nI 7), .int (nI n)]) d_Mo_branch_63 k_Mo_branch_176 hO rfl rfl rfl (Nat.le_of_ble_eq_true rfl) (by decide) (by decide) (mo_tk_7 hl hO hw hu) ?_
  show jl_E l G m_Mo_branch (0, 0) 66 [some (.ref 22), some (.int (nI 7)), some (.int (nI n)), some (.int (nI 1))] [.int (nI 0), .ref 22] (σ) P
  refine er_callV (As := [.int (nI 0)]) d_Mo_branch_66 k_Mo_branch_242 hO rfl rfl rfl (Nat.le_of_ble_eq_true rfl) (by decide) (by decide) (mo_dropE (h := b) (n := 0) (c := b) hl hO f3 ht hfh (by omega) (by omega)) ?_
  show jl_E l G m_Mo_branch (0, 0) 69 [some (.ref 22), some (.int (nI 7)), some (.int (nI n)), some (.int (nI 1))] [] (σ.set (45) (.inl (0, 13, .inl (fun j => nI ((va_up fh t (b)) j))))) P
  refine er_iload_n d_Mo_branch_69 rfl ?_
  refine er_if_eq 88 d_Mo_branch_70 (by decide) (fun z => absurd z (by decide)) (fun _ => ?_)
  refine er_aload_n d_Mo_branch_73 rfl ?_
  refine er_getf d_Mo_branch_74 f_Mo_branch_81 (jl_sn (by decide) hO) rfl ?_
  refine er_aload_n d_Mo_branch_77 rfl ?_
  refine er_getf d_Mo_branch_78 f_Mo_branch_224 (jl_sn (by decide) hO) rfl ?_
  refine er_iconst ((nI (1))) d_Mo_branch_81 (by decide) ?_
  refine er_isubN d_Mo_branch_82 (by omega) ?_
  rw [show (t + 1) - (1) = t by omega]
  show jl_E l G m_Mo_branch (0, 0) 83 [some (.ref 22), some (.int (nI 7)), some (.int (nI n)), some (.int (nI 1))] [.int (nI t), .ref 44] (σ.set (45) (.inl (0, 13, .inl (fun j => nI ((va_up fh t (b)) j))))) P
  refine er_iload_n d_Mo_branch_83 rfl ?_
  refine er_iastN d_Mo_branch_84 (jl_sn (by decide) f2) (by omega) (by omega) ?_
  rw [show upd (fun j => nI (fp j)) (t) ((nI (n))) = (fun j => nI ((va_up fp (t) (n)) j)) from nI_up fp (t) (n)]
  show jl_E l G m_Mo_branch (0, 0) 85 [some (.ref 22), some (.int (nI 7)), some (.int (nI n)), some (.int (nI 1))] [] ((σ.set (45) (.inl (0, 13, .inl (fun j => nI ((va_up fh t (b)) j))))).set (44) (.inl (0, 13, .inl (fun j => nI ((va_up fp (t) (n)) j))))) P
  refine er_goto 92 d_Mo_branch_85 (by decide) ?_
  exact er_vret d_Mo_branch_92 rfl (hT _ ⟨_, _, _, _, _, _, _, _, _, _, _, _, (jl_sn (by decide) (jl_sn (by decide) hO)), (jl_sn (by decide) (jl_sn (by decide) f1)), (jl_ss (jl_sn (by decide) f2)), (jl_sn (by decide) (jl_ss f3)), (jl_sn (by decide) (jl_sn (by decide) f4)), (jl_sn (by decide) (jl_sn (by decide) f5)), (jl_sn (by decide) (jl_sn (by decide) f6)), (jl_sn (by decide) (jl_sn (by decide) f7)), ⟨(jl_sn (by decide) (jl_sn (by decide) k1)), (jl_sn (by decide) (jl_sn (by decide) k2)), (jl_sn (by decide) (jl_sn (by decide) k3))⟩, hB, (((((hy1).hg).pc).six (y := some b)).le (by omega)), ⟨⟨(jl_sn (by decide) (jl_sn (by decide) r1)), (jl_sn (by decide) (jl_sn (by decide) r2))⟩, hlo, hsk⟩, ((hF.set (by omega)).set (by omega))⟩) (by decide) (by decide)
theorem d_Mo_branch_6 : decode m_Mo_branch.2.1 6 = .ok (.iload_n 1, 1) := by decide +kernel
theorem d_Mo_branch_7 : decode m_Mo_branch.2.1 7 = .ok (.bipush 8, 2) := by decide +kernel
theorem d_Mo_branch_9 : decode m_Mo_branch.2.1 9 = .ok (.if_icmp .ne 11, 3) := by decide +kernel
theorem d_Mo_branch_12 : decode m_Mo_branch.2.1 12 = .ok (.aload_n 0, 1) := by decide +kernel
theorem d_Mo_branch_13 : decode m_Mo_branch.2.1 13 = .ok (.iconst 1, 1) := by decide +kernel
theorem k_Mo_branch_245 : jl_cv m_Mo_branch m_Mo_top 245 1 = true := by decide +kernel
theorem d_Mo_branch_14 : decode m_Mo_branch.2.1 14 = .ok (.invokevirtual 245, 3) := by decide +kernel
theorem d_Mo_branch_17 : decode m_Mo_branch.2.1 17 = .ok (.ifCond .eq 36, 3) := by decide +kernel
theorem mo_br_8t (hl : l.stackTraces = false) {P : jl_O → jl_S → Prop}  (hn : NB σ0 σ (b + 1) t m (p) (b + 1) (R) (V) (fs) (H) fa vf wh wy hg ov oh dn an) (hw : MoW σ tb pr ow ft hs) (hu : MoM σ u1 u2 ur ul uo ua uc us ut uk) (ht : t < 12) (hb : b + 1 ≤ 5) (hn24 : n < 24) (hc : V (7 + b) = 0) (hT : ∀ σ', NB σ0 σ' (b) t m (n) (b) (va_up R 6 (some b)) (V) (fs) (H) fa vf wh wy hg ov oh dn an → P (.inl none) σ') : jl_mE l G m_Mo_branch [.ref 22, .int (nI 8), .int (nI n)] σ P := by
  obtain ⟨fx, fp, fh, lw, lk, vl, vk, ks, kc, kv, lo, sk, hO, f1, f2, f3, f4, f5, f6, f7, hH, hB, hy1, hR1, hF⟩ := id hn
  obtain ⟨k1, k2, k3⟩ := id hH
  obtain ⟨⟨r1, r2⟩, hlo, hsk⟩ := id hR1
  obtain ⟨⟨hfx, hfp, hlc, hst⟩, hfh, hfs, hln⟩ := id hy1
  have hfx : fx t = m := hfx
  have hfp : fp t = p := hfp
  have hlc : ∀ k, k < 6 → lk (6 * t + k) = kdI (R k) ∧ (R k ≠ none → lw (6 * t + k) = V k) := hlc
  have hst : ∀ j, j < _ → vk (5 * t + j) = kdI (R (7 + j)) ∧ vl (5 * t + j) = V (7 + j) := hst
  obtain ⟨h23, h24, h25, h26, h27⟩ := id hw
  obtain ⟨h28, h29, h30, h31, h32, h33, h34, h35, h36, h37⟩ := id hu
  have hS0 : vl (5 * t + (b)) = V (7 + b) := by rw [show 7 + b = 7 + (b) by omega]; exact (hst _ (by omega)).2
  have hK0 : vk (5 * t + (b)) = kdI (R (7 + b)) := by rw [show 7 + b = 7 + (b) by omega]; exact (hst _ (by omega)).1
  refine jl_ofE (as := [.ref 22, .int (nI 8), .int (nI n)]) rfl (by decide) hl (jl_cc rfl (jl_cc rfl (jl_cc rfl jl_ca))) (Nat.le_of_ble_eq_true rfl) ?_
  show jl_E l G m_Mo_branch (0, 0) 0 [some (.ref 22), some (.int (nI 8)), some (.int (nI n)), none] [] (σ) P
  refine er_iload_n d_Mo_branch_0 rfl ?_
  refine er_bipush ((nI (7))) d_Mo_branch_1 (by decide) ?_
  refine er_icmp_eq 53 d_Mo_branch_3 (by decide) (fun z => absurd z (by decide)) (fun _ => ?_)
  refine er_iload_n d_Mo_branch_6 rfl ?_
  refine er_bipush ((nI (8))) d_Mo_branch_7 (by decide) ?_
  refine er_icmp_ne 20 d_Mo_branch_9 (by decide) (fun z => absurd rfl z) (fun _ => ?_)
  refine er_aload_n d_Mo_branch_12 rfl ?_
  refine er_iconst ((nI (1))) d_Mo_branch_13 (by decide) ?_
  refine er_callV (As := [.int (nI 1)]) d_Mo_branch_14 k_Mo_branch_245 hO rfl rfl rfl (Nat.le_of_ble_eq_true rfl) (by decide) (by decide) (mo_topE (h := b + 1) (n := 1) (v := (V (7 + b))) hl hO f3 f6 ht hfh (by omega) (by omega) (by omega) (by rw [show 5 * t + (b + 1) - 1 = 5 * t + (b) by omega]; exact hS0)) ?_
  show jl_E l G m_Mo_branch (0, 0) 17 [some (.ref 22), some (.int (nI 8)), some (.int (nI n)), none] [.int (V (7 + b))] (σ) P
  refine er_if_eq 53 d_Mo_branch_17 (by decide) (fun _ => ?_) (fun z => absurd (hc) z)
  refine er_iconst ((nI (1))) d_Mo_branch_53 (by decide) ?_
  refine er_goto 58 d_Mo_branch_54 (by decide) ?_
  refine er_istore_n d_Mo_branch_58 (by decide) ?_
  show jl_E l G m_Mo_branch (0, 0) 59 [some (.ref 22), some (.int (nI 8)), some (.int (nI n)), some (.int (nI 1))] [] (σ) P
  refine er_aload_n d_Mo_branch_59 rfl ?_
  refine er_aload_n d_Mo_branch_60 rfl ?_
  refine er_iload_n d_Mo_branch_61 rfl ?_
  refine er_iload_n d_Mo_branch_62 rfl ?_
  refine er_callV (As := [.int (nI 8), .int (nI n)]) d_Mo_branch_63 k_Mo_branch_176 hO rfl rfl rfl (Nat.le_of_ble_eq_true rfl) (by decide) (by decide) (mo_tk_8 hl hO hw hu) ?_
  show jl_E l G m_Mo_branch (0, 0) 66 [some (.ref 22), some (.int (nI 8)), some (.int (nI n)), some (.int (nI 1))] [.int (nI 1), .ref 22] (σ) P
  refine er_callV (As := [.int (nI 1)]) d_Mo_branch_66 k_Mo_branch_242 hO rfl rfl rfl (Nat.le_of_ble_eq_true rfl) (by decide) (by decide) (mo_dropE (h := b + 1) (n := 1) (c := b) hl hO f3 ht hfh (by omega) (by omega)) ?_
  show jl_E l G m_Mo_branch (0, 0) 69 [some (.ref 22), some (.int (nI 8)), some (.int (nI n)), some (.int (nI 1))] [] (σ.set (45) (.inl (0, 13, .inl (fun j => nI ((va_up fh t (b)) j))))) P
  refine er_iload_n d_Mo_branch_69 rfl ?_
  refine er_if_eq 88 d_Mo_branch_70 (by decide) (fun z => absurd z (by decide)) (fun _ => ?_)
  refine er_aload_n d_Mo_branch_73 rfl ?_
  refine er_getf d_Mo_branch_74 f_Mo_branch_81 (jl_sn (by decide) hO) rfl ?_
  refine er_aload_n d_Mo_branch_77 rfl ?_
  refine er_getf d_Mo_branch_78 f_Mo_branch_224 (jl_sn (by decide) hO) rfl ?_
  refine er_iconst ((nI (1))) d_Mo_branch_81 (by decide) ?_
  refine er_isubN d_Mo_branch_82 (by omega) ?_
  rw [show (t + 1) - (1) = t by omega]
  show jl_E l G m_Mo_branch (0, 0) 83 [some (.ref 22), some (.int (nI 8)), some (.int (nI n)), some (.int (nI 1))] [.int (nI t), .ref 44] (σ.set (45) (.inl (0, 13, .inl (fun j => nI ((va_up fh t (b)) j))))) P
  refine er_iload_n d_Mo_branch_83 rfl ?_
  refine er_iastN d_Mo_branch_84 (jl_sn (by decide) f2) (by omega) (by omega) ?_
  rw [show upd (fun j => nI (fp j)) (t) ((nI (n))) = (fun j => nI ((va_up fp (t) (n)) j)) from nI_up fp (t) (n)]
  show jl_E l G m_Mo_branch (0, 0) 85 [some (.ref 22), some (.int (nI 8)), some (.int (nI n)), some (.int (nI 1))] [] ((σ.set (45) (.inl (0, 13, .inl (fun j => nI ((va_up fh t (b)) j))))).set (44) (.inl (0, 13, .inl (fun j => nI ((va_up fp (t) (n)) j))))) P
  refine er_goto 92 d_Mo_branch_85 (by decide) ?_
  exact er_vret d_Mo_branch_92 rfl (hT _ ⟨_, _, _, _, _, _, _, _, _, _, _, _, (jl_sn (by decide) (jl_sn (by decide) hO)), (jl_sn (by decide) (jl_sn (by decide) f1)), (jl_ss (jl_sn (by decide) f2)), (jl_sn (by decide) (jl_ss f3)), (jl_sn (by decide) (jl_sn (by decide) f4)), (jl_sn (by decide) (jl_sn (by decide) f5)), (jl_sn (by decide) (jl_sn (by decide) f6)), (jl_sn (by decide) (jl_sn (by decide) f7)), ⟨(jl_sn (by decide) (jl_sn (by decide) k1)), (jl_sn (by decide) (jl_sn (by decide) k2)), (jl_sn (by decide) (jl_sn (by decide) k3))⟩, hB, (((((hy1).hg).pc).six (y := some b)).le (by omega)), ⟨⟨(jl_sn (by decide) (jl_sn (by decide) r1)), (jl_sn (by decide) (jl_sn (by decide) r2))⟩, hlo, hsk⟩, ((hF.set (by omega)).set (by omega))⟩) (by decide) (by decide)
theorem d_Mo_branch_20 : decode m_Mo_branch.2.1 20 = .ok (.iload_n 1, 1) := by decide +kernel
theorem d_Mo_branch_21 : decode m_Mo_branch.2.1 21 = .ok (.bipush 9, 2) := by decide +kernel
theorem d_Mo_branch_23 : decode m_Mo_branch.2.1 23 = .ok (.if_icmp .ne 16, 3) := by decide +kernel
theorem d_Mo_branch_39 : decode m_Mo_branch.2.1 39 = .ok (.iload_n 1, 1) := by decide +kernel
theorem d_Mo_branch_40 : decode m_Mo_branch.2.1 40 = .ok (.bipush 16, 2) := by decide +kernel
theorem d_Mo_branch_42 : decode m_Mo_branch.2.1 42 = .ok (.if_icmp .ne 15, 3) := by decide +kernel
theorem d_Mo_branch_57 : decode m_Mo_branch.2.1 57 = .ok (.iconst 0, 1) := by decide +kernel
theorem d_Mo_branch_88 : decode m_Mo_branch.2.1 88 = .ok (.aload_n 0, 1) := by decide +kernel
theorem k_Mo_branch_261 : jl_cv m_Mo_branch m_Mo_next 261 0 = true := by decide +kernel
theorem d_Mo_branch_89 : decode m_Mo_branch.2.1 89 = .ok (.invokevirtual 261, 3) := by decide +kernel
theorem mo_br_8f (hl : l.stackTraces = false) {P : jl_O → jl_S → Prop}  (hn : NB σ0 σ (b + 1) t m (p) (b + 1) (R) (V) (fs) (H) fa vf wh wy hg ov oh dn an) (hw : MoW σ tb pr ow ft hs) (hu : MoM σ u1 u2 ur ul uo ua uc us ut uk) (ht : t < 12) (hb : b + 1 ≤ 5) (hn24 : n < 24) (hc : ¬ V (7 + b) = 0) (hT : ∀ σ', NB σ0 σ' (b) t m (p + 1) (b) (va_up R 6 (some b)) (V) (fs) (H) fa vf wh wy hg ov oh dn an → P (.inl none) σ') : jl_mE l G m_Mo_branch [.ref 22, .int (nI 8), .int (nI n)] σ P := by
  obtain ⟨fx, fp, fh, lw, lk, vl, vk, ks, kc, kv, lo, sk, hO, f1, f2, f3, f4, f5, f6, f7, hH, hB, hy1, hR1, hF⟩ := id hn
  obtain ⟨k1, k2, k3⟩ := id hH
  obtain ⟨⟨r1, r2⟩, hlo, hsk⟩ := id hR1
  obtain ⟨⟨hfx, hfp, hlc, hst⟩, hfh, hfs, hln⟩ := id hy1
  have hfx : fx t = m := hfx
  have hfp : fp t = p := hfp
  have hlc : ∀ k, k < 6 → lk (6 * t + k) = kdI (R k) ∧ (R k ≠ none → lw (6 * t + k) = V k) := hlc
  have hst : ∀ j, j < _ → vk (5 * t + j) = kdI (R (7 + j)) ∧ vl (5 * t + j) = V (7 + j) := hst
  obtain ⟨h23, h24, h25, h26, h27⟩ := id hw
  obtain ⟨h28, h29, h30, h31, h32, h33, h34, h35, h36, h37⟩ := id hu
  have hS0 : vl (5 * t + (b)) = V (7 + b) := by rw [show 7 + b = 7 + (b) by omega]; exact (hst _ (by omega)).2
  have hK0 : vk (5 * t + (b)) = kdI (R (7 + b)) := by rw [show 7 + b = 7 + (b) by omega]; exact (hst _ (by omega)).1
  refine jl_ofE (as := [.ref 22, .int (nI 8), .int (nI n)]) rfl (by decide) hl (jl_cc rfl (jl_cc rfl (jl_cc rfl jl_ca))) (Nat.le_of_ble_eq_true rfl) ?_
  show jl_E l G m_Mo_branch (0, 0) 0 [some (.ref 22), some (.int (nI 8)), some (.int (nI n)), none] [] (σ) P
  refine er_iload_n d_Mo_branch_0 rfl ?_
  refine er_bipush ((nI (7))) d_Mo_branch_1 (by decide) ?_
  refine er_icmp_eq 53 d_Mo_branch_3 (by decide) (fun z => absurd z (by decide)) (fun _ => ?_)
  refine er_iload_n d_Mo_branch_6 rfl ?_
  refine er_bipush ((nI (8))) d_Mo_branch_7 (by decide) ?_
  refine er_icmp_ne 20 d_Mo_branch_9 (by decide) (fun z => absurd rfl z) (fun _ => ?_)
  refine er_aload_n d_Mo_branch_12 rfl ?_
  refine er_iconst ((nI (1))) d_Mo_branch_13 (by decide) ?_
  refine er_callV (As := [.int (nI 1)]) d_Mo_branch_14 k_Mo_branch_245 hO rfl rfl rfl (Nat.le_of_ble_eq_true rfl) (by decide) (by decide) (mo_topE (h := b + 1) (n := 1) (v := (V (7 + b))) hl hO f3 f6 ht hfh (by omega) (by omega) (by omega) (by rw [show 5 * t + (b + 1) - 1 = 5 * t + (b) by omega]; exact hS0)) ?_
  show jl_E l G m_Mo_branch (0, 0) 17 [some (.ref 22), some (.int (nI 8)), some (.int (nI n)), none] [.int (V (7 + b))] (σ) P
  refine er_if_eq 53 d_Mo_branch_17 (by decide) (fun z => absurd z (hc)) (fun _ => ?_)
  refine er_iload_n d_Mo_branch_20 rfl ?_
  refine er_bipush ((nI (9))) d_Mo_branch_21 (by decide) ?_
  refine er_icmp_ne 39 d_Mo_branch_23 (by decide) (fun _ => ?_) (fun z => absurd z (by decide))
  refine er_iload_n d_Mo_branch_39 rfl ?_
  refine er_bipush ((nI (16))) d_Mo_branch_40 (by decide) ?_
  refine er_icmp_ne 57 d_Mo_branch_42 (by decide) (fun _ => ?_) (fun z => absurd z (by decide))
  refine er_iconst ((nI (0))) d_Mo_branch_57 (by decide) ?_
  refine er_istore_n d_Mo_branch_58 (by decide) ?_
  show jl_E l G m_Mo_branch (0, 0) 59 [some (.ref 22), some (.int (nI 8)), some (.int (nI n)), some (.int (nI 0))] [] (σ) P
  refine er_aload_n d_Mo_branch_59 rfl ?_
  refine er_aload_n d_Mo_branch_60 rfl ?_
  refine er_iload_n d_Mo_branch_61 rfl ?_
  refine er_iload_n d_Mo_branch_62 rfl ?_
  refine er_callV (As := [.int (nI 8), .int (nI n)]) d_Mo_branch_63 k_Mo_branch_176 hO rfl rfl rfl (Nat.le_of_ble_eq_true rfl) (by decide) (by decide) (mo_tk_8 hl hO hw hu) ?_
  show jl_E l G m_Mo_branch (0, 0) 66 [some (.ref 22), some (.int (nI 8)), some (.int (nI n)), some (.int (nI 0))] [.int (nI 1), .ref 22] (σ) P
  refine er_callV (As := [.int (nI 1)]) d_Mo_branch_66 k_Mo_branch_242 hO rfl rfl rfl (Nat.le_of_ble_eq_true rfl) (by decide) (by decide) (mo_dropE (h := b + 1) (n := 1) (c := b) hl hO f3 ht hfh (by omega) (by omega)) ?_
  show jl_E l G m_Mo_branch (0, 0) 69 [some (.ref 22), some (.int (nI 8)), some (.int (nI n)), some (.int (nI 0))] [] (σ.set (45) (.inl (0, 13, .inl (fun j => nI ((va_up fh t (b)) j))))) P
  refine er_iload_n d_Mo_branch_69 rfl ?_
  refine er_if_eq 88 d_Mo_branch_70 (by decide) (fun _ => ?_) (fun z => absurd (by decide) z)
  refine er_aload_n d_Mo_branch_88 rfl ?_
  refine er_callV (As := []) d_Mo_branch_89 k_Mo_branch_261 (jl_sn (by decide) hO) rfl rfl rfl (Nat.le_of_ble_eq_true rfl) (by decide) (by decide) (mo_mnext hl (jl_sn (by decide) hO) (jl_sn (by decide) f2) ht hfp) ?_
  show jl_E l G m_Mo_branch (0, 0) 92 [some (.ref 22), some (.int (nI 8)), some (.int (nI n)), some (.int (nI 0))] [] ((σ.set (45) (.inl (0, 13, .inl (fun j => nI ((va_up fh t (b)) j))))).set (44) (.inl (0, 13, .inl (fun j => nI ((va_up fp t (p + 1)) j))))) P
  exact er_vret d_Mo_branch_92 rfl (hT _ ⟨_, _, _, _, _, _, _, _, _, _, _, _, (jl_sn (by decide) (jl_sn (by decide) hO)), (jl_sn (by decide) (jl_sn (by decide) f1)), (jl_ss (jl_sn (by decide) f2)), (jl_sn (by decide) (jl_ss f3)), (jl_sn (by decide) (jl_sn (by decide) f4)), (jl_sn (by decide) (jl_sn (by decide) f5)), (jl_sn (by decide) (jl_sn (by decide) f6)), (jl_sn (by decide) (jl_sn (by decide) f7)), ⟨(jl_sn (by decide) (jl_sn (by decide) k1)), (jl_sn (by decide) (jl_sn (by decide) k2)), (jl_sn (by decide) (jl_sn (by decide) k3))⟩, hB, (((((hy1).hg).pc).six (y := some b)).le (by omega)), ⟨⟨(jl_sn (by decide) (jl_sn (by decide) r1)), (jl_sn (by decide) (jl_sn (by decide) r2))⟩, hlo, hsk⟩, ((hF.set (by omega)).set (by omega))⟩) (by decide) (by decide)
theorem d_Mo_branch_26 : decode m_Mo_branch.2.1 26 = .ok (.aload_n 0, 1) := by decide +kernel
theorem d_Mo_branch_27 : decode m_Mo_branch.2.1 27 = .ok (.iconst 2, 1) := by decide +kernel
theorem d_Mo_branch_28 : decode m_Mo_branch.2.1 28 = .ok (.invokevirtual 245, 3) := by decide +kernel
theorem d_Mo_branch_31 : decode m_Mo_branch.2.1 31 = .ok (.aload_n 0, 1) := by decide +kernel
theorem d_Mo_branch_32 : decode m_Mo_branch.2.1 32 = .ok (.iconst 1, 1) := by decide +kernel
theorem d_Mo_branch_33 : decode m_Mo_branch.2.1 33 = .ok (.invokevirtual 245, 3) := by decide +kernel
theorem d_Mo_branch_36 : decode m_Mo_branch.2.1 36 = .ok (.if_icmp .lt 17, 3) := by decide +kernel
theorem mo_br_9t (hl : l.stackTraces = false) {P : jl_O → jl_S → Prop}  (hn : NB σ0 σ (b + 2) t m (p) (b + 2) (R) (V) (fs) (H) fa vf wh wy hg ov oh dn an) (hw : MoW σ tb pr ow ft hs) (hu : MoM σ u1 u2 ur ul uo ua uc us ut uk) (ht : t < 12) (hb : b + 2 ≤ 5) (hn24 : n < 24) (hc : V (7 + b) < V (8 + b)) (hT : ∀ σ', NB σ0 σ' (b) t m (n) (b) (va_up R 6 (some b)) (V) (fs) (H) fa vf wh wy hg ov oh dn an → P (.inl none) σ') : jl_mE l G m_Mo_branch [.ref 22, .int (nI 9), .int (nI n)] σ P := by
  obtain ⟨fx, fp, fh, lw, lk, vl, vk, ks, kc, kv, lo, sk, hO, f1, f2, f3, f4, f5, f6, f7, hH, hB, hy1, hR1, hF⟩ := id hn
  obtain ⟨k1, k2, k3⟩ := id hH
  obtain ⟨⟨r1, r2⟩, hlo, hsk⟩ := id hR1
  obtain ⟨⟨hfx, hfp, hlc, hst⟩, hfh, hfs, hln⟩ := id hy1
  have hfx : fx t = m := hfx
  have hfp : fp t = p := hfp
  have hlc : ∀ k, k < 6 → lk (6 * t + k) = kdI (R k) ∧ (R k ≠ none → lw (6 * t + k) = V k) := hlc
  have hst : ∀ j, j < _ → vk (5 * t + j) = kdI (R (7 + j)) ∧ vl (5 * t + j) = V (7 + j) := hst
  obtain ⟨h23, h24, h25, h26, h27⟩ := id hw
  obtain ⟨h28, h29, h30, h31, h32, h33, h34, h35, h36, h37⟩ := id hu
  have hS0 : vl (5 * t + (b)) = V (7 + b) := by rw [show 7 + b = 7 + (b) by omega]; exact (hst _ (by omega)).2
  have hK0 : vk (5 * t + (b)) = kdI (R (7 + b)) := by rw [show 7 + b = 7 + (b) by omega]; exact (hst _ (by omega)).1
  have hS1 : vl (5 * t + (b + 1)) = V (8 + b) := by rw [show 8 + b = 7 + (b + 1) by omega]; exact (hst _ (by omega)).2
  have hK1 : vk (5 * t + (b + 1)) = kdI (R (8 + b)) := by rw [show 8 + b = 7 + (b + 1) by omega]; exact (hst _ (by omega)).1
  refine jl_ofE (as := [.ref 22, .int (nI 9), .int (nI n)]) rfl (by decide) hl (jl_cc rfl (jl_cc rfl (jl_cc rfl jl_ca))) (Nat.le_of_ble_eq_true rfl) ?_
  show jl_E l G m_Mo_branch (0, 0) 0 [some (.ref 22), some (.int (nI 9)), some (.int (nI n)), none] [] (σ) P
  refine er_iload_n d_Mo_branch_0 rfl ?_
  refine er_bipush ((nI (7))) d_Mo_branch_1 (by decide) ?_
  refine er_icmp_eq 53 d_Mo_branch_3 (by decide) (fun z => absurd z (by decide)) (fun _ => ?_)
  refine er_iload_n d_Mo_branch_6 rfl ?_
  refine er_bipush ((nI (8))) d_Mo_branch_7 (by decide) ?_
  refine er_icmp_ne 20 d_Mo_branch_9 (by decide) (fun _ => ?_) (fun z => absurd z (by decide))
  refine er_iload_n d_Mo_branch_20 rfl ?_
  refine er_bipush ((nI (9))) d_Mo_branch_21 (by decide) ?_
  refine er_icmp_ne 39 d_Mo_branch_23 (by decide) (fun z => absurd rfl z) (fun _ => ?_)
  refine er_aload_n d_Mo_branch_26 rfl ?_
  refine er_iconst ((nI (2))) d_Mo_branch_27 (by decide) ?_
  refine er_callV (As := [.int (nI 2)]) d_Mo_branch_28 k_Mo_branch_245 hO rfl rfl rfl (Nat.le_of_ble_eq_true rfl) (by decide) (by decide) (mo_topE (h := b + 2) (n := 2) (v := (V (7 + b))) hl hO f3 f6 ht hfh (by omega) (by omega) (by omega) (by rw [show 5 * t + (b + 2) - 2 = 5 * t + (b) by omega]; exact hS0)) ?_
  show jl_E l G m_Mo_branch (0, 0) 31 [some (.ref 22), some (.int (nI 9)), some (.int (nI n)), none] [.int (V (7 + b))] (σ) P
  refine er_aload_n d_Mo_branch_31 rfl ?_
  refine er_iconst ((nI (1))) d_Mo_branch_32 (by decide) ?_
  refine er_callV (As := [.int (nI 1)]) d_Mo_branch_33 k_Mo_branch_245 hO rfl rfl rfl (Nat.le_of_ble_eq_true rfl) (by decide) (by decide) (mo_topE (h := b + 2) (n := 1) (v := (V (8 + b))) hl hO f3 f6 ht hfh (by omega) (by omega) (by omega) (by rw [show 5 * t + (b + 2) - 1 = 5 * t + (b + 1) by omega]; exact hS1)) ?_
  show jl_E l G m_Mo_branch (0, 0) 36 [some (.ref 22), some (.int (nI 9)), some (.int (nI n)), none] [.int (V (8 + b)), .int (V (7 + b))] (σ) P
  refine er_icmp_lt 53 d_Mo_branch_36 (by decide) (fun _ => ?_) (fun z => absurd (hc) z)
  refine er_iconst ((nI (1))) d_Mo_branch_53 (by decide) ?_
  refine er_goto 58 d_Mo_branch_54 (by decide) ?_
  refine er_istore_n d_Mo_branch_58 (by decide) ?_
  show jl_E l G m_Mo_branch (0, 0) 59 [some (.ref 22), some (.int (nI 9)), some (.int (nI n)), some (.int (nI 1))] [] (σ) P
  refine er_aload_n d_Mo_branch_59 rfl ?_
  refine er_aload_n d_Mo_branch_60 rfl ?_
  refine er_iload_n d_Mo_branch_61 rfl ?_
  refine er_iload_n d_Mo_branch_62 rfl ?_
  refine er_callV (As := [.int (nI 9), .int (nI n)]) d_Mo_branch_63 k_Mo_branch_176 hO rfl rfl rfl (Nat.le_of_ble_eq_true rfl) (by decide) (by decide) (mo_tk_9 hl hO hw hu) ?_
  show jl_E l G m_Mo_branch (0, 0) 66 [some (.ref 22), some (.int (nI 9)), some (.int (nI n)), some (.int (nI 1))] [.int (nI 2), .ref 22] (σ) P
  refine er_callV (As := [.int (nI 2)]) d_Mo_branch_66 k_Mo_branch_242 hO rfl rfl rfl (Nat.le_of_ble_eq_true rfl) (by decide) (by decide) (mo_dropE (h := b + 2) (n := 2) (c := b) hl hO f3 ht hfh (by omega) (by omega)) ?_
  show jl_E l G m_Mo_branch (0, 0) 69 [some (.ref 22), some (.int (nI 9)), some (.int (nI n)), some (.int (nI 1))] [] (σ.set (45) (.inl (0, 13, .inl (fun j => nI ((va_up fh t (b)) j))))) P
  refine er_iload_n d_Mo_branch_69 rfl ?_
  refine er_if_eq 88 d_Mo_branch_70 (by decide) (fun z => absurd z (by decide)) (fun _ => ?_)
  refine er_aload_n d_Mo_branch_73 rfl ?_
  refine er_getf d_Mo_branch_74 f_Mo_branch_81 (jl_sn (by decide) hO) rfl ?_
  refine er_aload_n d_Mo_branch_77 rfl ?_
  refine er_getf d_Mo_branch_78 f_Mo_branch_224 (jl_sn (by decide) hO) rfl ?_
  refine er_iconst ((nI (1))) d_Mo_branch_81 (by decide) ?_
  refine er_isubN d_Mo_branch_82 (by omega) ?_
  rw [show (t + 1) - (1) = t by omega]
  show jl_E l G m_Mo_branch (0, 0) 83 [some (.ref 22), some (.int (nI 9)), some (.int (nI n)), some (.int (nI 1))] [.int (nI t), .ref 44] (σ.set (45) (.inl (0, 13, .inl (fun j => nI ((va_up fh t (b)) j))))) P
  refine er_iload_n d_Mo_branch_83 rfl ?_
  refine er_iastN d_Mo_branch_84 (jl_sn (by decide) f2) (by omega) (by omega) ?_
  rw [show upd (fun j => nI (fp j)) (t) ((nI (n))) = (fun j => nI ((va_up fp (t) (n)) j)) from nI_up fp (t) (n)]
  show jl_E l G m_Mo_branch (0, 0) 85 [some (.ref 22), some (.int (nI 9)), some (.int (nI n)), some (.int (nI 1))] [] ((σ.set (45) (.inl (0, 13, .inl (fun j => nI ((va_up fh t (b)) j))))).set (44) (.inl (0, 13, .inl (fun j => nI ((va_up fp (t) (n)) j))))) P
  refine er_goto 92 d_Mo_branch_85 (by decide) ?_
  exact er_vret d_Mo_branch_92 rfl (hT _ ⟨_, _, _, _, _, _, _, _, _, _, _, _, (jl_sn (by decide) (jl_sn (by decide) hO)), (jl_sn (by decide) (jl_sn (by decide) f1)), (jl_ss (jl_sn (by decide) f2)), (jl_sn (by decide) (jl_ss f3)), (jl_sn (by decide) (jl_sn (by decide) f4)), (jl_sn (by decide) (jl_sn (by decide) f5)), (jl_sn (by decide) (jl_sn (by decide) f6)), (jl_sn (by decide) (jl_sn (by decide) f7)), ⟨(jl_sn (by decide) (jl_sn (by decide) k1)), (jl_sn (by decide) (jl_sn (by decide) k2)), (jl_sn (by decide) (jl_sn (by decide) k3))⟩, hB, (((((hy1).hg).pc).six (y := some b)).le (by omega)), ⟨⟨(jl_sn (by decide) (jl_sn (by decide) r1)), (jl_sn (by decide) (jl_sn (by decide) r2))⟩, hlo, hsk⟩, ((hF.set (by omega)).set (by omega))⟩) (by decide) (by decide)
theorem mo_br_9f (hl : l.stackTraces = false) {P : jl_O → jl_S → Prop}  (hn : NB σ0 σ (b + 2) t m (p) (b + 2) (R) (V) (fs) (H) fa vf wh wy hg ov oh dn an) (hw : MoW σ tb pr ow ft hs) (hu : MoM σ u1 u2 ur ul uo ua uc us ut uk) (ht : t < 12) (hb : b + 2 ≤ 5) (hn24 : n < 24) (hc : ¬ V (7 + b) < V (8 + b)) (hT : ∀ σ', NB σ0 σ' (b) t m (p + 1) (b) (va_up R 6 (some b)) (V) (fs) (H) fa vf wh wy hg ov oh dn an → P (.inl none) σ') : jl_mE l G m_Mo_branch [.ref 22, .int (nI 9), .int (nI n)] σ P := by
  obtain ⟨fx, fp, fh, lw, lk, vl, vk, ks, kc, kv, lo, sk, hO, f1, f2, f3, f4, f5, f6, f7, hH, hB, hy1, hR1, hF⟩ := id hn
  obtain ⟨k1, k2, k3⟩ := id hH
  obtain ⟨⟨r1, r2⟩, hlo, hsk⟩ := id hR1
  obtain ⟨⟨hfx, hfp, hlc, hst⟩, hfh, hfs, hln⟩ := id hy1
  have hfx : fx t = m := hfx
  have hfp : fp t = p := hfp
  have hlc : ∀ k, k < 6 → lk (6 * t + k) = kdI (R k) ∧ (R k ≠ none → lw (6 * t + k) = V k) := hlc
  have hst : ∀ j, j < _ → vk (5 * t + j) = kdI (R (7 + j)) ∧ vl (5 * t + j) = V (7 + j) := hst
  obtain ⟨h23, h24, h25, h26, h27⟩ := id hw
  obtain ⟨h28, h29, h30, h31, h32, h33, h34, h35, h36, h37⟩ := id hu
  have hS0 : vl (5 * t + (b)) = V (7 + b) := by rw [show 7 + b = 7 + (b) by omega]; exact (hst _ (by omega)).2
  have hK0 : vk (5 * t + (b)) = kdI (R (7 + b)) := by rw [show 7 + b = 7 + (b) by omega]; exact (hst _ (by omega)).1
  have hS1 : vl (5 * t + (b + 1)) = V (8 + b) := by rw [show 8 + b = 7 + (b + 1) by omega]; exact (hst _ (by omega)).2
  have hK1 : vk (5 * t + (b + 1)) = kdI (R (8 + b)) := by rw [show 8 + b = 7 + (b + 1) by omega]; exact (hst _ (by omega)).1
  refine jl_ofE (as := [.ref 22, .int (nI 9), .int (nI n)]) rfl (by decide) hl (jl_cc rfl (jl_cc rfl (jl_cc rfl jl_ca))) (Nat.le_of_ble_eq_true rfl) ?_
  show jl_E l G m_Mo_branch (0, 0) 0 [some (.ref 22), some (.int (nI 9)), some (.int (nI n)), none] [] (σ) P
  refine er_iload_n d_Mo_branch_0 rfl ?_
  refine er_bipush ((nI (7))) d_Mo_branch_1 (by decide) ?_
  refine er_icmp_eq 53 d_Mo_branch_3 (by decide) (fun z => absurd z (by decide)) (fun _ => ?_)
  refine er_iload_n d_Mo_branch_6 rfl ?_
  refine er_bipush ((nI (8))) d_Mo_branch_7 (by decide) ?_
  refine er_icmp_ne 20 d_Mo_branch_9 (by decide) (fun _ => ?_) (fun z => absurd z (by decide))
  refine er_iload_n d_Mo_branch_20 rfl ?_
  refine er_bipush ((nI (9))) d_Mo_branch_21 (by decide) ?_
  refine er_icmp_ne 39 d_Mo_branch_23 (by decide) (fun z => absurd rfl z) (fun _ => ?_)
  refine er_aload_n d_Mo_branch_26 rfl ?_
  refine er_iconst ((nI (2))) d_Mo_branch_27 (by decide) ?_
  refine er_callV (As := [.int (nI 2)]) d_Mo_branch_28 k_Mo_branch_245 hO rfl rfl rfl (Nat.le_of_ble_eq_true rfl) (by decide) (by decide) (mo_topE (h := b + 2) (n := 2) (v := (V (7 + b))) hl hO f3 f6 ht hfh (by omega) (by omega) (by omega) (by rw [show 5 * t + (b + 2) - 2 = 5 * t + (b) by omega]; exact hS0)) ?_
  show jl_E l G m_Mo_branch (0, 0) 31 [some (.ref 22), some (.int (nI 9)), some (.int (nI n)), none] [.int (V (7 + b))] (σ) P
  refine er_aload_n d_Mo_branch_31 rfl ?_
  refine er_iconst ((nI (1))) d_Mo_branch_32 (by decide) ?_
  refine er_callV (As := [.int (nI 1)]) d_Mo_branch_33 k_Mo_branch_245 hO rfl rfl rfl (Nat.le_of_ble_eq_true rfl) (by decide) (by decide) (mo_topE (h := b + 2) (n := 1) (v := (V (8 + b))) hl hO f3 f6 ht hfh (by omega) (by omega) (by omega) (by rw [show 5 * t + (b + 2) - 1 = 5 * t + (b + 1) by omega]; exact hS1)) ?_
  show jl_E l G m_Mo_branch (0, 0) 36 [some (.ref 22), some (.int (nI 9)), some (.int (nI n)), none] [.int (V (8 + b)), .int (V (7 + b))] (σ) P
  refine er_icmp_lt 53 d_Mo_branch_36 (by decide) (fun z => absurd z (hc)) (fun _ => ?_)
  refine er_iload_n d_Mo_branch_39 rfl ?_
  refine er_bipush ((nI (16))) d_Mo_branch_40 (by decide) ?_
  refine er_icmp_ne 57 d_Mo_branch_42 (by decide) (fun _ => ?_) (fun z => absurd z (by decide))
  refine er_iconst ((nI (0))) d_Mo_branch_57 (by decide) ?_
  refine er_istore_n d_Mo_branch_58 (by decide) ?_
  show jl_E l G m_Mo_branch (0, 0) 59 [some (.ref 22), some (.int (nI 9)), some (.int (nI n)), some (.int (nI 0))] [] (σ) P
  refine er_aload_n d_Mo_branch_59 rfl ?_
  refine er_aload_n d_Mo_branch_60 rfl ?_
  refine er_iload_n d_Mo_branch_61 rfl ?_
  refine er_iload_n d_Mo_branch_62 rfl ?_
  refine er_callV (As := [.int (nI 9), .int (nI n)]) d_Mo_branch_63 k_Mo_branch_176 hO rfl rfl rfl (Nat.le_of_ble_eq_true rfl) (by decide) (by decide) (mo_tk_9 hl hO hw hu) ?_
  show jl_E l G m_Mo_branch (0, 0) 66 [some (.ref 22), some (.int (nI 9)), some (.int (nI n)), some (.int (nI 0))] [.int (nI 2), .ref 22] (σ) P
  refine er_callV (As := [.int (nI 2)]) d_Mo_branch_66 k_Mo_branch_242 hO rfl rfl rfl (Nat.le_of_ble_eq_true rfl) (by decide) (by decide) (mo_dropE (h := b + 2) (n := 2) (c := b) hl hO f3 ht hfh (by omega) (by omega)) ?_
  show jl_E l G m_Mo_branch (0, 0) 69 [some (.ref 22), some (.int (nI 9)), some (.int (nI n)), some (.int (nI 0))] [] (σ.set (45) (.inl (0, 13, .inl (fun j => nI ((va_up fh t (b)) j))))) P
  refine er_iload_n d_Mo_branch_69 rfl ?_
  refine er_if_eq 88 d_Mo_branch_70 (by decide) (fun _ => ?_) (fun z => absurd (by decide) z)
  refine er_aload_n d_Mo_branch_88 rfl ?_
  refine er_callV (As := []) d_Mo_branch_89 k_Mo_branch_261 (jl_sn (by decide) hO) rfl rfl rfl (Nat.le_of_ble_eq_true rfl) (by decide) (by decide) (mo_mnext hl (jl_sn (by decide) hO) (jl_sn (by decide) f2) ht hfp) ?_
  show jl_E l G m_Mo_branch (0, 0) 92 [some (.ref 22), some (.int (nI 9)), some (.int (nI n)), some (.int (nI 0))] [] ((σ.set (45) (.inl (0, 13, .inl (fun j => nI ((va_up fh t (b)) j))))).set (44) (.inl (0, 13, .inl (fun j => nI ((va_up fp t (p + 1)) j))))) P
  exact er_vret d_Mo_branch_92 rfl (hT _ ⟨_, _, _, _, _, _, _, _, _, _, _, _, (jl_sn (by decide) (jl_sn (by decide) hO)), (jl_sn (by decide) (jl_sn (by decide) f1)), (jl_ss (jl_sn (by decide) f2)), (jl_sn (by decide) (jl_ss f3)), (jl_sn (by decide) (jl_sn (by decide) f4)), (jl_sn (by decide) (jl_sn (by decide) f5)), (jl_sn (by decide) (jl_sn (by decide) f6)), (jl_sn (by decide) (jl_sn (by decide) f7)), ⟨(jl_sn (by decide) (jl_sn (by decide) k1)), (jl_sn (by decide) (jl_sn (by decide) k2)), (jl_sn (by decide) (jl_sn (by decide) k3))⟩, hB, (((((hy1).hg).pc).six (y := some b)).le (by omega)), ⟨⟨(jl_sn (by decide) (jl_sn (by decide) r1)), (jl_sn (by decide) (jl_sn (by decide) r2))⟩, hlo, hsk⟩, ((hF.set (by omega)).set (by omega))⟩) (by decide) (by decide)
theorem d_Mo_branch_45 : decode m_Mo_branch.2.1 45 = .ok (.aload_n 0, 1) := by decide +kernel
theorem d_Mo_branch_46 : decode m_Mo_branch.2.1 46 = .ok (.iconst 1, 1) := by decide +kernel
theorem d_Mo_branch_47 : decode m_Mo_branch.2.1 47 = .ok (.invokevirtual 245, 3) := by decide +kernel
theorem d_Mo_branch_50 : decode m_Mo_branch.2.1 50 = .ok (.ifCond .ge 7, 3) := by decide +kernel
theorem mo_br_16t (hl : l.stackTraces = false) {P : jl_O → jl_S → Prop}  (hn : NB σ0 σ (b + 1) t m (p) (b + 1) (R) (V) (fs) (H) fa vf wh wy hg ov oh dn an) (hw : MoW σ tb pr ow ft hs) (hu : MoM σ u1 u2 ur ul uo ua uc us ut uk) (ht : t < 12) (hb : b + 1 ≤ 5) (hn24 : n < 24) (hv : V (7 + b) = -1) (hT : ∀ σ', NB σ0 σ' (b) t m (n) (b) (va_up R 6 (some b)) (V) (fs) (H) fa vf wh wy hg ov oh dn an → P (.inl none) σ') : jl_mE l G m_Mo_branch [.ref 22, .int (nI 16), .int (nI n)] σ P := by
  obtain ⟨fx, fp, fh, lw, lk, vl, vk, ks, kc, kv, lo, sk, hO, f1, f2, f3, f4, f5, f6, f7, hH, hB, hy1, hR1, hF⟩ := id hn
  obtain ⟨k1, k2, k3⟩ := id hH
  obtain ⟨⟨r1, r2⟩, hlo, hsk⟩ := id hR1
  obtain ⟨⟨hfx, hfp, hlc, hst⟩, hfh, hfs, hln⟩ := id hy1
  have hfx : fx t = m := hfx
  have hfp : fp t = p := hfp
  have hlc : ∀ k, k < 6 → lk (6 * t + k) = kdI (R k) ∧ (R k ≠ none → lw (6 * t + k) = V k) := hlc
  have hst : ∀ j, j < _ → vk (5 * t + j) = kdI (R (7 + j)) ∧ vl (5 * t + j) = V (7 + j) := hst
  obtain ⟨h23, h24, h25, h26, h27⟩ := id hw
  obtain ⟨h28, h29, h30, h31, h32, h33, h34, h35, h36, h37⟩ := id hu
  have hS0 : vl (5 * t + (b)) = V (7 + b) := by rw [show 7 + b = 7 + (b) by omega]; exact (hst _ (by omega)).2
  have hK0 : vk (5 * t + (b)) = kdI (R (7 + b)) := by rw [show 7 + b = 7 + (b) by omega]; exact (hst _ (by omega)).1
  refine jl_ofE (as := [.ref 22, .int (nI 16), .int (nI n)]) rfl (by decide) hl (jl_cc rfl (jl_cc rfl (jl_cc rfl jl_ca))) (Nat.le_of_ble_eq_true rfl) ?_
  show jl_E l G m_Mo_branch (0, 0) 0 [some (.ref 22), some (.int (nI 16)), some (.int (nI n)), none] [] (σ) P
  refine er_iload_n d_Mo_branch_0 rfl ?_
  refine er_bipush ((nI (7))) d_Mo_branch_1 (by decide) ?_
  refine er_icmp_eq 53 d_Mo_branch_3 (by decide) (fun z => absurd z (by decide)) (fun _ => ?_)
  refine er_iload_n d_Mo_branch_6 rfl ?_
  refine er_bipush ((nI (8))) d_Mo_branch_7 (by decide) ?_
  refine er_icmp_ne 20 d_Mo_branch_9 (by decide) (fun _ => ?_) (fun z => absurd z (by decide))
  refine er_iload_n d_Mo_branch_20 rfl ?_
  refine er_bipush ((nI (9))) d_Mo_branch_21 (by decide) ?_
  refine er_icmp_ne 39 d_Mo_branch_23 (by decide) (fun _ => ?_) (fun z => absurd z (by decide))
  refine er_iload_n d_Mo_branch_39 rfl ?_
  refine er_bipush ((nI (16))) d_Mo_branch_40 (by decide) ?_
  refine er_icmp_ne 57 d_Mo_branch_42 (by decide) (fun z => absurd rfl z) (fun _ => ?_)
  refine er_aload_n d_Mo_branch_45 rfl ?_
  refine er_iconst ((nI (1))) d_Mo_branch_46 (by decide) ?_
  refine er_callV (As := [.int (nI 1)]) d_Mo_branch_47 k_Mo_branch_245 hO rfl rfl rfl (Nat.le_of_ble_eq_true rfl) (by decide) (by decide) (mo_topE (h := b + 1) (n := 1) (v := (-1)) hl hO f3 f6 ht hfh (by omega) (by omega) (by omega) (by rw [show 5 * t + (b + 1) - 1 = 5 * t + (b) by omega]; exact hS0.trans hv)) ?_
  show jl_E l G m_Mo_branch (0, 0) 50 [some (.ref 22), some (.int (nI 16)), some (.int (nI n)), none] [.int (-1)] (σ) P
  refine er_if_ge 57 d_Mo_branch_50 (by decide) (fun z => absurd z (by decide)) (fun _ => ?_)
  refine er_iconst ((nI (1))) d_Mo_branch_53 (by decide) ?_
  refine er_goto 58 d_Mo_branch_54 (by decide) ?_
  refine er_istore_n d_Mo_branch_58 (by decide) ?_
  show jl_E l G m_Mo_branch (0, 0) 59 [some (.ref 22), some (.int (nI 16)), some (.int (nI n)), some (.int (nI 1))] [] (σ) P
  refine er_aload_n d_Mo_branch_59 rfl ?_
  refine er_aload_n d_Mo_branch_60 rfl ?_
  refine er_iload_n d_Mo_branch_61 rfl ?_
  refine er_iload_n d_Mo_branch_62 rfl ?_
  refine er_callV (As := [.int (nI 16), .int (nI n)]) d_Mo_branch_63 k_Mo_branch_176 hO rfl rfl rfl (Nat.le_of_ble_eq_true rfl) (by decide) (by decide) (mo_tk_16 hl hO hw hu) ?_
  show jl_E l G m_Mo_branch (0, 0) 66 [some (.ref 22), some (.int (nI 16)), some (.int (nI n)), some (.int (nI 1))] [.int (nI 1), .ref 22] (σ) P
  refine er_callV (As := [.int (nI 1)]) d_Mo_branch_66 k_Mo_branch_242 hO rfl rfl rfl (Nat.le_of_ble_eq_true rfl) (by decide) (by decide) (mo_dropE (h := b + 1) (n := 1) (c := b) hl hO f3 ht hfh (by omega) (by omega)) ?_
  show jl_E l G m_Mo_branch (0, 0) 69 [some (.ref 22), some (.int (nI 16)), some (.int (nI n)), some (.int (nI 1))] [] (σ.set (45) (.inl (0, 13, .inl (fun j => nI ((va_up fh t (b)) j))))) P
  refine er_iload_n d_Mo_branch_69 rfl ?_
  refine er_if_eq 88 d_Mo_branch_70 (by decide) (fun z => absurd z (by decide)) (fun _ => ?_)
  refine er_aload_n d_Mo_branch_73 rfl ?_
  refine er_getf d_Mo_branch_74 f_Mo_branch_81 (jl_sn (by decide) hO) rfl ?_
  refine er_aload_n d_Mo_branch_77 rfl ?_
  refine er_getf d_Mo_branch_78 f_Mo_branch_224 (jl_sn (by decide) hO) rfl ?_
  refine er_iconst ((nI (1))) d_Mo_branch_81 (by decide) ?_
  refine er_isubN d_Mo_branch_82 (by omega) ?_
  rw [show (t + 1) - (1) = t by omega]
  show jl_E l G m_Mo_branch (0, 0) 83 [some (.ref 22), some (.int (nI 16)), some (.int (nI n)), some (.int (nI 1))] [.int (nI t), .ref 44] (σ.set (45) (.inl (0, 13, .inl (fun j => nI ((va_up fh t (b)) j))))) P
  refine er_iload_n d_Mo_branch_83 rfl ?_
  refine er_iastN d_Mo_branch_84 (jl_sn (by decide) f2) (by omega) (by omega) ?_
  rw [show upd (fun j => nI (fp j)) (t) ((nI (n))) = (fun j => nI ((va_up fp (t) (n)) j)) from nI_up fp (t) (n)]
  show jl_E l G m_Mo_branch (0, 0) 85 [some (.ref 22), some (.int (nI 16)), some (.int (nI n)), some (.int (nI 1))] [] ((σ.set (45) (.inl (0, 13, .inl (fun j => nI ((va_up fh t (b)) j))))).set (44) (.inl (0, 13, .inl (fun j => nI ((va_up fp (t) (n)) j))))) P
  refine er_goto 92 d_Mo_branch_85 (by decide) ?_
  exact er_vret d_Mo_branch_92 rfl (hT _ ⟨_, _, _, _, _, _, _, _, _, _, _, _, (jl_sn (by decide) (jl_sn (by decide) hO)), (jl_sn (by decide) (jl_sn (by decide) f1)), (jl_ss (jl_sn (by decide) f2)), (jl_sn (by decide) (jl_ss f3)), (jl_sn (by decide) (jl_sn (by decide) f4)), (jl_sn (by decide) (jl_sn (by decide) f5)), (jl_sn (by decide) (jl_sn (by decide) f6)), (jl_sn (by decide) (jl_sn (by decide) f7)), ⟨(jl_sn (by decide) (jl_sn (by decide) k1)), (jl_sn (by decide) (jl_sn (by decide) k2)), (jl_sn (by decide) (jl_sn (by decide) k3))⟩, hB, (((((hy1).hg).pc).six (y := some b)).le (by omega)), ⟨⟨(jl_sn (by decide) (jl_sn (by decide) r1)), (jl_sn (by decide) (jl_sn (by decide) r2))⟩, hlo, hsk⟩, ((hF.set (by omega)).set (by omega))⟩) (by decide) (by decide)
theorem mo_br_16f (hl : l.stackTraces = false) {P : jl_O → jl_S → Prop} {q : Nat} (hn : NB σ0 σ (b + 1) t m (p) (b + 1) (R) (V) (fs) (H) fa vf wh wy hg ov oh dn an) (hw : MoW σ tb pr ow ft hs) (hu : MoM σ u1 u2 ur ul uo ua uc us ut uk) (ht : t < 12) (hb : b + 1 ≤ 5) (hn24 : n < 24) (hq : q < 2 ^ 31) (hv : V (7 + b) = nI q) (hT : ∀ σ', NB σ0 σ' (b) t m (p + 1) (b) (va_up R 6 (some b)) (V) (fs) (H) fa vf wh wy hg ov oh dn an → P (.inl none) σ') : jl_mE l G m_Mo_branch [.ref 22, .int (nI 16), .int (nI n)] σ P := by
  obtain ⟨fx, fp, fh, lw, lk, vl, vk, ks, kc, kv, lo, sk, hO, f1, f2, f3, f4, f5, f6, f7, hH, hB, hy1, hR1, hF⟩ := id hn
  obtain ⟨k1, k2, k3⟩ := id hH
  obtain ⟨⟨r1, r2⟩, hlo, hsk⟩ := id hR1
  obtain ⟨⟨hfx, hfp, hlc, hst⟩, hfh, hfs, hln⟩ := id hy1
  have hfx : fx t = m := hfx
  have hfp : fp t = p := hfp
  have hlc : ∀ k, k < 6 → lk (6 * t + k) = kdI (R k) ∧ (R k ≠ none → lw (6 * t + k) = V k) := hlc
  have hst : ∀ j, j < _ → vk (5 * t + j) = kdI (R (7 + j)) ∧ vl (5 * t + j) = V (7 + j) := hst
  obtain ⟨h23, h24, h25, h26, h27⟩ := id hw
  obtain ⟨h28, h29, h30, h31, h32, h33, h34, h35, h36, h37⟩ := id hu
  have hS0 : vl (5 * t + (b)) = V (7 + b) := by rw [show 7 + b = 7 + (b) by omega]; exact (hst _ (by omega)).2
  have hK0 : vk (5 * t + (b)) = kdI (R (7 + b)) := by rw [show 7 + b = 7 + (b) by omega]; exact (hst _ (by omega)).1
  refine jl_ofE (as := [.ref 22, .int (nI 16), .int (nI n)]) rfl (by decide) hl (jl_cc rfl (jl_cc rfl (jl_cc rfl jl_ca))) (Nat.le_of_ble_eq_true rfl) ?_
  show jl_E l G m_Mo_branch (0, 0) 0 [some (.ref 22), some (.int (nI 16)), some (.int (nI n)), none] [] (σ) P
  refine er_iload_n d_Mo_branch_0 rfl ?_
  refine er_bipush ((nI (7))) d_Mo_branch_1 (by decide) ?_
  refine er_icmp_eq 53 d_Mo_branch_3 (by decide) (fun z => absurd z (by decide)) (fun _ => ?_)
  refine er_iload_n d_Mo_branch_6 rfl ?_
  refine er_bipush ((nI (8))) d_Mo_branch_7 (by decide) ?_
  refine er_icmp_ne 20 d_Mo_branch_9 (by decide) (fun _ => ?_) (fun z => absurd z (by decide))
  refine er_iload_n d_Mo_branch_20 rfl ?_
  refine er_bipush ((nI (9))) d_Mo_branch_21 (by decide) ?_
  refine er_icmp_ne 39 d_Mo_branch_23 (by decide) (fun _ => ?_) (fun z => absurd z (by decide))
  refine er_iload_n d_Mo_branch_39 rfl ?_
  refine er_bipush ((nI (16))) d_Mo_branch_40 (by decide) ?_
  refine er_icmp_ne 57 d_Mo_branch_42 (by decide) (fun z => absurd rfl z) (fun _ => ?_)
  refine er_aload_n d_Mo_branch_45 rfl ?_
  refine er_iconst ((nI (1))) d_Mo_branch_46 (by decide) ?_
  refine er_callV (As := [.int (nI 1)]) d_Mo_branch_47 k_Mo_branch_245 hO rfl rfl rfl (Nat.le_of_ble_eq_true rfl) (by decide) (by decide) (mo_topE (h := b + 1) (n := 1) (v := (nI (q))) hl hO f3 f6 ht hfh (by omega) (by omega) (by omega) (by rw [show 5 * t + (b + 1) - 1 = 5 * t + (b) by omega]; exact hS0.trans hv)) ?_
  show jl_E l G m_Mo_branch (0, 0) 50 [some (.ref 22), some (.int (nI 16)), some (.int (nI n)), none] [.int (nI q)] (σ) P
  refine er_if_ge 57 d_Mo_branch_50 (by decide) (fun _ => ?_) (fun z => absurd (Int32.not_lt.mp (nI_pos (by omega))) z)
  refine er_iconst ((nI (0))) d_Mo_branch_57 (by decide) ?_
  refine er_istore_n d_Mo_branch_58 (by decide) ?_
  show jl_E l G m_Mo_branch (0, 0) 59 [some (.ref 22), some (.int (nI 16)), some (.int (nI n)), some (.int (nI 0))] [] (σ) P
  refine er_aload_n d_Mo_branch_59 rfl ?_
  refine er_aload_n d_Mo_branch_60 rfl ?_
  refine er_iload_n d_Mo_branch_61 rfl ?_
  refine er_iload_n d_Mo_branch_62 rfl ?_
  refine er_callV (As := [.int (nI 16), .int (nI n)]) d_Mo_branch_63 k_Mo_branch_176 hO rfl rfl rfl (Nat.le_of_ble_eq_true rfl) (by decide) (by decide) (mo_tk_16 hl hO hw hu) ?_
  show jl_E l G m_Mo_branch (0, 0) 66 [some (.ref 22), some (.int (nI 16)), some (.int (nI n)), some (.int (nI 0))] [.int (nI 1), .ref 22] (σ) P
  refine er_callV (As := [.int (nI 1)]) d_Mo_branch_66 k_Mo_branch_242 hO rfl rfl rfl (Nat.le_of_ble_eq_true rfl) (by decide) (by decide) (mo_dropE (h := b + 1) (n := 1) (c := b) hl hO f3 ht hfh (by omega) (by omega)) ?_
  show jl_E l G m_Mo_branch (0, 0) 69 [some (.ref 22), some (.int (nI 16)), some (.int (nI n)), some (.int (nI 0))] [] (σ.set (45) (.inl (0, 13, .inl (fun j => nI ((va_up fh t (b)) j))))) P
  refine er_iload_n d_Mo_branch_69 rfl ?_
  refine er_if_eq 88 d_Mo_branch_70 (by decide) (fun _ => ?_) (fun z => absurd (by decide) z)
  refine er_aload_n d_Mo_branch_88 rfl ?_
  refine er_callV (As := []) d_Mo_branch_89 k_Mo_branch_261 (jl_sn (by decide) hO) rfl rfl rfl (Nat.le_of_ble_eq_true rfl) (by decide) (by decide) (mo_mnext hl (jl_sn (by decide) hO) (jl_sn (by decide) f2) ht hfp) ?_
  show jl_E l G m_Mo_branch (0, 0) 92 [some (.ref 22), some (.int (nI 16)), some (.int (nI n)), some (.int (nI 0))] [] ((σ.set (45) (.inl (0, 13, .inl (fun j => nI ((va_up fh t (b)) j))))).set (44) (.inl (0, 13, .inl (fun j => nI ((va_up fp t (p + 1)) j))))) P
  exact er_vret d_Mo_branch_92 rfl (hT _ ⟨_, _, _, _, _, _, _, _, _, _, _, _, (jl_sn (by decide) (jl_sn (by decide) hO)), (jl_sn (by decide) (jl_sn (by decide) f1)), (jl_ss (jl_sn (by decide) f2)), (jl_sn (by decide) (jl_ss f3)), (jl_sn (by decide) (jl_sn (by decide) f4)), (jl_sn (by decide) (jl_sn (by decide) f5)), (jl_sn (by decide) (jl_sn (by decide) f6)), (jl_sn (by decide) (jl_sn (by decide) f7)), ⟨(jl_sn (by decide) (jl_sn (by decide) k1)), (jl_sn (by decide) (jl_sn (by decide) k2)), (jl_sn (by decide) (jl_sn (by decide) k3))⟩, hB, (((((hy1).hg).pc).six (y := some b)).le (by omega)), ⟨⟨(jl_sn (by decide) (jl_sn (by decide) r1)), (jl_sn (by decide) (jl_sn (by decide) r2))⟩, hlo, hsk⟩, ((hF.set (by omega)).set (by omega))⟩) (by decide) (by decide)
end JNxe
