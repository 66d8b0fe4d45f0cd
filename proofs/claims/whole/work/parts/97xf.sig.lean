/-! the model's machine: signal (wip/gen/p97xf.py) -/
section JNxf
variable {l : Launch} {G : jl_G} {σ : jl_S}
variable {tb : Nat → Bool} {pr : Nat → Option Nat} {ow fi ft : Nat → Nat} {hs : Nat → Bool} {fa vf wh wy hg dp md ov oh dn an : Int32}
variable {u1 u2 : Nat → Option Nat} {ur ul uo : Nat → Nat} {ua : Nat → Int32} {uc us ut uk : Nat → Nat}
variable {σ0 : jl_S} {N t m p h b n : Nat} {R : Rw} {V : Nat → Int32} {fs : List Fm} {H : Hp} {fa vf wh wy hg ov oh dn an x a v : Int32} {y : Option Nat}
variable {D : Nat → MDt} {q k i : Nat} {wt : Int32}
/-- the model's CATCHERS of METHOD m are those of d -/
def ctM (d : MDt) (uc us ut uk : Nat → Nat) (m : Nat) : Prop := dnc d = uc m ∧ ∀ i, i < 2 → dfr d i = us (2 * m + i) / 32 ∧ dtt d i = us (2 * m + i) % 32 ∧ dtg d i = ut (2 * m + i) ∧ dkd d i = uk (2 * m + i)
theorem aroU_e {d : MDt} {m p i : Nat} (h : ctM d uc us ut uk m) (hi : i < 2) : aro (dfr d) (dtt d) i p = aroU us (2 * m + i) p := by
  obtain ⟨a, b, _⟩ := h.2 i hi
  unfold aro aroU
  rw [a, b]
theorem d_Mo_signal_26 : decode m_Mo_signal.2.1 26 = .ok (.iload 4, 2) := by decide +kernel
theorem d_Mo_signal_28 : decode m_Mo_signal.2.1 28 = .ok (.iconst 2, 1) := by decide +kernel
theorem d_Mo_signal_29 : decode m_Mo_signal.2.1 29 = .ok (.iload_n 3, 1) := by decide +kernel
theorem d_Mo_signal_30 : decode m_Mo_signal.2.1 30 = .ok (.imul, 1) := by decide +kernel
theorem d_Mo_signal_31 : decode m_Mo_signal.2.1 31 = .ok (.aload_n 0, 1) := by decide +kernel
theorem f_Mo_signal_44 : jl_fd m_Mo_signal 44 7 12 = true := by decide +kernel
theorem d_Mo_signal_32 : decode m_Mo_signal.2.1 32 = .ok (.getfield 44, 3) := by decide +kernel
theorem d_Mo_signal_35 : decode m_Mo_signal.2.1 35 = .ok (.iload_n 3, 1) := by decide +kernel
theorem d_Mo_signal_36 : decode m_Mo_signal.2.1 36 = .ok (.iaload, 1) := by decide +kernel
theorem d_Mo_signal_37 : decode m_Mo_signal.2.1 37 = .ok (.iadd, 1) := by decide +kernel
theorem d_Mo_signal_38 : decode m_Mo_signal.2.1 38 = .ok (.if_icmp .ge 107, 3) := by decide +kernel
theorem d_Mo_signal_41 : decode m_Mo_signal.2.1 41 = .ok (.aload_n 0, 1) := by decide +kernel
theorem f_Mo_signal_53 : jl_fd m_Mo_signal 53 7 15 = true := by decide +kernel
theorem d_Mo_signal_42 : decode m_Mo_signal.2.1 42 = .ok (.getfield 53, 3) := by decide +kernel
theorem d_Mo_signal_45 : decode m_Mo_signal.2.1 45 = .ok (.iload 4, 2) := by decide +kernel
theorem d_Mo_signal_47 : decode m_Mo_signal.2.1 47 = .ok (.iaload, 1) := by decide +kernel
theorem d_Mo_signal_48 : decode m_Mo_signal.2.1 48 = .ok (.bipush 6, 2) := by decide +kernel
theorem d_Mo_signal_50 : decode m_Mo_signal.2.1 50 = .ok (.if_icmp .ne 7, 3) := by decide +kernel
theorem d_Mo_signal_57 : decode m_Mo_signal.2.1 57 = .ok (.iconst 0, 1) := by decide +kernel
theorem d_Mo_signal_58 : decode m_Mo_signal.2.1 58 = .ok (.istore 5, 2) := by decide +kernel
theorem d_Mo_signal_60 : decode m_Mo_signal.2.1 60 = .ok (.aload_n 0, 1) := by decide +kernel
theorem d_Mo_signal_61 : decode m_Mo_signal.2.1 61 = .ok (.iload 4, 2) := by decide +kernel
theorem d_Mo_signal_63 : decode m_Mo_signal.2.1 63 = .ok (.aload_n 0, 1) := by decide +kernel
theorem f_Mo_signal_81 : jl_fd m_Mo_signal 81 7 26 = true := by decide +kernel
theorem d_Mo_signal_64 : decode m_Mo_signal.2.1 64 = .ok (.getfield 81, 3) := by decide +kernel
theorem d_Mo_signal_67 : decode m_Mo_signal.2.1 67 = .ok (.iload_n 2, 1) := by decide +kernel
theorem d_Mo_signal_68 : decode m_Mo_signal.2.1 68 = .ok (.iaload, 1) := by decide +kernel
theorem k_Mo_signal_145 : jl_cv m_Mo_signal m_Mo_around 145 2 = true := by decide +kernel
theorem d_Mo_signal_69 : decode m_Mo_signal.2.1 69 = .ok (.invokevirtual 145, 3) := by decide +kernel
theorem d_Mo_signal_72 : decode m_Mo_signal.2.1 72 = .ok (.ifCond .eq 67, 3) := by decide +kernel
theorem d_Mo_signal_139 : decode m_Mo_signal.2.1 139 = .ok (.iinc 4 1, 3) := by decide +kernel
theorem d_Mo_signal_142 : decode m_Mo_signal.2.1 142 = .ok (.goto (-116), 3) := by decide +kernel
theorem d_Mo_signal_75 : decode m_Mo_signal.2.1 75 = .ok (.iload 5, 2) := by decide +kernel
theorem d_Mo_signal_77 : decode m_Mo_signal.2.1 77 = .ok (.ifCond .ne 30, 3) := by decide +kernel
theorem d_Mo_signal_80 : decode m_Mo_signal.2.1 80 = .ok (.iload_n 1, 1) := by decide +kernel
theorem d_Mo_signal_81 : decode m_Mo_signal.2.1 81 = .ok (.ifCond .lt 58, 3) := by decide +kernel
theorem d_Mo_signal_53 : decode m_Mo_signal.2.1 53 = .ok (.iconst 1, 1) := by decide +kernel
theorem d_Mo_signal_54 : decode m_Mo_signal.2.1 54 = .ok (.goto 4, 3) := by decide +kernel
theorem d_Mo_signal_107 : decode m_Mo_signal.2.1 107 = .ok (.aload_n 0, 1) := by decide +kernel
theorem f_Mo_signal_84 : jl_fd m_Mo_signal 84 7 27 = true := by decide +kernel
theorem d_Mo_signal_108 : decode m_Mo_signal.2.1 108 = .ok (.getfield 84, 3) := by decide +kernel
theorem d_Mo_signal_111 : decode m_Mo_signal.2.1 111 = .ok (.iload_n 2, 1) := by decide +kernel
theorem d_Mo_signal_112 : decode m_Mo_signal.2.1 112 = .ok (.iconst 0, 1) := by decide +kernel
theorem d_Mo_signal_113 : decode m_Mo_signal.2.1 113 = .ok (.iastore, 1) := by decide +kernel
theorem d_Mo_signal_114 : decode m_Mo_signal.2.1 114 = .ok (.iload 5, 2) := by decide +kernel
theorem d_Mo_signal_116 : decode m_Mo_signal.2.1 116 = .ok (.ifCond .ne 9, 3) := by decide +kernel
theorem d_Mo_signal_125 : decode m_Mo_signal.2.1 125 = .ok (.aload_n 0, 1) := by decide +kernel
theorem d_Mo_signal_126 : decode m_Mo_signal.2.1 126 = .ok (.getfield 81, 3) := by decide +kernel
theorem d_Mo_signal_129 : decode m_Mo_signal.2.1 129 = .ok (.iload_n 2, 1) := by decide +kernel
theorem d_Mo_signal_130 : decode m_Mo_signal.2.1 130 = .ok (.aload_n 0, 1) := by decide +kernel
theorem f_Mo_signal_50 : jl_fd m_Mo_signal 50 7 14 = true := by decide +kernel
theorem d_Mo_signal_131 : decode m_Mo_signal.2.1 131 = .ok (.getfield 50, 3) := by decide +kernel
theorem d_Mo_signal_134 : decode m_Mo_signal.2.1 134 = .ok (.iload 4, 2) := by decide +kernel
theorem d_Mo_signal_136 : decode m_Mo_signal.2.1 136 = .ok (.iaload, 1) := by decide +kernel
theorem d_Mo_signal_137 : decode m_Mo_signal.2.1 137 = .ok (.iastore, 1) := by decide +kernel
theorem d_Mo_signal_138 : decode m_Mo_signal.2.1 138 = .ok (.return_, 1) := by decide +kernel
theorem mo_sig_s (hl : l.stackTraces = false) {P : jl_O → jl_S → Prop}  (hn : NB σ0 σ (N) t m (p) (h) (R) (V) (fs) (H) fa vf wh wy hg ov oh dn an) (hw : MoW σ tb pr ow ft hs) (hu : MoM σ u1 u2 ur ul uo ua uc us ut uk) (ht : t < 12) (hm24 : m < 24) (hp24 : p < 24) (hct : ctM (D m) uc us ut uk m) (hnc : uc m ≤ 2) (hcf : ∀ i, i < 2 → us (2 * m + i) < 1024 ∧ ut (2 * m + i) < 24 ∧ uk (2 * m + i) < 7) (hwt : wt < 0) : ∀ (nn : Nat) (i : Nat), uc m - i < nn → i ≤ uc m → (cti pr (D m) p none (uc m - i) i = none → jl_E l G m_Mo_signal (0, 0) 145 [some (.ref 22), some (.int (wt)), none, none, none, none] [] σ P) → (∀ k' σ', cti pr (D m) p none (uc m - i) i = some k' → dkd (D m) k' = 6 → NB σ0 σ' (0) t m (dtg (D m) k') (0) (va_up R 6 (some 0)) (V) (fs) (H) fa vf wh wy hg ov oh dn an → P (.inl none) σ') → (∀ k' σ', cti pr (D m) p none (uc m - i) i = some k' → dkd (D m) k' ≠ 6 → NB σ0 σ' (1) t m (dtg (D m) k') (1) (psh R 0 none) (va_up V 7 (-1)) (fs) (H) fa vf wh wy hg ov oh dn an → P (.inl none) σ') → jl_E l G m_Mo_signal (0, 0) 26 [some (.ref 22), some (.int (wt)), some (.int (nI t)), some (.int (nI m)), some (.int (nI (2 * m + i))), none] [] σ P := by
  obtain ⟨fx, fp, fh, lw, lk, vl, vk, ks, kc, kv, lo, sk, hO, f1, f2, f3, f4, f5, f6, f7, hH, hB, hy1, hR1, hF⟩ := id hn
  obtain ⟨k1, k2, k3⟩ := id hH
  obtain ⟨⟨r1, r2⟩, hlo, hsk⟩ := id hR1
  obtain ⟨⟨hfx, hfp, hlc, hst⟩, hfh, hfs, hln⟩ := id hy1
  have hfx : fx t = m := hfx
  have hfp : fp t = p := hfp
  have hlc : ∀ k, k < 6 → lk (6 * t + k) = kdI (R k) ∧ (R k ≠ none → lw (6 * t + k) = V k) := hlc
  have hst : ∀ j, j < _ → vk (5 * t + j) = kdI (R (7 + j)) ∧ vl (5 * t + j) = V (7 + j) := hst
  obtain ⟨h23, h24, h25, h26, h27⟩ := id hw
  obtain ⟨h28, h29, h30, h31, h32, h33, h34, h35, h36, h37⟩ := id hu
  intro nn
  induction nn with
  | zero => intro i hnn; exact absurd hnn (Nat.not_lt_zero _)
  | succ nn ihn =>
    intro i hnn hi hN h1 h2
    refine er_iload d_Mo_signal_26 rfl ?_
    refine er_iconst ((nI (2))) d_Mo_signal_28 (by decide) ?_
    refine er_iload_n d_Mo_signal_29 rfl ?_
    refine er_imulN d_Mo_signal_30 ?_
    refine er_aload_n d_Mo_signal_31 rfl ?_
    refine er_getf d_Mo_signal_32 f_Mo_signal_44 hO rfl ?_
    refine er_iload_n d_Mo_signal_35 rfl ?_
    refine er_ialdN d_Mo_signal_36 h34 (by omega) (by omega) ?_
    refine er_iaddN d_Mo_signal_37 ?_
    refine er_icmp_geN 145 d_Mo_signal_38 (by decide) (by omega) (by omega) (fun c1 => ?_) (fun c1 => ?_)
    · exact er_weak (ls' := [some (.ref 22), some (.int (wt)), none, none, none, none]) (fun q v hv => by match q, hv with | 0, hv => exact hv | 1, hv => exact hv | 2, hv => cases hv | 3, hv => cases hv | 4, hv => cases hv | 5, hv => cases hv | q + 6, hv => cases hv) (hN (by rw [show uc m - i = 0 by omega]; rfl))
    · have hcfi := hcf i (by omega)
      refine er_aload_n d_Mo_signal_41 rfl ?_
      refine er_getf d_Mo_signal_42 f_Mo_signal_53 hO rfl ?_
      refine er_iload d_Mo_signal_45 rfl ?_
      refine er_ialdN d_Mo_signal_47 h37 (by omega) (by omega) ?_
      refine er_bipush ((nI (6))) d_Mo_signal_48 (by decide) ?_
      refine er_icmp_neN 57 d_Mo_signal_50 (by decide) (by omega) (by omega) (fun c2 => ?_) (fun c2 => ?_)
      · refine er_iconst ((nI (0))) d_Mo_signal_57 (by decide) ?_
        refine er_istore d_Mo_signal_58 (by decide) ?_
        show jl_E l G m_Mo_signal (0, 0) 60 [some (.ref 22), some (.int (wt)), some (.int (nI t)), some (.int (nI m)), some (.int (nI (2 * m + i))), some (.int (nI 0))] [] (σ) P
        refine er_aload_n d_Mo_signal_60 rfl ?_
        refine er_iload d_Mo_signal_61 rfl ?_
        refine er_aload_n d_Mo_signal_63 rfl ?_
        refine er_getf d_Mo_signal_64 f_Mo_signal_81 hO rfl ?_
        refine er_iload_n d_Mo_signal_67 rfl ?_
        refine er_ialdQ (v := (nI (p))) d_Mo_signal_68 f2 (by omega) (by omega) (congrArg nI hfp) ?_
        refine er_callV (As := [.int (nI (2 * m + i)), .int (nI p)]) d_Mo_signal_69 k_Mo_signal_145 hO rfl rfl rfl (Nat.le_of_ble_eq_true rfl) (by decide) (by decide) (mo_around hl hO hw hu (by omega) (by omega) (hcf i (by omega)).1) ?_
        show jl_E l G m_Mo_signal (0, 0) 72 [some (.ref 22), some (.int (wt)), some (.int (nI t)), some (.int (nI m)), some (.int (nI (2 * m + i))), some (.int (nI 0))] [.int (bi (aroU us (2 * m + i) p))] (σ) P
        refine er_if_eq 139 d_Mo_signal_72 (by decide) (fun c3 => ?_) (fun c3 => ?_)
        · refine er_iinc ((nI (2 * m + i + 1))) d_Mo_signal_139 (by decide) rfl (jl_inc _) ?_
          show jl_E l G m_Mo_signal (0, 0) 142 [some (.ref 22), some (.int (wt)), some (.int (nI t)), some (.int (nI m)), some (.int (nI (2 * m + i + 1))), some (.int (nI 0))] [] (σ) P
          refine er_goto 26 d_Mo_signal_142 (by decide) ?_
          exact er_weak (ls' := [some (.ref 22), some (.int (wt)), some (.int (nI t)), some (.int (nI m)), some (.int (nI (2 * m + i + 1))), none]) (fun q v hv => by match q, hv with | 0, hv => exact hv | 1, hv => exact hv | 2, hv => exact hv | 3, hv => exact hv | 4, hv => exact hv | 5, hv => cases hv | q + 6, hv => cases hv) (ihn (i + 1) (by omega) (by omega) (fun z => hN ((show cti pr (D m) p none (uc m - i) i = cti pr (D m) p none (uc m - (i + 1)) (i + 1) from (by rw [show uc m - i = (uc m - (i + 1)) + 1 by omega, cti, if_neg (by simp [aroU_e hct (show i < 2 by omega), (hct.2 i (by omega)).2.2.2, cty, bi_0.mp c3, c1, c2, c3])])).trans z)) (fun k' σ' z => h1 k' σ' ((show cti pr (D m) p none (uc m - i) i = cti pr (D m) p none (uc m - (i + 1)) (i + 1) from (by rw [show uc m - i = (uc m - (i + 1)) + 1 by omega, cti, if_neg (by simp [aroU_e hct (show i < 2 by omega), (hct.2 i (by omega)).2.2.2, cty, bi_0.mp c3, c1, c2, c3])])).trans z)) (fun k' σ' z => h2 k' σ' ((show cti pr (D m) p none (uc m - i) i = cti pr (D m) p none (uc m - (i + 1)) (i + 1) from (by rw [show uc m - i = (uc m - (i + 1)) + 1 by omega, cti, if_neg (by simp [aroU_e hct (show i < 2 by omega), (hct.2 i (by omega)).2.2.2, cty, bi_0.mp c3, c1, c2, c3])])).trans z)))
        · refine er_iload d_Mo_signal_75 rfl ?_
          refine er_if_ne 107 d_Mo_signal_77 (by decide) (fun z => absurd rfl z) (fun _ => ?_)
          refine er_iload_n d_Mo_signal_80 rfl ?_
          refine er_if_lt 139 d_Mo_signal_81 (by decide) (fun _ => ?_) (fun z => absurd (hwt) z)
          refine er_iinc ((nI (2 * m + i + 1))) d_Mo_signal_139 (by decide) rfl (jl_inc _) ?_
          show jl_E l G m_Mo_signal (0, 0) 142 [some (.ref 22), some (.int (wt)), some (.int (nI t)), some (.int (nI m)), some (.int (nI (2 * m + i + 1))), some (.int (nI 0))] [] (σ) P
          refine er_goto 26 d_Mo_signal_142 (by decide) ?_
          exact er_weak (ls' := [some (.ref 22), some (.int (wt)), some (.int (nI t)), some (.int (nI m)), some (.int (nI (2 * m + i + 1))), none]) (fun q v hv => by match q, hv with | 0, hv => exact hv | 1, hv => exact hv | 2, hv => exact hv | 3, hv => exact hv | 4, hv => exact hv | 5, hv => cases hv | q + 6, hv => cases hv) (ihn (i + 1) (by omega) (by omega) (fun z => hN ((show cti pr (D m) p none (uc m - i) i = cti pr (D m) p none (uc m - (i + 1)) (i + 1) from (by rw [show uc m - i = (uc m - (i + 1)) + 1 by omega, cti, if_neg (by simp [aroU_e hct (show i < 2 by omega), (hct.2 i (by omega)).2.2.2, cty, bi_nf c3, c1, c2, c3])])).trans z)) (fun k' σ' z => h1 k' σ' ((show cti pr (D m) p none (uc m - i) i = cti pr (D m) p none (uc m - (i + 1)) (i + 1) from (by rw [show uc m - i = (uc m - (i + 1)) + 1 by omega, cti, if_neg (by simp [aroU_e hct (show i < 2 by omega), (hct.2 i (by omega)).2.2.2, cty, bi_nf c3, c1, c2, c3])])).trans z)) (fun k' σ' z => h2 k' σ' ((show cti pr (D m) p none (uc m - i) i = cti pr (D m) p none (uc m - (i + 1)) (i + 1) from (by rw [show uc m - i = (uc m - (i + 1)) + 1 by omega, cti, if_neg (by simp [aroU_e hct (show i < 2 by omega), (hct.2 i (by omega)).2.2.2, cty, bi_nf c3, c1, c2, c3])])).trans z)))
      · refine er_iconst ((nI (1))) d_Mo_signal_53 (by decide) ?_
        refine er_goto 58 d_Mo_signal_54 (by decide) ?_
        refine er_istore d_Mo_signal_58 (by decide) ?_
        show jl_E l G m_Mo_signal (0, 0) 60 [some (.ref 22), some (.int (wt)), some (.int (nI t)), some (.int (nI m)), some (.int (nI (2 * m + i))), some (.int (nI 1))] [] (σ) P
        refine er_aload_n d_Mo_signal_60 rfl ?_
        refine er_iload d_Mo_signal_61 rfl ?_
        refine er_aload_n d_Mo_signal_63 rfl ?_
        refine er_getf d_Mo_signal_64 f_Mo_signal_81 hO rfl ?_
        refine er_iload_n d_Mo_signal_67 rfl ?_
        refine er_ialdQ (v := (nI (p))) d_Mo_signal_68 f2 (by omega) (by omega) (congrArg nI hfp) ?_
        refine er_callV (As := [.int (nI (2 * m + i)), .int (nI p)]) d_Mo_signal_69 k_Mo_signal_145 hO rfl rfl rfl (Nat.le_of_ble_eq_true rfl) (by decide) (by decide) (mo_around hl hO hw hu (by omega) (by omega) (hcf i (by omega)).1) ?_
        show jl_E l G m_Mo_signal (0, 0) 72 [some (.ref 22), some (.int (wt)), some (.int (nI t)), some (.int (nI m)), some (.int (nI (2 * m + i))), some (.int (nI 1))] [.int (bi (aroU us (2 * m + i) p))] (σ) P
        refine er_if_eq 139 d_Mo_signal_72 (by decide) (fun c4 => ?_) (fun c4 => ?_)
        · refine er_iinc ((nI (2 * m + i + 1))) d_Mo_signal_139 (by decide) rfl (jl_inc _) ?_
          show jl_E l G m_Mo_signal (0, 0) 142 [some (.ref 22), some (.int (wt)), some (.int (nI t)), some (.int (nI m)), some (.int (nI (2 * m + i + 1))), some (.int (nI 1))] [] (σ) P
          refine er_goto 26 d_Mo_signal_142 (by decide) ?_
          exact er_weak (ls' := [some (.ref 22), some (.int (wt)), some (.int (nI t)), some (.int (nI m)), some (.int (nI (2 * m + i + 1))), none]) (fun q v hv => by match q, hv with | 0, hv => exact hv | 1, hv => exact hv | 2, hv => exact hv | 3, hv => exact hv | 4, hv => exact hv | 5, hv => cases hv | q + 6, hv => cases hv) (ihn (i + 1) (by omega) (by omega) (fun z => hN ((show cti pr (D m) p none (uc m - i) i = cti pr (D m) p none (uc m - (i + 1)) (i + 1) from (by rw [show uc m - i = (uc m - (i + 1)) + 1 by omega, cti, if_neg (by simp [aroU_e hct (show i < 2 by omega), (hct.2 i (by omega)).2.2.2, cty, bi_0.mp c4, c1, c2, c4])])).trans z)) (fun k' σ' z => h1 k' σ' ((show cti pr (D m) p none (uc m - i) i = cti pr (D m) p none (uc m - (i + 1)) (i + 1) from (by rw [show uc m - i = (uc m - (i + 1)) + 1 by omega, cti, if_neg (by simp [aroU_e hct (show i < 2 by omega), (hct.2 i (by omega)).2.2.2, cty, bi_0.mp c4, c1, c2, c4])])).trans z)) (fun k' σ' z => h2 k' σ' ((show cti pr (D m) p none (uc m - i) i = cti pr (D m) p none (uc m - (i + 1)) (i + 1) from (by rw [show uc m - i = (uc m - (i + 1)) + 1 by omega, cti, if_neg (by simp [aroU_e hct (show i < 2 by omega), (hct.2 i (by omega)).2.2.2, cty, bi_0.mp c4, c1, c2, c4])])).trans z)))
        · refine er_iload d_Mo_signal_75 rfl ?_
          refine er_if_ne 107 d_Mo_signal_77 (by decide) (fun _ => ?_) (fun z => absurd z (by decide))
          refine er_aload_n d_Mo_signal_107 rfl ?_
          refine er_getf d_Mo_signal_108 f_Mo_signal_84 hO rfl ?_
          refine er_iload_n d_Mo_signal_111 rfl ?_
          refine er_iconst ((nI (0))) d_Mo_signal_112 (by decide) ?_
          refine er_iastN d_Mo_signal_113 f3 (by omega) (by omega) ?_
          rw [show upd (fun j => nI (fh j)) (t) ((nI (0))) = (fun j => nI ((va_up fh (t) (0)) j)) from nI_up fh (t) (0)]
          show jl_E l G m_Mo_signal (0, 0) 114 [some (.ref 22), some (.int (wt)), some (.int (nI t)), some (.int (nI m)), some (.int (nI (2 * m + i))), some (.int (nI 1))] [] (σ.set (45) (.inl (0, 13, .inl (fun j => nI ((va_up fh (t) (0)) j))))) P
          refine er_iload d_Mo_signal_114 rfl ?_
          refine er_if_ne 125 d_Mo_signal_116 (by decide) (fun _ => ?_) (fun z => absurd z (by decide))
          refine er_aload_n d_Mo_signal_125 rfl ?_
          refine er_getf d_Mo_signal_126 f_Mo_signal_81 (jl_sn (by decide) hO) rfl ?_
          refine er_iload_n d_Mo_signal_129 rfl ?_
          refine er_aload_n d_Mo_signal_130 rfl ?_
          refine er_getf d_Mo_signal_131 f_Mo_signal_50 (jl_sn (by decide) hO) rfl ?_
          refine er_iload d_Mo_signal_134 rfl ?_
          refine er_ialdN d_Mo_signal_136 (jl_sn (by decide) h36) (by omega) (by omega) ?_
          refine er_iastN d_Mo_signal_137 (jl_sn (by decide) f2) (by omega) (by omega) ?_
          rw [show upd (fun j => nI (fp j)) (t) ((nI (ut (2 * m + i)))) = (fun j => nI ((va_up fp (t) (ut (2 * m + i))) j)) from nI_up fp (t) (ut (2 * m + i))]
          show jl_E l G m_Mo_signal (0, 0) 138 [some (.ref 22), some (.int (wt)), some (.int (nI t)), some (.int (nI m)), some (.int (nI (2 * m + i))), some (.int (nI 1))] [] ((σ.set (45) (.inl (0, 13, .inl (fun j => nI ((va_up fh (t) (0)) j))))).set (44) (.inl (0, 13, .inl (fun j => nI ((va_up fp (t) (ut (2 * m + i))) j))))) P
          exact er_vret d_Mo_signal_138 rfl (h1 i _ (by rw [show uc m - i = (uc m - (i + 1)) + 1 by omega, cti, if_pos (by simp [aroU_e hct (show i < 2 by omega), (hct.2 i (by omega)).2.2.2, cty, bi_nf c4, c1, c2, c4])]) ((hct.2 i (by omega)).2.2.2.trans (by omega)) (by rw [(hct.2 i (by omega)).2.2.1]; exact ⟨_, _, _, _, _, _, _, _, _, _, _, _, (jl_sn (by decide) (jl_sn (by decide) hO)), (jl_sn (by decide) (jl_sn (by decide) f1)), (jl_ss (jl_sn (by decide) f2)), (jl_sn (by decide) (jl_ss f3)), (jl_sn (by decide) (jl_sn (by decide) f4)), (jl_sn (by decide) (jl_sn (by decide) f5)), (jl_sn (by decide) (jl_sn (by decide) f6)), (jl_sn (by decide) (jl_sn (by decide) f7)), ⟨(jl_sn (by decide) (jl_sn (by decide) k1)), (jl_sn (by decide) (jl_sn (by decide) k2)), (jl_sn (by decide) (jl_sn (by decide) k3))⟩, hB, (((hy1.hg (N' := 0)).six (y := some 0)).le (Nat.zero_le _)).pc, ⟨⟨(jl_sn (by decide) (jl_sn (by decide) r1)), (jl_sn (by decide) (jl_sn (by decide) r2))⟩, hlo, hsk⟩, ((hF.set (by omega)).set (by omega))⟩)) (by decide) (by decide)
theorem d_Mo_signal_84 : decode m_Mo_signal.2.1 84 = .ok (.aload_n 0, 1) := by decide +kernel
theorem d_Mo_signal_85 : decode m_Mo_signal.2.1 85 = .ok (.aload_n 0, 1) := by decide +kernel
theorem d_Mo_signal_86 : decode m_Mo_signal.2.1 86 = .ok (.getfield 53, 3) := by decide +kernel
theorem d_Mo_signal_89 : decode m_Mo_signal.2.1 89 = .ok (.iload 4, 2) := by decide +kernel
theorem d_Mo_signal_91 : decode m_Mo_signal.2.1 91 = .ok (.iaload, 1) := by decide +kernel
theorem d_Mo_signal_92 : decode m_Mo_signal.2.1 92 = .ok (.aload_n 0, 1) := by decide +kernel
theorem f_Mo_signal_99 : jl_fd m_Mo_signal 99 7 33 = true := by decide +kernel
theorem d_Mo_signal_93 : decode m_Mo_signal.2.1 93 = .ok (.getfield 99, 3) := by decide +kernel
theorem d_Mo_signal_96 : decode m_Mo_signal.2.1 96 = .ok (.iload_n 1, 1) := by decide +kernel
theorem d_Mo_signal_97 : decode m_Mo_signal.2.1 97 = .ok (.iaload, 1) := by decide +kernel
theorem k_Mo_signal_136 : jl_cv m_Mo_signal m_Mo_above 136 2 = true := by decide +kernel
theorem d_Mo_signal_98 : decode m_Mo_signal.2.1 98 = .ok (.invokevirtual 136, 3) := by decide +kernel
theorem d_Mo_signal_101 : decode m_Mo_signal.2.1 101 = .ok (.ifCond .ne 6, 3) := by decide +kernel
theorem d_Mo_signal_119 : decode m_Mo_signal.2.1 119 = .ok (.aload_n 0, 1) := by decide +kernel
theorem d_Mo_signal_120 : decode m_Mo_signal.2.1 120 = .ok (.iconst 1, 1) := by decide +kernel
theorem d_Mo_signal_121 : decode m_Mo_signal.2.1 121 = .ok (.iload_n 1, 1) := by decide +kernel
theorem k_Mo_signal_236 : jl_cv m_Mo_signal m_Mo_put 236 2 = true := by decide +kernel
theorem d_Mo_signal_122 : decode m_Mo_signal.2.1 122 = .ok (.invokevirtual 236, 3) := by decide +kernel
theorem d_Mo_signal_104 : decode m_Mo_signal.2.1 104 = .ok (.goto 35, 3) := by decide +kernel
theorem mo_sig_t (hl : l.stackTraces = false) {P : jl_O → jl_S → Prop}  (hn : NB σ0 σ (N) t m (p) (h) (R) (V) (fs) (H) fa vf wh wy hg ov oh dn an) (hw : MoW σ tb pr ow ft hs) (hu : MoM σ u1 u2 ur ul uo ua uc us ut uk) (ht : t < 12) (hm24 : m < 24) (hp24 : p < 24) (hct : ctM (D m) uc us ut uk m) (hnc : uc m ≤ 2) (hcf : ∀ i, i < 2 → us (2 * m + i) < 1024 ∧ ut (2 * m + i) < 24 ∧ uk (2 * m + i) < 7) (hq : q < H.n) (hn40 : H.n ≤ 40) (hso : H.so q = some k) (hk6 : k < 6) (hd : dsc pr) : ∀ (nn : Nat) (i : Nat), uc m - i < nn → i ≤ uc m → (cti pr (D m) p (some (10 + k)) (uc m - i) i = none → jl_E l G m_Mo_signal (0, 0) 145 [some (.ref 22), some (.int (nI q)), none, none, none, none] [] σ P) → (∀ k' σ', cti pr (D m) p (some (10 + k)) (uc m - i) i = some k' → dkd (D m) k' = 6 → NB σ0 σ' (0) t m (dtg (D m) k') (0) (va_up R 6 (some 0)) (V) (fs) (H) fa vf wh wy hg ov oh dn an → P (.inl none) σ') → (∀ k' σ', cti pr (D m) p (some (10 + k)) (uc m - i) i = some k' → dkd (D m) k' ≠ 6 → NB σ0 σ' (1) t m (dtg (D m) k') (1) (psh R 0 (some (10 + k))) (va_up V 7 (nI q)) (fs) (H) fa vf wh wy hg ov oh dn an → P (.inl none) σ') → jl_E l G m_Mo_signal (0, 0) 26 [some (.ref 22), some (.int (nI q)), some (.int (nI t)), some (.int (nI m)), some (.int (nI (2 * m + i))), none] [] σ P := by
  obtain ⟨fx, fp, fh, lw, lk, vl, vk, ks, kc, kv, lo, sk, hO, f1, f2, f3, f4, f5, f6, f7, hH, hB, hy1, hR1, hF⟩ := id hn
  obtain ⟨k1, k2, k3⟩ := id hH
  obtain ⟨⟨r1, r2⟩, hlo, hsk⟩ := id hR1
  obtain ⟨⟨hfx, hfp, hlc, hst⟩, hfh, hfs, hln⟩ := id hy1
  have hfx : fx t = m := hfx
  have hfp : fp t = p := hfp
  have hlc : ∀ k, k < 6 → lk (6 * t + k) = kdI (R k) ∧ (R k ≠ none → lw (6 * t + k) = V k) := hlc
  have hst : ∀ j, j < _ → vk (5 * t + j) = kdI (R (7 + j)) ∧ vl (5 * t + j) = V (7 + j) := hst
  obtain ⟨h23, h24, h25, h26, h27⟩ := id hw
  obtain ⟨h28, h29, h30, h31, h32, h33, h34, h35, h36, h37⟩ := id hu
  intro nn
  induction nn with
  | zero => intro i hnn; exact absurd hnn (Nat.not_lt_zero _)
  | succ nn ihn =>
    intro i hnn hi hN h1 h2
    refine er_iload d_Mo_signal_26 rfl ?_
    refine er_iconst ((nI (2))) d_Mo_signal_28 (by decide) ?_
    refine er_iload_n d_Mo_signal_29 rfl ?_
    refine er_imulN d_Mo_signal_30 ?_
    refine er_aload_n d_Mo_signal_31 rfl ?_
    refine er_getf d_Mo_signal_32 f_Mo_signal_44 hO rfl ?_
    refine er_iload_n d_Mo_signal_35 rfl ?_
    refine er_ialdN d_Mo_signal_36 h34 (by omega) (by omega) ?_
    refine er_iaddN d_Mo_signal_37 ?_
    refine er_icmp_geN 145 d_Mo_signal_38 (by decide) (by omega) (by omega) (fun c1 => ?_) (fun c1 => ?_)
    · exact er_weak (ls' := [some (.ref 22), some (.int (nI q)), none, none, none, none]) (fun q v hv => by match q, hv with | 0, hv => exact hv | 1, hv => exact hv | 2, hv => cases hv | 3, hv => cases hv | 4, hv => cases hv | 5, hv => cases hv | q + 6, hv => cases hv) (hN (by rw [show uc m - i = 0 by omega]; rfl))
    · have hcfi := hcf i (by omega)
      refine er_aload_n d_Mo_signal_41 rfl ?_
      refine er_getf d_Mo_signal_42 f_Mo_signal_53 hO rfl ?_
      refine er_iload d_Mo_signal_45 rfl ?_
      refine er_ialdN d_Mo_signal_47 h37 (by omega) (by omega) ?_
      refine er_bipush ((nI (6))) d_Mo_signal_48 (by decide) ?_
      refine er_icmp_neN 57 d_Mo_signal_50 (by decide) (by omega) (by omega) (fun c2 => ?_) (fun c2 => ?_)
      · refine er_iconst ((nI (0))) d_Mo_signal_57 (by decide) ?_
        refine er_istore d_Mo_signal_58 (by decide) ?_
        show jl_E l G m_Mo_signal (0, 0) 60 [some (.ref 22), some (.int (nI q)), some (.int (nI t)), some (.int (nI m)), some (.int (nI (2 * m + i))), some (.int (nI 0))] [] (σ) P
        refine er_aload_n d_Mo_signal_60 rfl ?_
        refine er_iload d_Mo_signal_61 rfl ?_
        refine er_aload_n d_Mo_signal_63 rfl ?_
        refine er_getf d_Mo_signal_64 f_Mo_signal_81 hO rfl ?_
        refine er_iload_n d_Mo_signal_67 rfl ?_
        refine er_ialdQ (v := (nI (p))) d_Mo_signal_68 f2 (by omega) (by omega) (congrArg nI hfp) ?_
        refine er_callV (As := [.int (nI (2 * m + i)), .int (nI p)]) d_Mo_signal_69 k_Mo_signal_145 hO rfl rfl rfl (Nat.le_of_ble_eq_true rfl) (by decide) (by decide) (mo_around hl hO hw hu (by omega) (by omega) (hcf i (by omega)).1) ?_
        show jl_E l G m_Mo_signal (0, 0) 72 [some (.ref 22), some (.int (nI q)), some (.int (nI t)), some (.int (nI m)), some (.int (nI (2 * m + i))), some (.int (nI 0))] [.int (bi (aroU us (2 * m + i) p))] (σ) P
        refine er_if_eq 139 d_Mo_signal_72 (by decide) (fun c3 => ?_) (fun c3 => ?_)
        · refine er_iinc ((nI (2 * m + i + 1))) d_Mo_signal_139 (by decide) rfl (jl_inc _) ?_
          show jl_E l G m_Mo_signal (0, 0) 142 [some (.ref 22), some (.int (nI q)), some (.int (nI t)), some (.int (nI m)), some (.int (nI (2 * m + i + 1))), some (.int (nI 0))] [] (σ) P
          refine er_goto 26 d_Mo_signal_142 (by decide) ?_
          exact er_weak (ls' := [some (.ref 22), some (.int (nI q)), some (.int (nI t)), some (.int (nI m)), some (.int (nI (2 * m + i + 1))), none]) (fun q v hv => by match q, hv with | 0, hv => exact hv | 1, hv => exact hv | 2, hv => exact hv | 3, hv => exact hv | 4, hv => exact hv | 5, hv => cases hv | q + 6, hv => cases hv) (ihn (i + 1) (by omega) (by omega) (fun z => hN ((show cti pr (D m) p (some (10 + k)) (uc m - i) i = cti pr (D m) p (some (10 + k)) (uc m - (i + 1)) (i + 1) from (by rw [show uc m - i = (uc m - (i + 1)) + 1 by omega, cti, if_neg (by simp [aroU_e hct (show i < 2 by omega), (hct.2 i (by omega)).2.2.2, cty, bi_0.mp c3, c1, c2, c3])])).trans z)) (fun k' σ' z => h1 k' σ' ((show cti pr (D m) p (some (10 + k)) (uc m - i) i = cti pr (D m) p (some (10 + k)) (uc m - (i + 1)) (i + 1) from (by rw [show uc m - i = (uc m - (i + 1)) + 1 by omega, cti, if_neg (by simp [aroU_e hct (show i < 2 by omega), (hct.2 i (by omega)).2.2.2, cty, bi_0.mp c3, c1, c2, c3])])).trans z)) (fun k' σ' z => h2 k' σ' ((show cti pr (D m) p (some (10 + k)) (uc m - i) i = cti pr (D m) p (some (10 + k)) (uc m - (i + 1)) (i + 1) from (by rw [show uc m - i = (uc m - (i + 1)) + 1 by omega, cti, if_neg (by simp [aroU_e hct (show i < 2 by omega), (hct.2 i (by omega)).2.2.2, cty, bi_0.mp c3, c1, c2, c3])])).trans z)))
        · refine er_iload d_Mo_signal_75 rfl ?_
          refine er_if_ne 107 d_Mo_signal_77 (by decide) (fun z => absurd rfl z) (fun _ => ?_)
          refine er_iload_n d_Mo_signal_80 rfl ?_
          refine er_if_lt 139 d_Mo_signal_81 (by decide) (fun z => absurd z (nI_pos (by omega))) (fun _ => ?_)
          refine er_aload_n d_Mo_signal_84 rfl ?_
          refine er_aload_n d_Mo_signal_85 rfl ?_
          refine er_getf d_Mo_signal_86 f_Mo_signal_53 hO rfl ?_
          refine er_iload d_Mo_signal_89 rfl ?_
          refine er_ialdN d_Mo_signal_91 h37 (by omega) (by omega) ?_
          refine er_aload_n d_Mo_signal_92 rfl ?_
          refine er_getf d_Mo_signal_93 f_Mo_signal_99 hO rfl ?_
          refine er_iload_n d_Mo_signal_96 rfl ?_
          refine er_ialdQ (v := (nI (k))) d_Mo_signal_97 k1 (by omega) (by omega) ((hB q hq).1.trans (congrArg soI hso)) ?_
          refine er_callV (As := [.int (nI (uk (2 * m + i))), .int (nI k)]) d_Mo_signal_98 k_Mo_signal_136 hO rfl rfl rfl (Nat.le_of_ble_eq_true rfl) (by decide) (by decide) (mo_above (h := uk (2 * m + i)) (x := some k) hl hO hw (by omega) hd (ob_s hk6)) ?_
          show jl_E l G m_Mo_signal (0, 0) 101 [some (.ref 22), some (.int (nI q)), some (.int (nI t)), some (.int (nI m)), some (.int (nI (2 * m + i))), some (.int (nI 0))] [.int (bi (ab pr (uk (2 * m + i)) (some k)))] (σ) P
          refine er_if_ne 107 d_Mo_signal_101 (by decide) (fun c4 => ?_) (fun c4 => ?_)
          · refine er_aload_n d_Mo_signal_107 rfl ?_
            refine er_getf d_Mo_signal_108 f_Mo_signal_84 hO rfl ?_
            refine er_iload_n d_Mo_signal_111 rfl ?_
            refine er_iconst ((nI (0))) d_Mo_signal_112 (by decide) ?_
            refine er_iastN d_Mo_signal_113 f3 (by omega) (by omega) ?_
            rw [show upd (fun j => nI (fh j)) (t) ((nI (0))) = (fun j => nI ((va_up fh (t) (0)) j)) from nI_up fh (t) (0)]
            show jl_E l G m_Mo_signal (0, 0) 114 [some (.ref 22), some (.int (nI q)), some (.int (nI t)), some (.int (nI m)), some (.int (nI (2 * m + i))), some (.int (nI 0))] [] (σ.set (45) (.inl (0, 13, .inl (fun j => nI ((va_up fh (t) (0)) j))))) P
            refine er_iload d_Mo_signal_114 rfl ?_
            refine er_if_ne 125 d_Mo_signal_116 (by decide) (fun z => absurd rfl z) (fun _ => ?_)
            refine er_aload_n d_Mo_signal_119 rfl ?_
            refine er_iconst ((nI (1))) d_Mo_signal_120 (by decide) ?_
            refine er_iload_n d_Mo_signal_121 rfl ?_
            refine er_callV (As := [.int (nI 1), .int (nI q)]) d_Mo_signal_122 k_Mo_signal_236 (jl_sn (by decide) hO) rfl rfl rfl (Nat.le_of_ble_eq_true rfl) (by decide) (by decide) (mo_mput (h := 0) (a := nI 1) (b := nI q) hl (jl_sn (by decide) hO) (jl_ss f3) (jl_sn (by decide) f6) (jl_sn (by decide) f7) ht (va_up_self _ _ _) (by decide)) ?_
            show jl_E l G m_Mo_signal (0, 0) 125 [some (.ref 22), some (.int (nI q)), some (.int (nI t)), some (.int (nI m)), some (.int (nI (2 * m + i))), some (.int (nI 0))] [] ((((σ.set (45) (.inl (0, 13, .inl (fun j => nI ((va_up fh (t) (0)) j))))).set (49) (.inl (0, 65, .inl (upd vk (5 * t + 0) (nI 1))))).set (48) (.inl (0, 65, .inl (upd vl (5 * t + 0) (nI q))))).set (45) (.inl (0, 13, .inl (fun j => nI ((va_up (va_up fh t 0) t (0 + 1)) j))))) P
            refine er_aload_n d_Mo_signal_125 rfl ?_
            refine er_getf d_Mo_signal_126 f_Mo_signal_81 (jl_sn (by decide) (jl_sn (by decide) (jl_sn (by decide) (jl_sn (by decide) hO)))) rfl ?_
            refine er_iload_n d_Mo_signal_129 rfl ?_
            refine er_aload_n d_Mo_signal_130 rfl ?_
            refine er_getf d_Mo_signal_131 f_Mo_signal_50 (jl_sn (by decide) (jl_sn (by decide) (jl_sn (by decide) (jl_sn (by decide) hO)))) rfl ?_
            refine er_iload d_Mo_signal_134 rfl ?_
            refine er_ialdN d_Mo_signal_136 (jl_sn (by decide) (jl_sn (by decide) (jl_sn (by decide) (jl_sn (by decide) h36)))) (by omega) (by omega) ?_
            refine er_iastN d_Mo_signal_137 (jl_sn (by decide) (jl_sn (by decide) (jl_sn (by decide) (jl_sn (by decide) f2)))) (by omega) (by omega) ?_
            rw [show upd (fun j => nI (fp j)) (t) ((nI (ut (2 * m + i)))) = (fun j => nI ((va_up fp (t) (ut (2 * m + i))) j)) from nI_up fp (t) (ut (2 * m + i))]
            show jl_E l G m_Mo_signal (0, 0) 138 [some (.ref 22), some (.int (nI q)), some (.int (nI t)), some (.int (nI m)), some (.int (nI (2 * m + i))), some (.int (nI 0))] [] (((((σ.set (45) (.inl (0, 13, .inl (fun j => nI ((va_up fh (t) (0)) j))))).set (49) (.inl (0, 65, .inl (upd vk (5 * t + 0) (nI 1))))).set (48) (.inl (0, 65, .inl (upd vl (5 * t + 0) (nI q))))).set (45) (.inl (0, 13, .inl (fun j => nI ((va_up (va_up fh t 0) t (0 + 1)) j))))).set (44) (.inl (0, 13, .inl (fun j => nI ((va_up fp (t) (ut (2 * m + i))) j))))) P
            exact er_vret d_Mo_signal_138 rfl (h2 i _ (by rw [show uc m - i = (uc m - (i + 1)) + 1 by omega, cti, if_pos (by simp [aroU_e hct (show i < 2 by omega), (hct.2 i (by omega)).2.2.2, cty, bi_nf c3, bi_nf c4, c1, c2, c3, c4])]) (fun z => absurd ((hct.2 i (by omega)).2.2.2.symm.trans z) (by omega)) (by rw [(hct.2 i (by omega)).2.2.1]; exact ⟨_, _, _, _, _, _, _, _, _, _, _, _, (jl_sn (by decide) (jl_sn (by decide) (jl_sn (by decide) (jl_sn (by decide) (jl_sn (by decide) hO))))), (jl_sn (by decide) (jl_sn (by decide) (jl_sn (by decide) (jl_sn (by decide) (jl_sn (by decide) f1))))), (jl_ss (jl_sn (by decide) (jl_sn (by decide) (jl_sn (by decide) (jl_sn (by decide) f2))))), (jl_sn (by decide) (jl_ss (jl_sn (by decide) (jl_sn (by decide) (jl_ss f3))))), (jl_sn (by decide) (jl_sn (by decide) (jl_sn (by decide) (jl_sn (by decide) (jl_sn (by decide) f4))))), (jl_sn (by decide) (jl_sn (by decide) (jl_sn (by decide) (jl_sn (by decide) (jl_sn (by decide) f5))))), (jl_sn (by decide) (jl_sn (by decide) (jl_ss (jl_sn (by decide) (jl_sn (by decide) f6))))), (jl_sn (by decide) (jl_sn (by decide) (jl_sn (by decide) (jl_ss (jl_sn (by decide) f7))))), ⟨(jl_sn (by decide) (jl_sn (by decide) (jl_sn (by decide) (jl_sn (by decide) (jl_sn (by decide) k1))))), (jl_sn (by decide) (jl_sn (by decide) (jl_sn (by decide) (jl_sn (by decide) (jl_sn (by decide) k2))))), (jl_sn (by decide) (jl_sn (by decide) (jl_sn (by decide) (jl_sn (by decide) (jl_sn (by decide) k3)))))⟩, hB, (((hy1.hg (N' := 0)).putA (y := (some (10 + k))) (v := (nI q)) (Nat.zero_le _) (kd_o (by omega)))).pc, ⟨⟨(jl_sn (by decide) (jl_sn (by decide) (jl_sn (by decide) (jl_sn (by decide) (jl_sn (by decide) r1))))), (jl_sn (by decide) (jl_sn (by decide) (jl_sn (by decide) (jl_sn (by decide) (jl_sn (by decide) r2)))))⟩, hlo, hsk⟩, (((((hF.set (by omega)).set (by omega)).set (by omega)).set (by omega)).set (by omega))⟩)) (by decide) (by decide)
          · refine er_goto 139 d_Mo_signal_104 (by decide) ?_
            refine er_iinc ((nI (2 * m + i + 1))) d_Mo_signal_139 (by decide) rfl (jl_inc _) ?_
            show jl_E l G m_Mo_signal (0, 0) 142 [some (.ref 22), some (.int (nI q)), some (.int (nI t)), some (.int (nI m)), some (.int (nI (2 * m + i + 1))), some (.int (nI 0))] [] (σ) P
            refine er_goto 26 d_Mo_signal_142 (by decide) ?_
            exact er_weak (ls' := [some (.ref 22), some (.int (nI q)), some (.int (nI t)), some (.int (nI m)), some (.int (nI (2 * m + i + 1))), none]) (fun q v hv => by match q, hv with | 0, hv => exact hv | 1, hv => exact hv | 2, hv => exact hv | 3, hv => exact hv | 4, hv => exact hv | 5, hv => cases hv | q + 6, hv => cases hv) (ihn (i + 1) (by omega) (by omega) (fun z => hN ((show cti pr (D m) p (some (10 + k)) (uc m - i) i = cti pr (D m) p (some (10 + k)) (uc m - (i + 1)) (i + 1) from (by rw [show uc m - i = (uc m - (i + 1)) + 1 by omega, cti, if_neg (by simp [aroU_e hct (show i < 2 by omega), (hct.2 i (by omega)).2.2.2, cty, bi_nf c3, bi_0.mp c4, c1, c2, c3, c4])])).trans z)) (fun k' σ' z => h1 k' σ' ((show cti pr (D m) p (some (10 + k)) (uc m - i) i = cti pr (D m) p (some (10 + k)) (uc m - (i + 1)) (i + 1) from (by rw [show uc m - i = (uc m - (i + 1)) + 1 by omega, cti, if_neg (by simp [aroU_e hct (show i < 2 by omega), (hct.2 i (by omega)).2.2.2, cty, bi_nf c3, bi_0.mp c4, c1, c2, c3, c4])])).trans z)) (fun k' σ' z => h2 k' σ' ((show cti pr (D m) p (some (10 + k)) (uc m - i) i = cti pr (D m) p (some (10 + k)) (uc m - (i + 1)) (i + 1) from (by rw [show uc m - i = (uc m - (i + 1)) + 1 by omega, cti, if_neg (by simp [aroU_e hct (show i < 2 by omega), (hct.2 i (by omega)).2.2.2, cty, bi_nf c3, bi_0.mp c4, c1, c2, c3, c4])])).trans z)))
      · refine er_iconst ((nI (1))) d_Mo_signal_53 (by decide) ?_
        refine er_goto 58 d_Mo_signal_54 (by decide) ?_
        refine er_istore d_Mo_signal_58 (by decide) ?_
        show jl_E l G m_Mo_signal (0, 0) 60 [some (.ref 22), some (.int (nI q)), some (.int (nI t)), some (.int (nI m)), some (.int (nI (2 * m + i))), some (.int (nI 1))] [] (σ) P
        refine er_aload_n d_Mo_signal_60 rfl ?_
        refine er_iload d_Mo_signal_61 rfl ?_
        refine er_aload_n d_Mo_signal_63 rfl ?_
        refine er_getf d_Mo_signal_64 f_Mo_signal_81 hO rfl ?_
        refine er_iload_n d_Mo_signal_67 rfl ?_
        refine er_ialdQ (v := (nI (p))) d_Mo_signal_68 f2 (by omega) (by omega) (congrArg nI hfp) ?_
        refine er_callV (As := [.int (nI (2 * m + i)), .int (nI p)]) d_Mo_signal_69 k_Mo_signal_145 hO rfl rfl rfl (Nat.le_of_ble_eq_true rfl) (by decide) (by decide) (mo_around hl hO hw hu (by omega) (by omega) (hcf i (by omega)).1) ?_
        show jl_E l G m_Mo_signal (0, 0) 72 [some (.ref 22), some (.int (nI q)), some (.int (nI t)), some (.int (nI m)), some (.int (nI (2 * m + i))), some (.int (nI 1))] [.int (bi (aroU us (2 * m + i) p))] (σ) P
        refine er_if_eq 139 d_Mo_signal_72 (by decide) (fun c5 => ?_) (fun c5 => ?_)
        · refine er_iinc ((nI (2 * m + i + 1))) d_Mo_signal_139 (by decide) rfl (jl_inc _) ?_
          show jl_E l G m_Mo_signal (0, 0) 142 [some (.ref 22), some (.int (nI q)), some (.int (nI t)), some (.int (nI m)), some (.int (nI (2 * m + i + 1))), some (.int (nI 1))] [] (σ) P
          refine er_goto 26 d_Mo_signal_142 (by decide) ?_
          exact er_weak (ls' := [some (.ref 22), some (.int (nI q)), some (.int (nI t)), some (.int (nI m)), some (.int (nI (2 * m + i + 1))), none]) (fun q v hv => by match q, hv with | 0, hv => exact hv | 1, hv => exact hv | 2, hv => exact hv | 3, hv => exact hv | 4, hv => exact hv | 5, hv => cases hv | q + 6, hv => cases hv) (ihn (i + 1) (by omega) (by omega) (fun z => hN ((show cti pr (D m) p (some (10 + k)) (uc m - i) i = cti pr (D m) p (some (10 + k)) (uc m - (i + 1)) (i + 1) from (by rw [show uc m - i = (uc m - (i + 1)) + 1 by omega, cti, if_neg (by simp [aroU_e hct (show i < 2 by omega), (hct.2 i (by omega)).2.2.2, cty, bi_0.mp c5, c1, c2, c5])])).trans z)) (fun k' σ' z => h1 k' σ' ((show cti pr (D m) p (some (10 + k)) (uc m - i) i = cti pr (D m) p (some (10 + k)) (uc m - (i + 1)) (i + 1) from (by rw [show uc m - i = (uc m - (i + 1)) + 1 by omega, cti, if_neg (by simp [aroU_e hct (show i < 2 by omega), (hct.2 i (by omega)).2.2.2, cty, bi_0.mp c5, c1, c2, c5])])).trans z)) (fun k' σ' z => h2 k' σ' ((show cti pr (D m) p (some (10 + k)) (uc m - i) i = cti pr (D m) p (some (10 + k)) (uc m - (i + 1)) (i + 1) from (by rw [show uc m - i = (uc m - (i + 1)) + 1 by omega, cti, if_neg (by simp [aroU_e hct (show i < 2 by omega), (hct.2 i (by omega)).2.2.2, cty, bi_0.mp c5, c1, c2, c5])])).trans z)))
        · refine er_iload d_Mo_signal_75 rfl ?_
          refine er_if_ne 107 d_Mo_signal_77 (by decide) (fun _ => ?_) (fun z => absurd z (by decide))
          refine er_aload_n d_Mo_signal_107 rfl ?_
          refine er_getf d_Mo_signal_108 f_Mo_signal_84 hO rfl ?_
          refine er_iload_n d_Mo_signal_111 rfl ?_
          refine er_iconst ((nI (0))) d_Mo_signal_112 (by decide) ?_
          refine er_iastN d_Mo_signal_113 f3 (by omega) (by omega) ?_
          rw [show upd (fun j => nI (fh j)) (t) ((nI (0))) = (fun j => nI ((va_up fh (t) (0)) j)) from nI_up fh (t) (0)]
          show jl_E l G m_Mo_signal (0, 0) 114 [some (.ref 22), some (.int (nI q)), some (.int (nI t)), some (.int (nI m)), some (.int (nI (2 * m + i))), some (.int (nI 1))] [] (σ.set (45) (.inl (0, 13, .inl (fun j => nI ((va_up fh (t) (0)) j))))) P
          refine er_iload d_Mo_signal_114 rfl ?_
          refine er_if_ne 125 d_Mo_signal_116 (by decide) (fun _ => ?_) (fun z => absurd z (by decide))
          refine er_aload_n d_Mo_signal_125 rfl ?_
          refine er_getf d_Mo_signal_126 f_Mo_signal_81 (jl_sn (by decide) hO) rfl ?_
          refine er_iload_n d_Mo_signal_129 rfl ?_
          refine er_aload_n d_Mo_signal_130 rfl ?_
          refine er_getf d_Mo_signal_131 f_Mo_signal_50 (jl_sn (by decide) hO) rfl ?_
          refine er_iload d_Mo_signal_134 rfl ?_
          refine er_ialdN d_Mo_signal_136 (jl_sn (by decide) h36) (by omega) (by omega) ?_
          refine er_iastN d_Mo_signal_137 (jl_sn (by decide) f2) (by omega) (by omega) ?_
          rw [show upd (fun j => nI (fp j)) (t) ((nI (ut (2 * m + i)))) = (fun j => nI ((va_up fp (t) (ut (2 * m + i))) j)) from nI_up fp (t) (ut (2 * m + i))]
          show jl_E l G m_Mo_signal (0, 0) 138 [some (.ref 22), some (.int (nI q)), some (.int (nI t)), some (.int (nI m)), some (.int (nI (2 * m + i))), some (.int (nI 1))] [] ((σ.set (45) (.inl (0, 13, .inl (fun j => nI ((va_up fh (t) (0)) j))))).set (44) (.inl (0, 13, .inl (fun j => nI ((va_up fp (t) (ut (2 * m + i))) j))))) P
          exact er_vret d_Mo_signal_138 rfl (h1 i _ (by rw [show uc m - i = (uc m - (i + 1)) + 1 by omega, cti, if_pos (by simp [aroU_e hct (show i < 2 by omega), (hct.2 i (by omega)).2.2.2, cty, bi_nf c5, c1, c2, c5])]) ((hct.2 i (by omega)).2.2.2.trans (by omega)) (by rw [(hct.2 i (by omega)).2.2.1]; exact ⟨_, _, _, _, _, _, _, _, _, _, _, _, (jl_sn (by decide) (jl_sn (by decide) hO)), (jl_sn (by decide) (jl_sn (by decide) f1)), (jl_ss (jl_sn (by decide) f2)), (jl_sn (by decide) (jl_ss f3)), (jl_sn (by decide) (jl_sn (by decide) f4)), (jl_sn (by decide) (jl_sn (by decide) f5)), (jl_sn (by decide) (jl_sn (by decide) f6)), (jl_sn (by decide) (jl_sn (by decide) f7)), ⟨(jl_sn (by decide) (jl_sn (by decide) k1)), (jl_sn (by decide) (jl_sn (by decide) k2)), (jl_sn (by decide) (jl_sn (by decide) k3))⟩, hB, (((hy1.hg (N' := 0)).six (y := some 0)).le (Nat.zero_le _)).pc, ⟨⟨(jl_sn (by decide) (jl_sn (by decide) r1)), (jl_sn (by decide) (jl_sn (by decide) r2))⟩, hlo, hsk⟩, ((hF.set (by omega)).set (by omega))⟩)) (by decide) (by decide)
/-- the model's machine with METHODS F under way -/
def NQ (σ0 σ : jl_S) (F : List Fm) (H : Hp) (fa vf wh wy hg ov oh dn an : Int32) : Prop :=
  ∃ fx fp fh lw lk vl vk ks kc kv lo sk, MoO σ fa vf wh wy hg (nI F.length) (nI H.n) ov oh dn an ∧ σ[43]? = some (.inl (0, 13, .inl fun j => nI (fx j))) ∧ σ[44]? = some (.inl (0, 13, .inl fun j => nI (fp j))) ∧ σ[45]? = some (.inl (0, 13, .inl fun j => nI (fh j))) ∧ σ[46]? = some (.inl (0, 78, .inl lw)) ∧ σ[47]? = some (.inl (0, 78, .inl lk)) ∧ σ[48]? = some (.inl (0, 65, .inl vl)) ∧ σ[49]? = some (.inl (0, 65, .inl vk)) ∧ MoH σ ks kc kv ∧ HpB H ks kc kv ∧ FsB fx fp fh lw lk vl vk F ∧ (MoR σ lo sk ∧ (∀ j, ob 16 (lo j)) ∧ ∀ j, ob 16 (sk j)) ∧ FrN σ0 σ
theorem NQ.top {g : Fm} {gs : List Fm} (h : NQ σ0 σ (g :: gs) H fa vf wh wy hg ov oh dn an) : NB σ0 σ (hgt g.R) gs.length g.m g.p (hgt g.R) g.R g.V gs H fa vf wh wy hg ov oh dn an := by
  obtain ⟨fx, fp, fh, lw, lk, vl, vk, ks, kc, kv, lo, sk, hO, f1, f2, f3, f4, f5, f6, f7, hH, hB, hy1, hR1, hF⟩ := h
  exact ⟨fx, fp, fh, lw, lk, vl, vk, ks, kc, kv, lo, sk, hO, f1, f2, f3, f4, f5, f6, f7, hH, hB, ⟨hy1.1, hy1.2.1, hy1.2.2.2, rfl⟩, hR1, hF⟩
theorem NB.le {N2 : Nat} (h : NB σ0 σ N t m p b R V fs H fa vf wh wy hg ov oh dn an) (hN : N2 ≤ N) : NB σ0 σ N2 t m p b R V fs H fa vf wh wy hg ov oh dn an := by
  obtain ⟨fx, fp, fh, lw, lk, vl, vk, ks, kc, kv, lo, sk, hO, f1, f2, f3, f4, f5, f6, f7, hH, hB, hy1, hR1, hF⟩ := h
  exact ⟨fx, fp, fh, lw, lk, vl, vk, ks, kc, kv, lo, sk, hO, f1, f2, f3, f4, f5, f6, f7, hH, hB, hy1.le hN, hR1, hF⟩
theorem MoW.fn {σ1 : jl_S} (h : MoW σ0 tb pr ow ft hs) (hf : FrN σ0 σ1) : MoW σ1 tb pr ow ft hs := by
  obtain ⟨a, b, c, d, e⟩ := h
  have f : ∀ {i : Nat} {c : jl_C}, i ≠ 22 → (i < 40 ∨ i = 42 ∨ 52 < i) → σ0[i]? = some c → σ1[i]? = some c := fun h1 h2 e => (hf.2 _ h1 h2).trans e
  exact ⟨f (by omega) (by omega) a, f (by omega) (by omega) b, f (by omega) (by omega) c, f (by omega) (by omega) d, f (by omega) (by omega) e⟩
theorem MoM.fn {σ1 : jl_S} (h : MoM σ0 u1 u2 ur ul uo ua uc us ut uk) (hf : FrN σ0 σ1) : MoM σ1 u1 u2 ur ul uo ua uc us ut uk := by
  obtain ⟨a1, a2, a3, a4, a5, a6, a7, a8, a9, a10⟩ := h
  have f : ∀ {i : Nat} {c : jl_C}, i ≠ 22 → (i < 40 ∨ i = 42 ∨ 52 < i) → σ0[i]? = some c → σ1[i]? = some c := fun h1 h2 e => (hf.2 _ h1 h2).trans e
  exact ⟨f (by omega) (by omega) a1, f (by omega) (by omega) a2, f (by omega) (by omega) a3, f (by omega) (by omega) a4, f (by omega) (by omega) a5, f (by omega) (by omega) a6, f (by omega) (by omega) a7, f (by omega) (by omega) a8, f (by omega) (by omega) a9, f (by omega) (by omega) a10⟩
theorem d_Mo_signal_145 : decode m_Mo_signal.2.1 145 = .ok (.aload_n 0, 1) := by decide +kernel
theorem d_Mo_signal_146 : decode m_Mo_signal.2.1 146 = .ok (.dup, 1) := by decide +kernel
theorem f_Mo_signal_224 : jl_fd m_Mo_signal 224 7 32 = true := by decide +kernel
theorem d_Mo_signal_147 : decode m_Mo_signal.2.1 147 = .ok (.getfield 224, 3) := by decide +kernel
theorem d_Mo_signal_150 : decode m_Mo_signal.2.1 150 = .ok (.iconst 1, 1) := by decide +kernel
theorem d_Mo_signal_151 : decode m_Mo_signal.2.1 151 = .ok (.isub, 1) := by decide +kernel
theorem p_Mo_signal_224 : jl_fp m_Mo_signal 224 7 32 = true := by decide +kernel
theorem d_Mo_signal_152 : decode m_Mo_signal.2.1 152 = .ok (.putfield 224, 3) := by decide +kernel
theorem d_Mo_signal_155 : decode m_Mo_signal.2.1 155 = .ok (.goto (-155), 3) := by decide +kernel
theorem mo_sig_dn (hl : l.stackTraces = false) {P : jl_O → jl_S → Prop}  (hn : NB σ0 σ (N) t m (p) (h) (R) (V) (fs) (H) fa vf wh wy hg ov oh dn an) (ht : t < 12) (hB0 : ∀ σ', NQ σ0 σ' fs H fa vf wh wy hg ov oh dn an → jl_E l G m_Mo_signal (0, 0) 0 [some (.ref 22), some (.int wt), none, none, none, none] [] σ' P) : jl_E l G m_Mo_signal (0, 0) 145 [some (.ref 22), some (.int (wt)), none, none, none, none] [] σ P := by
  obtain ⟨fx, fp, fh, lw, lk, vl, vk, ks, kc, kv, lo, sk, hO, f1, f2, f3, f4, f5, f6, f7, hH, hB, hy1, hR1, hF⟩ := id hn
  obtain ⟨k1, k2, k3⟩ := id hH
  obtain ⟨⟨r1, r2⟩, hlo, hsk⟩ := id hR1
  obtain ⟨⟨hfx, hfp, hlc, hst⟩, hfh, hfs, hln⟩ := id hy1
  have hfx : fx t = m := hfx
  have hfp : fp t = p := hfp
  have hlc : ∀ k, k < 6 → lk (6 * t + k) = kdI (R k) ∧ (R k ≠ none → lw (6 * t + k) = V k) := hlc
  have hst : ∀ j, j < _ → vk (5 * t + j) = kdI (R (7 + j)) ∧ vl (5 * t + j) = V (7 + j) := hst
  refine er_aload_n d_Mo_signal_145 rfl ?_
  refine er_dup d_Mo_signal_146 rfl ?_
  refine er_getf d_Mo_signal_147 f_Mo_signal_224 hO rfl ?_
  refine er_iconst ((nI (1))) d_Mo_signal_150 (by decide) ?_
  refine er_isubN d_Mo_signal_151 (by omega) ?_
  rw [show (t + 1) - (1) = t by omega]
  show jl_E l G m_Mo_signal (0, 0) 152 [some (.ref 22), some (.int (wt)), none, none, none, none] [.int (nI t), .ref 22] (σ) P
  refine er_putf d_Mo_signal_152 p_Mo_signal_224 hO (Nat.le_of_ble_eq_true rfl) jl_fit_int ?_
  show jl_E l G m_Mo_signal (0, 0) 155 [some (.ref 22), some (.int (wt)), none, none, none, none] [] (σ.set (22) (.inr (7, [.int (fa), .ref 23, .ref 24, .ref 25, .ref 26, .ref 27, .ref 28, .ref 29, .ref 30, .ref 31, .ref 32, .ref 33, .ref 34, .ref 35, .ref 36, .ref 37, .int (vf), .int (wh), .int (wy), .ref 38, .ref 39, .ref 40, .ref 41, .int (hg), .ref 42, .ref 43, .ref 44, .ref 45, .ref 46, .ref 47, .ref 48, .ref 49, .int (nI t), .ref 50, .ref 51, .ref 52, .int (nI (H.n)), .int (ov), .int (oh), .int (dn), .int (an)]))) P
  refine er_goto 0 d_Mo_signal_155 (by decide) ?_
  exact hB0 _ ⟨_, _, _, _, _, _, _, _, _, _, _, _, (by rw [hln]; exact (jl_ss hO)), (jl_sn (by decide) f1), (jl_sn (by decide) f2), (jl_sn (by decide) f3), (jl_sn (by decide) f4), (jl_sn (by decide) f5), (jl_sn (by decide) f6), (jl_sn (by decide) f7), ⟨(jl_sn (by decide) k1), (jl_sn (by decide) k2), (jl_sn (by decide) k3)⟩, hB, hfs, ⟨⟨(jl_sn (by decide) r1), (jl_sn (by decide) r2)⟩, hlo, hsk⟩, hF.set (by omega)⟩
theorem d_Mo_signal_0 : decode m_Mo_signal.2.1 0 = .ok (.aload_n 0, 1) := by decide +kernel
theorem d_Mo_signal_1 : decode m_Mo_signal.2.1 1 = .ok (.getfield 224, 3) := by decide +kernel
theorem d_Mo_signal_4 : decode m_Mo_signal.2.1 4 = .ok (.ifCond .le 154, 3) := by decide +kernel
theorem d_Mo_signal_7 : decode m_Mo_signal.2.1 7 = .ok (.aload_n 0, 1) := by decide +kernel
theorem d_Mo_signal_8 : decode m_Mo_signal.2.1 8 = .ok (.getfield 224, 3) := by decide +kernel
theorem d_Mo_signal_11 : decode m_Mo_signal.2.1 11 = .ok (.iconst 1, 1) := by decide +kernel
theorem d_Mo_signal_12 : decode m_Mo_signal.2.1 12 = .ok (.isub, 1) := by decide +kernel
theorem d_Mo_signal_13 : decode m_Mo_signal.2.1 13 = .ok (.istore_n 2, 1) := by decide +kernel
theorem d_Mo_signal_14 : decode m_Mo_signal.2.1 14 = .ok (.aload_n 0, 1) := by decide +kernel
theorem f_Mo_signal_78 : jl_fd m_Mo_signal 78 7 25 = true := by decide +kernel
theorem d_Mo_signal_15 : decode m_Mo_signal.2.1 15 = .ok (.getfield 78, 3) := by decide +kernel
theorem d_Mo_signal_18 : decode m_Mo_signal.2.1 18 = .ok (.iload_n 2, 1) := by decide +kernel
theorem d_Mo_signal_19 : decode m_Mo_signal.2.1 19 = .ok (.iaload, 1) := by decide +kernel
theorem d_Mo_signal_20 : decode m_Mo_signal.2.1 20 = .ok (.istore_n 3, 1) := by decide +kernel
theorem d_Mo_signal_21 : decode m_Mo_signal.2.1 21 = .ok (.iconst 2, 1) := by decide +kernel
theorem d_Mo_signal_22 : decode m_Mo_signal.2.1 22 = .ok (.iload_n 3, 1) := by decide +kernel
theorem d_Mo_signal_23 : decode m_Mo_signal.2.1 23 = .ok (.imul, 1) := by decide +kernel
theorem d_Mo_signal_24 : decode m_Mo_signal.2.1 24 = .ok (.istore 4, 2) := by decide +kernel
theorem mo_sig_bs (hl : l.stackTraces = false) {P : jl_O → jl_S → Prop}  (hn : NB σ0 σ (N) t m (p) (h) (R) (V) (fs) (H) fa vf wh wy hg ov oh dn an) (hw : MoW σ tb pr ow ft hs) (hu : MoM σ u1 u2 ur ul uo ua uc us ut uk) (ht : t < 12) (hm24 : m < 24) (hp24 : p < 24) (hct : ctM (D m) uc us ut uk m) (hnc : uc m ≤ 2) (hcf : ∀ i, i < 2 → us (2 * m + i) < 1024 ∧ ut (2 * m + i) < 24 ∧ uk (2 * m + i) < 7) (hwt : wt < 0) (hN : cti pr (D m) p none (uc m - 0) 0 = none → ∀ σ', NQ σ0 σ' fs H fa vf wh wy hg ov oh dn an → jl_E l G m_Mo_signal (0, 0) 0 [some (.ref 22), some (.int (wt)), none, none, none, none] [] σ' P) (h1 : ∀ k' σ', cti pr (D m) p none (uc m - 0) 0 = some k' → dkd (D m) k' = 6 → NB σ0 σ' (0) t m (dtg (D m) k') (0) (va_up R 6 (some 0)) (V) (fs) (H) fa vf wh wy hg ov oh dn an → P (.inl none) σ') (h2 : ∀ k' σ', cti pr (D m) p none (uc m - 0) 0 = some k' → dkd (D m) k' ≠ 6 → NB σ0 σ' (1) t m (dtg (D m) k') (1) (psh R 0 none) (va_up V 7 (-1)) (fs) (H) fa vf wh wy hg ov oh dn an → P (.inl none) σ') : jl_E l G m_Mo_signal (0, 0) 0 [some (.ref 22), some (.int (wt)), none, none, none, none] [] σ P := by
  obtain ⟨fx, fp, fh, lw, lk, vl, vk, ks, kc, kv, lo, sk, hO, f1, f2, f3, f4, f5, f6, f7, hH, hB, hy1, hR1, hF⟩ := id hn
  obtain ⟨k1, k2, k3⟩ := id hH
  obtain ⟨⟨r1, r2⟩, hlo, hsk⟩ := id hR1
  obtain ⟨⟨hfx, hfp, hlc, hst⟩, hfh, hfs, hln⟩ := id hy1
  have hfx : fx t = m := hfx
  have hfp : fp t = p := hfp
  have hlc : ∀ k, k < 6 → lk (6 * t + k) = kdI (R k) ∧ (R k ≠ none → lw (6 * t + k) = V k) := hlc
  have hst : ∀ j, j < _ → vk (5 * t + j) = kdI (R (7 + j)) ∧ vl (5 * t + j) = V (7 + j) := hst
  obtain ⟨h23, h24, h25, h26, h27⟩ := id hw
  obtain ⟨h28, h29, h30, h31, h32, h33, h34, h35, h36, h37⟩ := id hu
  refine er_aload_n d_Mo_signal_0 rfl ?_
  refine er_getf d_Mo_signal_1 f_Mo_signal_224 hO rfl ?_
  refine er_if_le 158 d_Mo_signal_4 (by decide) (fun z => absurd z ((fun z => absurd (show nI (t + 1) ≤ nI 0 from z) (by rw [nI_leI (by omega) (by omega)]; omega)))) (fun _ => ?_)
  refine er_aload_n d_Mo_signal_7 rfl ?_
  refine er_getf d_Mo_signal_8 f_Mo_signal_224 hO rfl ?_
  refine er_iconst ((nI (1))) d_Mo_signal_11 (by decide) ?_
  refine er_isubN d_Mo_signal_12 (by omega) ?_
  rw [show (t + 1) - (1) = t by omega]
  show jl_E l G m_Mo_signal (0, 0) 13 [some (.ref 22), some (.int (wt)), none, none, none, none] [.int (nI t)] (σ) P
  refine er_istore_n d_Mo_signal_13 (by decide) ?_
  show jl_E l G m_Mo_signal (0, 0) 14 [some (.ref 22), some (.int (wt)), some (.int (nI t)), none, none, none] [] (σ) P
  refine er_aload_n d_Mo_signal_14 rfl ?_
  refine er_getf d_Mo_signal_15 f_Mo_signal_78 hO rfl ?_
  refine er_iload_n d_Mo_signal_18 rfl ?_
  refine er_ialdQ (v := (nI (m))) d_Mo_signal_19 f1 (by omega) (by omega) (congrArg nI hfx) ?_
  refine er_istore_n d_Mo_signal_20 (by decide) ?_
  show jl_E l G m_Mo_signal (0, 0) 21 [some (.ref 22), some (.int (wt)), some (.int (nI t)), some (.int (nI m)), none, none] [] (σ) P
  refine er_iconst ((nI (2))) d_Mo_signal_21 (by decide) ?_
  refine er_iload_n d_Mo_signal_22 rfl ?_
  refine er_imulN d_Mo_signal_23 ?_
  refine er_istore d_Mo_signal_24 (by decide) ?_
  show jl_E l G m_Mo_signal (0, 0) 26 [some (.ref 22), some (.int (wt)), some (.int (nI t)), some (.int (nI m)), some (.int (nI ((2) * (m)))), none] [] (σ) P
  refine er_weak (ls' := [some (.ref 22), some (.int (wt)), some (.int (nI t)), some (.int (nI m)), some (.int (nI ((2) * (m)))), none]) (fun q v hv => by match q, hv with | 0, hv => exact hv | 1, hv => exact hv | 2, hv => exact hv | 3, hv => exact hv | 4, hv => exact hv | 5, hv => cases hv | q + 6, hv => cases hv) ?_
  exact mo_sig_s hl hn hw hu ht hm24 hp24 hct hnc hcf hwt (uc m + 1) 0 (by omega) (by omega) (fun z => mo_sig_dn hl hn ht (hN z)) h1 h2
theorem mo_sig_bt (hl : l.stackTraces = false) {P : jl_O → jl_S → Prop}  (hn : NB σ0 σ (N) t m (p) (h) (R) (V) (fs) (H) fa vf wh wy hg ov oh dn an) (hw : MoW σ tb pr ow ft hs) (hu : MoM σ u1 u2 ur ul uo ua uc us ut uk) (ht : t < 12) (hm24 : m < 24) (hp24 : p < 24) (hct : ctM (D m) uc us ut uk m) (hnc : uc m ≤ 2) (hcf : ∀ i, i < 2 → us (2 * m + i) < 1024 ∧ ut (2 * m + i) < 24 ∧ uk (2 * m + i) < 7) (hq : q < H.n) (hn40 : H.n ≤ 40) (hso : H.so q = some k) (hk6 : k < 6) (hd : dsc pr) (hN : cti pr (D m) p (some (10 + k)) (uc m - 0) 0 = none → ∀ σ', NQ σ0 σ' fs H fa vf wh wy hg ov oh dn an → jl_E l G m_Mo_signal (0, 0) 0 [some (.ref 22), some (.int (nI q)), none, none, none, none] [] σ' P) (h1 : ∀ k' σ', cti pr (D m) p (some (10 + k)) (uc m - 0) 0 = some k' → dkd (D m) k' = 6 → NB σ0 σ' (0) t m (dtg (D m) k') (0) (va_up R 6 (some 0)) (V) (fs) (H) fa vf wh wy hg ov oh dn an → P (.inl none) σ') (h2 : ∀ k' σ', cti pr (D m) p (some (10 + k)) (uc m - 0) 0 = some k' → dkd (D m) k' ≠ 6 → NB σ0 σ' (1) t m (dtg (D m) k') (1) (psh R 0 (some (10 + k))) (va_up V 7 (nI q)) (fs) (H) fa vf wh wy hg ov oh dn an → P (.inl none) σ') : jl_E l G m_Mo_signal (0, 0) 0 [some (.ref 22), some (.int (nI q)), none, none, none, none] [] σ P := by
  obtain ⟨fx, fp, fh, lw, lk, vl, vk, ks, kc, kv, lo, sk, hO, f1, f2, f3, f4, f5, f6, f7, hH, hB, hy1, hR1, hF⟩ := id hn
  obtain ⟨k1, k2, k3⟩ := id hH
  obtain ⟨⟨r1, r2⟩, hlo, hsk⟩ := id hR1
  obtain ⟨⟨hfx, hfp, hlc, hst⟩, hfh, hfs, hln⟩ := id hy1
  have hfx : fx t = m := hfx
  have hfp : fp t = p := hfp
  have hlc : ∀ k, k < 6 → lk (6 * t + k) = kdI (R k) ∧ (R k ≠ none → lw (6 * t + k) = V k) := hlc
  have hst : ∀ j, j < _ → vk (5 * t + j) = kdI (R (7 + j)) ∧ vl (5 * t + j) = V (7 + j) := hst
  obtain ⟨h23, h24, h25, h26, h27⟩ := id hw
  obtain ⟨h28, h29, h30, h31, h32, h33, h34, h35, h36, h37⟩ := id hu
  refine er_aload_n d_Mo_signal_0 rfl ?_
  refine er_getf d_Mo_signal_1 f_Mo_signal_224 hO rfl ?_
  refine er_if_le 158 d_Mo_signal_4 (by decide) (fun z => absurd z ((fun z => absurd (show nI (t + 1) ≤ nI 0 from z) (by rw [nI_leI (by omega) (by omega)]; omega)))) (fun _ => ?_)
  refine er_aload_n d_Mo_signal_7 rfl ?_
  refine er_getf d_Mo_signal_8 f_Mo_signal_224 hO rfl ?_
  refine er_iconst ((nI (1))) d_Mo_signal_11 (by decide) ?_
  refine er_isubN d_Mo_signal_12 (by omega) ?_
  rw [show (t + 1) - (1) = t by omega]
  show jl_E l G m_Mo_signal (0, 0) 13 [some (.ref 22), some (.int (nI q)), none, none, none, none] [.int (nI t)] (σ) P
  refine er_istore_n d_Mo_signal_13 (by decide) ?_
  show jl_E l G m_Mo_signal (0, 0) 14 [some (.ref 22), some (.int (nI q)), some (.int (nI t)), none, none, none] [] (σ) P
  refine er_aload_n d_Mo_signal_14 rfl ?_
  refine er_getf d_Mo_signal_15 f_Mo_signal_78 hO rfl ?_
  refine er_iload_n d_Mo_signal_18 rfl ?_
  refine er_ialdQ (v := (nI (m))) d_Mo_signal_19 f1 (by omega) (by omega) (congrArg nI hfx) ?_
  refine er_istore_n d_Mo_signal_20 (by decide) ?_
  show jl_E l G m_Mo_signal (0, 0) 21 [some (.ref 22), some (.int (nI q)), some (.int (nI t)), some (.int (nI m)), none, none] [] (σ) P
  refine er_iconst ((nI (2))) d_Mo_signal_21 (by decide) ?_
  refine er_iload_n d_Mo_signal_22 rfl ?_
  refine er_imulN d_Mo_signal_23 ?_
  refine er_istore d_Mo_signal_24 (by decide) ?_
  show jl_E l G m_Mo_signal (0, 0) 26 [some (.ref 22), some (.int (nI q)), some (.int (nI t)), some (.int (nI m)), some (.int (nI ((2) * (m)))), none] [] (σ) P
  refine er_weak (ls' := [some (.ref 22), some (.int (nI q)), some (.int (nI t)), some (.int (nI m)), some (.int (nI ((2) * (m)))), none]) (fun q v hv => by match q, hv with | 0, hv => exact hv | 1, hv => exact hv | 2, hv => exact hv | 3, hv => exact hv | 4, hv => exact hv | 5, hv => cases hv | q + 6, hv => cases hv) ?_
  exact mo_sig_t hl hn hw hu ht hm24 hp24 hct hnc hcf hq hn40 hso hk6 hd (uc m + 1) 0 (by omega) (by omega) (fun z => mo_sig_dn hl hn ht (hN z)) h1 h2
end JNxf
